/-! WORK: the rows of a day and of a trial. -/
theorem zSb_6 {p L n i : Nat} (hp : p ≤ 6) (h : zSb p L n = true) : ∀ i : Nat, i < L → zdg n i < 6 := fun i hi => Nat.lt_of_lt_of_le (zSb_dg h hi) hp
/-- a town with a day: who may be asked for APART -/
def zTD (h : Nat → Nat → Int) (p : Nat) : Prop := zTB h ∧ (∀ i j : Nat, i < p → j < p → h (12 + i) j ≤ 1500) ∧ zOr h
/-- other cells stay; of the one only its known place changes -/
def zSame (h g : Nat → Nat → Int) (X : Nat → Prop) : Prop := ∀ c : Nat, ¬ X c → g c = h c
theorem zTD_same {h g : Nat → Nat → Int} {p : Nat} (hp6 : p ≤ 6) (hT : zTD h p) (hs : ∀ c : Nat, c < 18 → g c = h c) : zTD g p := by
  obtain ⟨h1, h2, h3⟩ := hT
  refine ⟨fun i j hi hj => ?_, fun i j hi hj => ?_, fun k hk => ?_⟩
  · rw [hs (12 + i) (by omega), hs (5 + i) (by omega)]; exact h1 i j hi hj
  · rw [hs (12 + i) (by omega)]; exact h2 i j hi hj
  · rw [hs 0 (by omega)]; exact h3 k hk
theorem zSI_same {h g : Nat → Nat → Int} {p L : Nat} (hS : zSI h p L) (h1 : g 18 = h 18) (h2 : g 19 = h 19) (h3 : g 20 = h 20) : zSI g p L := by
  unfold zSI
  rw [h1, h2, h3]
  exact hS
theorem zMv_same {h g : Nat → Nat → Int} {L s t : Nat} (hs : ∀ c : Nat, 12 ≤ c → c < 20 → g c = h c) : zMv g L s t = zMv h L s t := by
  unfold zMv
  rw [hs (12 + zdg s 0) (by omega) (by have := zdg_lt s 0; omega), hs (12 + zdg s 1) (by omega) (by have := zdg_lt s 1; omega), hs (12 + zdg s 2) (by omega) (by have := zdg_lt s 2; omega)]
set_option maxRecDepth 100000 in
set_option maxHeartbeats 4000000 in
theorem ws_loopD {d : Nat} {h hl : Nat → Nat → Int} {p L B : Nat} {Post : Option zV → zS → Prop} (hS : zSI h p L) (hT : zTD h p) (hBs : zSb p L B = true)
    (hex : ∀ (g : Nat → Nat → Int) (x2 : Option zV), ((∀ c : Nat, c ≠ 24 → g c = h c) ∧ ∀ j : Nat, (j : Int) < h 18 2 → g 24 j = zMv h L B (Int.toNat (h 19 j))) → zH (d + 2) 56 (54, [some (.inr (.inr (some 22))), some (.inl (B : Int)), x2], [], (zs g hl)) Post) : ∀ (q k : Nat), k ≤ 56 → 57 ≤ k + q → ∀ (g : Nat → Nat → Int), ((∀ c : Nat, c ≠ 24 → g c = h c) ∧ ∀ j : Nat, j < k → (j : Int) < h 18 2 → g 24 j = zMv h L B (Int.toNat (h 19 j))) → zH (d + 2) 56 (7, [some (.inr (.inr (some 22))), some (.inl (B : Int)), some (.inl (k : Int))], [], (zs g hl)) Post := by
  have hp6 := hS.2.1
  have hL := hS.1
  have hB5 := zSb_lt hL.2 hBs
  intro q
  induction q with
  | zero => intro k h1 h2; exact absurd h2 (by omega)
  | succ q ih =>
    intro k hk hq g hI
    have hSg := zSI_same (g := g) hS (hI.1 18 (by decide)) (hI.1 19 (by decide)) (hI.1 20 (by decide))
    have hTg := zTD_same (g := g) hp6 hT (fun c hc => hI.1 c (by omega))
    have hg1 := hSg.2.2.1
    have e182 : g 18 2 = h 18 2 := by rw [hI.1 18 (by decide)]
    have hg2 := hSg.2.2.2.1
    have e19 : ∀ k : Nat, g 19 k = h 19 k := fun k => by rw [hI.1 19 (by decide)]
    refine zH_go 4 (c' := (15, [some (.inr (.inr (some 22))), some (.inl (B : Int)), some (.inl (k : Int))], [.inl (g 18 2), .inl (k : Int)], (zs g hl))) rfl ?_
    refine zH_br (x := (k : Int)) (y := (g 18 2)) (k := .ge) (c1 := (54, [some (.inr (.inr (some 22))), some (.inl (B : Int)), some (.inl (k : Int))], [], (zs g hl))) (c2 := (18, [some (.inr (.inr (some 22))), some (.inl (B : Int)), some (.inl (k : Int))], [], (zs g hl))) rfl (by first | assumption | (unfold zr; omega)) (by first | assumption | (unfold zr; omega)) (fun (b_1 : ¬ (k : Int) < (g 18 2)) => ?_) (fun (b_1 : ¬ (¬ (k : Int) < (g 18 2))) => ?_)
    · exact hex g _ ⟨hI.1, fun j hj => hI.2 j (by rw [e182] at b_1; omega) hj⟩
    · refine zH_go 2 (c' := (21, [some (.inr (.inr (some 22))), some (.inl (B : Int)), some (.inl (k : Int))], [.inl 56, .inl (k : Int)], (zs g hl))) rfl ?_
      refine zH_br (x := (k : Int)) (y := 56) (k := .ge) (c1 := (54, [some (.inr (.inr (some 22))), some (.inl (B : Int)), some (.inl (k : Int))], [], (zs g hl))) (c2 := (24, [some (.inr (.inr (some 22))), some (.inl (B : Int)), some (.inl (k : Int))], [], (zs g hl))) rfl (by first | assumption | (unfold zr; omega)) ⟨by decide, by decide⟩ (fun (b_2 : ¬ (k : Int) < 56) => ?_) (fun (b_2 : ¬ (¬ (k : Int) < 56)) => ?_)
      · exact hex g _ ⟨hI.1, fun j hj => hI.2 j (by rw [e182] at b_1; omega) hj⟩
      · obtain ⟨n, hn, hns, hnl, en, enk⟩ := hSg.2.2.2.2.2.2 k (by omega)
        refine zH_go 3 (c' := (29, [some (.inr (.inr (some 22))), some (.inl (B : Int)), some (.inl (k : Int))], [.inl 0, .inr (.inr (some 23))], (zs g hl))) rfl ?_
        refine zH_np (P := 0 ≤ 0 ∧ 0 < ((14 : Nat) : Int)) (c' := (30, [some (.inr (.inr (some 22))), some (.inl (B : Int)), some (.inl (k : Int))], [.inr (.inr (some 24))], (zs g hl))) rfl ⟨by decide, by decide⟩ ?_
        refine zH_go 7 (c' := (41, [some (.inr (.inr (some 22))), some (.inl (B : Int)), some (.inl (k : Int))], [.inl (k : Int), .inr (.inr (some 18)), .inl (B : Int), .inr (.inr (some 18)), .inl (k : Int), .inr (.inr (some 24))], (zs g hl))) rfl ?_
        refine zH_call (M' := 45) (as := [.inr (.inr (some 18)), .inl (k : Int)]) (T := [.inl (B : Int), .inr (.inr (some 18)), .inl (k : Int), .inr (.inr (some 24))]) rfl (p_number (s := k) (by omega) (by omega) (by omega)) (fun r σ' p_3 => ?_)
        obtain ⟨rfl, rfl⟩ := p_3
        rw [en]
        show zH _ _ (44, [some (.inr (.inr (some 22))), some (.inl (B : Int)), some (.inl (k : Int))], [.inl (n : Int), .inl (B : Int), .inr (.inr (some 18)), .inl (k : Int), .inr (.inr (some 24))], (zs g hl)) _
        refine zH_call (M' := 46) (as := [.inr (.inr (some 18)), .inl (B : Int), .inl (n : Int)]) (T := [.inl (k : Int), .inr (.inr (some 24))]) rfl (p_mv (s := B) (t := n) hL hB5 hn (zSb_6 (i := 0) hp6 hBs) (zSb_6 (i := 0) hp6 hns) hg1 hTg.2.2 hTg.1) (fun r σ' p_4 => ?_)
        obtain ⟨rfl, rfl⟩ := p_4
        show zH _ _ (47, [some (.inr (.inr (some 22))), some (.inl (B : Int)), some (.inl (k : Int))], [.inl (zMv g L B n), .inl (k : Int), .inr (.inr (some 24))], (zs g hl)) _
        refine zH_np (P := 0 ≤ (k : Int) ∧ (k : Int) < ((56 : Nat) : Int)) (c' := (48, [some (.inr (.inr (some 22))), some (.inl (B : Int)), some (.inl (k : Int))], [], (zs (zup g 24 k (zMv g L B n)) hl))) rfl ⟨by omega, by omega⟩ ?_
        refine zH_go 2 (c' := (7, [some (.inr (.inr (some 22))), some (.inl (B : Int)), some (.inl ((k : Int) + 1))], [], (zs (zup g 24 k (zMv g L B n)) hl))) rfl ?_
        refine ih (k + 1) (by omega) (by omega) _ ⟨fun c hc => ?_, fun j hj hj2 => ?_⟩
        · rw [← hI.1 c hc]; funext q; exact zup_ne hc
        · by_cases q : j = k
          · rw [q, zup_eq, ← e19 k, en, Int.toNat_natCast]
            exact zMv_same (fun c h1 h2 => hI.1 c (by omega))
          · rw [zup_k q]; exact hI.2 j (by omega) hj2
set_option maxRecDepth 100000 in
set_option maxHeartbeats 4000000 in
theorem ws_loopT {d : Nat} {h hl : Nat → Nat → Int} {p L B : Nat} {Post : Option zV → zS → Prop} (hS : zSI h p L) (hT : zTD h p) (hBs : zSb p L B = true)
    (hex : ∀ (g : Nat → Nat → Int) (x2 : Option zV), ((∀ c : Nat, c ≠ 51 → g c = h c) ∧ ∀ j : Nat, (j : Int) < h 18 2 → g 51 j = zMv h L B (Int.toNat (h 19 j))) → zH (d + 2) 56 (54, [some (.inr (.inr (some 49))), some (.inl (B : Int)), x2], [], (zs g hl)) Post) : ∀ (q k : Nat), k ≤ 56 → 57 ≤ k + q → ∀ (g : Nat → Nat → Int), ((∀ c : Nat, c ≠ 51 → g c = h c) ∧ ∀ j : Nat, j < k → (j : Int) < h 18 2 → g 51 j = zMv h L B (Int.toNat (h 19 j))) → zH (d + 2) 56 (7, [some (.inr (.inr (some 49))), some (.inl (B : Int)), some (.inl (k : Int))], [], (zs g hl)) Post := by
  have hp6 := hS.2.1
  have hL := hS.1
  have hB5 := zSb_lt hL.2 hBs
  intro q
  induction q with
  | zero => intro k h1 h2; exact absurd h2 (by omega)
  | succ q ih =>
    intro k hk hq g hI
    have hSg := zSI_same (g := g) hS (hI.1 18 (by decide)) (hI.1 19 (by decide)) (hI.1 20 (by decide))
    have hTg := zTD_same (g := g) hp6 hT (fun c hc => hI.1 c (by omega))
    have hg1 := hSg.2.2.1
    have e182 : g 18 2 = h 18 2 := by rw [hI.1 18 (by decide)]
    have hg2 := hSg.2.2.2.1
    have e19 : ∀ k : Nat, g 19 k = h 19 k := fun k => by rw [hI.1 19 (by decide)]
    refine zH_go 4 (c' := (15, [some (.inr (.inr (some 49))), some (.inl (B : Int)), some (.inl (k : Int))], [.inl (g 18 2), .inl (k : Int)], (zs g hl))) rfl ?_
    refine zH_br (x := (k : Int)) (y := (g 18 2)) (k := .ge) (c1 := (54, [some (.inr (.inr (some 49))), some (.inl (B : Int)), some (.inl (k : Int))], [], (zs g hl))) (c2 := (18, [some (.inr (.inr (some 49))), some (.inl (B : Int)), some (.inl (k : Int))], [], (zs g hl))) rfl (by first | assumption | (unfold zr; omega)) (by first | assumption | (unfold zr; omega)) (fun (b_1 : ¬ (k : Int) < (g 18 2)) => ?_) (fun (b_1 : ¬ (¬ (k : Int) < (g 18 2))) => ?_)
    · exact hex g _ ⟨hI.1, fun j hj => hI.2 j (by rw [e182] at b_1; omega) hj⟩
    · refine zH_go 2 (c' := (21, [some (.inr (.inr (some 49))), some (.inl (B : Int)), some (.inl (k : Int))], [.inl 56, .inl (k : Int)], (zs g hl))) rfl ?_
      refine zH_br (x := (k : Int)) (y := 56) (k := .ge) (c1 := (54, [some (.inr (.inr (some 49))), some (.inl (B : Int)), some (.inl (k : Int))], [], (zs g hl))) (c2 := (24, [some (.inr (.inr (some 49))), some (.inl (B : Int)), some (.inl (k : Int))], [], (zs g hl))) rfl (by first | assumption | (unfold zr; omega)) ⟨by decide, by decide⟩ (fun (b_2 : ¬ (k : Int) < 56) => ?_) (fun (b_2 : ¬ (¬ (k : Int) < 56)) => ?_)
      · exact hex g _ ⟨hI.1, fun j hj => hI.2 j (by rw [e182] at b_1; omega) hj⟩
      · obtain ⟨n, hn, hns, hnl, en, enk⟩ := hSg.2.2.2.2.2.2 k (by omega)
        refine zH_go 3 (c' := (29, [some (.inr (.inr (some 49))), some (.inl (B : Int)), some (.inl (k : Int))], [.inl 0, .inr (.inr (some 50))], (zs g hl))) rfl ?_
        refine zH_np (P := 0 ≤ 0 ∧ 0 < ((5 : Nat) : Int)) (c' := (30, [some (.inr (.inr (some 49))), some (.inl (B : Int)), some (.inl (k : Int))], [.inr (.inr (some 51))], (zs g hl))) rfl ⟨by decide, by decide⟩ ?_
        refine zH_go 7 (c' := (41, [some (.inr (.inr (some 49))), some (.inl (B : Int)), some (.inl (k : Int))], [.inl (k : Int), .inr (.inr (some 18)), .inl (B : Int), .inr (.inr (some 18)), .inl (k : Int), .inr (.inr (some 51))], (zs g hl))) rfl ?_
        refine zH_call (M' := 45) (as := [.inr (.inr (some 18)), .inl (k : Int)]) (T := [.inl (B : Int), .inr (.inr (some 18)), .inl (k : Int), .inr (.inr (some 51))]) rfl (p_number (s := k) (by omega) (by omega) (by omega)) (fun r σ' p_3 => ?_)
        obtain ⟨rfl, rfl⟩ := p_3
        rw [en]
        show zH _ _ (44, [some (.inr (.inr (some 49))), some (.inl (B : Int)), some (.inl (k : Int))], [.inl (n : Int), .inl (B : Int), .inr (.inr (some 18)), .inl (k : Int), .inr (.inr (some 51))], (zs g hl)) _
        refine zH_call (M' := 46) (as := [.inr (.inr (some 18)), .inl (B : Int), .inl (n : Int)]) (T := [.inl (k : Int), .inr (.inr (some 51))]) rfl (p_mv (s := B) (t := n) hL hB5 hn (zSb_6 (i := 0) hp6 hBs) (zSb_6 (i := 0) hp6 hns) hg1 hTg.2.2 hTg.1) (fun r σ' p_4 => ?_)
        obtain ⟨rfl, rfl⟩ := p_4
        show zH _ _ (47, [some (.inr (.inr (some 49))), some (.inl (B : Int)), some (.inl (k : Int))], [.inl (zMv g L B n), .inl (k : Int), .inr (.inr (some 51))], (zs g hl)) _
        refine zH_np (P := 0 ≤ (k : Int) ∧ (k : Int) < ((56 : Nat) : Int)) (c' := (48, [some (.inr (.inr (some 49))), some (.inl (B : Int)), some (.inl (k : Int))], [], (zs (zup g 51 k (zMv g L B n)) hl))) rfl ⟨by omega, by omega⟩ ?_
        refine zH_go 2 (c' := (7, [some (.inr (.inr (some 49))), some (.inl (B : Int)), some (.inl ((k : Int) + 1))], [], (zs (zup g 51 k (zMv g L B n)) hl))) rfl ?_
        refine ih (k + 1) (by omega) (by omega) _ ⟨fun c hc => ?_, fun j hj hj2 => ?_⟩
        · rw [← hI.1 c hc]; funext q; exact zup_ne hc
        · by_cases q : j = k
          · rw [q, zup_eq, ← e19 k, en, Int.toNat_natCast]
            exact zMv_same (fun c h1 h2 => hI.1 c (by omega))
          · rw [zup_k q]; exact hI.2 j (by omega) hj2
set_option maxRecDepth 100000 in
set_option maxHeartbeats 4000000 in
theorem p_wstartD {d : Nat} {h hl : Nat → Nat → Int} {p L B : Nat} (hS : zSI h p L) (hT : zTD h p) (hBs : zSb p L B = true) : zQ (d + 3) 56 [.inr (.inr (some 22)), .inl (B : Int)] (zs h hl) (fun r σ' => r = none ∧ ∃ g : Nat → Nat → Int, σ' = zs g hl ∧ (∀ c : Nat, c ≠ 22 → c ≠ 24 → g c = h c) ∧ g 22 4 = 0 ∧ (∀ j : Nat, j ≠ 4 → g 22 j = h 22 j) ∧ ∀ j : Nat, (j : Int) < h 18 2 → g 24 j = zMv h L B (Int.toNat (h 19 j))) := by
  refine zQ_of (Nat.le_of_ble_eq_true rfl) ?_
  show zH (d + 2) 56 (0, [some (.inr (.inr (some 22))), some (.inl (B : Int)), none], [], (zs h hl)) _
  refine zH_go 5 (c' := (7, [some (.inr (.inr (some 22))), some (.inl (B : Int)), some (.inl 0)], [], (zs (zup h 22 4 0) hl))) rfl ?_
  obtain ⟨h1, e1⟩ : ∃ h1, h1 = (zup h 22 4 0) := ⟨_, rfl⟩
  have k1 : ∀ c : Nat, c ≠ 22 → h1 c = h c := fun c hc => by rw [e1]; funext q; exact zup_ne hc
  have kw : h1 22 4 = 0 := by rw [e1, zup_eq]
  have kr : ∀ j : Nat, j ≠ 4 → h1 22 j = h 22 j := fun j hj => by rw [e1, zup_k hj]
  rw [← e1]
  refine ws_loopD (p := p) (zSI_same hS (k1 18 (by decide)) (k1 19 (by decide)) (k1 20 (by decide))) (zTD_same hS.2.1 hT (fun c hc => k1 c (by omega))) hBs (fun g x2 hI => ?_) 57 0 (by omega) (by omega) h1 ⟨fun c hc => rfl, fun j hj => absurd hj (Nat.not_lt_zero j)⟩
  show zH _ _ (54, [some (.inr (.inr (some 22))), some (.inl (B : Int)), x2], [], (zs g hl)) _
  refine zH_ret (v := none) rfl (fun q => absurd q (by decide)) ?_
  refine ⟨rfl, g, rfl, fun c h1 h2 => (hI.1 c h2).trans (k1 c h1), ?_, fun j hj => ?_, fun j hj => ?_⟩
  · rw [hI.1 22 (by decide)]; exact kw
  · rw [hI.1 22 (by decide)]; exact kr j hj
  · have q := hI.2 j (by rw [k1 18 (by decide)]; exact hj)
    rw [q, k1 19 (by decide)]
    exact zMv_same (fun c h1 h2 => k1 c (by omega))
theorem zAf_same {h g : Nat → Nat → Int} {L A s p : Nat} (hs : ∀ c : Nat, 12 ≤ c → c < 21 → g c = h c) (hA : g A = h A) (hp : p < 8) : zAf g L A s p = zAf h L A s p := by
  unfold zAf
  rw [hs (12 + p) (by omega) (by omega), hs 20 (by omega) (by omega), hA]
set_option maxRecDepth 100000 in
set_option maxHeartbeats 4000000 in
theorem wh_loopD {d : Nat} {h hl : Nat → Nat → Int} {p L i pp : Nat} {Post : Option zV → zS → Prop} (hS : zSI h p L) (hT : zTD h p) (hi : i < 13) (hpp : pp < p) (hA : ∀ q : Nat, (q : Int) < h 18 2 → 0 ≤ h (24 + i) q ∧ h (24 + i) q ≤ 100000)
    (hex : ∀ (g : Nat → Nat → Int) (x3 : Option zV), ((∀ c : Nat, c ≠ 24 + (i + 1) → g c = h c) ∧ ∀ j : Nat, (j : Int) < h 18 2 → g (24 + (i + 1)) j = zAf h L (24 + i) (Int.toNat (h 19 j)) pp) → zH (d + 2) 57 (109, [some (.inr (.inr (some 22))), some (.inl (i : Int)), some (.inl (pp : Int)), x3], [], (zs g hl)) Post) : ∀ (q k : Nat), k ≤ 56 → 57 ≤ k + q → ∀ (g : Nat → Nat → Int), ((∀ c : Nat, c ≠ 24 + (i + 1) → g c = h c) ∧ ∀ j : Nat, j < k → (j : Int) < h 18 2 → g (24 + (i + 1)) j = zAf h L (24 + i) (Int.toNat (h 19 j)) pp) → zH (d + 2) 57 (57, [some (.inr (.inr (some 22))), some (.inl (i : Int)), some (.inl (pp : Int)), some (.inl (k : Int))], [], (zs g hl)) Post := by
  have hp6 := hS.2.1
  have hL := hS.1
  intro q
  induction q with
  | zero => intro k h1 h2; exact absurd h2 (by omega)
  | succ q ih =>
    intro k hk hq g hI
    have hSg := zSI_same (g := g) hS (hI.1 18 (by omega)) (hI.1 19 (by omega)) (hI.1 20 (by omega))
    have hTg := zTD_same (g := g) hp6 hT (fun c hc => hI.1 c (by omega))
    have hAg : ∀ q : Nat, (q : Int) < g 18 2 → 0 ≤ g (24 + i) q ∧ g (24 + i) q ≤ 100000 := fun q hq => by rw [hI.1 18 (by omega)] at hq; rw [hI.1 (24 + i) (by omega)]; exact hA q hq
    have hg1 := hSg.2.2.1
    have e182 : g 18 2 = h 18 2 := by rw [hI.1 18 (by omega)]
    have hg2 := hSg.2.2.2.1
    have e19 : ∀ k : Nat, g 19 k = h 19 k := fun k => by rw [hI.1 19 (by omega)]
    refine zH_go 4 (c' := (65, [some (.inr (.inr (some 22))), some (.inl (i : Int)), some (.inl (pp : Int)), some (.inl (k : Int))], [.inl (g 18 2), .inl (k : Int)], (zs g hl))) rfl ?_
    refine zH_br (x := (k : Int)) (y := (g 18 2)) (k := .ge) (c1 := (109, [some (.inr (.inr (some 22))), some (.inl (i : Int)), some (.inl (pp : Int)), some (.inl (k : Int))], [], (zs g hl))) (c2 := (68, [some (.inr (.inr (some 22))), some (.inl (i : Int)), some (.inl (pp : Int)), some (.inl (k : Int))], [], (zs g hl))) rfl (by first | assumption | (unfold zr; omega)) (by first | assumption | (unfold zr; omega)) (fun (b_1 : ¬ (k : Int) < (g 18 2)) => ?_) (fun (b_1 : ¬ (¬ (k : Int) < (g 18 2))) => ?_)
    · exact hex g _ ⟨hI.1, fun j hj => hI.2 j (by rw [e182] at b_1; omega) hj⟩
    · refine zH_go 2 (c' := (71, [some (.inr (.inr (some 22))), some (.inl (i : Int)), some (.inl (pp : Int)), some (.inl (k : Int))], [.inl 56, .inl (k : Int)], (zs g hl))) rfl ?_
      refine zH_br (x := (k : Int)) (y := 56) (k := .ge) (c1 := (109, [some (.inr (.inr (some 22))), some (.inl (i : Int)), some (.inl (pp : Int)), some (.inl (k : Int))], [], (zs g hl))) (c2 := (74, [some (.inr (.inr (some 22))), some (.inl (i : Int)), some (.inl (pp : Int)), some (.inl (k : Int))], [], (zs g hl))) rfl (by first | assumption | (unfold zr; omega)) ⟨by decide, by decide⟩ (fun (b_2 : ¬ (k : Int) < 56) => ?_) (fun (b_2 : ¬ (¬ (k : Int) < 56)) => ?_)
      · exact hex g _ ⟨hI.1, fun j hj => hI.2 j (by rw [e182] at b_1; omega) hj⟩
      · obtain ⟨n, hn, hns, hnl, en, enk⟩ := hSg.2.2.2.2.2.2 k (by omega)
        refine zH_go 5 (c' := (81, [some (.inr (.inr (some 22))), some (.inl (i : Int)), some (.inl (pp : Int)), some (.inl (k : Int))], [.inl ((i : Int) + 1), .inr (.inr (some 23))], (zs g hl))) rfl ?_
        refine zH_aal (A := 23) (n := 14) (b := 24 + (i + 1)) rfl rfl (by omega) (by omega) (zhr_23 (by omega)) ?_
        show zH _ _ (82, [some (.inr (.inr (some 22))), some (.inl (i : Int)), some (.inl (pp : Int)), some (.inl (k : Int))], [.inr (.inr (some (24 + (i + 1))))], (zs g hl)) _
        refine zH_go 5 (c' := (89, [some (.inr (.inr (some 22))), some (.inl (i : Int)), some (.inl (pp : Int)), some (.inl (k : Int))], [.inl (i : Int), .inr (.inr (some 23)), .inr (.inr (some 22)), .inl (k : Int), .inr (.inr (some (24 + (i + 1))))], (zs g hl))) rfl ?_
        refine zH_aal (A := 23) (n := 14) (b := 24 + i) rfl rfl (by omega) (by omega) (zhr_23 (by omega)) ?_
        show zH _ _ (90, [some (.inr (.inr (some 22))), some (.inl (i : Int)), some (.inl (pp : Int)), some (.inl (k : Int))], [.inr (.inr (some (24 + i))), .inr (.inr (some 22)), .inl (k : Int), .inr (.inr (some (24 + (i + 1))))], (zs g hl)) _
        refine zH_go 3 (c' := (95, [some (.inr (.inr (some 22))), some (.inl (i : Int)), some (.inl (pp : Int)), some (.inl (k : Int))], [.inl (k : Int), .inr (.inr (some 18)), .inr (.inr (some (24 + i))), .inr (.inr (some 22)), .inl (k : Int), .inr (.inr (some (24 + (i + 1))))], (zs g hl))) rfl ?_
        refine zH_call (M' := 45) (as := [.inr (.inr (some 18)), .inl (k : Int)]) (T := [.inr (.inr (some (24 + i))), .inr (.inr (some 22)), .inl (k : Int), .inr (.inr (some (24 + (i + 1))))]) rfl (p_number (s := k) (by omega) (by omega) (by omega)) (fun r σ' p_3 => ?_)
        obtain ⟨rfl, rfl⟩ := p_3
        rw [en]
        show zH _ _ (98, [some (.inr (.inr (some 22))), some (.inl (i : Int)), some (.inl (pp : Int)), some (.inl (k : Int))], [.inl (n : Int), .inr (.inr (some (24 + i))), .inr (.inr (some 22)), .inl (k : Int), .inr (.inr (some (24 + (i + 1))))], (zs g hl)) _
        refine zH_go 1 (c' := (99, [some (.inr (.inr (some 22))), some (.inl (i : Int)), some (.inl (pp : Int)), some (.inl (k : Int))], [.inl (pp : Int), .inl (n : Int), .inr (.inr (some (24 + i))), .inr (.inr (some 22)), .inl (k : Int), .inr (.inr (some (24 + (i + 1))))], (zs g hl))) rfl ?_
        refine zH_call (M' := 58) (as := [.inr (.inr (some 22)), .inr (.inr (some (24 + i))), .inl (n : Int), .inl (pp : Int)]) (T := [.inl (k : Int), .inr (.inr (some (24 + (i + 1))))]) rfl (p_afD (A := 24 + i) (s := n) (pp := pp) hSg hns hpp (zsh_23 (by omega)) hAg hTg.1 hTg.2.1) (fun r σ' p_4 => ?_)
        obtain ⟨rfl, rfl⟩ := p_4
        show zH _ _ (102, [some (.inr (.inr (some 22))), some (.inl (i : Int)), some (.inl (pp : Int)), some (.inl (k : Int))], [.inl (zAf g L (24 + i) n pp), .inl (k : Int), .inr (.inr (some (24 + (i + 1))))], (zs g hl)) _
        refine zH_ias rfl (n := 56) (zsh_23 (by omega)) (by omega) (by omega) ?_
        show zH _ _ (103, [some (.inr (.inr (some 22))), some (.inl (i : Int)), some (.inl (pp : Int)), some (.inl (k : Int))], [], (zs (zup g (24 + (i + 1)) k (zAf g L (24 + i) n pp)) hl)) _
        refine zH_go 2 (c' := (57, [some (.inr (.inr (some 22))), some (.inl (i : Int)), some (.inl (pp : Int)), some (.inl ((k : Int) + 1))], [], (zs (zup g (24 + (i + 1)) k (zAf g L (24 + i) n pp)) hl))) rfl ?_
        refine ih (k + 1) (by omega) (by omega) _ ⟨fun c hc => ?_, fun j hj hj2 => ?_⟩
        · rw [← hI.1 c hc]; funext q; exact zup_ne hc
        · by_cases q : j = k
          · rw [q, zup_eq, ← e19 k, en, Int.toNat_natCast]
            exact zAf_same (fun c h1 h2 => hI.1 c (by omega)) (hI.1 (24 + i) (by omega)) (by omega)
          · rw [zup_k q]; exact hI.2 j (by omega) hj2
set_option maxRecDepth 100000 in
set_option maxHeartbeats 4000000 in
theorem p_whearD {d : Nat} {h hl : Nat → Nat → Int} {p L i pp : Nat} (hS : zSI h p L) (hT : zTD h p) (hi : i < 13) (hik : (i : Int) ≤ h 22 4) (hkn : h 22 4 ≤ 1000) (hpp : pp < p) (hA : ∀ q : Nat, (q : Int) < h 18 2 → 0 ≤ h (24 + i) q ∧ h (24 + i) q ≤ 100000) (hH : ∀ j : Nat, j < 13 → zr (h 38 j)) : zQ (d + 3) 57 [.inr (.inr (some 22)), .inl (i : Int), .inl (pp : Int)] (zs h hl) (fun r σ' => r = none ∧ ((σ' = zs h hl ∧ (i : Int) < h 22 4 ∧ h 38 i = (pp : Int)) ∨ ∃ g : Nat → Nat → Int, σ' = zs g hl ∧ (∀ c : Nat, c ≠ 22 → c ≠ 38 → c ≠ 24 + (i + 1) → g c = h c) ∧ g 22 4 = (i : Int) + 1 ∧ (∀ j : Nat, j ≠ 4 → g 22 j = h 22 j) ∧ g 38 i = (pp : Int) ∧ (∀ j : Nat, j ≠ i → g 38 j = h 38 j) ∧ ∀ j : Nat, (j : Int) < h 18 2 → g (24 + (i + 1)) j = zAf h L (24 + i) (Int.toNat (h 19 j)) pp)) := by
  have hp6 := hS.2.1
  have hHi := hH i hi
  refine zQ_of (Nat.le_of_ble_eq_true rfl) ?_
  show zH (d + 2) 57 (0, [some (.inr (.inr (some 22))), some (.inl (i : Int)), some (.inl (pp : Int)), none], [], (zs h hl)) _
  refine zH_go 1 (c' := (1, [some (.inr (.inr (some 22))), some (.inl (i : Int)), some (.inl (pp : Int)), none], [.inl (i : Int)], (zs h hl))) rfl ?_
  refine zH_br (x := (i : Int)) (y := 0) (k := .lt) (c1 := (21, [some (.inr (.inr (some 22))), some (.inl (i : Int)), some (.inl (pp : Int)), none], [], (zs h hl))) (c2 := (4, [some (.inr (.inr (some 22))), some (.inl (i : Int)), some (.inl (pp : Int)), none], [], (zs h hl))) rfl (by first | assumption | (unfold zr; omega)) ⟨by decide, by decide⟩ (fun (b_1 : (i : Int) < 0) => ?_) (fun (b_1 : ¬ ((i : Int) < 0)) => ?_)
  · exfalso
    omega
  · refine zH_go 4 (c' := (10, [some (.inr (.inr (some 22))), some (.inl (i : Int)), some (.inl (pp : Int)), none], [.inl 13, .inl (i : Int)], (zs h hl))) rfl ?_
    refine zH_br (x := (i : Int)) (y := 13) (k := .ge) (c1 := (21, [some (.inr (.inr (some 22))), some (.inl (i : Int)), some (.inl (pp : Int)), none], [], (zs h hl))) (c2 := (13, [some (.inr (.inr (some 22))), some (.inl (i : Int)), some (.inl (pp : Int)), none], [], (zs h hl))) rfl (by first | assumption | (unfold zr; omega)) ⟨by decide, by decide⟩ (fun (b_2 : ¬ (i : Int) < 13) => ?_) (fun (b_2 : ¬ (¬ (i : Int) < 13)) => ?_)
    · exfalso
      omega
    · refine zH_go 3 (c' := (18, [some (.inr (.inr (some 22))), some (.inl (i : Int)), some (.inl (pp : Int)), none], [.inl (h 22 4), .inl (i : Int)], (zs h hl))) rfl ?_
      refine zH_br (x := (i : Int)) (y := (h 22 4)) (k := .le) (c1 := (22, [some (.inr (.inr (some 22))), some (.inl (i : Int)), some (.inl (pp : Int)), none], [], (zs h hl))) (c2 := (21, [some (.inr (.inr (some 22))), some (.inl (i : Int)), some (.inl (pp : Int)), none], [], (zs h hl))) rfl (by first | assumption | (unfold zr; omega)) (by first | assumption | (unfold zr; omega)) (fun (b_3 : ¬ (h 22 4) < (i : Int)) => ?_) (fun (b_3 : ¬ (¬ (h 22 4) < (i : Int))) => ?_)
      · refine zH_go 3 (c' := (27, [some (.inr (.inr (some 22))), some (.inl (i : Int)), some (.inl (pp : Int)), none], [.inl (h 22 4), .inl (i : Int)], (zs h hl))) rfl ?_
        refine zH_br (x := (i : Int)) (y := (h 22 4)) (k := .ge) (c1 := (41, [some (.inr (.inr (some 22))), some (.inl (i : Int)), some (.inl (pp : Int)), none], [], (zs h hl))) (c2 := (30, [some (.inr (.inr (some 22))), some (.inl (i : Int)), some (.inl (pp : Int)), none], [], (zs h hl))) rfl (by first | assumption | (unfold zr; omega)) (by first | assumption | (unfold zr; omega)) (fun (b_4 : ¬ (i : Int) < (h 22 4)) => ?_) (fun (b_4 : ¬ (¬ (i : Int) < (h 22 4))) => ?_)
        · refine zH_go 4 (c' := (47, [some (.inr (.inr (some 22))), some (.inl (i : Int)), some (.inl (pp : Int)), none], [.inl (pp : Int), .inl (i : Int), .inr (.inr (some 38))], (zs h hl))) rfl ?_
          refine zH_np (P := 0 ≤ (i : Int) ∧ (i : Int) < ((13 : Nat) : Int)) (c' := (48, [some (.inr (.inr (some 22))), some (.inl (i : Int)), some (.inl (pp : Int)), none], [], (zs (zup h 38 i (pp : Int)) hl))) rfl ⟨by omega, by omega⟩ ?_
          refine zH_go 7 (c' := (57, [some (.inr (.inr (some 22))), some (.inl (i : Int)), some (.inl (pp : Int)), some (.inl 0)], [], (zs (zup (zup h 38 i (pp : Int)) 22 4 ((i : Int) + 1)) hl))) rfl ?_
          obtain ⟨h1, e1⟩ : ∃ h1, h1 = (zup (zup h 38 i (pp : Int)) 22 4 ((i : Int) + 1)) := ⟨_, rfl⟩
          have k1 : ∀ c : Nat, c ≠ 22 → c ≠ 38 → h1 c = h c := fun c hc hd => by rw [e1]; funext q; rw [zup_ne hc, zup_ne hd]
          have kw : h1 22 4 = (i : Int) + 1 := by rw [e1, zup_eq]
          have kr : ∀ j : Nat, j ≠ 4 → h1 22 j = h 22 j := fun j hj => by rw [e1, zup_k hj, zup_ne (by decide)]
          have kh : h1 38 i = (pp : Int) := by rw [e1, zup_ne (by decide), zup_eq]
          have ko : ∀ j : Nat, j ≠ i → h1 38 j = h 38 j := fun j hj => by rw [e1, zup_ne (by decide), zup_k hj]
          rw [← e1]
          refine wh_loopD (p := p) (zSI_same hS (k1 18 (by decide) (by decide)) (k1 19 (by decide) (by decide)) (k1 20 (by decide) (by decide))) (zTD_same hS.2.1 hT (fun c hc => k1 c (by omega) (by omega))) hi hpp (fun q hq => by rw [k1 18 (by decide) (by decide)] at hq; rw [k1 (24 + i) (by omega) (by omega)]; exact hA q hq) (fun g x3 hI => ?_) 57 0 (by omega) (by omega) h1 ⟨fun c hc => rfl, fun j hj => absurd hj (Nat.not_lt_zero j)⟩
          show zH _ _ (109, [some (.inr (.inr (some 22))), some (.inl (i : Int)), some (.inl (pp : Int)), x3], [], (zs g hl)) _
          refine zH_ret (v := none) rfl (fun q => absurd q (by decide)) ?_
          refine ⟨rfl, Or.inr ⟨g, rfl, fun c h1 h2 h3 => (hI.1 c h3).trans (k1 c h1 h2), ?_, fun j hj => ?_, ?_, fun j hj => ?_, fun j hj => ?_⟩⟩
          · rw [hI.1 22 (by omega)]; exact kw
          · rw [hI.1 22 (by omega)]; exact kr j hj
          · rw [hI.1 38 (by omega)]; exact kh
          · rw [hI.1 38 (by omega)]; exact ko j hj
          · have q := hI.2 j (by rw [k1 18 (by decide) (by decide)]; exact hj)
            rw [q, k1 19 (by decide) (by decide)]
            exact zAf_same (fun c h1 h2 => k1 c (by omega) (by omega)) (k1 (24 + i) (by omega) (by omega)) (by omega)
        · refine zH_go 3 (c' := (35, [some (.inr (.inr (some 22))), some (.inl (i : Int)), some (.inl (pp : Int)), none], [.inl (i : Int), .inr (.inr (some 38))], (zs h hl))) rfl ?_
          refine zH_np (P := 0 ≤ (i : Int) ∧ (i : Int) < ((13 : Nat) : Int)) (c' := (36, [some (.inr (.inr (some 22))), some (.inl (i : Int)), some (.inl (pp : Int)), none], [.inl (h 38 i)], (zs h hl))) rfl ⟨by omega, by omega⟩ ?_
          refine zH_go 1 (c' := (37, [some (.inr (.inr (some 22))), some (.inl (i : Int)), some (.inl (pp : Int)), none], [.inl (pp : Int), .inl (h 38 i)], (zs h hl))) rfl ?_
          refine zH_br (x := (h 38 i)) (y := (pp : Int)) (k := .ne) (c1 := (41, [some (.inr (.inr (some 22))), some (.inl (i : Int)), some (.inl (pp : Int)), none], [], (zs h hl))) (c2 := (40, [some (.inr (.inr (some 22))), some (.inl (i : Int)), some (.inl (pp : Int)), none], [], (zs h hl))) rfl (by first | assumption | (unfold zr; omega)) (by first | assumption | (unfold zr; omega)) (fun (b_5 : ¬ (h 38 i) = (pp : Int)) => ?_) (fun (b_5 : ¬ (¬ (h 38 i) = (pp : Int))) => ?_)
          · refine zH_go 4 (c' := (47, [some (.inr (.inr (some 22))), some (.inl (i : Int)), some (.inl (pp : Int)), none], [.inl (pp : Int), .inl (i : Int), .inr (.inr (some 38))], (zs h hl))) rfl ?_
            refine zH_np (P := 0 ≤ (i : Int) ∧ (i : Int) < ((13 : Nat) : Int)) (c' := (48, [some (.inr (.inr (some 22))), some (.inl (i : Int)), some (.inl (pp : Int)), none], [], (zs (zup h 38 i (pp : Int)) hl))) rfl ⟨by omega, by omega⟩ ?_
            refine zH_go 7 (c' := (57, [some (.inr (.inr (some 22))), some (.inl (i : Int)), some (.inl (pp : Int)), some (.inl 0)], [], (zs (zup (zup h 38 i (pp : Int)) 22 4 ((i : Int) + 1)) hl))) rfl ?_
            obtain ⟨h1, e1⟩ : ∃ h1, h1 = (zup (zup h 38 i (pp : Int)) 22 4 ((i : Int) + 1)) := ⟨_, rfl⟩
            have k1 : ∀ c : Nat, c ≠ 22 → c ≠ 38 → h1 c = h c := fun c hc hd => by rw [e1]; funext q; rw [zup_ne hc, zup_ne hd]
            have kw : h1 22 4 = (i : Int) + 1 := by rw [e1, zup_eq]
            have kr : ∀ j : Nat, j ≠ 4 → h1 22 j = h 22 j := fun j hj => by rw [e1, zup_k hj, zup_ne (by decide)]
            have kh : h1 38 i = (pp : Int) := by rw [e1, zup_ne (by decide), zup_eq]
            have ko : ∀ j : Nat, j ≠ i → h1 38 j = h 38 j := fun j hj => by rw [e1, zup_ne (by decide), zup_k hj]
            rw [← e1]
            refine wh_loopD (p := p) (zSI_same hS (k1 18 (by decide) (by decide)) (k1 19 (by decide) (by decide)) (k1 20 (by decide) (by decide))) (zTD_same hS.2.1 hT (fun c hc => k1 c (by omega) (by omega))) hi hpp (fun q hq => by rw [k1 18 (by decide) (by decide)] at hq; rw [k1 (24 + i) (by omega) (by omega)]; exact hA q hq) (fun g x3 hI => ?_) 57 0 (by omega) (by omega) h1 ⟨fun c hc => rfl, fun j hj => absurd hj (Nat.not_lt_zero j)⟩
            show zH _ _ (109, [some (.inr (.inr (some 22))), some (.inl (i : Int)), some (.inl (pp : Int)), x3], [], (zs g hl)) _
            refine zH_ret (v := none) rfl (fun q => absurd q (by decide)) ?_
            refine ⟨rfl, Or.inr ⟨g, rfl, fun c h1 h2 h3 => (hI.1 c h3).trans (k1 c h1 h2), ?_, fun j hj => ?_, ?_, fun j hj => ?_, fun j hj => ?_⟩⟩
            · rw [hI.1 22 (by omega)]; exact kw
            · rw [hI.1 22 (by omega)]; exact kr j hj
            · rw [hI.1 38 (by omega)]; exact kh
            · rw [hI.1 38 (by omega)]; exact ko j hj
            · have q := hI.2 j (by rw [k1 18 (by decide) (by decide)]; exact hj)
              rw [q, k1 19 (by decide) (by decide)]
              exact zAf_same (fun c h1 h2 => k1 c (by omega) (by omega)) (k1 (24 + i) (by omega) (by omega)) (by omega)
          · refine zH_ret (v := none) rfl (fun q => absurd q (by decide)) ?_
            exact ⟨rfl, Or.inl ⟨rfl, by omega, by omega⟩⟩
      · exfalso
        omega
set_option maxRecDepth 100000 in
set_option maxHeartbeats 4000000 in
theorem p_wofD {d : Nat} {h hl : Nat → Nat → Int} {n s : Nat} (hn : n < 14) (hs : s < 512) (h20 : 0 ≤ h 20 s ∧ h 20 s < 56) : zQ (d + 2) 59 [.inr (.inr (some 22)), .inl (n : Int), .inl (s : Int)] (zs h hl) (zI1 (h (24 + n) (Int.toNat (h 20 s))) (zs h hl)) := by
  refine zQ_of (Nat.le_of_ble_eq_true rfl) ?_
  show zH (d + 1) 59 (0, [some (.inr (.inr (some 22))), some (.inl (n : Int)), some (.inl (s : Int)), none], [], (zs h hl)) _
  refine zH_go 3 (c' := (5, [some (.inr (.inr (some 22))), some (.inl (n : Int)), some (.inl (s : Int)), none], [.inl (s : Int), .inr (.inr (some 18))], (zs h hl))) rfl ?_
  refine zH_call (M' := 44) (as := [.inr (.inr (some 18)), .inl (s : Int)]) (T := []) rfl (p_slot (n := s) (by omega)) (fun r σ' p_1 => ?_)
  obtain ⟨rfl, rfl⟩ := p_1
  show zH _ _ (8, [some (.inr (.inr (some 22))), some (.inl (n : Int)), some (.inl (s : Int)), none], [.inl (h 20 s)], (zs h hl)) _
  refine zH_go 2 (c' := (10, [some (.inr (.inr (some 22))), some (.inl (n : Int)), some (.inl (s : Int)), some (.inl (h 20 s))], [.inl (n : Int)], (zs h hl))) rfl ?_
  refine zH_br (x := (n : Int)) (y := 0) (k := .lt) (c1 := (32, [some (.inr (.inr (some 22))), some (.inl (n : Int)), some (.inl (s : Int)), some (.inl (h 20 s))], [], (zs h hl))) (c2 := (13, [some (.inr (.inr (some 22))), some (.inl (n : Int)), some (.inl (s : Int)), some (.inl (h 20 s))], [], (zs h hl))) rfl (by first | assumption | (unfold zr; omega)) ⟨by decide, by decide⟩ (fun (b_2 : (n : Int) < 0) => ?_) (fun (b_2 : ¬ ((n : Int) < 0)) => ?_)
  · refine zH_go 1 (c' := (34, [some (.inr (.inr (some 22))), some (.inl (n : Int)), some (.inl (s : Int)), some (.inl (h 20 s))], [.inl 1000000], (zs h hl))) rfl ?_
    exfalso
    omega
  · refine zH_go 4 (c' := (19, [some (.inr (.inr (some 22))), some (.inl (n : Int)), some (.inl (s : Int)), some (.inl (h 20 s))], [.inl 14, .inl (n : Int)], (zs h hl))) rfl ?_
    refine zH_br (x := (n : Int)) (y := 14) (k := .ge) (c1 := (32, [some (.inr (.inr (some 22))), some (.inl (n : Int)), some (.inl (s : Int)), some (.inl (h 20 s))], [], (zs h hl))) (c2 := (22, [some (.inr (.inr (some 22))), some (.inl (n : Int)), some (.inl (s : Int)), some (.inl (h 20 s))], [], (zs h hl))) rfl (by first | assumption | (unfold zr; omega)) ⟨by decide, by decide⟩ (fun (b_3 : ¬ (n : Int) < 14) => ?_) (fun (b_3 : ¬ (¬ (n : Int) < 14)) => ?_)
    · refine zH_go 1 (c' := (34, [some (.inr (.inr (some 22))), some (.inl (n : Int)), some (.inl (s : Int)), some (.inl (h 20 s))], [.inl 1000000], (zs h hl))) rfl ?_
      exfalso
      omega
    · refine zH_go 1 (c' := (23, [some (.inr (.inr (some 22))), some (.inl (n : Int)), some (.inl (s : Int)), some (.inl (h 20 s))], [.inl (h 20 s)], (zs h hl))) rfl ?_
      refine zH_br (x := (h 20 s)) (y := 0) (k := .lt) (c1 := (32, [some (.inr (.inr (some 22))), some (.inl (n : Int)), some (.inl (s : Int)), some (.inl (h 20 s))], [], (zs h hl))) (c2 := (26, [some (.inr (.inr (some 22))), some (.inl (n : Int)), some (.inl (s : Int)), some (.inl (h 20 s))], [], (zs h hl))) rfl (by first | assumption | (unfold zr; omega)) ⟨by decide, by decide⟩ (fun (b_4 : (h 20 s) < 0) => ?_) (fun (b_4 : ¬ ((h 20 s) < 0)) => ?_)
      · refine zH_go 1 (c' := (34, [some (.inr (.inr (some 22))), some (.inl (n : Int)), some (.inl (s : Int)), some (.inl (h 20 s))], [.inl 1000000], (zs h hl))) rfl ?_
        exfalso
        omega
      · refine zH_go 2 (c' := (29, [some (.inr (.inr (some 22))), some (.inl (n : Int)), some (.inl (s : Int)), some (.inl (h 20 s))], [.inl 56, .inl (h 20 s)], (zs h hl))) rfl ?_
        refine zH_br (x := (h 20 s)) (y := 56) (k := .lt) (c1 := (35, [some (.inr (.inr (some 22))), some (.inl (n : Int)), some (.inl (s : Int)), some (.inl (h 20 s))], [], (zs h hl))) (c2 := (32, [some (.inr (.inr (some 22))), some (.inl (n : Int)), some (.inl (s : Int)), some (.inl (h 20 s))], [], (zs h hl))) rfl (by first | assumption | (unfold zr; omega)) ⟨by decide, by decide⟩ (fun (b_5 : (h 20 s) < 56) => ?_) (fun (b_5 : ¬ ((h 20 s) < 56)) => ?_)
        · refine zH_go 3 (c' := (40, [some (.inr (.inr (some 22))), some (.inl (n : Int)), some (.inl (s : Int)), some (.inl (h 20 s))], [.inl (n : Int), .inr (.inr (some 23))], (zs h hl))) rfl ?_
          refine zH_aal (A := 23) (n := 14) (b := 24 + n) rfl rfl (by omega) (by omega) (zhr_23 (by omega)) ?_
          show zH _ _ (41, [some (.inr (.inr (some 22))), some (.inl (n : Int)), some (.inl (s : Int)), some (.inl (h 20 s))], [.inr (.inr (some (24 + n)))], (zs h hl)) _
          refine zH_go 1 (c' := (42, [some (.inr (.inr (some 22))), some (.inl (n : Int)), some (.inl (s : Int)), some (.inl (h 20 s))], [.inl (h 20 s), .inr (.inr (some (24 + n)))], (zs h hl))) rfl ?_
          refine zH_ial rfl (n := 56) (zsh_23 (by omega)) (by omega) (by omega) ?_
          show zH _ _ (43, [some (.inr (.inr (some 22))), some (.inl (n : Int)), some (.inl (s : Int)), some (.inl (h 20 s))], [.inl (h (24 + n) (Int.toNat (h 20 s)))], (zs h hl)) _
          refine zH_ret (v := some (.inl (h (24 + n) (Int.toNat (h 20 s))))) rfl (fun q => absurd q (by decide)) ?_
          exact ⟨rfl, rfl⟩
        · refine zH_go 1 (c' := (34, [some (.inr (.inr (some 22))), some (.inl (n : Int)), some (.inl (s : Int)), some (.inl (h 20 s))], [.inl 1000000], (zs h hl))) rfl ?_
          exfalso
          omega
set_option maxRecDepth 100000 in
set_option maxHeartbeats 4000000 in
theorem p_wstartT {d : Nat} {h hl : Nat → Nat → Int} {p L B : Nat} (hS : zSI h p L) (hT : zTD h p) (hBs : zSb p L B = true) : zQ (d + 3) 56 [.inr (.inr (some 49)), .inl (B : Int)] (zs h hl) (fun r σ' => r = none ∧ ∃ g : Nat → Nat → Int, σ' = zs g hl ∧ (∀ c : Nat, c ≠ 49 → c ≠ 51 → g c = h c) ∧ g 49 4 = 0 ∧ (∀ j : Nat, j ≠ 4 → g 49 j = h 49 j) ∧ ∀ j : Nat, (j : Int) < h 18 2 → g 51 j = zMv h L B (Int.toNat (h 19 j))) := by
  refine zQ_of (Nat.le_of_ble_eq_true rfl) ?_
  show zH (d + 2) 56 (0, [some (.inr (.inr (some 49))), some (.inl (B : Int)), none], [], (zs h hl)) _
  refine zH_go 5 (c' := (7, [some (.inr (.inr (some 49))), some (.inl (B : Int)), some (.inl 0)], [], (zs (zup h 49 4 0) hl))) rfl ?_
  obtain ⟨h1, e1⟩ : ∃ h1, h1 = (zup h 49 4 0) := ⟨_, rfl⟩
  have k1 : ∀ c : Nat, c ≠ 49 → h1 c = h c := fun c hc => by rw [e1]; funext q; exact zup_ne hc
  have kw : h1 49 4 = 0 := by rw [e1, zup_eq]
  have kr : ∀ j : Nat, j ≠ 4 → h1 49 j = h 49 j := fun j hj => by rw [e1, zup_k hj]
  rw [← e1]
  refine ws_loopT (p := p) (zSI_same hS (k1 18 (by decide)) (k1 19 (by decide)) (k1 20 (by decide))) (zTD_same hS.2.1 hT (fun c hc => k1 c (by omega))) hBs (fun g x2 hI => ?_) 57 0 (by omega) (by omega) h1 ⟨fun c hc => rfl, fun j hj => absurd hj (Nat.not_lt_zero j)⟩
  show zH _ _ (54, [some (.inr (.inr (some 49))), some (.inl (B : Int)), x2], [], (zs g hl)) _
  refine zH_ret (v := none) rfl (fun q => absurd q (by decide)) ?_
  refine ⟨rfl, g, rfl, fun c h1 h2 => (hI.1 c h2).trans (k1 c h1), ?_, fun j hj => ?_, fun j hj => ?_⟩
  · rw [hI.1 49 (by decide)]; exact kw
  · rw [hI.1 49 (by decide)]; exact kr j hj
  · have q := hI.2 j (by rw [k1 18 (by decide)]; exact hj)
    rw [q, k1 19 (by decide)]
    exact zMv_same (fun c h1 h2 => k1 c (by omega))
set_option maxRecDepth 100000 in
set_option maxHeartbeats 4000000 in
theorem wh_loopT {d : Nat} {h hl : Nat → Nat → Int} {p L i pp : Nat} {Post : Option zV → zS → Prop} (hS : zSI h p L) (hT : zTD h p) (hi : i < 4) (hpp : pp < p) (hA : ∀ q : Nat, (q : Int) < h 18 2 → 0 ≤ h (51 + i) q ∧ h (51 + i) q ≤ 100000)
    (hex : ∀ (g : Nat → Nat → Int) (x3 : Option zV), ((∀ c : Nat, c ≠ 51 + (i + 1) → g c = h c) ∧ ∀ j : Nat, (j : Int) < h 18 2 → g (51 + (i + 1)) j = zAf h L (51 + i) (Int.toNat (h 19 j)) pp) → zH (d + 2) 57 (109, [some (.inr (.inr (some 49))), some (.inl (i : Int)), some (.inl (pp : Int)), x3], [], (zs g hl)) Post) : ∀ (q k : Nat), k ≤ 56 → 57 ≤ k + q → ∀ (g : Nat → Nat → Int), ((∀ c : Nat, c ≠ 51 + (i + 1) → g c = h c) ∧ ∀ j : Nat, j < k → (j : Int) < h 18 2 → g (51 + (i + 1)) j = zAf h L (51 + i) (Int.toNat (h 19 j)) pp) → zH (d + 2) 57 (57, [some (.inr (.inr (some 49))), some (.inl (i : Int)), some (.inl (pp : Int)), some (.inl (k : Int))], [], (zs g hl)) Post := by
  have hp6 := hS.2.1
  have hL := hS.1
  intro q
  induction q with
  | zero => intro k h1 h2; exact absurd h2 (by omega)
  | succ q ih =>
    intro k hk hq g hI
    have hSg := zSI_same (g := g) hS (hI.1 18 (by omega)) (hI.1 19 (by omega)) (hI.1 20 (by omega))
    have hTg := zTD_same (g := g) hp6 hT (fun c hc => hI.1 c (by omega))
    have hAg : ∀ q : Nat, (q : Int) < g 18 2 → 0 ≤ g (51 + i) q ∧ g (51 + i) q ≤ 100000 := fun q hq => by rw [hI.1 18 (by omega)] at hq; rw [hI.1 (51 + i) (by omega)]; exact hA q hq
    have hg1 := hSg.2.2.1
    have e182 : g 18 2 = h 18 2 := by rw [hI.1 18 (by omega)]
    have hg2 := hSg.2.2.2.1
    have e19 : ∀ k : Nat, g 19 k = h 19 k := fun k => by rw [hI.1 19 (by omega)]
    refine zH_go 4 (c' := (65, [some (.inr (.inr (some 49))), some (.inl (i : Int)), some (.inl (pp : Int)), some (.inl (k : Int))], [.inl (g 18 2), .inl (k : Int)], (zs g hl))) rfl ?_
    refine zH_br (x := (k : Int)) (y := (g 18 2)) (k := .ge) (c1 := (109, [some (.inr (.inr (some 49))), some (.inl (i : Int)), some (.inl (pp : Int)), some (.inl (k : Int))], [], (zs g hl))) (c2 := (68, [some (.inr (.inr (some 49))), some (.inl (i : Int)), some (.inl (pp : Int)), some (.inl (k : Int))], [], (zs g hl))) rfl (by first | assumption | (unfold zr; omega)) (by first | assumption | (unfold zr; omega)) (fun (b_1 : ¬ (k : Int) < (g 18 2)) => ?_) (fun (b_1 : ¬ (¬ (k : Int) < (g 18 2))) => ?_)
    · exact hex g _ ⟨hI.1, fun j hj => hI.2 j (by rw [e182] at b_1; omega) hj⟩
    · refine zH_go 2 (c' := (71, [some (.inr (.inr (some 49))), some (.inl (i : Int)), some (.inl (pp : Int)), some (.inl (k : Int))], [.inl 56, .inl (k : Int)], (zs g hl))) rfl ?_
      refine zH_br (x := (k : Int)) (y := 56) (k := .ge) (c1 := (109, [some (.inr (.inr (some 49))), some (.inl (i : Int)), some (.inl (pp : Int)), some (.inl (k : Int))], [], (zs g hl))) (c2 := (74, [some (.inr (.inr (some 49))), some (.inl (i : Int)), some (.inl (pp : Int)), some (.inl (k : Int))], [], (zs g hl))) rfl (by first | assumption | (unfold zr; omega)) ⟨by decide, by decide⟩ (fun (b_2 : ¬ (k : Int) < 56) => ?_) (fun (b_2 : ¬ (¬ (k : Int) < 56)) => ?_)
      · exact hex g _ ⟨hI.1, fun j hj => hI.2 j (by rw [e182] at b_1; omega) hj⟩
      · obtain ⟨n, hn, hns, hnl, en, enk⟩ := hSg.2.2.2.2.2.2 k (by omega)
        refine zH_go 5 (c' := (81, [some (.inr (.inr (some 49))), some (.inl (i : Int)), some (.inl (pp : Int)), some (.inl (k : Int))], [.inl ((i : Int) + 1), .inr (.inr (some 50))], (zs g hl))) rfl ?_
        refine zH_aal (A := 50) (n := 5) (b := 51 + (i + 1)) rfl rfl (by omega) (by omega) (zhr_50 (by omega)) ?_
        show zH _ _ (82, [some (.inr (.inr (some 49))), some (.inl (i : Int)), some (.inl (pp : Int)), some (.inl (k : Int))], [.inr (.inr (some (51 + (i + 1))))], (zs g hl)) _
        refine zH_go 5 (c' := (89, [some (.inr (.inr (some 49))), some (.inl (i : Int)), some (.inl (pp : Int)), some (.inl (k : Int))], [.inl (i : Int), .inr (.inr (some 50)), .inr (.inr (some 49)), .inl (k : Int), .inr (.inr (some (51 + (i + 1))))], (zs g hl))) rfl ?_
        refine zH_aal (A := 50) (n := 5) (b := 51 + i) rfl rfl (by omega) (by omega) (zhr_50 (by omega)) ?_
        show zH _ _ (90, [some (.inr (.inr (some 49))), some (.inl (i : Int)), some (.inl (pp : Int)), some (.inl (k : Int))], [.inr (.inr (some (51 + i))), .inr (.inr (some 49)), .inl (k : Int), .inr (.inr (some (51 + (i + 1))))], (zs g hl)) _
        refine zH_go 3 (c' := (95, [some (.inr (.inr (some 49))), some (.inl (i : Int)), some (.inl (pp : Int)), some (.inl (k : Int))], [.inl (k : Int), .inr (.inr (some 18)), .inr (.inr (some (51 + i))), .inr (.inr (some 49)), .inl (k : Int), .inr (.inr (some (51 + (i + 1))))], (zs g hl))) rfl ?_
        refine zH_call (M' := 45) (as := [.inr (.inr (some 18)), .inl (k : Int)]) (T := [.inr (.inr (some (51 + i))), .inr (.inr (some 49)), .inl (k : Int), .inr (.inr (some (51 + (i + 1))))]) rfl (p_number (s := k) (by omega) (by omega) (by omega)) (fun r σ' p_3 => ?_)
        obtain ⟨rfl, rfl⟩ := p_3
        rw [en]
        show zH _ _ (98, [some (.inr (.inr (some 49))), some (.inl (i : Int)), some (.inl (pp : Int)), some (.inl (k : Int))], [.inl (n : Int), .inr (.inr (some (51 + i))), .inr (.inr (some 49)), .inl (k : Int), .inr (.inr (some (51 + (i + 1))))], (zs g hl)) _
        refine zH_go 1 (c' := (99, [some (.inr (.inr (some 49))), some (.inl (i : Int)), some (.inl (pp : Int)), some (.inl (k : Int))], [.inl (pp : Int), .inl (n : Int), .inr (.inr (some (51 + i))), .inr (.inr (some 49)), .inl (k : Int), .inr (.inr (some (51 + (i + 1))))], (zs g hl))) rfl ?_
        refine zH_call (M' := 58) (as := [.inr (.inr (some 49)), .inr (.inr (some (51 + i))), .inl (n : Int), .inl (pp : Int)]) (T := [.inl (k : Int), .inr (.inr (some (51 + (i + 1))))]) rfl (p_afT (A := 51 + i) (s := n) (pp := pp) hSg hns hpp (zsh_50 (by omega)) hAg hTg.1 hTg.2.1) (fun r σ' p_4 => ?_)
        obtain ⟨rfl, rfl⟩ := p_4
        show zH _ _ (102, [some (.inr (.inr (some 49))), some (.inl (i : Int)), some (.inl (pp : Int)), some (.inl (k : Int))], [.inl (zAf g L (51 + i) n pp), .inl (k : Int), .inr (.inr (some (51 + (i + 1))))], (zs g hl)) _
        refine zH_ias rfl (n := 56) (zsh_50 (by omega)) (by omega) (by omega) ?_
        show zH _ _ (103, [some (.inr (.inr (some 49))), some (.inl (i : Int)), some (.inl (pp : Int)), some (.inl (k : Int))], [], (zs (zup g (51 + (i + 1)) k (zAf g L (51 + i) n pp)) hl)) _
        refine zH_go 2 (c' := (57, [some (.inr (.inr (some 49))), some (.inl (i : Int)), some (.inl (pp : Int)), some (.inl ((k : Int) + 1))], [], (zs (zup g (51 + (i + 1)) k (zAf g L (51 + i) n pp)) hl))) rfl ?_
        refine ih (k + 1) (by omega) (by omega) _ ⟨fun c hc => ?_, fun j hj hj2 => ?_⟩
        · rw [← hI.1 c hc]; funext q; exact zup_ne hc
        · by_cases q : j = k
          · rw [q, zup_eq, ← e19 k, en, Int.toNat_natCast]
            exact zAf_same (fun c h1 h2 => hI.1 c (by omega)) (hI.1 (51 + i) (by omega)) (by omega)
          · rw [zup_k q]; exact hI.2 j (by omega) hj2
set_option maxRecDepth 100000 in
set_option maxHeartbeats 4000000 in
theorem p_whearT {d : Nat} {h hl : Nat → Nat → Int} {p L i pp : Nat} (hS : zSI h p L) (hT : zTD h p) (hi : i < 4) (hik : (i : Int) ≤ h 49 4) (hkn : h 49 4 ≤ 1000) (hpp : pp < p) (hA : ∀ q : Nat, (q : Int) < h 18 2 → 0 ≤ h (51 + i) q ∧ h (51 + i) q ≤ 100000) (hH : ∀ j : Nat, j < 4 → zr (h 56 j)) : zQ (d + 3) 57 [.inr (.inr (some 49)), .inl (i : Int), .inl (pp : Int)] (zs h hl) (fun r σ' => r = none ∧ ((σ' = zs h hl ∧ (i : Int) < h 49 4 ∧ h 56 i = (pp : Int)) ∨ ∃ g : Nat → Nat → Int, σ' = zs g hl ∧ (∀ c : Nat, c ≠ 49 → c ≠ 56 → c ≠ 51 + (i + 1) → g c = h c) ∧ g 49 4 = (i : Int) + 1 ∧ (∀ j : Nat, j ≠ 4 → g 49 j = h 49 j) ∧ g 56 i = (pp : Int) ∧ (∀ j : Nat, j ≠ i → g 56 j = h 56 j) ∧ ∀ j : Nat, (j : Int) < h 18 2 → g (51 + (i + 1)) j = zAf h L (51 + i) (Int.toNat (h 19 j)) pp)) := by
  have hp6 := hS.2.1
  have hHi := hH i hi
  refine zQ_of (Nat.le_of_ble_eq_true rfl) ?_
  show zH (d + 2) 57 (0, [some (.inr (.inr (some 49))), some (.inl (i : Int)), some (.inl (pp : Int)), none], [], (zs h hl)) _
  refine zH_go 1 (c' := (1, [some (.inr (.inr (some 49))), some (.inl (i : Int)), some (.inl (pp : Int)), none], [.inl (i : Int)], (zs h hl))) rfl ?_
  refine zH_br (x := (i : Int)) (y := 0) (k := .lt) (c1 := (21, [some (.inr (.inr (some 49))), some (.inl (i : Int)), some (.inl (pp : Int)), none], [], (zs h hl))) (c2 := (4, [some (.inr (.inr (some 49))), some (.inl (i : Int)), some (.inl (pp : Int)), none], [], (zs h hl))) rfl (by first | assumption | (unfold zr; omega)) ⟨by decide, by decide⟩ (fun (b_1 : (i : Int) < 0) => ?_) (fun (b_1 : ¬ ((i : Int) < 0)) => ?_)
  · exfalso
    omega
  · refine zH_go 4 (c' := (10, [some (.inr (.inr (some 49))), some (.inl (i : Int)), some (.inl (pp : Int)), none], [.inl 4, .inl (i : Int)], (zs h hl))) rfl ?_
    refine zH_br (x := (i : Int)) (y := 4) (k := .ge) (c1 := (21, [some (.inr (.inr (some 49))), some (.inl (i : Int)), some (.inl (pp : Int)), none], [], (zs h hl))) (c2 := (13, [some (.inr (.inr (some 49))), some (.inl (i : Int)), some (.inl (pp : Int)), none], [], (zs h hl))) rfl (by first | assumption | (unfold zr; omega)) ⟨by decide, by decide⟩ (fun (b_2 : ¬ (i : Int) < 4) => ?_) (fun (b_2 : ¬ (¬ (i : Int) < 4)) => ?_)
    · exfalso
      omega
    · refine zH_go 3 (c' := (18, [some (.inr (.inr (some 49))), some (.inl (i : Int)), some (.inl (pp : Int)), none], [.inl (h 49 4), .inl (i : Int)], (zs h hl))) rfl ?_
      refine zH_br (x := (i : Int)) (y := (h 49 4)) (k := .le) (c1 := (22, [some (.inr (.inr (some 49))), some (.inl (i : Int)), some (.inl (pp : Int)), none], [], (zs h hl))) (c2 := (21, [some (.inr (.inr (some 49))), some (.inl (i : Int)), some (.inl (pp : Int)), none], [], (zs h hl))) rfl (by first | assumption | (unfold zr; omega)) (by first | assumption | (unfold zr; omega)) (fun (b_3 : ¬ (h 49 4) < (i : Int)) => ?_) (fun (b_3 : ¬ (¬ (h 49 4) < (i : Int))) => ?_)
      · refine zH_go 3 (c' := (27, [some (.inr (.inr (some 49))), some (.inl (i : Int)), some (.inl (pp : Int)), none], [.inl (h 49 4), .inl (i : Int)], (zs h hl))) rfl ?_
        refine zH_br (x := (i : Int)) (y := (h 49 4)) (k := .ge) (c1 := (41, [some (.inr (.inr (some 49))), some (.inl (i : Int)), some (.inl (pp : Int)), none], [], (zs h hl))) (c2 := (30, [some (.inr (.inr (some 49))), some (.inl (i : Int)), some (.inl (pp : Int)), none], [], (zs h hl))) rfl (by first | assumption | (unfold zr; omega)) (by first | assumption | (unfold zr; omega)) (fun (b_4 : ¬ (i : Int) < (h 49 4)) => ?_) (fun (b_4 : ¬ (¬ (i : Int) < (h 49 4))) => ?_)
        · refine zH_go 4 (c' := (47, [some (.inr (.inr (some 49))), some (.inl (i : Int)), some (.inl (pp : Int)), none], [.inl (pp : Int), .inl (i : Int), .inr (.inr (some 56))], (zs h hl))) rfl ?_
          refine zH_np (P := 0 ≤ (i : Int) ∧ (i : Int) < ((4 : Nat) : Int)) (c' := (48, [some (.inr (.inr (some 49))), some (.inl (i : Int)), some (.inl (pp : Int)), none], [], (zs (zup h 56 i (pp : Int)) hl))) rfl ⟨by omega, by omega⟩ ?_
          refine zH_go 7 (c' := (57, [some (.inr (.inr (some 49))), some (.inl (i : Int)), some (.inl (pp : Int)), some (.inl 0)], [], (zs (zup (zup h 56 i (pp : Int)) 49 4 ((i : Int) + 1)) hl))) rfl ?_
          obtain ⟨h1, e1⟩ : ∃ h1, h1 = (zup (zup h 56 i (pp : Int)) 49 4 ((i : Int) + 1)) := ⟨_, rfl⟩
          have k1 : ∀ c : Nat, c ≠ 49 → c ≠ 56 → h1 c = h c := fun c hc hd => by rw [e1]; funext q; rw [zup_ne hc, zup_ne hd]
          have kw : h1 49 4 = (i : Int) + 1 := by rw [e1, zup_eq]
          have kr : ∀ j : Nat, j ≠ 4 → h1 49 j = h 49 j := fun j hj => by rw [e1, zup_k hj, zup_ne (by decide)]
          have kh : h1 56 i = (pp : Int) := by rw [e1, zup_ne (by decide), zup_eq]
          have ko : ∀ j : Nat, j ≠ i → h1 56 j = h 56 j := fun j hj => by rw [e1, zup_ne (by decide), zup_k hj]
          rw [← e1]
          refine wh_loopT (p := p) (zSI_same hS (k1 18 (by decide) (by decide)) (k1 19 (by decide) (by decide)) (k1 20 (by decide) (by decide))) (zTD_same hS.2.1 hT (fun c hc => k1 c (by omega) (by omega))) hi hpp (fun q hq => by rw [k1 18 (by decide) (by decide)] at hq; rw [k1 (51 + i) (by omega) (by omega)]; exact hA q hq) (fun g x3 hI => ?_) 57 0 (by omega) (by omega) h1 ⟨fun c hc => rfl, fun j hj => absurd hj (Nat.not_lt_zero j)⟩
          show zH _ _ (109, [some (.inr (.inr (some 49))), some (.inl (i : Int)), some (.inl (pp : Int)), x3], [], (zs g hl)) _
          refine zH_ret (v := none) rfl (fun q => absurd q (by decide)) ?_
          refine ⟨rfl, Or.inr ⟨g, rfl, fun c h1 h2 h3 => (hI.1 c h3).trans (k1 c h1 h2), ?_, fun j hj => ?_, ?_, fun j hj => ?_, fun j hj => ?_⟩⟩
          · rw [hI.1 49 (by omega)]; exact kw
          · rw [hI.1 49 (by omega)]; exact kr j hj
          · rw [hI.1 56 (by omega)]; exact kh
          · rw [hI.1 56 (by omega)]; exact ko j hj
          · have q := hI.2 j (by rw [k1 18 (by decide) (by decide)]; exact hj)
            rw [q, k1 19 (by decide) (by decide)]
            exact zAf_same (fun c h1 h2 => k1 c (by omega) (by omega)) (k1 (51 + i) (by omega) (by omega)) (by omega)
        · refine zH_go 3 (c' := (35, [some (.inr (.inr (some 49))), some (.inl (i : Int)), some (.inl (pp : Int)), none], [.inl (i : Int), .inr (.inr (some 56))], (zs h hl))) rfl ?_
          refine zH_np (P := 0 ≤ (i : Int) ∧ (i : Int) < ((4 : Nat) : Int)) (c' := (36, [some (.inr (.inr (some 49))), some (.inl (i : Int)), some (.inl (pp : Int)), none], [.inl (h 56 i)], (zs h hl))) rfl ⟨by omega, by omega⟩ ?_
          refine zH_go 1 (c' := (37, [some (.inr (.inr (some 49))), some (.inl (i : Int)), some (.inl (pp : Int)), none], [.inl (pp : Int), .inl (h 56 i)], (zs h hl))) rfl ?_
          refine zH_br (x := (h 56 i)) (y := (pp : Int)) (k := .ne) (c1 := (41, [some (.inr (.inr (some 49))), some (.inl (i : Int)), some (.inl (pp : Int)), none], [], (zs h hl))) (c2 := (40, [some (.inr (.inr (some 49))), some (.inl (i : Int)), some (.inl (pp : Int)), none], [], (zs h hl))) rfl (by first | assumption | (unfold zr; omega)) (by first | assumption | (unfold zr; omega)) (fun (b_5 : ¬ (h 56 i) = (pp : Int)) => ?_) (fun (b_5 : ¬ (¬ (h 56 i) = (pp : Int))) => ?_)
          · refine zH_go 4 (c' := (47, [some (.inr (.inr (some 49))), some (.inl (i : Int)), some (.inl (pp : Int)), none], [.inl (pp : Int), .inl (i : Int), .inr (.inr (some 56))], (zs h hl))) rfl ?_
            refine zH_np (P := 0 ≤ (i : Int) ∧ (i : Int) < ((4 : Nat) : Int)) (c' := (48, [some (.inr (.inr (some 49))), some (.inl (i : Int)), some (.inl (pp : Int)), none], [], (zs (zup h 56 i (pp : Int)) hl))) rfl ⟨by omega, by omega⟩ ?_
            refine zH_go 7 (c' := (57, [some (.inr (.inr (some 49))), some (.inl (i : Int)), some (.inl (pp : Int)), some (.inl 0)], [], (zs (zup (zup h 56 i (pp : Int)) 49 4 ((i : Int) + 1)) hl))) rfl ?_
            obtain ⟨h1, e1⟩ : ∃ h1, h1 = (zup (zup h 56 i (pp : Int)) 49 4 ((i : Int) + 1)) := ⟨_, rfl⟩
            have k1 : ∀ c : Nat, c ≠ 49 → c ≠ 56 → h1 c = h c := fun c hc hd => by rw [e1]; funext q; rw [zup_ne hc, zup_ne hd]
            have kw : h1 49 4 = (i : Int) + 1 := by rw [e1, zup_eq]
            have kr : ∀ j : Nat, j ≠ 4 → h1 49 j = h 49 j := fun j hj => by rw [e1, zup_k hj, zup_ne (by decide)]
            have kh : h1 56 i = (pp : Int) := by rw [e1, zup_ne (by decide), zup_eq]
            have ko : ∀ j : Nat, j ≠ i → h1 56 j = h 56 j := fun j hj => by rw [e1, zup_ne (by decide), zup_k hj]
            rw [← e1]
            refine wh_loopT (p := p) (zSI_same hS (k1 18 (by decide) (by decide)) (k1 19 (by decide) (by decide)) (k1 20 (by decide) (by decide))) (zTD_same hS.2.1 hT (fun c hc => k1 c (by omega) (by omega))) hi hpp (fun q hq => by rw [k1 18 (by decide) (by decide)] at hq; rw [k1 (51 + i) (by omega) (by omega)]; exact hA q hq) (fun g x3 hI => ?_) 57 0 (by omega) (by omega) h1 ⟨fun c hc => rfl, fun j hj => absurd hj (Nat.not_lt_zero j)⟩
            show zH _ _ (109, [some (.inr (.inr (some 49))), some (.inl (i : Int)), some (.inl (pp : Int)), x3], [], (zs g hl)) _
            refine zH_ret (v := none) rfl (fun q => absurd q (by decide)) ?_
            refine ⟨rfl, Or.inr ⟨g, rfl, fun c h1 h2 h3 => (hI.1 c h3).trans (k1 c h1 h2), ?_, fun j hj => ?_, ?_, fun j hj => ?_, fun j hj => ?_⟩⟩
            · rw [hI.1 49 (by omega)]; exact kw
            · rw [hI.1 49 (by omega)]; exact kr j hj
            · rw [hI.1 56 (by omega)]; exact kh
            · rw [hI.1 56 (by omega)]; exact ko j hj
            · have q := hI.2 j (by rw [k1 18 (by decide) (by decide)]; exact hj)
              rw [q, k1 19 (by decide) (by decide)]
              exact zAf_same (fun c h1 h2 => k1 c (by omega) (by omega)) (k1 (51 + i) (by omega) (by omega)) (by omega)
          · refine zH_ret (v := none) rfl (fun q => absurd q (by decide)) ?_
            exact ⟨rfl, Or.inl ⟨rfl, by omega, by omega⟩⟩
      · exfalso
        omega
set_option maxRecDepth 100000 in
set_option maxHeartbeats 4000000 in
theorem p_wofT {d : Nat} {h hl : Nat → Nat → Int} {n s : Nat} (hn : n < 5) (hs : s < 512) (h20 : 0 ≤ h 20 s ∧ h 20 s < 56) : zQ (d + 2) 59 [.inr (.inr (some 49)), .inl (n : Int), .inl (s : Int)] (zs h hl) (zI1 (h (51 + n) (Int.toNat (h 20 s))) (zs h hl)) := by
  refine zQ_of (Nat.le_of_ble_eq_true rfl) ?_
  show zH (d + 1) 59 (0, [some (.inr (.inr (some 49))), some (.inl (n : Int)), some (.inl (s : Int)), none], [], (zs h hl)) _
  refine zH_go 3 (c' := (5, [some (.inr (.inr (some 49))), some (.inl (n : Int)), some (.inl (s : Int)), none], [.inl (s : Int), .inr (.inr (some 18))], (zs h hl))) rfl ?_
  refine zH_call (M' := 44) (as := [.inr (.inr (some 18)), .inl (s : Int)]) (T := []) rfl (p_slot (n := s) (by omega)) (fun r σ' p_1 => ?_)
  obtain ⟨rfl, rfl⟩ := p_1
  show zH _ _ (8, [some (.inr (.inr (some 49))), some (.inl (n : Int)), some (.inl (s : Int)), none], [.inl (h 20 s)], (zs h hl)) _
  refine zH_go 2 (c' := (10, [some (.inr (.inr (some 49))), some (.inl (n : Int)), some (.inl (s : Int)), some (.inl (h 20 s))], [.inl (n : Int)], (zs h hl))) rfl ?_
  refine zH_br (x := (n : Int)) (y := 0) (k := .lt) (c1 := (32, [some (.inr (.inr (some 49))), some (.inl (n : Int)), some (.inl (s : Int)), some (.inl (h 20 s))], [], (zs h hl))) (c2 := (13, [some (.inr (.inr (some 49))), some (.inl (n : Int)), some (.inl (s : Int)), some (.inl (h 20 s))], [], (zs h hl))) rfl (by first | assumption | (unfold zr; omega)) ⟨by decide, by decide⟩ (fun (b_2 : (n : Int) < 0) => ?_) (fun (b_2 : ¬ ((n : Int) < 0)) => ?_)
  · refine zH_go 1 (c' := (34, [some (.inr (.inr (some 49))), some (.inl (n : Int)), some (.inl (s : Int)), some (.inl (h 20 s))], [.inl 1000000], (zs h hl))) rfl ?_
    exfalso
    omega
  · refine zH_go 4 (c' := (19, [some (.inr (.inr (some 49))), some (.inl (n : Int)), some (.inl (s : Int)), some (.inl (h 20 s))], [.inl 5, .inl (n : Int)], (zs h hl))) rfl ?_
    refine zH_br (x := (n : Int)) (y := 5) (k := .ge) (c1 := (32, [some (.inr (.inr (some 49))), some (.inl (n : Int)), some (.inl (s : Int)), some (.inl (h 20 s))], [], (zs h hl))) (c2 := (22, [some (.inr (.inr (some 49))), some (.inl (n : Int)), some (.inl (s : Int)), some (.inl (h 20 s))], [], (zs h hl))) rfl (by first | assumption | (unfold zr; omega)) ⟨by decide, by decide⟩ (fun (b_3 : ¬ (n : Int) < 5) => ?_) (fun (b_3 : ¬ (¬ (n : Int) < 5)) => ?_)
    · refine zH_go 1 (c' := (34, [some (.inr (.inr (some 49))), some (.inl (n : Int)), some (.inl (s : Int)), some (.inl (h 20 s))], [.inl 1000000], (zs h hl))) rfl ?_
      exfalso
      omega
    · refine zH_go 1 (c' := (23, [some (.inr (.inr (some 49))), some (.inl (n : Int)), some (.inl (s : Int)), some (.inl (h 20 s))], [.inl (h 20 s)], (zs h hl))) rfl ?_
      refine zH_br (x := (h 20 s)) (y := 0) (k := .lt) (c1 := (32, [some (.inr (.inr (some 49))), some (.inl (n : Int)), some (.inl (s : Int)), some (.inl (h 20 s))], [], (zs h hl))) (c2 := (26, [some (.inr (.inr (some 49))), some (.inl (n : Int)), some (.inl (s : Int)), some (.inl (h 20 s))], [], (zs h hl))) rfl (by first | assumption | (unfold zr; omega)) ⟨by decide, by decide⟩ (fun (b_4 : (h 20 s) < 0) => ?_) (fun (b_4 : ¬ ((h 20 s) < 0)) => ?_)
      · refine zH_go 1 (c' := (34, [some (.inr (.inr (some 49))), some (.inl (n : Int)), some (.inl (s : Int)), some (.inl (h 20 s))], [.inl 1000000], (zs h hl))) rfl ?_
        exfalso
        omega
      · refine zH_go 2 (c' := (29, [some (.inr (.inr (some 49))), some (.inl (n : Int)), some (.inl (s : Int)), some (.inl (h 20 s))], [.inl 56, .inl (h 20 s)], (zs h hl))) rfl ?_
        refine zH_br (x := (h 20 s)) (y := 56) (k := .lt) (c1 := (35, [some (.inr (.inr (some 49))), some (.inl (n : Int)), some (.inl (s : Int)), some (.inl (h 20 s))], [], (zs h hl))) (c2 := (32, [some (.inr (.inr (some 49))), some (.inl (n : Int)), some (.inl (s : Int)), some (.inl (h 20 s))], [], (zs h hl))) rfl (by first | assumption | (unfold zr; omega)) ⟨by decide, by decide⟩ (fun (b_5 : (h 20 s) < 56) => ?_) (fun (b_5 : ¬ ((h 20 s) < 56)) => ?_)
        · refine zH_go 3 (c' := (40, [some (.inr (.inr (some 49))), some (.inl (n : Int)), some (.inl (s : Int)), some (.inl (h 20 s))], [.inl (n : Int), .inr (.inr (some 50))], (zs h hl))) rfl ?_
          refine zH_aal (A := 50) (n := 5) (b := 51 + n) rfl rfl (by omega) (by omega) (zhr_50 (by omega)) ?_
          show zH _ _ (41, [some (.inr (.inr (some 49))), some (.inl (n : Int)), some (.inl (s : Int)), some (.inl (h 20 s))], [.inr (.inr (some (51 + n)))], (zs h hl)) _
          refine zH_go 1 (c' := (42, [some (.inr (.inr (some 49))), some (.inl (n : Int)), some (.inl (s : Int)), some (.inl (h 20 s))], [.inl (h 20 s), .inr (.inr (some (51 + n)))], (zs h hl))) rfl ?_
          refine zH_ial rfl (n := 56) (zsh_50 (by omega)) (by omega) (by omega) ?_
          show zH _ _ (43, [some (.inr (.inr (some 49))), some (.inl (n : Int)), some (.inl (s : Int)), some (.inl (h 20 s))], [.inl (h (51 + n) (Int.toNat (h 20 s)))], (zs h hl)) _
          refine zH_ret (v := some (.inl (h (51 + n) (Int.toNat (h 20 s))))) rfl (fun q => absurd q (by decide)) ?_
          exact ⟨rfl, rfl⟩
        · refine zH_go 1 (c' := (34, [some (.inr (.inr (some 49))), some (.inl (n : Int)), some (.inl (s : Int)), some (.inl (h 20 s))], [.inl 1000000], (zs h hl))) rfl ?_
          exfalso
          omega
set_option maxRecDepth 100000 in
set_option maxHeartbeats 4000000 in
theorem wl_loopD {d : Nat} {h hl : Nat → Nat → Int} {p L n0 : Nat} {Post : Option zV → zS → Prop} (hS : zSI h p L) (hn0 : n0 < 14) (hA : ∀ q : Nat, (q : Int) < h 18 2 → 0 ≤ h (24 + n0) q ∧ h (24 + n0) q ≤ 100000)
    (hex : ∀ (best : Int) (k : Nat), h 18 2 = (k : Int) → ((0 ≤ best ∧ best ≤ 1000000) ∧ (∀ j : Nat, j < k → best ≤ h (24 + n0) j) ∧ (best = 1000000 ∨ ∃ j : Nat, j < k ∧ best = h (24 + n0) j)) → zH (d + 2) 60 (40, [some (.inr (.inr (some 22))), some (.inl (n0 : Int)), some (.inl best), some (.inl (k : Int))], [], (zs h hl)) Post) : ∀ (q k : Nat), (k : Int) ≤ h 18 2 → 57 ≤ k + q → ∀ (best : Int), ((0 ≤ best ∧ best ≤ 1000000) ∧ (∀ j : Nat, j < k → best ≤ h (24 + n0) j) ∧ (best = 1000000 ∨ ∃ j : Nat, j < k ∧ best = h (24 + n0) j)) → zH (d + 2) 60 (5, [some (.inr (.inr (some 22))), some (.inl (n0 : Int)), some (.inl best), some (.inl (k : Int))], [], (zs h hl)) Post := by
  have hs2 := hS.2.2.2.1
  intro q
  induction q with
  | zero => intro k h1 h2; exact absurd h2 (by omega)
  | succ q ih =>
    intro k hk hq best hI
    have hs2 := hS.2.2.2.1
    have hI0 := hI.1
    refine zH_go 4 (c' := (13, [some (.inr (.inr (some 22))), some (.inl (n0 : Int)), some (.inl best), some (.inl (k : Int))], [.inl (h 18 2), .inl (k : Int)], (zs h hl))) rfl ?_
    refine zH_br (x := (k : Int)) (y := (h 18 2)) (k := .ge) (c1 := (40, [some (.inr (.inr (some 22))), some (.inl (n0 : Int)), some (.inl best), some (.inl (k : Int))], [], (zs h hl))) (c2 := (16, [some (.inr (.inr (some 22))), some (.inl (n0 : Int)), some (.inl best), some (.inl (k : Int))], [], (zs h hl))) rfl (by first | assumption | (unfold zr; omega)) (by first | assumption | (unfold zr; omega)) (fun (b_1 : ¬ (k : Int) < (h 18 2)) => ?_) (fun (b_1 : ¬ (¬ (k : Int) < (h 18 2))) => ?_)
    · exact hex _ k (by omega) hI
    · obtain ⟨n, hn, hns, hnl, en, enk⟩ := hS.2.2.2.2.2.2 k (by omega)
      have hAk := hA k (by omega)
      have em : h (24 + n0) (Int.toNat (h 20 n)) = h (24 + n0) k := by rw [enk, Int.toNat_natCast]
      refine zH_go 6 (c' := (24, [some (.inr (.inr (some 22))), some (.inl (n0 : Int)), some (.inl best), some (.inl (k : Int))], [.inl (k : Int), .inr (.inr (some 18)), .inl (n0 : Int), .inr (.inr (some 22)), .inl best], (zs h hl))) rfl ?_
      refine zH_call (M' := 45) (as := [.inr (.inr (some 18)), .inl (k : Int)]) (T := [.inl (n0 : Int), .inr (.inr (some 22)), .inl best]) rfl (p_number (s := k) (by omega) (by omega) (by omega)) (fun r σ' p_2 => ?_)
      obtain ⟨rfl, rfl⟩ := p_2
      rw [en]
      show zH _ _ (27, [some (.inr (.inr (some 22))), some (.inl (n0 : Int)), some (.inl best), some (.inl (k : Int))], [.inl (n : Int), .inl (n0 : Int), .inr (.inr (some 22)), .inl best], (zs h hl)) _
      refine zH_call (M' := 59) (as := [.inr (.inr (some 22)), .inl (n0 : Int), .inl (n : Int)]) (T := [.inl best]) rfl (p_wofD (n := n0) (s := n) hn0 hn (by omega)) (fun r σ' p_3 => ?_)
      obtain ⟨rfl, rfl⟩ := p_3
      show zH _ _ (30, [some (.inr (.inr (some 22))), some (.inl (n0 : Int)), some (.inl best), some (.inl (k : Int))], [.inl (h (24 + n0) (Int.toNat (h 20 n))), .inl best], (zs h hl)) _
      refine zH_np (P := zr best ∧ zr (h (24 + n0) (Int.toNat (h 20 n)))) (c' := (33, [some (.inr (.inr (some 22))), some (.inl (n0 : Int)), some (.inl best), some (.inl (k : Int))], [.inl (if (h (24 + n0) (Int.toNat (h 20 n))) < best then (h (24 + n0) (Int.toNat (h 20 n))) else best)], (zs h hl))) rfl ⟨(by first | assumption | (unfold zr; omega)), (by first | assumption | (unfold zr; omega))⟩ ?_
      obtain ⟨m_4, em_4, fm_4⟩ := zmin_spec best (h (24 + n0) (Int.toNat (h 20 n)))
      rw [em_4]
      refine zH_go 3 (c' := (5, [some (.inr (.inr (some 22))), some (.inl (n0 : Int)), some (.inl m_4), some (.inl ((k : Int) + 1))], [], (zs h hl))) rfl ?_
      refine ih (k + 1) (by omega) (by omega) _ ⟨⟨by omega, by omega⟩, fun j hj => ?_, ?_⟩
      · by_cases q : j = k
        · rw [q]; omega
        · have := hI.2.1 j (by omega); omega
      · rcases fm_4.2.2 with q | q
        · rcases hI.2.2 with z | ⟨j, z1, z2⟩
          · exact Or.inl (q.trans z)
          · exact Or.inr ⟨j, by omega, q.trans z2⟩
        · exact Or.inr ⟨k, by omega, q.trans em⟩
set_option maxRecDepth 100000 in
set_option maxHeartbeats 4000000 in
theorem p_wlowD {d : Nat} {h hl : Nat → Nat → Int} {p L n0 : Nat} (hS : zSI h p L) (hn0 : n0 < 14) (hA : ∀ q : Nat, (q : Int) < h 18 2 → 0 ≤ h (24 + n0) q ∧ h (24 + n0) q ≤ 100000) (hne : ∃ j : Nat, (j : Int) < h 18 2) : zQ (d + 3) 60 [.inr (.inr (some 22)), .inl (n0 : Int)] (zs h hl) (fun r σ' => ∃ v : Int, r = some (.inl v) ∧ (∀ j : Nat, (j : Int) < h 18 2 → v ≤ h (24 + n0) j) ∧ (∃ j : Nat, (j : Int) < h 18 2 ∧ v = h (24 + n0) j) ∧ σ' = zs h hl) := by
  have hs2 := hS.2.2.2.1
  refine zQ_of (Nat.le_of_ble_eq_true rfl) ?_
  show zH (d + 2) 60 (0, [some (.inr (.inr (some 22))), some (.inl (n0 : Int)), none, none], [], (zs h hl)) _
  refine zH_go 4 (c' := (5, [some (.inr (.inr (some 22))), some (.inl (n0 : Int)), some (.inl 1000000), some (.inl 0)], [], (zs h hl))) rfl ?_
  refine wl_loopD hS hn0 hA (fun best k hk hI => ?_) 57 0 (by omega) (by omega) 1000000 ⟨⟨by omega, by omega⟩, fun j hj => absurd hj (Nat.not_lt_zero j), Or.inl rfl⟩
  show zH _ _ (40, [some (.inr (.inr (some 22))), some (.inl (n0 : Int)), some (.inl best), some (.inl (k : Int))], [], (zs h hl)) _
  refine zH_go 1 (c' := (41, [some (.inr (.inr (some 22))), some (.inl (n0 : Int)), some (.inl best), some (.inl (k : Int))], [.inl best], (zs h hl))) rfl ?_
  refine zH_ret (v := some (.inl best)) rfl (fun q => absurd q (by decide)) ?_
  obtain ⟨j, hj⟩ := hne
  have h1 := hI.2.1 j (by omega)
  have h2 := hA j (by omega)
  have hb : ∀ j : Nat, (j : Int) < h 18 2 → best ≤ h (24 + n0) j := fun j hj => hI.2.1 j (by omega)
  refine ⟨best, rfl, hb, ?_, rfl⟩
  rcases hI.2.2 with q | ⟨j2, q1, q2⟩
  · omega
  · exact ⟨j2, by omega, q2⟩
set_option maxRecDepth 100000 in
set_option maxHeartbeats 4000000 in
theorem wl_loopT {d : Nat} {h hl : Nat → Nat → Int} {p L n0 : Nat} {Post : Option zV → zS → Prop} (hS : zSI h p L) (hn0 : n0 < 5) (hA : ∀ q : Nat, (q : Int) < h 18 2 → 0 ≤ h (51 + n0) q ∧ h (51 + n0) q ≤ 100000)
    (hex : ∀ (best : Int) (k : Nat), h 18 2 = (k : Int) → ((0 ≤ best ∧ best ≤ 1000000) ∧ (∀ j : Nat, j < k → best ≤ h (51 + n0) j) ∧ (best = 1000000 ∨ ∃ j : Nat, j < k ∧ best = h (51 + n0) j)) → zH (d + 2) 60 (40, [some (.inr (.inr (some 49))), some (.inl (n0 : Int)), some (.inl best), some (.inl (k : Int))], [], (zs h hl)) Post) : ∀ (q k : Nat), (k : Int) ≤ h 18 2 → 57 ≤ k + q → ∀ (best : Int), ((0 ≤ best ∧ best ≤ 1000000) ∧ (∀ j : Nat, j < k → best ≤ h (51 + n0) j) ∧ (best = 1000000 ∨ ∃ j : Nat, j < k ∧ best = h (51 + n0) j)) → zH (d + 2) 60 (5, [some (.inr (.inr (some 49))), some (.inl (n0 : Int)), some (.inl best), some (.inl (k : Int))], [], (zs h hl)) Post := by
  have hs2 := hS.2.2.2.1
  intro q
  induction q with
  | zero => intro k h1 h2; exact absurd h2 (by omega)
  | succ q ih =>
    intro k hk hq best hI
    have hs2 := hS.2.2.2.1
    have hI0 := hI.1
    refine zH_go 4 (c' := (13, [some (.inr (.inr (some 49))), some (.inl (n0 : Int)), some (.inl best), some (.inl (k : Int))], [.inl (h 18 2), .inl (k : Int)], (zs h hl))) rfl ?_
    refine zH_br (x := (k : Int)) (y := (h 18 2)) (k := .ge) (c1 := (40, [some (.inr (.inr (some 49))), some (.inl (n0 : Int)), some (.inl best), some (.inl (k : Int))], [], (zs h hl))) (c2 := (16, [some (.inr (.inr (some 49))), some (.inl (n0 : Int)), some (.inl best), some (.inl (k : Int))], [], (zs h hl))) rfl (by first | assumption | (unfold zr; omega)) (by first | assumption | (unfold zr; omega)) (fun (b_1 : ¬ (k : Int) < (h 18 2)) => ?_) (fun (b_1 : ¬ (¬ (k : Int) < (h 18 2))) => ?_)
    · exact hex _ k (by omega) hI
    · obtain ⟨n, hn, hns, hnl, en, enk⟩ := hS.2.2.2.2.2.2 k (by omega)
      have hAk := hA k (by omega)
      have em : h (51 + n0) (Int.toNat (h 20 n)) = h (51 + n0) k := by rw [enk, Int.toNat_natCast]
      refine zH_go 6 (c' := (24, [some (.inr (.inr (some 49))), some (.inl (n0 : Int)), some (.inl best), some (.inl (k : Int))], [.inl (k : Int), .inr (.inr (some 18)), .inl (n0 : Int), .inr (.inr (some 49)), .inl best], (zs h hl))) rfl ?_
      refine zH_call (M' := 45) (as := [.inr (.inr (some 18)), .inl (k : Int)]) (T := [.inl (n0 : Int), .inr (.inr (some 49)), .inl best]) rfl (p_number (s := k) (by omega) (by omega) (by omega)) (fun r σ' p_2 => ?_)
      obtain ⟨rfl, rfl⟩ := p_2
      rw [en]
      show zH _ _ (27, [some (.inr (.inr (some 49))), some (.inl (n0 : Int)), some (.inl best), some (.inl (k : Int))], [.inl (n : Int), .inl (n0 : Int), .inr (.inr (some 49)), .inl best], (zs h hl)) _
      refine zH_call (M' := 59) (as := [.inr (.inr (some 49)), .inl (n0 : Int), .inl (n : Int)]) (T := [.inl best]) rfl (p_wofT (n := n0) (s := n) hn0 hn (by omega)) (fun r σ' p_3 => ?_)
      obtain ⟨rfl, rfl⟩ := p_3
      show zH _ _ (30, [some (.inr (.inr (some 49))), some (.inl (n0 : Int)), some (.inl best), some (.inl (k : Int))], [.inl (h (51 + n0) (Int.toNat (h 20 n))), .inl best], (zs h hl)) _
      refine zH_np (P := zr best ∧ zr (h (51 + n0) (Int.toNat (h 20 n)))) (c' := (33, [some (.inr (.inr (some 49))), some (.inl (n0 : Int)), some (.inl best), some (.inl (k : Int))], [.inl (if (h (51 + n0) (Int.toNat (h 20 n))) < best then (h (51 + n0) (Int.toNat (h 20 n))) else best)], (zs h hl))) rfl ⟨(by first | assumption | (unfold zr; omega)), (by first | assumption | (unfold zr; omega))⟩ ?_
      obtain ⟨m_4, em_4, fm_4⟩ := zmin_spec best (h (51 + n0) (Int.toNat (h 20 n)))
      rw [em_4]
      refine zH_go 3 (c' := (5, [some (.inr (.inr (some 49))), some (.inl (n0 : Int)), some (.inl m_4), some (.inl ((k : Int) + 1))], [], (zs h hl))) rfl ?_
      refine ih (k + 1) (by omega) (by omega) _ ⟨⟨by omega, by omega⟩, fun j hj => ?_, ?_⟩
      · by_cases q : j = k
        · rw [q]; omega
        · have := hI.2.1 j (by omega); omega
      · rcases fm_4.2.2 with q | q
        · rcases hI.2.2 with z | ⟨j, z1, z2⟩
          · exact Or.inl (q.trans z)
          · exact Or.inr ⟨j, by omega, q.trans z2⟩
        · exact Or.inr ⟨k, by omega, q.trans em⟩
set_option maxRecDepth 100000 in
set_option maxHeartbeats 4000000 in
theorem p_wlowT {d : Nat} {h hl : Nat → Nat → Int} {p L n0 : Nat} (hS : zSI h p L) (hn0 : n0 < 5) (hA : ∀ q : Nat, (q : Int) < h 18 2 → 0 ≤ h (51 + n0) q ∧ h (51 + n0) q ≤ 100000) (hne : ∃ j : Nat, (j : Int) < h 18 2) : zQ (d + 3) 60 [.inr (.inr (some 49)), .inl (n0 : Int)] (zs h hl) (fun r σ' => ∃ v : Int, r = some (.inl v) ∧ (∀ j : Nat, (j : Int) < h 18 2 → v ≤ h (51 + n0) j) ∧ (∃ j : Nat, (j : Int) < h 18 2 ∧ v = h (51 + n0) j) ∧ σ' = zs h hl) := by
  have hs2 := hS.2.2.2.1
  refine zQ_of (Nat.le_of_ble_eq_true rfl) ?_
  show zH (d + 2) 60 (0, [some (.inr (.inr (some 49))), some (.inl (n0 : Int)), none, none], [], (zs h hl)) _
  refine zH_go 4 (c' := (5, [some (.inr (.inr (some 49))), some (.inl (n0 : Int)), some (.inl 1000000), some (.inl 0)], [], (zs h hl))) rfl ?_
  refine wl_loopT hS hn0 hA (fun best k hk hI => ?_) 57 0 (by omega) (by omega) 1000000 ⟨⟨by omega, by omega⟩, fun j hj => absurd hj (Nat.not_lt_zero j), Or.inl rfl⟩
  show zH _ _ (40, [some (.inr (.inr (some 49))), some (.inl (n0 : Int)), some (.inl best), some (.inl (k : Int))], [], (zs h hl)) _
  refine zH_go 1 (c' := (41, [some (.inr (.inr (some 49))), some (.inl (n0 : Int)), some (.inl best), some (.inl (k : Int))], [.inl best], (zs h hl))) rfl ?_
  refine zH_ret (v := some (.inl best)) rfl (fun q => absurd q (by decide)) ?_
  obtain ⟨j, hj⟩ := hne
  have h1 := hI.2.1 j (by omega)
  have h2 := hA j (by omega)
  have hb : ∀ j : Nat, (j : Int) < h 18 2 → best ≤ h (51 + n0) j := fun j hj => hI.2.1 j (by omega)
  refine ⟨best, rfl, hb, ?_, rfl⟩
  rcases hI.2.2 with q | ⟨j2, q1, q2⟩
  · omega
  · exact ⟨j2, by omega, q2⟩
