/-! The model: a day, by its calls. -/
def zBkS (k : Nat) (s : zDS) : zDS := (fun i => if i = Int.toNat (s.2.2.2.2 1 k) then Int.toNat (s.2.2.2.2 4 k) else s.1 i, fun i => if i = Int.toNat (s.2.2.2.2 1 k) then s.2.1 i - s.2.2.2.2 2 k else s.2.1 i, s.2.2.2.2 5 k, s.2.2.2.1, s.2.2.2.2)
set_option maxRecDepth 100000 in
set_option maxHeartbeats 4000000 in
theorem p_beginO {d : Nat} {h0 h hl : Nat → Nat → Int} (e0 : zup h0 104 0 0 = h) {n stand : Int} (hn : zr n) (hst : zr stand) {p r : Nat} (hW : zTown h p r) : zQ (d + 4) 124 [.inr (.inr (some 104)), .inl n, .inl stand] (zs h0 hl) (fun r' σ' => (¬ (1 ≤ n ∧ n ≤ 3 ∧ zStd (h 104 3) (Int.toNat n) stand) ∧ r' = some (.inl (-1)) ∧ σ' = zs h hl) ∨ ((1 ≤ n ∧ n ≤ 3 ∧ zStd (h 104 3) (Int.toNat n) stand) ∧ zTorn h ∧ r' = some (.inl (-2)) ∧ ∃ g : Nat → Nat → Int, σ' = zs g hl ∧ (∀ c : Nat, c ≠ 108 → g c = h c) ∧ (∀ i j : Nat, i < 6 → j < 6 → g 108 (6 * i + j) = zFa h i j)) ∨ ((1 ≤ n ∧ n ≤ 3 ∧ zStd (h 104 3) (Int.toNat n) stand) ∧ ¬ zTorn h ∧ r' = some (.inl 1) ∧ ∃ (L B : Nat) (g : Nat → Nat → Int), n = (L : Int) ∧ stand = (B : Int) ∧ σ' = zs g hl ∧ zSb p L B = true ∧ (g 104 9 = (L : Int) ∧ g 104 10 = (B : Int) ∧ g 104 15 = 0 ∧ g 104 14 = -1) ∧ (∀ c : Nat, c < 104 ∨ (105 ≤ c ∧ c < 108) ∨ (111 ≤ c ∧ c < 117) ∨ 118 ≤ c → g c = h c) ∧ (∀ j : Nat, j ≠ 9 → j ≠ 10 → j ≠ 15 → j ≠ 14 → g 104 j = h 104 j) ∧ (∀ i : Nat, i < 3 → g 109 i = ((zdg B i : Nat) : Int) ∧ g 110 i = 0) ∧ (∀ i j : Nat, i < 6 → j < 6 → g 108 (6 * i + j) = zFa h i j) ∧ ∀ j : Nat, j < 512 → g 117 j = if j = B then 0 else 100000000)) := by
  have hWc := hW
  obtain ⟨hp6, hr15, h30, h31, hp3, hr4, hMe, hTB, hCn, hPo, hRd, hLk, hGr⟩ := hWc
  have hP : 0 ≤ h 104 3 ∧ h 104 3 ≤ 6 := by omega
  refine zQ_of (Nat.le_of_ble_eq_true rfl) ?_
  show zH (d + 3) 124 (0, [some (.inr (.inr (some 104))), some (.inl n), some (.inl stand), none], [], (zs h0 hl)) _
  refine zH_go 3 (c' := (5, [some (.inr (.inr (some 104))), some (.inl n), some (.inl stand), none], [], (zs (zup h0 104 0 0) hl))) rfl ?_
  rw [e0]
  refine zH_go 1 (c' := (6, [some (.inr (.inr (some 104))), some (.inl n), some (.inl stand), none], [.inl n], (zs h hl))) rfl ?_
  refine zH_np (P := zr n) (c' := (7, [some (.inr (.inr (some 104))), some (.inl n), some (.inl stand), none], [.inr (.inl n)], (zs h hl))) rfl (by first | assumption | (unfold zr; omega)) ?_
  refine zH_go 2 (c' := (11, [some (.inr (.inr (some 104))), some (.inl n), some (.inl stand), none], [.inr (.inl 3), .inr (.inl 1), .inr (.inl n)], (zs h hl))) rfl ?_
  refine zH_call (M' := 103) (as := [.inr (.inl n), .inr (.inl 1), .inr (.inl 3)]) (T := []) rfl (p_in (by first | assumption | exact zr_l (by assumption) | (unfold zrl; omega)) ⟨by decide, by decide⟩ ⟨by decide, by decide⟩) (fun r σ' p_1 => ?_)
  rcases p_1 with ⟨rfl, b_2, rfl⟩ | ⟨rfl, b_2, rfl⟩
  · show zH _ _ (14, [some (.inr (.inr (some 104))), some (.inl n), some (.inl stand), none], [.inl 1], (zs h hl)) _
    refine zH_bf (x := 1) (y := 0) (k := .eq) (c1 := (26, [some (.inr (.inr (some 104))), some (.inl n), some (.inl stand), none], [], (zs h hl))) (c2 := (17, [some (.inr (.inr (some 104))), some (.inl n), some (.inl stand), none], [], (zs h hl))) rfl ⟨by decide, by decide⟩ ⟨by decide, by decide⟩ (by show ¬ (1 = 0); decide) ?_
    obtain ⟨L, rfl⟩ := Int.eq_ofNat_of_zero_le (show 0 ≤ n by omega)
    show zH _ _ (17, [some (.inr (.inr (some 104))), some (.inl (L : Int)), some (.inl stand), none], [], (zs h hl)) _
    refine zH_go 3 (c' := (20, [some (.inr (.inr (some 104))), some (.inl (L : Int)), some (.inl stand), none], [.inl stand, .inl (L : Int), .inr (.inr (some 104))], (zs h hl))) rfl ?_
    refine zH_call (M' := 112) (as := [.inr (.inr (some 104)), .inl (L : Int), .inl stand]) (T := []) rfl (p_isStd (L := L) (by omega) hst hP) (fun r σ' p_3 => ?_)
    rcases p_3 with ⟨rfl, b_4, rfl⟩ | ⟨rfl, b_4, rfl⟩
    · show zH _ _ (23, [some (.inr (.inr (some 104))), some (.inl (L : Int)), some (.inl stand), none], [.inl 1], (zs h hl)) _
      refine zH_bt (x := 1) (y := 0) (k := .ne) (c1 := (28, [some (.inr (.inr (some 104))), some (.inl (L : Int)), some (.inl stand), none], [], (zs h hl))) (c2 := (26, [some (.inr (.inr (some 104))), some (.inl (L : Int)), some (.inl stand), none], [], (zs h hl))) rfl ⟨by decide, by decide⟩ ⟨by decide, by decide⟩ (by show ¬ 1 = 0; decide) ?_
      refine zH_go 1 (c' := (29, [some (.inr (.inr (some 104))), some (.inl (L : Int)), some (.inl stand), none], [.inr (.inr (some 104))], (zs h hl))) rfl ?_
      refine zH_call (M' := 106) (as := [.inr (.inr (some 104))]) (T := []) rfl (p_tornO hW) (fun r' σ' pm => ?_)
      obtain ⟨g, pm, f1, f2⟩ := pm
      rcases pm with ⟨rfl, ht, rfl⟩ | ⟨rfl, ht, rfl⟩
      · show zH _ _ (32, [some (.inr (.inr (some 104))), some (.inl (L : Int)), some (.inl stand), none], [.inl 1], (zs g hl)) _
        refine zH_bf (x := 1) (y := 0) (k := .eq) (c1 := (38, [some (.inr (.inr (some 104))), some (.inl (L : Int)), some (.inl stand), none], [], (zs g hl))) (c2 := (35, [some (.inr (.inr (some 104))), some (.inl (L : Int)), some (.inl stand), none], [], (zs g hl))) rfl ⟨by decide, by decide⟩ ⟨by decide, by decide⟩ (by show ¬ (1 = 0); decide) ?_
        refine zH_go 1 (c' := (37, [some (.inr (.inr (some 104))), some (.inl (L : Int)), some (.inl stand), none], [.inl (-2)], (zs g hl))) rfl ?_
        refine zH_ret (v := some (.inl (-2))) rfl (fun q => absurd q (by decide)) ?_
        exact Or.inr (Or.inl ⟨⟨by omega, by omega, by rw [Int.toNat_natCast]; assumption⟩, ht, rfl, g, rfl, f1, f2⟩)
      · show zH _ _ (32, [some (.inr (.inr (some 104))), some (.inl (L : Int)), some (.inl stand), none], [.inl 0], (zs g hl)) _
        have hsd : zStd (h 104 3) L stand := by assumption
        obtain ⟨B, rfl⟩ := Int.eq_ofNat_of_zero_le hsd.1
        have hBs : zSb p L B = true := zSb_iff.mp (by rw [← hp3]; exact hsd)
        have hBl := zSb_lt (show L ≤ 3 by omega) hBs
        show zH _ _ (32, [some (.inr (.inr (some 104))), some (.inl (L : Int)), some (.inl (B : Int)), none], [.inl 0], (zs g hl)) _
        refine zH_bt (x := 0) (y := 0) (k := .eq) (c1 := (38, [some (.inr (.inr (some 104))), some (.inl (L : Int)), some (.inl (B : Int)), none], [], (zs g hl))) (c2 := (35, [some (.inr (.inr (some 104))), some (.inl (L : Int)), some (.inl (B : Int)), none], [], (zs g hl))) rfl ⟨by decide, by decide⟩ ⟨by decide, by decide⟩ (by show 0 = 0; decide) ?_
        refine zH_go 16 (c' := (62, [some (.inr (.inr (some 104))), some (.inl (L : Int)), some (.inl (B : Int)), some (.inl 0)], [.inl 3, .inl 0], (zs (zup (zup (zup (zup g 104 9 (L : Int)) 104 10 (B : Int)) 104 15 0) 104 14 (-1)) hl))) rfl ?_
        refine zH_bf (x := 0) (y := 3) (k := .ge) (c1 := (92, [some (.inr (.inr (some 104))), some (.inl (L : Int)), some (.inl (B : Int)), some (.inl 0)], [], (zs (zup (zup (zup (zup g 104 9 (L : Int)) 104 10 (B : Int)) 104 15 0) 104 14 (-1)) hl))) (c2 := (65, [some (.inr (.inr (some 104))), some (.inl (L : Int)), some (.inl (B : Int)), some (.inl 0)], [], (zs (zup (zup (zup (zup g 104 9 (L : Int)) 104 10 (B : Int)) 104 15 0) 104 14 (-1)) hl))) rfl ⟨by decide, by decide⟩ ⟨by decide, by decide⟩ (by show ¬ (¬ 0 < 3); decide) ?_
        refine zH_go 10 (c' := (78, [some (.inr (.inr (some 104))), some (.inl (L : Int)), some (.inl (B : Int)), some (.inl 0)], [.inl (zand (zshr (B : Int) 0) 7), .inl 0, .inr (.inr (some 109))], (zs (zup (zup (zup (zup g 104 9 (L : Int)) 104 10 (B : Int)) 104 15 0) 104 14 (-1)) hl))) rfl ?_
        rw [show (zand (zshr (B : Int) 0) 7) = ((zdg B 0 : Nat) : Int) from zdigit_ok B (by omega) 0 (by decide)]
        refine zH_np (P := 0 ≤ 0 ∧ 0 < ((3 : Nat) : Int)) (c' := (79, [some (.inr (.inr (some 104))), some (.inl (L : Int)), some (.inl (B : Int)), some (.inl 0)], [], (zs (zup (zup (zup (zup (zup g 104 9 (L : Int)) 104 10 (B : Int)) 104 15 0) 104 14 (-1)) 109 0 ((zdg B 0 : Nat) : Int)) hl))) rfl ⟨by decide, by decide⟩ ?_
        refine zH_go 4 (c' := (85, [some (.inr (.inr (some 104))), some (.inl (L : Int)), some (.inl (B : Int)), some (.inl 0)], [.inl 0, .inl 0, .inr (.inr (some 110))], (zs (zup (zup (zup (zup (zup g 104 9 (L : Int)) 104 10 (B : Int)) 104 15 0) 104 14 (-1)) 109 0 ((zdg B 0 : Nat) : Int)) hl))) rfl ?_
        refine zH_np (P := 0 ≤ 0 ∧ 0 < ((3 : Nat) : Int)) (c' := (86, [some (.inr (.inr (some 104))), some (.inl (L : Int)), some (.inl (B : Int)), some (.inl 0)], [], (zs (zup (zup (zup (zup (zup (zup g 104 9 (L : Int)) 104 10 (B : Int)) 104 15 0) 104 14 (-1)) 109 0 ((zdg B 0 : Nat) : Int)) 110 0 0) hl))) rfl ⟨by decide, by decide⟩ ?_
        refine zH_go 4 (c' := (62, [some (.inr (.inr (some 104))), some (.inl (L : Int)), some (.inl (B : Int)), some (.inl 1)], [.inl 3, .inl 1], (zs (zup (zup (zup (zup (zup (zup g 104 9 (L : Int)) 104 10 (B : Int)) 104 15 0) 104 14 (-1)) 109 0 ((zdg B 0 : Nat) : Int)) 110 0 0) hl))) rfl ?_
        refine zH_bf (x := 1) (y := 3) (k := .ge) (c1 := (92, [some (.inr (.inr (some 104))), some (.inl (L : Int)), some (.inl (B : Int)), some (.inl 1)], [], (zs (zup (zup (zup (zup (zup (zup g 104 9 (L : Int)) 104 10 (B : Int)) 104 15 0) 104 14 (-1)) 109 0 ((zdg B 0 : Nat) : Int)) 110 0 0) hl))) (c2 := (65, [some (.inr (.inr (some 104))), some (.inl (L : Int)), some (.inl (B : Int)), some (.inl 1)], [], (zs (zup (zup (zup (zup (zup (zup g 104 9 (L : Int)) 104 10 (B : Int)) 104 15 0) 104 14 (-1)) 109 0 ((zdg B 0 : Nat) : Int)) 110 0 0) hl))) rfl ⟨by decide, by decide⟩ ⟨by decide, by decide⟩ (by show ¬ (¬ 1 < 3); decide) ?_
        refine zH_go 10 (c' := (78, [some (.inr (.inr (some 104))), some (.inl (L : Int)), some (.inl (B : Int)), some (.inl 1)], [.inl (zand (zshr (B : Int) 3) 7), .inl 1, .inr (.inr (some 109))], (zs (zup (zup (zup (zup (zup (zup g 104 9 (L : Int)) 104 10 (B : Int)) 104 15 0) 104 14 (-1)) 109 0 ((zdg B 0 : Nat) : Int)) 110 0 0) hl))) rfl ?_
        rw [show (zand (zshr (B : Int) 3) 7) = ((zdg B 1 : Nat) : Int) from zdigit_ok B (by omega) 1 (by decide)]
        refine zH_np (P := 0 ≤ 1 ∧ 1 < ((3 : Nat) : Int)) (c' := (79, [some (.inr (.inr (some 104))), some (.inl (L : Int)), some (.inl (B : Int)), some (.inl 1)], [], (zs (zup (zup (zup (zup (zup (zup (zup g 104 9 (L : Int)) 104 10 (B : Int)) 104 15 0) 104 14 (-1)) 109 0 ((zdg B 0 : Nat) : Int)) 110 0 0) 109 1 ((zdg B 1 : Nat) : Int)) hl))) rfl ⟨by decide, by decide⟩ ?_
        refine zH_go 4 (c' := (85, [some (.inr (.inr (some 104))), some (.inl (L : Int)), some (.inl (B : Int)), some (.inl 1)], [.inl 0, .inl 1, .inr (.inr (some 110))], (zs (zup (zup (zup (zup (zup (zup (zup g 104 9 (L : Int)) 104 10 (B : Int)) 104 15 0) 104 14 (-1)) 109 0 ((zdg B 0 : Nat) : Int)) 110 0 0) 109 1 ((zdg B 1 : Nat) : Int)) hl))) rfl ?_
        refine zH_np (P := 0 ≤ 1 ∧ 1 < ((3 : Nat) : Int)) (c' := (86, [some (.inr (.inr (some 104))), some (.inl (L : Int)), some (.inl (B : Int)), some (.inl 1)], [], (zs (zup (zup (zup (zup (zup (zup (zup (zup g 104 9 (L : Int)) 104 10 (B : Int)) 104 15 0) 104 14 (-1)) 109 0 ((zdg B 0 : Nat) : Int)) 110 0 0) 109 1 ((zdg B 1 : Nat) : Int)) 110 1 0) hl))) rfl ⟨by decide, by decide⟩ ?_
        refine zH_go 4 (c' := (62, [some (.inr (.inr (some 104))), some (.inl (L : Int)), some (.inl (B : Int)), some (.inl 2)], [.inl 3, .inl 2], (zs (zup (zup (zup (zup (zup (zup (zup (zup g 104 9 (L : Int)) 104 10 (B : Int)) 104 15 0) 104 14 (-1)) 109 0 ((zdg B 0 : Nat) : Int)) 110 0 0) 109 1 ((zdg B 1 : Nat) : Int)) 110 1 0) hl))) rfl ?_
        refine zH_bf (x := 2) (y := 3) (k := .ge) (c1 := (92, [some (.inr (.inr (some 104))), some (.inl (L : Int)), some (.inl (B : Int)), some (.inl 2)], [], (zs (zup (zup (zup (zup (zup (zup (zup (zup g 104 9 (L : Int)) 104 10 (B : Int)) 104 15 0) 104 14 (-1)) 109 0 ((zdg B 0 : Nat) : Int)) 110 0 0) 109 1 ((zdg B 1 : Nat) : Int)) 110 1 0) hl))) (c2 := (65, [some (.inr (.inr (some 104))), some (.inl (L : Int)), some (.inl (B : Int)), some (.inl 2)], [], (zs (zup (zup (zup (zup (zup (zup (zup (zup g 104 9 (L : Int)) 104 10 (B : Int)) 104 15 0) 104 14 (-1)) 109 0 ((zdg B 0 : Nat) : Int)) 110 0 0) 109 1 ((zdg B 1 : Nat) : Int)) 110 1 0) hl))) rfl ⟨by decide, by decide⟩ ⟨by decide, by decide⟩ (by show ¬ (¬ 2 < 3); decide) ?_
        refine zH_go 10 (c' := (78, [some (.inr (.inr (some 104))), some (.inl (L : Int)), some (.inl (B : Int)), some (.inl 2)], [.inl (zand (zshr (B : Int) 6) 7), .inl 2, .inr (.inr (some 109))], (zs (zup (zup (zup (zup (zup (zup (zup (zup g 104 9 (L : Int)) 104 10 (B : Int)) 104 15 0) 104 14 (-1)) 109 0 ((zdg B 0 : Nat) : Int)) 110 0 0) 109 1 ((zdg B 1 : Nat) : Int)) 110 1 0) hl))) rfl ?_
        rw [show (zand (zshr (B : Int) 6) 7) = ((zdg B 2 : Nat) : Int) from zdigit_ok B (by omega) 2 (by decide)]
        refine zH_np (P := 0 ≤ 2 ∧ 2 < ((3 : Nat) : Int)) (c' := (79, [some (.inr (.inr (some 104))), some (.inl (L : Int)), some (.inl (B : Int)), some (.inl 2)], [], (zs (zup (zup (zup (zup (zup (zup (zup (zup (zup g 104 9 (L : Int)) 104 10 (B : Int)) 104 15 0) 104 14 (-1)) 109 0 ((zdg B 0 : Nat) : Int)) 110 0 0) 109 1 ((zdg B 1 : Nat) : Int)) 110 1 0) 109 2 ((zdg B 2 : Nat) : Int)) hl))) rfl ⟨by decide, by decide⟩ ?_
        refine zH_go 4 (c' := (85, [some (.inr (.inr (some 104))), some (.inl (L : Int)), some (.inl (B : Int)), some (.inl 2)], [.inl 0, .inl 2, .inr (.inr (some 110))], (zs (zup (zup (zup (zup (zup (zup (zup (zup (zup g 104 9 (L : Int)) 104 10 (B : Int)) 104 15 0) 104 14 (-1)) 109 0 ((zdg B 0 : Nat) : Int)) 110 0 0) 109 1 ((zdg B 1 : Nat) : Int)) 110 1 0) 109 2 ((zdg B 2 : Nat) : Int)) hl))) rfl ?_
        refine zH_np (P := 0 ≤ 2 ∧ 2 < ((3 : Nat) : Int)) (c' := (86, [some (.inr (.inr (some 104))), some (.inl (L : Int)), some (.inl (B : Int)), some (.inl 2)], [], (zs (zup (zup (zup (zup (zup (zup (zup (zup (zup (zup g 104 9 (L : Int)) 104 10 (B : Int)) 104 15 0) 104 14 (-1)) 109 0 ((zdg B 0 : Nat) : Int)) 110 0 0) 109 1 ((zdg B 1 : Nat) : Int)) 110 1 0) 109 2 ((zdg B 2 : Nat) : Int)) 110 2 0) hl))) rfl ⟨by decide, by decide⟩ ?_
        refine zH_go 4 (c' := (62, [some (.inr (.inr (some 104))), some (.inl (L : Int)), some (.inl (B : Int)), some (.inl 3)], [.inl 3, .inl 3], (zs (zup (zup (zup (zup (zup (zup (zup (zup (zup (zup g 104 9 (L : Int)) 104 10 (B : Int)) 104 15 0) 104 14 (-1)) 109 0 ((zdg B 0 : Nat) : Int)) 110 0 0) 109 1 ((zdg B 1 : Nat) : Int)) 110 1 0) 109 2 ((zdg B 2 : Nat) : Int)) 110 2 0) hl))) rfl ?_
        refine zH_bt (x := 3) (y := 3) (k := .ge) (c1 := (92, [some (.inr (.inr (some 104))), some (.inl (L : Int)), some (.inl (B : Int)), some (.inl 3)], [], (zs (zup (zup (zup (zup (zup (zup (zup (zup (zup (zup g 104 9 (L : Int)) 104 10 (B : Int)) 104 15 0) 104 14 (-1)) 109 0 ((zdg B 0 : Nat) : Int)) 110 0 0) 109 1 ((zdg B 1 : Nat) : Int)) 110 1 0) 109 2 ((zdg B 2 : Nat) : Int)) 110 2 0) hl))) (c2 := (65, [some (.inr (.inr (some 104))), some (.inl (L : Int)), some (.inl (B : Int)), some (.inl 3)], [], (zs (zup (zup (zup (zup (zup (zup (zup (zup (zup (zup g 104 9 (L : Int)) 104 10 (B : Int)) 104 15 0) 104 14 (-1)) 109 0 ((zdg B 0 : Nat) : Int)) 110 0 0) 109 1 ((zdg B 1 : Nat) : Int)) 110 1 0) 109 2 ((zdg B 2 : Nat) : Int)) 110 2 0) hl))) rfl ⟨by decide, by decide⟩ ⟨by decide, by decide⟩ (by show ¬ 3 < 3; decide) ?_
        refine zH_go 3 (c' := (97, [some (.inr (.inr (some 104))), some (.inl (L : Int)), some (.inl (B : Int)), some (.inl 3)], [.inr (.inr (some 117)), .inr (.inr (some 104))], (zs (zup (zup (zup (zup (zup (zup (zup (zup (zup (zup g 104 9 (L : Int)) 104 10 (B : Int)) 104 15 0) 104 14 (-1)) 109 0 ((zdg B 0 : Nat) : Int)) 110 0 0) 109 1 ((zdg B 1 : Nat) : Int)) 110 1 0) 109 2 ((zdg B 2 : Nat) : Int)) 110 2 0) hl))) rfl ?_
        obtain ⟨g2, e2⟩ : ∃ g2, g2 = (zup (zup (zup (zup (zup (zup (zup (zup (zup (zup g 104 9 (L : Int)) 104 10 (B : Int)) 104 15 0) 104 14 (-1)) 109 0 ((zdg B 0 : Nat) : Int)) 110 0 0) 109 1 ((zdg B 1 : Nat) : Int)) 110 1 0) 109 2 ((zdg B 2 : Nat) : Int)) 110 2 0) := ⟨_, rfl⟩
        rw [← e2]
        have hB2 : g2 104 10 = (B : Int) := by rw [e2]; simp [zup_at]
        refine zH_call (M' := 117) (as := [.inr (.inr (some 104)), .inr (.inr (some 117))]) (T := []) rfl (p_starts117 (h := g2) hBl hB2) (fun r' σ' ps => ?_)
        obtain ⟨rfl, g3, rfl, s1, s2, s3⟩ := ps
        show zH _ _ (100, [some (.inr (.inr (some 104))), some (.inl (L : Int)), some (.inl (B : Int)), some (.inl 3)], [], (zs g3 hl)) _
        refine zH_go 1 (c' := (101, [some (.inr (.inr (some 104))), some (.inl (L : Int)), some (.inl (B : Int)), some (.inl 3)], [.inl 1], (zs g3 hl))) rfl ?_
        refine zH_ret (v := some (.inl 1)) rfl (fun q => absurd q (by decide)) ?_
        refine Or.inr (Or.inr ⟨⟨by omega, by omega, by rw [Int.toNat_natCast]; exact hsd⟩, ht, rfl, L, B, g3, rfl, rfl, rfl, hBs, ?_, fun c hc => ?_, fun j h1 h2 h3 h4 => ?_, fun i hi => ?_, fun i j hi hj => ?_, fun j hj => ?_⟩)
        · rw [s1 104 (by decide), e2]; simp [zup_at]
        · rw [s1 c (by omega), e2]; funext q; simp only [zup_at]; rw [if_neg (by omega), if_neg (by omega), if_neg (by omega), if_neg (by omega), if_neg (by omega), if_neg (by omega), if_neg (by omega), if_neg (by omega), if_neg (by omega), if_neg (by omega), f1 c (by omega)]
        · rw [s1 104 (by decide), e2]; simp only [zup_at]; rw [if_neg (by omega), if_neg (by omega), if_neg (by omega), if_neg (by omega), if_neg (by omega), if_neg (by omega), if_neg (by omega), if_neg (by omega), if_neg (by omega), if_neg (by omega), f1 104 (by decide)]
        · rw [s1 109 (by decide), s1 110 (by decide), e2]
          rcases (show i = 0 ∨ i = 1 ∨ i = 2 by omega) with rfl | rfl | rfl <;> simp [zup_at]
        · rw [s1 108 (by decide), ← f2 i j hi hj, e2]; simp [zup_at]
        · exact s3 j hj
    · show zH _ _ (23, [some (.inr (.inr (some 104))), some (.inl (L : Int)), some (.inl stand), none], [.inl 0], (zs h hl)) _
      refine zH_bf (x := 0) (y := 0) (k := .ne) (c1 := (28, [some (.inr (.inr (some 104))), some (.inl (L : Int)), some (.inl stand), none], [], (zs h hl))) (c2 := (26, [some (.inr (.inr (some 104))), some (.inl (L : Int)), some (.inl stand), none], [], (zs h hl))) rfl ⟨by decide, by decide⟩ ⟨by decide, by decide⟩ (by show ¬ (¬ 0 = 0); decide) ?_
      refine zH_go 1 (c' := (27, [some (.inr (.inr (some 104))), some (.inl (L : Int)), some (.inl stand), none], [.inl (-1)], (zs h hl))) rfl ?_
      refine zH_ret (v := some (.inl (-1))) rfl (fun q => absurd q (by decide)) ?_
      exact Or.inl ⟨fun q => (by assumption : ¬ zStd (h 104 3) L stand) (by have := q.2.2; rw [Int.toNat_natCast] at this; exact this), rfl, rfl⟩
  · show zH _ _ (14, [some (.inr (.inr (some 104))), some (.inl n), some (.inl stand), none], [.inl 0], (zs h hl)) _
    refine zH_bt (x := 0) (y := 0) (k := .eq) (c1 := (26, [some (.inr (.inr (some 104))), some (.inl n), some (.inl stand), none], [], (zs h hl))) (c2 := (17, [some (.inr (.inr (some 104))), some (.inl n), some (.inl stand), none], [], (zs h hl))) rfl ⟨by decide, by decide⟩ ⟨by decide, by decide⟩ (by show 0 = 0; decide) ?_
    refine zH_go 1 (c' := (27, [some (.inr (.inr (some 104))), some (.inl n), some (.inl stand), none], [.inl (-1)], (zs h hl))) rfl ?_
    refine zH_ret (v := some (.inl (-1))) rfl (fun q => absurd q (by decide)) ?_
    exact Or.inl ⟨fun q => by have := q.1; have := q.2.1; omega, rfl, rfl⟩
set_option maxRecDepth 100000 in
set_option maxHeartbeats 4000000 in
theorem p_endO {d : Nat} {h0 h hl : Nat → Nat → Int} (e0 : zup h0 104 0 0 = h) (h9 : 0 ≤ h 104 9 ∧ h 104 9 ≤ 3) : zQ (d + 1) 125 [.inr (.inr (some 104))] (zs h0 hl) (fun r' σ' => (h 104 9 = 0 ∧ r' = some (.inl (-2)) ∧ σ' = zs h hl) ∨ (0 < h 104 9 ∧ r' = some (.inl (h 104 15)) ∧ σ' = zs (zup (zup h 104 9 0) 104 15 0) hl)) := by
  refine zQ_of (Nat.le_of_ble_eq_true rfl) ?_
  show zH d 125 (0, [some (.inr (.inr (some 104))), none], [], (zs h0 hl)) _
  refine zH_go 3 (c' := (5, [some (.inr (.inr (some 104))), none], [], (zs (zup h0 104 0 0) hl))) rfl ?_
  rw [e0]
  refine zH_go 2 (c' := (9, [some (.inr (.inr (some 104))), none], [.inl (h 104 9)], (zs h hl))) rfl ?_
  refine zH_br (x := (h 104 9)) (y := 0) (k := .ne) (c1 := (15, [some (.inr (.inr (some 104))), none], [], (zs h hl))) (c2 := (12, [some (.inr (.inr (some 104))), none], [], (zs h hl))) rfl (by first | assumption | (unfold zr; omega)) ⟨by decide, by decide⟩ (fun (b_1 : ¬ (h 104 9) = 0) => ?_) (fun (b_1 : ¬ (¬ (h 104 9) = 0)) => ?_)
  · refine zH_go 10 (c' := (31, [some (.inr (.inr (some 104))), some (.inl (h 104 15))], [.inl (h 104 15)], (zs (zup (zup h 104 9 0) 104 15 0) hl))) rfl ?_
    refine zH_ret (v := some (.inl (h 104 15))) rfl (fun q => absurd q (by decide)) ?_
    exact Or.inr ⟨by omega, rfl, rfl⟩
  · refine zH_go 1 (c' := (14, [some (.inr (.inr (some 104))), none], [.inl (-2)], (zs h hl))) rfl ?_
    refine zH_ret (v := some (.inl (-2))) rfl (fun q => absurd q (by decide)) ?_
    exact Or.inl ⟨by omega, rfl, rfl⟩
set_option maxRecDepth 100000 in
set_option maxHeartbeats 4000000 in
theorem p_ruleO {d : Nat} {h0 h hl : Nat → Nat → Int} (e0 : zup h0 104 0 0 = h) {k : Int} (hk : zr k) : zQ (d + 2) 126 [.inr (.inr (some 104)), .inl k] (zs h0 hl) (fun r' σ' => (¬ (0 ≤ k ∧ k ≤ 3) ∧ r' = some (.inl (-1)) ∧ σ' = zs h hl) ∨ ((0 ≤ k ∧ k ≤ 3) ∧ r' = some (.inl (h 104 11)) ∧ σ' = zs (zup h 104 11 k) hl)) := by
  refine zQ_of (Nat.le_of_ble_eq_true rfl) ?_
  show zH (d + 1) 126 (0, [some (.inr (.inr (some 104))), some (.inl k), none], [], (zs h0 hl)) _
  refine zH_go 3 (c' := (5, [some (.inr (.inr (some 104))), some (.inl k), none], [], (zs (zup h0 104 0 0) hl))) rfl ?_
  rw [e0]
  refine zH_go 1 (c' := (6, [some (.inr (.inr (some 104))), some (.inl k), none], [.inl k], (zs h hl))) rfl ?_
  refine zH_np (P := zr k) (c' := (7, [some (.inr (.inr (some 104))), some (.inl k), none], [.inr (.inl k)], (zs h hl))) rfl (by first | assumption | (unfold zr; omega)) ?_
  refine zH_go 2 (c' := (11, [some (.inr (.inr (some 104))), some (.inl k), none], [.inr (.inl 3), .inr (.inl 0), .inr (.inl k)], (zs h hl))) rfl ?_
  refine zH_call (M' := 103) (as := [.inr (.inl k), .inr (.inl 0), .inr (.inl 3)]) (T := []) rfl (p_in (by first | assumption | exact zr_l (by assumption) | (unfold zrl; omega)) ⟨by decide, by decide⟩ ⟨by decide, by decide⟩) (fun r σ' p_1 => ?_)
  rcases p_1 with ⟨rfl, b_2, rfl⟩ | ⟨rfl, b_2, rfl⟩
  · show zH _ _ (14, [some (.inr (.inr (some 104))), some (.inl k), none], [.inl 1], (zs h hl)) _
    refine zH_bt (x := 1) (y := 0) (k := .ne) (c1 := (19, [some (.inr (.inr (some 104))), some (.inl k), none], [], (zs h hl))) (c2 := (17, [some (.inr (.inr (some 104))), some (.inl k), none], [], (zs h hl))) rfl ⟨by decide, by decide⟩ ⟨by decide, by decide⟩ (by show ¬ 1 = 0; decide) ?_
    refine zH_go 7 (c' := (30, [some (.inr (.inr (some 104))), some (.inl k), some (.inl (h 104 11))], [.inl (h 104 11)], (zs (zup h 104 11 k) hl))) rfl ?_
    refine zH_ret (v := some (.inl (h 104 11))) rfl (fun q => absurd q (by decide)) ?_
    exact Or.inr ⟨by omega, rfl, rfl⟩
  · show zH _ _ (14, [some (.inr (.inr (some 104))), some (.inl k), none], [.inl 0], (zs h hl)) _
    refine zH_bf (x := 0) (y := 0) (k := .ne) (c1 := (19, [some (.inr (.inr (some 104))), some (.inl k), none], [], (zs h hl))) (c2 := (17, [some (.inr (.inr (some 104))), some (.inl k), none], [], (zs h hl))) rfl ⟨by decide, by decide⟩ ⟨by decide, by decide⟩ (by show ¬ (¬ 0 = 0); decide) ?_
    refine zH_go 1 (c' := (18, [some (.inr (.inr (some 104))), some (.inl k), none], [.inl (-1)], (zs h hl))) rfl ?_
    refine zH_ret (v := some (.inl (-1))) rfl (fun q => absurd q (by decide)) ?_
    exact Or.inl ⟨by omega, rfl, rfl⟩
set_option maxRecDepth 100000 in
set_option maxHeartbeats 4000000 in
theorem p_callO {d : Nat} {h0 h hl : Nat → Nat → Int} (e0 : zup h0 104 0 0 = h) {a : Int} (ha : zr a) (hP : 0 ≤ h 104 3 ∧ h 104 3 ≤ 6) (h9 : 0 ≤ h 104 9 ∧ h 104 9 ≤ 3) (h15 : 0 ≤ h 104 15 ∧ h 104 15 ≤ 12) {p L B n : Nat} {s : zDS} (hD : 0 < h 104 9 → zMH h p L B n s ∧ zDm h hl p L B n s) {K : Int} (hK11 : h 104 11 = K) (hK : 0 ≤ K ∧ K ≤ 3) : zQ (d + 6) 128 [.inr (.inr (some 104)), .inl a] (zs h0 hl) (fun r' σ' => (∃ x : Int, ¬ x = 0 ∧ zCDec (h 104 3) (h 104 9) (h 104 15) a x ∧ r' = some (.inl x) ∧ σ' = zs h hl) ∨ (zCDec (h 104 3) (h 104 9) (h 104 15) a 0 ∧ ∃ (l : Nat) (tr : Int) (g gl : Nat → Nat → Int), zPkS h L B K n (Int.toNat a) s l tr ∧ r' = some (.inl (l : Int)) ∧ σ' = zs g gl ∧ zDm g gl p L B (n + 1) (zUp h K n (Int.toNat a) l tr s) ∧ (∀ c : Nat, c < 104 → g c = h c) ∧ (∀ c : Nat, (105 ≤ c ∧ c < 109) ∨ 118 ≤ c → g c = h c) ∧ (∀ j : Nat, j ≠ 14 → j ≠ 15 → g 104 j = h 104 j) ∧ ∀ c : Nat, c ≠ 104 → gl c = hl c)) := by
  refine zQ_of (Nat.le_of_ble_eq_true rfl) ?_
  show zH (d + 5) 128 (0, [some (.inr (.inr (some 104))), some (.inl a)], [], (zs h0 hl)) _
  refine zH_go 3 (c' := (5, [some (.inr (.inr (some 104))), some (.inl a)], [], (zs (zup h0 104 0 0) hl))) rfl ?_
  rw [e0]
  refine zH_go 2 (c' := (7, [some (.inr (.inr (some 104))), some (.inl a)], [.inl a, .inr (.inr (some 104))], (zs h hl))) rfl ?_
  refine zH_call (M' := 104) (as := [.inr (.inr (some 104)), .inl a]) (T := []) rfl (p_isPl (by first | assumption | (unfold zr; omega)) hP) (fun r σ' p_1 => ?_)
  rcases p_1 with ⟨rfl, b_2, rfl⟩ | ⟨rfl, b_2, rfl⟩
  · show zH _ _ (10, [some (.inr (.inr (some 104))), some (.inl a)], [.inl 1], (zs h hl)) _
    refine zH_bt (x := 1) (y := 0) (k := .ne) (c1 := (15, [some (.inr (.inr (some 104))), some (.inl a)], [], (zs h hl))) (c2 := (13, [some (.inr (.inr (some 104))), some (.inl a)], [], (zs h hl))) rfl ⟨by decide, by decide⟩ ⟨by decide, by decide⟩ (by show ¬ 1 = 0; decide) ?_
    refine zH_go 2 (c' := (19, [some (.inr (.inr (some 104))), some (.inl a)], [.inl (h 104 9)], (zs h hl))) rfl ?_
    refine zH_br (x := (h 104 9)) (y := 0) (k := .ne) (c1 := (27, [some (.inr (.inr (some 104))), some (.inl a)], [], (zs h hl))) (c2 := (22, [some (.inr (.inr (some 104))), some (.inl a)], [], (zs h hl))) rfl (by first | assumption | (unfold zr; omega)) ⟨by decide, by decide⟩ (fun (b_3 : ¬ (h 104 9) = 0) => ?_) (fun (b_3 : ¬ (¬ (h 104 9) = 0)) => ?_)
    · obtain ⟨hH, hM⟩ := hD (by omega)
      have hHc := hH
      obtain ⟨hL3, hp6, h3, hT, hF, hBs, hn12, hs6, hsp, hsu, htu, hpl, hdg, hpo⟩ := hHc
      have hMc := hM
      obtain ⟨m9, m10, m14, m15, mas, mrec, mfa, mrow, mtr⟩ := hMc
      obtain ⟨u, rfl⟩ := Int.eq_ofNat_of_zero_le (show 0 ≤ a by omega)
      show zH _ _ (27, [some (.inr (.inr (some 104))), some (.inl (u : Int))], [], (zs h hl)) _
      refine zH_go 3 (c' := (33, [some (.inr (.inr (some 104))), some (.inl (u : Int))], [.inl 12, .inl (h 104 15)], (zs h hl))) rfl ?_
      refine zH_br (x := (h 104 15)) (y := 12) (k := .ne) (c1 := (41, [some (.inr (.inr (some 104))), some (.inl (u : Int))], [], (zs h hl))) (c2 := (36, [some (.inr (.inr (some 104))), some (.inl (u : Int))], [], (zs h hl))) rfl (by first | assumption | (unfold zr; omega)) ⟨by decide, by decide⟩ (fun (b_4 : ¬ (h 104 15) = 12) => ?_) (fun (b_4 : ¬ (¬ (h 104 15) = 12)) => ?_)
      · refine zH_go 2 (c' := (43, [some (.inr (.inr (some 104))), some (.inl (u : Int))], [.inl (u : Int), .inr (.inr (some 104))], (zs h hl))) rfl ?_
        refine zH_call (M' := 127) (as := [.inr (.inr (some 104)), .inl (u : Int)]) (T := []) rfl (p_comes (pp := u) hH hM (by omega) (by omega) hK11 hK) (fun r' σ' pm => ?_)
        obtain ⟨l, tr, g, gl, c1, rfl, rfl, c2⟩ := pm
        show zH _ _ (46, [some (.inr (.inr (some 104))), some (.inl (u : Int))], [.inl (l : Int)], (zs g gl)) _
        refine zH_ret (v := some (.inl (l : Int))) rfl (fun q => absurd q (by decide)) ?_
        refine Or.inr ⟨Or.inr (Or.inr (Or.inr ⟨by omega, by omega, by omega, rfl⟩)), ?_⟩
        rw [Int.toNat_natCast]
        exact ⟨l, tr, g, gl, c1, rfl, rfl, c2⟩
      · refine zH_go 2 (c' := (46, [some (.inr (.inr (some 104))), some (.inl (u : Int))], [.inl (-3)], (zs h hl))) rfl ?_
        refine zH_ret (v := some (.inl (-3))) rfl (fun q => absurd q (by decide)) ?_
        exact Or.inl ⟨_, by decide, Or.inr (Or.inr (Or.inl ⟨by omega, by omega, by omega, rfl⟩)), rfl, rfl⟩
    · refine zH_go 2 (c' := (46, [some (.inr (.inr (some 104))), some (.inl a)], [.inl (-2)], (zs h hl))) rfl ?_
      refine zH_ret (v := some (.inl (-2))) rfl (fun q => absurd q (by decide)) ?_
      exact Or.inl ⟨_, by decide, Or.inr (Or.inl ⟨by omega, by omega, rfl⟩), rfl, rfl⟩
  · show zH _ _ (10, [some (.inr (.inr (some 104))), some (.inl a)], [.inl 0], (zs h hl)) _
    refine zH_bf (x := 0) (y := 0) (k := .ne) (c1 := (15, [some (.inr (.inr (some 104))), some (.inl a)], [], (zs h hl))) (c2 := (13, [some (.inr (.inr (some 104))), some (.inl a)], [], (zs h hl))) rfl ⟨by decide, by decide⟩ ⟨by decide, by decide⟩ (by show ¬ (¬ 0 = 0); decide) ?_
    refine zH_go 1 (c' := (14, [some (.inr (.inr (some 104))), some (.inl a)], [.inl (-1)], (zs h hl))) rfl ?_
    refine zH_ret (v := some (.inl (-1))) rfl (fun q => absurd q (by decide)) ?_
    exact Or.inl ⟨_, by decide, Or.inl ⟨by omega, rfl⟩, rfl, rfl⟩
set_option maxRecDepth 100000 in
set_option maxHeartbeats 4000000 in
theorem p_backO {d : Nat} {h0 h hl : Nat → Nat → Int} (e0 : zup h0 104 0 0 = h) (hP : 0 ≤ h 104 3 ∧ h 104 3 ≤ 6) (h9 : 0 ≤ h 104 9 ∧ h 104 9 ≤ 3) (h15 : 0 ≤ h 104 15 ∧ h 104 15 ≤ 12) {p L B n : Nat} {s : zDS} (hD : 0 < h 104 9 → zMH h p L B n s ∧ zDm h hl p L B n s) (hrec : ∀ k : Nat, n = k + 1 → (0 ≤ s.2.2.2.2 1 k ∧ s.2.2.2.2 1 k < 3) ∧ 0 ≤ s.2.2.2.2 4 k) : zQ (d + 1) 129 [.inr (.inr (some 104))] (zs h0 hl) (fun r' σ' => ((h 104 9 = 0 ∨ h 104 15 = 0) ∧ r' = some (.inl (-2)) ∧ σ' = zs h hl) ∨ ∃ k : Nat, n = k + 1 ∧ r' = some (.inl (k : Int)) ∧ ∃ g : Nat → Nat → Int, σ' = zs g hl ∧ zDm g hl p L B k (zBkS k s) ∧ (∀ c : Nat, c < 104 → g c = h c) ∧ (∀ c : Nat, (105 ≤ c ∧ c < 109) ∨ 111 ≤ c → g c = h c) ∧ ∀ j : Nat, j ≠ 14 → j ≠ 15 → g 104 j = h 104 j) := by
  refine zQ_of (Nat.le_of_ble_eq_true rfl) ?_
  show zH d 129 (0, [some (.inr (.inr (some 104))), none], [], (zs h0 hl)) _
  refine zH_go 3 (c' := (5, [some (.inr (.inr (some 104))), none], [], (zs (zup h0 104 0 0) hl))) rfl ?_
  rw [e0]
  refine zH_go 2 (c' := (9, [some (.inr (.inr (some 104))), none], [.inl (h 104 9)], (zs h hl))) rfl ?_
  refine zH_br (x := (h 104 9)) (y := 0) (k := .eq) (c1 := (19, [some (.inr (.inr (some 104))), none], [], (zs h hl))) (c2 := (12, [some (.inr (.inr (some 104))), none], [], (zs h hl))) rfl (by first | assumption | (unfold zr; omega)) ⟨by decide, by decide⟩ (fun (b_1 : (h 104 9) = 0) => ?_) (fun (b_1 : ¬ ((h 104 9) = 0)) => ?_)
  · refine zH_go 1 (c' := (21, [some (.inr (.inr (some 104))), none], [.inl (-2)], (zs h hl))) rfl ?_
    refine zH_ret (v := some (.inl (-2))) rfl (fun q => absurd q (by decide)) ?_
    exact Or.inl ⟨by omega, rfl, rfl⟩
  · refine zH_go 2 (c' := (16, [some (.inr (.inr (some 104))), none], [.inl (h 104 15)], (zs h hl))) rfl ?_
    refine zH_br (x := (h 104 15)) (y := 0) (k := .ne) (c1 := (22, [some (.inr (.inr (some 104))), none], [], (zs h hl))) (c2 := (19, [some (.inr (.inr (some 104))), none], [], (zs h hl))) rfl (by first | assumption | (unfold zr; omega)) ⟨by decide, by decide⟩ (fun (b_2 : ¬ (h 104 15) = 0) => ?_) (fun (b_2 : ¬ (¬ (h 104 15) = 0)) => ?_)
    · obtain ⟨hH, hM⟩ := hD (by omega)
      have hHc := hH
      obtain ⟨hL3, hp6, h3, hT, hF, hBs, hn12, hs6, hsp, hsu, htu, hpl, hdg, hpo⟩ := hHc
      have hMc := hM
      obtain ⟨m9, m10, m14, m15, mas, mrec, mfa, mrow, mtr⟩ := hMc
      obtain ⟨k, rfl⟩ : ∃ k, n = k + 1 := ⟨n - 1, by omega⟩
      obtain ⟨hr1, hr4⟩ := hrec k rfl
      obtain ⟨l, el⟩ := Int.eq_ofNat_of_zero_le hr1.1
      have e1 : h 112 k = (l : Int) := by rw [← el]; exact mrec 1 k (by decide) (by omega)
      have e2 : h 113 k = s.2.2.2.2 2 k := mrec 2 k (by decide) (by omega)
      have e4 : h 115 k = s.2.2.2.2 4 k := mrec 4 k (by decide) (by omega)
      have e5 : h 116 k = s.2.2.2.2 5 k := mrec 5 k (by decide) (by omega)
      have ea : h 110 l = s.2.1 l := (mas l (by omega)).2
      have m15b : h 104 15 - 1 = (k : Int) := by omega
      refine zH_go 6 (c' := (32, [some (.inr (.inr (some 104))), none], [], (zs (zup h 104 15 ((h 104 15) - 1)) hl))) rfl ?_
      rw [m15b]
      show zH _ _ (32, [some (.inr (.inr (some 104))), none], [], (zs (zup h 104 15 (k : Int)) hl)) _
      refine zH_go 4 (c' := (40, [some (.inr (.inr (some 104))), none], [.inl (k : Int), .inr (.inr (some 112))], (zs (zup h 104 15 (k : Int)) hl))) rfl ?_
      refine zH_np (P := 0 ≤ (k : Int) ∧ (k : Int) < ((12 : Nat) : Int)) (c' := (41, [some (.inr (.inr (some 104))), none], [.inl (h 112 k)], (zs (zup h 104 15 (k : Int)) hl))) rfl ⟨by omega, by omega⟩ ?_
      rw [e1]
      refine zH_go 8 (c' := (55, [some (.inr (.inr (some 104))), some (.inl (l : Int))], [.inl (k : Int), .inr (.inr (some 115)), .inl (l : Int), .inr (.inr (some 109))], (zs (zup h 104 15 (k : Int)) hl))) rfl ?_
      refine zH_np (P := 0 ≤ (k : Int) ∧ (k : Int) < ((12 : Nat) : Int)) (c' := (56, [some (.inr (.inr (some 104))), some (.inl (l : Int))], [.inl (h 115 k), .inl (l : Int), .inr (.inr (some 109))], (zs (zup h 104 15 (k : Int)) hl))) rfl ⟨by omega, by omega⟩ ?_
      rw [e4]
      refine zH_np (P := 0 ≤ (l : Int) ∧ (l : Int) < ((3 : Nat) : Int)) (c' := (57, [some (.inr (.inr (some 104))), some (.inl (l : Int))], [], (zs (zup (zup h 104 15 (k : Int)) 109 l (s.2.2.2.2 4 k)) hl))) rfl ⟨by omega, by omega⟩ ?_
      refine zH_go 4 (c' := (63, [some (.inr (.inr (some 104))), some (.inl (l : Int))], [.inl (l : Int), .inr (.inr (some 110)), .inl (l : Int), .inr (.inr (some 110))], (zs (zup (zup h 104 15 (k : Int)) 109 l (s.2.2.2.2 4 k)) hl))) rfl ?_
      refine zH_np (P := 0 ≤ (l : Int) ∧ (l : Int) < ((3 : Nat) : Int)) (c' := (64, [some (.inr (.inr (some 104))), some (.inl (l : Int))], [.inl (h 110 l), .inl (l : Int), .inr (.inr (some 110))], (zs (zup (zup h 104 15 (k : Int)) 109 l (s.2.2.2.2 4 k)) hl))) rfl ⟨by omega, by omega⟩ ?_
      refine zH_go 4 (c' := (72, [some (.inr (.inr (some 104))), some (.inl (l : Int))], [.inl (k : Int), .inr (.inr (some 113)), .inl (h 110 l), .inl (l : Int), .inr (.inr (some 110))], (zs (zup (zup h 104 15 (k : Int)) 109 l (s.2.2.2.2 4 k)) hl))) rfl ?_
      refine zH_np (P := 0 ≤ (k : Int) ∧ (k : Int) < ((12 : Nat) : Int)) (c' := (73, [some (.inr (.inr (some 104))), some (.inl (l : Int))], [.inl (h 113 k), .inl (h 110 l), .inl (l : Int), .inr (.inr (some 110))], (zs (zup (zup h 104 15 (k : Int)) 109 l (s.2.2.2.2 4 k)) hl))) rfl ⟨by omega, by omega⟩ ?_
      rw [e2]
      refine zH_go 1 (c' := (74, [some (.inr (.inr (some 104))), some (.inl (l : Int))], [.inl ((h 110 l) - (s.2.2.2.2 2 k)), .inl (l : Int), .inr (.inr (some 110))], (zs (zup (zup h 104 15 (k : Int)) 109 l (s.2.2.2.2 4 k)) hl))) rfl ?_
      refine zH_np (P := 0 ≤ (l : Int) ∧ (l : Int) < ((3 : Nat) : Int)) (c' := (75, [some (.inr (.inr (some 104))), some (.inl (l : Int))], [], (zs (zup (zup (zup h 104 15 (k : Int)) 109 l (s.2.2.2.2 4 k)) 110 l ((h 110 l) - (s.2.2.2.2 2 k))) hl))) rfl ⟨by omega, by omega⟩ ?_
      refine zH_go 5 (c' := (84, [some (.inr (.inr (some 104))), some (.inl (l : Int))], [.inl (k : Int), .inr (.inr (some 116)), .inr (.inr (some 104))], (zs (zup (zup (zup h 104 15 (k : Int)) 109 l (s.2.2.2.2 4 k)) 110 l ((h 110 l) - (s.2.2.2.2 2 k))) hl))) rfl ?_
      refine zH_np (P := 0 ≤ (k : Int) ∧ (k : Int) < ((12 : Nat) : Int)) (c' := (85, [some (.inr (.inr (some 104))), some (.inl (l : Int))], [.inl (h 116 k), .inr (.inr (some 104))], (zs (zup (zup (zup h 104 15 (k : Int)) 109 l (s.2.2.2.2 4 k)) 110 l ((h 110 l) - (s.2.2.2.2 2 k))) hl))) rfl ⟨by omega, by omega⟩ ?_
      rw [e5]
      refine zH_go 3 (c' := (92, [some (.inr (.inr (some 104))), some (.inl (l : Int))], [.inl (k : Int)], (zs (zup (zup (zup (zup h 104 15 (k : Int)) 109 l (s.2.2.2.2 4 k)) 110 l ((h 110 l) - (s.2.2.2.2 2 k))) 104 14 (s.2.2.2.2 5 k)) hl))) rfl ?_
      refine zH_ret (v := some (.inl (k : Int))) rfl (fun q => absurd q (by decide)) ?_
      refine Or.inr ⟨k, rfl, rfl, _, rfl, ?_, fun c hc => by funext q; rw [zup_ne (by omega), zup_ne (by omega), zup_ne (by omega), zup_ne (by omega)], fun c hc => by funext q; rw [zup_ne (by omega), zup_ne (by omega), zup_ne (by omega), zup_ne (by omega)], fun j h1 h2 => by rw [zup_k h1, zup_ne (by decide), zup_ne (by decide), zup_k h2]⟩
      have u1 : ∀ c : Nat, c ≠ 104 → c ≠ 109 → c ≠ 110 → (zup (zup (zup (zup h 104 15 (k : Int)) 109 l (s.2.2.2.2 4 k)) 110 l ((h 110 l) - (s.2.2.2.2 2 k))) 104 14 (s.2.2.2.2 5 k)) c = h c := fun c h1 h2 h3 => by funext q; rw [zup_ne h1, zup_ne h3, zup_ne h2, zup_ne h1]
      have uj : ∀ j : Nat, j ≠ 14 → j ≠ 15 → (zup (zup (zup (zup h 104 15 (k : Int)) 109 l (s.2.2.2.2 4 k)) 110 l ((h 110 l) - (s.2.2.2.2 2 k))) 104 14 (s.2.2.2.2 5 k)) 104 j = h 104 j := fun j h1 h2 => by rw [zup_k h1, zup_ne (by decide), zup_ne (by decide), zup_k h2]
      have eln : Int.toNat (s.2.2.2.2 1 k) = l := by rw [el]; rfl
      refine ⟨by rw [uj 9 (by decide) (by decide)]; exact m9, by rw [uj 10 (by decide) (by decide)]; exact m10, ?_, ?_, fun i hi => ?_, fun c j hc hj => ?_, fun i j hi hj => ?_, fun i hi => ?_, mtr⟩
      · unfold zBkS; dsimp only; exact zup_eq
      · rw [zup_k (by decide), zup_ne (by decide), zup_ne (by decide), zup_eq]
      · unfold zBkS
        dsimp only
        rw [eln]
        by_cases w : i = l
        · rw [w, if_pos rfl, if_pos rfl, zup_ne (by decide), zup_ne (by decide), zup_eq, zup_ne (by decide), zup_eq]
          exact ⟨by omega, by first | rfl | (rw [ea])⟩
        · rw [if_neg w, if_neg w, zup_ne (by decide), zup_ne (by decide), zup_k w, zup_ne (by decide), zup_ne (by decide), zup_k w, zup_ne (by decide), zup_ne (by decide)]
          exact mas i hi
      · rw [u1 (111 + c) (by omega) (by omega) (by omega)]
        exact mrec c j hc (by omega)
      · rw [u1 108 (by decide) (by decide) (by decide), mfa i j hi hj]
        unfold zFa
        rw [u1 (12 + i) (by omega) (by omega) (by omega)]
      · refine zRk_same (fun c c1 c2 => u1 c (by omega) (by omega) (by omega)) (fun j hj => ⟨rfl, ?_⟩) (fun q hq => by rw [u1 117 (by decide) (by decide) (by decide)]) (mrow i (by omega))
        have := hpl j (by omega)
        show Int.toNat (s.2.2.2.2 0 j) < 8
        omega
    · refine zH_go 1 (c' := (21, [some (.inr (.inr (some 104))), none], [.inl (-2)], (zs h hl))) rfl ?_
      refine zH_ret (v := some (.inl (-2))) rfl (fun q => absurd q (by decide)) ?_
      exact Or.inl ⟨by omega, rfl, rfl⟩
