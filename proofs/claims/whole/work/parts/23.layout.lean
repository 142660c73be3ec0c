/-! STANDS: the slots laid out. -/
def zLI (h g : Nat → Nat → Int) (p L k : Nat) : Prop := g 18 1 = (L : Int) ∧ g 18 2 = (zcnt p L k : Int) ∧ (∀ n : Nat, n < k → zSb p L n = true → 0 ≤ g 20 n ∧ g 20 n < (zcnt p L k : Int) ∧ g 19 (g 20 n).toNat = (zLL n : Int)) ∧ (∀ n : Nat, n < k → zSb p L n = false → g 20 n = -1) ∧ (∀ s : Nat, s < zcnt p L k → ∃ n : Nat, n < k ∧ zSb p L n = true ∧ zLL n = n ∧ g 19 s = (n : Int) ∧ g 20 n = (s : Int)) ∧ (∀ c : Nat, c ≠ 18 → c ≠ 19 → c ≠ 20 → g c = h c)
theorem zcnt_s0 {p L k : Nat} (hn : ¬ (zSb p L k = true ∧ zLL k = k)) : zcnt p L (k + 1) = zcnt p L k := by
  show zcnt p L k + (if zSb p L k = true ∧ zLL k = k then 1 else 0) = _
  rw [if_neg hn, Nat.add_zero]
theorem zcnt_s1 {p L k : Nat} (hn : zSb p L k = true ∧ zLL k = k) : zcnt p L (k + 1) = zcnt p L k + 1 := by
  show zcnt p L k + (if zSb p L k = true ∧ zLL k = k then 1 else 0) = _
  rw [if_pos hn]
theorem zLI_no {h g : Nat → Nat → Int} {p L k : Nat} (hn : zSb p L k = false) (hI : zLI h g p L k) : zLI h (zup g 20 k (-1)) p L (k + 1) := by
  obtain ⟨i1, i2, i3, i4, i5, i6⟩ := hI
  have e : zcnt p L (k + 1) = zcnt p L k := zcnt_s0 (fun q => by rw [hn] at q; exact absurd q.1 (by decide))
  unfold zLI
  rw [e]
  refine ⟨by rw [zup_ne (by decide)]; exact i1, by rw [zup_ne (by decide)]; exact i2, fun n hlt hs => ?_, fun n hlt hs => ?_, fun s hs => ?_, fun c h1 h2 h3 => ?_⟩
  · have hne : n ≠ k := fun q => by rw [q, hn] at hs; exact absurd hs (by decide)
    rw [zup_k hne, zup_ne (by decide)]
    exact i3 n (by omega) hs
  · by_cases hne : n = k
    · rw [hne, zup_eq]
    · rw [zup_k hne]
      exact i4 n (by omega) hs
  · obtain ⟨n, a1, a2, a3, a4, a5⟩ := i5 s hs
    exact ⟨n, by omega, a2, a3, by rw [zup_ne (by decide)]; exact a4, by rw [zup_k (by omega)]; exact a5⟩
  · rw [← i6 c h1 h2 h3]
    funext j
    exact zup_ne h3
theorem zLI_old {h g : Nat → Nat → Int} {p L k : Nat} (hs0 : zSb p L k = true) (hll : zSb p L (zLL k) = true) (hl2 : zLL (zLL k) = zLL k) (hlt : zLL k < k) (hI : zLI h g p L k) : zLI h (zup (zup g 20 k (-1)) 20 k (zup g 20 k (-1) 20 (zLL k))) p L (k + 1) := by
  obtain ⟨i1, i2, i3, i4, i5, i6⟩ := hI
  have e : zcnt p L (k + 1) = zcnt p L k := zcnt_s0 (fun q => by omega)
  have j3 := i3 (zLL k) hlt hll
  rw [hl2] at j3
  unfold zLI
  rw [e]
  refine ⟨by rw [zup_ne (by decide), zup_ne (by decide)]; exact i1, by rw [zup_ne (by decide), zup_ne (by decide)]; exact i2, fun n hn hs => ?_, fun n hn hs => ?_, fun s hs => ?_, fun c h1 h2 h3 => ?_⟩
  · by_cases hne : n = k
    · rw [hne, zup_eq, zup_k (by omega), zup_ne (by decide), zup_ne (by decide)]
      exact j3
    · rw [zup_k hne, zup_k hne, zup_ne (by decide), zup_ne (by decide)]
      exact i3 n (by omega) hs
  · have hne : n ≠ k := fun q => by rw [q, hs0] at hs; exact absurd hs (by decide)
    rw [zup_k hne, zup_k hne]
    exact i4 n (by omega) hs
  · obtain ⟨n, a1, a2, a3, a4, a5⟩ := i5 s hs
    exact ⟨n, by omega, a2, a3, by rw [zup_ne (by decide), zup_ne (by decide)]; exact a4, by rw [zup_k (by omega), zup_k (by omega)]; exact a5⟩
  · rw [← i6 c h1 h2 h3]
    funext j
    rw [zup_ne h3, zup_ne h3]
theorem zLI_new {h g : Nat → Nat → Int} {p L k : Nat} (hs0 : zSb p L k = true) (hll : zLL k = k) (hI : zLI h g p L k) : zLI h (zup (zup (zup (zup g 20 k (-1)) 19 (Int.toNat (g 18 2)) (k : Int)) 20 k (g 18 2)) 18 2 (g 18 2 + 1)) p L (k + 1) := by
  obtain ⟨i1, i2, i3, i4, i5, i6⟩ := hI
  have e : zcnt p L (k + 1) = zcnt p L k + 1 := zcnt_s1 ⟨hs0, hll⟩
  have t : Int.toNat (g 18 2) = zcnt p L k := by rw [i2]; rfl
  unfold zLI
  rw [e, t]
  refine ⟨?_, ?_, fun n hn hs => ?_, fun n hn hs => ?_, fun s hs => ?_, fun c h1 h2 h3 => ?_⟩
  · rw [zup_k (by decide), zup_ne (by decide), zup_ne (by decide), zup_ne (by decide)]
    exact i1
  · rw [zup_eq, i2]
    rfl
  · rw [zup_ne (by decide)]
    by_cases hne : n = k
    · rw [hne, zup_eq, zup_ne (by decide), zup_ne (by decide), t, zup_eq]
      exact ⟨by omega, by omega, by rw [hll]⟩
    · have j3 := i3 n (by omega) hs
      rw [zup_k hne, zup_ne (by decide), zup_k hne, zup_ne (by decide), zup_ne (by decide), zup_k (by omega), zup_ne (by decide)]
      exact ⟨j3.1, by omega, j3.2.2⟩
  · have hne : n ≠ k := fun q => by rw [q, hs0] at hs; exact absurd hs (by decide)
    rw [zup_ne (by decide), zup_k hne, zup_ne (by decide), zup_k hne]
    exact i4 n (by omega) hs
  · by_cases hne : s = zcnt p L k
    · exact ⟨k, by omega, hs0, hll, by rw [zup_ne (by decide), zup_ne (by decide), hne, zup_eq], by rw [zup_ne (by decide), zup_eq, i2, hne]⟩
    · obtain ⟨n, a1, a2, a3, a4, a5⟩ := i5 s (by omega)
      exact ⟨n, by omega, a2, a3, by rw [zup_ne (by decide), zup_ne (by decide), zup_k hne, zup_ne (by decide)]; exact a4, by rw [zup_ne (by decide), zup_k (by omega), zup_ne (by decide), zup_k (by omega)]; exact a5⟩
  · rw [← i6 c h1 h2 h3]
    funext j
    rw [zup_ne h1, zup_ne h3, zup_ne h2, zup_ne h3]
set_option maxRecDepth 100000 in
set_option maxHeartbeats 4000000 in
theorem lay_loop {d : Nat} {h hl : Nat → Nat → Int} {p L : Nat} {Post : Option zV → zS → Prop} (hL : 1 ≤ L ∧ L ≤ 3) (hp : p ≤ 6) (hp0 : h 3 0 = (p : Int))
    (hex : ∀ (g : Nat → Nat → Int) (x2 x3 : Option zV), zLI h g p L 512 → zH (d + 2) 41 (120, [some (.inr (.inr (some 18))), some (.inl (L : Int)), x2, x3], [], (zs g hl)) Post) : ∀ (q k : Nat), k ≤ 512 → 513 ≤ k + q → ∀ (g : Nat → Nat → Int) (x3 : Option zV), zLI h g p L k → zH (d + 2) 41 (12, [some (.inr (.inr (some 18))), some (.inl (L : Int)), some (.inl (k : Int)), x3], [], (zs g hl)) Post := by
  intro q
  induction q with
  | zero => intro k h1 h2; exact absurd h2 (by omega)
  | succ q ih =>
    intro k hk hq g x3 hI
    have c0 := hI.2.1
    have cc := zcnt_le p L (show k ≤ 512 by omega)
    have c5 := zcnt_56 p (by omega) L (by omega)
    have cz : ∀ n : Nat, zdg n 0 < 8 := fun n => zdg_lt n 0
    refine zH_go 4 (c' := (18, [some (.inr (.inr (some 18))), some (.inl (L : Int)), some (.inl (k : Int)), x3], [.inl 512, .inl (k : Int)], (zs g hl))) rfl ?_
    refine zH_br (x := (k : Int)) (y := 512) (k := .ge) (c1 := (120, [some (.inr (.inr (some 18))), some (.inl (L : Int)), some (.inl (k : Int)), x3], [], (zs g hl))) (c2 := (21, [some (.inr (.inr (some 18))), some (.inl (L : Int)), some (.inl (k : Int)), x3], [], (zs g hl))) rfl (by first | assumption | (unfold zr; omega)) ⟨by decide, by decide⟩ (fun (b_1 : ¬ (k : Int) < 512) => ?_) (fun (b_1 : ¬ (¬ (k : Int) < 512)) => ?_)
    · exact hex g _ x3 (by rw [show k = 512 by omega] at hI; exact hI)
    · refine zH_go 4 (c' := (27, [some (.inr (.inr (some 18))), some (.inl (L : Int)), some (.inl (k : Int)), x3], [.inl (-1), .inl (k : Int), .inr (.inr (some 20))], (zs g hl))) rfl ?_
      refine zH_np (P := 0 ≤ (k : Int) ∧ (k : Int) < ((512 : Nat) : Int)) (c' := (28, [some (.inr (.inr (some 18))), some (.inl (L : Int)), some (.inl (k : Int)), x3], [], (zs (zup g 20 k (-1)) hl))) rfl ⟨by omega, by omega⟩ ?_
      refine zH_go 4 (c' := (34, [some (.inr (.inr (some 18))), some (.inl (L : Int)), some (.inl (k : Int)), x3], [.inl (L : Int), .inl (k : Int), .inr (.inr (some 3))], (zs (zup g 20 k (-1)) hl))) rfl ?_
      have e0 : (zup g 20 k (-1)) 3 0 = (p : Int) := by rw [zup_ne (by decide), hI.2.2.2.2.2 3 (by decide) (by decide) (by decide)]; exact hp0
      refine zH_call (M' := 49) (as := [.inr (.inr (some 3)), .inl (k : Int), .inl (L : Int)]) (T := []) rfl (p_hasAll hL ⟨by omega, by omega⟩ (by rw [e0]; omega)) (fun r σ' p_2 => ?_)
      rw [e0] at p_2
      rcases p_2 with ⟨rfl, hs, rfl⟩ | ⟨rfl, hs, rfl⟩
      · show zH _ _ (37, [some (.inr (.inr (some 18))), some (.inl (L : Int)), some (.inl (k : Int)), x3], [.inl 1], (zs (zup g 20 k (-1)) hl)) _
        have hsb : zSb p L k = true := zSb_iff.mp hs
        have hll := zLL_sb p (by omega) L (by omega) k (by omega) hsb
        have hl2 := zLL_ok k (by omega)
        have hc6 := zcnt_le p L (show k + 1 ≤ 512 by omega)
        have hc5 := zcnt_56 p (by omega) L (by omega)
        refine zH_bt (x := 1) (y := 0) (k := .ne) (c1 := (43, [some (.inr (.inr (some 18))), some (.inl (L : Int)), some (.inl (k : Int)), x3], [], (zs (zup g 20 k (-1)) hl))) (c2 := (40, [some (.inr (.inr (some 18))), some (.inl (L : Int)), some (.inl (k : Int)), x3], [], (zs (zup g 20 k (-1)) hl))) rfl ⟨by decide, by decide⟩ ⟨by decide, by decide⟩ (by show ¬ 1 = 0; decide) ?_
        refine zH_go 1 (c' := (44, [some (.inr (.inr (some 18))), some (.inl (L : Int)), some (.inl (k : Int)), x3], [.inl (k : Int)], (zs (zup g 20 k (-1)) hl))) rfl ?_
        refine zH_call (M' := 42) (as := [.inl (k : Int)]) (T := []) rfl (p_lowestLike (n := k) (by omega)) (fun r σ' p_3 => ?_)
        obtain ⟨rfl, rfl⟩ := p_3
        show zH _ _ (47, [some (.inr (.inr (some 18))), some (.inl (L : Int)), some (.inl (k : Int)), x3], [.inl ((zLL k : Nat) : Int)], (zs (zup g 20 k (-1)) hl)) _
        refine zH_go 3 (c' := (50, [some (.inr (.inr (some 18))), some (.inl (L : Int)), some (.inl (k : Int)), some (.inl ((zLL k : Nat) : Int))], [.inl (k : Int), .inl ((zLL k : Nat) : Int)], (zs (zup g 20 k (-1)) hl))) rfl ?_
        refine zH_br (x := ((zLL k : Nat) : Int)) (y := (k : Int)) (k := .ge) (c1 := (72, [some (.inr (.inr (some 18))), some (.inl (L : Int)), some (.inl (k : Int)), some (.inl ((zLL k : Nat) : Int))], [], (zs (zup g 20 k (-1)) hl))) (c2 := (53, [some (.inr (.inr (some 18))), some (.inl (L : Int)), some (.inl (k : Int)), some (.inl ((zLL k : Nat) : Int))], [], (zs (zup g 20 k (-1)) hl))) rfl (by first | assumption | (unfold zr; omega)) (by first | assumption | (unfold zr; omega)) (fun (b_4 : ¬ ((zLL k : Nat) : Int) < (k : Int)) => ?_) (fun (b_4 : ¬ (¬ ((zLL k : Nat) : Int) < (k : Int))) => ?_)
        · refine zH_go 5 (c' := (81, [some (.inr (.inr (some 18))), some (.inl (L : Int)), some (.inl (k : Int)), some (.inl ((zLL k : Nat) : Int))], [.inl 56, .inl (g 18 2)], (zs (zup g 20 k (-1)) hl))) rfl ?_
          refine zH_br (x := (g 18 2)) (y := 56) (k := .ge) (c1 := (114, [some (.inr (.inr (some 18))), some (.inl (L : Int)), some (.inl (k : Int)), some (.inl ((zLL k : Nat) : Int))], [], (zs (zup g 20 k (-1)) hl))) (c2 := (84, [some (.inr (.inr (some 18))), some (.inl (L : Int)), some (.inl (k : Int)), some (.inl ((zLL k : Nat) : Int))], [], (zs (zup g 20 k (-1)) hl))) rfl (by first | assumption | (unfold zr; omega)) ⟨by decide, by decide⟩ (fun (b_5 : ¬ (g 18 2) < 56) => ?_) (fun (b_5 : ¬ (¬ (g 18 2) < 56)) => ?_)
          · have hc7 := zcnt_s1 ⟨hsb, (by omega : zLL k = k)⟩
            exfalso
            omega
          · have hc7 := zcnt_s1 ⟨hsb, (by omega : zLL k = k)⟩
            refine zH_go 5 (c' := (93, [some (.inr (.inr (some 18))), some (.inl (L : Int)), some (.inl (k : Int)), some (.inl ((zLL k : Nat) : Int))], [.inl (k : Int), .inl (g 18 2), .inr (.inr (some 19))], (zs (zup g 20 k (-1)) hl))) rfl ?_
            refine zH_np (P := 0 ≤ (g 18 2) ∧ (g 18 2) < ((56 : Nat) : Int)) (c' := (94, [some (.inr (.inr (some 18))), some (.inl (L : Int)), some (.inl (k : Int)), some (.inl ((zLL k : Nat) : Int))], [], (zs (zup (zup g 20 k (-1)) 19 (Int.toNat (g 18 2)) (k : Int)) hl))) rfl ⟨by omega, by omega⟩ ?_
            refine zH_go 5 (c' := (103, [some (.inr (.inr (some 18))), some (.inl (L : Int)), some (.inl (k : Int)), some (.inl ((zLL k : Nat) : Int))], [.inl (g 18 2), .inl (k : Int), .inr (.inr (some 20))], (zs (zup (zup g 20 k (-1)) 19 (Int.toNat (g 18 2)) (k : Int)) hl))) rfl ?_
            refine zH_np (P := 0 ≤ (k : Int) ∧ (k : Int) < ((512 : Nat) : Int)) (c' := (104, [some (.inr (.inr (some 18))), some (.inl (L : Int)), some (.inl (k : Int)), some (.inl ((zLL k : Nat) : Int))], [], (zs (zup (zup (zup g 20 k (-1)) 19 (Int.toNat (g 18 2)) (k : Int)) 20 k (g 18 2)) hl))) rfl ⟨by omega, by omega⟩ ?_
            refine zH_go 6 (c' := (114, [some (.inr (.inr (some 18))), some (.inl (L : Int)), some (.inl (k : Int)), some (.inl ((zLL k : Nat) : Int))], [], (zs (zup (zup (zup (zup g 20 k (-1)) 19 (Int.toNat (g 18 2)) (k : Int)) 20 k (g 18 2)) 18 2 ((g 18 2) + 1)) hl))) rfl ?_
            refine zH_go 2 (c' := (12, [some (.inr (.inr (some 18))), some (.inl (L : Int)), some (.inl ((k : Int) + 1)), some (.inl ((zLL k : Nat) : Int))], [], (zs (zup (zup (zup (zup g 20 k (-1)) 19 (Int.toNat (g 18 2)) (k : Int)) 20 k (g 18 2)) 18 2 ((g 18 2) + 1)) hl))) rfl ?_
            exact ih (k + 1) (by omega) (by omega) _ _ (zLI_new hsb (by omega) hI)
        · refine zH_go 1 (c' := (54, [some (.inr (.inr (some 18))), some (.inl (L : Int)), some (.inl (k : Int)), some (.inl ((zLL k : Nat) : Int))], [.inl ((zLL k : Nat) : Int)], (zs (zup g 20 k (-1)) hl))) rfl ?_
          refine zH_br (x := ((zLL k : Nat) : Int)) (y := 0) (k := .lt) (c1 := (72, [some (.inr (.inr (some 18))), some (.inl (L : Int)), some (.inl (k : Int)), some (.inl ((zLL k : Nat) : Int))], [], (zs (zup g 20 k (-1)) hl))) (c2 := (57, [some (.inr (.inr (some 18))), some (.inl (L : Int)), some (.inl (k : Int)), some (.inl ((zLL k : Nat) : Int))], [], (zs (zup g 20 k (-1)) hl))) rfl (by first | assumption | (unfold zr; omega)) ⟨by decide, by decide⟩ (fun (b_6 : ((zLL k : Nat) : Int) < 0) => ?_) (fun (b_6 : ¬ (((zLL k : Nat) : Int) < 0)) => ?_)
          · refine zH_go 5 (c' := (81, [some (.inr (.inr (some 18))), some (.inl (L : Int)), some (.inl (k : Int)), some (.inl ((zLL k : Nat) : Int))], [.inl 56, .inl (g 18 2)], (zs (zup g 20 k (-1)) hl))) rfl ?_
            refine zH_br (x := (g 18 2)) (y := 56) (k := .ge) (c1 := (114, [some (.inr (.inr (some 18))), some (.inl (L : Int)), some (.inl (k : Int)), some (.inl ((zLL k : Nat) : Int))], [], (zs (zup g 20 k (-1)) hl))) (c2 := (84, [some (.inr (.inr (some 18))), some (.inl (L : Int)), some (.inl (k : Int)), some (.inl ((zLL k : Nat) : Int))], [], (zs (zup g 20 k (-1)) hl))) rfl (by first | assumption | (unfold zr; omega)) ⟨by decide, by decide⟩ (fun (b_7 : ¬ (g 18 2) < 56) => ?_) (fun (b_7 : ¬ (¬ (g 18 2) < 56)) => ?_)
            · have hc7 := zcnt_s1 ⟨hsb, (by omega : zLL k = k)⟩
              exfalso
              omega
            · have hc7 := zcnt_s1 ⟨hsb, (by omega : zLL k = k)⟩
              refine zH_go 5 (c' := (93, [some (.inr (.inr (some 18))), some (.inl (L : Int)), some (.inl (k : Int)), some (.inl ((zLL k : Nat) : Int))], [.inl (k : Int), .inl (g 18 2), .inr (.inr (some 19))], (zs (zup g 20 k (-1)) hl))) rfl ?_
              refine zH_np (P := 0 ≤ (g 18 2) ∧ (g 18 2) < ((56 : Nat) : Int)) (c' := (94, [some (.inr (.inr (some 18))), some (.inl (L : Int)), some (.inl (k : Int)), some (.inl ((zLL k : Nat) : Int))], [], (zs (zup (zup g 20 k (-1)) 19 (Int.toNat (g 18 2)) (k : Int)) hl))) rfl ⟨by omega, by omega⟩ ?_
              refine zH_go 5 (c' := (103, [some (.inr (.inr (some 18))), some (.inl (L : Int)), some (.inl (k : Int)), some (.inl ((zLL k : Nat) : Int))], [.inl (g 18 2), .inl (k : Int), .inr (.inr (some 20))], (zs (zup (zup g 20 k (-1)) 19 (Int.toNat (g 18 2)) (k : Int)) hl))) rfl ?_
              refine zH_np (P := 0 ≤ (k : Int) ∧ (k : Int) < ((512 : Nat) : Int)) (c' := (104, [some (.inr (.inr (some 18))), some (.inl (L : Int)), some (.inl (k : Int)), some (.inl ((zLL k : Nat) : Int))], [], (zs (zup (zup (zup g 20 k (-1)) 19 (Int.toNat (g 18 2)) (k : Int)) 20 k (g 18 2)) hl))) rfl ⟨by omega, by omega⟩ ?_
              refine zH_go 6 (c' := (114, [some (.inr (.inr (some 18))), some (.inl (L : Int)), some (.inl (k : Int)), some (.inl ((zLL k : Nat) : Int))], [], (zs (zup (zup (zup (zup g 20 k (-1)) 19 (Int.toNat (g 18 2)) (k : Int)) 20 k (g 18 2)) 18 2 ((g 18 2) + 1)) hl))) rfl ?_
              refine zH_go 2 (c' := (12, [some (.inr (.inr (some 18))), some (.inl (L : Int)), some (.inl ((k : Int) + 1)), some (.inl ((zLL k : Nat) : Int))], [], (zs (zup (zup (zup (zup g 20 k (-1)) 19 (Int.toNat (g 18 2)) (k : Int)) 20 k (g 18 2)) 18 2 ((g 18 2) + 1)) hl))) rfl ?_
              exact ih (k + 1) (by omega) (by omega) _ _ (zLI_new hsb (by omega) hI)
          · refine zH_go 6 (c' := (67, [some (.inr (.inr (some 18))), some (.inl (L : Int)), some (.inl (k : Int)), some (.inl ((zLL k : Nat) : Int))], [.inl ((zLL k : Nat) : Int), .inr (.inr (some 20)), .inl (k : Int), .inr (.inr (some 20))], (zs (zup g 20 k (-1)) hl))) rfl ?_
            refine zH_np (P := 0 ≤ ((zLL k : Nat) : Int) ∧ ((zLL k : Nat) : Int) < ((512 : Nat) : Int)) (c' := (68, [some (.inr (.inr (some 18))), some (.inl (L : Int)), some (.inl (k : Int)), some (.inl ((zLL k : Nat) : Int))], [.inl ((zup g 20 k (-1)) 20 (zLL k)), .inl (k : Int), .inr (.inr (some 20))], (zs (zup g 20 k (-1)) hl))) rfl ⟨by omega, by omega⟩ ?_
            refine zH_np (P := 0 ≤ (k : Int) ∧ (k : Int) < ((512 : Nat) : Int)) (c' := (69, [some (.inr (.inr (some 18))), some (.inl (L : Int)), some (.inl (k : Int)), some (.inl ((zLL k : Nat) : Int))], [], (zs (zup (zup g 20 k (-1)) 20 k ((zup g 20 k (-1)) 20 (zLL k))) hl))) rfl ⟨by omega, by omega⟩ ?_
            refine zH_go 1 (c' := (114, [some (.inr (.inr (some 18))), some (.inl (L : Int)), some (.inl (k : Int)), some (.inl ((zLL k : Nat) : Int))], [], (zs (zup (zup g 20 k (-1)) 20 k ((zup g 20 k (-1)) 20 (zLL k))) hl))) rfl ?_
            refine zH_go 2 (c' := (12, [some (.inr (.inr (some 18))), some (.inl (L : Int)), some (.inl ((k : Int) + 1)), some (.inl ((zLL k : Nat) : Int))], [], (zs (zup (zup g 20 k (-1)) 20 k ((zup g 20 k (-1)) 20 (zLL k))) hl))) rfl ?_
            exact ih (k + 1) (by omega) (by omega) _ _ (zLI_old hsb hll hl2.2 (by omega) hI)
      · show zH _ _ (37, [some (.inr (.inr (some 18))), some (.inl (L : Int)), some (.inl (k : Int)), x3], [.inl 0], (zs (zup g 20 k (-1)) hl)) _
        have hsb : zSb p L k = false := by cases q : zSb p L k with | false => rfl | true => exact absurd (zSb_iff.mpr q) hs
        refine zH_bf (x := 0) (y := 0) (k := .ne) (c1 := (43, [some (.inr (.inr (some 18))), some (.inl (L : Int)), some (.inl (k : Int)), x3], [], (zs (zup g 20 k (-1)) hl))) (c2 := (40, [some (.inr (.inr (some 18))), some (.inl (L : Int)), some (.inl (k : Int)), x3], [], (zs (zup g 20 k (-1)) hl))) rfl ⟨by decide, by decide⟩ ⟨by decide, by decide⟩ (by show ¬ (¬ 0 = 0); decide) ?_
        refine zH_go 1 (c' := (114, [some (.inr (.inr (some 18))), some (.inl (L : Int)), some (.inl (k : Int)), x3], [], (zs (zup g 20 k (-1)) hl))) rfl ?_
        refine zH_go 2 (c' := (12, [some (.inr (.inr (some 18))), some (.inl (L : Int)), some (.inl ((k : Int) + 1)), x3], [], (zs (zup g 20 k (-1)) hl))) rfl ?_
        exact ih (k + 1) (by omega) (by omega) _ _ (zLI_no hsb hI)
set_option maxRecDepth 100000 in
set_option maxHeartbeats 4000000 in
theorem p_layOut {d : Nat} {h hl : Nat → Nat → Int} {p L : Nat} (hL : 1 ≤ L ∧ L ≤ 3) (hp : p ≤ 6) (hp0 : h 3 0 = (p : Int)) : zQ (d + 3) 41 [.inr (.inr (some 18)), .inl (L : Int)] (zs h hl) (fun r σ' => r = none ∧ ∃ g : Nat → Nat → Int, zLI h g p L 512 ∧ σ' = zs g hl) := by
  refine zQ_of (Nat.le_of_ble_eq_true rfl) ?_
  show zH (d + 2) 41 (0, [some (.inr (.inr (some 18))), some (.inl (L : Int)), none, none], [], (zs h hl)) _
  refine zH_go 8 (c' := (12, [some (.inr (.inr (some 18))), some (.inl (L : Int)), some (.inl 0), none], [], (zs (zup (zup h 18 1 (L : Int)) 18 2 0) hl))) rfl ?_
  refine lay_loop hL hp hp0 (fun g x2 x3 hI => ?_) 513 0 (by omega) (by omega) _ _ ⟨?_, ?_, fun n hn => absurd hn (Nat.not_lt_zero n), fun n hn => absurd hn (Nat.not_lt_zero n), fun s hs => absurd hs (Nat.not_lt_zero s), fun c h1 h2 h3 => ?_⟩
  · show zH _ _ (120, [some (.inr (.inr (some 18))), some (.inl (L : Int)), x2, x3], [], (zs g hl)) _
    refine zH_ret (v := none) rfl (fun q => absurd q (by decide)) ?_
    exact ⟨rfl, g, hI, rfl⟩
  · rw [zup_k (by decide), zup_eq]
  · rw [zup_eq]; rfl
  · funext k; rw [zup_ne h1, zup_ne h1]
