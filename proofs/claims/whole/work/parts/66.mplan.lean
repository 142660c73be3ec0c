/-! The model: THE PLAN. -/
theorem zFg_ne {h : Nat → Nat → Int} {L : Nat} {pl : Nat → Nat} {n i s l : Nat} (hl : l < zFg h L pl n i s) : ¬ zPc h L pl n i s l = zPf h L pl (n - i) i s := by
  unfold zFg at hl
  by_cases q : zPc h L pl n i s 0 = zPf h L pl (n - i) i s
  · rw [if_pos q] at hl; omega
  · rw [if_neg q] at hl
    by_cases r : zPc h L pl n i s 1 = zPf h L pl (n - i) i s
    · rw [if_pos r] at hl
      obtain rfl : l = 0 := by omega
      exact q
    · rw [if_neg r] at hl
      rcases (show l = 0 ∨ l = 1 by omega) with rfl | rfl
      · exact q
      · exact r
theorem zFg_at {h : Nat → Nat → Int} {L : Nat} {pl : Nat → Nat} {n i s : Nat} (hL : 1 ≤ L ∧ L ≤ 3) (hi : i < n) : zPc h L pl n i s (zFg h L pl n i s) = zPf h L pl (n - i) i s := by
  obtain ⟨l, h1, h2⟩ := zm3_at (fun l => zPc h L pl n i s l) hL
  rw [← zPf_c hi] at h2
  unfold zFg
  by_cases q : zPc h L pl n i s 0 = zPf h L pl (n - i) i s
  · rw [if_pos q]; exact q
  · rw [if_neg q]
    by_cases r : zPc h L pl n i s 1 = zPf h L pl (n - i) i s
    · rw [if_pos r]; exact r
    · rw [if_neg r]
      rcases (show l = 0 ∨ l = 1 ∨ l = 2 by omega) with rfl | rfl | rfl
      · exact absurd h2.symm q
      · exact absurd h2.symm r
      · exact h2.symm
set_option maxRecDepth 100000 in
set_option maxHeartbeats 4000000 in
theorem p_planO {d : Nat} {h0 h hl : Nat → Nat → Int} (e0 : zup h0 104 0 0 = h) {x y : Int} (hx : zr x) (hy : zr y) (hP : 0 ≤ h 104 3 ∧ h 104 3 ≤ 6) (h9 : 0 ≤ h 104 9 ∧ h 104 9 ≤ 3) (h15 : 0 ≤ h 104 15 ∧ h 104 15 ≤ 12) {p L B n : Nat} {s : zDS} (hD : 0 < h 104 9 → zMH h p L B n s ∧ zDm h hl p L B n s) (hr0 : ∀ j : Nat, j < n → 0 ≤ s.2.2.2.2 0 j) : zQ (d + 3) 139 [.inr (.inr (some 104)), .inl x, .inl y] (zs h0 hl) (fun r' σ' => (h 104 9 = 0 ∧ r' = some (.inl (-2)) ∧ σ' = zs h hl) ∨ (0 < h 104 9 ∧ ¬ (0 ≤ y ∧ y < x ∧ x ≤ h 104 15) ∧ r' = some (.inl (-1)) ∧ σ' = zs h hl) ∨ (0 < h 104 9 ∧ ∃ u v : Nat, y = (u : Int) ∧ x = (v : Int) ∧ u < v ∧ v ≤ n ∧ r' = some (.inl ((zPG h L B (fun j => Int.toNat (s.2.2.2.2 0 j)) v u : Nat) : Int)) ∧ ∃ g : Nat → Nat → Int, σ' = zs g hl ∧ ∀ c : Nat, c ≠ 124 → g c = h c)) := by
  refine zQ_of (Nat.le_of_ble_eq_true rfl) ?_
  show zH (d + 2) 139 (0, [some (.inr (.inr (some 104))), some (.inl x), some (.inl y), none, none, none, none], [], (zs h0 hl)) _
  refine zH_go 3 (c' := (5, [some (.inr (.inr (some 104))), some (.inl x), some (.inl y), none, none, none, none], [], (zs (zup h0 104 0 0) hl))) rfl ?_
  rw [e0]
  refine zH_go 2 (c' := (9, [some (.inr (.inr (some 104))), some (.inl x), some (.inl y), none, none, none, none], [.inl (h 104 9)], (zs h hl))) rfl ?_
  refine zH_br (x := (h 104 9)) (y := 0) (k := .ne) (c1 := (15, [some (.inr (.inr (some 104))), some (.inl x), some (.inl y), none, none, none, none], [], (zs h hl))) (c2 := (12, [some (.inr (.inr (some 104))), some (.inl x), some (.inl y), none, none, none, none], [], (zs h hl))) rfl (by first | assumption | (unfold zr; omega)) ⟨by decide, by decide⟩ (fun (b_1 : ¬ (h 104 9) = 0) => ?_) (fun (b_1 : ¬ (¬ (h 104 9) = 0)) => ?_)
  · obtain ⟨hH, hM⟩ := hD (by omega)
    have hHc := hH
    obtain ⟨hL3, hp6, h3, hT, hF, hBs, hn12, hs6, hsp, hsu, htu, hpl, hdg, hpo⟩ := hHc
    have hMc := hM
    obtain ⟨m9, m10, m14, m15, mas, mrec, mfa, mrow, mtr⟩ := hMc
    have hPp : h 104 3 = (p : Int) := h3
    refine zH_go 1 (c' := (16, [some (.inr (.inr (some 104))), some (.inl x), some (.inl y), none, none, none, none], [.inl x], (zs h hl))) rfl ?_
    refine zH_np (P := zr x) (c' := (17, [some (.inr (.inr (some 104))), some (.inl x), some (.inl y), none, none, none, none], [.inr (.inl x)], (zs h hl))) rfl (by first | assumption | (unfold zr; omega)) ?_
    refine zH_go 3 (c' := (22, [some (.inr (.inr (some 104))), some (.inl x), some (.inl y), none, none, none, none], [.inl (h 104 15), .inr (.inl 1), .inr (.inl x)], (zs h hl))) rfl ?_
    rw [m15]
    refine zH_np (P := zr (n : Int)) (c' := (23, [some (.inr (.inr (some 104))), some (.inl x), some (.inl y), none, none, none, none], [.inr (.inl (n : Int)), .inr (.inl 1), .inr (.inl x)], (zs h hl))) rfl (by first | assumption | (unfold zr; omega)) ?_
    refine zH_call (M' := 103) (as := [.inr (.inl x), .inr (.inl 1), .inr (.inl (n : Int))]) (T := []) rfl (p_in (by first | assumption | exact zr_l (by assumption) | (unfold zrl; omega)) ⟨by decide, by decide⟩ (by first | assumption | exact zr_l (by assumption) | (unfold zrl; omega))) (fun r σ' p_2 => ?_)
    rcases p_2 with ⟨rfl, b_3, rfl⟩ | ⟨rfl, b_3, rfl⟩
    · show zH _ _ (26, [some (.inr (.inr (some 104))), some (.inl x), some (.inl y), none, none, none, none], [.inl 1], (zs h hl)) _
      refine zH_bf (x := 1) (y := 0) (k := .eq) (c1 := (42, [some (.inr (.inr (some 104))), some (.inl x), some (.inl y), none, none, none, none], [], (zs h hl))) (c2 := (29, [some (.inr (.inr (some 104))), some (.inl x), some (.inl y), none, none, none, none], [], (zs h hl))) rfl ⟨by decide, by decide⟩ ⟨by decide, by decide⟩ (by show ¬ (1 = 0); decide) ?_
      refine zH_go 1 (c' := (30, [some (.inr (.inr (some 104))), some (.inl x), some (.inl y), none, none, none, none], [.inl y], (zs h hl))) rfl ?_
      refine zH_np (P := zr y) (c' := (31, [some (.inr (.inr (some 104))), some (.inl x), some (.inl y), none, none, none, none], [.inr (.inl y)], (zs h hl))) rfl (by first | assumption | (unfold zr; omega)) ?_
      refine zH_go 4 (c' := (35, [some (.inr (.inr (some 104))), some (.inl x), some (.inl y), none, none, none, none], [.inl (x - 1), .inr (.inl 0), .inr (.inl y)], (zs h hl))) rfl ?_
      refine zH_np (P := zr (x - 1)) (c' := (36, [some (.inr (.inr (some 104))), some (.inl x), some (.inl y), none, none, none, none], [.inr (.inl (x - 1)), .inr (.inl 0), .inr (.inl y)], (zs h hl))) rfl (by first | assumption | (unfold zr; omega)) ?_
      refine zH_call (M' := 103) (as := [.inr (.inl y), .inr (.inl 0), .inr (.inl (x - 1))]) (T := []) rfl (p_in (by first | assumption | exact zr_l (by assumption) | (unfold zrl; omega)) ⟨by decide, by decide⟩ (by first | assumption | exact zr_l (by assumption) | (unfold zrl; omega))) (fun r σ' p_4 => ?_)
      rcases p_4 with ⟨rfl, b_5, rfl⟩ | ⟨rfl, b_5, rfl⟩
      · show zH _ _ (39, [some (.inr (.inr (some 104))), some (.inl x), some (.inl y), none, none, none, none], [.inl 1], (zs h hl)) _
        refine zH_bt (x := 1) (y := 0) (k := .ne) (c1 := (44, [some (.inr (.inr (some 104))), some (.inl x), some (.inl y), none, none, none, none], [], (zs h hl))) (c2 := (42, [some (.inr (.inr (some 104))), some (.inl x), some (.inl y), none, none, none, none], [], (zs h hl))) rfl ⟨by decide, by decide⟩ ⟨by decide, by decide⟩ (by show ¬ 1 = 0; decide) ?_
        obtain ⟨pl, epl⟩ : ∃ pl : Nat → Nat, pl = (fun j => Int.toNat (s.2.2.2.2 0 j)) := ⟨_, rfl⟩
        have hpj : ∀ j : Nat, j < n → pl j < p ∧ h 111 j = ((pl j : Nat) : Int) := fun j hj => by
          have a := hpl j hj
          have b := hr0 j hj
          have c := mrec 0 j (by decide) hj
          have c2 : h 111 j = s.2.2.2.2 0 j := c
          rw [epl, c2]
          exact ⟨a, by dsimp only; omega⟩
        obtain ⟨v, rfl⟩ := Int.eq_ofNat_of_zero_le (show 0 ≤ x by omega)
        obtain ⟨u, rfl⟩ := Int.eq_ofNat_of_zero_le (show 0 ≤ y by omega)
        show zH _ _ (44, [some (.inr (.inr (some 104))), some (.inl (v : Int)), some (.inl (u : Int)), none, none, none, none], [], (zs h hl)) _
        have hplv : ∀ j : Nat, j < v → pl j < p := fun j hj => (hpj j (by omega)).1
        have hcb : ∀ k X l : Nat, k < v → zSb p L X = true → l < L → 0 ≤ zPc h L pl v k X l ∧ zPc h L pl v k X l ≤ 1000000 := fun k X l hk hX hl => by
          have a := zPf_b (h := h) (pl := pl) hp6 hL3 hT (v - (k + 1)) (k + 1) (fun q h1 h2 => hplv q (by omega)) _ (zSb_wd hp6 hL3.2 hX hl (hplv k hk))
          have b := hT.2.1 _ _ (zSb_dg hX hl) (hplv k hk)
          have c := (hT.1 (zdg X l) (pl k) (by have := zSb_dg hX hl; omega) (by have := hplv k hk; omega)).1
          unfold zPc
          omega
        refine zH_go 2 (c' := (46, [some (.inr (.inr (some 104))), some (.inl (v : Int)), some (.inl (u : Int)), some (.inl 0), none, none, none], [], (zs h hl))) rfl ?_
        refine zH_lp (X := (Nat → Nat → Int)) (F := fun (kq : Nat) (x : (Nat → Nat → Int)) => (46, [some (.inr (.inr (some 104))), some (.inl (v : Int)), some (.inl (u : Int)), some (.inl (kq : Int)), none, none, none], [], (zs x hl))) (I := fun (kq : Nat) (x : (Nat → Nat → Int)) => (∀ c : Nat, c ≠ 124 → x c = h c) ∧ ∀ j : Nat, j < kq → x 124 (512 * v + j) = 0) (N := 512) (fun k g hk hI ih => ?_) (fun g hI => ?_) 0 h (by omega) ?_
        · skip
          replace hI : (∀ c : Nat, c ≠ 124 → g c = h c) ∧ ∀ j : Nat, j < k → g 124 (512 * v + j) = 0 := hI
          show zH _ _ (46, [some (.inr (.inr (some 104))), some (.inl (v : Int)), some (.inl (u : Int)), some (.inl (k : Int)), none, none, none], [], (zs g hl)) _
          refine zH_go 2 (c' := (50, [some (.inr (.inr (some 104))), some (.inl (v : Int)), some (.inl (u : Int)), some (.inl (k : Int)), none, none, none], [.inl 512, .inl (k : Int)], (zs g hl))) rfl ?_
          refine zH_bf (x := (k : Int)) (y := 512) (k := .ge) (c1 := (72, [some (.inr (.inr (some 104))), some (.inl (v : Int)), some (.inl (u : Int)), some (.inl (k : Int)), none, none, none], [], (zs g hl))) (c2 := (53, [some (.inr (.inr (some 104))), some (.inl (v : Int)), some (.inl (u : Int)), some (.inl (k : Int)), none, none, none], [], (zs g hl))) rfl (by first | assumption | (unfold zr; omega)) ⟨by decide, by decide⟩ (by show ¬ (¬ (k : Int) < 512); omega) ?_
          refine zH_go 8 (c' := (65, [some (.inr (.inr (some 104))), some (.inl (v : Int)), some (.inl (u : Int)), some (.inl (k : Int)), none, none, none], [.inl 0, .inl ((512 * (v : Int)) + (k : Int)), .inr (.inr (some 124))], (zs g hl))) rfl ?_
          refine zH_np (P := 0 ≤ ((512 * (v : Int)) + (k : Int)) ∧ ((512 * (v : Int)) + (k : Int)) < ((6656 : Nat) : Int)) (c' := (66, [some (.inr (.inr (some 104))), some (.inl (v : Int)), some (.inl (u : Int)), some (.inl (k : Int)), none, none, none], [], (zs (zup g 124 ((512 * v) + k) 0) hl))) rfl ⟨by omega, by omega⟩ ?_
          refine zH_go 2 (c' := (46, [some (.inr (.inr (some 104))), some (.inl (v : Int)), some (.inl (u : Int)), some (.inl ((k : Int) + 1)), none, none, none], [], (zs (zup g 124 ((512 * v) + k) 0) hl))) rfl ?_
          refine ih (zup g 124 ((512 * v) + k) 0) ?_
          show (∀ c : Nat, c ≠ 124 → (zup g 124 ((512 * v) + k) 0) c = h c) ∧ ∀ j : Nat, j < (k + 1) → (zup g 124 ((512 * v) + k) 0) 124 (512 * v + j) = 0
          refine ⟨fun c hc => by rw [← hI.1 c hc]; funext q; exact zup_ne hc, fun j hj => ?_⟩
          by_cases w : j = k
          · rw [w, zup_eq]
          · rw [zup_k (by omega)]; exact hI.2 j (by omega)
        · skip
          replace hI : (∀ c : Nat, c ≠ 124 → g c = h c) ∧ ∀ j : Nat, j < 512 → g 124 (512 * v + j) = 0 := hI
          show zH _ _ (46, [some (.inr (.inr (some 104))), some (.inl (v : Int)), some (.inl (u : Int)), some (.inl 512), none, none, none], [], (zs g hl)) _
          refine zH_go 2 (c' := (50, [some (.inr (.inr (some 104))), some (.inl (v : Int)), some (.inl (u : Int)), some (.inl 512), none, none, none], [.inl 512, .inl 512], (zs g hl))) rfl ?_
          refine zH_bt (x := 512) (y := 512) (k := .ge) (c1 := (72, [some (.inr (.inr (some 104))), some (.inl (v : Int)), some (.inl (u : Int)), some (.inl 512), none, none, none], [], (zs g hl))) (c2 := (53, [some (.inr (.inr (some 104))), some (.inl (v : Int)), some (.inl (u : Int)), some (.inl 512), none, none, none], [], (zs g hl))) rfl ⟨by decide, by decide⟩ ⟨by decide, by decide⟩ (by show ¬ 512 < 512; decide) ?_
          refine zH_go 4 (c' := (76, [some (.inr (.inr (some 104))), some (.inl (v : Int)), some (.inl (u : Int)), some (.inl ((v : Int) - 1)), none, none, none], [], (zs g hl))) rfl ?_
          have e2 : (v : Int) - 1 = zpr v := zpr_eq v
          rw [e2]
          refine zH_dn (X := (Nat → Nat → Int) × (Option zV) × (Option zV) × (Option zV)) (F := fun (kq : Nat) (x : (Nat → Nat → Int) × (Option zV) × (Option zV) × (Option zV)) => (76, [some (.inr (.inr (some 104))), some (.inl (v : Int)), some (.inl (u : Int)), some (.inl (zpr kq)), x.2.1, x.2.2.1, x.2.2.2], [], (zs x.1 hl))) (I := fun (kq : Nat) (x : (Nat → Nat → Int) × (Option zV) × (Option zV) × (Option zV)) => kq ≤ v ∧ (∀ c : Nat, c ≠ 124 → x.1 c = h c) ∧ ∀ q : Nat, kq ≤ q → q ≤ v → ∀ X : Nat, zSb p L X = true → x.1 124 (512 * q + X) = zPf h L pl (v - q) q X) (fun k x hJ ih => ?_) (fun x hJ => ?_) v (g, none, none, none) ?_
          · obtain ⟨g1, x4, x5, x6⟩ := x
            replace hJ : k + 1 ≤ v ∧ (∀ c : Nat, c ≠ 124 → g1 c = h c) ∧ ∀ q : Nat, (k + 1) ≤ q → q ≤ v → ∀ X : Nat, zSb p L X = true → g1 124 (512 * q + X) = zPf h L pl (v - q) q X := hJ
            show zH _ _ (76, [some (.inr (.inr (some 104))), some (.inl (v : Int)), some (.inl (u : Int)), some (.inl (k : Int)), x4, x5, x6], [], (zs g1 hl)) _
            obtain ⟨hkv, hJ1, hJ2⟩ := hJ
            obtain ⟨P, eP⟩ : ∃ P, P = pl k := ⟨_, rfl⟩
            have hPp2 : P < p ∧ h 111 k = (P : Int) := by rw [eP]; exact hpj k (by omega)
            refine zH_go 1 (c' := (77, [some (.inr (.inr (some 104))), some (.inl (v : Int)), some (.inl (u : Int)), some (.inl (k : Int)), x4, x5, x6], [.inl (k : Int)], (zs g1 hl))) rfl ?_
            refine zH_bf (x := (k : Int)) (y := 0) (k := .lt) (c1 := (252, [some (.inr (.inr (some 104))), some (.inl (v : Int)), some (.inl (u : Int)), some (.inl (k : Int)), x4, x5, x6], [], (zs g1 hl))) (c2 := (80, [some (.inr (.inr (some 104))), some (.inl (v : Int)), some (.inl (u : Int)), some (.inl (k : Int)), x4, x5, x6], [], (zs g1 hl))) rfl (by first | assumption | (unfold zr; omega)) ⟨by decide, by decide⟩ (by show ¬ ((k : Int) < 0); omega) ?_
            refine zH_go 2 (c' := (83, [some (.inr (.inr (some 104))), some (.inl (v : Int)), some (.inl (u : Int)), some (.inl (k : Int)), some (.inl 0), x5, x6], [], (zs g1 hl))) rfl ?_
            refine zH_lp (X := (Nat → Nat → Int) × (Option zV) × (Option zV)) (F := fun (kq : Nat) (x : (Nat → Nat → Int) × (Option zV) × (Option zV)) => (83, [some (.inr (.inr (some 104))), some (.inl (v : Int)), some (.inl (u : Int)), some (.inl (k : Int)), some (.inl (kq : Int)), x.2.1, x.2.2], [], (zs x.1 hl))) (I := fun (kq : Nat) (x : (Nat → Nat → Int) × (Option zV) × (Option zV)) => (∀ c : Nat, c ≠ 124 → x.1 c = g1 c) ∧ (∀ j : Nat, j < 512 * k ∨ 512 * k + 512 ≤ j → x.1 124 j = g1 124 j) ∧ ∀ X : Nat, X < kq → zSb p L X = true → x.1 124 (512 * k + X) = zPf h L pl (v - k) k X) (N := 512) (fun t x htk hQ ih2 => ?_) (fun x hQ => ?_) 0 (g1, x5, x6) (by omega) ?_
            · obtain ⟨g2, x5, x6⟩ := x
              replace hQ : (∀ c : Nat, c ≠ 124 → g2 c = g1 c) ∧ (∀ j : Nat, j < 512 * k ∨ 512 * k + 512 ≤ j → g2 124 j = g1 124 j) ∧ ∀ X : Nat, X < t → zSb p L X = true → g2 124 (512 * k + X) = zPf h L pl (v - k) k X := hQ
              show zH _ _ (83, [some (.inr (.inr (some 104))), some (.inl (v : Int)), some (.inl (u : Int)), some (.inl (k : Int)), some (.inl (t : Int)), x5, x6], [], (zs g2 hl)) _
              refine zH_go 2 (c' := (88, [some (.inr (.inr (some 104))), some (.inl (v : Int)), some (.inl (u : Int)), some (.inl (k : Int)), some (.inl (t : Int)), x5, x6], [.inl 512, .inl (t : Int)], (zs g2 hl))) rfl ?_
              refine zH_bf (x := (t : Int)) (y := 512) (k := .ge) (c1 := (246, [some (.inr (.inr (some 104))), some (.inl (v : Int)), some (.inl (u : Int)), some (.inl (k : Int)), some (.inl (t : Int)), x5, x6], [], (zs g2 hl))) (c2 := (91, [some (.inr (.inr (some 104))), some (.inl (v : Int)), some (.inl (u : Int)), some (.inl (k : Int)), some (.inl (t : Int)), x5, x6], [], (zs g2 hl))) rfl (by first | assumption | (unfold zr; omega)) ⟨by decide, by decide⟩ (by show ¬ (¬ (t : Int) < 512); omega) ?_
              refine zH_go 8 (c' := (105, [some (.inr (.inr (some 104))), some (.inl (v : Int)), some (.inl (u : Int)), some (.inl (k : Int)), some (.inl (t : Int)), x5, x6], [.inl 100000000, .inl ((512 * (k : Int)) + (t : Int)), .inr (.inr (some 124))], (zs g2 hl))) rfl ?_
              refine zH_np (P := 0 ≤ ((512 * (k : Int)) + (t : Int)) ∧ ((512 * (k : Int)) + (t : Int)) < ((6656 : Nat) : Int)) (c' := (106, [some (.inr (.inr (some 104))), some (.inl (v : Int)), some (.inl (u : Int)), some (.inl (k : Int)), some (.inl (t : Int)), x5, x6], [], (zs (zup g2 124 ((512 * k) + t) 100000000) hl))) rfl ⟨by omega, by omega⟩ ?_
              refine zH_go 2 (c' := (109, [some (.inr (.inr (some 104))), some (.inl (v : Int)), some (.inl (u : Int)), some (.inl (k : Int)), some (.inl (t : Int)), some (.inl 0), x6], [], (zs (zup g2 124 ((512 * k) + t) 100000000) hl))) rfl ?_
              have f2 : ∀ c : Nat, c ≠ 124 → g2 c = h c := fun c hc => by rw [hQ.1 c hc]; exact hJ1 c hc
              cases hts : zSb p L t with
              | false =>
                obtain ⟨g3, e3⟩ : ∃ g3, g3 = (zup g2 124 ((512 * k) + t) 100000000) := ⟨_, rfl⟩
                rw [← e3]
                have f3 : ∀ c : Nat, c ≠ 124 → g3 c = h c := fun c hc => by rw [← f2 c hc, e3]; funext q; exact zup_ne hc
                have k9 : g3 104 9 = (L : Int) := by rw [f3 104 (by decide)]; exact m9
                show zH _ _ (109, [some (.inr (.inr (some 104))), some (.inl (v : Int)), some (.inl (u : Int)), some (.inl (k : Int)), some (.inl (t : Int)), some (.inl 0), x6], [], (zs g3 hl)) _
                refine zH_go 3 (c' := (115, [some (.inr (.inr (some 104))), some (.inl (v : Int)), some (.inl (u : Int)), some (.inl (k : Int)), some (.inl (t : Int)), some (.inl 0), x6], [.inl (g3 104 9), .inl 0], (zs g3 hl))) rfl ?_
                rw [k9]
                refine zH_bf (x := 0) (y := (L : Int)) (k := .ge) (c1 := (240, [some (.inr (.inr (some 104))), some (.inl (v : Int)), some (.inl (u : Int)), some (.inl (k : Int)), some (.inl (t : Int)), some (.inl 0), x6], [], (zs g3 hl))) (c2 := (118, [some (.inr (.inr (some 104))), some (.inl (v : Int)), some (.inl (u : Int)), some (.inl (k : Int)), some (.inl (t : Int)), some (.inl 0), x6], [], (zs g3 hl))) rfl ⟨by decide, by decide⟩ (by first | assumption | (unfold zr; omega)) (by show ¬ (¬ 0 < (L : Int)); omega) ?_
                refine zH_go 3 (c' := (123, [some (.inr (.inr (some 104))), some (.inl (v : Int)), some (.inl (u : Int)), some (.inl (k : Int)), some (.inl (t : Int)), some (.inl 0), x6], [.inl (g3 104 9), .inr (.inr (some 104))], (zs g3 hl))) rfl ?_
                rw [k9]
                refine zH_go 1 (c' := (125, [some (.inr (.inr (some 104))), some (.inl (v : Int)), some (.inl (u : Int)), some (.inl (k : Int)), some (.inl (t : Int)), some (.inl 0), x6], [.inl (t : Int), .inl (L : Int), .inr (.inr (some 104))], (zs g3 hl))) rfl ?_
                refine zH_call (M' := 112) (as := [.inr (.inr (some 104)), .inl (L : Int), .inl (t : Int)]) (T := []) rfl (p_isStd (h := g3) (L := L) hL3 (show zr (t : Int) from ⟨by omega, by omega⟩) (by rw [f3 104 (by decide)]; exact hP)) (fun r σ' p_6 => ?_)
                rcases p_6 with ⟨rfl, b_7, rfl⟩ | ⟨rfl, b_7, rfl⟩
                · rw [f3 104 (by decide), hPp] at b_7
                  exfalso
                  have z := zSb_iff.mp b_7
                  rw [hts] at z
                  exact absurd z (by decide)
                · rw [f3 104 (by decide), hPp] at b_7
                  show zH _ _ (128, [some (.inr (.inr (some 104))), some (.inl (v : Int)), some (.inl (u : Int)), some (.inl (k : Int)), some (.inl (t : Int)), some (.inl 0), x6], [.inl 0], (zs g3 hl)) _
                  refine zH_bt (x := 0) (y := 0) (k := .eq) (c1 := (240, [some (.inr (.inr (some 104))), some (.inl (v : Int)), some (.inl (u : Int)), some (.inl (k : Int)), some (.inl (t : Int)), some (.inl 0), x6], [], (zs g3 hl))) (c2 := (131, [some (.inr (.inr (some 104))), some (.inl (v : Int)), some (.inl (u : Int)), some (.inl (k : Int)), some (.inl (t : Int)), some (.inl 0), x6], [], (zs g3 hl))) rfl ⟨by decide, by decide⟩ ⟨by decide, by decide⟩ (by show 0 = 0; decide) ?_
                  rw [e3]
                  show zH _ _ (240, [some (.inr (.inr (some 104))), some (.inl (v : Int)), some (.inl (u : Int)), some (.inl (k : Int)), some (.inl (t : Int)), some (.inl 0), x6], [], (zs (zup g2 124 ((512 * k) + t) 100000000) hl)) _
                  refine zH_go 2 (c' := (83, [some (.inr (.inr (some 104))), some (.inl (v : Int)), some (.inl (u : Int)), some (.inl (k : Int)), some (.inl ((t : Int) + 1)), some (.inl 0), x6], [], (zs (zup g2 124 ((512 * k) + t) 100000000) hl))) rfl ?_
                  refine ih2 ((zup g2 124 ((512 * k) + t) 100000000), (some (.inl 0)), x6) ?_
                  show (∀ c : Nat, c ≠ 124 → (zup g2 124 ((512 * k) + t) 100000000) c = g1 c) ∧ (∀ j : Nat, j < 512 * k ∨ 512 * k + 512 ≤ j → (zup g2 124 ((512 * k) + t) 100000000) 124 j = g1 124 j) ∧ ∀ X : Nat, X < (t + 1) → zSb p L X = true → (zup g2 124 ((512 * k) + t) 100000000) 124 (512 * k + X) = zPf h L pl (v - k) k X
                  refine ⟨fun c hc => by rw [← hQ.1 c hc]; funext q; exact zup_ne hc, fun j hj => by rw [zup_k (by omega)]; exact hQ.2.1 j hj, fun X hX hXs => ?_⟩
                  by_cases w : X = t
                  · rw [w, hts] at hXs; exact absurd hXs (by decide)
                  · rw [zup_k (by omega)]; exact hQ.2.2 X (by omega) hXs
              | true =>
                refine zH_lp (X := (Nat → Nat → Int) × (Option zV)) (F := fun (kq : Nat) (x : (Nat → Nat → Int) × (Option zV)) => (109, [some (.inr (.inr (some 104))), some (.inl (v : Int)), some (.inl (u : Int)), some (.inl (k : Int)), some (.inl (t : Int)), some (.inl (kq : Int)), x.2], [], (zs x.1 hl))) (I := fun (kq : Nat) (x : (Nat → Nat → Int) × (Option zV)) => (∀ c : Nat, c ≠ 124 → x.1 c = g2 c) ∧ (∀ j : Nat, j ≠ 512 * k + t → x.1 124 j = g2 124 j) ∧ (∀ l2 : Nat, l2 < kq → x.1 124 (512 * k + t) ≤ (zPc h L pl v k t l2)) ∧ (x.1 124 (512 * k + t) = 100000000 ∨ ∃ l2 : Nat, l2 < kq ∧ x.1 124 (512 * k + t) = (zPc h L pl v k t l2))) (N := L) (fun l x hlL hR ih3 => ?_) (fun x hR => ?_) 0 ((zup g2 124 ((512 * k) + t) 100000000), x6) (by omega) ?_
                · obtain ⟨g3, x6⟩ := x
                  replace hR : (∀ c : Nat, c ≠ 124 → g3 c = g2 c) ∧ (∀ j : Nat, j ≠ 512 * k + t → g3 124 j = g2 124 j) ∧ (∀ l2 : Nat, l2 < l → g3 124 (512 * k + t) ≤ (zPc h L pl v k t l2)) ∧ (g3 124 (512 * k + t) = 100000000 ∨ ∃ l2 : Nat, l2 < l ∧ g3 124 (512 * k + t) = (zPc h L pl v k t l2)) := hR
                  show zH _ _ (109, [some (.inr (.inr (some 104))), some (.inl (v : Int)), some (.inl (u : Int)), some (.inl (k : Int)), some (.inl (t : Int)), some (.inl (l : Int)), x6], [], (zs g3 hl)) _
                  have f3 : ∀ c : Nat, c ≠ 124 → g3 c = h c := fun c hc => by rw [hR.1 c hc]; exact f2 c hc
                  have k9 : g3 104 9 = (L : Int) := by rw [f3 104 (by decide)]; exact m9
                  have k111 : g3 111 k = (P : Int) := by rw [f3 111 (by decide)]; exact hPp2.2
                  have hdgl := zSb_dg hts hlL
                  have hwdl := zSb_wd hp6 hL3.2 hts hlL hPp2.1
                  have hwlt := zSb_lt hL3.2 hwdl
                  have kF : g3 108 ((6 * (zdg t l)) + P) = (h (12 + zdg t l) P) := by rw [f3 108 (by decide)]; exact hF _ _ hdgl hPp2.1
                  have kR : g3 124 ((512 * (k + 1)) + (zwd t l P)) = (zPf h L pl (v - (k + 1)) (k + 1) (zwd t l P)) := by rw [hR.2.1 _ (by omega), hQ.2.1 _ (by omega)]; exact hJ2 (k + 1) (Nat.le_refl _) (by omega) _ hwdl
                  have hcl := hcb k t l (by omega) hts hlL
                  have ecl : zPc h L pl v k t l = h (12 + zdg t l) P + zPf h L pl (v - (k + 1)) (k + 1) (zwd t l P) := by unfold zPc; rw [eP]
                  have hol : 0 ≤ g3 124 (512 * k + t) ∧ g3 124 (512 * k + t) ≤ 100000000 := by
                    rcases hR.2.2.2 with z | ⟨l2, z1, z2⟩
                    · omega
                    · have := hcb k t l2 (by omega) hts (by omega); omega
                  refine zH_go 3 (c' := (115, [some (.inr (.inr (some 104))), some (.inl (v : Int)), some (.inl (u : Int)), some (.inl (k : Int)), some (.inl (t : Int)), some (.inl (l : Int)), x6], [.inl (g3 104 9), .inl (l : Int)], (zs g3 hl))) rfl ?_
                  rw [k9]
                  refine zH_bf (x := (l : Int)) (y := (L : Int)) (k := .ge) (c1 := (240, [some (.inr (.inr (some 104))), some (.inl (v : Int)), some (.inl (u : Int)), some (.inl (k : Int)), some (.inl (t : Int)), some (.inl (l : Int)), x6], [], (zs g3 hl))) (c2 := (118, [some (.inr (.inr (some 104))), some (.inl (v : Int)), some (.inl (u : Int)), some (.inl (k : Int)), some (.inl (t : Int)), some (.inl (l : Int)), x6], [], (zs g3 hl))) rfl (by first | assumption | (unfold zr; omega)) (by first | assumption | (unfold zr; omega)) (by show ¬ (¬ (l : Int) < (L : Int)); omega) ?_
                  refine zH_go 3 (c' := (123, [some (.inr (.inr (some 104))), some (.inl (v : Int)), some (.inl (u : Int)), some (.inl (k : Int)), some (.inl (t : Int)), some (.inl (l : Int)), x6], [.inl (g3 104 9), .inr (.inr (some 104))], (zs g3 hl))) rfl ?_
                  rw [k9]
                  refine zH_go 1 (c' := (125, [some (.inr (.inr (some 104))), some (.inl (v : Int)), some (.inl (u : Int)), some (.inl (k : Int)), some (.inl (t : Int)), some (.inl (l : Int)), x6], [.inl (t : Int), .inl (L : Int), .inr (.inr (some 104))], (zs g3 hl))) rfl ?_
                  refine zH_call (M' := 112) (as := [.inr (.inr (some 104)), .inl (L : Int), .inl (t : Int)]) (T := []) rfl (p_isStd (h := g3) (L := L) hL3 (show zr (t : Int) from ⟨by omega, by omega⟩) (by rw [f3 104 (by decide)]; exact hP)) (fun r σ' p_8 => ?_)
                  rcases p_8 with ⟨rfl, b_9, rfl⟩ | ⟨rfl, b_9, rfl⟩
                  · rw [f3 104 (by decide), hPp] at b_9
                    show zH _ _ (128, [some (.inr (.inr (some 104))), some (.inl (v : Int)), some (.inl (u : Int)), some (.inl (k : Int)), some (.inl (t : Int)), some (.inl (l : Int)), x6], [.inl 1], (zs g3 hl)) _
                    refine zH_bf (x := 1) (y := 0) (k := .eq) (c1 := (240, [some (.inr (.inr (some 104))), some (.inl (v : Int)), some (.inl (u : Int)), some (.inl (k : Int)), some (.inl (t : Int)), some (.inl (l : Int)), x6], [], (zs g3 hl))) (c2 := (131, [some (.inr (.inr (some 104))), some (.inl (v : Int)), some (.inl (u : Int)), some (.inl (k : Int)), some (.inl (t : Int)), some (.inl (l : Int)), x6], [], (zs g3 hl))) rfl ⟨by decide, by decide⟩ ⟨by decide, by decide⟩ (by show ¬ (1 = 0); decide) ?_
                    refine zH_go 10 (c' := (147, [some (.inr (.inr (some 104))), some (.inl (v : Int)), some (.inl (u : Int)), some (.inl (k : Int)), some (.inl (t : Int)), some (.inl (l : Int)), x6], [.inl (zand (zshr (t : Int) (3 * (l : Int))) 7), .inl 6, .inr (.inr (some 108))], (zs g3 hl))) rfl ?_
                    rw [show (zand (zshr (t : Int) (3 * (l : Int))) 7) = ((zdg t l : Nat) : Int) from zdigit_ok t (by omega) l (by omega)]
                    refine zH_go 4 (c' := (153, [some (.inr (.inr (some 104))), some (.inl (v : Int)), some (.inl (u : Int)), some (.inl (k : Int)), some (.inl (t : Int)), some (.inl (l : Int)), x6], [.inl (k : Int), .inr (.inr (some 111)), .inl (6 * ((zdg t l : Nat) : Int)), .inr (.inr (some 108))], (zs g3 hl))) rfl ?_
                    refine zH_np (P := 0 ≤ (k : Int) ∧ (k : Int) < ((12 : Nat) : Int)) (c' := (154, [some (.inr (.inr (some 104))), some (.inl (v : Int)), some (.inl (u : Int)), some (.inl (k : Int)), some (.inl (t : Int)), some (.inl (l : Int)), x6], [.inl (g3 111 k), .inl (6 * ((zdg t l : Nat) : Int)), .inr (.inr (some 108))], (zs g3 hl))) rfl ⟨by omega, by omega⟩ ?_
                    rw [k111]
                    refine zH_go 1 (c' := (155, [some (.inr (.inr (some 104))), some (.inl (v : Int)), some (.inl (u : Int)), some (.inl (k : Int)), some (.inl (t : Int)), some (.inl (l : Int)), x6], [.inl ((6 * ((zdg t l : Nat) : Int)) + (P : Int)), .inr (.inr (some 108))], (zs g3 hl))) rfl ?_
                    refine zH_np (P := 0 ≤ ((6 * ((zdg t l : Nat) : Int)) + (P : Int)) ∧ ((6 * ((zdg t l : Nat) : Int)) + (P : Int)) < ((36 : Nat) : Int)) (c' := (156, [some (.inr (.inr (some 104))), some (.inl (v : Int)), some (.inl (u : Int)), some (.inl (k : Int)), some (.inl (t : Int)), some (.inl (l : Int)), x6], [.inl (g3 108 ((6 * (zdg t l)) + P))], (zs g3 hl))) rfl ⟨by omega, by omega⟩ ?_
                    rw [kF]
                    refine zH_go 12 (c' := (176, [some (.inr (.inr (some 104))), some (.inl (v : Int)), some (.inl (u : Int)), some (.inl (k : Int)), some (.inl (t : Int)), some (.inl (l : Int)), x6], [.inl (k : Int), .inr (.inr (some 111)), .inl (l : Int), .inl (t : Int), .inl (512 * ((k : Int) + 1)), .inr (.inr (some 124)), .inl (h (12 + zdg t l) P)], (zs g3 hl))) rfl ?_
                    refine zH_np (P := 0 ≤ (k : Int) ∧ (k : Int) < ((12 : Nat) : Int)) (c' := (177, [some (.inr (.inr (some 104))), some (.inl (v : Int)), some (.inl (u : Int)), some (.inl (k : Int)), some (.inl (t : Int)), some (.inl (l : Int)), x6], [.inl (g3 111 k), .inl (l : Int), .inl (t : Int), .inl (512 * ((k : Int) + 1)), .inr (.inr (some 124)), .inl (h (12 + zdg t l) P)], (zs g3 hl))) rfl ⟨by omega, by omega⟩ ?_
                    rw [k111]
                    refine zH_call (M' := 115) (as := [.inl (t : Int), .inl (l : Int), .inl (P : Int)]) (T := [.inl (512 * ((k : Int) + 1)), .inr (.inr (some 124)), .inl (h (12 + zdg t l) P)]) rfl (p_moved (n := t) (i := l) (v := P) (by omega) (by omega) (by omega)) (fun r σ' p_10 => ?_)
                    obtain ⟨rfl, rfl⟩ := p_10
                    show zH _ _ (180, [some (.inr (.inr (some 104))), some (.inl (v : Int)), some (.inl (u : Int)), some (.inl (k : Int)), some (.inl (t : Int)), some (.inl (l : Int)), x6], [.inl ((zwd t l P : Nat) : Int), .inl (512 * ((k : Int) + 1)), .inr (.inr (some 124)), .inl (h (12 + zdg t l) P)], (zs g3 hl)) _
                    refine zH_go 1 (c' := (181, [some (.inr (.inr (some 104))), some (.inl (v : Int)), some (.inl (u : Int)), some (.inl (k : Int)), some (.inl (t : Int)), some (.inl (l : Int)), x6], [.inl ((512 * ((k : Int) + 1)) + ((zwd t l P : Nat) : Int)), .inr (.inr (some 124)), .inl (h (12 + zdg t l) P)], (zs g3 hl))) rfl ?_
                    refine zH_np (P := 0 ≤ ((512 * ((k : Int) + 1)) + ((zwd t l P : Nat) : Int)) ∧ ((512 * ((k : Int) + 1)) + ((zwd t l P : Nat) : Int)) < ((6656 : Nat) : Int)) (c' := (182, [some (.inr (.inr (some 104))), some (.inl (v : Int)), some (.inl (u : Int)), some (.inl (k : Int)), some (.inl (t : Int)), some (.inl (l : Int)), x6], [.inl (g3 124 ((512 * (k + 1)) + (zwd t l P))), .inl (h (12 + zdg t l) P)], (zs g3 hl))) rfl ⟨by omega, by omega⟩ ?_
                    rw [kR]
                    refine zH_go 17 (c' := (211, [some (.inr (.inr (some 104))), some (.inl (v : Int)), some (.inl (u : Int)), some (.inl (k : Int)), some (.inl (t : Int)), some (.inl (l : Int)), some (.inl ((h (12 + zdg t l) P) + (zPf h L pl (v - (k + 1)) (k + 1) (zwd t l P))))], [.inl ((512 * (k : Int)) + (t : Int)), .inr (.inr (some 124)), .inl ((h (12 + zdg t l) P) + (zPf h L pl (v - (k + 1)) (k + 1) (zwd t l P))), .inl ((512 * (k : Int)) + (t : Int)), .inr (.inr (some 124))], (zs g3 hl))) rfl ?_
                    refine zH_np (P := 0 ≤ ((512 * (k : Int)) + (t : Int)) ∧ ((512 * (k : Int)) + (t : Int)) < ((6656 : Nat) : Int)) (c' := (212, [some (.inr (.inr (some 104))), some (.inl (v : Int)), some (.inl (u : Int)), some (.inl (k : Int)), some (.inl (t : Int)), some (.inl (l : Int)), some (.inl ((h (12 + zdg t l) P) + (zPf h L pl (v - (k + 1)) (k + 1) (zwd t l P))))], [.inl (g3 124 ((512 * k) + t)), .inl ((h (12 + zdg t l) P) + (zPf h L pl (v - (k + 1)) (k + 1) (zwd t l P))), .inl ((512 * (k : Int)) + (t : Int)), .inr (.inr (some 124))], (zs g3 hl))) rfl ⟨by omega, by omega⟩ ?_
                    refine zH_mg (F := fun mq => (233, [some (.inr (.inr (some 104))), some (.inl (v : Int)), some (.inl (u : Int)), some (.inl (k : Int)), some (.inl (t : Int)), some (.inl (l : Int)), some (.inl ((h (12 + zdg t l) P) + (zPf h L pl (v - (k + 1)) (k + 1) (zwd t l P))))], [.inl mq, .inl ((512 * (k : Int)) + (t : Int)), .inr (.inr (some 124))], (zs g3 hl))) (R := fun mq => mq ≤ ((h (12 + zdg t l) P) + (zPf h L pl (v - (k + 1)) (k + 1) (zwd t l P))) ∧ mq ≤ (g3 124 ((512 * k) + t)) ∧ (mq = ((h (12 + zdg t l) P) + (zPf h L pl (v - (k + 1)) (k + 1) (zwd t l P))) ∨ mq = (g3 124 ((512 * k) + t)))) (fun m_11 fm_11 => ?_) (fun kk => ?_)
                    · replace fm_11 : m_11 ≤ ((h (12 + zdg t l) P) + (zPf h L pl (v - (k + 1)) (k + 1) (zwd t l P))) ∧ m_11 ≤ (g3 124 ((512 * k) + t)) ∧ (m_11 = ((h (12 + zdg t l) P) + (zPf h L pl (v - (k + 1)) (k + 1) (zwd t l P))) ∨ m_11 = (g3 124 ((512 * k) + t))) := fm_11
                      show zH _ _ (233, [some (.inr (.inr (some 104))), some (.inl (v : Int)), some (.inl (u : Int)), some (.inl (k : Int)), some (.inl (t : Int)), some (.inl (l : Int)), some (.inl ((h (12 + zdg t l) P) + (zPf h L pl (v - (k + 1)) (k + 1) (zwd t l P))))], [.inl m_11, .inl ((512 * (k : Int)) + (t : Int)), .inr (.inr (some 124))], (zs g3 hl)) _
                      refine zH_np (P := 0 ≤ ((512 * (k : Int)) + (t : Int)) ∧ ((512 * (k : Int)) + (t : Int)) < ((6656 : Nat) : Int)) (c' := (234, [some (.inr (.inr (some 104))), some (.inl (v : Int)), some (.inl (u : Int)), some (.inl (k : Int)), some (.inl (t : Int)), some (.inl (l : Int)), some (.inl ((h (12 + zdg t l) P) + (zPf h L pl (v - (k + 1)) (k + 1) (zwd t l P))))], [], (zs (zup g3 124 ((512 * k) + t) m_11) hl))) rfl ⟨by omega, by omega⟩ ?_
                      refine zH_go 2 (c' := (109, [some (.inr (.inr (some 104))), some (.inl (v : Int)), some (.inl (u : Int)), some (.inl (k : Int)), some (.inl (t : Int)), some (.inl ((l : Int) + 1)), some (.inl ((h (12 + zdg t l) P) + (zPf h L pl (v - (k + 1)) (k + 1) (zwd t l P))))], [], (zs (zup g3 124 ((512 * k) + t) m_11) hl))) rfl ?_
                      refine ih3 ((zup g3 124 ((512 * k) + t) m_11), (some (.inl ((h (12 + zdg t l) P) + (zPf h L pl (v - (k + 1)) (k + 1) (zwd t l P)))))) ?_
                      show (∀ c : Nat, c ≠ 124 → (zup g3 124 ((512 * k) + t) m_11) c = g2 c) ∧ (∀ j : Nat, j ≠ 512 * k + t → (zup g3 124 ((512 * k) + t) m_11) 124 j = g2 124 j) ∧ (∀ l2 : Nat, l2 < (l + 1) → (zup g3 124 ((512 * k) + t) m_11) 124 (512 * k + t) ≤ (zPc h L pl v k t l2)) ∧ ((zup g3 124 ((512 * k) + t) m_11) 124 (512 * k + t) = 100000000 ∨ ∃ l2 : Nat, l2 < (l + 1) ∧ (zup g3 124 ((512 * k) + t) m_11) 124 (512 * k + t) = (zPc h L pl v k t l2))
                      refine ⟨fun c hc => by rw [← hR.1 c hc]; funext q; exact zup_ne hc, fun j hj => by rw [zup_k (by omega)]; exact hR.2.1 j hj, fun l2 hl2 => ?_, ?_⟩
                      · rw [zup_eq]
                        by_cases w : l2 = l
                        · rw [w]; omega
                        · have := hR.2.2.1 l2 (by omega); omega
                      · rw [zup_eq]
                        rcases fm_11.2.2 with w | w
                        · exact Or.inr ⟨l, by omega, by omega⟩
                        · rcases hR.2.2.2 with z | ⟨l2, z1, z2⟩
                          · exact Or.inl (by omega)
                          · exact Or.inr ⟨l2, by omega, by omega⟩
                    · refine zH_br (x := ((h (12 + zdg t l) P) + (zPf h L pl (v - (k + 1)) (k + 1) (zwd t l P)))) (y := (g3 124 ((512 * k) + t))) (k := .ge) (c1 := (220, [some (.inr (.inr (some 104))), some (.inl (v : Int)), some (.inl (u : Int)), some (.inl (k : Int)), some (.inl (t : Int)), some (.inl (l : Int)), some (.inl ((h (12 + zdg t l) P) + (zPf h L pl (v - (k + 1)) (k + 1) (zwd t l P))))], [.inl ((512 * (k : Int)) + (t : Int)), .inr (.inr (some 124))], (zs g3 hl))) (c2 := (215, [some (.inr (.inr (some 104))), some (.inl (v : Int)), some (.inl (u : Int)), some (.inl (k : Int)), some (.inl (t : Int)), some (.inl (l : Int)), some (.inl ((h (12 + zdg t l) P) + (zPf h L pl (v - (k + 1)) (k + 1) (zwd t l P))))], [.inl ((512 * (k : Int)) + (t : Int)), .inr (.inr (some 124))], (zs g3 hl))) rfl (by first | assumption | (unfold zr; omega)) (by first | assumption | (unfold zr; omega)) (fun (b_12 : ¬ ((h (12 + zdg t l) P) + (zPf h L pl (v - (k + 1)) (k + 1) (zwd t l P))) < (g3 124 ((512 * k) + t))) => ?_) (fun (b_12 : ¬ (¬ ((h (12 + zdg t l) P) + (zPf h L pl (v - (k + 1)) (k + 1) (zwd t l P))) < (g3 124 ((512 * k) + t)))) => ?_)
                      · refine zH_go 7 (c' := (232, [some (.inr (.inr (some 104))), some (.inl (v : Int)), some (.inl (u : Int)), some (.inl (k : Int)), some (.inl (t : Int)), some (.inl (l : Int)), some (.inl ((h (12 + zdg t l) P) + (zPf h L pl (v - (k + 1)) (k + 1) (zwd t l P))))], [.inl ((512 * (k : Int)) + (t : Int)), .inr (.inr (some 124)), .inl ((512 * (k : Int)) + (t : Int)), .inr (.inr (some 124))], (zs g3 hl))) rfl ?_
                        refine zH_np (P := 0 ≤ ((512 * (k : Int)) + (t : Int)) ∧ ((512 * (k : Int)) + (t : Int)) < ((6656 : Nat) : Int)) (c' := (233, [some (.inr (.inr (some 104))), some (.inl (v : Int)), some (.inl (u : Int)), some (.inl (k : Int)), some (.inl (t : Int)), some (.inl (l : Int)), some (.inl ((h (12 + zdg t l) P) + (zPf h L pl (v - (k + 1)) (k + 1) (zwd t l P))))], [.inl (g3 124 ((512 * k) + t)), .inl ((512 * (k : Int)) + (t : Int)), .inr (.inr (some 124))], (zs g3 hl))) rfl ⟨by omega, by omega⟩ ?_
                        refine kk (g3 124 ((512 * k) + t)) ?_
                        show (g3 124 ((512 * k) + t)) ≤ ((h (12 + zdg t l) P) + (zPf h L pl (v - (k + 1)) (k + 1) (zwd t l P))) ∧ (g3 124 ((512 * k) + t)) ≤ (g3 124 ((512 * k) + t)) ∧ ((g3 124 ((512 * k) + t)) = ((h (12 + zdg t l) P) + (zPf h L pl (v - (k + 1)) (k + 1) (zwd t l P))) ∨ (g3 124 ((512 * k) + t)) = (g3 124 ((512 * k) + t)))
                        exact ⟨by omega, by omega, by omega⟩
                      · refine zH_go 2 (c' := (233, [some (.inr (.inr (some 104))), some (.inl (v : Int)), some (.inl (u : Int)), some (.inl (k : Int)), some (.inl (t : Int)), some (.inl (l : Int)), some (.inl ((h (12 + zdg t l) P) + (zPf h L pl (v - (k + 1)) (k + 1) (zwd t l P))))], [.inl ((h (12 + zdg t l) P) + (zPf h L pl (v - (k + 1)) (k + 1) (zwd t l P))), .inl ((512 * (k : Int)) + (t : Int)), .inr (.inr (some 124))], (zs g3 hl))) rfl ?_
                        refine kk ((h (12 + zdg t l) P) + (zPf h L pl (v - (k + 1)) (k + 1) (zwd t l P))) ?_
                        show ((h (12 + zdg t l) P) + (zPf h L pl (v - (k + 1)) (k + 1) (zwd t l P))) ≤ ((h (12 + zdg t l) P) + (zPf h L pl (v - (k + 1)) (k + 1) (zwd t l P))) ∧ ((h (12 + zdg t l) P) + (zPf h L pl (v - (k + 1)) (k + 1) (zwd t l P))) ≤ (g3 124 ((512 * k) + t)) ∧ (((h (12 + zdg t l) P) + (zPf h L pl (v - (k + 1)) (k + 1) (zwd t l P))) = ((h (12 + zdg t l) P) + (zPf h L pl (v - (k + 1)) (k + 1) (zwd t l P))) ∨ ((h (12 + zdg t l) P) + (zPf h L pl (v - (k + 1)) (k + 1) (zwd t l P))) = (g3 124 ((512 * k) + t)))
                        exact ⟨by omega, by omega, by omega⟩
                  · rw [f3 104 (by decide), hPp] at b_9
                    exfalso
                    exact b_9 (zSb_iff.mpr hts)
                · obtain ⟨g3, x6⟩ := x
                  replace hR : (∀ c : Nat, c ≠ 124 → g3 c = g2 c) ∧ (∀ j : Nat, j ≠ 512 * k + t → g3 124 j = g2 124 j) ∧ (∀ l2 : Nat, l2 < L → g3 124 (512 * k + t) ≤ (zPc h L pl v k t l2)) ∧ (g3 124 (512 * k + t) = 100000000 ∨ ∃ l2 : Nat, l2 < L ∧ g3 124 (512 * k + t) = (zPc h L pl v k t l2)) := hR
                  show zH _ _ (109, [some (.inr (.inr (some 104))), some (.inl (v : Int)), some (.inl (u : Int)), some (.inl (k : Int)), some (.inl (t : Int)), some (.inl (L : Int)), x6], [], (zs g3 hl)) _
                  have f3 : ∀ c : Nat, c ≠ 124 → g3 c = h c := fun c hc => by rw [hR.1 c hc]; exact f2 c hc
                  have k9 : g3 104 9 = (L : Int) := by rw [f3 104 (by decide)]; exact m9
                  refine zH_go 3 (c' := (115, [some (.inr (.inr (some 104))), some (.inl (v : Int)), some (.inl (u : Int)), some (.inl (k : Int)), some (.inl (t : Int)), some (.inl (L : Int)), x6], [.inl (g3 104 9), .inl (L : Int)], (zs g3 hl))) rfl ?_
                  rw [k9]
                  refine zH_bt (x := (L : Int)) (y := (L : Int)) (k := .ge) (c1 := (240, [some (.inr (.inr (some 104))), some (.inl (v : Int)), some (.inl (u : Int)), some (.inl (k : Int)), some (.inl (t : Int)), some (.inl (L : Int)), x6], [], (zs g3 hl))) (c2 := (118, [some (.inr (.inr (some 104))), some (.inl (v : Int)), some (.inl (u : Int)), some (.inl (k : Int)), some (.inl (t : Int)), some (.inl (L : Int)), x6], [], (zs g3 hl))) rfl (by first | assumption | (unfold zr; omega)) (by first | assumption | (unfold zr; omega)) (by show ¬ (L : Int) < (L : Int); omega) ?_
                  refine zH_go 2 (c' := (83, [some (.inr (.inr (some 104))), some (.inl (v : Int)), some (.inl (u : Int)), some (.inl (k : Int)), some (.inl ((t : Int) + 1)), some (.inl (L : Int)), x6], [], (zs g3 hl))) rfl ?_
                  refine ih2 (g3, (some (.inl (L : Int))), x6) ?_
                  show (∀ c : Nat, c ≠ 124 → g3 c = g1 c) ∧ (∀ j : Nat, j < 512 * k ∨ 512 * k + 512 ≤ j → g3 124 j = g1 124 j) ∧ ∀ X : Nat, X < (t + 1) → zSb p L X = true → g3 124 (512 * k + X) = zPf h L pl (v - k) k X
                  refine ⟨fun c hc => by rw [hR.1 c hc]; exact hQ.1 c hc, fun j hj => by rw [hR.2.1 j (by omega)]; exact hQ.2.1 j hj, fun X hX hXs => ?_⟩
                  by_cases w : X = t
                  · rw [w]
                    obtain ⟨l1, c1, c2⟩ := zm3_at (fun l => zPc h L pl v k t l) hL3
                    have c3 := hR.2.2.1 l1 c1
                    have c4 := hcb k t l1 (by omega) hts c1
                    rw [← zPf_c (by omega)] at c2
                    try dsimp only at c2
                    rcases hR.2.2.2 with c5 | ⟨l2, c6, c7⟩
                    · omega
                    · have c8 := zm3_le (fun l => zPc h L pl v k t l) hL3 c6
                      rw [← zPf_c (by omega)] at c8
                      try dsimp only at c8
                      omega
                  · rw [hR.2.1 _ (by omega)]; exact hQ.2.2 X (by omega) hXs
                · show (∀ c : Nat, c ≠ 124 → (zup g2 124 ((512 * k) + t) 100000000) c = g2 c) ∧ (∀ j : Nat, j ≠ 512 * k + t → (zup g2 124 ((512 * k) + t) 100000000) 124 j = g2 124 j) ∧ (∀ l2 : Nat, l2 < 0 → (zup g2 124 ((512 * k) + t) 100000000) 124 (512 * k + t) ≤ (zPc h L pl v k t l2)) ∧ ((zup g2 124 ((512 * k) + t) 100000000) 124 (512 * k + t) = 100000000 ∨ ∃ l2 : Nat, l2 < 0 ∧ (zup g2 124 ((512 * k) + t) 100000000) 124 (512 * k + t) = (zPc h L pl v k t l2))
                  refine ⟨fun c hc => by funext q; exact zup_ne hc, fun j hj => zup_k (by omega), fun l hl => absurd hl (Nat.not_lt_zero l), Or.inl zup_eq⟩
            · obtain ⟨g2, x5, x6⟩ := x
              replace hQ : (∀ c : Nat, c ≠ 124 → g2 c = g1 c) ∧ (∀ j : Nat, j < 512 * k ∨ 512 * k + 512 ≤ j → g2 124 j = g1 124 j) ∧ ∀ X : Nat, X < 512 → zSb p L X = true → g2 124 (512 * k + X) = zPf h L pl (v - k) k X := hQ
              show zH _ _ (83, [some (.inr (.inr (some 104))), some (.inl (v : Int)), some (.inl (u : Int)), some (.inl (k : Int)), some (.inl 512), x5, x6], [], (zs g2 hl)) _
              refine zH_go 2 (c' := (88, [some (.inr (.inr (some 104))), some (.inl (v : Int)), some (.inl (u : Int)), some (.inl (k : Int)), some (.inl 512), x5, x6], [.inl 512, .inl 512], (zs g2 hl))) rfl ?_
              refine zH_bt (x := 512) (y := 512) (k := .ge) (c1 := (246, [some (.inr (.inr (some 104))), some (.inl (v : Int)), some (.inl (u : Int)), some (.inl (k : Int)), some (.inl 512), x5, x6], [], (zs g2 hl))) (c2 := (91, [some (.inr (.inr (some 104))), some (.inl (v : Int)), some (.inl (u : Int)), some (.inl (k : Int)), some (.inl 512), x5, x6], [], (zs g2 hl))) rfl ⟨by decide, by decide⟩ ⟨by decide, by decide⟩ (by show ¬ 512 < 512; decide) ?_
              refine zH_go 2 (c' := (76, [some (.inr (.inr (some 104))), some (.inl (v : Int)), some (.inl (u : Int)), some (.inl ((k : Int) + (-1))), some (.inl 512), x5, x6], [], (zs g2 hl))) rfl ?_
              rw [zpr_eq k]
              refine ih (g2, (some (.inl 512)), x5, x6) ?_
              show k ≤ v ∧ (∀ c : Nat, c ≠ 124 → g2 c = h c) ∧ ∀ q : Nat, k ≤ q → q ≤ v → ∀ X : Nat, zSb p L X = true → g2 124 (512 * q + X) = zPf h L pl (v - q) q X
              refine ⟨by omega, fun c hc => by rw [hQ.1 c hc]; exact hJ1 c hc, fun q h1 h2 X hX => ?_⟩
              have hXl := zSb_lt hL3.2 hX
              by_cases w : q = k
              · rw [w]; exact hQ.2.2 X hXl hX
              · rw [hQ.2.1 _ (by omega)]
                exact hJ2 q (by omega) h2 X hX
            · show (∀ c : Nat, c ≠ 124 → g1 c = g1 c) ∧ (∀ j : Nat, j < 512 * k ∨ 512 * k + 512 ≤ j → g1 124 j = g1 124 j) ∧ ∀ X : Nat, X < 0 → zSb p L X = true → g1 124 (512 * k + X) = zPf h L pl (v - k) k X
              exact ⟨fun c hc => rfl, fun j hj => rfl, fun X hX => absurd hX (Nat.not_lt_zero X)⟩
          · obtain ⟨g1, x4, x5, x6⟩ := x
            replace hJ : 0 ≤ v ∧ (∀ c : Nat, c ≠ 124 → g1 c = h c) ∧ ∀ q : Nat, 0 ≤ q → q ≤ v → ∀ X : Nat, zSb p L X = true → g1 124 (512 * q + X) = zPf h L pl (v - q) q X := hJ
            show zH _ _ (76, [some (.inr (.inr (some 104))), some (.inl (v : Int)), some (.inl (u : Int)), some (.inl (-1)), x4, x5, x6], [], (zs g1 hl)) _
            have b10 : g1 104 10 = (B : Int) := by rw [hJ.2.1 104 (by decide)]; exact m10
            refine zH_go 1 (c' := (77, [some (.inr (.inr (some 104))), some (.inl (v : Int)), some (.inl (u : Int)), some (.inl (-1)), x4, x5, x6], [.inl (-1)], (zs g1 hl))) rfl ?_
            refine zH_bt (x := (-1)) (y := 0) (k := .lt) (c1 := (252, [some (.inr (.inr (some 104))), some (.inl (v : Int)), some (.inl (u : Int)), some (.inl (-1)), x4, x5, x6], [], (zs g1 hl))) (c2 := (80, [some (.inr (.inr (some 104))), some (.inl (v : Int)), some (.inl (u : Int)), some (.inl (-1)), x4, x5, x6], [], (zs g1 hl))) rfl ⟨by decide, by decide⟩ ⟨by decide, by decide⟩ (by show (-1) < 0; decide) ?_
            refine zH_go 2 (c' := (256, [some (.inr (.inr (some 104))), some (.inl (v : Int)), some (.inl (u : Int)), some (.inl (-1)), x4, x5, x6], [.inl (g1 104 10)], (zs g1 hl))) rfl ?_
            rw [b10]
            refine zH_go 5 (c' := (263, [some (.inr (.inr (some 104))), some (.inl (v : Int)), some (.inl (u : Int)), some (.inl (B : Int)), some (.inl 0), some (.inl 0), x6], [], (zs g1 hl))) rfl ?_
            refine zH_lp (X := Int × (Option zV)) (F := fun (kq : Nat) (x : Int × (Option zV)) => (263, [some (.inr (.inr (some 104))), some (.inl (v : Int)), some (.inl (u : Int)), some (.inl ((zPS h L B pl v kq : Nat) : Int)), some (.inl x.1), some (.inl (kq : Int)), x.2], [], (zs g1 hl))) (I := fun (kq : Nat) (x : Int × (Option zV)) => (∀ c : Nat, kq = c + 1 → x.1 = ((zPG h L B pl v c : Nat) : Int))) (N := (u + 1)) (fun k x hk hI ih => ?_) (fun x hI => ?_) 0 (0, x6) (by omega) ?_
            · obtain ⟨x4, x6⟩ := x
              replace hI : (∀ c : Nat, k = c + 1 → x4 = ((zPG h L B pl v c : Nat) : Int)) := hI
              show zH _ _ (263, [some (.inr (.inr (some 104))), some (.inl (v : Int)), some (.inl (u : Int)), some (.inl ((zPS h L B pl v k : Nat) : Int)), some (.inl x4), some (.inl (k : Int)), x6], [], (zs g1 hl)) _
              obtain ⟨X, hX⟩ : ∃ X, X = zPS h L B pl v k := ⟨_, rfl⟩
              obtain ⟨P, eP⟩ : ∃ P, P = pl k := ⟨_, rfl⟩
              have hPp2 : P < p ∧ h 111 k = (P : Int) := by rw [eP]; exact hpj k (by omega)
              have hXs : zSb p L X = true := by rw [hX]; exact zPS_sb hp6 hL3 hBs k (by omega) (fun q hq => hplv q (by omega))
              have hXl := zSb_lt hL3.2 hXs
              rw [← hX]
              have hfl := zFg_lt (h := h) (pl := pl) (s := X) hL3 (show k < v by omega)
              have hfa := zFg_at (h := h) (pl := pl) (s := X) hL3 (show k < v by omega)
              have k111 : g1 111 k = (P : Int) := by rw [hJ.2.1 111 (by decide)]; exact hPp2.2
              have kX : g1 124 ((512 * k) + X) = (zPf h L pl (v - k) k X) := hJ.2.2 k (Nat.zero_le k) (by omega) X hXs
              show zH _ _ (263, [some (.inr (.inr (some 104))), some (.inl (v : Int)), some (.inl (u : Int)), some (.inl (X : Int)), some (.inl x4), some (.inl (k : Int)), x6], [], (zs g1 hl)) _
              refine zH_go 2 (c' := (266, [some (.inr (.inr (some 104))), some (.inl (v : Int)), some (.inl (u : Int)), some (.inl (X : Int)), some (.inl x4), some (.inl (k : Int)), x6], [.inl (u : Int), .inl (k : Int)], (zs g1 hl))) rfl ?_
              refine zH_bf (x := (k : Int)) (y := (u : Int)) (k := .gt) (c1 := (371, [some (.inr (.inr (some 104))), some (.inl (v : Int)), some (.inl (u : Int)), some (.inl (X : Int)), some (.inl x4), some (.inl (k : Int)), x6], [], (zs g1 hl))) (c2 := (269, [some (.inr (.inr (some 104))), some (.inl (v : Int)), some (.inl (u : Int)), some (.inl (X : Int)), some (.inl x4), some (.inl (k : Int)), x6], [], (zs g1 hl))) rfl (by first | assumption | (unfold zr; omega)) (by first | assumption | (unfold zr; omega)) (by show ¬ ((u : Int) < (k : Int)); omega) ?_
              refine zH_go 2 (c' := (272, [some (.inr (.inr (some 104))), some (.inl (v : Int)), some (.inl (u : Int)), some (.inl (X : Int)), some (.inl x4), some (.inl (k : Int)), some (.inl 0)], [], (zs g1 hl))) rfl ?_
              obtain ⟨f, ef⟩ : ∃ f, f = zFg h L pl v k X := ⟨_, rfl⟩
              rw [← ef] at hfl hfa
              refine zH_lp (X := Unit) (F := fun (kq : Nat) (x : Unit) => (272, [some (.inr (.inr (some 104))), some (.inl (v : Int)), some (.inl (u : Int)), some (.inl (X : Int)), some (.inl x4), some (.inl (k : Int)), some (.inl (kq : Int))], [], (zs g1 hl))) (I := fun (kq : Nat) (x : Unit) => True) (N := f) (fun l w hlf hT2 ih3 => ?_) (fun w hT2 => ?_) 0 () (by omega) ?_
              · skip
                replace hT2 : True := hT2
                show zH _ _ (272, [some (.inr (.inr (some 104))), some (.inl (v : Int)), some (.inl (u : Int)), some (.inl (X : Int)), some (.inl x4), some (.inl (k : Int)), some (.inl (l : Int))], [], (zs g1 hl)) _
                have hdgl := zSb_dg hXs (show l < L by omega)
                have hwdl := zSb_wd hp6 hL3.2 hXs (show l < L by omega) hPp2.1
                have hwlt := zSb_lt hL3.2 hwdl
                have kF : g1 108 ((6 * (zdg X l)) + P) = (h (12 + zdg X l) P) := by rw [hJ.2.1 108 (by decide)]; exact hF _ _ hdgl hPp2.1
                have kR : g1 124 ((512 * (k + 1)) + (zwd X l P)) = (zPf h L pl (v - (k + 1)) (k + 1) (zwd X l P)) := hJ.2.2 (k + 1) (Nat.zero_le _) (by omega) _ hwdl
                have ecl : zPc h L pl v k X l = h (12 + zdg X l) P + zPf h L pl (v - (k + 1)) (k + 1) (zwd X l P) := by unfold zPc; rw [eP]
                have hcl := hcb k X l (by omega) hXs (by omega)
                have hne := zFg_ne (h := h) (pl := pl) (n := v) (i := k) (s := X) (show l < zFg h L pl v k X by omega)
                have hfb := hcb k X _ (by omega) hXs hfl
                refine zH_go 10 (c' := (287, [some (.inr (.inr (some 104))), some (.inl (v : Int)), some (.inl (u : Int)), some (.inl (X : Int)), some (.inl x4), some (.inl (k : Int)), some (.inl (l : Int))], [.inl (zand (zshr (X : Int) (3 * (l : Int))) 7), .inl 6, .inr (.inr (some 108))], (zs g1 hl))) rfl ?_
                rw [show (zand (zshr (X : Int) (3 * (l : Int))) 7) = ((zdg X l : Nat) : Int) from zdigit_ok X (by omega) l (by omega)]
                refine zH_go 4 (c' := (294, [some (.inr (.inr (some 104))), some (.inl (v : Int)), some (.inl (u : Int)), some (.inl (X : Int)), some (.inl x4), some (.inl (k : Int)), some (.inl (l : Int))], [.inl (k : Int), .inr (.inr (some 111)), .inl (6 * ((zdg X l : Nat) : Int)), .inr (.inr (some 108))], (zs g1 hl))) rfl ?_
                refine zH_np (P := 0 ≤ (k : Int) ∧ (k : Int) < ((12 : Nat) : Int)) (c' := (295, [some (.inr (.inr (some 104))), some (.inl (v : Int)), some (.inl (u : Int)), some (.inl (X : Int)), some (.inl x4), some (.inl (k : Int)), some (.inl (l : Int))], [.inl (g1 111 k), .inl (6 * ((zdg X l : Nat) : Int)), .inr (.inr (some 108))], (zs g1 hl))) rfl ⟨by omega, by omega⟩ ?_
                rw [k111]
                refine zH_go 1 (c' := (296, [some (.inr (.inr (some 104))), some (.inl (v : Int)), some (.inl (u : Int)), some (.inl (X : Int)), some (.inl x4), some (.inl (k : Int)), some (.inl (l : Int))], [.inl ((6 * ((zdg X l : Nat) : Int)) + (P : Int)), .inr (.inr (some 108))], (zs g1 hl))) rfl ?_
                refine zH_np (P := 0 ≤ ((6 * ((zdg X l : Nat) : Int)) + (P : Int)) ∧ ((6 * ((zdg X l : Nat) : Int)) + (P : Int)) < ((36 : Nat) : Int)) (c' := (297, [some (.inr (.inr (some 104))), some (.inl (v : Int)), some (.inl (u : Int)), some (.inl (X : Int)), some (.inl x4), some (.inl (k : Int)), some (.inl (l : Int))], [.inl (g1 108 ((6 * (zdg X l)) + P))], (zs g1 hl))) rfl ⟨by omega, by omega⟩ ?_
                rw [kF]
                refine zH_go 12 (c' := (318, [some (.inr (.inr (some 104))), some (.inl (v : Int)), some (.inl (u : Int)), some (.inl (X : Int)), some (.inl x4), some (.inl (k : Int)), some (.inl (l : Int))], [.inl (k : Int), .inr (.inr (some 111)), .inl (l : Int), .inl (X : Int), .inl (512 * ((k : Int) + 1)), .inr (.inr (some 124)), .inl (h (12 + zdg X l) P)], (zs g1 hl))) rfl ?_
                refine zH_np (P := 0 ≤ (k : Int) ∧ (k : Int) < ((12 : Nat) : Int)) (c' := (319, [some (.inr (.inr (some 104))), some (.inl (v : Int)), some (.inl (u : Int)), some (.inl (X : Int)), some (.inl x4), some (.inl (k : Int)), some (.inl (l : Int))], [.inl (g1 111 k), .inl (l : Int), .inl (X : Int), .inl (512 * ((k : Int) + 1)), .inr (.inr (some 124)), .inl (h (12 + zdg X l) P)], (zs g1 hl))) rfl ⟨by omega, by omega⟩ ?_
                rw [k111]
                refine zH_call (M' := 115) (as := [.inl (X : Int), .inl (l : Int), .inl (P : Int)]) (T := [.inl (512 * ((k : Int) + 1)), .inr (.inr (some 124)), .inl (h (12 + zdg X l) P)]) rfl (p_moved (n := X) (i := l) (v := P) (by omega) (by omega) (by omega)) (fun r σ' p_13 => ?_)
                obtain ⟨rfl, rfl⟩ := p_13
                show zH _ _ (322, [some (.inr (.inr (some 104))), some (.inl (v : Int)), some (.inl (u : Int)), some (.inl (X : Int)), some (.inl x4), some (.inl (k : Int)), some (.inl (l : Int))], [.inl ((zwd X l P : Nat) : Int), .inl (512 * ((k : Int) + 1)), .inr (.inr (some 124)), .inl (h (12 + zdg X l) P)], (zs g1 hl)) _
                refine zH_go 1 (c' := (323, [some (.inr (.inr (some 104))), some (.inl (v : Int)), some (.inl (u : Int)), some (.inl (X : Int)), some (.inl x4), some (.inl (k : Int)), some (.inl (l : Int))], [.inl ((512 * ((k : Int) + 1)) + ((zwd X l P : Nat) : Int)), .inr (.inr (some 124)), .inl (h (12 + zdg X l) P)], (zs g1 hl))) rfl ?_
                refine zH_np (P := 0 ≤ ((512 * ((k : Int) + 1)) + ((zwd X l P : Nat) : Int)) ∧ ((512 * ((k : Int) + 1)) + ((zwd X l P : Nat) : Int)) < ((6656 : Nat) : Int)) (c' := (324, [some (.inr (.inr (some 104))), some (.inl (v : Int)), some (.inl (u : Int)), some (.inl (X : Int)), some (.inl x4), some (.inl (k : Int)), some (.inl (l : Int))], [.inl (g1 124 ((512 * (k + 1)) + (zwd X l P))), .inl (h (12 + zdg X l) P)], (zs g1 hl))) rfl ⟨by omega, by omega⟩ ?_
                rw [kR]
                refine zH_go 8 (c' := (337, [some (.inr (.inr (some 104))), some (.inl (v : Int)), some (.inl (u : Int)), some (.inl (X : Int)), some (.inl x4), some (.inl (k : Int)), some (.inl (l : Int))], [.inl ((512 * (k : Int)) + (X : Int)), .inr (.inr (some 124)), .inl ((h (12 + zdg X l) P) + (zPf h L pl (v - (k + 1)) (k + 1) (zwd X l P)))], (zs g1 hl))) rfl ?_
                refine zH_np (P := 0 ≤ ((512 * (k : Int)) + (X : Int)) ∧ ((512 * (k : Int)) + (X : Int)) < ((6656 : Nat) : Int)) (c' := (338, [some (.inr (.inr (some 104))), some (.inl (v : Int)), some (.inl (u : Int)), some (.inl (X : Int)), some (.inl x4), some (.inl (k : Int)), some (.inl (l : Int))], [.inl (g1 124 ((512 * k) + X)), .inl ((h (12 + zdg X l) P) + (zPf h L pl (v - (k + 1)) (k + 1) (zwd X l P)))], (zs g1 hl))) rfl ⟨by omega, by omega⟩ ?_
                rw [kX]
                refine zH_bf (x := ((h (12 + zdg X l) P) + (zPf h L pl (v - (k + 1)) (k + 1) (zwd X l P)))) (y := (zPf h L pl (v - k) k X)) (k := .eq) (c1 := (347, [some (.inr (.inr (some 104))), some (.inl (v : Int)), some (.inl (u : Int)), some (.inl (X : Int)), some (.inl x4), some (.inl (k : Int)), some (.inl (l : Int))], [], (zs g1 hl))) (c2 := (341, [some (.inr (.inr (some 104))), some (.inl (v : Int)), some (.inl (u : Int)), some (.inl (X : Int)), some (.inl x4), some (.inl (k : Int)), some (.inl (l : Int))], [], (zs g1 hl))) rfl (by first | assumption | (unfold zr; omega)) (by first | assumption | (unfold zr; omega)) (by show ¬ (((h (12 + zdg X l) P) + (zPf h L pl (v - (k + 1)) (k + 1) (zwd X l P))) = (zPf h L pl (v - k) k X)); omega) ?_
                refine zH_go 2 (c' := (272, [some (.inr (.inr (some 104))), some (.inl (v : Int)), some (.inl (u : Int)), some (.inl (X : Int)), some (.inl x4), some (.inl (k : Int)), some (.inl ((l : Int) + 1))], [], (zs g1 hl))) rfl ?_
                refine ih3 () ?_
                show True
                trivial
              · skip
                replace hT2 : True := hT2
                show zH _ _ (272, [some (.inr (.inr (some 104))), some (.inl (v : Int)), some (.inl (u : Int)), some (.inl (X : Int)), some (.inl x4), some (.inl (k : Int)), some (.inl (f : Int))], [], (zs g1 hl)) _
                have hdgl := zSb_dg hXs (show f < L by omega)
                have hwdl := zSb_wd hp6 hL3.2 hXs (show f < L by omega) hPp2.1
                have hwlt := zSb_lt hL3.2 hwdl
                have kF : g1 108 ((6 * (zdg X f)) + P) = (h (12 + zdg X f) P) := by rw [hJ.2.1 108 (by decide)]; exact hF _ _ hdgl hPp2.1
                have kR : g1 124 ((512 * (k + 1)) + (zwd X f P)) = (zPf h L pl (v - (k + 1)) (k + 1) (zwd X f P)) := hJ.2.2 (k + 1) (Nat.zero_le _) (by omega) _ hwdl
                have ecl : zPc h L pl v k X f = h (12 + zdg X f) P + zPf h L pl (v - (k + 1)) (k + 1) (zwd X f P) := by unfold zPc; rw [eP]
                have hcl := hcb k X f (by omega) hXs (by omega)
                refine zH_go 10 (c' := (287, [some (.inr (.inr (some 104))), some (.inl (v : Int)), some (.inl (u : Int)), some (.inl (X : Int)), some (.inl x4), some (.inl (k : Int)), some (.inl (f : Int))], [.inl (zand (zshr (X : Int) (3 * (f : Int))) 7), .inl 6, .inr (.inr (some 108))], (zs g1 hl))) rfl ?_
                rw [show (zand (zshr (X : Int) (3 * (f : Int))) 7) = ((zdg X f : Nat) : Int) from zdigit_ok X (by omega) f (by omega)]
                refine zH_go 4 (c' := (294, [some (.inr (.inr (some 104))), some (.inl (v : Int)), some (.inl (u : Int)), some (.inl (X : Int)), some (.inl x4), some (.inl (k : Int)), some (.inl (f : Int))], [.inl (k : Int), .inr (.inr (some 111)), .inl (6 * ((zdg X f : Nat) : Int)), .inr (.inr (some 108))], (zs g1 hl))) rfl ?_
                refine zH_np (P := 0 ≤ (k : Int) ∧ (k : Int) < ((12 : Nat) : Int)) (c' := (295, [some (.inr (.inr (some 104))), some (.inl (v : Int)), some (.inl (u : Int)), some (.inl (X : Int)), some (.inl x4), some (.inl (k : Int)), some (.inl (f : Int))], [.inl (g1 111 k), .inl (6 * ((zdg X f : Nat) : Int)), .inr (.inr (some 108))], (zs g1 hl))) rfl ⟨by omega, by omega⟩ ?_
                rw [k111]
                refine zH_go 1 (c' := (296, [some (.inr (.inr (some 104))), some (.inl (v : Int)), some (.inl (u : Int)), some (.inl (X : Int)), some (.inl x4), some (.inl (k : Int)), some (.inl (f : Int))], [.inl ((6 * ((zdg X f : Nat) : Int)) + (P : Int)), .inr (.inr (some 108))], (zs g1 hl))) rfl ?_
                refine zH_np (P := 0 ≤ ((6 * ((zdg X f : Nat) : Int)) + (P : Int)) ∧ ((6 * ((zdg X f : Nat) : Int)) + (P : Int)) < ((36 : Nat) : Int)) (c' := (297, [some (.inr (.inr (some 104))), some (.inl (v : Int)), some (.inl (u : Int)), some (.inl (X : Int)), some (.inl x4), some (.inl (k : Int)), some (.inl (f : Int))], [.inl (g1 108 ((6 * (zdg X f)) + P))], (zs g1 hl))) rfl ⟨by omega, by omega⟩ ?_
                rw [kF]
                refine zH_go 12 (c' := (318, [some (.inr (.inr (some 104))), some (.inl (v : Int)), some (.inl (u : Int)), some (.inl (X : Int)), some (.inl x4), some (.inl (k : Int)), some (.inl (f : Int))], [.inl (k : Int), .inr (.inr (some 111)), .inl (f : Int), .inl (X : Int), .inl (512 * ((k : Int) + 1)), .inr (.inr (some 124)), .inl (h (12 + zdg X f) P)], (zs g1 hl))) rfl ?_
                refine zH_np (P := 0 ≤ (k : Int) ∧ (k : Int) < ((12 : Nat) : Int)) (c' := (319, [some (.inr (.inr (some 104))), some (.inl (v : Int)), some (.inl (u : Int)), some (.inl (X : Int)), some (.inl x4), some (.inl (k : Int)), some (.inl (f : Int))], [.inl (g1 111 k), .inl (f : Int), .inl (X : Int), .inl (512 * ((k : Int) + 1)), .inr (.inr (some 124)), .inl (h (12 + zdg X f) P)], (zs g1 hl))) rfl ⟨by omega, by omega⟩ ?_
                rw [k111]
                refine zH_call (M' := 115) (as := [.inl (X : Int), .inl (f : Int), .inl (P : Int)]) (T := [.inl (512 * ((k : Int) + 1)), .inr (.inr (some 124)), .inl (h (12 + zdg X f) P)]) rfl (p_moved (n := X) (i := f) (v := P) (by omega) (by omega) (by omega)) (fun r σ' p_14 => ?_)
                obtain ⟨rfl, rfl⟩ := p_14
                show zH _ _ (322, [some (.inr (.inr (some 104))), some (.inl (v : Int)), some (.inl (u : Int)), some (.inl (X : Int)), some (.inl x4), some (.inl (k : Int)), some (.inl (f : Int))], [.inl ((zwd X f P : Nat) : Int), .inl (512 * ((k : Int) + 1)), .inr (.inr (some 124)), .inl (h (12 + zdg X f) P)], (zs g1 hl)) _
                refine zH_go 1 (c' := (323, [some (.inr (.inr (some 104))), some (.inl (v : Int)), some (.inl (u : Int)), some (.inl (X : Int)), some (.inl x4), some (.inl (k : Int)), some (.inl (f : Int))], [.inl ((512 * ((k : Int) + 1)) + ((zwd X f P : Nat) : Int)), .inr (.inr (some 124)), .inl (h (12 + zdg X f) P)], (zs g1 hl))) rfl ?_
                refine zH_np (P := 0 ≤ ((512 * ((k : Int) + 1)) + ((zwd X f P : Nat) : Int)) ∧ ((512 * ((k : Int) + 1)) + ((zwd X f P : Nat) : Int)) < ((6656 : Nat) : Int)) (c' := (324, [some (.inr (.inr (some 104))), some (.inl (v : Int)), some (.inl (u : Int)), some (.inl (X : Int)), some (.inl x4), some (.inl (k : Int)), some (.inl (f : Int))], [.inl (g1 124 ((512 * (k + 1)) + (zwd X f P))), .inl (h (12 + zdg X f) P)], (zs g1 hl))) rfl ⟨by omega, by omega⟩ ?_
                rw [kR]
                refine zH_go 8 (c' := (337, [some (.inr (.inr (some 104))), some (.inl (v : Int)), some (.inl (u : Int)), some (.inl (X : Int)), some (.inl x4), some (.inl (k : Int)), some (.inl (f : Int))], [.inl ((512 * (k : Int)) + (X : Int)), .inr (.inr (some 124)), .inl ((h (12 + zdg X f) P) + (zPf h L pl (v - (k + 1)) (k + 1) (zwd X f P)))], (zs g1 hl))) rfl ?_
                refine zH_np (P := 0 ≤ ((512 * (k : Int)) + (X : Int)) ∧ ((512 * (k : Int)) + (X : Int)) < ((6656 : Nat) : Int)) (c' := (338, [some (.inr (.inr (some 104))), some (.inl (v : Int)), some (.inl (u : Int)), some (.inl (X : Int)), some (.inl x4), some (.inl (k : Int)), some (.inl (f : Int))], [.inl (g1 124 ((512 * k) + X)), .inl ((h (12 + zdg X f) P) + (zPf h L pl (v - (k + 1)) (k + 1) (zwd X f P)))], (zs g1 hl))) rfl ⟨by omega, by omega⟩ ?_
                rw [kX]
                refine zH_bt (x := ((h (12 + zdg X f) P) + (zPf h L pl (v - (k + 1)) (k + 1) (zwd X f P)))) (y := (zPf h L pl (v - k) k X)) (k := .eq) (c1 := (347, [some (.inr (.inr (some 104))), some (.inl (v : Int)), some (.inl (u : Int)), some (.inl (X : Int)), some (.inl x4), some (.inl (k : Int)), some (.inl (f : Int))], [], (zs g1 hl))) (c2 := (341, [some (.inr (.inr (some 104))), some (.inl (v : Int)), some (.inl (u : Int)), some (.inl (X : Int)), some (.inl x4), some (.inl (k : Int)), some (.inl (f : Int))], [], (zs g1 hl))) rfl (by first | assumption | (unfold zr; omega)) (by first | assumption | (unfold zr; omega)) (by show ((h (12 + zdg X f) P) + (zPf h L pl (v - (k + 1)) (k + 1) (zwd X f P))) = (zPf h L pl (v - k) k X); omega) ?_
                refine zH_go 5 (c' := (356, [some (.inr (.inr (some 104))), some (.inl (v : Int)), some (.inl (u : Int)), some (.inl (X : Int)), some (.inl x4), some (.inl (k : Int)), some (.inl (f : Int))], [.inl (k : Int), .inr (.inr (some 111)), .inl (f : Int), .inl (X : Int)], (zs g1 hl))) rfl ?_
                refine zH_np (P := 0 ≤ (k : Int) ∧ (k : Int) < ((12 : Nat) : Int)) (c' := (357, [some (.inr (.inr (some 104))), some (.inl (v : Int)), some (.inl (u : Int)), some (.inl (X : Int)), some (.inl x4), some (.inl (k : Int)), some (.inl (f : Int))], [.inl (g1 111 k), .inl (f : Int), .inl (X : Int)], (zs g1 hl))) rfl ⟨by omega, by omega⟩ ?_
                rw [k111]
                refine zH_call (M' := 115) (as := [.inl (X : Int), .inl (f : Int), .inl (P : Int)]) (T := []) rfl (p_moved (n := X) (i := f) (v := P) (by omega) (by omega) (by omega)) (fun r σ' p_15 => ?_)
                obtain ⟨rfl, rfl⟩ := p_15
                show zH _ _ (360, [some (.inr (.inr (some 104))), some (.inl (v : Int)), some (.inl (u : Int)), some (.inl (X : Int)), some (.inl x4), some (.inl (k : Int)), some (.inl (f : Int))], [.inl ((zwd X f P : Nat) : Int)], (zs g1 hl)) _
                refine zH_go 3 (c' := (365, [some (.inr (.inr (some 104))), some (.inl (v : Int)), some (.inl (u : Int)), some (.inl ((zwd X f P : Nat) : Int)), some (.inl (f : Int)), some (.inl (k : Int)), some (.inl (f : Int))], [], (zs g1 hl))) rfl ?_
                have eS : zwd X f P = zPS h L B pl v (k + 1) := by rw [ef, hX, eP]; first | done | rfl
                rw [eS]
                show zH _ _ (365, [some (.inr (.inr (some 104))), some (.inl (v : Int)), some (.inl (u : Int)), some (.inl ((zPS h L B pl v (k + 1) : Nat) : Int)), some (.inl (f : Int)), some (.inl (k : Int)), some (.inl (f : Int))], [], (zs g1 hl)) _
                refine zH_go 2 (c' := (263, [some (.inr (.inr (some 104))), some (.inl (v : Int)), some (.inl (u : Int)), some (.inl ((zPS h L B pl v (k + 1) : Nat) : Int)), some (.inl (f : Int)), some (.inl ((k : Int) + 1)), some (.inl (f : Int))], [], (zs g1 hl))) rfl ?_
                refine ih ((f : Int), (some (.inl (f : Int)))) ?_
                show (∀ c : Nat, (k + 1) = c + 1 → (f : Int) = ((zPG h L B pl v c : Nat) : Int))
                intro c hc
                obtain rfl : c = k := by omega
                unfold zPG
                rw [← hX, ← ef]
              · show True
                trivial
            · obtain ⟨x4, x6⟩ := x
              replace hI : (∀ c : Nat, (u + 1) = c + 1 → x4 = ((zPG h L B pl v c : Nat) : Int)) := hI
              show zH _ _ (263, [some (.inr (.inr (some 104))), some (.inl (v : Int)), some (.inl (u : Int)), some (.inl ((zPS h L B pl v (u + 1) : Nat) : Int)), some (.inl x4), some (.inl (((u + 1) : Nat) : Int)), x6], [], (zs g1 hl)) _
              refine zH_go 2 (c' := (266, [some (.inr (.inr (some 104))), some (.inl (v : Int)), some (.inl (u : Int)), some (.inl ((zPS h L B pl v (u + 1) : Nat) : Int)), some (.inl x4), some (.inl (((u + 1) : Nat) : Int)), x6], [.inl (u : Int), .inl (((u + 1) : Nat) : Int)], (zs g1 hl))) rfl ?_
              refine zH_bt (x := (((u + 1) : Nat) : Int)) (y := (u : Int)) (k := .gt) (c1 := (371, [some (.inr (.inr (some 104))), some (.inl (v : Int)), some (.inl (u : Int)), some (.inl ((zPS h L B pl v (u + 1) : Nat) : Int)), some (.inl x4), some (.inl (((u + 1) : Nat) : Int)), x6], [], (zs g1 hl))) (c2 := (269, [some (.inr (.inr (some 104))), some (.inl (v : Int)), some (.inl (u : Int)), some (.inl ((zPS h L B pl v (u + 1) : Nat) : Int)), some (.inl x4), some (.inl (((u + 1) : Nat) : Int)), x6], [], (zs g1 hl))) rfl (by first | assumption | (unfold zr; omega)) (by first | assumption | (unfold zr; omega)) (by show (u : Int) < (((u + 1) : Nat) : Int); omega) ?_
              refine zH_go 1 (c' := (373, [some (.inr (.inr (some 104))), some (.inl (v : Int)), some (.inl (u : Int)), some (.inl ((zPS h L B pl v (u + 1) : Nat) : Int)), some (.inl x4), some (.inl (((u + 1) : Nat) : Int)), x6], [.inl x4], (zs g1 hl))) rfl ?_
              refine zH_ret (v := some (.inl x4)) rfl (fun q => absurd q (by decide)) ?_
              exact Or.inr (Or.inr ⟨by omega, u, v, rfl, rfl, by omega, by omega, by rw [hI u rfl, epl], g1, rfl, hJ.2.1⟩)
            · show (∀ c : Nat, 0 = c + 1 → 0 = ((zPG h L B pl v c : Nat) : Int))
              intro c hc; omega
          · show v ≤ v ∧ (∀ c : Nat, c ≠ 124 → g c = h c) ∧ ∀ q : Nat, v ≤ q → q ≤ v → ∀ X : Nat, zSb p L X = true → g 124 (512 * q + X) = zPf h L pl (v - q) q X
            refine ⟨Nat.le_refl _, hI.1, fun q h1 h2 X hX => ?_⟩
            obtain rfl : q = v := by omega
            rw [hI.2 X (zSb_lt hL3.2 hX), Nat.sub_self]
            rfl
        · show (∀ c : Nat, c ≠ 124 → h c = h c) ∧ ∀ j : Nat, j < 0 → h 124 (512 * v + j) = 0
          exact ⟨fun c hc => rfl, fun j hj => absurd hj (Nat.not_lt_zero j)⟩
      · show zH _ _ (39, [some (.inr (.inr (some 104))), some (.inl x), some (.inl y), none, none, none, none], [.inl 0], (zs h hl)) _
        refine zH_bf (x := 0) (y := 0) (k := .ne) (c1 := (44, [some (.inr (.inr (some 104))), some (.inl x), some (.inl y), none, none, none, none], [], (zs h hl))) (c2 := (42, [some (.inr (.inr (some 104))), some (.inl x), some (.inl y), none, none, none, none], [], (zs h hl))) rfl ⟨by decide, by decide⟩ ⟨by decide, by decide⟩ (by show ¬ (¬ 0 = 0); decide) ?_
        refine zH_go 1 (c' := (43, [some (.inr (.inr (some 104))), some (.inl x), some (.inl y), none, none, none, none], [.inl (-1)], (zs h hl))) rfl ?_
        refine zH_ret (v := some (.inl (-1))) rfl (fun q => absurd q (by decide)) ?_
        exact Or.inr (Or.inl ⟨by omega, by omega, rfl, rfl⟩)
    · show zH _ _ (26, [some (.inr (.inr (some 104))), some (.inl x), some (.inl y), none, none, none, none], [.inl 0], (zs h hl)) _
      refine zH_bt (x := 0) (y := 0) (k := .eq) (c1 := (42, [some (.inr (.inr (some 104))), some (.inl x), some (.inl y), none, none, none, none], [], (zs h hl))) (c2 := (29, [some (.inr (.inr (some 104))), some (.inl x), some (.inl y), none, none, none, none], [], (zs h hl))) rfl ⟨by decide, by decide⟩ ⟨by decide, by decide⟩ (by show 0 = 0; decide) ?_
      refine zH_go 1 (c' := (43, [some (.inr (.inr (some 104))), some (.inl x), some (.inl y), none, none, none, none], [.inl (-1)], (zs h hl))) rfl ?_
      refine zH_ret (v := some (.inl (-1))) rfl (fun q => absurd q (by decide)) ?_
      exact Or.inr (Or.inl ⟨by omega, by omega, rfl, rfl⟩)
  · refine zH_go 1 (c' := (14, [some (.inr (.inr (some 104))), some (.inl x), some (.inl y), none, none, none, none], [.inl (-2)], (zs h hl))) rfl ?_
    refine zH_ret (v := some (.inl (-2))) rfl (fun q => absurd q (by decide)) ?_
    exact Or.inl ⟨by omega, rfl, rfl⟩
