/-! LadderCalls: calls out of a book. -/
theorem zWhy_0 {h : Nat → Nat → Int} {B Z : Nat} {r : Int} (h1 : zWhy h B Z r 0) : zHasRow h B r ∧ 0 ≤ h Z r.toNat := by
  rcases h1 with ⟨-, e⟩ | ⟨-, -, e⟩ | ⟨-, -, -, e⟩ | ⟨-, q, q2, -⟩
  · exact absurd e (by decide)
  · exact absurd e (by decide)
  · exact absurd e (by decide)
  · exact ⟨q, q2⟩
theorem zWhy_b {h : Nat → Nat → Int} {B Z : Nat} {r x : Int} (h1 : zWhy h B Z r x) : -12 ≤ x ∧ x ≤ 0 := by
  unfold zWhy at h1
  omega
theorem zCDec_0 {p on cnt v : Int} (h : zCDec p on cnt v 0) : (0 ≤ v ∧ v < p) ∧ 0 < on ∧ cnt < 12 := by
  unfold zCDec at h
  omega
theorem zCDec_b {p on cnt v x : Int} (h : zCDec p on cnt v x) : -3 ≤ x ∧ x ≤ 0 := by
  unfold zCDec at h
  omega
set_option maxRecDepth 100000 in
set_option maxHeartbeats 1000000 in
theorem p_callsN0 {d : Nat} {h hl : Nat → Nat → Int} {ri : Int} (hr : zr ri) {p r : Nat} (hW : zTown h p r) (hR : -1 ≤ h 83 1 ∧ h 83 1 ≤ 4) (hZ : ∀ q : Nat, q < 4 → -1 ≤ h 84 q ∧ h 84 q ≤ 8) (hV : ∀ q i : Nat, q < 4 → i < 8 → zrl (hl (86 + q) i)) {L B n : Nat} {K : Int} {s0 : zDS} (hD0 : zDc h hl p L B n s0) (hn12 : n ≤ 12) (hK7 : h 2 7 = K) (hK : 0 ≤ K ∧ K ≤ 3) : zQ (d + 7) 91 [.inr (.inr (some 2)), .inl 0, .inl ri] (zs h hl) (fun r' σ' => (∃ x : Int, ¬ x = 0 ∧ zWhy h 83 84 ri x ∧ r' = some (.inl 0) ∧ σ' = zs (zup h 2 8 x) hl) ∨ ∃ (R S J : Nat) (x : Int) (s : zDS) (g gl : Nat → Nat → Int), ri = (R : Int) ∧ zWhy h 83 84 (R : Int) 0 ∧ h 84 R = (S : Int) ∧ r' = some (.inl (J : Int)) ∧ σ' = zs (zup g 2 8 x) gl ∧ zDc g gl p L B (n + J) s ∧ zCh h L B K (fun q => Int.toNat (hl (86 + R) q)) n s0 J s ∧ (∀ c : Nat, c < 21 ∨ 47 < c → g c = h c) ∧ (∀ c : Nat, c ≠ 81 → gl c = hl c) ∧ (∀ q : Nat, q < J → zCDec (h 3 0) (h 21 3) (((n + q : Nat) : Int)) (hl (86 + R) q) 0) ∧ ((J = S ∧ x = 0) ∨ (J < S ∧ ¬ x = 0 ∧ zCDec (h 3 0) (h 21 3) (((n + J : Nat) : Int)) (hl (86 + R) J) x))) := by
  have hWc := hW
  obtain ⟨hp6, hr15, h30, h31, hp3, hr4, hMe, hTB, hCn, hPo, hRd, hLk, hGr⟩ := hWc
  have hP : 0 ≤ h 3 0 ∧ h 3 0 ≤ 6 := by omega
  have hL9 : h 21 3 = (L : Int) := hD0.1.2.2.2.1
  have hL3 := hD0.1.1.1
  refine zQ_of (Nat.le_of_ble_eq_true rfl) ?_
  show zH (d + 6) 91 (0, [some (.inr (.inr (some 2))), some (.inl 0), some (.inl ri), none, none, none, none, none, none], [], (zs h hl)) _
  refine zH_go 1 (c' := (1, [some (.inr (.inr (some 2))), some (.inl 0), some (.inl ri), none, none, none, none, none, none], [.inl 0], (zs h hl))) rfl ?_
  refine zH_call (M' := 92) (as := [.inl 0]) (T := []) rfl (p_isBook ⟨by decide, by decide⟩) (fun r' σ' pm => ?_)
  obtain ⟨rfl, rfl⟩ : r' = some (.inl 1) ∧ σ' = _ := by rcases pm with ⟨a, -, b⟩ | ⟨-, b, -⟩ <;> first | exact ⟨a, b⟩ | (exfalso; omega)
  show zH _ _ (4, [some (.inr (.inr (some 2))), some (.inl 0), some (.inl ri), none, none, none, none, none, none], [.inl 1], (zs h hl)) _
  refine zH_bt (x := 1) (y := 0) (k := .ne) (c1 := (13, [some (.inr (.inr (some 2))), some (.inl 0), some (.inl ri), none, none, none, none, none, none], [], (zs h hl))) (c2 := (7, [some (.inr (.inr (some 2))), some (.inl 0), some (.inl ri), none, none, none, none, none, none], [], (zs h hl))) rfl ⟨by decide, by decide⟩ ⟨by decide, by decide⟩ (by show ¬ 1 = 0; decide) ?_
  refine zH_go 3 (c' := (18, [some (.inr (.inr (some 2))), some (.inl 0), some (.inl ri), none, none, none, none, none, none], [.inl 0, .inr (.inr (some 82))], (zs h hl))) rfl ?_
  refine zH_np (P := 0 ≤ 0 ∧ 0 < ((3 : Nat) : Int)) (c' := (19, [some (.inr (.inr (some 2))), some (.inl 0), some (.inl ri), none, none, none, none, none, none], [.inr (.inr (some 83))], (zs h hl))) rfl ⟨by decide, by decide⟩ ?_
  refine zH_go 3 (c' := (22, [some (.inr (.inr (some 2))), some (.inl 0), some (.inl ri), some (.inr (.inr (some 83))), none, none, none, none, none], [.inl ri, .inr (.inr (some 83))], (zs h hl))) rfl ?_
  refine zH_call (M' := 5) (as := [.inr (.inr (some 83)), .inl ri]) (T := []) rfl (p_bWhy0 hr hR hZ) (fun r' σ' pm => ?_)
  obtain ⟨x, hx, rfl, rfl⟩ := pm
  have hxr := zWhy_b hx
  by_cases hx0 : x = 0
  · subst hx0
    obtain ⟨hrow, hsz⟩ := zWhy_0 hx
    obtain ⟨R, rfl⟩ := Int.eq_ofNat_of_zero_le hrow.1
    rw [Int.toNat_natCast] at hsz
    have hR4 : R < 4 := by have := hrow.2.2; omega
    have hZR := hZ R hR4
    obtain ⟨S, hS9⟩ := Int.eq_ofNat_of_zero_le hsz
    show zH _ _ (25, [some (.inr (.inr (some 2))), some (.inl 0), some (.inl (R : Int)), some (.inr (.inr (some 83))), none, none, none, none, none], [.inl 0], (zs h hl)) _
    refine zH_go 5 (c' := (33, [some (.inr (.inr (some 2))), some (.inl 0), some (.inl (R : Int)), some (.inr (.inr (some 83))), some (.inl 0), some (.inl 0), some (.inl 0), none, none], [], (zs h hl))) rfl ?_
    refine zH_lp (X := (Nat → Nat → Int) × (Nat → Nat → Int) × zDS × (Option zV) × (Option zV)) (F := fun (kq : Nat) (x : (Nat → Nat → Int) × (Nat → Nat → Int) × zDS × (Option zV) × (Option zV)) => (33, [some (.inr (.inr (some 2))), some (.inl 0), some (.inl (R : Int)), some (.inr (.inr (some 83))), some (.inl 0), some (.inl (kq : Int)), some (.inl (kq : Int)), x.2.2.2.1, x.2.2.2.2], [], (zs x.1 x.2.1))) (I := fun (kq : Nat) (x : (Nat → Nat → Int) × (Nat → Nat → Int) × zDS × (Option zV) × (Option zV)) => zDc x.1 x.2.1 p L B (n + kq) x.2.2.1 ∧ zCh h L B K (fun q => Int.toNat (hl (86 + R) q)) n s0 kq x.2.2.1 ∧ (∀ c : Nat, c < 21 ∨ 47 < c → x.1 c = h c) ∧ (∀ c : Nat, c ≠ 81 → x.2.1 c = hl c) ∧ ∀ q : Nat, q < kq → zCDec (h 3 0) (h 21 3) (((n + q : Nat) : Int)) (hl (86 + R) q) 0) (N := S) (fun k x hk hI ih => ?_) (fun x hI => ?_) 0 (h, hl, s0, none, none) (by omega) ?_
    · obtain ⟨g, gl, s, x7, x8⟩ := x
      replace hI : zDc g gl p L B (n + k) s ∧ zCh h L B K (fun q => Int.toNat (hl (86 + R) q)) n s0 k s ∧ (∀ c : Nat, c < 21 ∨ 47 < c → g c = h c) ∧ (∀ c : Nat, c ≠ 81 → gl c = hl c) ∧ ∀ q : Nat, q < k → zCDec (h 3 0) (h 21 3) (((n + q : Nat) : Int)) (hl (86 + R) q) 0 := hI
      show zH _ _ (33, [some (.inr (.inr (some 2))), some (.inl 0), some (.inl (R : Int)), some (.inr (.inr (some 83))), some (.inl 0), some (.inl (k : Int)), some (.inl (k : Int)), x7, x8], [], (zs g gl)) _
      have hRg : -1 ≤ g 83 1 ∧ g 83 1 ≤ 4 := by rw [hI.2.2.1 83 (by decide)]; exact hR
      have hZg : ∀ q : Nat, q < 4 → -1 ≤ g 84 q ∧ g 84 q ≤ 8 := by rw [hI.2.2.1 84 (by decide)]; exact hZ
      have hSg : g 84 R = (S : Int) := by rw [hI.2.2.1 84 (by decide)]; exact hS9
      have hrowg : zHasRow g 83 (R : Int) := by unfold zHasRow; rw [hI.2.2.1 83 (by decide)]; exact hrow
      have g213 : g 21 3 = (L : Int) := hI.1.1.2.2.2.1
      have g214 : g 21 4 = ((n + k : Nat) : Int) := hI.1.1.2.2.2.2.1
      have g30 : g 3 0 = (p : Int) := by rw [hI.2.2.1 3 (by decide)]; exact h30
      have hnk12 : n + k ≤ 12 := by
        rcases (show k = 0 ∨ 0 < k by omega) with q | q
        · omega
        · have := zCDec_0 (hI.2.2.2.2 (k - 1) (by omega)); omega
      refine zH_go 1 (c' := (35, [some (.inr (.inr (some 2))), some (.inl 0), some (.inl (R : Int)), some (.inr (.inr (some 83))), some (.inl 0), some (.inl (k : Int)), some (.inl (k : Int)), x7, x8], [.inl 0], (zs g gl))) rfl ?_
      refine zH_bf (x := 0) (y := 0) (k := .ne) (c1 := (104, [some (.inr (.inr (some 2))), some (.inl 0), some (.inl (R : Int)), some (.inr (.inr (some 83))), some (.inl 0), some (.inl (k : Int)), some (.inl (k : Int)), x7, x8], [], (zs g gl))) (c2 := (38, [some (.inr (.inr (some 2))), some (.inl 0), some (.inl (R : Int)), some (.inr (.inr (some 83))), some (.inl 0), some (.inl (k : Int)), some (.inl (k : Int)), x7, x8], [], (zs g gl))) rfl ⟨by decide, by decide⟩ ⟨by decide, by decide⟩ (by show ¬ (¬ 0 = 0); decide) ?_
      refine zH_go 3 (c' := (42, [some (.inr (.inr (some 2))), some (.inl 0), some (.inl (R : Int)), some (.inr (.inr (some 83))), some (.inl 0), some (.inl (k : Int)), some (.inl (k : Int)), x7, x8], [.inl (R : Int), .inr (.inr (some 83)), .inl (k : Int)], (zs g gl))) rfl ?_
      refine zH_call (M' := 4) (as := [.inr (.inr (some 83)), .inl (R : Int)]) (T := [.inl (k : Int)]) rfl (p_bSize0 (h := g) ⟨by omega, by omega⟩ hRg hZg) (fun r' σ' pm => ?_)
      obtain ⟨y, hy, rfl, rfl⟩ := pm
      obtain rfl : y = (S : Int) := by rcases hy with ⟨-, e⟩ | ⟨e, -⟩ <;> first | exact e.trans hSg | exact absurd hrowg e
      show zH _ _ (45, [some (.inr (.inr (some 2))), some (.inl 0), some (.inl (R : Int)), some (.inr (.inr (some 83))), some (.inl 0), some (.inl (k : Int)), some (.inl (k : Int)), x7, x8], [.inl (S : Int), .inl (k : Int)], (zs g gl)) _
      refine zH_bf (x := (k : Int)) (y := (S : Int)) (k := .ge) (c1 := (104, [some (.inr (.inr (some 2))), some (.inl 0), some (.inl (R : Int)), some (.inr (.inr (some 83))), some (.inl 0), some (.inl (k : Int)), some (.inl (k : Int)), x7, x8], [], (zs g gl))) (c2 := (48, [some (.inr (.inr (some 2))), some (.inl 0), some (.inl (R : Int)), some (.inr (.inr (some 83))), some (.inl 0), some (.inl (k : Int)), some (.inl (k : Int)), x7, x8], [], (zs g gl))) rfl (by first | assumption | (unfold zr; omega)) (by first | assumption | (unfold zr; omega)) (by show ¬ (¬ (k : Int) < (S : Int)); omega) ?_
      refine zH_go 3 (c' := (52, [some (.inr (.inr (some 2))), some (.inl 0), some (.inl (R : Int)), some (.inr (.inr (some 83))), some (.inl 0), some (.inl (k : Int)), some (.inl (k : Int)), x7, x8], [.inl (k : Int), .inl (R : Int), .inr (.inr (some 83))], (zs g gl))) rfl ?_
      have hnum : zHasNum g 83 84 (R : Int) (k : Int) := ⟨hrowg, by omega, by rw [Int.toNat_natCast, hSg]; omega, by have := hZg R hR4; omega⟩
      refine zH_call (M' := 9) (as := [.inr (.inr (some 83)), .inl (R : Int), .inl (k : Int)]) (T := []) rfl (p_bRead0 (h := g) (hl := gl) ⟨by omega, by omega⟩ ⟨by omega, by omega⟩ hRg hZg) (fun r' σ' pm => ?_)
      obtain ⟨v, hv, rfl, rfl⟩ := pm
      have ev : v = hl (86 + R) k := by rcases hv with ⟨-, e⟩ | ⟨e, -⟩ <;> first | exact e.trans (congrFun (hI.2.2.2.1 (86 + R) (by omega)) k) | exact absurd hnum e
      have zv : zrl v := by rw [ev]; exact hV R k hR4 (by omega)
      show zH _ _ (55, [some (.inr (.inr (some 2))), some (.inl 0), some (.inl (R : Int)), some (.inr (.inr (some 83))), some (.inl 0), some (.inl (k : Int)), some (.inl (k : Int)), x7, x8], [.inr (.inl v)], (zs g gl)) _
      refine zH_go 2 (c' := (59, [some (.inr (.inr (some 2))), some (.inl 0), some (.inl (R : Int)), some (.inr (.inr (some 83))), some (.inl 0), some (.inl (k : Int)), some (.inl (k : Int)), some (.inr (.inl v)), none], [.inr (.inl v)], (zs g gl))) rfl ?_
      refine zH_call (M' := 96) (as := [.inr (.inl v)]) (T := []) rfl (p_fits zv) (fun r σ' p_1 => ?_)
      rcases p_1 with ⟨rfl, b_2, rfl⟩ | ⟨rfl, b_2, rfl⟩
      · show zH _ _ (62, [some (.inr (.inr (some 2))), some (.inl 0), some (.inl (R : Int)), some (.inr (.inr (some 83))), some (.inl 0), some (.inl (k : Int)), some (.inl (k : Int)), some (.inr (.inl v)), none], [.inl 1], (zs g gl)) _
        refine zH_bf (x := 1) (y := 0) (k := .eq) (c1 := (75, [some (.inr (.inr (some 2))), some (.inl 0), some (.inl (R : Int)), some (.inr (.inr (some 83))), some (.inl 0), some (.inl (k : Int)), some (.inl (k : Int)), some (.inr (.inl v)), none], [], (zs g gl))) (c2 := (65, [some (.inr (.inr (some 2))), some (.inl 0), some (.inl (R : Int)), some (.inr (.inr (some 83))), some (.inl 0), some (.inl (k : Int)), some (.inl (k : Int)), some (.inr (.inl v)), none], [], (zs g gl))) rfl ⟨by decide, by decide⟩ ⟨by decide, by decide⟩ (by show ¬ (1 = 0); decide) ?_
        refine zH_go 3 (c' := (69, [some (.inr (.inr (some 2))), some (.inl 0), some (.inl (R : Int)), some (.inr (.inr (some 83))), some (.inl 0), some (.inl (k : Int)), some (.inl (k : Int)), some (.inr (.inl v)), none], [.inl (Int.bmod v 4294967296), .inr (.inr (some 2))], (zs g gl))) rfl ?_
        rw [zbm_id (show zr v by assumption)]
        refine zH_call (M' := 77) (as := [.inr (.inr (some 2)), .inl v]) (T := []) rfl (p_noCall (show zr v by assumption) (by omega) (by omega) (by rw [g213]; exact ⟨by omega, by omega⟩)) (fun r' σ' pm => ?_)
        obtain ⟨x, hx, rfl, rfl⟩ := pm
        have hdx : zCDec (h 3 0) (h 21 3) ((n + k : Nat) : Int) v x := by have q : zCDec (g 3 0) (g 21 3) (g 21 4) v x := hx; rw [g30, g213, g214] at q; rw [hL9]; rw [← h30] at q; exact q
        have hxr := zCDec_b hdx
        clear hx
        show zH _ _ (72, [some (.inr (.inr (some 2))), some (.inl 0), some (.inl (R : Int)), some (.inr (.inr (some 83))), some (.inl 0), some (.inl (k : Int)), some (.inl (k : Int)), some (.inr (.inl v)), none], [.inl x], (zs g gl)) _
        refine zH_go 3 (c' := (80, [some (.inr (.inr (some 2))), some (.inl 0), some (.inl (R : Int)), some (.inr (.inr (some 83))), some (.inl x), some (.inl (k : Int)), some (.inl (k : Int)), some (.inr (.inl v)), none], [.inl x], (zs g gl))) rfl ?_
        refine zH_br (x := x) (y := 0) (k := .ne) (c1 := (98, [some (.inr (.inr (some 2))), some (.inl 0), some (.inl (R : Int)), some (.inr (.inr (some 83))), some (.inl x), some (.inl (k : Int)), some (.inl (k : Int)), some (.inr (.inl v)), none], [], (zs g gl))) (c2 := (83, [some (.inr (.inr (some 2))), some (.inl 0), some (.inl (R : Int)), some (.inr (.inr (some 83))), some (.inl x), some (.inl (k : Int)), some (.inl (k : Int)), some (.inr (.inl v)), none], [], (zs g gl))) rfl (by first | assumption | (unfold zr; omega)) ⟨by decide, by decide⟩ (fun (b_3 : ¬ x = 0) => ?_) (fun (b_3 : ¬ (¬ x = 0)) => ?_)
        · refine zH_go 2 (c' := (33, [some (.inr (.inr (some 2))), some (.inl 0), some (.inl (R : Int)), some (.inr (.inr (some 83))), some (.inl x), some (.inl (k : Int)), some (.inl ((k : Int) + 1)), some (.inr (.inl v)), none], [], (zs g gl))) rfl ?_
          refine zH_go 1 (c' := (35, [some (.inr (.inr (some 2))), some (.inl 0), some (.inl (R : Int)), some (.inr (.inr (some 83))), some (.inl x), some (.inl (k : Int)), some (.inl ((k : Int) + 1)), some (.inr (.inl v)), none], [.inl x], (zs g gl))) rfl ?_
          refine zH_bt (x := x) (y := 0) (k := .ne) (c1 := (104, [some (.inr (.inr (some 2))), some (.inl 0), some (.inl (R : Int)), some (.inr (.inr (some 83))), some (.inl x), some (.inl (k : Int)), some (.inl ((k : Int) + 1)), some (.inr (.inl v)), none], [], (zs g gl))) (c2 := (38, [some (.inr (.inr (some 2))), some (.inl 0), some (.inl (R : Int)), some (.inr (.inr (some 83))), some (.inl x), some (.inl (k : Int)), some (.inl ((k : Int) + 1)), some (.inr (.inl v)), none], [], (zs g gl))) rfl (by first | assumption | (unfold zr; omega)) ⟨by decide, by decide⟩ (by show ¬ x = 0; omega) ?_
          refine zH_go 4 (c' := (112, [some (.inr (.inr (some 2))), some (.inl 0), some (.inl (R : Int)), some (.inr (.inr (some 83))), some (.inl x), some (.inl (k : Int)), some (.inl ((k : Int) + 1)), some (.inr (.inl v)), none], [.inl (k : Int)], (zs (zup g 2 8 x) gl))) rfl ?_
          refine zH_ret (v := some (.inl (k : Int))) rfl (fun q => absurd q (by decide)) ?_
          exact Or.inr ⟨R, S, k, x, s, g, gl, rfl, hx, hS9, rfl, rfl, hI.1, hI.2.1, hI.2.2.1, hI.2.2.2.1, hI.2.2.2.2, Or.inr ⟨hk, by assumption, by rw [← ev]; exact hdx⟩⟩
        · obtain rfl : x = 0 := by omega
          have hok := zCDec_0 hdx
          obtain ⟨u, hu⟩ := Int.eq_ofNat_of_zero_le hok.1.1
          have hup : u < p := by omega
          refine zH_go 5 (c' := (91, [some (.inr (.inr (some 2))), some (.inl 0), some (.inl (R : Int)), some (.inr (.inr (some 83))), some (.inl 0), some (.inl (k : Int)), some (.inl (k : Int)), some (.inr (.inl v)), none], [.inl (Int.bmod v 4294967296), .inr (.inr (some 21)), .inr (.inr (some 2))], (zs g gl))) rfl ?_
          rw [zbm_id (show zr v by assumption), hu]
          refine zH_call (M' := 78) (as := [.inr (.inr (some 2)), .inr (.inr (some 21)), .inl (u : Int)]) (T := []) rfl (p_serveD (h := g) (n := n + k) (pp := u) (K := K) hI.1.1 (by omega) hup (by rw [hI.2.2.1 2 (by decide)]; exact hK7) hK) (fun r' σ' pm => ?_)
          obtain ⟨l, tr, g', gl', hl2, rfl, rfl, hs1, hs2⟩ := pm
          obtain ⟨hp1, hp2⟩ := zDc_serve hI.1 hl2 hup hs1 hs2
          have hDb := zDc_b hI.1
          have hcs : ∀ c : Nat, 12 ≤ c → c < 20 → g c = h c := fun c c1 c2 => hI.2.2.1 c (by omega)
          have hp3 := zPkS_same hcs hL3.2 hDb.1 (by omega) (fun j hj => by have := hDb.2 j hj; omega) hp1
          rw [zUp_same hcs (hDb.1 l (by omega))] at hp2
          show zH _ _ (94, [some (.inr (.inr (some 2))), some (.inl 0), some (.inl (R : Int)), some (.inr (.inr (some 83))), some (.inl 0), some (.inl (k : Int)), some (.inl (k : Int)), some (.inr (.inl (u : Int))), none], [.inl (l : Int)], (zs g' gl')) _
          refine zH_go 4 (c' := (33, [some (.inr (.inr (some 2))), some (.inl 0), some (.inl (R : Int)), some (.inr (.inr (some 83))), some (.inl 0), some (.inl ((k : Int) + 1)), some (.inl ((k : Int) + 1)), some (.inr (.inl (u : Int))), none], [], (zs g' gl'))) rfl ?_
          refine ih (g', gl', (zUp h K (n + k) u l tr s), (some (.inr (.inl (u : Int)))), none) ?_
          show zDc g' gl' p L B (n + (k + 1)) (zUp h K (n + k) u l tr s) ∧ zCh h L B K (fun q => Int.toNat (hl (86 + R) q)) n s0 (k + 1) (zUp h K (n + k) u l tr s) ∧ (∀ c : Nat, c < 21 ∨ 47 < c → g' c = h c) ∧ (∀ c : Nat, c ≠ 81 → gl' c = hl c) ∧ ∀ q : Nat, q < (k + 1) → zCDec (h 3 0) (h 21 3) (((n + q : Nat) : Int)) (hl (86 + R) q) 0
          have eP : Int.toNat (hl (86 + R) k) = u := by rw [← ev, hu, Int.toNat_natCast]
          refine ⟨hp2, ⟨s, l, tr, hI.2.1, ?_, ?_⟩, fun c hc => by rw [hs1.2.2.1 c hc]; exact hI.2.2.1 c hc, fun c hc => ?_, fun q hq => ?_⟩
          · show zPkS h L B K (n + k) (Int.toNat (hl (86 + R) k)) s l tr
            rw [eP]; exact hp3
          · show _ = zUp h K (n + k) (Int.toNat (hl (86 + R) k)) l tr s
            rw [eP]
          · rw [hs1.2.1]; funext q; rw [zup_ne hc]; exact congrFun (hI.2.2.2.1 c hc) q
          · by_cases w : q = k
            · rw [w, ← ev]; exact hdx
            · exact hI.2.2.2.2 q (by omega)
      · show zH _ _ (62, [some (.inr (.inr (some 2))), some (.inl 0), some (.inl (R : Int)), some (.inr (.inr (some 83))), some (.inl 0), some (.inl (k : Int)), some (.inl (k : Int)), some (.inr (.inl v)), none], [.inl 0], (zs g gl)) _
        refine zH_bt (x := 0) (y := 0) (k := .eq) (c1 := (75, [some (.inr (.inr (some 2))), some (.inl 0), some (.inl (R : Int)), some (.inr (.inr (some 83))), some (.inl 0), some (.inl (k : Int)), some (.inl (k : Int)), some (.inr (.inl v)), none], [], (zs g gl))) (c2 := (65, [some (.inr (.inr (some 2))), some (.inl 0), some (.inl (R : Int)), some (.inr (.inr (some 83))), some (.inl 0), some (.inl (k : Int)), some (.inl (k : Int)), some (.inr (.inl v)), none], [], (zs g gl))) rfl ⟨by decide, by decide⟩ ⟨by decide, by decide⟩ (by show 0 = 0; decide) ?_
        refine zH_go 3 (c' := (80, [some (.inr (.inr (some 2))), some (.inl 0), some (.inl (R : Int)), some (.inr (.inr (some 83))), some (.inl (-1)), some (.inl (k : Int)), some (.inl (k : Int)), some (.inr (.inl v)), none], [.inl (-1)], (zs g gl))) rfl ?_
        refine zH_bt (x := (-1)) (y := 0) (k := .ne) (c1 := (98, [some (.inr (.inr (some 2))), some (.inl 0), some (.inl (R : Int)), some (.inr (.inr (some 83))), some (.inl (-1)), some (.inl (k : Int)), some (.inl (k : Int)), some (.inr (.inl v)), none], [], (zs g gl))) (c2 := (83, [some (.inr (.inr (some 2))), some (.inl 0), some (.inl (R : Int)), some (.inr (.inr (some 83))), some (.inl (-1)), some (.inl (k : Int)), some (.inl (k : Int)), some (.inr (.inl v)), none], [], (zs g gl))) rfl ⟨by decide, by decide⟩ ⟨by decide, by decide⟩ (by show ¬ (-1) = 0; decide) ?_
        refine zH_go 2 (c' := (33, [some (.inr (.inr (some 2))), some (.inl 0), some (.inl (R : Int)), some (.inr (.inr (some 83))), some (.inl (-1)), some (.inl (k : Int)), some (.inl ((k : Int) + 1)), some (.inr (.inl v)), none], [], (zs g gl))) rfl ?_
        refine zH_go 1 (c' := (35, [some (.inr (.inr (some 2))), some (.inl 0), some (.inl (R : Int)), some (.inr (.inr (some 83))), some (.inl (-1)), some (.inl (k : Int)), some (.inl ((k : Int) + 1)), some (.inr (.inl v)), none], [.inl (-1)], (zs g gl))) rfl ?_
        refine zH_bt (x := (-1)) (y := 0) (k := .ne) (c1 := (104, [some (.inr (.inr (some 2))), some (.inl 0), some (.inl (R : Int)), some (.inr (.inr (some 83))), some (.inl (-1)), some (.inl (k : Int)), some (.inl ((k : Int) + 1)), some (.inr (.inl v)), none], [], (zs g gl))) (c2 := (38, [some (.inr (.inr (some 2))), some (.inl 0), some (.inl (R : Int)), some (.inr (.inr (some 83))), some (.inl (-1)), some (.inl (k : Int)), some (.inl ((k : Int) + 1)), some (.inr (.inl v)), none], [], (zs g gl))) rfl ⟨by decide, by decide⟩ ⟨by decide, by decide⟩ (by show ¬ (-1) = 0; decide) ?_
        refine zH_go 4 (c' := (112, [some (.inr (.inr (some 2))), some (.inl 0), some (.inl (R : Int)), some (.inr (.inr (some 83))), some (.inl (-1)), some (.inl (k : Int)), some (.inl ((k : Int) + 1)), some (.inr (.inl v)), none], [.inl (k : Int)], (zs (zup g 2 8 (-1)) gl))) rfl ?_
        refine zH_ret (v := some (.inl (k : Int))) rfl (fun q => absurd q (by decide)) ?_
        exact Or.inr ⟨R, S, k, -1, s, g, gl, rfl, hx, hS9, rfl, rfl, hI.1, hI.2.1, hI.2.2.1, hI.2.2.2.1, hI.2.2.2.2, Or.inr ⟨hk, by decide, by rw [← ev]; exact Or.inl ⟨fun q => (by assumption : ¬ zr v) ⟨by omega, by omega⟩, rfl⟩⟩⟩
    · obtain ⟨g, gl, s, x7, x8⟩ := x
      replace hI : zDc g gl p L B (n + S) s ∧ zCh h L B K (fun q => Int.toNat (hl (86 + R) q)) n s0 S s ∧ (∀ c : Nat, c < 21 ∨ 47 < c → g c = h c) ∧ (∀ c : Nat, c ≠ 81 → gl c = hl c) ∧ ∀ q : Nat, q < S → zCDec (h 3 0) (h 21 3) (((n + q : Nat) : Int)) (hl (86 + R) q) 0 := hI
      show zH _ _ (33, [some (.inr (.inr (some 2))), some (.inl 0), some (.inl (R : Int)), some (.inr (.inr (some 83))), some (.inl 0), some (.inl (S : Int)), some (.inl (S : Int)), x7, x8], [], (zs g gl)) _
      have hRg : -1 ≤ g 83 1 ∧ g 83 1 ≤ 4 := by rw [hI.2.2.1 83 (by decide)]; exact hR
      have hZg : ∀ q : Nat, q < 4 → -1 ≤ g 84 q ∧ g 84 q ≤ 8 := by rw [hI.2.2.1 84 (by decide)]; exact hZ
      have hSg : g 84 R = (S : Int) := by rw [hI.2.2.1 84 (by decide)]; exact hS9
      have hrowg : zHasRow g 83 (R : Int) := by unfold zHasRow; rw [hI.2.2.1 83 (by decide)]; exact hrow
      have g213 : g 21 3 = (L : Int) := hI.1.1.2.2.2.1
      refine zH_go 1 (c' := (35, [some (.inr (.inr (some 2))), some (.inl 0), some (.inl (R : Int)), some (.inr (.inr (some 83))), some (.inl 0), some (.inl (S : Int)), some (.inl (S : Int)), x7, x8], [.inl 0], (zs g gl))) rfl ?_
      refine zH_bf (x := 0) (y := 0) (k := .ne) (c1 := (104, [some (.inr (.inr (some 2))), some (.inl 0), some (.inl (R : Int)), some (.inr (.inr (some 83))), some (.inl 0), some (.inl (S : Int)), some (.inl (S : Int)), x7, x8], [], (zs g gl))) (c2 := (38, [some (.inr (.inr (some 2))), some (.inl 0), some (.inl (R : Int)), some (.inr (.inr (some 83))), some (.inl 0), some (.inl (S : Int)), some (.inl (S : Int)), x7, x8], [], (zs g gl))) rfl ⟨by decide, by decide⟩ ⟨by decide, by decide⟩ (by show ¬ (¬ 0 = 0); decide) ?_
      refine zH_go 3 (c' := (42, [some (.inr (.inr (some 2))), some (.inl 0), some (.inl (R : Int)), some (.inr (.inr (some 83))), some (.inl 0), some (.inl (S : Int)), some (.inl (S : Int)), x7, x8], [.inl (R : Int), .inr (.inr (some 83)), .inl (S : Int)], (zs g gl))) rfl ?_
      refine zH_call (M' := 4) (as := [.inr (.inr (some 83)), .inl (R : Int)]) (T := [.inl (S : Int)]) rfl (p_bSize0 (h := g) ⟨by omega, by omega⟩ hRg hZg) (fun r' σ' pm => ?_)
      obtain ⟨y, hy, rfl, rfl⟩ := pm
      obtain rfl : y = (S : Int) := by rcases hy with ⟨-, e⟩ | ⟨e, -⟩ <;> first | exact e.trans hSg | exact absurd hrowg e
      show zH _ _ (45, [some (.inr (.inr (some 2))), some (.inl 0), some (.inl (R : Int)), some (.inr (.inr (some 83))), some (.inl 0), some (.inl (S : Int)), some (.inl (S : Int)), x7, x8], [.inl (S : Int), .inl (S : Int)], (zs g gl)) _
      refine zH_bt (x := (S : Int)) (y := (S : Int)) (k := .ge) (c1 := (104, [some (.inr (.inr (some 2))), some (.inl 0), some (.inl (R : Int)), some (.inr (.inr (some 83))), some (.inl 0), some (.inl (S : Int)), some (.inl (S : Int)), x7, x8], [], (zs g gl))) (c2 := (48, [some (.inr (.inr (some 2))), some (.inl 0), some (.inl (R : Int)), some (.inr (.inr (some 83))), some (.inl 0), some (.inl (S : Int)), some (.inl (S : Int)), x7, x8], [], (zs g gl))) rfl (by first | assumption | (unfold zr; omega)) (by first | assumption | (unfold zr; omega)) (by show ¬ (S : Int) < (S : Int); omega) ?_
      refine zH_go 4 (c' := (112, [some (.inr (.inr (some 2))), some (.inl 0), some (.inl (R : Int)), some (.inr (.inr (some 83))), some (.inl 0), some (.inl (S : Int)), some (.inl (S : Int)), x7, x8], [.inl (S : Int)], (zs (zup g 2 8 0) gl))) rfl ?_
      refine zH_ret (v := some (.inl (S : Int))) rfl (fun q => absurd q (by decide)) ?_
      exact Or.inr ⟨R, S, S, 0, s, g, gl, rfl, hx, hS9, rfl, rfl, hI.1, hI.2.1, hI.2.2.1, hI.2.2.2.1, hI.2.2.2.2, Or.inl ⟨rfl, rfl⟩⟩
    · show zDc h hl p L B (n + 0) s0 ∧ zCh h L B K (fun q => Int.toNat (hl (86 + R) q)) n s0 0 s0 ∧ (∀ c : Nat, c < 21 ∨ 47 < c → h c = h c) ∧ (∀ c : Nat, c ≠ 81 → hl c = hl c) ∧ ∀ q : Nat, q < 0 → zCDec (h 3 0) (h 21 3) (((n + q : Nat) : Int)) (hl (86 + R) q) 0
      exact ⟨hD0, rfl, fun c hc => rfl, fun c hc => rfl, fun q hq => absurd hq (Nat.not_lt_zero q)⟩
  · show zH _ _ (25, [some (.inr (.inr (some 2))), some (.inl 0), some (.inl ri), some (.inr (.inr (some 83))), none, none, none, none, none], [.inl x], (zs h hl)) _
    refine zH_go 5 (c' := (33, [some (.inr (.inr (some 2))), some (.inl 0), some (.inl ri), some (.inr (.inr (some 83))), some (.inl x), some (.inl 0), some (.inl 0), none, none], [], (zs h hl))) rfl ?_
    refine zH_go 1 (c' := (35, [some (.inr (.inr (some 2))), some (.inl 0), some (.inl ri), some (.inr (.inr (some 83))), some (.inl x), some (.inl 0), some (.inl 0), none, none], [.inl x], (zs h hl))) rfl ?_
    refine zH_bt (x := x) (y := 0) (k := .ne) (c1 := (104, [some (.inr (.inr (some 2))), some (.inl 0), some (.inl ri), some (.inr (.inr (some 83))), some (.inl x), some (.inl 0), some (.inl 0), none, none], [], (zs h hl))) (c2 := (38, [some (.inr (.inr (some 2))), some (.inl 0), some (.inl ri), some (.inr (.inr (some 83))), some (.inl x), some (.inl 0), some (.inl 0), none, none], [], (zs h hl))) rfl (by first | assumption | (unfold zr; omega)) ⟨by decide, by decide⟩ (by show ¬ x = 0; omega) ?_
    refine zH_go 4 (c' := (112, [some (.inr (.inr (some 2))), some (.inl 0), some (.inl ri), some (.inr (.inr (some 83))), some (.inl x), some (.inl 0), some (.inl 0), none, none], [.inl 0], (zs (zup h 2 8 x) hl))) rfl ?_
    refine zH_ret (v := some (.inl 0)) rfl (fun q => absurd q (by decide)) ?_
    exact Or.inl ⟨x, hx0, hx, rfl, rfl⟩
set_option maxRecDepth 100000 in
set_option maxHeartbeats 1000000 in
theorem p_callsF0 {d : Nat} {h hl : Nat → Nat → Int} {ri : Int} (hr : zr ri) {p r : Nat} (hW : zTown h p r) (hR : -1 ≤ h 83 1 ∧ h 83 1 ≤ 4) (hZ : ∀ q : Nat, q < 4 → -1 ≤ h 84 q ∧ h 84 q ≤ 8) (hV : ∀ q i : Nat, q < 4 → i < 8 → zrl (hl (86 + q) i)) (hoff : ¬ 0 < h 21 3) (hon : zr (h 21 3)) (h4 : 0 ≤ h 21 4 ∧ h 21 4 ≤ 12) : zQ (d + 7) 91 [.inr (.inr (some 2)), .inl 0, .inl ri] (zs h hl) (fun r' σ' => (∃ x : Int, ¬ x = 0 ∧ zWhy h 83 84 ri x ∧ r' = some (.inl 0) ∧ σ' = zs (zup h 2 8 x) hl) ∨ ∃ (R S : Nat) (x : Int), ri = (R : Int) ∧ zWhy h 83 84 (R : Int) 0 ∧ h 84 R = (S : Int) ∧ r' = some (.inl 0) ∧ σ' = zs (zup h 2 8 x) hl ∧ ((S = 0 ∧ x = 0) ∨ (0 < S ∧ ¬ x = 0 ∧ zCDec (h 3 0) (h 21 3) (h 21 4) (hl (86 + R) 0) x))) := by
  have hWc := hW
  obtain ⟨hp6, hr15, h30, h31, hp3, hr4, hMe, hTB, hCn, hPo, hRd, hLk, hGr⟩ := hWc
  have hP : 0 ≤ h 3 0 ∧ h 3 0 ≤ 6 := by omega
  refine zQ_of (Nat.le_of_ble_eq_true rfl) ?_
  show zH (d + 6) 91 (0, [some (.inr (.inr (some 2))), some (.inl 0), some (.inl ri), none, none, none, none, none, none], [], (zs h hl)) _
  refine zH_go 1 (c' := (1, [some (.inr (.inr (some 2))), some (.inl 0), some (.inl ri), none, none, none, none, none, none], [.inl 0], (zs h hl))) rfl ?_
  refine zH_call (M' := 92) (as := [.inl 0]) (T := []) rfl (p_isBook ⟨by decide, by decide⟩) (fun r' σ' pm => ?_)
  obtain ⟨rfl, rfl⟩ : r' = some (.inl 1) ∧ σ' = _ := by rcases pm with ⟨a, -, b⟩ | ⟨-, b, -⟩ <;> first | exact ⟨a, b⟩ | (exfalso; omega)
  show zH _ _ (4, [some (.inr (.inr (some 2))), some (.inl 0), some (.inl ri), none, none, none, none, none, none], [.inl 1], (zs h hl)) _
  refine zH_bt (x := 1) (y := 0) (k := .ne) (c1 := (13, [some (.inr (.inr (some 2))), some (.inl 0), some (.inl ri), none, none, none, none, none, none], [], (zs h hl))) (c2 := (7, [some (.inr (.inr (some 2))), some (.inl 0), some (.inl ri), none, none, none, none, none, none], [], (zs h hl))) rfl ⟨by decide, by decide⟩ ⟨by decide, by decide⟩ (by show ¬ 1 = 0; decide) ?_
  refine zH_go 3 (c' := (18, [some (.inr (.inr (some 2))), some (.inl 0), some (.inl ri), none, none, none, none, none, none], [.inl 0, .inr (.inr (some 82))], (zs h hl))) rfl ?_
  refine zH_np (P := 0 ≤ 0 ∧ 0 < ((3 : Nat) : Int)) (c' := (19, [some (.inr (.inr (some 2))), some (.inl 0), some (.inl ri), none, none, none, none, none, none], [.inr (.inr (some 83))], (zs h hl))) rfl ⟨by decide, by decide⟩ ?_
  refine zH_go 3 (c' := (22, [some (.inr (.inr (some 2))), some (.inl 0), some (.inl ri), some (.inr (.inr (some 83))), none, none, none, none, none], [.inl ri, .inr (.inr (some 83))], (zs h hl))) rfl ?_
  refine zH_call (M' := 5) (as := [.inr (.inr (some 83)), .inl ri]) (T := []) rfl (p_bWhy0 hr hR hZ) (fun r' σ' pm => ?_)
  obtain ⟨x, hx, rfl, rfl⟩ := pm
  have hxr := zWhy_b hx
  by_cases hx0 : x = 0
  · subst hx0
    obtain ⟨hrow, hsz⟩ := zWhy_0 hx
    obtain ⟨R, rfl⟩ := Int.eq_ofNat_of_zero_le hrow.1
    rw [Int.toNat_natCast] at hsz
    have hR4 : R < 4 := by have := hrow.2.2; omega
    have hZR := hZ R hR4
    obtain ⟨S, hS9⟩ := Int.eq_ofNat_of_zero_le hsz
    show zH _ _ (25, [some (.inr (.inr (some 2))), some (.inl 0), some (.inl (R : Int)), some (.inr (.inr (some 83))), none, none, none, none, none], [.inl 0], (zs h hl)) _
    refine zH_go 5 (c' := (33, [some (.inr (.inr (some 2))), some (.inl 0), some (.inl (R : Int)), some (.inr (.inr (some 83))), some (.inl 0), some (.inl 0), some (.inl 0), none, none], [], (zs h hl))) rfl ?_
    have hRg := hR
    have hZg := hZ
    have hSg : h 84 R = (S : Int) := hS9
    have hrowg := hrow
    refine zH_go 1 (c' := (35, [some (.inr (.inr (some 2))), some (.inl 0), some (.inl (R : Int)), some (.inr (.inr (some 83))), some (.inl 0), some (.inl 0), some (.inl 0), none, none], [.inl 0], (zs h hl))) rfl ?_
    refine zH_bf (x := 0) (y := 0) (k := .ne) (c1 := (104, [some (.inr (.inr (some 2))), some (.inl 0), some (.inl (R : Int)), some (.inr (.inr (some 83))), some (.inl 0), some (.inl 0), some (.inl 0), none, none], [], (zs h hl))) (c2 := (38, [some (.inr (.inr (some 2))), some (.inl 0), some (.inl (R : Int)), some (.inr (.inr (some 83))), some (.inl 0), some (.inl 0), some (.inl 0), none, none], [], (zs h hl))) rfl ⟨by decide, by decide⟩ ⟨by decide, by decide⟩ (by show ¬ (¬ 0 = 0); decide) ?_
    refine zH_go 3 (c' := (42, [some (.inr (.inr (some 2))), some (.inl 0), some (.inl (R : Int)), some (.inr (.inr (some 83))), some (.inl 0), some (.inl 0), some (.inl 0), none, none], [.inl (R : Int), .inr (.inr (some 83)), .inl 0], (zs h hl))) rfl ?_
    refine zH_call (M' := 4) (as := [.inr (.inr (some 83)), .inl (R : Int)]) (T := [.inl 0]) rfl (p_bSize0 (h := h) ⟨by omega, by omega⟩ hRg hZg) (fun r' σ' pm => ?_)
    obtain ⟨y, hy, rfl, rfl⟩ := pm
    obtain rfl : y = (S : Int) := by rcases hy with ⟨-, e⟩ | ⟨e, -⟩ <;> first | exact e.trans hSg | exact absurd hrowg e
    show zH _ _ (45, [some (.inr (.inr (some 2))), some (.inl 0), some (.inl (R : Int)), some (.inr (.inr (some 83))), some (.inl 0), some (.inl 0), some (.inl 0), none, none], [.inl (S : Int), .inl 0], (zs h hl)) _
    refine zH_br (x := 0) (y := (S : Int)) (k := .ge) (c1 := (104, [some (.inr (.inr (some 2))), some (.inl 0), some (.inl (R : Int)), some (.inr (.inr (some 83))), some (.inl 0), some (.inl 0), some (.inl 0), none, none], [], (zs h hl))) (c2 := (48, [some (.inr (.inr (some 2))), some (.inl 0), some (.inl (R : Int)), some (.inr (.inr (some 83))), some (.inl 0), some (.inl 0), some (.inl 0), none, none], [], (zs h hl))) rfl ⟨by decide, by decide⟩ (by first | assumption | (unfold zr; omega)) (fun (b_1 : ¬ 0 < (S : Int)) => ?_) (fun (b_1 : ¬ (¬ 0 < (S : Int))) => ?_)
    · refine zH_go 4 (c' := (112, [some (.inr (.inr (some 2))), some (.inl 0), some (.inl (R : Int)), some (.inr (.inr (some 83))), some (.inl 0), some (.inl 0), some (.inl 0), none, none], [.inl 0], (zs (zup h 2 8 0) hl))) rfl ?_
      refine zH_ret (v := some (.inl 0)) rfl (fun q => absurd q (by decide)) ?_
      exact Or.inr ⟨R, S, 0, rfl, hx, hS9, rfl, rfl, Or.inl ⟨by omega, rfl⟩⟩
    · refine zH_go 3 (c' := (52, [some (.inr (.inr (some 2))), some (.inl 0), some (.inl (R : Int)), some (.inr (.inr (some 83))), some (.inl 0), some (.inl 0), some (.inl 0), none, none], [.inl 0, .inl (R : Int), .inr (.inr (some 83))], (zs h hl))) rfl ?_
      have hnum : zHasNum h 83 84 (R : Int) 0 := ⟨hrowg, by omega, by rw [Int.toNat_natCast, hSg]; omega, by have := hZg R hR4; omega⟩
      refine zH_call (M' := 9) (as := [.inr (.inr (some 83)), .inl (R : Int), .inl 0]) (T := []) rfl (p_bRead0 (h := h) (hl := hl) ⟨by omega, by omega⟩ ⟨by omega, by omega⟩ hRg hZg) (fun r' σ' pm => ?_)
      obtain ⟨v, hv, rfl, rfl⟩ := pm
      have ev : v = hl (86 + R) 0 := by rcases hv with ⟨-, e⟩ | ⟨e, -⟩ <;> first | exact e.trans rfl | exact absurd hnum e
      have zv : zrl v := by rw [ev]; exact hV R 0 hR4 (by omega)
      show zH _ _ (55, [some (.inr (.inr (some 2))), some (.inl 0), some (.inl (R : Int)), some (.inr (.inr (some 83))), some (.inl 0), some (.inl 0), some (.inl 0), none, none], [.inr (.inl v)], (zs h hl)) _
      refine zH_go 2 (c' := (59, [some (.inr (.inr (some 2))), some (.inl 0), some (.inl (R : Int)), some (.inr (.inr (some 83))), some (.inl 0), some (.inl 0), some (.inl 0), some (.inr (.inl v)), none], [.inr (.inl v)], (zs h hl))) rfl ?_
      refine zH_call (M' := 96) (as := [.inr (.inl v)]) (T := []) rfl (p_fits zv) (fun r σ' p_2 => ?_)
      rcases p_2 with ⟨rfl, b_3, rfl⟩ | ⟨rfl, b_3, rfl⟩
      · show zH _ _ (62, [some (.inr (.inr (some 2))), some (.inl 0), some (.inl (R : Int)), some (.inr (.inr (some 83))), some (.inl 0), some (.inl 0), some (.inl 0), some (.inr (.inl v)), none], [.inl 1], (zs h hl)) _
        refine zH_bf (x := 1) (y := 0) (k := .eq) (c1 := (75, [some (.inr (.inr (some 2))), some (.inl 0), some (.inl (R : Int)), some (.inr (.inr (some 83))), some (.inl 0), some (.inl 0), some (.inl 0), some (.inr (.inl v)), none], [], (zs h hl))) (c2 := (65, [some (.inr (.inr (some 2))), some (.inl 0), some (.inl (R : Int)), some (.inr (.inr (some 83))), some (.inl 0), some (.inl 0), some (.inl 0), some (.inr (.inl v)), none], [], (zs h hl))) rfl ⟨by decide, by decide⟩ ⟨by decide, by decide⟩ (by show ¬ (1 = 0); decide) ?_
        refine zH_go 3 (c' := (69, [some (.inr (.inr (some 2))), some (.inl 0), some (.inl (R : Int)), some (.inr (.inr (some 83))), some (.inl 0), some (.inl 0), some (.inl 0), some (.inr (.inl v)), none], [.inl (Int.bmod v 4294967296), .inr (.inr (some 2))], (zs h hl))) rfl ?_
        rw [zbm_id (show zr v by assumption)]
        refine zH_call (M' := 77) (as := [.inr (.inr (some 2)), .inl v]) (T := []) rfl (p_noCall (show zr v by assumption) h4 hP hon) (fun r' σ' pm => ?_)
        obtain ⟨x, hx, rfl, rfl⟩ := pm
        have hdx : zCDec (h 3 0) (h 21 3) (h 21 4) v x := hx
        have hxr := zCDec_b hdx
        clear hx
        show zH _ _ (72, [some (.inr (.inr (some 2))), some (.inl 0), some (.inl (R : Int)), some (.inr (.inr (some 83))), some (.inl 0), some (.inl 0), some (.inl 0), some (.inr (.inl v)), none], [.inl x], (zs h hl)) _
        refine zH_go 3 (c' := (80, [some (.inr (.inr (some 2))), some (.inl 0), some (.inl (R : Int)), some (.inr (.inr (some 83))), some (.inl x), some (.inl 0), some (.inl 0), some (.inr (.inl v)), none], [.inl x], (zs h hl))) rfl ?_
        refine zH_br (x := x) (y := 0) (k := .ne) (c1 := (98, [some (.inr (.inr (some 2))), some (.inl 0), some (.inl (R : Int)), some (.inr (.inr (some 83))), some (.inl x), some (.inl 0), some (.inl 0), some (.inr (.inl v)), none], [], (zs h hl))) (c2 := (83, [some (.inr (.inr (some 2))), some (.inl 0), some (.inl (R : Int)), some (.inr (.inr (some 83))), some (.inl x), some (.inl 0), some (.inl 0), some (.inr (.inl v)), none], [], (zs h hl))) rfl (by first | assumption | (unfold zr; omega)) ⟨by decide, by decide⟩ (fun (b_4 : ¬ x = 0) => ?_) (fun (b_4 : ¬ (¬ x = 0)) => ?_)
        · refine zH_go 2 (c' := (33, [some (.inr (.inr (some 2))), some (.inl 0), some (.inl (R : Int)), some (.inr (.inr (some 83))), some (.inl x), some (.inl 0), some (.inl 1), some (.inr (.inl v)), none], [], (zs h hl))) rfl ?_
          refine zH_go 1 (c' := (35, [some (.inr (.inr (some 2))), some (.inl 0), some (.inl (R : Int)), some (.inr (.inr (some 83))), some (.inl x), some (.inl 0), some (.inl 1), some (.inr (.inl v)), none], [.inl x], (zs h hl))) rfl ?_
          refine zH_bt (x := x) (y := 0) (k := .ne) (c1 := (104, [some (.inr (.inr (some 2))), some (.inl 0), some (.inl (R : Int)), some (.inr (.inr (some 83))), some (.inl x), some (.inl 0), some (.inl 1), some (.inr (.inl v)), none], [], (zs h hl))) (c2 := (38, [some (.inr (.inr (some 2))), some (.inl 0), some (.inl (R : Int)), some (.inr (.inr (some 83))), some (.inl x), some (.inl 0), some (.inl 1), some (.inr (.inl v)), none], [], (zs h hl))) rfl (by first | assumption | (unfold zr; omega)) ⟨by decide, by decide⟩ (by show ¬ x = 0; omega) ?_
          refine zH_go 4 (c' := (112, [some (.inr (.inr (some 2))), some (.inl 0), some (.inl (R : Int)), some (.inr (.inr (some 83))), some (.inl x), some (.inl 0), some (.inl 1), some (.inr (.inl v)), none], [.inl 0], (zs (zup h 2 8 x) hl))) rfl ?_
          refine zH_ret (v := some (.inl 0)) rfl (fun q => absurd q (by decide)) ?_
          exact Or.inr ⟨R, S, x, rfl, hx, hS9, rfl, rfl, Or.inr ⟨by omega, by assumption, by rw [← ev]; exact hdx⟩⟩
        · obtain rfl : x = 0 := by omega
          have hok := zCDec_0 hdx
          exact absurd hok.2.1 hoff
      · show zH _ _ (62, [some (.inr (.inr (some 2))), some (.inl 0), some (.inl (R : Int)), some (.inr (.inr (some 83))), some (.inl 0), some (.inl 0), some (.inl 0), some (.inr (.inl v)), none], [.inl 0], (zs h hl)) _
        refine zH_bt (x := 0) (y := 0) (k := .eq) (c1 := (75, [some (.inr (.inr (some 2))), some (.inl 0), some (.inl (R : Int)), some (.inr (.inr (some 83))), some (.inl 0), some (.inl 0), some (.inl 0), some (.inr (.inl v)), none], [], (zs h hl))) (c2 := (65, [some (.inr (.inr (some 2))), some (.inl 0), some (.inl (R : Int)), some (.inr (.inr (some 83))), some (.inl 0), some (.inl 0), some (.inl 0), some (.inr (.inl v)), none], [], (zs h hl))) rfl ⟨by decide, by decide⟩ ⟨by decide, by decide⟩ (by show 0 = 0; decide) ?_
        refine zH_go 3 (c' := (80, [some (.inr (.inr (some 2))), some (.inl 0), some (.inl (R : Int)), some (.inr (.inr (some 83))), some (.inl (-1)), some (.inl 0), some (.inl 0), some (.inr (.inl v)), none], [.inl (-1)], (zs h hl))) rfl ?_
        refine zH_bt (x := (-1)) (y := 0) (k := .ne) (c1 := (98, [some (.inr (.inr (some 2))), some (.inl 0), some (.inl (R : Int)), some (.inr (.inr (some 83))), some (.inl (-1)), some (.inl 0), some (.inl 0), some (.inr (.inl v)), none], [], (zs h hl))) (c2 := (83, [some (.inr (.inr (some 2))), some (.inl 0), some (.inl (R : Int)), some (.inr (.inr (some 83))), some (.inl (-1)), some (.inl 0), some (.inl 0), some (.inr (.inl v)), none], [], (zs h hl))) rfl ⟨by decide, by decide⟩ ⟨by decide, by decide⟩ (by show ¬ (-1) = 0; decide) ?_
        refine zH_go 2 (c' := (33, [some (.inr (.inr (some 2))), some (.inl 0), some (.inl (R : Int)), some (.inr (.inr (some 83))), some (.inl (-1)), some (.inl 0), some (.inl 1), some (.inr (.inl v)), none], [], (zs h hl))) rfl ?_
        refine zH_go 1 (c' := (35, [some (.inr (.inr (some 2))), some (.inl 0), some (.inl (R : Int)), some (.inr (.inr (some 83))), some (.inl (-1)), some (.inl 0), some (.inl 1), some (.inr (.inl v)), none], [.inl (-1)], (zs h hl))) rfl ?_
        refine zH_bt (x := (-1)) (y := 0) (k := .ne) (c1 := (104, [some (.inr (.inr (some 2))), some (.inl 0), some (.inl (R : Int)), some (.inr (.inr (some 83))), some (.inl (-1)), some (.inl 0), some (.inl 1), some (.inr (.inl v)), none], [], (zs h hl))) (c2 := (38, [some (.inr (.inr (some 2))), some (.inl 0), some (.inl (R : Int)), some (.inr (.inr (some 83))), some (.inl (-1)), some (.inl 0), some (.inl 1), some (.inr (.inl v)), none], [], (zs h hl))) rfl ⟨by decide, by decide⟩ ⟨by decide, by decide⟩ (by show ¬ (-1) = 0; decide) ?_
        refine zH_go 4 (c' := (112, [some (.inr (.inr (some 2))), some (.inl 0), some (.inl (R : Int)), some (.inr (.inr (some 83))), some (.inl (-1)), some (.inl 0), some (.inl 1), some (.inr (.inl v)), none], [.inl 0], (zs (zup h 2 8 (-1)) hl))) rfl ?_
        refine zH_ret (v := some (.inl 0)) rfl (fun q => absurd q (by decide)) ?_
        exact Or.inr ⟨R, S, -1, rfl, hx, hS9, rfl, rfl, Or.inr ⟨by omega, by decide, by rw [← ev]; exact Or.inl ⟨fun q => (by assumption : ¬ zr v) ⟨by omega, by omega⟩, rfl⟩⟩⟩
  · show zH _ _ (25, [some (.inr (.inr (some 2))), some (.inl 0), some (.inl ri), some (.inr (.inr (some 83))), none, none, none, none, none], [.inl x], (zs h hl)) _
    refine zH_go 5 (c' := (33, [some (.inr (.inr (some 2))), some (.inl 0), some (.inl ri), some (.inr (.inr (some 83))), some (.inl x), some (.inl 0), some (.inl 0), none, none], [], (zs h hl))) rfl ?_
    refine zH_go 1 (c' := (35, [some (.inr (.inr (some 2))), some (.inl 0), some (.inl ri), some (.inr (.inr (some 83))), some (.inl x), some (.inl 0), some (.inl 0), none, none], [.inl x], (zs h hl))) rfl ?_
    refine zH_bt (x := x) (y := 0) (k := .ne) (c1 := (104, [some (.inr (.inr (some 2))), some (.inl 0), some (.inl ri), some (.inr (.inr (some 83))), some (.inl x), some (.inl 0), some (.inl 0), none, none], [], (zs h hl))) (c2 := (38, [some (.inr (.inr (some 2))), some (.inl 0), some (.inl ri), some (.inr (.inr (some 83))), some (.inl x), some (.inl 0), some (.inl 0), none, none], [], (zs h hl))) rfl (by first | assumption | (unfold zr; omega)) ⟨by decide, by decide⟩ (by show ¬ x = 0; omega) ?_
    refine zH_go 4 (c' := (112, [some (.inr (.inr (some 2))), some (.inl 0), some (.inl ri), some (.inr (.inr (some 83))), some (.inl x), some (.inl 0), some (.inl 0), none, none], [.inl 0], (zs (zup h 2 8 x) hl))) rfl ?_
    refine zH_ret (v := some (.inl 0)) rfl (fun q => absurd q (by decide)) ?_
    exact Or.inl ⟨x, hx0, hx, rfl, rfl⟩
set_option maxRecDepth 100000 in
set_option maxHeartbeats 1000000 in
theorem p_callsN1 {d : Nat} {h hl : Nat → Nat → Int} {ri : Int} (hr : zr ri) {p r : Nat} (hW : zTown h p r) (hR : -1 ≤ h 90 1 ∧ h 90 1 ≤ 4) (hZ : ∀ q : Nat, q < 4 → -1 ≤ h 91 q ∧ h 91 q ≤ 8) (hV : ∀ q i : Nat, q < 4 → i < 8 → zrl (hl (93 + q) i)) {L B n : Nat} {K : Int} {s0 : zDS} (hD0 : zDc h hl p L B n s0) (hn12 : n ≤ 12) (hK7 : h 2 7 = K) (hK : 0 ≤ K ∧ K ≤ 3) : zQ (d + 7) 91 [.inr (.inr (some 2)), .inl 1, .inl ri] (zs h hl) (fun r' σ' => (∃ x : Int, ¬ x = 0 ∧ zWhy h 90 91 ri x ∧ r' = some (.inl 0) ∧ σ' = zs (zup h 2 8 x) hl) ∨ ∃ (R S J : Nat) (x : Int) (s : zDS) (g gl : Nat → Nat → Int), ri = (R : Int) ∧ zWhy h 90 91 (R : Int) 0 ∧ h 91 R = (S : Int) ∧ r' = some (.inl (J : Int)) ∧ σ' = zs (zup g 2 8 x) gl ∧ zDc g gl p L B (n + J) s ∧ zCh h L B K (fun q => Int.toNat (hl (93 + R) q)) n s0 J s ∧ (∀ c : Nat, c < 21 ∨ 47 < c → g c = h c) ∧ (∀ c : Nat, c ≠ 81 → gl c = hl c) ∧ (∀ q : Nat, q < J → zCDec (h 3 0) (h 21 3) (((n + q : Nat) : Int)) (hl (93 + R) q) 0) ∧ ((J = S ∧ x = 0) ∨ (J < S ∧ ¬ x = 0 ∧ zCDec (h 3 0) (h 21 3) (((n + J : Nat) : Int)) (hl (93 + R) J) x))) := by
  have hWc := hW
  obtain ⟨hp6, hr15, h30, h31, hp3, hr4, hMe, hTB, hCn, hPo, hRd, hLk, hGr⟩ := hWc
  have hP : 0 ≤ h 3 0 ∧ h 3 0 ≤ 6 := by omega
  have hL9 : h 21 3 = (L : Int) := hD0.1.2.2.2.1
  have hL3 := hD0.1.1.1
  refine zQ_of (Nat.le_of_ble_eq_true rfl) ?_
  show zH (d + 6) 91 (0, [some (.inr (.inr (some 2))), some (.inl 1), some (.inl ri), none, none, none, none, none, none], [], (zs h hl)) _
  refine zH_go 1 (c' := (1, [some (.inr (.inr (some 2))), some (.inl 1), some (.inl ri), none, none, none, none, none, none], [.inl 1], (zs h hl))) rfl ?_
  refine zH_call (M' := 92) (as := [.inl 1]) (T := []) rfl (p_isBook ⟨by decide, by decide⟩) (fun r' σ' pm => ?_)
  obtain ⟨rfl, rfl⟩ : r' = some (.inl 1) ∧ σ' = _ := by rcases pm with ⟨a, -, b⟩ | ⟨-, b, -⟩ <;> first | exact ⟨a, b⟩ | (exfalso; omega)
  show zH _ _ (4, [some (.inr (.inr (some 2))), some (.inl 1), some (.inl ri), none, none, none, none, none, none], [.inl 1], (zs h hl)) _
  refine zH_bt (x := 1) (y := 0) (k := .ne) (c1 := (13, [some (.inr (.inr (some 2))), some (.inl 1), some (.inl ri), none, none, none, none, none, none], [], (zs h hl))) (c2 := (7, [some (.inr (.inr (some 2))), some (.inl 1), some (.inl ri), none, none, none, none, none, none], [], (zs h hl))) rfl ⟨by decide, by decide⟩ ⟨by decide, by decide⟩ (by show ¬ 1 = 0; decide) ?_
  refine zH_go 3 (c' := (18, [some (.inr (.inr (some 2))), some (.inl 1), some (.inl ri), none, none, none, none, none, none], [.inl 1, .inr (.inr (some 82))], (zs h hl))) rfl ?_
  refine zH_np (P := 0 ≤ 1 ∧ 1 < ((3 : Nat) : Int)) (c' := (19, [some (.inr (.inr (some 2))), some (.inl 1), some (.inl ri), none, none, none, none, none, none], [.inr (.inr (some 90))], (zs h hl))) rfl ⟨by decide, by decide⟩ ?_
  refine zH_go 3 (c' := (22, [some (.inr (.inr (some 2))), some (.inl 1), some (.inl ri), some (.inr (.inr (some 90))), none, none, none, none, none], [.inl ri, .inr (.inr (some 90))], (zs h hl))) rfl ?_
  refine zH_call (M' := 5) (as := [.inr (.inr (some 90)), .inl ri]) (T := []) rfl (p_bWhy1 hr hR hZ) (fun r' σ' pm => ?_)
  obtain ⟨x, hx, rfl, rfl⟩ := pm
  have hxr := zWhy_b hx
  by_cases hx0 : x = 0
  · subst hx0
    obtain ⟨hrow, hsz⟩ := zWhy_0 hx
    obtain ⟨R, rfl⟩ := Int.eq_ofNat_of_zero_le hrow.1
    rw [Int.toNat_natCast] at hsz
    have hR4 : R < 4 := by have := hrow.2.2; omega
    have hZR := hZ R hR4
    obtain ⟨S, hS9⟩ := Int.eq_ofNat_of_zero_le hsz
    show zH _ _ (25, [some (.inr (.inr (some 2))), some (.inl 1), some (.inl (R : Int)), some (.inr (.inr (some 90))), none, none, none, none, none], [.inl 0], (zs h hl)) _
    refine zH_go 5 (c' := (33, [some (.inr (.inr (some 2))), some (.inl 1), some (.inl (R : Int)), some (.inr (.inr (some 90))), some (.inl 0), some (.inl 0), some (.inl 0), none, none], [], (zs h hl))) rfl ?_
    refine zH_lp (X := (Nat → Nat → Int) × (Nat → Nat → Int) × zDS × (Option zV) × (Option zV)) (F := fun (kq : Nat) (x : (Nat → Nat → Int) × (Nat → Nat → Int) × zDS × (Option zV) × (Option zV)) => (33, [some (.inr (.inr (some 2))), some (.inl 1), some (.inl (R : Int)), some (.inr (.inr (some 90))), some (.inl 0), some (.inl (kq : Int)), some (.inl (kq : Int)), x.2.2.2.1, x.2.2.2.2], [], (zs x.1 x.2.1))) (I := fun (kq : Nat) (x : (Nat → Nat → Int) × (Nat → Nat → Int) × zDS × (Option zV) × (Option zV)) => zDc x.1 x.2.1 p L B (n + kq) x.2.2.1 ∧ zCh h L B K (fun q => Int.toNat (hl (93 + R) q)) n s0 kq x.2.2.1 ∧ (∀ c : Nat, c < 21 ∨ 47 < c → x.1 c = h c) ∧ (∀ c : Nat, c ≠ 81 → x.2.1 c = hl c) ∧ ∀ q : Nat, q < kq → zCDec (h 3 0) (h 21 3) (((n + q : Nat) : Int)) (hl (93 + R) q) 0) (N := S) (fun k x hk hI ih => ?_) (fun x hI => ?_) 0 (h, hl, s0, none, none) (by omega) ?_
    · obtain ⟨g, gl, s, x7, x8⟩ := x
      replace hI : zDc g gl p L B (n + k) s ∧ zCh h L B K (fun q => Int.toNat (hl (93 + R) q)) n s0 k s ∧ (∀ c : Nat, c < 21 ∨ 47 < c → g c = h c) ∧ (∀ c : Nat, c ≠ 81 → gl c = hl c) ∧ ∀ q : Nat, q < k → zCDec (h 3 0) (h 21 3) (((n + q : Nat) : Int)) (hl (93 + R) q) 0 := hI
      show zH _ _ (33, [some (.inr (.inr (some 2))), some (.inl 1), some (.inl (R : Int)), some (.inr (.inr (some 90))), some (.inl 0), some (.inl (k : Int)), some (.inl (k : Int)), x7, x8], [], (zs g gl)) _
      have hRg : -1 ≤ g 90 1 ∧ g 90 1 ≤ 4 := by rw [hI.2.2.1 90 (by decide)]; exact hR
      have hZg : ∀ q : Nat, q < 4 → -1 ≤ g 91 q ∧ g 91 q ≤ 8 := by rw [hI.2.2.1 91 (by decide)]; exact hZ
      have hSg : g 91 R = (S : Int) := by rw [hI.2.2.1 91 (by decide)]; exact hS9
      have hrowg : zHasRow g 90 (R : Int) := by unfold zHasRow; rw [hI.2.2.1 90 (by decide)]; exact hrow
      have g213 : g 21 3 = (L : Int) := hI.1.1.2.2.2.1
      have g214 : g 21 4 = ((n + k : Nat) : Int) := hI.1.1.2.2.2.2.1
      have g30 : g 3 0 = (p : Int) := by rw [hI.2.2.1 3 (by decide)]; exact h30
      have hnk12 : n + k ≤ 12 := by
        rcases (show k = 0 ∨ 0 < k by omega) with q | q
        · omega
        · have := zCDec_0 (hI.2.2.2.2 (k - 1) (by omega)); omega
      refine zH_go 1 (c' := (35, [some (.inr (.inr (some 2))), some (.inl 1), some (.inl (R : Int)), some (.inr (.inr (some 90))), some (.inl 0), some (.inl (k : Int)), some (.inl (k : Int)), x7, x8], [.inl 0], (zs g gl))) rfl ?_
      refine zH_bf (x := 0) (y := 0) (k := .ne) (c1 := (104, [some (.inr (.inr (some 2))), some (.inl 1), some (.inl (R : Int)), some (.inr (.inr (some 90))), some (.inl 0), some (.inl (k : Int)), some (.inl (k : Int)), x7, x8], [], (zs g gl))) (c2 := (38, [some (.inr (.inr (some 2))), some (.inl 1), some (.inl (R : Int)), some (.inr (.inr (some 90))), some (.inl 0), some (.inl (k : Int)), some (.inl (k : Int)), x7, x8], [], (zs g gl))) rfl ⟨by decide, by decide⟩ ⟨by decide, by decide⟩ (by show ¬ (¬ 0 = 0); decide) ?_
      refine zH_go 3 (c' := (42, [some (.inr (.inr (some 2))), some (.inl 1), some (.inl (R : Int)), some (.inr (.inr (some 90))), some (.inl 0), some (.inl (k : Int)), some (.inl (k : Int)), x7, x8], [.inl (R : Int), .inr (.inr (some 90)), .inl (k : Int)], (zs g gl))) rfl ?_
      refine zH_call (M' := 4) (as := [.inr (.inr (some 90)), .inl (R : Int)]) (T := [.inl (k : Int)]) rfl (p_bSize1 (h := g) ⟨by omega, by omega⟩ hRg hZg) (fun r' σ' pm => ?_)
      obtain ⟨y, hy, rfl, rfl⟩ := pm
      obtain rfl : y = (S : Int) := by rcases hy with ⟨-, e⟩ | ⟨e, -⟩ <;> first | exact e.trans hSg | exact absurd hrowg e
      show zH _ _ (45, [some (.inr (.inr (some 2))), some (.inl 1), some (.inl (R : Int)), some (.inr (.inr (some 90))), some (.inl 0), some (.inl (k : Int)), some (.inl (k : Int)), x7, x8], [.inl (S : Int), .inl (k : Int)], (zs g gl)) _
      refine zH_bf (x := (k : Int)) (y := (S : Int)) (k := .ge) (c1 := (104, [some (.inr (.inr (some 2))), some (.inl 1), some (.inl (R : Int)), some (.inr (.inr (some 90))), some (.inl 0), some (.inl (k : Int)), some (.inl (k : Int)), x7, x8], [], (zs g gl))) (c2 := (48, [some (.inr (.inr (some 2))), some (.inl 1), some (.inl (R : Int)), some (.inr (.inr (some 90))), some (.inl 0), some (.inl (k : Int)), some (.inl (k : Int)), x7, x8], [], (zs g gl))) rfl (by first | assumption | (unfold zr; omega)) (by first | assumption | (unfold zr; omega)) (by show ¬ (¬ (k : Int) < (S : Int)); omega) ?_
      refine zH_go 3 (c' := (52, [some (.inr (.inr (some 2))), some (.inl 1), some (.inl (R : Int)), some (.inr (.inr (some 90))), some (.inl 0), some (.inl (k : Int)), some (.inl (k : Int)), x7, x8], [.inl (k : Int), .inl (R : Int), .inr (.inr (some 90))], (zs g gl))) rfl ?_
      have hnum : zHasNum g 90 91 (R : Int) (k : Int) := ⟨hrowg, by omega, by rw [Int.toNat_natCast, hSg]; omega, by have := hZg R hR4; omega⟩
      refine zH_call (M' := 9) (as := [.inr (.inr (some 90)), .inl (R : Int), .inl (k : Int)]) (T := []) rfl (p_bRead1 (h := g) (hl := gl) ⟨by omega, by omega⟩ ⟨by omega, by omega⟩ hRg hZg) (fun r' σ' pm => ?_)
      obtain ⟨v, hv, rfl, rfl⟩ := pm
      have ev : v = hl (93 + R) k := by rcases hv with ⟨-, e⟩ | ⟨e, -⟩ <;> first | exact e.trans (congrFun (hI.2.2.2.1 (93 + R) (by omega)) k) | exact absurd hnum e
      have zv : zrl v := by rw [ev]; exact hV R k hR4 (by omega)
      show zH _ _ (55, [some (.inr (.inr (some 2))), some (.inl 1), some (.inl (R : Int)), some (.inr (.inr (some 90))), some (.inl 0), some (.inl (k : Int)), some (.inl (k : Int)), x7, x8], [.inr (.inl v)], (zs g gl)) _
      refine zH_go 2 (c' := (59, [some (.inr (.inr (some 2))), some (.inl 1), some (.inl (R : Int)), some (.inr (.inr (some 90))), some (.inl 0), some (.inl (k : Int)), some (.inl (k : Int)), some (.inr (.inl v)), none], [.inr (.inl v)], (zs g gl))) rfl ?_
      refine zH_call (M' := 96) (as := [.inr (.inl v)]) (T := []) rfl (p_fits zv) (fun r σ' p_1 => ?_)
      rcases p_1 with ⟨rfl, b_2, rfl⟩ | ⟨rfl, b_2, rfl⟩
      · show zH _ _ (62, [some (.inr (.inr (some 2))), some (.inl 1), some (.inl (R : Int)), some (.inr (.inr (some 90))), some (.inl 0), some (.inl (k : Int)), some (.inl (k : Int)), some (.inr (.inl v)), none], [.inl 1], (zs g gl)) _
        refine zH_bf (x := 1) (y := 0) (k := .eq) (c1 := (75, [some (.inr (.inr (some 2))), some (.inl 1), some (.inl (R : Int)), some (.inr (.inr (some 90))), some (.inl 0), some (.inl (k : Int)), some (.inl (k : Int)), some (.inr (.inl v)), none], [], (zs g gl))) (c2 := (65, [some (.inr (.inr (some 2))), some (.inl 1), some (.inl (R : Int)), some (.inr (.inr (some 90))), some (.inl 0), some (.inl (k : Int)), some (.inl (k : Int)), some (.inr (.inl v)), none], [], (zs g gl))) rfl ⟨by decide, by decide⟩ ⟨by decide, by decide⟩ (by show ¬ (1 = 0); decide) ?_
        refine zH_go 3 (c' := (69, [some (.inr (.inr (some 2))), some (.inl 1), some (.inl (R : Int)), some (.inr (.inr (some 90))), some (.inl 0), some (.inl (k : Int)), some (.inl (k : Int)), some (.inr (.inl v)), none], [.inl (Int.bmod v 4294967296), .inr (.inr (some 2))], (zs g gl))) rfl ?_
        rw [zbm_id (show zr v by assumption)]
        refine zH_call (M' := 77) (as := [.inr (.inr (some 2)), .inl v]) (T := []) rfl (p_noCall (show zr v by assumption) (by omega) (by omega) (by rw [g213]; exact ⟨by omega, by omega⟩)) (fun r' σ' pm => ?_)
        obtain ⟨x, hx, rfl, rfl⟩ := pm
        have hdx : zCDec (h 3 0) (h 21 3) ((n + k : Nat) : Int) v x := by have q : zCDec (g 3 0) (g 21 3) (g 21 4) v x := hx; rw [g30, g213, g214] at q; rw [hL9]; rw [← h30] at q; exact q
        have hxr := zCDec_b hdx
        clear hx
        show zH _ _ (72, [some (.inr (.inr (some 2))), some (.inl 1), some (.inl (R : Int)), some (.inr (.inr (some 90))), some (.inl 0), some (.inl (k : Int)), some (.inl (k : Int)), some (.inr (.inl v)), none], [.inl x], (zs g gl)) _
        refine zH_go 3 (c' := (80, [some (.inr (.inr (some 2))), some (.inl 1), some (.inl (R : Int)), some (.inr (.inr (some 90))), some (.inl x), some (.inl (k : Int)), some (.inl (k : Int)), some (.inr (.inl v)), none], [.inl x], (zs g gl))) rfl ?_
        refine zH_br (x := x) (y := 0) (k := .ne) (c1 := (98, [some (.inr (.inr (some 2))), some (.inl 1), some (.inl (R : Int)), some (.inr (.inr (some 90))), some (.inl x), some (.inl (k : Int)), some (.inl (k : Int)), some (.inr (.inl v)), none], [], (zs g gl))) (c2 := (83, [some (.inr (.inr (some 2))), some (.inl 1), some (.inl (R : Int)), some (.inr (.inr (some 90))), some (.inl x), some (.inl (k : Int)), some (.inl (k : Int)), some (.inr (.inl v)), none], [], (zs g gl))) rfl (by first | assumption | (unfold zr; omega)) ⟨by decide, by decide⟩ (fun (b_3 : ¬ x = 0) => ?_) (fun (b_3 : ¬ (¬ x = 0)) => ?_)
        · refine zH_go 2 (c' := (33, [some (.inr (.inr (some 2))), some (.inl 1), some (.inl (R : Int)), some (.inr (.inr (some 90))), some (.inl x), some (.inl (k : Int)), some (.inl ((k : Int) + 1)), some (.inr (.inl v)), none], [], (zs g gl))) rfl ?_
          refine zH_go 1 (c' := (35, [some (.inr (.inr (some 2))), some (.inl 1), some (.inl (R : Int)), some (.inr (.inr (some 90))), some (.inl x), some (.inl (k : Int)), some (.inl ((k : Int) + 1)), some (.inr (.inl v)), none], [.inl x], (zs g gl))) rfl ?_
          refine zH_bt (x := x) (y := 0) (k := .ne) (c1 := (104, [some (.inr (.inr (some 2))), some (.inl 1), some (.inl (R : Int)), some (.inr (.inr (some 90))), some (.inl x), some (.inl (k : Int)), some (.inl ((k : Int) + 1)), some (.inr (.inl v)), none], [], (zs g gl))) (c2 := (38, [some (.inr (.inr (some 2))), some (.inl 1), some (.inl (R : Int)), some (.inr (.inr (some 90))), some (.inl x), some (.inl (k : Int)), some (.inl ((k : Int) + 1)), some (.inr (.inl v)), none], [], (zs g gl))) rfl (by first | assumption | (unfold zr; omega)) ⟨by decide, by decide⟩ (by show ¬ x = 0; omega) ?_
          refine zH_go 4 (c' := (112, [some (.inr (.inr (some 2))), some (.inl 1), some (.inl (R : Int)), some (.inr (.inr (some 90))), some (.inl x), some (.inl (k : Int)), some (.inl ((k : Int) + 1)), some (.inr (.inl v)), none], [.inl (k : Int)], (zs (zup g 2 8 x) gl))) rfl ?_
          refine zH_ret (v := some (.inl (k : Int))) rfl (fun q => absurd q (by decide)) ?_
          exact Or.inr ⟨R, S, k, x, s, g, gl, rfl, hx, hS9, rfl, rfl, hI.1, hI.2.1, hI.2.2.1, hI.2.2.2.1, hI.2.2.2.2, Or.inr ⟨hk, by assumption, by rw [← ev]; exact hdx⟩⟩
        · obtain rfl : x = 0 := by omega
          have hok := zCDec_0 hdx
          obtain ⟨u, hu⟩ := Int.eq_ofNat_of_zero_le hok.1.1
          have hup : u < p := by omega
          refine zH_go 5 (c' := (91, [some (.inr (.inr (some 2))), some (.inl 1), some (.inl (R : Int)), some (.inr (.inr (some 90))), some (.inl 0), some (.inl (k : Int)), some (.inl (k : Int)), some (.inr (.inl v)), none], [.inl (Int.bmod v 4294967296), .inr (.inr (some 21)), .inr (.inr (some 2))], (zs g gl))) rfl ?_
          rw [zbm_id (show zr v by assumption), hu]
          refine zH_call (M' := 78) (as := [.inr (.inr (some 2)), .inr (.inr (some 21)), .inl (u : Int)]) (T := []) rfl (p_serveD (h := g) (n := n + k) (pp := u) (K := K) hI.1.1 (by omega) hup (by rw [hI.2.2.1 2 (by decide)]; exact hK7) hK) (fun r' σ' pm => ?_)
          obtain ⟨l, tr, g', gl', hl2, rfl, rfl, hs1, hs2⟩ := pm
          obtain ⟨hp1, hp2⟩ := zDc_serve hI.1 hl2 hup hs1 hs2
          have hDb := zDc_b hI.1
          have hcs : ∀ c : Nat, 12 ≤ c → c < 20 → g c = h c := fun c c1 c2 => hI.2.2.1 c (by omega)
          have hp3 := zPkS_same hcs hL3.2 hDb.1 (by omega) (fun j hj => by have := hDb.2 j hj; omega) hp1
          rw [zUp_same hcs (hDb.1 l (by omega))] at hp2
          show zH _ _ (94, [some (.inr (.inr (some 2))), some (.inl 1), some (.inl (R : Int)), some (.inr (.inr (some 90))), some (.inl 0), some (.inl (k : Int)), some (.inl (k : Int)), some (.inr (.inl (u : Int))), none], [.inl (l : Int)], (zs g' gl')) _
          refine zH_go 4 (c' := (33, [some (.inr (.inr (some 2))), some (.inl 1), some (.inl (R : Int)), some (.inr (.inr (some 90))), some (.inl 0), some (.inl ((k : Int) + 1)), some (.inl ((k : Int) + 1)), some (.inr (.inl (u : Int))), none], [], (zs g' gl'))) rfl ?_
          refine ih (g', gl', (zUp h K (n + k) u l tr s), (some (.inr (.inl (u : Int)))), none) ?_
          show zDc g' gl' p L B (n + (k + 1)) (zUp h K (n + k) u l tr s) ∧ zCh h L B K (fun q => Int.toNat (hl (93 + R) q)) n s0 (k + 1) (zUp h K (n + k) u l tr s) ∧ (∀ c : Nat, c < 21 ∨ 47 < c → g' c = h c) ∧ (∀ c : Nat, c ≠ 81 → gl' c = hl c) ∧ ∀ q : Nat, q < (k + 1) → zCDec (h 3 0) (h 21 3) (((n + q : Nat) : Int)) (hl (93 + R) q) 0
          have eP : Int.toNat (hl (93 + R) k) = u := by rw [← ev, hu, Int.toNat_natCast]
          refine ⟨hp2, ⟨s, l, tr, hI.2.1, ?_, ?_⟩, fun c hc => by rw [hs1.2.2.1 c hc]; exact hI.2.2.1 c hc, fun c hc => ?_, fun q hq => ?_⟩
          · show zPkS h L B K (n + k) (Int.toNat (hl (93 + R) k)) s l tr
            rw [eP]; exact hp3
          · show _ = zUp h K (n + k) (Int.toNat (hl (93 + R) k)) l tr s
            rw [eP]
          · rw [hs1.2.1]; funext q; rw [zup_ne hc]; exact congrFun (hI.2.2.2.1 c hc) q
          · by_cases w : q = k
            · rw [w, ← ev]; exact hdx
            · exact hI.2.2.2.2 q (by omega)
      · show zH _ _ (62, [some (.inr (.inr (some 2))), some (.inl 1), some (.inl (R : Int)), some (.inr (.inr (some 90))), some (.inl 0), some (.inl (k : Int)), some (.inl (k : Int)), some (.inr (.inl v)), none], [.inl 0], (zs g gl)) _
        refine zH_bt (x := 0) (y := 0) (k := .eq) (c1 := (75, [some (.inr (.inr (some 2))), some (.inl 1), some (.inl (R : Int)), some (.inr (.inr (some 90))), some (.inl 0), some (.inl (k : Int)), some (.inl (k : Int)), some (.inr (.inl v)), none], [], (zs g gl))) (c2 := (65, [some (.inr (.inr (some 2))), some (.inl 1), some (.inl (R : Int)), some (.inr (.inr (some 90))), some (.inl 0), some (.inl (k : Int)), some (.inl (k : Int)), some (.inr (.inl v)), none], [], (zs g gl))) rfl ⟨by decide, by decide⟩ ⟨by decide, by decide⟩ (by show 0 = 0; decide) ?_
        refine zH_go 3 (c' := (80, [some (.inr (.inr (some 2))), some (.inl 1), some (.inl (R : Int)), some (.inr (.inr (some 90))), some (.inl (-1)), some (.inl (k : Int)), some (.inl (k : Int)), some (.inr (.inl v)), none], [.inl (-1)], (zs g gl))) rfl ?_
        refine zH_bt (x := (-1)) (y := 0) (k := .ne) (c1 := (98, [some (.inr (.inr (some 2))), some (.inl 1), some (.inl (R : Int)), some (.inr (.inr (some 90))), some (.inl (-1)), some (.inl (k : Int)), some (.inl (k : Int)), some (.inr (.inl v)), none], [], (zs g gl))) (c2 := (83, [some (.inr (.inr (some 2))), some (.inl 1), some (.inl (R : Int)), some (.inr (.inr (some 90))), some (.inl (-1)), some (.inl (k : Int)), some (.inl (k : Int)), some (.inr (.inl v)), none], [], (zs g gl))) rfl ⟨by decide, by decide⟩ ⟨by decide, by decide⟩ (by show ¬ (-1) = 0; decide) ?_
        refine zH_go 2 (c' := (33, [some (.inr (.inr (some 2))), some (.inl 1), some (.inl (R : Int)), some (.inr (.inr (some 90))), some (.inl (-1)), some (.inl (k : Int)), some (.inl ((k : Int) + 1)), some (.inr (.inl v)), none], [], (zs g gl))) rfl ?_
        refine zH_go 1 (c' := (35, [some (.inr (.inr (some 2))), some (.inl 1), some (.inl (R : Int)), some (.inr (.inr (some 90))), some (.inl (-1)), some (.inl (k : Int)), some (.inl ((k : Int) + 1)), some (.inr (.inl v)), none], [.inl (-1)], (zs g gl))) rfl ?_
        refine zH_bt (x := (-1)) (y := 0) (k := .ne) (c1 := (104, [some (.inr (.inr (some 2))), some (.inl 1), some (.inl (R : Int)), some (.inr (.inr (some 90))), some (.inl (-1)), some (.inl (k : Int)), some (.inl ((k : Int) + 1)), some (.inr (.inl v)), none], [], (zs g gl))) (c2 := (38, [some (.inr (.inr (some 2))), some (.inl 1), some (.inl (R : Int)), some (.inr (.inr (some 90))), some (.inl (-1)), some (.inl (k : Int)), some (.inl ((k : Int) + 1)), some (.inr (.inl v)), none], [], (zs g gl))) rfl ⟨by decide, by decide⟩ ⟨by decide, by decide⟩ (by show ¬ (-1) = 0; decide) ?_
        refine zH_go 4 (c' := (112, [some (.inr (.inr (some 2))), some (.inl 1), some (.inl (R : Int)), some (.inr (.inr (some 90))), some (.inl (-1)), some (.inl (k : Int)), some (.inl ((k : Int) + 1)), some (.inr (.inl v)), none], [.inl (k : Int)], (zs (zup g 2 8 (-1)) gl))) rfl ?_
        refine zH_ret (v := some (.inl (k : Int))) rfl (fun q => absurd q (by decide)) ?_
        exact Or.inr ⟨R, S, k, -1, s, g, gl, rfl, hx, hS9, rfl, rfl, hI.1, hI.2.1, hI.2.2.1, hI.2.2.2.1, hI.2.2.2.2, Or.inr ⟨hk, by decide, by rw [← ev]; exact Or.inl ⟨fun q => (by assumption : ¬ zr v) ⟨by omega, by omega⟩, rfl⟩⟩⟩
    · obtain ⟨g, gl, s, x7, x8⟩ := x
      replace hI : zDc g gl p L B (n + S) s ∧ zCh h L B K (fun q => Int.toNat (hl (93 + R) q)) n s0 S s ∧ (∀ c : Nat, c < 21 ∨ 47 < c → g c = h c) ∧ (∀ c : Nat, c ≠ 81 → gl c = hl c) ∧ ∀ q : Nat, q < S → zCDec (h 3 0) (h 21 3) (((n + q : Nat) : Int)) (hl (93 + R) q) 0 := hI
      show zH _ _ (33, [some (.inr (.inr (some 2))), some (.inl 1), some (.inl (R : Int)), some (.inr (.inr (some 90))), some (.inl 0), some (.inl (S : Int)), some (.inl (S : Int)), x7, x8], [], (zs g gl)) _
      have hRg : -1 ≤ g 90 1 ∧ g 90 1 ≤ 4 := by rw [hI.2.2.1 90 (by decide)]; exact hR
      have hZg : ∀ q : Nat, q < 4 → -1 ≤ g 91 q ∧ g 91 q ≤ 8 := by rw [hI.2.2.1 91 (by decide)]; exact hZ
      have hSg : g 91 R = (S : Int) := by rw [hI.2.2.1 91 (by decide)]; exact hS9
      have hrowg : zHasRow g 90 (R : Int) := by unfold zHasRow; rw [hI.2.2.1 90 (by decide)]; exact hrow
      have g213 : g 21 3 = (L : Int) := hI.1.1.2.2.2.1
      refine zH_go 1 (c' := (35, [some (.inr (.inr (some 2))), some (.inl 1), some (.inl (R : Int)), some (.inr (.inr (some 90))), some (.inl 0), some (.inl (S : Int)), some (.inl (S : Int)), x7, x8], [.inl 0], (zs g gl))) rfl ?_
      refine zH_bf (x := 0) (y := 0) (k := .ne) (c1 := (104, [some (.inr (.inr (some 2))), some (.inl 1), some (.inl (R : Int)), some (.inr (.inr (some 90))), some (.inl 0), some (.inl (S : Int)), some (.inl (S : Int)), x7, x8], [], (zs g gl))) (c2 := (38, [some (.inr (.inr (some 2))), some (.inl 1), some (.inl (R : Int)), some (.inr (.inr (some 90))), some (.inl 0), some (.inl (S : Int)), some (.inl (S : Int)), x7, x8], [], (zs g gl))) rfl ⟨by decide, by decide⟩ ⟨by decide, by decide⟩ (by show ¬ (¬ 0 = 0); decide) ?_
      refine zH_go 3 (c' := (42, [some (.inr (.inr (some 2))), some (.inl 1), some (.inl (R : Int)), some (.inr (.inr (some 90))), some (.inl 0), some (.inl (S : Int)), some (.inl (S : Int)), x7, x8], [.inl (R : Int), .inr (.inr (some 90)), .inl (S : Int)], (zs g gl))) rfl ?_
      refine zH_call (M' := 4) (as := [.inr (.inr (some 90)), .inl (R : Int)]) (T := [.inl (S : Int)]) rfl (p_bSize1 (h := g) ⟨by omega, by omega⟩ hRg hZg) (fun r' σ' pm => ?_)
      obtain ⟨y, hy, rfl, rfl⟩ := pm
      obtain rfl : y = (S : Int) := by rcases hy with ⟨-, e⟩ | ⟨e, -⟩ <;> first | exact e.trans hSg | exact absurd hrowg e
      show zH _ _ (45, [some (.inr (.inr (some 2))), some (.inl 1), some (.inl (R : Int)), some (.inr (.inr (some 90))), some (.inl 0), some (.inl (S : Int)), some (.inl (S : Int)), x7, x8], [.inl (S : Int), .inl (S : Int)], (zs g gl)) _
      refine zH_bt (x := (S : Int)) (y := (S : Int)) (k := .ge) (c1 := (104, [some (.inr (.inr (some 2))), some (.inl 1), some (.inl (R : Int)), some (.inr (.inr (some 90))), some (.inl 0), some (.inl (S : Int)), some (.inl (S : Int)), x7, x8], [], (zs g gl))) (c2 := (48, [some (.inr (.inr (some 2))), some (.inl 1), some (.inl (R : Int)), some (.inr (.inr (some 90))), some (.inl 0), some (.inl (S : Int)), some (.inl (S : Int)), x7, x8], [], (zs g gl))) rfl (by first | assumption | (unfold zr; omega)) (by first | assumption | (unfold zr; omega)) (by show ¬ (S : Int) < (S : Int); omega) ?_
      refine zH_go 4 (c' := (112, [some (.inr (.inr (some 2))), some (.inl 1), some (.inl (R : Int)), some (.inr (.inr (some 90))), some (.inl 0), some (.inl (S : Int)), some (.inl (S : Int)), x7, x8], [.inl (S : Int)], (zs (zup g 2 8 0) gl))) rfl ?_
      refine zH_ret (v := some (.inl (S : Int))) rfl (fun q => absurd q (by decide)) ?_
      exact Or.inr ⟨R, S, S, 0, s, g, gl, rfl, hx, hS9, rfl, rfl, hI.1, hI.2.1, hI.2.2.1, hI.2.2.2.1, hI.2.2.2.2, Or.inl ⟨rfl, rfl⟩⟩
    · show zDc h hl p L B (n + 0) s0 ∧ zCh h L B K (fun q => Int.toNat (hl (93 + R) q)) n s0 0 s0 ∧ (∀ c : Nat, c < 21 ∨ 47 < c → h c = h c) ∧ (∀ c : Nat, c ≠ 81 → hl c = hl c) ∧ ∀ q : Nat, q < 0 → zCDec (h 3 0) (h 21 3) (((n + q : Nat) : Int)) (hl (93 + R) q) 0
      exact ⟨hD0, rfl, fun c hc => rfl, fun c hc => rfl, fun q hq => absurd hq (Nat.not_lt_zero q)⟩
  · show zH _ _ (25, [some (.inr (.inr (some 2))), some (.inl 1), some (.inl ri), some (.inr (.inr (some 90))), none, none, none, none, none], [.inl x], (zs h hl)) _
    refine zH_go 5 (c' := (33, [some (.inr (.inr (some 2))), some (.inl 1), some (.inl ri), some (.inr (.inr (some 90))), some (.inl x), some (.inl 0), some (.inl 0), none, none], [], (zs h hl))) rfl ?_
    refine zH_go 1 (c' := (35, [some (.inr (.inr (some 2))), some (.inl 1), some (.inl ri), some (.inr (.inr (some 90))), some (.inl x), some (.inl 0), some (.inl 0), none, none], [.inl x], (zs h hl))) rfl ?_
    refine zH_bt (x := x) (y := 0) (k := .ne) (c1 := (104, [some (.inr (.inr (some 2))), some (.inl 1), some (.inl ri), some (.inr (.inr (some 90))), some (.inl x), some (.inl 0), some (.inl 0), none, none], [], (zs h hl))) (c2 := (38, [some (.inr (.inr (some 2))), some (.inl 1), some (.inl ri), some (.inr (.inr (some 90))), some (.inl x), some (.inl 0), some (.inl 0), none, none], [], (zs h hl))) rfl (by first | assumption | (unfold zr; omega)) ⟨by decide, by decide⟩ (by show ¬ x = 0; omega) ?_
    refine zH_go 4 (c' := (112, [some (.inr (.inr (some 2))), some (.inl 1), some (.inl ri), some (.inr (.inr (some 90))), some (.inl x), some (.inl 0), some (.inl 0), none, none], [.inl 0], (zs (zup h 2 8 x) hl))) rfl ?_
    refine zH_ret (v := some (.inl 0)) rfl (fun q => absurd q (by decide)) ?_
    exact Or.inl ⟨x, hx0, hx, rfl, rfl⟩
set_option maxRecDepth 100000 in
set_option maxHeartbeats 1000000 in
theorem p_callsF1 {d : Nat} {h hl : Nat → Nat → Int} {ri : Int} (hr : zr ri) {p r : Nat} (hW : zTown h p r) (hR : -1 ≤ h 90 1 ∧ h 90 1 ≤ 4) (hZ : ∀ q : Nat, q < 4 → -1 ≤ h 91 q ∧ h 91 q ≤ 8) (hV : ∀ q i : Nat, q < 4 → i < 8 → zrl (hl (93 + q) i)) (hoff : ¬ 0 < h 21 3) (hon : zr (h 21 3)) (h4 : 0 ≤ h 21 4 ∧ h 21 4 ≤ 12) : zQ (d + 7) 91 [.inr (.inr (some 2)), .inl 1, .inl ri] (zs h hl) (fun r' σ' => (∃ x : Int, ¬ x = 0 ∧ zWhy h 90 91 ri x ∧ r' = some (.inl 0) ∧ σ' = zs (zup h 2 8 x) hl) ∨ ∃ (R S : Nat) (x : Int), ri = (R : Int) ∧ zWhy h 90 91 (R : Int) 0 ∧ h 91 R = (S : Int) ∧ r' = some (.inl 0) ∧ σ' = zs (zup h 2 8 x) hl ∧ ((S = 0 ∧ x = 0) ∨ (0 < S ∧ ¬ x = 0 ∧ zCDec (h 3 0) (h 21 3) (h 21 4) (hl (93 + R) 0) x))) := by
  have hWc := hW
  obtain ⟨hp6, hr15, h30, h31, hp3, hr4, hMe, hTB, hCn, hPo, hRd, hLk, hGr⟩ := hWc
  have hP : 0 ≤ h 3 0 ∧ h 3 0 ≤ 6 := by omega
  refine zQ_of (Nat.le_of_ble_eq_true rfl) ?_
  show zH (d + 6) 91 (0, [some (.inr (.inr (some 2))), some (.inl 1), some (.inl ri), none, none, none, none, none, none], [], (zs h hl)) _
  refine zH_go 1 (c' := (1, [some (.inr (.inr (some 2))), some (.inl 1), some (.inl ri), none, none, none, none, none, none], [.inl 1], (zs h hl))) rfl ?_
  refine zH_call (M' := 92) (as := [.inl 1]) (T := []) rfl (p_isBook ⟨by decide, by decide⟩) (fun r' σ' pm => ?_)
  obtain ⟨rfl, rfl⟩ : r' = some (.inl 1) ∧ σ' = _ := by rcases pm with ⟨a, -, b⟩ | ⟨-, b, -⟩ <;> first | exact ⟨a, b⟩ | (exfalso; omega)
  show zH _ _ (4, [some (.inr (.inr (some 2))), some (.inl 1), some (.inl ri), none, none, none, none, none, none], [.inl 1], (zs h hl)) _
  refine zH_bt (x := 1) (y := 0) (k := .ne) (c1 := (13, [some (.inr (.inr (some 2))), some (.inl 1), some (.inl ri), none, none, none, none, none, none], [], (zs h hl))) (c2 := (7, [some (.inr (.inr (some 2))), some (.inl 1), some (.inl ri), none, none, none, none, none, none], [], (zs h hl))) rfl ⟨by decide, by decide⟩ ⟨by decide, by decide⟩ (by show ¬ 1 = 0; decide) ?_
  refine zH_go 3 (c' := (18, [some (.inr (.inr (some 2))), some (.inl 1), some (.inl ri), none, none, none, none, none, none], [.inl 1, .inr (.inr (some 82))], (zs h hl))) rfl ?_
  refine zH_np (P := 0 ≤ 1 ∧ 1 < ((3 : Nat) : Int)) (c' := (19, [some (.inr (.inr (some 2))), some (.inl 1), some (.inl ri), none, none, none, none, none, none], [.inr (.inr (some 90))], (zs h hl))) rfl ⟨by decide, by decide⟩ ?_
  refine zH_go 3 (c' := (22, [some (.inr (.inr (some 2))), some (.inl 1), some (.inl ri), some (.inr (.inr (some 90))), none, none, none, none, none], [.inl ri, .inr (.inr (some 90))], (zs h hl))) rfl ?_
  refine zH_call (M' := 5) (as := [.inr (.inr (some 90)), .inl ri]) (T := []) rfl (p_bWhy1 hr hR hZ) (fun r' σ' pm => ?_)
  obtain ⟨x, hx, rfl, rfl⟩ := pm
  have hxr := zWhy_b hx
  by_cases hx0 : x = 0
  · subst hx0
    obtain ⟨hrow, hsz⟩ := zWhy_0 hx
    obtain ⟨R, rfl⟩ := Int.eq_ofNat_of_zero_le hrow.1
    rw [Int.toNat_natCast] at hsz
    have hR4 : R < 4 := by have := hrow.2.2; omega
    have hZR := hZ R hR4
    obtain ⟨S, hS9⟩ := Int.eq_ofNat_of_zero_le hsz
    show zH _ _ (25, [some (.inr (.inr (some 2))), some (.inl 1), some (.inl (R : Int)), some (.inr (.inr (some 90))), none, none, none, none, none], [.inl 0], (zs h hl)) _
    refine zH_go 5 (c' := (33, [some (.inr (.inr (some 2))), some (.inl 1), some (.inl (R : Int)), some (.inr (.inr (some 90))), some (.inl 0), some (.inl 0), some (.inl 0), none, none], [], (zs h hl))) rfl ?_
    have hRg := hR
    have hZg := hZ
    have hSg : h 91 R = (S : Int) := hS9
    have hrowg := hrow
    refine zH_go 1 (c' := (35, [some (.inr (.inr (some 2))), some (.inl 1), some (.inl (R : Int)), some (.inr (.inr (some 90))), some (.inl 0), some (.inl 0), some (.inl 0), none, none], [.inl 0], (zs h hl))) rfl ?_
    refine zH_bf (x := 0) (y := 0) (k := .ne) (c1 := (104, [some (.inr (.inr (some 2))), some (.inl 1), some (.inl (R : Int)), some (.inr (.inr (some 90))), some (.inl 0), some (.inl 0), some (.inl 0), none, none], [], (zs h hl))) (c2 := (38, [some (.inr (.inr (some 2))), some (.inl 1), some (.inl (R : Int)), some (.inr (.inr (some 90))), some (.inl 0), some (.inl 0), some (.inl 0), none, none], [], (zs h hl))) rfl ⟨by decide, by decide⟩ ⟨by decide, by decide⟩ (by show ¬ (¬ 0 = 0); decide) ?_
    refine zH_go 3 (c' := (42, [some (.inr (.inr (some 2))), some (.inl 1), some (.inl (R : Int)), some (.inr (.inr (some 90))), some (.inl 0), some (.inl 0), some (.inl 0), none, none], [.inl (R : Int), .inr (.inr (some 90)), .inl 0], (zs h hl))) rfl ?_
    refine zH_call (M' := 4) (as := [.inr (.inr (some 90)), .inl (R : Int)]) (T := [.inl 0]) rfl (p_bSize1 (h := h) ⟨by omega, by omega⟩ hRg hZg) (fun r' σ' pm => ?_)
    obtain ⟨y, hy, rfl, rfl⟩ := pm
    obtain rfl : y = (S : Int) := by rcases hy with ⟨-, e⟩ | ⟨e, -⟩ <;> first | exact e.trans hSg | exact absurd hrowg e
    show zH _ _ (45, [some (.inr (.inr (some 2))), some (.inl 1), some (.inl (R : Int)), some (.inr (.inr (some 90))), some (.inl 0), some (.inl 0), some (.inl 0), none, none], [.inl (S : Int), .inl 0], (zs h hl)) _
    refine zH_br (x := 0) (y := (S : Int)) (k := .ge) (c1 := (104, [some (.inr (.inr (some 2))), some (.inl 1), some (.inl (R : Int)), some (.inr (.inr (some 90))), some (.inl 0), some (.inl 0), some (.inl 0), none, none], [], (zs h hl))) (c2 := (48, [some (.inr (.inr (some 2))), some (.inl 1), some (.inl (R : Int)), some (.inr (.inr (some 90))), some (.inl 0), some (.inl 0), some (.inl 0), none, none], [], (zs h hl))) rfl ⟨by decide, by decide⟩ (by first | assumption | (unfold zr; omega)) (fun (b_1 : ¬ 0 < (S : Int)) => ?_) (fun (b_1 : ¬ (¬ 0 < (S : Int))) => ?_)
    · refine zH_go 4 (c' := (112, [some (.inr (.inr (some 2))), some (.inl 1), some (.inl (R : Int)), some (.inr (.inr (some 90))), some (.inl 0), some (.inl 0), some (.inl 0), none, none], [.inl 0], (zs (zup h 2 8 0) hl))) rfl ?_
      refine zH_ret (v := some (.inl 0)) rfl (fun q => absurd q (by decide)) ?_
      exact Or.inr ⟨R, S, 0, rfl, hx, hS9, rfl, rfl, Or.inl ⟨by omega, rfl⟩⟩
    · refine zH_go 3 (c' := (52, [some (.inr (.inr (some 2))), some (.inl 1), some (.inl (R : Int)), some (.inr (.inr (some 90))), some (.inl 0), some (.inl 0), some (.inl 0), none, none], [.inl 0, .inl (R : Int), .inr (.inr (some 90))], (zs h hl))) rfl ?_
      have hnum : zHasNum h 90 91 (R : Int) 0 := ⟨hrowg, by omega, by rw [Int.toNat_natCast, hSg]; omega, by have := hZg R hR4; omega⟩
      refine zH_call (M' := 9) (as := [.inr (.inr (some 90)), .inl (R : Int), .inl 0]) (T := []) rfl (p_bRead1 (h := h) (hl := hl) ⟨by omega, by omega⟩ ⟨by omega, by omega⟩ hRg hZg) (fun r' σ' pm => ?_)
      obtain ⟨v, hv, rfl, rfl⟩ := pm
      have ev : v = hl (93 + R) 0 := by rcases hv with ⟨-, e⟩ | ⟨e, -⟩ <;> first | exact e.trans rfl | exact absurd hnum e
      have zv : zrl v := by rw [ev]; exact hV R 0 hR4 (by omega)
      show zH _ _ (55, [some (.inr (.inr (some 2))), some (.inl 1), some (.inl (R : Int)), some (.inr (.inr (some 90))), some (.inl 0), some (.inl 0), some (.inl 0), none, none], [.inr (.inl v)], (zs h hl)) _
      refine zH_go 2 (c' := (59, [some (.inr (.inr (some 2))), some (.inl 1), some (.inl (R : Int)), some (.inr (.inr (some 90))), some (.inl 0), some (.inl 0), some (.inl 0), some (.inr (.inl v)), none], [.inr (.inl v)], (zs h hl))) rfl ?_
      refine zH_call (M' := 96) (as := [.inr (.inl v)]) (T := []) rfl (p_fits zv) (fun r σ' p_2 => ?_)
      rcases p_2 with ⟨rfl, b_3, rfl⟩ | ⟨rfl, b_3, rfl⟩
      · show zH _ _ (62, [some (.inr (.inr (some 2))), some (.inl 1), some (.inl (R : Int)), some (.inr (.inr (some 90))), some (.inl 0), some (.inl 0), some (.inl 0), some (.inr (.inl v)), none], [.inl 1], (zs h hl)) _
        refine zH_bf (x := 1) (y := 0) (k := .eq) (c1 := (75, [some (.inr (.inr (some 2))), some (.inl 1), some (.inl (R : Int)), some (.inr (.inr (some 90))), some (.inl 0), some (.inl 0), some (.inl 0), some (.inr (.inl v)), none], [], (zs h hl))) (c2 := (65, [some (.inr (.inr (some 2))), some (.inl 1), some (.inl (R : Int)), some (.inr (.inr (some 90))), some (.inl 0), some (.inl 0), some (.inl 0), some (.inr (.inl v)), none], [], (zs h hl))) rfl ⟨by decide, by decide⟩ ⟨by decide, by decide⟩ (by show ¬ (1 = 0); decide) ?_
        refine zH_go 3 (c' := (69, [some (.inr (.inr (some 2))), some (.inl 1), some (.inl (R : Int)), some (.inr (.inr (some 90))), some (.inl 0), some (.inl 0), some (.inl 0), some (.inr (.inl v)), none], [.inl (Int.bmod v 4294967296), .inr (.inr (some 2))], (zs h hl))) rfl ?_
        rw [zbm_id (show zr v by assumption)]
        refine zH_call (M' := 77) (as := [.inr (.inr (some 2)), .inl v]) (T := []) rfl (p_noCall (show zr v by assumption) h4 hP hon) (fun r' σ' pm => ?_)
        obtain ⟨x, hx, rfl, rfl⟩ := pm
        have hdx : zCDec (h 3 0) (h 21 3) (h 21 4) v x := hx
        have hxr := zCDec_b hdx
        clear hx
        show zH _ _ (72, [some (.inr (.inr (some 2))), some (.inl 1), some (.inl (R : Int)), some (.inr (.inr (some 90))), some (.inl 0), some (.inl 0), some (.inl 0), some (.inr (.inl v)), none], [.inl x], (zs h hl)) _
        refine zH_go 3 (c' := (80, [some (.inr (.inr (some 2))), some (.inl 1), some (.inl (R : Int)), some (.inr (.inr (some 90))), some (.inl x), some (.inl 0), some (.inl 0), some (.inr (.inl v)), none], [.inl x], (zs h hl))) rfl ?_
        refine zH_br (x := x) (y := 0) (k := .ne) (c1 := (98, [some (.inr (.inr (some 2))), some (.inl 1), some (.inl (R : Int)), some (.inr (.inr (some 90))), some (.inl x), some (.inl 0), some (.inl 0), some (.inr (.inl v)), none], [], (zs h hl))) (c2 := (83, [some (.inr (.inr (some 2))), some (.inl 1), some (.inl (R : Int)), some (.inr (.inr (some 90))), some (.inl x), some (.inl 0), some (.inl 0), some (.inr (.inl v)), none], [], (zs h hl))) rfl (by first | assumption | (unfold zr; omega)) ⟨by decide, by decide⟩ (fun (b_4 : ¬ x = 0) => ?_) (fun (b_4 : ¬ (¬ x = 0)) => ?_)
        · refine zH_go 2 (c' := (33, [some (.inr (.inr (some 2))), some (.inl 1), some (.inl (R : Int)), some (.inr (.inr (some 90))), some (.inl x), some (.inl 0), some (.inl 1), some (.inr (.inl v)), none], [], (zs h hl))) rfl ?_
          refine zH_go 1 (c' := (35, [some (.inr (.inr (some 2))), some (.inl 1), some (.inl (R : Int)), some (.inr (.inr (some 90))), some (.inl x), some (.inl 0), some (.inl 1), some (.inr (.inl v)), none], [.inl x], (zs h hl))) rfl ?_
          refine zH_bt (x := x) (y := 0) (k := .ne) (c1 := (104, [some (.inr (.inr (some 2))), some (.inl 1), some (.inl (R : Int)), some (.inr (.inr (some 90))), some (.inl x), some (.inl 0), some (.inl 1), some (.inr (.inl v)), none], [], (zs h hl))) (c2 := (38, [some (.inr (.inr (some 2))), some (.inl 1), some (.inl (R : Int)), some (.inr (.inr (some 90))), some (.inl x), some (.inl 0), some (.inl 1), some (.inr (.inl v)), none], [], (zs h hl))) rfl (by first | assumption | (unfold zr; omega)) ⟨by decide, by decide⟩ (by show ¬ x = 0; omega) ?_
          refine zH_go 4 (c' := (112, [some (.inr (.inr (some 2))), some (.inl 1), some (.inl (R : Int)), some (.inr (.inr (some 90))), some (.inl x), some (.inl 0), some (.inl 1), some (.inr (.inl v)), none], [.inl 0], (zs (zup h 2 8 x) hl))) rfl ?_
          refine zH_ret (v := some (.inl 0)) rfl (fun q => absurd q (by decide)) ?_
          exact Or.inr ⟨R, S, x, rfl, hx, hS9, rfl, rfl, Or.inr ⟨by omega, by assumption, by rw [← ev]; exact hdx⟩⟩
        · obtain rfl : x = 0 := by omega
          have hok := zCDec_0 hdx
          exact absurd hok.2.1 hoff
      · show zH _ _ (62, [some (.inr (.inr (some 2))), some (.inl 1), some (.inl (R : Int)), some (.inr (.inr (some 90))), some (.inl 0), some (.inl 0), some (.inl 0), some (.inr (.inl v)), none], [.inl 0], (zs h hl)) _
        refine zH_bt (x := 0) (y := 0) (k := .eq) (c1 := (75, [some (.inr (.inr (some 2))), some (.inl 1), some (.inl (R : Int)), some (.inr (.inr (some 90))), some (.inl 0), some (.inl 0), some (.inl 0), some (.inr (.inl v)), none], [], (zs h hl))) (c2 := (65, [some (.inr (.inr (some 2))), some (.inl 1), some (.inl (R : Int)), some (.inr (.inr (some 90))), some (.inl 0), some (.inl 0), some (.inl 0), some (.inr (.inl v)), none], [], (zs h hl))) rfl ⟨by decide, by decide⟩ ⟨by decide, by decide⟩ (by show 0 = 0; decide) ?_
        refine zH_go 3 (c' := (80, [some (.inr (.inr (some 2))), some (.inl 1), some (.inl (R : Int)), some (.inr (.inr (some 90))), some (.inl (-1)), some (.inl 0), some (.inl 0), some (.inr (.inl v)), none], [.inl (-1)], (zs h hl))) rfl ?_
        refine zH_bt (x := (-1)) (y := 0) (k := .ne) (c1 := (98, [some (.inr (.inr (some 2))), some (.inl 1), some (.inl (R : Int)), some (.inr (.inr (some 90))), some (.inl (-1)), some (.inl 0), some (.inl 0), some (.inr (.inl v)), none], [], (zs h hl))) (c2 := (83, [some (.inr (.inr (some 2))), some (.inl 1), some (.inl (R : Int)), some (.inr (.inr (some 90))), some (.inl (-1)), some (.inl 0), some (.inl 0), some (.inr (.inl v)), none], [], (zs h hl))) rfl ⟨by decide, by decide⟩ ⟨by decide, by decide⟩ (by show ¬ (-1) = 0; decide) ?_
        refine zH_go 2 (c' := (33, [some (.inr (.inr (some 2))), some (.inl 1), some (.inl (R : Int)), some (.inr (.inr (some 90))), some (.inl (-1)), some (.inl 0), some (.inl 1), some (.inr (.inl v)), none], [], (zs h hl))) rfl ?_
        refine zH_go 1 (c' := (35, [some (.inr (.inr (some 2))), some (.inl 1), some (.inl (R : Int)), some (.inr (.inr (some 90))), some (.inl (-1)), some (.inl 0), some (.inl 1), some (.inr (.inl v)), none], [.inl (-1)], (zs h hl))) rfl ?_
        refine zH_bt (x := (-1)) (y := 0) (k := .ne) (c1 := (104, [some (.inr (.inr (some 2))), some (.inl 1), some (.inl (R : Int)), some (.inr (.inr (some 90))), some (.inl (-1)), some (.inl 0), some (.inl 1), some (.inr (.inl v)), none], [], (zs h hl))) (c2 := (38, [some (.inr (.inr (some 2))), some (.inl 1), some (.inl (R : Int)), some (.inr (.inr (some 90))), some (.inl (-1)), some (.inl 0), some (.inl 1), some (.inr (.inl v)), none], [], (zs h hl))) rfl ⟨by decide, by decide⟩ ⟨by decide, by decide⟩ (by show ¬ (-1) = 0; decide) ?_
        refine zH_go 4 (c' := (112, [some (.inr (.inr (some 2))), some (.inl 1), some (.inl (R : Int)), some (.inr (.inr (some 90))), some (.inl (-1)), some (.inl 0), some (.inl 1), some (.inr (.inl v)), none], [.inl 0], (zs (zup h 2 8 (-1)) hl))) rfl ?_
        refine zH_ret (v := some (.inl 0)) rfl (fun q => absurd q (by decide)) ?_
        exact Or.inr ⟨R, S, -1, rfl, hx, hS9, rfl, rfl, Or.inr ⟨by omega, by decide, by rw [← ev]; exact Or.inl ⟨fun q => (by assumption : ¬ zr v) ⟨by omega, by omega⟩, rfl⟩⟩⟩
  · show zH _ _ (25, [some (.inr (.inr (some 2))), some (.inl 1), some (.inl ri), some (.inr (.inr (some 90))), none, none, none, none, none], [.inl x], (zs h hl)) _
    refine zH_go 5 (c' := (33, [some (.inr (.inr (some 2))), some (.inl 1), some (.inl ri), some (.inr (.inr (some 90))), some (.inl x), some (.inl 0), some (.inl 0), none, none], [], (zs h hl))) rfl ?_
    refine zH_go 1 (c' := (35, [some (.inr (.inr (some 2))), some (.inl 1), some (.inl ri), some (.inr (.inr (some 90))), some (.inl x), some (.inl 0), some (.inl 0), none, none], [.inl x], (zs h hl))) rfl ?_
    refine zH_bt (x := x) (y := 0) (k := .ne) (c1 := (104, [some (.inr (.inr (some 2))), some (.inl 1), some (.inl ri), some (.inr (.inr (some 90))), some (.inl x), some (.inl 0), some (.inl 0), none, none], [], (zs h hl))) (c2 := (38, [some (.inr (.inr (some 2))), some (.inl 1), some (.inl ri), some (.inr (.inr (some 90))), some (.inl x), some (.inl 0), some (.inl 0), none, none], [], (zs h hl))) rfl (by first | assumption | (unfold zr; omega)) ⟨by decide, by decide⟩ (by show ¬ x = 0; omega) ?_
    refine zH_go 4 (c' := (112, [some (.inr (.inr (some 2))), some (.inl 1), some (.inl ri), some (.inr (.inr (some 90))), some (.inl x), some (.inl 0), some (.inl 0), none, none], [.inl 0], (zs (zup h 2 8 x) hl))) rfl ?_
    refine zH_ret (v := some (.inl 0)) rfl (fun q => absurd q (by decide)) ?_
    exact Or.inl ⟨x, hx0, hx, rfl, rfl⟩
set_option maxRecDepth 100000 in
set_option maxHeartbeats 1000000 in
theorem p_callsN2 {d : Nat} {h hl : Nat → Nat → Int} {ri : Int} (hr : zr ri) {p r : Nat} (hW : zTown h p r) (hR : -1 ≤ h 97 1 ∧ h 97 1 ≤ 4) (hZ : ∀ q : Nat, q < 4 → -1 ≤ h 98 q ∧ h 98 q ≤ 8) (hV : ∀ q i : Nat, q < 4 → i < 8 → zrl (hl (100 + q) i)) {L B n : Nat} {K : Int} {s0 : zDS} (hD0 : zDc h hl p L B n s0) (hn12 : n ≤ 12) (hK7 : h 2 7 = K) (hK : 0 ≤ K ∧ K ≤ 3) : zQ (d + 7) 91 [.inr (.inr (some 2)), .inl 2, .inl ri] (zs h hl) (fun r' σ' => (∃ x : Int, ¬ x = 0 ∧ zWhy h 97 98 ri x ∧ r' = some (.inl 0) ∧ σ' = zs (zup h 2 8 x) hl) ∨ ∃ (R S J : Nat) (x : Int) (s : zDS) (g gl : Nat → Nat → Int), ri = (R : Int) ∧ zWhy h 97 98 (R : Int) 0 ∧ h 98 R = (S : Int) ∧ r' = some (.inl (J : Int)) ∧ σ' = zs (zup g 2 8 x) gl ∧ zDc g gl p L B (n + J) s ∧ zCh h L B K (fun q => Int.toNat (hl (100 + R) q)) n s0 J s ∧ (∀ c : Nat, c < 21 ∨ 47 < c → g c = h c) ∧ (∀ c : Nat, c ≠ 81 → gl c = hl c) ∧ (∀ q : Nat, q < J → zCDec (h 3 0) (h 21 3) (((n + q : Nat) : Int)) (hl (100 + R) q) 0) ∧ ((J = S ∧ x = 0) ∨ (J < S ∧ ¬ x = 0 ∧ zCDec (h 3 0) (h 21 3) (((n + J : Nat) : Int)) (hl (100 + R) J) x))) := by
  have hWc := hW
  obtain ⟨hp6, hr15, h30, h31, hp3, hr4, hMe, hTB, hCn, hPo, hRd, hLk, hGr⟩ := hWc
  have hP : 0 ≤ h 3 0 ∧ h 3 0 ≤ 6 := by omega
  have hL9 : h 21 3 = (L : Int) := hD0.1.2.2.2.1
  have hL3 := hD0.1.1.1
  refine zQ_of (Nat.le_of_ble_eq_true rfl) ?_
  show zH (d + 6) 91 (0, [some (.inr (.inr (some 2))), some (.inl 2), some (.inl ri), none, none, none, none, none, none], [], (zs h hl)) _
  refine zH_go 1 (c' := (1, [some (.inr (.inr (some 2))), some (.inl 2), some (.inl ri), none, none, none, none, none, none], [.inl 2], (zs h hl))) rfl ?_
  refine zH_call (M' := 92) (as := [.inl 2]) (T := []) rfl (p_isBook ⟨by decide, by decide⟩) (fun r' σ' pm => ?_)
  obtain ⟨rfl, rfl⟩ : r' = some (.inl 1) ∧ σ' = _ := by rcases pm with ⟨a, -, b⟩ | ⟨-, b, -⟩ <;> first | exact ⟨a, b⟩ | (exfalso; omega)
  show zH _ _ (4, [some (.inr (.inr (some 2))), some (.inl 2), some (.inl ri), none, none, none, none, none, none], [.inl 1], (zs h hl)) _
  refine zH_bt (x := 1) (y := 0) (k := .ne) (c1 := (13, [some (.inr (.inr (some 2))), some (.inl 2), some (.inl ri), none, none, none, none, none, none], [], (zs h hl))) (c2 := (7, [some (.inr (.inr (some 2))), some (.inl 2), some (.inl ri), none, none, none, none, none, none], [], (zs h hl))) rfl ⟨by decide, by decide⟩ ⟨by decide, by decide⟩ (by show ¬ 1 = 0; decide) ?_
  refine zH_go 3 (c' := (18, [some (.inr (.inr (some 2))), some (.inl 2), some (.inl ri), none, none, none, none, none, none], [.inl 2, .inr (.inr (some 82))], (zs h hl))) rfl ?_
  refine zH_np (P := 0 ≤ 2 ∧ 2 < ((3 : Nat) : Int)) (c' := (19, [some (.inr (.inr (some 2))), some (.inl 2), some (.inl ri), none, none, none, none, none, none], [.inr (.inr (some 97))], (zs h hl))) rfl ⟨by decide, by decide⟩ ?_
  refine zH_go 3 (c' := (22, [some (.inr (.inr (some 2))), some (.inl 2), some (.inl ri), some (.inr (.inr (some 97))), none, none, none, none, none], [.inl ri, .inr (.inr (some 97))], (zs h hl))) rfl ?_
  refine zH_call (M' := 5) (as := [.inr (.inr (some 97)), .inl ri]) (T := []) rfl (p_bWhy2 hr hR hZ) (fun r' σ' pm => ?_)
  obtain ⟨x, hx, rfl, rfl⟩ := pm
  have hxr := zWhy_b hx
  by_cases hx0 : x = 0
  · subst hx0
    obtain ⟨hrow, hsz⟩ := zWhy_0 hx
    obtain ⟨R, rfl⟩ := Int.eq_ofNat_of_zero_le hrow.1
    rw [Int.toNat_natCast] at hsz
    have hR4 : R < 4 := by have := hrow.2.2; omega
    have hZR := hZ R hR4
    obtain ⟨S, hS9⟩ := Int.eq_ofNat_of_zero_le hsz
    show zH _ _ (25, [some (.inr (.inr (some 2))), some (.inl 2), some (.inl (R : Int)), some (.inr (.inr (some 97))), none, none, none, none, none], [.inl 0], (zs h hl)) _
    refine zH_go 5 (c' := (33, [some (.inr (.inr (some 2))), some (.inl 2), some (.inl (R : Int)), some (.inr (.inr (some 97))), some (.inl 0), some (.inl 0), some (.inl 0), none, none], [], (zs h hl))) rfl ?_
    refine zH_lp (X := (Nat → Nat → Int) × (Nat → Nat → Int) × zDS × (Option zV) × (Option zV)) (F := fun (kq : Nat) (x : (Nat → Nat → Int) × (Nat → Nat → Int) × zDS × (Option zV) × (Option zV)) => (33, [some (.inr (.inr (some 2))), some (.inl 2), some (.inl (R : Int)), some (.inr (.inr (some 97))), some (.inl 0), some (.inl (kq : Int)), some (.inl (kq : Int)), x.2.2.2.1, x.2.2.2.2], [], (zs x.1 x.2.1))) (I := fun (kq : Nat) (x : (Nat → Nat → Int) × (Nat → Nat → Int) × zDS × (Option zV) × (Option zV)) => zDc x.1 x.2.1 p L B (n + kq) x.2.2.1 ∧ zCh h L B K (fun q => Int.toNat (hl (100 + R) q)) n s0 kq x.2.2.1 ∧ (∀ c : Nat, c < 21 ∨ 47 < c → x.1 c = h c) ∧ (∀ c : Nat, c ≠ 81 → x.2.1 c = hl c) ∧ ∀ q : Nat, q < kq → zCDec (h 3 0) (h 21 3) (((n + q : Nat) : Int)) (hl (100 + R) q) 0) (N := S) (fun k x hk hI ih => ?_) (fun x hI => ?_) 0 (h, hl, s0, none, none) (by omega) ?_
    · obtain ⟨g, gl, s, x7, x8⟩ := x
      replace hI : zDc g gl p L B (n + k) s ∧ zCh h L B K (fun q => Int.toNat (hl (100 + R) q)) n s0 k s ∧ (∀ c : Nat, c < 21 ∨ 47 < c → g c = h c) ∧ (∀ c : Nat, c ≠ 81 → gl c = hl c) ∧ ∀ q : Nat, q < k → zCDec (h 3 0) (h 21 3) (((n + q : Nat) : Int)) (hl (100 + R) q) 0 := hI
      show zH _ _ (33, [some (.inr (.inr (some 2))), some (.inl 2), some (.inl (R : Int)), some (.inr (.inr (some 97))), some (.inl 0), some (.inl (k : Int)), some (.inl (k : Int)), x7, x8], [], (zs g gl)) _
      have hRg : -1 ≤ g 97 1 ∧ g 97 1 ≤ 4 := by rw [hI.2.2.1 97 (by decide)]; exact hR
      have hZg : ∀ q : Nat, q < 4 → -1 ≤ g 98 q ∧ g 98 q ≤ 8 := by rw [hI.2.2.1 98 (by decide)]; exact hZ
      have hSg : g 98 R = (S : Int) := by rw [hI.2.2.1 98 (by decide)]; exact hS9
      have hrowg : zHasRow g 97 (R : Int) := by unfold zHasRow; rw [hI.2.2.1 97 (by decide)]; exact hrow
      have g213 : g 21 3 = (L : Int) := hI.1.1.2.2.2.1
      have g214 : g 21 4 = ((n + k : Nat) : Int) := hI.1.1.2.2.2.2.1
      have g30 : g 3 0 = (p : Int) := by rw [hI.2.2.1 3 (by decide)]; exact h30
      have hnk12 : n + k ≤ 12 := by
        rcases (show k = 0 ∨ 0 < k by omega) with q | q
        · omega
        · have := zCDec_0 (hI.2.2.2.2 (k - 1) (by omega)); omega
      refine zH_go 1 (c' := (35, [some (.inr (.inr (some 2))), some (.inl 2), some (.inl (R : Int)), some (.inr (.inr (some 97))), some (.inl 0), some (.inl (k : Int)), some (.inl (k : Int)), x7, x8], [.inl 0], (zs g gl))) rfl ?_
      refine zH_bf (x := 0) (y := 0) (k := .ne) (c1 := (104, [some (.inr (.inr (some 2))), some (.inl 2), some (.inl (R : Int)), some (.inr (.inr (some 97))), some (.inl 0), some (.inl (k : Int)), some (.inl (k : Int)), x7, x8], [], (zs g gl))) (c2 := (38, [some (.inr (.inr (some 2))), some (.inl 2), some (.inl (R : Int)), some (.inr (.inr (some 97))), some (.inl 0), some (.inl (k : Int)), some (.inl (k : Int)), x7, x8], [], (zs g gl))) rfl ⟨by decide, by decide⟩ ⟨by decide, by decide⟩ (by show ¬ (¬ 0 = 0); decide) ?_
      refine zH_go 3 (c' := (42, [some (.inr (.inr (some 2))), some (.inl 2), some (.inl (R : Int)), some (.inr (.inr (some 97))), some (.inl 0), some (.inl (k : Int)), some (.inl (k : Int)), x7, x8], [.inl (R : Int), .inr (.inr (some 97)), .inl (k : Int)], (zs g gl))) rfl ?_
      refine zH_call (M' := 4) (as := [.inr (.inr (some 97)), .inl (R : Int)]) (T := [.inl (k : Int)]) rfl (p_bSize2 (h := g) ⟨by omega, by omega⟩ hRg hZg) (fun r' σ' pm => ?_)
      obtain ⟨y, hy, rfl, rfl⟩ := pm
      obtain rfl : y = (S : Int) := by rcases hy with ⟨-, e⟩ | ⟨e, -⟩ <;> first | exact e.trans hSg | exact absurd hrowg e
      show zH _ _ (45, [some (.inr (.inr (some 2))), some (.inl 2), some (.inl (R : Int)), some (.inr (.inr (some 97))), some (.inl 0), some (.inl (k : Int)), some (.inl (k : Int)), x7, x8], [.inl (S : Int), .inl (k : Int)], (zs g gl)) _
      refine zH_bf (x := (k : Int)) (y := (S : Int)) (k := .ge) (c1 := (104, [some (.inr (.inr (some 2))), some (.inl 2), some (.inl (R : Int)), some (.inr (.inr (some 97))), some (.inl 0), some (.inl (k : Int)), some (.inl (k : Int)), x7, x8], [], (zs g gl))) (c2 := (48, [some (.inr (.inr (some 2))), some (.inl 2), some (.inl (R : Int)), some (.inr (.inr (some 97))), some (.inl 0), some (.inl (k : Int)), some (.inl (k : Int)), x7, x8], [], (zs g gl))) rfl (by first | assumption | (unfold zr; omega)) (by first | assumption | (unfold zr; omega)) (by show ¬ (¬ (k : Int) < (S : Int)); omega) ?_
      refine zH_go 3 (c' := (52, [some (.inr (.inr (some 2))), some (.inl 2), some (.inl (R : Int)), some (.inr (.inr (some 97))), some (.inl 0), some (.inl (k : Int)), some (.inl (k : Int)), x7, x8], [.inl (k : Int), .inl (R : Int), .inr (.inr (some 97))], (zs g gl))) rfl ?_
      have hnum : zHasNum g 97 98 (R : Int) (k : Int) := ⟨hrowg, by omega, by rw [Int.toNat_natCast, hSg]; omega, by have := hZg R hR4; omega⟩
      refine zH_call (M' := 9) (as := [.inr (.inr (some 97)), .inl (R : Int), .inl (k : Int)]) (T := []) rfl (p_bRead2 (h := g) (hl := gl) ⟨by omega, by omega⟩ ⟨by omega, by omega⟩ hRg hZg) (fun r' σ' pm => ?_)
      obtain ⟨v, hv, rfl, rfl⟩ := pm
      have ev : v = hl (100 + R) k := by rcases hv with ⟨-, e⟩ | ⟨e, -⟩ <;> first | exact e.trans (congrFun (hI.2.2.2.1 (100 + R) (by omega)) k) | exact absurd hnum e
      have zv : zrl v := by rw [ev]; exact hV R k hR4 (by omega)
      show zH _ _ (55, [some (.inr (.inr (some 2))), some (.inl 2), some (.inl (R : Int)), some (.inr (.inr (some 97))), some (.inl 0), some (.inl (k : Int)), some (.inl (k : Int)), x7, x8], [.inr (.inl v)], (zs g gl)) _
      refine zH_go 2 (c' := (59, [some (.inr (.inr (some 2))), some (.inl 2), some (.inl (R : Int)), some (.inr (.inr (some 97))), some (.inl 0), some (.inl (k : Int)), some (.inl (k : Int)), some (.inr (.inl v)), none], [.inr (.inl v)], (zs g gl))) rfl ?_
      refine zH_call (M' := 96) (as := [.inr (.inl v)]) (T := []) rfl (p_fits zv) (fun r σ' p_1 => ?_)
      rcases p_1 with ⟨rfl, b_2, rfl⟩ | ⟨rfl, b_2, rfl⟩
      · show zH _ _ (62, [some (.inr (.inr (some 2))), some (.inl 2), some (.inl (R : Int)), some (.inr (.inr (some 97))), some (.inl 0), some (.inl (k : Int)), some (.inl (k : Int)), some (.inr (.inl v)), none], [.inl 1], (zs g gl)) _
        refine zH_bf (x := 1) (y := 0) (k := .eq) (c1 := (75, [some (.inr (.inr (some 2))), some (.inl 2), some (.inl (R : Int)), some (.inr (.inr (some 97))), some (.inl 0), some (.inl (k : Int)), some (.inl (k : Int)), some (.inr (.inl v)), none], [], (zs g gl))) (c2 := (65, [some (.inr (.inr (some 2))), some (.inl 2), some (.inl (R : Int)), some (.inr (.inr (some 97))), some (.inl 0), some (.inl (k : Int)), some (.inl (k : Int)), some (.inr (.inl v)), none], [], (zs g gl))) rfl ⟨by decide, by decide⟩ ⟨by decide, by decide⟩ (by show ¬ (1 = 0); decide) ?_
        refine zH_go 3 (c' := (69, [some (.inr (.inr (some 2))), some (.inl 2), some (.inl (R : Int)), some (.inr (.inr (some 97))), some (.inl 0), some (.inl (k : Int)), some (.inl (k : Int)), some (.inr (.inl v)), none], [.inl (Int.bmod v 4294967296), .inr (.inr (some 2))], (zs g gl))) rfl ?_
        rw [zbm_id (show zr v by assumption)]
        refine zH_call (M' := 77) (as := [.inr (.inr (some 2)), .inl v]) (T := []) rfl (p_noCall (show zr v by assumption) (by omega) (by omega) (by rw [g213]; exact ⟨by omega, by omega⟩)) (fun r' σ' pm => ?_)
        obtain ⟨x, hx, rfl, rfl⟩ := pm
        have hdx : zCDec (h 3 0) (h 21 3) ((n + k : Nat) : Int) v x := by have q : zCDec (g 3 0) (g 21 3) (g 21 4) v x := hx; rw [g30, g213, g214] at q; rw [hL9]; rw [← h30] at q; exact q
        have hxr := zCDec_b hdx
        clear hx
        show zH _ _ (72, [some (.inr (.inr (some 2))), some (.inl 2), some (.inl (R : Int)), some (.inr (.inr (some 97))), some (.inl 0), some (.inl (k : Int)), some (.inl (k : Int)), some (.inr (.inl v)), none], [.inl x], (zs g gl)) _
        refine zH_go 3 (c' := (80, [some (.inr (.inr (some 2))), some (.inl 2), some (.inl (R : Int)), some (.inr (.inr (some 97))), some (.inl x), some (.inl (k : Int)), some (.inl (k : Int)), some (.inr (.inl v)), none], [.inl x], (zs g gl))) rfl ?_
        refine zH_br (x := x) (y := 0) (k := .ne) (c1 := (98, [some (.inr (.inr (some 2))), some (.inl 2), some (.inl (R : Int)), some (.inr (.inr (some 97))), some (.inl x), some (.inl (k : Int)), some (.inl (k : Int)), some (.inr (.inl v)), none], [], (zs g gl))) (c2 := (83, [some (.inr (.inr (some 2))), some (.inl 2), some (.inl (R : Int)), some (.inr (.inr (some 97))), some (.inl x), some (.inl (k : Int)), some (.inl (k : Int)), some (.inr (.inl v)), none], [], (zs g gl))) rfl (by first | assumption | (unfold zr; omega)) ⟨by decide, by decide⟩ (fun (b_3 : ¬ x = 0) => ?_) (fun (b_3 : ¬ (¬ x = 0)) => ?_)
        · refine zH_go 2 (c' := (33, [some (.inr (.inr (some 2))), some (.inl 2), some (.inl (R : Int)), some (.inr (.inr (some 97))), some (.inl x), some (.inl (k : Int)), some (.inl ((k : Int) + 1)), some (.inr (.inl v)), none], [], (zs g gl))) rfl ?_
          refine zH_go 1 (c' := (35, [some (.inr (.inr (some 2))), some (.inl 2), some (.inl (R : Int)), some (.inr (.inr (some 97))), some (.inl x), some (.inl (k : Int)), some (.inl ((k : Int) + 1)), some (.inr (.inl v)), none], [.inl x], (zs g gl))) rfl ?_
          refine zH_bt (x := x) (y := 0) (k := .ne) (c1 := (104, [some (.inr (.inr (some 2))), some (.inl 2), some (.inl (R : Int)), some (.inr (.inr (some 97))), some (.inl x), some (.inl (k : Int)), some (.inl ((k : Int) + 1)), some (.inr (.inl v)), none], [], (zs g gl))) (c2 := (38, [some (.inr (.inr (some 2))), some (.inl 2), some (.inl (R : Int)), some (.inr (.inr (some 97))), some (.inl x), some (.inl (k : Int)), some (.inl ((k : Int) + 1)), some (.inr (.inl v)), none], [], (zs g gl))) rfl (by first | assumption | (unfold zr; omega)) ⟨by decide, by decide⟩ (by show ¬ x = 0; omega) ?_
          refine zH_go 4 (c' := (112, [some (.inr (.inr (some 2))), some (.inl 2), some (.inl (R : Int)), some (.inr (.inr (some 97))), some (.inl x), some (.inl (k : Int)), some (.inl ((k : Int) + 1)), some (.inr (.inl v)), none], [.inl (k : Int)], (zs (zup g 2 8 x) gl))) rfl ?_
          refine zH_ret (v := some (.inl (k : Int))) rfl (fun q => absurd q (by decide)) ?_
          exact Or.inr ⟨R, S, k, x, s, g, gl, rfl, hx, hS9, rfl, rfl, hI.1, hI.2.1, hI.2.2.1, hI.2.2.2.1, hI.2.2.2.2, Or.inr ⟨hk, by assumption, by rw [← ev]; exact hdx⟩⟩
        · obtain rfl : x = 0 := by omega
          have hok := zCDec_0 hdx
          obtain ⟨u, hu⟩ := Int.eq_ofNat_of_zero_le hok.1.1
          have hup : u < p := by omega
          refine zH_go 5 (c' := (91, [some (.inr (.inr (some 2))), some (.inl 2), some (.inl (R : Int)), some (.inr (.inr (some 97))), some (.inl 0), some (.inl (k : Int)), some (.inl (k : Int)), some (.inr (.inl v)), none], [.inl (Int.bmod v 4294967296), .inr (.inr (some 21)), .inr (.inr (some 2))], (zs g gl))) rfl ?_
          rw [zbm_id (show zr v by assumption), hu]
          refine zH_call (M' := 78) (as := [.inr (.inr (some 2)), .inr (.inr (some 21)), .inl (u : Int)]) (T := []) rfl (p_serveD (h := g) (n := n + k) (pp := u) (K := K) hI.1.1 (by omega) hup (by rw [hI.2.2.1 2 (by decide)]; exact hK7) hK) (fun r' σ' pm => ?_)
          obtain ⟨l, tr, g', gl', hl2, rfl, rfl, hs1, hs2⟩ := pm
          obtain ⟨hp1, hp2⟩ := zDc_serve hI.1 hl2 hup hs1 hs2
          have hDb := zDc_b hI.1
          have hcs : ∀ c : Nat, 12 ≤ c → c < 20 → g c = h c := fun c c1 c2 => hI.2.2.1 c (by omega)
          have hp3 := zPkS_same hcs hL3.2 hDb.1 (by omega) (fun j hj => by have := hDb.2 j hj; omega) hp1
          rw [zUp_same hcs (hDb.1 l (by omega))] at hp2
          show zH _ _ (94, [some (.inr (.inr (some 2))), some (.inl 2), some (.inl (R : Int)), some (.inr (.inr (some 97))), some (.inl 0), some (.inl (k : Int)), some (.inl (k : Int)), some (.inr (.inl (u : Int))), none], [.inl (l : Int)], (zs g' gl')) _
          refine zH_go 4 (c' := (33, [some (.inr (.inr (some 2))), some (.inl 2), some (.inl (R : Int)), some (.inr (.inr (some 97))), some (.inl 0), some (.inl ((k : Int) + 1)), some (.inl ((k : Int) + 1)), some (.inr (.inl (u : Int))), none], [], (zs g' gl'))) rfl ?_
          refine ih (g', gl', (zUp h K (n + k) u l tr s), (some (.inr (.inl (u : Int)))), none) ?_
          show zDc g' gl' p L B (n + (k + 1)) (zUp h K (n + k) u l tr s) ∧ zCh h L B K (fun q => Int.toNat (hl (100 + R) q)) n s0 (k + 1) (zUp h K (n + k) u l tr s) ∧ (∀ c : Nat, c < 21 ∨ 47 < c → g' c = h c) ∧ (∀ c : Nat, c ≠ 81 → gl' c = hl c) ∧ ∀ q : Nat, q < (k + 1) → zCDec (h 3 0) (h 21 3) (((n + q : Nat) : Int)) (hl (100 + R) q) 0
          have eP : Int.toNat (hl (100 + R) k) = u := by rw [← ev, hu, Int.toNat_natCast]
          refine ⟨hp2, ⟨s, l, tr, hI.2.1, ?_, ?_⟩, fun c hc => by rw [hs1.2.2.1 c hc]; exact hI.2.2.1 c hc, fun c hc => ?_, fun q hq => ?_⟩
          · show zPkS h L B K (n + k) (Int.toNat (hl (100 + R) k)) s l tr
            rw [eP]; exact hp3
          · show _ = zUp h K (n + k) (Int.toNat (hl (100 + R) k)) l tr s
            rw [eP]
          · rw [hs1.2.1]; funext q; rw [zup_ne hc]; exact congrFun (hI.2.2.2.1 c hc) q
          · by_cases w : q = k
            · rw [w, ← ev]; exact hdx
            · exact hI.2.2.2.2 q (by omega)
      · show zH _ _ (62, [some (.inr (.inr (some 2))), some (.inl 2), some (.inl (R : Int)), some (.inr (.inr (some 97))), some (.inl 0), some (.inl (k : Int)), some (.inl (k : Int)), some (.inr (.inl v)), none], [.inl 0], (zs g gl)) _
        refine zH_bt (x := 0) (y := 0) (k := .eq) (c1 := (75, [some (.inr (.inr (some 2))), some (.inl 2), some (.inl (R : Int)), some (.inr (.inr (some 97))), some (.inl 0), some (.inl (k : Int)), some (.inl (k : Int)), some (.inr (.inl v)), none], [], (zs g gl))) (c2 := (65, [some (.inr (.inr (some 2))), some (.inl 2), some (.inl (R : Int)), some (.inr (.inr (some 97))), some (.inl 0), some (.inl (k : Int)), some (.inl (k : Int)), some (.inr (.inl v)), none], [], (zs g gl))) rfl ⟨by decide, by decide⟩ ⟨by decide, by decide⟩ (by show 0 = 0; decide) ?_
        refine zH_go 3 (c' := (80, [some (.inr (.inr (some 2))), some (.inl 2), some (.inl (R : Int)), some (.inr (.inr (some 97))), some (.inl (-1)), some (.inl (k : Int)), some (.inl (k : Int)), some (.inr (.inl v)), none], [.inl (-1)], (zs g gl))) rfl ?_
        refine zH_bt (x := (-1)) (y := 0) (k := .ne) (c1 := (98, [some (.inr (.inr (some 2))), some (.inl 2), some (.inl (R : Int)), some (.inr (.inr (some 97))), some (.inl (-1)), some (.inl (k : Int)), some (.inl (k : Int)), some (.inr (.inl v)), none], [], (zs g gl))) (c2 := (83, [some (.inr (.inr (some 2))), some (.inl 2), some (.inl (R : Int)), some (.inr (.inr (some 97))), some (.inl (-1)), some (.inl (k : Int)), some (.inl (k : Int)), some (.inr (.inl v)), none], [], (zs g gl))) rfl ⟨by decide, by decide⟩ ⟨by decide, by decide⟩ (by show ¬ (-1) = 0; decide) ?_
        refine zH_go 2 (c' := (33, [some (.inr (.inr (some 2))), some (.inl 2), some (.inl (R : Int)), some (.inr (.inr (some 97))), some (.inl (-1)), some (.inl (k : Int)), some (.inl ((k : Int) + 1)), some (.inr (.inl v)), none], [], (zs g gl))) rfl ?_
        refine zH_go 1 (c' := (35, [some (.inr (.inr (some 2))), some (.inl 2), some (.inl (R : Int)), some (.inr (.inr (some 97))), some (.inl (-1)), some (.inl (k : Int)), some (.inl ((k : Int) + 1)), some (.inr (.inl v)), none], [.inl (-1)], (zs g gl))) rfl ?_
        refine zH_bt (x := (-1)) (y := 0) (k := .ne) (c1 := (104, [some (.inr (.inr (some 2))), some (.inl 2), some (.inl (R : Int)), some (.inr (.inr (some 97))), some (.inl (-1)), some (.inl (k : Int)), some (.inl ((k : Int) + 1)), some (.inr (.inl v)), none], [], (zs g gl))) (c2 := (38, [some (.inr (.inr (some 2))), some (.inl 2), some (.inl (R : Int)), some (.inr (.inr (some 97))), some (.inl (-1)), some (.inl (k : Int)), some (.inl ((k : Int) + 1)), some (.inr (.inl v)), none], [], (zs g gl))) rfl ⟨by decide, by decide⟩ ⟨by decide, by decide⟩ (by show ¬ (-1) = 0; decide) ?_
        refine zH_go 4 (c' := (112, [some (.inr (.inr (some 2))), some (.inl 2), some (.inl (R : Int)), some (.inr (.inr (some 97))), some (.inl (-1)), some (.inl (k : Int)), some (.inl ((k : Int) + 1)), some (.inr (.inl v)), none], [.inl (k : Int)], (zs (zup g 2 8 (-1)) gl))) rfl ?_
        refine zH_ret (v := some (.inl (k : Int))) rfl (fun q => absurd q (by decide)) ?_
        exact Or.inr ⟨R, S, k, -1, s, g, gl, rfl, hx, hS9, rfl, rfl, hI.1, hI.2.1, hI.2.2.1, hI.2.2.2.1, hI.2.2.2.2, Or.inr ⟨hk, by decide, by rw [← ev]; exact Or.inl ⟨fun q => (by assumption : ¬ zr v) ⟨by omega, by omega⟩, rfl⟩⟩⟩
    · obtain ⟨g, gl, s, x7, x8⟩ := x
      replace hI : zDc g gl p L B (n + S) s ∧ zCh h L B K (fun q => Int.toNat (hl (100 + R) q)) n s0 S s ∧ (∀ c : Nat, c < 21 ∨ 47 < c → g c = h c) ∧ (∀ c : Nat, c ≠ 81 → gl c = hl c) ∧ ∀ q : Nat, q < S → zCDec (h 3 0) (h 21 3) (((n + q : Nat) : Int)) (hl (100 + R) q) 0 := hI
      show zH _ _ (33, [some (.inr (.inr (some 2))), some (.inl 2), some (.inl (R : Int)), some (.inr (.inr (some 97))), some (.inl 0), some (.inl (S : Int)), some (.inl (S : Int)), x7, x8], [], (zs g gl)) _
      have hRg : -1 ≤ g 97 1 ∧ g 97 1 ≤ 4 := by rw [hI.2.2.1 97 (by decide)]; exact hR
      have hZg : ∀ q : Nat, q < 4 → -1 ≤ g 98 q ∧ g 98 q ≤ 8 := by rw [hI.2.2.1 98 (by decide)]; exact hZ
      have hSg : g 98 R = (S : Int) := by rw [hI.2.2.1 98 (by decide)]; exact hS9
      have hrowg : zHasRow g 97 (R : Int) := by unfold zHasRow; rw [hI.2.2.1 97 (by decide)]; exact hrow
      have g213 : g 21 3 = (L : Int) := hI.1.1.2.2.2.1
      refine zH_go 1 (c' := (35, [some (.inr (.inr (some 2))), some (.inl 2), some (.inl (R : Int)), some (.inr (.inr (some 97))), some (.inl 0), some (.inl (S : Int)), some (.inl (S : Int)), x7, x8], [.inl 0], (zs g gl))) rfl ?_
      refine zH_bf (x := 0) (y := 0) (k := .ne) (c1 := (104, [some (.inr (.inr (some 2))), some (.inl 2), some (.inl (R : Int)), some (.inr (.inr (some 97))), some (.inl 0), some (.inl (S : Int)), some (.inl (S : Int)), x7, x8], [], (zs g gl))) (c2 := (38, [some (.inr (.inr (some 2))), some (.inl 2), some (.inl (R : Int)), some (.inr (.inr (some 97))), some (.inl 0), some (.inl (S : Int)), some (.inl (S : Int)), x7, x8], [], (zs g gl))) rfl ⟨by decide, by decide⟩ ⟨by decide, by decide⟩ (by show ¬ (¬ 0 = 0); decide) ?_
      refine zH_go 3 (c' := (42, [some (.inr (.inr (some 2))), some (.inl 2), some (.inl (R : Int)), some (.inr (.inr (some 97))), some (.inl 0), some (.inl (S : Int)), some (.inl (S : Int)), x7, x8], [.inl (R : Int), .inr (.inr (some 97)), .inl (S : Int)], (zs g gl))) rfl ?_
      refine zH_call (M' := 4) (as := [.inr (.inr (some 97)), .inl (R : Int)]) (T := [.inl (S : Int)]) rfl (p_bSize2 (h := g) ⟨by omega, by omega⟩ hRg hZg) (fun r' σ' pm => ?_)
      obtain ⟨y, hy, rfl, rfl⟩ := pm
      obtain rfl : y = (S : Int) := by rcases hy with ⟨-, e⟩ | ⟨e, -⟩ <;> first | exact e.trans hSg | exact absurd hrowg e
      show zH _ _ (45, [some (.inr (.inr (some 2))), some (.inl 2), some (.inl (R : Int)), some (.inr (.inr (some 97))), some (.inl 0), some (.inl (S : Int)), some (.inl (S : Int)), x7, x8], [.inl (S : Int), .inl (S : Int)], (zs g gl)) _
      refine zH_bt (x := (S : Int)) (y := (S : Int)) (k := .ge) (c1 := (104, [some (.inr (.inr (some 2))), some (.inl 2), some (.inl (R : Int)), some (.inr (.inr (some 97))), some (.inl 0), some (.inl (S : Int)), some (.inl (S : Int)), x7, x8], [], (zs g gl))) (c2 := (48, [some (.inr (.inr (some 2))), some (.inl 2), some (.inl (R : Int)), some (.inr (.inr (some 97))), some (.inl 0), some (.inl (S : Int)), some (.inl (S : Int)), x7, x8], [], (zs g gl))) rfl (by first | assumption | (unfold zr; omega)) (by first | assumption | (unfold zr; omega)) (by show ¬ (S : Int) < (S : Int); omega) ?_
      refine zH_go 4 (c' := (112, [some (.inr (.inr (some 2))), some (.inl 2), some (.inl (R : Int)), some (.inr (.inr (some 97))), some (.inl 0), some (.inl (S : Int)), some (.inl (S : Int)), x7, x8], [.inl (S : Int)], (zs (zup g 2 8 0) gl))) rfl ?_
      refine zH_ret (v := some (.inl (S : Int))) rfl (fun q => absurd q (by decide)) ?_
      exact Or.inr ⟨R, S, S, 0, s, g, gl, rfl, hx, hS9, rfl, rfl, hI.1, hI.2.1, hI.2.2.1, hI.2.2.2.1, hI.2.2.2.2, Or.inl ⟨rfl, rfl⟩⟩
    · show zDc h hl p L B (n + 0) s0 ∧ zCh h L B K (fun q => Int.toNat (hl (100 + R) q)) n s0 0 s0 ∧ (∀ c : Nat, c < 21 ∨ 47 < c → h c = h c) ∧ (∀ c : Nat, c ≠ 81 → hl c = hl c) ∧ ∀ q : Nat, q < 0 → zCDec (h 3 0) (h 21 3) (((n + q : Nat) : Int)) (hl (100 + R) q) 0
      exact ⟨hD0, rfl, fun c hc => rfl, fun c hc => rfl, fun q hq => absurd hq (Nat.not_lt_zero q)⟩
  · show zH _ _ (25, [some (.inr (.inr (some 2))), some (.inl 2), some (.inl ri), some (.inr (.inr (some 97))), none, none, none, none, none], [.inl x], (zs h hl)) _
    refine zH_go 5 (c' := (33, [some (.inr (.inr (some 2))), some (.inl 2), some (.inl ri), some (.inr (.inr (some 97))), some (.inl x), some (.inl 0), some (.inl 0), none, none], [], (zs h hl))) rfl ?_
    refine zH_go 1 (c' := (35, [some (.inr (.inr (some 2))), some (.inl 2), some (.inl ri), some (.inr (.inr (some 97))), some (.inl x), some (.inl 0), some (.inl 0), none, none], [.inl x], (zs h hl))) rfl ?_
    refine zH_bt (x := x) (y := 0) (k := .ne) (c1 := (104, [some (.inr (.inr (some 2))), some (.inl 2), some (.inl ri), some (.inr (.inr (some 97))), some (.inl x), some (.inl 0), some (.inl 0), none, none], [], (zs h hl))) (c2 := (38, [some (.inr (.inr (some 2))), some (.inl 2), some (.inl ri), some (.inr (.inr (some 97))), some (.inl x), some (.inl 0), some (.inl 0), none, none], [], (zs h hl))) rfl (by first | assumption | (unfold zr; omega)) ⟨by decide, by decide⟩ (by show ¬ x = 0; omega) ?_
    refine zH_go 4 (c' := (112, [some (.inr (.inr (some 2))), some (.inl 2), some (.inl ri), some (.inr (.inr (some 97))), some (.inl x), some (.inl 0), some (.inl 0), none, none], [.inl 0], (zs (zup h 2 8 x) hl))) rfl ?_
    refine zH_ret (v := some (.inl 0)) rfl (fun q => absurd q (by decide)) ?_
    exact Or.inl ⟨x, hx0, hx, rfl, rfl⟩
set_option maxRecDepth 100000 in
set_option maxHeartbeats 1000000 in
theorem p_callsF2 {d : Nat} {h hl : Nat → Nat → Int} {ri : Int} (hr : zr ri) {p r : Nat} (hW : zTown h p r) (hR : -1 ≤ h 97 1 ∧ h 97 1 ≤ 4) (hZ : ∀ q : Nat, q < 4 → -1 ≤ h 98 q ∧ h 98 q ≤ 8) (hV : ∀ q i : Nat, q < 4 → i < 8 → zrl (hl (100 + q) i)) (hoff : ¬ 0 < h 21 3) (hon : zr (h 21 3)) (h4 : 0 ≤ h 21 4 ∧ h 21 4 ≤ 12) : zQ (d + 7) 91 [.inr (.inr (some 2)), .inl 2, .inl ri] (zs h hl) (fun r' σ' => (∃ x : Int, ¬ x = 0 ∧ zWhy h 97 98 ri x ∧ r' = some (.inl 0) ∧ σ' = zs (zup h 2 8 x) hl) ∨ ∃ (R S : Nat) (x : Int), ri = (R : Int) ∧ zWhy h 97 98 (R : Int) 0 ∧ h 98 R = (S : Int) ∧ r' = some (.inl 0) ∧ σ' = zs (zup h 2 8 x) hl ∧ ((S = 0 ∧ x = 0) ∨ (0 < S ∧ ¬ x = 0 ∧ zCDec (h 3 0) (h 21 3) (h 21 4) (hl (100 + R) 0) x))) := by
  have hWc := hW
  obtain ⟨hp6, hr15, h30, h31, hp3, hr4, hMe, hTB, hCn, hPo, hRd, hLk, hGr⟩ := hWc
  have hP : 0 ≤ h 3 0 ∧ h 3 0 ≤ 6 := by omega
  refine zQ_of (Nat.le_of_ble_eq_true rfl) ?_
  show zH (d + 6) 91 (0, [some (.inr (.inr (some 2))), some (.inl 2), some (.inl ri), none, none, none, none, none, none], [], (zs h hl)) _
  refine zH_go 1 (c' := (1, [some (.inr (.inr (some 2))), some (.inl 2), some (.inl ri), none, none, none, none, none, none], [.inl 2], (zs h hl))) rfl ?_
  refine zH_call (M' := 92) (as := [.inl 2]) (T := []) rfl (p_isBook ⟨by decide, by decide⟩) (fun r' σ' pm => ?_)
  obtain ⟨rfl, rfl⟩ : r' = some (.inl 1) ∧ σ' = _ := by rcases pm with ⟨a, -, b⟩ | ⟨-, b, -⟩ <;> first | exact ⟨a, b⟩ | (exfalso; omega)
  show zH _ _ (4, [some (.inr (.inr (some 2))), some (.inl 2), some (.inl ri), none, none, none, none, none, none], [.inl 1], (zs h hl)) _
  refine zH_bt (x := 1) (y := 0) (k := .ne) (c1 := (13, [some (.inr (.inr (some 2))), some (.inl 2), some (.inl ri), none, none, none, none, none, none], [], (zs h hl))) (c2 := (7, [some (.inr (.inr (some 2))), some (.inl 2), some (.inl ri), none, none, none, none, none, none], [], (zs h hl))) rfl ⟨by decide, by decide⟩ ⟨by decide, by decide⟩ (by show ¬ 1 = 0; decide) ?_
  refine zH_go 3 (c' := (18, [some (.inr (.inr (some 2))), some (.inl 2), some (.inl ri), none, none, none, none, none, none], [.inl 2, .inr (.inr (some 82))], (zs h hl))) rfl ?_
  refine zH_np (P := 0 ≤ 2 ∧ 2 < ((3 : Nat) : Int)) (c' := (19, [some (.inr (.inr (some 2))), some (.inl 2), some (.inl ri), none, none, none, none, none, none], [.inr (.inr (some 97))], (zs h hl))) rfl ⟨by decide, by decide⟩ ?_
  refine zH_go 3 (c' := (22, [some (.inr (.inr (some 2))), some (.inl 2), some (.inl ri), some (.inr (.inr (some 97))), none, none, none, none, none], [.inl ri, .inr (.inr (some 97))], (zs h hl))) rfl ?_
  refine zH_call (M' := 5) (as := [.inr (.inr (some 97)), .inl ri]) (T := []) rfl (p_bWhy2 hr hR hZ) (fun r' σ' pm => ?_)
  obtain ⟨x, hx, rfl, rfl⟩ := pm
  have hxr := zWhy_b hx
  by_cases hx0 : x = 0
  · subst hx0
    obtain ⟨hrow, hsz⟩ := zWhy_0 hx
    obtain ⟨R, rfl⟩ := Int.eq_ofNat_of_zero_le hrow.1
    rw [Int.toNat_natCast] at hsz
    have hR4 : R < 4 := by have := hrow.2.2; omega
    have hZR := hZ R hR4
    obtain ⟨S, hS9⟩ := Int.eq_ofNat_of_zero_le hsz
    show zH _ _ (25, [some (.inr (.inr (some 2))), some (.inl 2), some (.inl (R : Int)), some (.inr (.inr (some 97))), none, none, none, none, none], [.inl 0], (zs h hl)) _
    refine zH_go 5 (c' := (33, [some (.inr (.inr (some 2))), some (.inl 2), some (.inl (R : Int)), some (.inr (.inr (some 97))), some (.inl 0), some (.inl 0), some (.inl 0), none, none], [], (zs h hl))) rfl ?_
    have hRg := hR
    have hZg := hZ
    have hSg : h 98 R = (S : Int) := hS9
    have hrowg := hrow
    refine zH_go 1 (c' := (35, [some (.inr (.inr (some 2))), some (.inl 2), some (.inl (R : Int)), some (.inr (.inr (some 97))), some (.inl 0), some (.inl 0), some (.inl 0), none, none], [.inl 0], (zs h hl))) rfl ?_
    refine zH_bf (x := 0) (y := 0) (k := .ne) (c1 := (104, [some (.inr (.inr (some 2))), some (.inl 2), some (.inl (R : Int)), some (.inr (.inr (some 97))), some (.inl 0), some (.inl 0), some (.inl 0), none, none], [], (zs h hl))) (c2 := (38, [some (.inr (.inr (some 2))), some (.inl 2), some (.inl (R : Int)), some (.inr (.inr (some 97))), some (.inl 0), some (.inl 0), some (.inl 0), none, none], [], (zs h hl))) rfl ⟨by decide, by decide⟩ ⟨by decide, by decide⟩ (by show ¬ (¬ 0 = 0); decide) ?_
    refine zH_go 3 (c' := (42, [some (.inr (.inr (some 2))), some (.inl 2), some (.inl (R : Int)), some (.inr (.inr (some 97))), some (.inl 0), some (.inl 0), some (.inl 0), none, none], [.inl (R : Int), .inr (.inr (some 97)), .inl 0], (zs h hl))) rfl ?_
    refine zH_call (M' := 4) (as := [.inr (.inr (some 97)), .inl (R : Int)]) (T := [.inl 0]) rfl (p_bSize2 (h := h) ⟨by omega, by omega⟩ hRg hZg) (fun r' σ' pm => ?_)
    obtain ⟨y, hy, rfl, rfl⟩ := pm
    obtain rfl : y = (S : Int) := by rcases hy with ⟨-, e⟩ | ⟨e, -⟩ <;> first | exact e.trans hSg | exact absurd hrowg e
    show zH _ _ (45, [some (.inr (.inr (some 2))), some (.inl 2), some (.inl (R : Int)), some (.inr (.inr (some 97))), some (.inl 0), some (.inl 0), some (.inl 0), none, none], [.inl (S : Int), .inl 0], (zs h hl)) _
    refine zH_br (x := 0) (y := (S : Int)) (k := .ge) (c1 := (104, [some (.inr (.inr (some 2))), some (.inl 2), some (.inl (R : Int)), some (.inr (.inr (some 97))), some (.inl 0), some (.inl 0), some (.inl 0), none, none], [], (zs h hl))) (c2 := (48, [some (.inr (.inr (some 2))), some (.inl 2), some (.inl (R : Int)), some (.inr (.inr (some 97))), some (.inl 0), some (.inl 0), some (.inl 0), none, none], [], (zs h hl))) rfl ⟨by decide, by decide⟩ (by first | assumption | (unfold zr; omega)) (fun (b_1 : ¬ 0 < (S : Int)) => ?_) (fun (b_1 : ¬ (¬ 0 < (S : Int))) => ?_)
    · refine zH_go 4 (c' := (112, [some (.inr (.inr (some 2))), some (.inl 2), some (.inl (R : Int)), some (.inr (.inr (some 97))), some (.inl 0), some (.inl 0), some (.inl 0), none, none], [.inl 0], (zs (zup h 2 8 0) hl))) rfl ?_
      refine zH_ret (v := some (.inl 0)) rfl (fun q => absurd q (by decide)) ?_
      exact Or.inr ⟨R, S, 0, rfl, hx, hS9, rfl, rfl, Or.inl ⟨by omega, rfl⟩⟩
    · refine zH_go 3 (c' := (52, [some (.inr (.inr (some 2))), some (.inl 2), some (.inl (R : Int)), some (.inr (.inr (some 97))), some (.inl 0), some (.inl 0), some (.inl 0), none, none], [.inl 0, .inl (R : Int), .inr (.inr (some 97))], (zs h hl))) rfl ?_
      have hnum : zHasNum h 97 98 (R : Int) 0 := ⟨hrowg, by omega, by rw [Int.toNat_natCast, hSg]; omega, by have := hZg R hR4; omega⟩
      refine zH_call (M' := 9) (as := [.inr (.inr (some 97)), .inl (R : Int), .inl 0]) (T := []) rfl (p_bRead2 (h := h) (hl := hl) ⟨by omega, by omega⟩ ⟨by omega, by omega⟩ hRg hZg) (fun r' σ' pm => ?_)
      obtain ⟨v, hv, rfl, rfl⟩ := pm
      have ev : v = hl (100 + R) 0 := by rcases hv with ⟨-, e⟩ | ⟨e, -⟩ <;> first | exact e.trans rfl | exact absurd hnum e
      have zv : zrl v := by rw [ev]; exact hV R 0 hR4 (by omega)
      show zH _ _ (55, [some (.inr (.inr (some 2))), some (.inl 2), some (.inl (R : Int)), some (.inr (.inr (some 97))), some (.inl 0), some (.inl 0), some (.inl 0), none, none], [.inr (.inl v)], (zs h hl)) _
      refine zH_go 2 (c' := (59, [some (.inr (.inr (some 2))), some (.inl 2), some (.inl (R : Int)), some (.inr (.inr (some 97))), some (.inl 0), some (.inl 0), some (.inl 0), some (.inr (.inl v)), none], [.inr (.inl v)], (zs h hl))) rfl ?_
      refine zH_call (M' := 96) (as := [.inr (.inl v)]) (T := []) rfl (p_fits zv) (fun r σ' p_2 => ?_)
      rcases p_2 with ⟨rfl, b_3, rfl⟩ | ⟨rfl, b_3, rfl⟩
      · show zH _ _ (62, [some (.inr (.inr (some 2))), some (.inl 2), some (.inl (R : Int)), some (.inr (.inr (some 97))), some (.inl 0), some (.inl 0), some (.inl 0), some (.inr (.inl v)), none], [.inl 1], (zs h hl)) _
        refine zH_bf (x := 1) (y := 0) (k := .eq) (c1 := (75, [some (.inr (.inr (some 2))), some (.inl 2), some (.inl (R : Int)), some (.inr (.inr (some 97))), some (.inl 0), some (.inl 0), some (.inl 0), some (.inr (.inl v)), none], [], (zs h hl))) (c2 := (65, [some (.inr (.inr (some 2))), some (.inl 2), some (.inl (R : Int)), some (.inr (.inr (some 97))), some (.inl 0), some (.inl 0), some (.inl 0), some (.inr (.inl v)), none], [], (zs h hl))) rfl ⟨by decide, by decide⟩ ⟨by decide, by decide⟩ (by show ¬ (1 = 0); decide) ?_
        refine zH_go 3 (c' := (69, [some (.inr (.inr (some 2))), some (.inl 2), some (.inl (R : Int)), some (.inr (.inr (some 97))), some (.inl 0), some (.inl 0), some (.inl 0), some (.inr (.inl v)), none], [.inl (Int.bmod v 4294967296), .inr (.inr (some 2))], (zs h hl))) rfl ?_
        rw [zbm_id (show zr v by assumption)]
        refine zH_call (M' := 77) (as := [.inr (.inr (some 2)), .inl v]) (T := []) rfl (p_noCall (show zr v by assumption) h4 hP hon) (fun r' σ' pm => ?_)
        obtain ⟨x, hx, rfl, rfl⟩ := pm
        have hdx : zCDec (h 3 0) (h 21 3) (h 21 4) v x := hx
        have hxr := zCDec_b hdx
        clear hx
        show zH _ _ (72, [some (.inr (.inr (some 2))), some (.inl 2), some (.inl (R : Int)), some (.inr (.inr (some 97))), some (.inl 0), some (.inl 0), some (.inl 0), some (.inr (.inl v)), none], [.inl x], (zs h hl)) _
        refine zH_go 3 (c' := (80, [some (.inr (.inr (some 2))), some (.inl 2), some (.inl (R : Int)), some (.inr (.inr (some 97))), some (.inl x), some (.inl 0), some (.inl 0), some (.inr (.inl v)), none], [.inl x], (zs h hl))) rfl ?_
        refine zH_br (x := x) (y := 0) (k := .ne) (c1 := (98, [some (.inr (.inr (some 2))), some (.inl 2), some (.inl (R : Int)), some (.inr (.inr (some 97))), some (.inl x), some (.inl 0), some (.inl 0), some (.inr (.inl v)), none], [], (zs h hl))) (c2 := (83, [some (.inr (.inr (some 2))), some (.inl 2), some (.inl (R : Int)), some (.inr (.inr (some 97))), some (.inl x), some (.inl 0), some (.inl 0), some (.inr (.inl v)), none], [], (zs h hl))) rfl (by first | assumption | (unfold zr; omega)) ⟨by decide, by decide⟩ (fun (b_4 : ¬ x = 0) => ?_) (fun (b_4 : ¬ (¬ x = 0)) => ?_)
        · refine zH_go 2 (c' := (33, [some (.inr (.inr (some 2))), some (.inl 2), some (.inl (R : Int)), some (.inr (.inr (some 97))), some (.inl x), some (.inl 0), some (.inl 1), some (.inr (.inl v)), none], [], (zs h hl))) rfl ?_
          refine zH_go 1 (c' := (35, [some (.inr (.inr (some 2))), some (.inl 2), some (.inl (R : Int)), some (.inr (.inr (some 97))), some (.inl x), some (.inl 0), some (.inl 1), some (.inr (.inl v)), none], [.inl x], (zs h hl))) rfl ?_
          refine zH_bt (x := x) (y := 0) (k := .ne) (c1 := (104, [some (.inr (.inr (some 2))), some (.inl 2), some (.inl (R : Int)), some (.inr (.inr (some 97))), some (.inl x), some (.inl 0), some (.inl 1), some (.inr (.inl v)), none], [], (zs h hl))) (c2 := (38, [some (.inr (.inr (some 2))), some (.inl 2), some (.inl (R : Int)), some (.inr (.inr (some 97))), some (.inl x), some (.inl 0), some (.inl 1), some (.inr (.inl v)), none], [], (zs h hl))) rfl (by first | assumption | (unfold zr; omega)) ⟨by decide, by decide⟩ (by show ¬ x = 0; omega) ?_
          refine zH_go 4 (c' := (112, [some (.inr (.inr (some 2))), some (.inl 2), some (.inl (R : Int)), some (.inr (.inr (some 97))), some (.inl x), some (.inl 0), some (.inl 1), some (.inr (.inl v)), none], [.inl 0], (zs (zup h 2 8 x) hl))) rfl ?_
          refine zH_ret (v := some (.inl 0)) rfl (fun q => absurd q (by decide)) ?_
          exact Or.inr ⟨R, S, x, rfl, hx, hS9, rfl, rfl, Or.inr ⟨by omega, by assumption, by rw [← ev]; exact hdx⟩⟩
        · obtain rfl : x = 0 := by omega
          have hok := zCDec_0 hdx
          exact absurd hok.2.1 hoff
      · show zH _ _ (62, [some (.inr (.inr (some 2))), some (.inl 2), some (.inl (R : Int)), some (.inr (.inr (some 97))), some (.inl 0), some (.inl 0), some (.inl 0), some (.inr (.inl v)), none], [.inl 0], (zs h hl)) _
        refine zH_bt (x := 0) (y := 0) (k := .eq) (c1 := (75, [some (.inr (.inr (some 2))), some (.inl 2), some (.inl (R : Int)), some (.inr (.inr (some 97))), some (.inl 0), some (.inl 0), some (.inl 0), some (.inr (.inl v)), none], [], (zs h hl))) (c2 := (65, [some (.inr (.inr (some 2))), some (.inl 2), some (.inl (R : Int)), some (.inr (.inr (some 97))), some (.inl 0), some (.inl 0), some (.inl 0), some (.inr (.inl v)), none], [], (zs h hl))) rfl ⟨by decide, by decide⟩ ⟨by decide, by decide⟩ (by show 0 = 0; decide) ?_
        refine zH_go 3 (c' := (80, [some (.inr (.inr (some 2))), some (.inl 2), some (.inl (R : Int)), some (.inr (.inr (some 97))), some (.inl (-1)), some (.inl 0), some (.inl 0), some (.inr (.inl v)), none], [.inl (-1)], (zs h hl))) rfl ?_
        refine zH_bt (x := (-1)) (y := 0) (k := .ne) (c1 := (98, [some (.inr (.inr (some 2))), some (.inl 2), some (.inl (R : Int)), some (.inr (.inr (some 97))), some (.inl (-1)), some (.inl 0), some (.inl 0), some (.inr (.inl v)), none], [], (zs h hl))) (c2 := (83, [some (.inr (.inr (some 2))), some (.inl 2), some (.inl (R : Int)), some (.inr (.inr (some 97))), some (.inl (-1)), some (.inl 0), some (.inl 0), some (.inr (.inl v)), none], [], (zs h hl))) rfl ⟨by decide, by decide⟩ ⟨by decide, by decide⟩ (by show ¬ (-1) = 0; decide) ?_
        refine zH_go 2 (c' := (33, [some (.inr (.inr (some 2))), some (.inl 2), some (.inl (R : Int)), some (.inr (.inr (some 97))), some (.inl (-1)), some (.inl 0), some (.inl 1), some (.inr (.inl v)), none], [], (zs h hl))) rfl ?_
        refine zH_go 1 (c' := (35, [some (.inr (.inr (some 2))), some (.inl 2), some (.inl (R : Int)), some (.inr (.inr (some 97))), some (.inl (-1)), some (.inl 0), some (.inl 1), some (.inr (.inl v)), none], [.inl (-1)], (zs h hl))) rfl ?_
        refine zH_bt (x := (-1)) (y := 0) (k := .ne) (c1 := (104, [some (.inr (.inr (some 2))), some (.inl 2), some (.inl (R : Int)), some (.inr (.inr (some 97))), some (.inl (-1)), some (.inl 0), some (.inl 1), some (.inr (.inl v)), none], [], (zs h hl))) (c2 := (38, [some (.inr (.inr (some 2))), some (.inl 2), some (.inl (R : Int)), some (.inr (.inr (some 97))), some (.inl (-1)), some (.inl 0), some (.inl 1), some (.inr (.inl v)), none], [], (zs h hl))) rfl ⟨by decide, by decide⟩ ⟨by decide, by decide⟩ (by show ¬ (-1) = 0; decide) ?_
        refine zH_go 4 (c' := (112, [some (.inr (.inr (some 2))), some (.inl 2), some (.inl (R : Int)), some (.inr (.inr (some 97))), some (.inl (-1)), some (.inl 0), some (.inl 1), some (.inr (.inl v)), none], [.inl 0], (zs (zup h 2 8 (-1)) hl))) rfl ?_
        refine zH_ret (v := some (.inl 0)) rfl (fun q => absurd q (by decide)) ?_
        exact Or.inr ⟨R, S, -1, rfl, hx, hS9, rfl, rfl, Or.inr ⟨by omega, by decide, by rw [← ev]; exact Or.inl ⟨fun q => (by assumption : ¬ zr v) ⟨by omega, by omega⟩, rfl⟩⟩⟩
  · show zH _ _ (25, [some (.inr (.inr (some 2))), some (.inl 2), some (.inl ri), some (.inr (.inr (some 97))), none, none, none, none, none], [.inl x], (zs h hl)) _
    refine zH_go 5 (c' := (33, [some (.inr (.inr (some 2))), some (.inl 2), some (.inl ri), some (.inr (.inr (some 97))), some (.inl x), some (.inl 0), some (.inl 0), none, none], [], (zs h hl))) rfl ?_
    refine zH_go 1 (c' := (35, [some (.inr (.inr (some 2))), some (.inl 2), some (.inl ri), some (.inr (.inr (some 97))), some (.inl x), some (.inl 0), some (.inl 0), none, none], [.inl x], (zs h hl))) rfl ?_
    refine zH_bt (x := x) (y := 0) (k := .ne) (c1 := (104, [some (.inr (.inr (some 2))), some (.inl 2), some (.inl ri), some (.inr (.inr (some 97))), some (.inl x), some (.inl 0), some (.inl 0), none, none], [], (zs h hl))) (c2 := (38, [some (.inr (.inr (some 2))), some (.inl 2), some (.inl ri), some (.inr (.inr (some 97))), some (.inl x), some (.inl 0), some (.inl 0), none, none], [], (zs h hl))) rfl (by first | assumption | (unfold zr; omega)) ⟨by decide, by decide⟩ (by show ¬ x = 0; omega) ?_
    refine zH_go 4 (c' := (112, [some (.inr (.inr (some 2))), some (.inl 2), some (.inl ri), some (.inr (.inr (some 97))), some (.inl x), some (.inl 0), some (.inl 0), none, none], [.inl 0], (zs (zup h 2 8 x) hl))) rfl ?_
    refine zH_ret (v := some (.inl 0)) rfl (fun q => absurd q (by decide)) ?_
    exact Or.inl ⟨x, hx0, hx, rfl, rfl⟩
