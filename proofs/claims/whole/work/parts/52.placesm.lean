/-! The model: places, roads, ways. -/
theorem zTorn_iff {h : Nat → Nat → Int} {p r : Nat} (hW : zTown h p r) : zTorn h ↔ ∃ a b : Nat, a < p ∧ b < p ∧ zFa h a b = 100000000 := by
  have hWc := hW
  obtain ⟨hp6, hr15, h30, h31, hp3, hr4, hMe, hTB, hCn, hPo, hRd, hLk, hGr⟩ := hWc
  constructor
  · rintro ⟨i, h1, h2, h3⟩
    have z := zFa_spec hW (show 0 < 6 by decide) (show i < 6 by omega)
    rw [show 12 + 0 = 12 from rfl] at z
    exact ⟨0, i, by omega, by omega, by omega⟩
  · rintro ⟨a, b, h1, h2, h3⟩
    have z := zFa_spec hW (show a < 6 by omega) (show b < 6 by omega)
    have z1 := zFa_spec hW (show 0 < 6 by decide) (show a < 6 by omega)
    have z2 := zFa_spec hW (show 0 < 6 by decide) (show b < 6 by omega)
    have t := hMe.2.2 a 0 b (by omega) (by decide) (by omega)
    have s := hMe.2.1 a 0 (by omega) (by decide)
    have d := hMe.1 0 (by decide)
    rw [show 12 + 0 = 12 from rfl] at z1 z2 t s d
    by_cases q : 1000000 ≤ h 12 a
    · refine ⟨a, ?_, by omega, q⟩
      by_cases w : a = 0
      · rw [w] at q; omega
      · omega
    · refine ⟨b, ?_, by omega, by omega⟩
      by_cases w : b = 0
      · rw [w] at z2 t z h3; omega
      · omega
set_option maxRecDepth 100000 in
set_option maxHeartbeats 4000000 in
theorem p_tornO {d : Nat} {h hl : Nat → Nat → Int} {p r : Nat} (hW : zTown h p r) : zQ (d + 2) 106 [.inr (.inr (some 104))] (zs h hl) (fun r' σ' => ∃ g : Nat → Nat → Int, zB (zTorn h) (zs g hl) r' σ' ∧ (∀ c : Nat, c ≠ 108 → g c = h c) ∧ (∀ i j : Nat, i < 6 → j < 6 → g 108 (6 * i + j) = zFa h i j)) := by
  have hWc := hW
  obtain ⟨hp6, hr15, h30, h31, hp3, hr4, hMe, hTB, hCn, hPo, hRd, hLk, hGr⟩ := hWc
  refine zQ_of (Nat.le_of_ble_eq_true rfl) ?_
  show zH (d + 1) 106 (0, [some (.inr (.inr (some 104))), none, none, none], [], (zs h hl)) _
  refine zH_go 1 (c' := (1, [some (.inr (.inr (some 104))), none, none, none], [.inr (.inr (some 104))], (zs h hl))) rfl ?_
  refine zH_call (M' := 105) (as := [.inr (.inr (some 104))]) (T := []) rfl (p_meas hW) (fun r' σ' pm => ?_)
  obtain ⟨rfl, g, rfl, f1, f2⟩ := pm
  have g3 : g 104 3 = (p : Int) := by rw [f1 104 (by decide)]; exact hp3
  show zH _ _ (4, [some (.inr (.inr (some 104))), none, none, none], [], (zs g hl)) _
  refine zH_go 4 (c' := (8, [some (.inr (.inr (some 104))), some (.inl 0), some (.inl 0), none], [], (zs g hl))) rfl ?_
  refine zH_lp (X := Int × (Option zV)) (F := fun (kq : Nat) (x : Int × (Option zV)) => (8, [some (.inr (.inr (some 104))), some (.inl x.1), some (.inl (kq : Int)), x.2], [], (zs g hl))) (I := fun (kq : Nat) (x : Int × (Option zV)) => (x.1 = 1 ∧ ∃ a b : Nat, a < p ∧ b < p ∧ zFa h a b = 100000000) ∨ (x.1 = 0 ∧ ∀ u v : Nat, u < kq → v < p → ¬ zFa h u v = 100000000)) (N := p) (fun a x hka hI ih => ?_) (fun x hI => ?_) 0 (0, none) (by omega) ?_
  · obtain ⟨is, x3⟩ := x
    replace hI : (is = 1 ∧ ∃ a b : Nat, a < p ∧ b < p ∧ zFa h a b = 100000000) ∨ (is = 0 ∧ ∀ u v : Nat, u < a → v < p → ¬ zFa h u v = 100000000) := hI
    show zH _ _ (8, [some (.inr (.inr (some 104))), some (.inl is), some (.inl (a : Int)), x3], [], (zs g hl)) _
    refine zH_go 3 (c' := (13, [some (.inr (.inr (some 104))), some (.inl is), some (.inl (a : Int)), x3], [.inl (g 104 3), .inl (a : Int)], (zs g hl))) rfl ?_
    rw [g3]
    refine zH_bf (x := (a : Int)) (y := (p : Int)) (k := .ge) (c1 := (62, [some (.inr (.inr (some 104))), some (.inl is), some (.inl (a : Int)), x3], [], (zs g hl))) (c2 := (16, [some (.inr (.inr (some 104))), some (.inl is), some (.inl (a : Int)), x3], [], (zs g hl))) rfl (by first | assumption | (unfold zr; omega)) (by first | assumption | (unfold zr; omega)) (by show ¬ (¬ (a : Int) < (p : Int)); omega) ?_
    refine zH_go 2 (c' := (18, [some (.inr (.inr (some 104))), some (.inl is), some (.inl (a : Int)), some (.inl 0)], [], (zs g hl))) rfl ?_
    refine zH_lp (X := Int) (F := fun (kq : Nat) (x : Int) => (18, [some (.inr (.inr (some 104))), some (.inl x), some (.inl (a : Int)), some (.inl (kq : Int))], [], (zs g hl))) (I := fun (kq : Nat) (x : Int) => (x = 1 ∧ ∃ a b : Nat, a < p ∧ b < p ∧ zFa h a b = 100000000) ∨ (x = 0 ∧ (∀ x y : Nat, x < a → y < p → ¬ zFa h x y = 100000000) ∧ ∀ y : Nat, y < kq → ¬ zFa h a y = 100000000)) (N := p) (fun b is2 hkb hJ ih2 => ?_) (fun is2 hJ => ?_) 0 is (by omega) ?_
    · skip
      replace hJ : (is2 = 1 ∧ ∃ a b : Nat, a < p ∧ b < p ∧ zFa h a b = 100000000) ∨ (is2 = 0 ∧ (∀ x y : Nat, x < a → y < p → ¬ zFa h x y = 100000000) ∧ ∀ y : Nat, y < b → ¬ zFa h a y = 100000000) := hJ
      show zH _ _ (18, [some (.inr (.inr (some 104))), some (.inl is2), some (.inl (a : Int)), some (.inl (b : Int))], [], (zs g hl)) _
      have ez := f2 a b (by omega) (by omega)
      have zs2 := zFa_spec hW (show a < 6 by omega) (show b < 6 by omega)
      rcases hJ with ⟨rfl, q⟩ | ⟨rfl, q⟩
      · show zH _ _ (18, [some (.inr (.inr (some 104))), some (.inl 1), some (.inl (a : Int)), some (.inl (b : Int))], [], (zs g hl)) _
        refine zH_go 3 (c' := (23, [some (.inr (.inr (some 104))), some (.inl 1), some (.inl (a : Int)), some (.inl (b : Int))], [.inl (g 104 3), .inl (b : Int)], (zs g hl))) rfl ?_
        rw [g3]
        refine zH_bf (x := (b : Int)) (y := (p : Int)) (k := .ge) (c1 := (56, [some (.inr (.inr (some 104))), some (.inl 1), some (.inl (a : Int)), some (.inl (b : Int))], [], (zs g hl))) (c2 := (26, [some (.inr (.inr (some 104))), some (.inl 1), some (.inl (a : Int)), some (.inl (b : Int))], [], (zs g hl))) rfl (by first | assumption | (unfold zr; omega)) (by first | assumption | (unfold zr; omega)) (by show ¬ (¬ (b : Int) < (p : Int)); omega) ?_
        refine zH_go 8 (c' := (37, [some (.inr (.inr (some 104))), some (.inl 1), some (.inl (a : Int)), some (.inl (b : Int))], [.inl ((6 * (a : Int)) + (b : Int)), .inr (.inr (some 108)), .inl 1], (zs g hl))) rfl ?_
        refine zH_np (P := 0 ≤ ((6 * (a : Int)) + (b : Int)) ∧ ((6 * (a : Int)) + (b : Int)) < ((36 : Nat) : Int)) (c' := (38, [some (.inr (.inr (some 104))), some (.inl 1), some (.inl (a : Int)), some (.inl (b : Int))], [.inl (g 108 ((6 * a) + b)), .inl 1], (zs g hl))) rfl ⟨by omega, by omega⟩ ?_
        refine zH_go 1 (c' := (40, [some (.inr (.inr (some 104))), some (.inl 1), some (.inl (a : Int)), some (.inl (b : Int))], [.inl 100000000, .inl (g 108 ((6 * a) + b)), .inl 1], (zs g hl))) rfl ?_
        refine zH_br (x := (g 108 ((6 * a) + b))) (y := 100000000) (k := .lt) (c1 := (47, [some (.inr (.inr (some 104))), some (.inl 1), some (.inl (a : Int)), some (.inl (b : Int))], [.inl 1], (zs g hl))) (c2 := (43, [some (.inr (.inr (some 104))), some (.inl 1), some (.inl (a : Int)), some (.inl (b : Int))], [.inl 1], (zs g hl))) rfl (by first | assumption | (unfold zr; omega)) ⟨by decide, by decide⟩ (fun (b_1 : (g 108 ((6 * a) + b)) < 100000000) => ?_) (fun (b_1 : ¬ ((g 108 ((6 * a) + b)) < 100000000)) => ?_)
        · refine zH_go 5 (c' := (18, [some (.inr (.inr (some 104))), some (.inl 1), some (.inl (a : Int)), some (.inl ((b : Int) + 1))], [], (zs g hl))) rfl ?_
          refine ih2 1 ?_
          show (1 = 1 ∧ ∃ a b : Nat, a < p ∧ b < p ∧ zFa h a b = 100000000) ∨ (1 = 0 ∧ (∀ x y : Nat, x < a → y < p → ¬ zFa h x y = 100000000) ∧ ∀ y : Nat, y < (b + 1) → ¬ zFa h a y = 100000000)
          exact Or.inl ⟨rfl, q⟩
        · refine zH_go 6 (c' := (18, [some (.inr (.inr (some 104))), some (.inl 1), some (.inl (a : Int)), some (.inl ((b : Int) + 1))], [], (zs g hl))) rfl ?_
          refine ih2 1 ?_
          show (1 = 1 ∧ ∃ a b : Nat, a < p ∧ b < p ∧ zFa h a b = 100000000) ∨ (1 = 0 ∧ (∀ x y : Nat, x < a → y < p → ¬ zFa h x y = 100000000) ∧ ∀ y : Nat, y < (b + 1) → ¬ zFa h a y = 100000000)
          exact Or.inl ⟨rfl, q⟩
      · show zH _ _ (18, [some (.inr (.inr (some 104))), some (.inl 0), some (.inl (a : Int)), some (.inl (b : Int))], [], (zs g hl)) _
        refine zH_go 3 (c' := (23, [some (.inr (.inr (some 104))), some (.inl 0), some (.inl (a : Int)), some (.inl (b : Int))], [.inl (g 104 3), .inl (b : Int)], (zs g hl))) rfl ?_
        rw [g3]
        refine zH_bf (x := (b : Int)) (y := (p : Int)) (k := .ge) (c1 := (56, [some (.inr (.inr (some 104))), some (.inl 0), some (.inl (a : Int)), some (.inl (b : Int))], [], (zs g hl))) (c2 := (26, [some (.inr (.inr (some 104))), some (.inl 0), some (.inl (a : Int)), some (.inl (b : Int))], [], (zs g hl))) rfl (by first | assumption | (unfold zr; omega)) (by first | assumption | (unfold zr; omega)) (by show ¬ (¬ (b : Int) < (p : Int)); omega) ?_
        refine zH_go 8 (c' := (37, [some (.inr (.inr (some 104))), some (.inl 0), some (.inl (a : Int)), some (.inl (b : Int))], [.inl ((6 * (a : Int)) + (b : Int)), .inr (.inr (some 108)), .inl 0], (zs g hl))) rfl ?_
        refine zH_np (P := 0 ≤ ((6 * (a : Int)) + (b : Int)) ∧ ((6 * (a : Int)) + (b : Int)) < ((36 : Nat) : Int)) (c' := (38, [some (.inr (.inr (some 104))), some (.inl 0), some (.inl (a : Int)), some (.inl (b : Int))], [.inl (g 108 ((6 * a) + b)), .inl 0], (zs g hl))) rfl ⟨by omega, by omega⟩ ?_
        refine zH_go 1 (c' := (40, [some (.inr (.inr (some 104))), some (.inl 0), some (.inl (a : Int)), some (.inl (b : Int))], [.inl 100000000, .inl (g 108 ((6 * a) + b)), .inl 0], (zs g hl))) rfl ?_
        refine zH_br (x := (g 108 ((6 * a) + b))) (y := 100000000) (k := .lt) (c1 := (47, [some (.inr (.inr (some 104))), some (.inl 0), some (.inl (a : Int)), some (.inl (b : Int))], [.inl 0], (zs g hl))) (c2 := (43, [some (.inr (.inr (some 104))), some (.inl 0), some (.inl (a : Int)), some (.inl (b : Int))], [.inl 0], (zs g hl))) rfl (by first | assumption | (unfold zr; omega)) ⟨by decide, by decide⟩ (fun (b_2 : (g 108 ((6 * a) + b)) < 100000000) => ?_) (fun (b_2 : ¬ ((g 108 ((6 * a) + b)) < 100000000)) => ?_)
        · refine zH_go 5 (c' := (18, [some (.inr (.inr (some 104))), some (.inl 0), some (.inl (a : Int)), some (.inl ((b : Int) + 1))], [], (zs g hl))) rfl ?_
          refine ih2 0 ?_
          show (0 = 1 ∧ ∃ a b : Nat, a < p ∧ b < p ∧ zFa h a b = 100000000) ∨ (0 = 0 ∧ (∀ x y : Nat, x < a → y < p → ¬ zFa h x y = 100000000) ∧ ∀ y : Nat, y < (b + 1) → ¬ zFa h a y = 100000000)
          refine Or.inr ⟨rfl, q.1, fun y hy => ?_⟩
          by_cases w : y = b
          · rw [w]; omega
          · exact q.2 y (by omega)
        · refine zH_go 6 (c' := (18, [some (.inr (.inr (some 104))), some (.inl 1), some (.inl (a : Int)), some (.inl ((b : Int) + 1))], [], (zs g hl))) rfl ?_
          refine ih2 1 ?_
          show (1 = 1 ∧ ∃ a b : Nat, a < p ∧ b < p ∧ zFa h a b = 100000000) ∨ (1 = 0 ∧ (∀ x y : Nat, x < a → y < p → ¬ zFa h x y = 100000000) ∧ ∀ y : Nat, y < (b + 1) → ¬ zFa h a y = 100000000)
          exact Or.inl ⟨rfl, a, b, hka, hkb, by omega⟩
    · skip
      replace hJ : (is2 = 1 ∧ ∃ a b : Nat, a < p ∧ b < p ∧ zFa h a b = 100000000) ∨ (is2 = 0 ∧ (∀ x y : Nat, x < a → y < p → ¬ zFa h x y = 100000000) ∧ ∀ y : Nat, y < p → ¬ zFa h a y = 100000000) := hJ
      show zH _ _ (18, [some (.inr (.inr (some 104))), some (.inl is2), some (.inl (a : Int)), some (.inl (p : Int))], [], (zs g hl)) _
      refine zH_go 3 (c' := (23, [some (.inr (.inr (some 104))), some (.inl is2), some (.inl (a : Int)), some (.inl (p : Int))], [.inl (g 104 3), .inl (p : Int)], (zs g hl))) rfl ?_
      rw [g3]
      refine zH_bt (x := (p : Int)) (y := (p : Int)) (k := .ge) (c1 := (56, [some (.inr (.inr (some 104))), some (.inl is2), some (.inl (a : Int)), some (.inl (p : Int))], [], (zs g hl))) (c2 := (26, [some (.inr (.inr (some 104))), some (.inl is2), some (.inl (a : Int)), some (.inl (p : Int))], [], (zs g hl))) rfl (by first | assumption | (unfold zr; omega)) (by first | assumption | (unfold zr; omega)) (by show ¬ (p : Int) < (p : Int); omega) ?_
      refine zH_go 2 (c' := (8, [some (.inr (.inr (some 104))), some (.inl is2), some (.inl ((a : Int) + 1)), some (.inl (p : Int))], [], (zs g hl))) rfl ?_
      refine ih (is2, (some (.inl (p : Int)))) ?_
      show (is2 = 1 ∧ ∃ a b : Nat, a < p ∧ b < p ∧ zFa h a b = 100000000) ∨ (is2 = 0 ∧ ∀ u v : Nat, u < (a + 1) → v < p → ¬ zFa h u v = 100000000)
      rcases hJ with q | ⟨q1, q2, q3⟩
      · exact Or.inl q
      · refine Or.inr ⟨q1, fun x y hx hy => ?_⟩
        by_cases w : x = a
        · rw [w]; exact q3 y hy
        · exact q2 x y (by omega) hy
    · show (is = 1 ∧ ∃ a b : Nat, a < p ∧ b < p ∧ zFa h a b = 100000000) ∨ (is = 0 ∧ (∀ x y : Nat, x < a → y < p → ¬ zFa h x y = 100000000) ∧ ∀ y : Nat, y < 0 → ¬ zFa h a y = 100000000)
      rcases hI with q | ⟨q1, q2⟩
      · exact Or.inl q
      · exact Or.inr ⟨q1, fun x y hx hy => q2 x y hx hy, fun y hy => absurd hy (Nat.not_lt_zero y)⟩
  · obtain ⟨is, x3⟩ := x
    replace hI : (is = 1 ∧ ∃ a b : Nat, a < p ∧ b < p ∧ zFa h a b = 100000000) ∨ (is = 0 ∧ ∀ u v : Nat, u < p → v < p → ¬ zFa h u v = 100000000) := hI
    show zH _ _ (8, [some (.inr (.inr (some 104))), some (.inl is), some (.inl (p : Int)), x3], [], (zs g hl)) _
    refine zH_go 3 (c' := (13, [some (.inr (.inr (some 104))), some (.inl is), some (.inl (p : Int)), x3], [.inl (g 104 3), .inl (p : Int)], (zs g hl))) rfl ?_
    rw [g3]
    refine zH_bt (x := (p : Int)) (y := (p : Int)) (k := .ge) (c1 := (62, [some (.inr (.inr (some 104))), some (.inl is), some (.inl (p : Int)), x3], [], (zs g hl))) (c2 := (16, [some (.inr (.inr (some 104))), some (.inl is), some (.inl (p : Int)), x3], [], (zs g hl))) rfl (by first | assumption | (unfold zr; omega)) (by first | assumption | (unfold zr; omega)) (by show ¬ (p : Int) < (p : Int); omega) ?_
    refine zH_go 1 (c' := (63, [some (.inr (.inr (some 104))), some (.inl is), some (.inl (p : Int)), x3], [.inl is], (zs g hl))) rfl ?_
    refine zH_ret (v := some (.inl is)) rfl (fun _ => by rcases hI with ⟨q, -⟩ | ⟨q, -⟩ <;> subst q <;> first | exact Or.inl rfl | exact Or.inr rfl) ?_
    refine ⟨g, ?_, f1, f2⟩
    rcases hI with ⟨q1, q2⟩ | ⟨q1, q2⟩
    · exact Or.inl ⟨by rw [q1], (zTorn_iff hW).mpr q2, rfl⟩
    · exact Or.inr ⟨by rw [q1], fun q => by obtain ⟨a, b, ha, hb, e⟩ := (zTorn_iff hW).mp q; exact q2 a b ha hb e, rfl⟩
  · show (0 = 1 ∧ ∃ a b : Nat, a < p ∧ b < p ∧ zFa h a b = 100000000) ∨ (0 = 0 ∧ ∀ u v : Nat, u < 0 → v < p → ¬ zFa h u v = 100000000)
    exact Or.inr ⟨rfl, fun a b ha => absurd ha (Nat.not_lt_zero a)⟩
set_option maxRecDepth 100000 in
set_option maxHeartbeats 4000000 in
theorem p_placeO {d : Nat} {h0 h hl : Nat → Nat → Int} (e0 : zup h0 104 0 0 = h) (hP : 0 ≤ h 104 3 ∧ h 104 3 ≤ 6) (hon : zr (h 104 9)) : zQ (d + 1) 107 [.inr (.inr (some 104))] (zs h0 hl) (fun r σ' => (0 < h 104 9 ∧ r = some (.inl (-2)) ∧ σ' = zs h hl) ∨ (¬ 0 < h 104 9 ∧ h 104 3 = 6 ∧ r = some (.inl (-3)) ∧ σ' = zs h hl) ∨ (¬ 0 < h 104 9 ∧ ¬ h 104 3 = 6 ∧ r = some (.inl (h 104 3)) ∧ σ' = zs (zup h 104 3 (h 104 3 + 1)) hl)) := by
  refine zQ_of (Nat.le_of_ble_eq_true rfl) ?_
  show zH d 107 (0, [some (.inr (.inr (some 104)))], [], (zs h0 hl)) _
  refine zH_go 3 (c' := (5, [some (.inr (.inr (some 104)))], [], (zs (zup h0 104 0 0) hl))) rfl ?_
  rw [e0]
  refine zH_go 2 (c' := (9, [some (.inr (.inr (some 104)))], [.inl (h 104 9)], (zs h hl))) rfl ?_
  refine zH_br (x := (h 104 9)) (y := 0) (k := .le) (c1 := (15, [some (.inr (.inr (some 104)))], [], (zs h hl))) (c2 := (12, [some (.inr (.inr (some 104)))], [], (zs h hl))) rfl (by first | assumption | (unfold zr; omega)) ⟨by decide, by decide⟩ (fun (b_1 : ¬ 0 < (h 104 9)) => ?_) (fun (b_1 : ¬ (¬ 0 < (h 104 9))) => ?_)
  · refine zH_go 3 (c' := (21, [some (.inr (.inr (some 104)))], [.inl 6, .inl (h 104 3)], (zs h hl))) rfl ?_
    refine zH_br (x := (h 104 3)) (y := 6) (k := .ne) (c1 := (27, [some (.inr (.inr (some 104)))], [], (zs h hl))) (c2 := (24, [some (.inr (.inr (some 104)))], [], (zs h hl))) rfl (by first | assumption | (unfold zr; omega)) ⟨by decide, by decide⟩ (fun (b_2 : ¬ (h 104 3) = 6) => ?_) (fun (b_2 : ¬ (¬ (h 104 3) = 6)) => ?_)
    · refine zH_go 10 (c' := (43, [some (.inr (.inr (some 104)))], [.inl (((h 104 3) + 1) - 1)], (zs (zup h 104 3 ((h 104 3) + 1)) hl))) rfl ?_
      refine zH_ret (v := some (.inl (((h 104 3) + 1) - 1))) rfl (fun q => absurd q (by decide)) ?_
      exact Or.inr (Or.inr ⟨by omega, by omega, congrArg (fun z => some (Sum.inl z)) (by omega), rfl⟩)
    · refine zH_go 1 (c' := (26, [some (.inr (.inr (some 104)))], [.inl (-3)], (zs h hl))) rfl ?_
      refine zH_ret (v := some (.inl (-3))) rfl (fun q => absurd q (by decide)) ?_
      exact Or.inr (Or.inl ⟨by omega, by omega, rfl, rfl⟩)
  · refine zH_go 1 (c' := (14, [some (.inr (.inr (some 104)))], [.inl (-2)], (zs h hl))) rfl ?_
    refine zH_ret (v := some (.inl (-2))) rfl (fun q => absurd q (by decide)) ?_
    exact Or.inl ⟨by omega, rfl, rfl⟩
set_option maxRecDepth 100000 in
set_option maxHeartbeats 4000000 in
theorem p_addRoadO {d : Nat} {h hl : Nat → Nat → Int} {r : Nat} {a b len : Int} (ha : zrl a) (hb : zrl b) (hlen : zrl len) (hr15 : r ≤ 15) (hr4 : h 104 4 = (r : Int)) (hP : 0 ≤ h 104 3 ∧ h 104 3 ≤ 6) (hon : zr (h 104 9)) : zQ (d + 2) 108 [.inr (.inr (some 104)), .inr (.inl a), .inr (.inl b), .inr (.inl len)] (zs h hl) (fun ρ σ' => (¬ (((0 ≤ a ∧ a < h 104 3) ∧ 0 ≤ b ∧ b < h 104 3) ∧ a ≠ b ∧ 1 ≤ len ∧ len ≤ 100) ∧ ρ = some (.inl (-1)) ∧ σ' = zs h hl) ∨ ((((0 ≤ a ∧ a < h 104 3) ∧ 0 ≤ b ∧ b < h 104 3) ∧ a ≠ b ∧ 1 ≤ len ∧ len ≤ 100) ∧ 0 < h 104 9 ∧ ρ = some (.inl (-2)) ∧ σ' = zs h hl) ∨ ((((0 ≤ a ∧ a < h 104 3) ∧ 0 ≤ b ∧ b < h 104 3) ∧ a ≠ b ∧ 1 ≤ len ∧ len ≤ 100) ∧ ¬ 0 < h 104 9 ∧ r = 15 ∧ ρ = some (.inl (-3)) ∧ σ' = zs h hl) ∨ ((((0 ≤ a ∧ a < h 104 3) ∧ 0 ≤ b ∧ b < h 104 3) ∧ a ≠ b ∧ 1 ≤ len ∧ len ≤ 100) ∧ ¬ 0 < h 104 9 ∧ r < 15 ∧ ρ = some (.inl ((r : Int) + 1)) ∧ σ' = zs (zup (zup (zup (zup h 105 r a) 106 r b) 107 r len) 104 4 ((r : Int) + 1)) hl)) := by
  refine zQ_of (Nat.le_of_ble_eq_true rfl) ?_
  show zH (d + 1) 108 (0, [some (.inr (.inr (some 104))), some (.inr (.inl a)), none, some (.inr (.inl b)), none, some (.inr (.inl len)), none], [], (zs h hl)) _
  refine zH_go 6 (c' := (8, [some (.inr (.inr (some 104))), some (.inr (.inl a)), none, some (.inr (.inl b)), none, some (.inr (.inl len)), none], [.inl ((h 104 3) - 1), .inr (.inl 0), .inr (.inl a)], (zs h hl))) rfl ?_
  refine zH_np (P := zr ((h 104 3) - 1)) (c' := (9, [some (.inr (.inr (some 104))), some (.inr (.inl a)), none, some (.inr (.inl b)), none, some (.inr (.inl len)), none], [.inr (.inl ((h 104 3) - 1)), .inr (.inl 0), .inr (.inl a)], (zs h hl))) rfl (by first | assumption | (unfold zr; omega)) ?_
  refine zH_call (M' := 103) (as := [.inr (.inl a), .inr (.inl 0), .inr (.inl ((h 104 3) - 1))]) (T := []) rfl (p_in (by first | assumption | exact zr_l (by assumption) | (unfold zrl; omega)) ⟨by decide, by decide⟩ (by first | assumption | exact zr_l (by assumption) | (unfold zrl; omega))) (fun r σ' p_1 => ?_)
  rcases p_1 with ⟨rfl, b_2, rfl⟩ | ⟨rfl, b_2, rfl⟩
  · show zH _ _ (12, [some (.inr (.inr (some 104))), some (.inr (.inl a)), none, some (.inr (.inl b)), none, some (.inr (.inl len)), none], [.inl 1], (zs h hl)) _
    refine zH_bf (x := 1) (y := 0) (k := .eq) (c1 := (48, [some (.inr (.inr (some 104))), some (.inr (.inl a)), none, some (.inr (.inl b)), none, some (.inr (.inl len)), none], [], (zs h hl))) (c2 := (15, [some (.inr (.inr (some 104))), some (.inr (.inl a)), none, some (.inr (.inl b)), none, some (.inr (.inl len)), none], [], (zs h hl))) rfl ⟨by decide, by decide⟩ ⟨by decide, by decide⟩ (by show ¬ (1 = 0); decide) ?_
    refine zH_go 6 (c' := (23, [some (.inr (.inr (some 104))), some (.inr (.inl a)), none, some (.inr (.inl b)), none, some (.inr (.inl len)), none], [.inl ((h 104 3) - 1), .inr (.inl 0), .inr (.inl b)], (zs h hl))) rfl ?_
    refine zH_np (P := zr ((h 104 3) - 1)) (c' := (24, [some (.inr (.inr (some 104))), some (.inr (.inl a)), none, some (.inr (.inl b)), none, some (.inr (.inl len)), none], [.inr (.inl ((h 104 3) - 1)), .inr (.inl 0), .inr (.inl b)], (zs h hl))) rfl (by first | assumption | (unfold zr; omega)) ?_
    refine zH_call (M' := 103) (as := [.inr (.inl b), .inr (.inl 0), .inr (.inl ((h 104 3) - 1))]) (T := []) rfl (p_in (by first | assumption | exact zr_l (by assumption) | (unfold zrl; omega)) ⟨by decide, by decide⟩ (by first | assumption | exact zr_l (by assumption) | (unfold zrl; omega))) (fun r σ' p_3 => ?_)
    rcases p_3 with ⟨rfl, b_4, rfl⟩ | ⟨rfl, b_4, rfl⟩
    · show zH _ _ (27, [some (.inr (.inr (some 104))), some (.inr (.inl a)), none, some (.inr (.inl b)), none, some (.inr (.inl len)), none], [.inl 1], (zs h hl)) _
      refine zH_bf (x := 1) (y := 0) (k := .eq) (c1 := (48, [some (.inr (.inr (some 104))), some (.inr (.inl a)), none, some (.inr (.inl b)), none, some (.inr (.inl len)), none], [], (zs h hl))) (c2 := (30, [some (.inr (.inr (some 104))), some (.inr (.inl a)), none, some (.inr (.inl b)), none, some (.inr (.inl len)), none], [], (zs h hl))) rfl ⟨by decide, by decide⟩ ⟨by decide, by decide⟩ (by show ¬ (1 = 0); decide) ?_
      refine zH_go 2 (c' := (32, [some (.inr (.inr (some 104))), some (.inr (.inl a)), none, some (.inr (.inl b)), none, some (.inr (.inl len)), none], [.inr (.inl b), .inr (.inl a)], (zs h hl))) rfl ?_
      refine zH_np (P := zrl a ∧ zrl b) (c' := (33, [some (.inr (.inr (some 104))), some (.inr (.inl a)), none, some (.inr (.inl b)), none, some (.inr (.inl len)), none], [.inl (if a < b then -1 else if a = b then 0 else 1)], (zs h hl))) rfl ⟨(by first | assumption | exact zr_l (by assumption) | (unfold zrl; omega)), (by first | assumption | exact zr_l (by assumption) | (unfold zrl; omega))⟩ ?_
      obtain ⟨m_5, em_5, fm_5⟩ := zlcmp_spec a b
      rw [em_5]
      refine zH_br (x := m_5) (y := 0) (k := .eq) (c1 := (48, [some (.inr (.inr (some 104))), some (.inr (.inl a)), none, some (.inr (.inl b)), none, some (.inr (.inl len)), none], [], (zs h hl))) (c2 := (36, [some (.inr (.inr (some 104))), some (.inr (.inl a)), none, some (.inr (.inl b)), none, some (.inr (.inl len)), none], [], (zs h hl))) rfl (by first | assumption | (unfold zr; omega)) ⟨by decide, by decide⟩ (fun (b_6 : m_5 = 0) => ?_) (fun (b_6 : ¬ (m_5 = 0)) => ?_)
      · refine zH_go 1 (c' := (49, [some (.inr (.inr (some 104))), some (.inr (.inl a)), none, some (.inr (.inl b)), none, some (.inr (.inl len)), none], [.inl (-1)], (zs h hl))) rfl ?_
        refine zH_ret (v := some (.inl (-1))) rfl (fun q => absurd q (by decide)) ?_
        exact Or.inl ⟨by omega, rfl, rfl⟩
      · refine zH_go 3 (c' := (42, [some (.inr (.inr (some 104))), some (.inr (.inl a)), none, some (.inr (.inl b)), none, some (.inr (.inl len)), none], [.inr (.inl 100), .inr (.inl 1), .inr (.inl len)], (zs h hl))) rfl ?_
        refine zH_call (M' := 103) (as := [.inr (.inl len), .inr (.inl 1), .inr (.inl 100)]) (T := []) rfl (p_in (by first | assumption | exact zr_l (by assumption) | (unfold zrl; omega)) ⟨by decide, by decide⟩ ⟨by decide, by decide⟩) (fun r σ' p_7 => ?_)
        rcases p_7 with ⟨rfl, b_8, rfl⟩ | ⟨rfl, b_8, rfl⟩
        · show zH _ _ (45, [some (.inr (.inr (some 104))), some (.inr (.inl a)), none, some (.inr (.inl b)), none, some (.inr (.inl len)), none], [.inl 1], (zs h hl)) _
          refine zH_bt (x := 1) (y := 0) (k := .ne) (c1 := (50, [some (.inr (.inr (some 104))), some (.inr (.inl a)), none, some (.inr (.inl b)), none, some (.inr (.inl len)), none], [], (zs h hl))) (c2 := (48, [some (.inr (.inr (some 104))), some (.inr (.inl a)), none, some (.inr (.inl b)), none, some (.inr (.inl len)), none], [], (zs h hl))) rfl ⟨by decide, by decide⟩ ⟨by decide, by decide⟩ (by show ¬ 1 = 0; decide) ?_
          refine zH_go 2 (c' := (54, [some (.inr (.inr (some 104))), some (.inr (.inl a)), none, some (.inr (.inl b)), none, some (.inr (.inl len)), none], [.inl (h 104 9)], (zs h hl))) rfl ?_
          refine zH_br (x := (h 104 9)) (y := 0) (k := .le) (c1 := (60, [some (.inr (.inr (some 104))), some (.inr (.inl a)), none, some (.inr (.inl b)), none, some (.inr (.inl len)), none], [], (zs h hl))) (c2 := (57, [some (.inr (.inr (some 104))), some (.inr (.inl a)), none, some (.inr (.inl b)), none, some (.inr (.inl len)), none], [], (zs h hl))) rfl (by first | assumption | (unfold zr; omega)) ⟨by decide, by decide⟩ (fun (b_9 : ¬ 0 < (h 104 9)) => ?_) (fun (b_9 : ¬ (¬ 0 < (h 104 9))) => ?_)
          · refine zH_go 2 (c' := (64, [some (.inr (.inr (some 104))), some (.inr (.inl a)), none, some (.inr (.inl b)), none, some (.inr (.inl len)), none], [.inl (h 104 4)], (zs h hl))) rfl ?_
            rw [hr4]
            refine zH_go 1 (c' := (66, [some (.inr (.inr (some 104))), some (.inr (.inl a)), none, some (.inr (.inl b)), none, some (.inr (.inl len)), none], [.inl 15, .inl (r : Int)], (zs h hl))) rfl ?_
            refine zH_br (x := (r : Int)) (y := 15) (k := .ne) (c1 := (72, [some (.inr (.inr (some 104))), some (.inr (.inl a)), none, some (.inr (.inl b)), none, some (.inr (.inl len)), none], [], (zs h hl))) (c2 := (69, [some (.inr (.inr (some 104))), some (.inr (.inl a)), none, some (.inr (.inl b)), none, some (.inr (.inl len)), none], [], (zs h hl))) rfl (by first | assumption | (unfold zr; omega)) ⟨by decide, by decide⟩ (fun (b_10 : ¬ (r : Int) = 15) => ?_) (fun (b_10 : ¬ (¬ (r : Int) = 15)) => ?_)
            · refine zH_go 4 (c' := (80, [some (.inr (.inr (some 104))), some (.inr (.inl a)), none, some (.inr (.inl b)), none, some (.inr (.inl len)), none], [.inl (h 104 4), .inr (.inr (some 105))], (zs h hl))) rfl ?_
              rw [hr4]
              refine zH_go 2 (c' := (82, [some (.inr (.inr (some 104))), some (.inr (.inl a)), none, some (.inr (.inl b)), none, some (.inr (.inl len)), none], [.inl (Int.bmod a 4294967296), .inl (r : Int), .inr (.inr (some 105))], (zs h hl))) rfl ?_
              refine zH_np (P := 0 ≤ (r : Int) ∧ (r : Int) < ((15 : Nat) : Int)) (c' := (83, [some (.inr (.inr (some 104))), some (.inr (.inl a)), none, some (.inr (.inl b)), none, some (.inr (.inl len)), none], [], (zs (zup h 105 r (Int.bmod a 4294967296)) hl))) rfl ⟨by omega, by omega⟩ ?_
              refine zH_go 4 (c' := (91, [some (.inr (.inr (some 104))), some (.inr (.inl a)), none, some (.inr (.inl b)), none, some (.inr (.inl len)), none], [.inl (h 104 4), .inr (.inr (some 106))], (zs (zup h 105 r (Int.bmod a 4294967296)) hl))) rfl ?_
              rw [hr4]
              refine zH_go 2 (c' := (93, [some (.inr (.inr (some 104))), some (.inr (.inl a)), none, some (.inr (.inl b)), none, some (.inr (.inl len)), none], [.inl (Int.bmod b 4294967296), .inl (r : Int), .inr (.inr (some 106))], (zs (zup h 105 r (Int.bmod a 4294967296)) hl))) rfl ?_
              refine zH_np (P := 0 ≤ (r : Int) ∧ (r : Int) < ((15 : Nat) : Int)) (c' := (94, [some (.inr (.inr (some 104))), some (.inr (.inl a)), none, some (.inr (.inl b)), none, some (.inr (.inl len)), none], [], (zs (zup (zup h 105 r (Int.bmod a 4294967296)) 106 r (Int.bmod b 4294967296)) hl))) rfl ⟨by omega, by omega⟩ ?_
              refine zH_go 4 (c' := (102, [some (.inr (.inr (some 104))), some (.inr (.inl a)), none, some (.inr (.inl b)), none, some (.inr (.inl len)), none], [.inl (h 104 4), .inr (.inr (some 107))], (zs (zup (zup h 105 r (Int.bmod a 4294967296)) 106 r (Int.bmod b 4294967296)) hl))) rfl ?_
              rw [hr4]
              refine zH_go 2 (c' := (105, [some (.inr (.inr (some 104))), some (.inr (.inl a)), none, some (.inr (.inl b)), none, some (.inr (.inl len)), none], [.inl (Int.bmod len 4294967296), .inl (r : Int), .inr (.inr (some 107))], (zs (zup (zup h 105 r (Int.bmod a 4294967296)) 106 r (Int.bmod b 4294967296)) hl))) rfl ?_
              refine zH_np (P := 0 ≤ (r : Int) ∧ (r : Int) < ((15 : Nat) : Int)) (c' := (106, [some (.inr (.inr (some 104))), some (.inr (.inl a)), none, some (.inr (.inl b)), none, some (.inr (.inl len)), none], [], (zs (zup (zup (zup h 105 r (Int.bmod a 4294967296)) 106 r (Int.bmod b 4294967296)) 107 r (Int.bmod len 4294967296)) hl))) rfl ⟨by omega, by omega⟩ ?_
              refine zH_go 3 (c' := (111, [some (.inr (.inr (some 104))), some (.inr (.inl a)), none, some (.inr (.inl b)), none, some (.inr (.inl len)), none], [.inl (h 104 4), .inr (.inr (some 104))], (zs (zup (zup (zup h 105 r (Int.bmod a 4294967296)) 106 r (Int.bmod b 4294967296)) 107 r (Int.bmod len 4294967296)) hl))) rfl ?_
              rw [hr4]
              refine zH_go 5 (c' := (120, [some (.inr (.inr (some 104))), some (.inr (.inl a)), none, some (.inr (.inl b)), none, some (.inr (.inl len)), none], [.inl ((r : Int) + 1)], (zs (zup (zup (zup (zup h 105 r (Int.bmod a 4294967296)) 106 r (Int.bmod b 4294967296)) 107 r (Int.bmod len 4294967296)) 104 4 ((r : Int) + 1)) hl))) rfl ?_
              refine zH_ret (v := some (.inl ((r : Int) + 1))) rfl (fun q => absurd q (by decide)) ?_
              rw [zbm_id (show zr a from ⟨by omega, by omega⟩), zbm_id (show zr b from ⟨by omega, by omega⟩), zbm_id (show zr len from ⟨by omega, by omega⟩)]
              exact Or.inr (Or.inr (Or.inr ⟨by omega, by omega, by omega, rfl, rfl⟩))
            · refine zH_go 1 (c' := (71, [some (.inr (.inr (some 104))), some (.inr (.inl a)), none, some (.inr (.inl b)), none, some (.inr (.inl len)), none], [.inl (-3)], (zs h hl))) rfl ?_
              refine zH_ret (v := some (.inl (-3))) rfl (fun q => absurd q (by decide)) ?_
              exact Or.inr (Or.inr (Or.inl ⟨by omega, by omega, by omega, rfl, rfl⟩))
          · refine zH_go 1 (c' := (59, [some (.inr (.inr (some 104))), some (.inr (.inl a)), none, some (.inr (.inl b)), none, some (.inr (.inl len)), none], [.inl (-2)], (zs h hl))) rfl ?_
            refine zH_ret (v := some (.inl (-2))) rfl (fun q => absurd q (by decide)) ?_
            exact Or.inr (Or.inl ⟨by omega, by omega, rfl, rfl⟩)
        · show zH _ _ (45, [some (.inr (.inr (some 104))), some (.inr (.inl a)), none, some (.inr (.inl b)), none, some (.inr (.inl len)), none], [.inl 0], (zs h hl)) _
          refine zH_bf (x := 0) (y := 0) (k := .ne) (c1 := (50, [some (.inr (.inr (some 104))), some (.inr (.inl a)), none, some (.inr (.inl b)), none, some (.inr (.inl len)), none], [], (zs h hl))) (c2 := (48, [some (.inr (.inr (some 104))), some (.inr (.inl a)), none, some (.inr (.inl b)), none, some (.inr (.inl len)), none], [], (zs h hl))) rfl ⟨by decide, by decide⟩ ⟨by decide, by decide⟩ (by show ¬ (¬ 0 = 0); decide) ?_
          refine zH_go 1 (c' := (49, [some (.inr (.inr (some 104))), some (.inr (.inl a)), none, some (.inr (.inl b)), none, some (.inr (.inl len)), none], [.inl (-1)], (zs h hl))) rfl ?_
          refine zH_ret (v := some (.inl (-1))) rfl (fun q => absurd q (by decide)) ?_
          exact Or.inl ⟨by omega, rfl, rfl⟩
    · show zH _ _ (27, [some (.inr (.inr (some 104))), some (.inr (.inl a)), none, some (.inr (.inl b)), none, some (.inr (.inl len)), none], [.inl 0], (zs h hl)) _
      refine zH_bt (x := 0) (y := 0) (k := .eq) (c1 := (48, [some (.inr (.inr (some 104))), some (.inr (.inl a)), none, some (.inr (.inl b)), none, some (.inr (.inl len)), none], [], (zs h hl))) (c2 := (30, [some (.inr (.inr (some 104))), some (.inr (.inl a)), none, some (.inr (.inl b)), none, some (.inr (.inl len)), none], [], (zs h hl))) rfl ⟨by decide, by decide⟩ ⟨by decide, by decide⟩ (by show 0 = 0; decide) ?_
      refine zH_go 1 (c' := (49, [some (.inr (.inr (some 104))), some (.inr (.inl a)), none, some (.inr (.inl b)), none, some (.inr (.inl len)), none], [.inl (-1)], (zs h hl))) rfl ?_
      refine zH_ret (v := some (.inl (-1))) rfl (fun q => absurd q (by decide)) ?_
      exact Or.inl ⟨by omega, rfl, rfl⟩
  · show zH _ _ (12, [some (.inr (.inr (some 104))), some (.inr (.inl a)), none, some (.inr (.inl b)), none, some (.inr (.inl len)), none], [.inl 0], (zs h hl)) _
    refine zH_bt (x := 0) (y := 0) (k := .eq) (c1 := (48, [some (.inr (.inr (some 104))), some (.inr (.inl a)), none, some (.inr (.inl b)), none, some (.inr (.inl len)), none], [], (zs h hl))) (c2 := (15, [some (.inr (.inr (some 104))), some (.inr (.inl a)), none, some (.inr (.inl b)), none, some (.inr (.inl len)), none], [], (zs h hl))) rfl ⟨by decide, by decide⟩ ⟨by decide, by decide⟩ (by show 0 = 0; decide) ?_
    refine zH_go 1 (c' := (49, [some (.inr (.inr (some 104))), some (.inr (.inl a)), none, some (.inr (.inl b)), none, some (.inr (.inl len)), none], [.inl (-1)], (zs h hl))) rfl ?_
    refine zH_ret (v := some (.inl (-1))) rfl (fun q => absurd q (by decide)) ?_
    exact Or.inl ⟨by omega, rfl, rfl⟩
set_option maxRecDepth 100000 in
set_option maxHeartbeats 4000000 in
theorem p_roadO {d : Nat} {h0 h hl : Nat → Nat → Int} (e0 : zup h0 104 0 0 = h) {r : Nat} {a b len : Int} (ha : zr a) (hb : zr b) (hlen : zr len) (hr15 : r ≤ 15) (hr4 : h 104 4 = (r : Int)) (hP : 0 ≤ h 104 3 ∧ h 104 3 ≤ 6) (hon : zr (h 104 9)) : zQ (d + 3) 109 [.inr (.inr (some 104)), .inl a, .inl b, .inl len] (zs h0 hl) (fun ρ σ' => (¬ (((0 ≤ a ∧ a < h 104 3) ∧ 0 ≤ b ∧ b < h 104 3) ∧ a ≠ b ∧ 1 ≤ len ∧ len ≤ 100) ∧ ρ = some (.inl (-1)) ∧ σ' = zs h hl) ∨ ((((0 ≤ a ∧ a < h 104 3) ∧ 0 ≤ b ∧ b < h 104 3) ∧ a ≠ b ∧ 1 ≤ len ∧ len ≤ 100) ∧ 0 < h 104 9 ∧ ρ = some (.inl (-2)) ∧ σ' = zs h hl) ∨ ((((0 ≤ a ∧ a < h 104 3) ∧ 0 ≤ b ∧ b < h 104 3) ∧ a ≠ b ∧ 1 ≤ len ∧ len ≤ 100) ∧ ¬ 0 < h 104 9 ∧ r = 15 ∧ ρ = some (.inl (-3)) ∧ σ' = zs h hl) ∨ ((((0 ≤ a ∧ a < h 104 3) ∧ 0 ≤ b ∧ b < h 104 3) ∧ a ≠ b ∧ 1 ≤ len ∧ len ≤ 100) ∧ ¬ 0 < h 104 9 ∧ r < 15 ∧ ρ = some (.inl ((r : Int) + 1)) ∧ σ' = zs (zup (zup (zup (zup h 105 r a) 106 r b) 107 r len) 104 4 ((r : Int) + 1)) hl)) := by
  refine zQ_of (Nat.le_of_ble_eq_true rfl) ?_
  show zH (d + 2) 109 (0, [some (.inr (.inr (some 104))), some (.inl a), some (.inl b), some (.inl len)], [], (zs h0 hl)) _
  refine zH_go 3 (c' := (5, [some (.inr (.inr (some 104))), some (.inl a), some (.inl b), some (.inl len)], [], (zs (zup h0 104 0 0) hl))) rfl ?_
  rw [e0]
  refine zH_go 2 (c' := (7, [some (.inr (.inr (some 104))), some (.inl a), some (.inl b), some (.inl len)], [.inl a, .inr (.inr (some 104))], (zs h hl))) rfl ?_
  refine zH_np (P := zr a) (c' := (8, [some (.inr (.inr (some 104))), some (.inl a), some (.inl b), some (.inl len)], [.inr (.inl a), .inr (.inr (some 104))], (zs h hl))) rfl (by first | assumption | (unfold zr; omega)) ?_
  refine zH_go 1 (c' := (9, [some (.inr (.inr (some 104))), some (.inl a), some (.inl b), some (.inl len)], [.inl b, .inr (.inl a), .inr (.inr (some 104))], (zs h hl))) rfl ?_
  refine zH_np (P := zr b) (c' := (10, [some (.inr (.inr (some 104))), some (.inl a), some (.inl b), some (.inl len)], [.inr (.inl b), .inr (.inl a), .inr (.inr (some 104))], (zs h hl))) rfl (by first | assumption | (unfold zr; omega)) ?_
  refine zH_go 1 (c' := (11, [some (.inr (.inr (some 104))), some (.inl a), some (.inl b), some (.inl len)], [.inl len, .inr (.inl b), .inr (.inl a), .inr (.inr (some 104))], (zs h hl))) rfl ?_
  refine zH_np (P := zr len) (c' := (12, [some (.inr (.inr (some 104))), some (.inl a), some (.inl b), some (.inl len)], [.inr (.inl len), .inr (.inl b), .inr (.inl a), .inr (.inr (some 104))], (zs h hl))) rfl (by first | assumption | (unfold zr; omega)) ?_
  refine zH_call (M' := 108) (as := [.inr (.inr (some 104)), .inr (.inl a), .inr (.inl b), .inr (.inl len)]) (T := []) rfl (p_addRoadO (zr_l ha) (zr_l hb) (zr_l hlen) hr15 hr4 hP hon) (fun r' σ' pm => ?_)
  rcases pm with ⟨q1, rfl, rfl⟩ | ⟨q1, q2, rfl, rfl⟩ | ⟨q1, q2, q3, rfl, rfl⟩ | ⟨q1, q2, q3, rfl, rfl⟩
  · show zH _ _ (15, [some (.inr (.inr (some 104))), some (.inl a), some (.inl b), some (.inl len)], [.inl (-1)], (zs h hl)) _
    refine zH_ret (v := some (.inl (-1))) rfl (fun q => absurd q (by decide)) ?_
    exact Or.inl ⟨q1, rfl, rfl⟩
  · show zH _ _ (15, [some (.inr (.inr (some 104))), some (.inl a), some (.inl b), some (.inl len)], [.inl (-2)], (zs h hl)) _
    refine zH_ret (v := some (.inl (-2))) rfl (fun q => absurd q (by decide)) ?_
    exact Or.inr (Or.inl ⟨q1, q2, rfl, rfl⟩)
  · show zH _ _ (15, [some (.inr (.inr (some 104))), some (.inl a), some (.inl b), some (.inl len)], [.inl (-3)], (zs h hl)) _
    refine zH_ret (v := some (.inl (-3))) rfl (fun q => absurd q (by decide)) ?_
    exact Or.inr (Or.inr (Or.inl ⟨q1, q2, q3, rfl, rfl⟩))
  · show zH _ _ (15, [some (.inr (.inr (some 104))), some (.inl a), some (.inl b), some (.inl len)], [.inl ((r : Int) + 1)], (zs (zup (zup (zup (zup h 105 r a) 106 r b) 107 r len) 104 4 ((r : Int) + 1)) hl)) _
    refine zH_ret (v := some (.inl ((r : Int) + 1))) rfl (fun q => absurd q (by decide)) ?_
    exact Or.inr (Or.inr (Or.inr ⟨q1, q2, q3, rfl, rfl⟩))
set_option maxRecDepth 100000 in
set_option maxHeartbeats 4000000 in
theorem p_apartO {d : Nat} {h0 h hl : Nat → Nat → Int} (e0 : zup h0 104 0 0 = h) {a b : Int} (ha : zr a) (hb : zr b) {p r : Nat} (hW : zTown h p r) : zQ (d + 3) 110 [.inr (.inr (some 104)), .inl a, .inl b] (zs h0 hl) (fun r' σ' => ∃ g : Nat → Nat → Int, ((¬ ((0 ≤ a ∧ a < h 104 3) ∧ 0 ≤ b ∧ b < h 104 3) ∧ r' = some (.inl (-1)) ∧ σ' = zs g hl) ∨ (((0 ≤ a ∧ a < h 104 3) ∧ 0 ≤ b ∧ b < h 104 3) ∧ 1000000 ≤ h (12 + Int.toNat a) (Int.toNat b) ∧ r' = some (.inl (-9)) ∧ σ' = zs g hl) ∨ (((0 ≤ a ∧ a < h 104 3) ∧ 0 ≤ b ∧ b < h 104 3) ∧ h (12 + Int.toNat a) (Int.toNat b) < 1000000 ∧ r' = some (.inl (h (12 + Int.toNat a) (Int.toNat b))) ∧ σ' = zs g hl)) ∧ (g = h ∨ ((∀ c : Nat, c ≠ 108 → g c = h c) ∧ (∀ i j : Nat, i < 6 → j < 6 → g 108 (6 * i + j) = zFa h i j)))) := by
  have hWc := hW
  obtain ⟨hp6, hr15, h30, h31, hp3, hr4, hMe, hTB, hCn, hPo, hRd, hLk, hGr⟩ := hWc
  have hP : 0 ≤ h 104 3 ∧ h 104 3 ≤ 6 := by omega
  refine zQ_of (Nat.le_of_ble_eq_true rfl) ?_
  show zH (d + 2) 110 (0, [some (.inr (.inr (some 104))), some (.inl a), some (.inl b)], [], (zs h0 hl)) _
  refine zH_go 3 (c' := (5, [some (.inr (.inr (some 104))), some (.inl a), some (.inl b)], [], (zs (zup h0 104 0 0) hl))) rfl ?_
  rw [e0]
  refine zH_go 2 (c' := (7, [some (.inr (.inr (some 104))), some (.inl a), some (.inl b)], [.inl a, .inr (.inr (some 104))], (zs h hl))) rfl ?_
  refine zH_call (M' := 104) (as := [.inr (.inr (some 104)), .inl a]) (T := []) rfl (p_isPl (by first | assumption | (unfold zr; omega)) hP) (fun r σ' p_1 => ?_)
  rcases p_1 with ⟨rfl, b_2, rfl⟩ | ⟨rfl, b_2, rfl⟩
  · show zH _ _ (10, [some (.inr (.inr (some 104))), some (.inl a), some (.inl b)], [.inl 1], (zs h hl)) _
    refine zH_bf (x := 1) (y := 0) (k := .eq) (c1 := (21, [some (.inr (.inr (some 104))), some (.inl a), some (.inl b)], [], (zs h hl))) (c2 := (13, [some (.inr (.inr (some 104))), some (.inl a), some (.inl b)], [], (zs h hl))) rfl ⟨by decide, by decide⟩ ⟨by decide, by decide⟩ (by show ¬ (1 = 0); decide) ?_
    refine zH_go 2 (c' := (15, [some (.inr (.inr (some 104))), some (.inl a), some (.inl b)], [.inl b, .inr (.inr (some 104))], (zs h hl))) rfl ?_
    refine zH_call (M' := 104) (as := [.inr (.inr (some 104)), .inl b]) (T := []) rfl (p_isPl (by first | assumption | (unfold zr; omega)) hP) (fun r σ' p_3 => ?_)
    rcases p_3 with ⟨rfl, b_4, rfl⟩ | ⟨rfl, b_4, rfl⟩
    · show zH _ _ (18, [some (.inr (.inr (some 104))), some (.inl a), some (.inl b)], [.inl 1], (zs h hl)) _
      refine zH_bt (x := 1) (y := 0) (k := .ne) (c1 := (23, [some (.inr (.inr (some 104))), some (.inl a), some (.inl b)], [], (zs h hl))) (c2 := (21, [some (.inr (.inr (some 104))), some (.inl a), some (.inl b)], [], (zs h hl))) rfl ⟨by decide, by decide⟩ ⟨by decide, by decide⟩ (by show ¬ 1 = 0; decide) ?_
      obtain ⟨x, rfl⟩ := Int.eq_ofNat_of_zero_le (show 0 ≤ a by omega)
      obtain ⟨y, rfl⟩ := Int.eq_ofNat_of_zero_le (show 0 ≤ b by omega)
      show zH _ _ (23, [some (.inr (.inr (some 104))), some (.inl (x : Int)), some (.inl (y : Int))], [], (zs h hl)) _
      refine zH_go 1 (c' := (24, [some (.inr (.inr (some 104))), some (.inl (x : Int)), some (.inl (y : Int))], [.inr (.inr (some 104))], (zs h hl))) rfl ?_
      refine zH_call (M' := 105) (as := [.inr (.inr (some 104))]) (T := []) rfl (p_meas hW) (fun r' σ' pm => ?_)
      obtain ⟨rfl, g, rfl, f1, f2⟩ := pm
      have hxy := f2 x y (by omega) (by omega)
      have zxy := zFa_spec hW (show x < 6 by omega) (show y < 6 by omega)
      show zH _ _ (27, [some (.inr (.inr (some 104))), some (.inl (x : Int)), some (.inl (y : Int))], [], (zs g hl)) _
      refine zH_go 7 (c' := (37, [some (.inr (.inr (some 104))), some (.inl (x : Int)), some (.inl (y : Int))], [.inl ((6 * (x : Int)) + (y : Int)), .inr (.inr (some 108))], (zs g hl))) rfl ?_
      refine zH_np (P := 0 ≤ ((6 * (x : Int)) + (y : Int)) ∧ ((6 * (x : Int)) + (y : Int)) < ((36 : Nat) : Int)) (c' := (38, [some (.inr (.inr (some 104))), some (.inl (x : Int)), some (.inl (y : Int))], [.inl (g 108 ((6 * x) + y))], (zs g hl))) rfl ⟨by omega, by omega⟩ ?_
      refine zH_go 1 (c' := (40, [some (.inr (.inr (some 104))), some (.inl (x : Int)), some (.inl (y : Int))], [.inl 100000000, .inl (g 108 ((6 * x) + y))], (zs g hl))) rfl ?_
      refine zH_br (x := (g 108 ((6 * x) + y))) (y := 100000000) (k := .lt) (c1 := (48, [some (.inr (.inr (some 104))), some (.inl (x : Int)), some (.inl (y : Int))], [], (zs g hl))) (c2 := (43, [some (.inr (.inr (some 104))), some (.inl (x : Int)), some (.inl (y : Int))], [], (zs g hl))) rfl (by first | assumption | (unfold zr; omega)) ⟨by decide, by decide⟩ (fun (b_5 : (g 108 ((6 * x) + y)) < 100000000) => ?_) (fun (b_5 : ¬ ((g 108 ((6 * x) + y)) < 100000000)) => ?_)
      · refine zH_go 7 (c' := (58, [some (.inr (.inr (some 104))), some (.inl (x : Int)), some (.inl (y : Int))], [.inl ((6 * (x : Int)) + (y : Int)), .inr (.inr (some 108))], (zs g hl))) rfl ?_
        refine zH_np (P := 0 ≤ ((6 * (x : Int)) + (y : Int)) ∧ ((6 * (x : Int)) + (y : Int)) < ((36 : Nat) : Int)) (c' := (59, [some (.inr (.inr (some 104))), some (.inl (x : Int)), some (.inl (y : Int))], [.inl (g 108 ((6 * x) + y))], (zs g hl))) rfl ⟨by omega, by omega⟩ ?_
        refine zH_ret (v := some (.inl (g 108 ((6 * x) + y)))) rfl (fun q => absurd q (by decide)) ?_
        exact ⟨g, Or.inr (Or.inr ⟨by omega, by rw [Int.toNat_natCast, Int.toNat_natCast]; omega, congrArg (fun z => some (Sum.inl z)) (by rw [Int.toNat_natCast, Int.toNat_natCast]; omega), rfl⟩), Or.inr ⟨f1, f2⟩⟩
      · refine zH_go 2 (c' := (59, [some (.inr (.inr (some 104))), some (.inl (x : Int)), some (.inl (y : Int))], [.inl (-9)], (zs g hl))) rfl ?_
        refine zH_ret (v := some (.inl (-9))) rfl (fun q => absurd q (by decide)) ?_
        exact ⟨g, Or.inr (Or.inl ⟨by omega, by rw [Int.toNat_natCast, Int.toNat_natCast]; omega, rfl, rfl⟩), Or.inr ⟨f1, f2⟩⟩
    · show zH _ _ (18, [some (.inr (.inr (some 104))), some (.inl a), some (.inl b)], [.inl 0], (zs h hl)) _
      refine zH_bf (x := 0) (y := 0) (k := .ne) (c1 := (23, [some (.inr (.inr (some 104))), some (.inl a), some (.inl b)], [], (zs h hl))) (c2 := (21, [some (.inr (.inr (some 104))), some (.inl a), some (.inl b)], [], (zs h hl))) rfl ⟨by decide, by decide⟩ ⟨by decide, by decide⟩ (by show ¬ (¬ 0 = 0); decide) ?_
      refine zH_go 1 (c' := (22, [some (.inr (.inr (some 104))), some (.inl a), some (.inl b)], [.inl (-1)], (zs h hl))) rfl ?_
      refine zH_ret (v := some (.inl (-1))) rfl (fun q => absurd q (by decide)) ?_
      exact ⟨h, Or.inl ⟨by omega, rfl, rfl⟩, Or.inl rfl⟩
  · show zH _ _ (10, [some (.inr (.inr (some 104))), some (.inl a), some (.inl b)], [.inl 0], (zs h hl)) _
    refine zH_bt (x := 0) (y := 0) (k := .eq) (c1 := (21, [some (.inr (.inr (some 104))), some (.inl a), some (.inl b)], [], (zs h hl))) (c2 := (13, [some (.inr (.inr (some 104))), some (.inl a), some (.inl b)], [], (zs h hl))) rfl ⟨by decide, by decide⟩ ⟨by decide, by decide⟩ (by show 0 = 0; decide) ?_
    refine zH_go 1 (c' := (22, [some (.inr (.inr (some 104))), some (.inl a), some (.inl b)], [.inl (-1)], (zs h hl))) rfl ?_
    refine zH_ret (v := some (.inl (-1))) rfl (fun q => absurd q (by decide)) ?_
    exact ⟨h, Or.inl ⟨by omega, rfl, rfl⟩, Or.inl rfl⟩
