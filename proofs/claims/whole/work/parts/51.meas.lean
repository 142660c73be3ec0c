/-! The model: how far all are from one another. -/
theorem zH_mg2 {d M : Nat} {Post : Option zV → zS → Prop} {X : Type} {c : zC} {F : X → zC} {R : X → Prop} (k1 : ∀ m : X, R m → zH d M (F m) Post) (k2 : (∀ m : X, R m → zH d M (F m) Post) → zH d M c Post) : zH d M c Post := k2 k1
theorem zbm_id {x : Int} (h : zr x) : Int.bmod x 4294967296 = x := Int.bmod_eq_of_le (by have := h.1; omega) (by have := h.2; omega)
set_option maxRecDepth 100000 in
set_option maxHeartbeats 4000000 in
theorem p_meas {d : Nat} {h hl : Nat → Nat → Int} {p r : Nat} (hW : zTown h p r) : zQ (d + 1) 105 [.inr (.inr (some 104))] (zs h hl) (fun r σ' => r = none ∧ ∃ g : Nat → Nat → Int, σ' = zs g hl ∧ (∀ c : Nat, c ≠ 108 → g c = h c) ∧ ∀ i j : Nat, i < 6 → j < 6 → g 108 (6 * i + j) = zFa h i j) := by
  have hWc := hW
  obtain ⟨hp6, hr15, h30, h31, hp3, hr4, hMe, hTB, hCn, hPo, hRd, hLk, hGr⟩ := hWc
  refine zQ_of (Nat.le_of_ble_eq_true rfl) ?_
  show zH d 105 (0, [some (.inr (.inr (some 104))), none, none, none, none], [], (zs h hl)) _
  refine zH_go 2 (c' := (2, [some (.inr (.inr (some 104))), some (.inl 0), none, none, none], [], (zs h hl))) rfl ?_
  refine zH_lp (X := (Nat → Nat → Int) × (Option zV)) (F := fun (kq : Nat) (x : (Nat → Nat → Int) × (Option zV)) => (2, [some (.inr (.inr (some 104))), some (.inl (kq : Int)), x.2, none, none], [], (zs x.1 hl))) (I := fun (kq : Nat) (x : (Nat → Nat → Int) × (Option zV)) => (∀ c : Nat, c ≠ 108 → x.1 c = h c) ∧ ∀ i j : Nat, i < kq → j < 6 → x.1 108 (6 * i + j) = if i = j then 0 else 100000000) (N := 6) (fun a x hk hI ih => ?_) (fun x hI => ?_) 0 (h, none) (by omega) ?_
  · obtain ⟨g, x2⟩ := x
    replace hI : (∀ c : Nat, c ≠ 108 → g c = h c) ∧ ∀ i j : Nat, i < a → j < 6 → g 108 (6 * i + j) = if i = j then 0 else 100000000 := hI
    show zH _ _ (2, [some (.inr (.inr (some 104))), some (.inl (a : Int)), x2, none, none], [], (zs g hl)) _
    refine zH_go 2 (c' := (5, [some (.inr (.inr (some 104))), some (.inl (a : Int)), x2, none, none], [.inl 6, .inl (a : Int)], (zs g hl))) rfl ?_
    refine zH_bf (x := (a : Int)) (y := 6) (k := .ge) (c1 := (50, [some (.inr (.inr (some 104))), some (.inl (a : Int)), x2, none, none], [], (zs g hl))) (c2 := (8, [some (.inr (.inr (some 104))), some (.inl (a : Int)), x2, none, none], [], (zs g hl))) rfl (by first | assumption | (unfold zr; omega)) ⟨by decide, by decide⟩ (by show ¬ (¬ (a : Int) < 6); omega) ?_
    refine zH_go 2 (c' := (10, [some (.inr (.inr (some 104))), some (.inl (a : Int)), some (.inl 0), none, none], [], (zs g hl))) rfl ?_
    refine zH_lp (X := (Nat → Nat → Int)) (F := fun (kq : Nat) (x : (Nat → Nat → Int)) => (10, [some (.inr (.inr (some 104))), some (.inl (a : Int)), some (.inl (kq : Int)), none, none], [], (zs x hl))) (I := fun (kq : Nat) (x : (Nat → Nat → Int)) => (∀ c : Nat, c ≠ 108 → x c = h c) ∧ ∀ i j : Nat, i < 6 → j < 6 → (i < a ∨ (i = a ∧ j < kq)) → x 108 (6 * i + j) = if i = j then 0 else 100000000) (N := 6) (fun b g2 hkb hJ ih2 => ?_) (fun g2 hJ => ?_) 0 g (by omega) ?_
    · skip
      replace hJ : (∀ c : Nat, c ≠ 108 → g2 c = h c) ∧ ∀ i j : Nat, i < 6 → j < 6 → (i < a ∨ (i = a ∧ j < b)) → g2 108 (6 * i + j) = if i = j then 0 else 100000000 := hJ
      show zH _ _ (10, [some (.inr (.inr (some 104))), some (.inl (a : Int)), some (.inl (b : Int)), none, none], [], (zs g2 hl)) _
      refine zH_go 2 (c' := (13, [some (.inr (.inr (some 104))), some (.inl (a : Int)), some (.inl (b : Int)), none, none], [.inl 6, .inl (b : Int)], (zs g2 hl))) rfl ?_
      refine zH_bf (x := (b : Int)) (y := 6) (k := .ge) (c1 := (44, [some (.inr (.inr (some 104))), some (.inl (a : Int)), some (.inl (b : Int)), none, none], [], (zs g2 hl))) (c2 := (16, [some (.inr (.inr (some 104))), some (.inl (a : Int)), some (.inl (b : Int)), none, none], [], (zs g2 hl))) rfl (by first | assumption | (unfold zr; omega)) ⟨by decide, by decide⟩ (by show ¬ (¬ (b : Int) < 6); omega) ?_
      refine zH_go 9 (c' := (28, [some (.inr (.inr (some 104))), some (.inl (a : Int)), some (.inl (b : Int)), none, none], [.inl (b : Int), .inl (a : Int), .inl ((6 * (a : Int)) + (b : Int)), .inr (.inr (some 108))], (zs g2 hl))) rfl ?_
      refine zH_mg (F := fun m => (37, [some (.inr (.inr (some 104))), some (.inl (a : Int)), some (.inl (b : Int)), none, none], [.inl m, .inl ((6 * (a : Int)) + (b : Int)), .inr (.inr (some 108))], (zs g2 hl))) (R := fun m => m = if a = b then 0 else 100000000) (fun m_1 fm_1 => ?_) (fun kk => ?_)
      · replace fm_1 : m_1 = if a = b then 0 else 100000000 := fm_1
        show zH _ _ (37, [some (.inr (.inr (some 104))), some (.inl (a : Int)), some (.inl (b : Int)), none, none], [.inl m_1, .inl ((6 * (a : Int)) + (b : Int)), .inr (.inr (some 108))], (zs g2 hl)) _
        refine zH_np (P := 0 ≤ ((6 * (a : Int)) + (b : Int)) ∧ ((6 * (a : Int)) + (b : Int)) < ((36 : Nat) : Int)) (c' := (38, [some (.inr (.inr (some 104))), some (.inl (a : Int)), some (.inl (b : Int)), none, none], [], (zs (zup g2 108 ((6 * a) + b) m_1) hl))) rfl ⟨by omega, by omega⟩ ?_
        refine zH_go 2 (c' := (10, [some (.inr (.inr (some 104))), some (.inl (a : Int)), some (.inl ((b : Int) + 1)), none, none], [], (zs (zup g2 108 ((6 * a) + b) m_1) hl))) rfl ?_
        refine ih2 (zup g2 108 ((6 * a) + b) m_1) ?_
        show (∀ c : Nat, c ≠ 108 → (zup g2 108 ((6 * a) + b) m_1) c = h c) ∧ ∀ i j : Nat, i < 6 → j < 6 → (i < a ∨ (i = a ∧ j < (b + 1))) → (zup g2 108 ((6 * a) + b) m_1) 108 (6 * i + j) = if i = j then 0 else 100000000
        refine ⟨fun c hc => ?_, fun i j hi hj hq => ?_⟩
        · rw [← hJ.1 c hc]; funext q; exact zup_ne hc
        · by_cases q : i = a ∧ j = b
          · rw [q.1, q.2, zup_eq]; exact fm_1
          · rw [zup_k (by omega)]; exact hJ.2 i j hi hj (by omega)
      · refine zH_br (x := (a : Int)) (y := (b : Int)) (k := .ne) (c1 := (35, [some (.inr (.inr (some 104))), some (.inl (a : Int)), some (.inl (b : Int)), none, none], [.inl ((6 * (a : Int)) + (b : Int)), .inr (.inr (some 108))], (zs g2 hl))) (c2 := (31, [some (.inr (.inr (some 104))), some (.inl (a : Int)), some (.inl (b : Int)), none, none], [.inl ((6 * (a : Int)) + (b : Int)), .inr (.inr (some 108))], (zs g2 hl))) rfl (by first | assumption | (unfold zr; omega)) (by first | assumption | (unfold zr; omega)) (fun (b_2 : ¬ (a : Int) = (b : Int)) => ?_) (fun (b_2 : ¬ (¬ (a : Int) = (b : Int))) => ?_)
        · refine zH_go 1 (c' := (37, [some (.inr (.inr (some 104))), some (.inl (a : Int)), some (.inl (b : Int)), none, none], [.inl 100000000, .inl ((6 * (a : Int)) + (b : Int)), .inr (.inr (some 108))], (zs g2 hl))) rfl ?_
          refine kk 100000000 ?_
          show 100000000 = if a = b then 0 else 100000000
          rw [if_neg (by omega)]
        · refine zH_go 2 (c' := (37, [some (.inr (.inr (some 104))), some (.inl (a : Int)), some (.inl (b : Int)), none, none], [.inl 0, .inl ((6 * (a : Int)) + (b : Int)), .inr (.inr (some 108))], (zs g2 hl))) rfl ?_
          refine kk 0 ?_
          show 0 = if a = b then 0 else 100000000
          rw [if_pos (by omega)]
    · skip
      replace hJ : (∀ c : Nat, c ≠ 108 → g2 c = h c) ∧ ∀ i j : Nat, i < 6 → j < 6 → (i < a ∨ (i = a ∧ j < 6)) → g2 108 (6 * i + j) = if i = j then 0 else 100000000 := hJ
      show zH _ _ (10, [some (.inr (.inr (some 104))), some (.inl (a : Int)), some (.inl 6), none, none], [], (zs g2 hl)) _
      refine zH_go 2 (c' := (13, [some (.inr (.inr (some 104))), some (.inl (a : Int)), some (.inl 6), none, none], [.inl 6, .inl 6], (zs g2 hl))) rfl ?_
      refine zH_bt (x := 6) (y := 6) (k := .ge) (c1 := (44, [some (.inr (.inr (some 104))), some (.inl (a : Int)), some (.inl 6), none, none], [], (zs g2 hl))) (c2 := (16, [some (.inr (.inr (some 104))), some (.inl (a : Int)), some (.inl 6), none, none], [], (zs g2 hl))) rfl ⟨by decide, by decide⟩ ⟨by decide, by decide⟩ (by show ¬ 6 < 6; decide) ?_
      refine zH_go 2 (c' := (2, [some (.inr (.inr (some 104))), some (.inl ((a : Int) + 1)), some (.inl 6), none, none], [], (zs g2 hl))) rfl ?_
      refine ih (g2, (some (.inl 6))) ?_
      show (∀ c : Nat, c ≠ 108 → g2 c = h c) ∧ ∀ i j : Nat, i < (a + 1) → j < 6 → g2 108 (6 * i + j) = if i = j then 0 else 100000000
      exact ⟨hJ.1, fun i j hi hj => hJ.2 i j (by omega) hj (by omega)⟩
    · show (∀ c : Nat, c ≠ 108 → g c = h c) ∧ ∀ i j : Nat, i < 6 → j < 6 → (i < a ∨ (i = a ∧ j < 0)) → g 108 (6 * i + j) = if i = j then 0 else 100000000
      exact ⟨hI.1, fun i j hi hj hq => hI.2 i j (by omega) hj⟩
  · obtain ⟨g, x2⟩ := x
    replace hI : (∀ c : Nat, c ≠ 108 → g c = h c) ∧ ∀ i j : Nat, i < 6 → j < 6 → g 108 (6 * i + j) = if i = j then 0 else 100000000 := hI
    show zH _ _ (2, [some (.inr (.inr (some 104))), some (.inl 6), x2, none, none], [], (zs g hl)) _
    refine zH_go 2 (c' := (5, [some (.inr (.inr (some 104))), some (.inl 6), x2, none, none], [.inl 6, .inl 6], (zs g hl))) rfl ?_
    refine zH_bt (x := 6) (y := 6) (k := .ge) (c1 := (50, [some (.inr (.inr (some 104))), some (.inl 6), x2, none, none], [], (zs g hl))) (c2 := (8, [some (.inr (.inr (some 104))), some (.inl 6), x2, none, none], [], (zs g hl))) rfl ⟨by decide, by decide⟩ ⟨by decide, by decide⟩ (by show ¬ 6 < 6; decide) ?_
    refine zH_go 2 (c' := (52, [some (.inr (.inr (some 104))), some (.inl 0), x2, none, none], [], (zs g hl))) rfl ?_
    refine zH_lp (X := (Nat → Nat → Int) × (Option zV) × (Option zV)) (F := fun (kq : Nat) (x : (Nat → Nat → Int) × (Option zV) × (Option zV)) => (52, [some (.inr (.inr (some 104))), some (.inl (kq : Int)), x.2.1, x.2.2, none], [], (zs x.1 hl))) (I := fun (kq : Nat) (x : (Nat → Nat → Int) × (Option zV) × (Option zV)) => (∀ c : Nat, c ≠ 108 → x.1 c = h c) ∧ zFI h x.1 kq 0) (N := r) (fun k x hk hI ih => ?_) (fun x hI => ?_) 0 (g, x2, none) (by omega) ?_
    · obtain ⟨g, x2, x3⟩ := x
      replace hI : (∀ c : Nat, c ≠ 108 → g c = h c) ∧ zFI h g k 0 := hI
      show zH _ _ (52, [some (.inr (.inr (some 104))), some (.inl (k : Int)), x2, x3, none], [], (zs g hl)) _
      have g4 : g 104 4 = (r : Int) := by rw [hI.1 104 (by decide)]; exact hr4
      obtain ⟨a, b, ha, hb, hab, ra, rb, rl⟩ := hRd k hk
      have ga : g 105 k = (a : Int) := by rw [hI.1 105 (by decide)]; exact ra
      have gb : g 106 k = (b : Int) := by rw [hI.1 106 (by decide)]; exact rb
      have gl : g 107 k = h 107 k := by rw [hI.1 107 (by decide)]
      have hf := (hI.2.2.1 a b (by omega) (by omega)).1
      refine zH_go 3 (c' := (57, [some (.inr (.inr (some 104))), some (.inl (k : Int)), x2, x3, none], [.inl (g 104 4), .inl (k : Int)], (zs g hl))) rfl ?_
      rw [g4]
      refine zH_bf (x := (k : Int)) (y := (r : Int)) (k := .ge) (c1 := (134, [some (.inr (.inr (some 104))), some (.inl (k : Int)), x2, x3, none], [], (zs g hl))) (c2 := (60, [some (.inr (.inr (some 104))), some (.inl (k : Int)), x2, x3, none], [], (zs g hl))) rfl (by first | assumption | (unfold zr; omega)) (by first | assumption | (unfold zr; omega)) (by show ¬ (¬ (k : Int) < (r : Int)); omega) ?_
      refine zH_go 3 (c' := (65, [some (.inr (.inr (some 104))), some (.inl (k : Int)), x2, x3, none], [.inl (k : Int), .inr (.inr (some 105))], (zs g hl))) rfl ?_
      refine zH_np (P := 0 ≤ (k : Int) ∧ (k : Int) < ((15 : Nat) : Int)) (c' := (66, [some (.inr (.inr (some 104))), some (.inl (k : Int)), x2, x3, none], [.inl (g 105 k)], (zs g hl))) rfl ⟨by omega, by omega⟩ ?_
      rw [ga]
      refine zH_go 4 (c' := (72, [some (.inr (.inr (some 104))), some (.inl (k : Int)), some (.inl (a : Int)), x3, none], [.inl (k : Int), .inr (.inr (some 106))], (zs g hl))) rfl ?_
      refine zH_np (P := 0 ≤ (k : Int) ∧ (k : Int) < ((15 : Nat) : Int)) (c' := (73, [some (.inr (.inr (some 104))), some (.inl (k : Int)), some (.inl (a : Int)), x3, none], [.inl (g 106 k)], (zs g hl))) rfl ⟨by omega, by omega⟩ ?_
      rw [gb]
      refine zH_go 4 (c' := (79, [some (.inr (.inr (some 104))), some (.inl (k : Int)), some (.inl (a : Int)), some (.inl (b : Int)), none], [.inl (k : Int), .inr (.inr (some 107))], (zs g hl))) rfl ?_
      refine zH_np (P := 0 ≤ (k : Int) ∧ (k : Int) < ((15 : Nat) : Int)) (c' := (80, [some (.inr (.inr (some 104))), some (.inl (k : Int)), some (.inl (a : Int)), some (.inl (b : Int)), none], [.inl (g 107 k)], (zs g hl))) rfl ⟨by omega, by omega⟩ ?_
      rw [gl]
      refine zH_go 7 (c' := (90, [some (.inr (.inr (some 104))), some (.inl (k : Int)), some (.inl (a : Int)), some (.inl (b : Int)), none], [.inl ((6 * (a : Int)) + (b : Int)), .inr (.inr (some 108)), .inl (h 107 k)], (zs g hl))) rfl ?_
      refine zH_np (P := 0 ≤ ((6 * (a : Int)) + (b : Int)) ∧ ((6 * (a : Int)) + (b : Int)) < ((36 : Nat) : Int)) (c' := (91, [some (.inr (.inr (some 104))), some (.inl (k : Int)), some (.inl (a : Int)), some (.inl (b : Int)), none], [.inl (g 108 ((6 * a) + b)), .inl (h 107 k)], (zs g hl))) rfl ⟨by omega, by omega⟩ ?_
      refine zH_br (x := (h 107 k)) (y := (g 108 ((6 * a) + b))) (k := .ge) (c1 := (128, [some (.inr (.inr (some 104))), some (.inl (k : Int)), some (.inl (a : Int)), some (.inl (b : Int)), none], [], (zs g hl))) (c2 := (94, [some (.inr (.inr (some 104))), some (.inl (k : Int)), some (.inl (a : Int)), some (.inl (b : Int)), none], [], (zs g hl))) rfl (by first | assumption | (unfold zr; omega)) (by first | assumption | (unfold zr; omega)) (fun (b_3 : ¬ (h 107 k) < (g 108 ((6 * a) + b))) => ?_) (fun (b_3 : ¬ (¬ (h 107 k) < (g 108 ((6 * a) + b)))) => ?_)
      · refine zH_go 2 (c' := (52, [some (.inr (.inr (some 104))), some (.inl ((k : Int) + 1)), some (.inl (a : Int)), some (.inl (b : Int)), none], [], (zs g hl))) rfl ?_
        refine ih (g, (some (.inl (a : Int))), (some (.inl (b : Int)))) ?_
        show (∀ c : Nat, c ≠ 108 → g c = h c) ∧ zFI h g (k + 1) 0
        exact ⟨hI.1, zFI_no hI.2 (show a < 6 by omega) (show b < 6 by omega) ra rb (by omega)⟩
      · refine zH_go 10 (c' := (109, [some (.inr (.inr (some 104))), some (.inl (k : Int)), some (.inl (a : Int)), some (.inl (b : Int)), none], [.inl (k : Int), .inr (.inr (some 107)), .inl ((6 * (a : Int)) + (b : Int)), .inr (.inr (some 108))], (zs g hl))) rfl ?_
        refine zH_np (P := 0 ≤ (k : Int) ∧ (k : Int) < ((15 : Nat) : Int)) (c' := (110, [some (.inr (.inr (some 104))), some (.inl (k : Int)), some (.inl (a : Int)), some (.inl (b : Int)), none], [.inl (g 107 k), .inl ((6 * (a : Int)) + (b : Int)), .inr (.inr (some 108))], (zs g hl))) rfl ⟨by omega, by omega⟩ ?_
        rw [gl]
        refine zH_np (P := 0 ≤ ((6 * (a : Int)) + (b : Int)) ∧ ((6 * (a : Int)) + (b : Int)) < ((36 : Nat) : Int)) (c' := (111, [some (.inr (.inr (some 104))), some (.inl (k : Int)), some (.inl (a : Int)), some (.inl (b : Int)), none], [], (zs (zup g 108 ((6 * a) + b) (h 107 k)) hl))) rfl ⟨by omega, by omega⟩ ?_
        refine zH_go 10 (c' := (126, [some (.inr (.inr (some 104))), some (.inl (k : Int)), some (.inl (a : Int)), some (.inl (b : Int)), none], [.inl (k : Int), .inr (.inr (some 107)), .inl ((6 * (b : Int)) + (a : Int)), .inr (.inr (some 108))], (zs (zup g 108 ((6 * a) + b) (h 107 k)) hl))) rfl ?_
        refine zH_np (P := 0 ≤ (k : Int) ∧ (k : Int) < ((15 : Nat) : Int)) (c' := (127, [some (.inr (.inr (some 104))), some (.inl (k : Int)), some (.inl (a : Int)), some (.inl (b : Int)), none], [.inl (g 107 k), .inl ((6 * (b : Int)) + (a : Int)), .inr (.inr (some 108))], (zs (zup g 108 ((6 * a) + b) (h 107 k)) hl))) rfl ⟨by omega, by omega⟩ ?_
        rw [gl]
        refine zH_np (P := 0 ≤ ((6 * (b : Int)) + (a : Int)) ∧ ((6 * (b : Int)) + (a : Int)) < ((36 : Nat) : Int)) (c' := (128, [some (.inr (.inr (some 104))), some (.inl (k : Int)), some (.inl (a : Int)), some (.inl (b : Int)), none], [], (zs (zup (zup g 108 ((6 * a) + b) (h 107 k)) 108 ((6 * b) + a) (h 107 k)) hl))) rfl ⟨by omega, by omega⟩ ?_
        refine zH_go 2 (c' := (52, [some (.inr (.inr (some 104))), some (.inl ((k : Int) + 1)), some (.inl (a : Int)), some (.inl (b : Int)), none], [], (zs (zup (zup g 108 ((6 * a) + b) (h 107 k)) 108 ((6 * b) + a) (h 107 k)) hl))) rfl ?_
        refine ih ((zup (zup g 108 ((6 * a) + b) (h 107 k)) 108 ((6 * b) + a) (h 107 k)), (some (.inl (a : Int))), (some (.inl (b : Int)))) ?_
        show (∀ c : Nat, c ≠ 108 → (zup (zup g 108 ((6 * a) + b) (h 107 k)) 108 ((6 * b) + a) (h 107 k)) c = h c) ∧ zFI h (zup (zup g 108 ((6 * a) + b) (h 107 k)) 108 ((6 * b) + a) (h 107 k)) (k + 1) 0
        refine ⟨fun c hc => ?_, zFI_yes hW hk hI.2 (by omega) (by omega) hab ra rb (by omega) rl.1⟩
        rw [← hI.1 c hc]; funext q; rw [zup_ne hc, zup_ne hc]
    · obtain ⟨g, x2, x3⟩ := x
      replace hI : (∀ c : Nat, c ≠ 108 → g c = h c) ∧ zFI h g r 0 := hI
      show zH _ _ (52, [some (.inr (.inr (some 104))), some (.inl (r : Int)), x2, x3, none], [], (zs g hl)) _
      have g4 : g 104 4 = (r : Int) := by rw [hI.1 104 (by decide)]; exact hr4
      refine zH_go 3 (c' := (57, [some (.inr (.inr (some 104))), some (.inl (r : Int)), x2, x3, none], [.inl (g 104 4), .inl (r : Int)], (zs g hl))) rfl ?_
      rw [g4]
      refine zH_bt (x := (r : Int)) (y := (r : Int)) (k := .ge) (c1 := (134, [some (.inr (.inr (some 104))), some (.inl (r : Int)), x2, x3, none], [], (zs g hl))) (c2 := (60, [some (.inr (.inr (some 104))), some (.inl (r : Int)), x2, x3, none], [], (zs g hl))) rfl (by first | assumption | (unfold zr; omega)) (by first | assumption | (unfold zr; omega)) (by show ¬ (r : Int) < (r : Int); omega) ?_
      refine zH_go 2 (c' := (136, [some (.inr (.inr (some 104))), some (.inl 0), x2, x3, none], [], (zs g hl))) rfl ?_
      refine zH_lp (X := (Nat → Nat → Int) × (Option zV) × (Option zV) × (Option zV)) (F := fun (kq : Nat) (x : (Nat → Nat → Int) × (Option zV) × (Option zV) × (Option zV)) => (136, [some (.inr (.inr (some 104))), some (.inl (kq : Int)), x.2.1, x.2.2.1, x.2.2.2], [], (zs x.1 hl))) (I := fun (kq : Nat) (x : (Nat → Nat → Int) × (Option zV) × (Option zV) × (Option zV)) => (∀ c : Nat, c ≠ 108 → x.1 c = h c) ∧ zFI h x.1 r kq) (N := 6) (fun k x hk hI ih => ?_) (fun x hI => ?_) 0 (g, x2, x3, none) (by omega) ?_
      · obtain ⟨g, x2, x3, x4⟩ := x
        replace hI : (∀ c : Nat, c ≠ 108 → g c = h c) ∧ zFI h g r k := hI
        show zH _ _ (136, [some (.inr (.inr (some 104))), some (.inl (k : Int)), x2, x3, x4], [], (zs g hl)) _
        refine zH_go 2 (c' := (139, [some (.inr (.inr (some 104))), some (.inl (k : Int)), x2, x3, x4], [.inl 6, .inl (k : Int)], (zs g hl))) rfl ?_
        refine zH_bf (x := (k : Int)) (y := 6) (k := .ge) (c1 := (244, [some (.inr (.inr (some 104))), some (.inl (k : Int)), x2, x3, x4], [], (zs g hl))) (c2 := (142, [some (.inr (.inr (some 104))), some (.inl (k : Int)), x2, x3, x4], [], (zs g hl))) rfl (by first | assumption | (unfold zr; omega)) ⟨by decide, by decide⟩ (by show ¬ (¬ (k : Int) < 6); omega) ?_
        refine zH_go 2 (c' := (144, [some (.inr (.inr (some 104))), some (.inl (k : Int)), some (.inl 0), x3, x4], [], (zs g hl))) rfl ?_
        refine zH_lp (X := (Nat → Nat → Int) × (Option zV) × (Option zV)) (F := fun (kq : Nat) (x : (Nat → Nat → Int) × (Option zV) × (Option zV)) => (144, [some (.inr (.inr (some 104))), some (.inl (k : Int)), some (.inl (kq : Int)), x.2.1, x.2.2], [], (zs x.1 hl))) (I := fun (kq : Nat) (x : (Nat → Nat → Int) × (Option zV) × (Option zV)) => (∀ c : Nat, c ≠ 108 → x.1 c = h c) ∧ ∀ i j : Nat, i < 6 → j < 6 → x.1 108 (6 * i + j) = if i < kq then min (g 108 (6 * i + j)) (g 108 (6 * i + k) + g 108 (6 * k + j)) else g 108 (6 * i + j)) (N := 6) (fun a x hka hJ ih2 => ?_) (fun x hJ => ?_) 0 (g, x3, x4) (by omega) ?_
        · obtain ⟨g2, x3, x4⟩ := x
          replace hJ : (∀ c : Nat, c ≠ 108 → g2 c = h c) ∧ ∀ i j : Nat, i < 6 → j < 6 → g2 108 (6 * i + j) = if i < a then min (g 108 (6 * i + j)) (g 108 (6 * i + k) + g 108 (6 * k + j)) else g 108 (6 * i + j) := hJ
          show zH _ _ (144, [some (.inr (.inr (some 104))), some (.inl (k : Int)), some (.inl (a : Int)), x3, x4], [], (zs g2 hl)) _
          refine zH_go 2 (c' := (147, [some (.inr (.inr (some 104))), some (.inl (k : Int)), some (.inl (a : Int)), x3, x4], [.inl 6, .inl (a : Int)], (zs g2 hl))) rfl ?_
          refine zH_bf (x := (a : Int)) (y := 6) (k := .ge) (c1 := (238, [some (.inr (.inr (some 104))), some (.inl (k : Int)), some (.inl (a : Int)), x3, x4], [], (zs g2 hl))) (c2 := (150, [some (.inr (.inr (some 104))), some (.inl (k : Int)), some (.inl (a : Int)), x3, x4], [], (zs g2 hl))) rfl (by first | assumption | (unfold zr; omega)) ⟨by decide, by decide⟩ (by show ¬ (¬ (a : Int) < 6); omega) ?_
          refine zH_go 2 (c' := (152, [some (.inr (.inr (some 104))), some (.inl (k : Int)), some (.inl (a : Int)), some (.inl 0), x4], [], (zs g2 hl))) rfl ?_
          refine zH_lp (X := (Nat → Nat → Int) × (Option zV)) (F := fun (kq : Nat) (x : (Nat → Nat → Int) × (Option zV)) => (152, [some (.inr (.inr (some 104))), some (.inl (k : Int)), some (.inl (a : Int)), some (.inl (kq : Int)), x.2], [], (zs x.1 hl))) (I := fun (kq : Nat) (x : (Nat → Nat → Int) × (Option zV)) => (∀ c : Nat, c ≠ 108 → x.1 c = h c) ∧ ∀ i j : Nat, i < 6 → j < 6 → x.1 108 (6 * i + j) = if i < a ∨ (i = a ∧ j < kq) then min (g 108 (6 * i + j)) (g 108 (6 * i + k) + g 108 (6 * k + j)) else g 108 (6 * i + j)) (N := 6) (fun b x hkb hK ih3 => ?_) (fun x hK => ?_) 0 (g2, x4) (by omega) ?_
          · obtain ⟨g3, x4⟩ := x
            replace hK : (∀ c : Nat, c ≠ 108 → g3 c = h c) ∧ ∀ i j : Nat, i < 6 → j < 6 → g3 108 (6 * i + j) = if i < a ∨ (i = a ∧ j < b) then min (g 108 (6 * i + j)) (g 108 (6 * i + k) + g 108 (6 * k + j)) else g 108 (6 * i + j) := hK
            show zH _ _ (152, [some (.inr (.inr (some 104))), some (.inl (k : Int)), some (.inl (a : Int)), some (.inl (b : Int)), x4], [], (zs g3 hl)) _
            have ckk := hI.2.1 k hk
            have cak := (hI.2.2.1 a k hka hk).1
            have ckb := (hI.2.2.1 k b hk hkb).1
            have cab := (hI.2.2.1 a b hka hkb).1
            have eak : g3 108 (6 * a + k) = g 108 (6 * a + k) := by
              rw [hK.2 a k hka hk]; by_cases q : a < a ∨ (a = a ∧ k < b) <;> first | (rw [if_pos q]; omega) | rw [if_neg q]
            have ekb : g3 108 (6 * k + b) = g 108 (6 * k + b) := by
              rw [hK.2 k b hk hkb]; by_cases q : k < a ∨ (k = a ∧ b < b) <;> first | (rw [if_pos q]; omega) | rw [if_neg q]
            have eab : g3 108 (6 * a + b) = g 108 (6 * a + b) := by rw [hK.2 a b hka hkb, if_neg (by omega)]
            refine zH_go 2 (c' := (155, [some (.inr (.inr (some 104))), some (.inl (k : Int)), some (.inl (a : Int)), some (.inl (b : Int)), x4], [.inl 6, .inl (b : Int)], (zs g3 hl))) rfl ?_
            refine zH_bf (x := (b : Int)) (y := 6) (k := .ge) (c1 := (232, [some (.inr (.inr (some 104))), some (.inl (k : Int)), some (.inl (a : Int)), some (.inl (b : Int)), x4], [], (zs g3 hl))) (c2 := (158, [some (.inr (.inr (some 104))), some (.inl (k : Int)), some (.inl (a : Int)), some (.inl (b : Int)), x4], [], (zs g3 hl))) rfl (by first | assumption | (unfold zr; omega)) ⟨by decide, by decide⟩ (by show ¬ (¬ (b : Int) < 6); omega) ?_
            refine zH_go 7 (c' := (168, [some (.inr (.inr (some 104))), some (.inl (k : Int)), some (.inl (a : Int)), some (.inl (b : Int)), x4], [.inl ((6 * (a : Int)) + (k : Int)), .inr (.inr (some 108))], (zs g3 hl))) rfl ?_
            refine zH_np (P := 0 ≤ ((6 * (a : Int)) + (k : Int)) ∧ ((6 * (a : Int)) + (k : Int)) < ((36 : Nat) : Int)) (c' := (169, [some (.inr (.inr (some 104))), some (.inl (k : Int)), some (.inl (a : Int)), some (.inl (b : Int)), x4], [.inl (g3 108 ((6 * a) + k))], (zs g3 hl))) rfl ⟨by omega, by omega⟩ ?_
            refine zH_go 7 (c' := (179, [some (.inr (.inr (some 104))), some (.inl (k : Int)), some (.inl (a : Int)), some (.inl (b : Int)), x4], [.inl ((6 * (k : Int)) + (b : Int)), .inr (.inr (some 108)), .inl (g3 108 ((6 * a) + k))], (zs g3 hl))) rfl ?_
            refine zH_np (P := 0 ≤ ((6 * (k : Int)) + (b : Int)) ∧ ((6 * (k : Int)) + (b : Int)) < ((36 : Nat) : Int)) (c' := (180, [some (.inr (.inr (some 104))), some (.inl (k : Int)), some (.inl (a : Int)), some (.inl (b : Int)), x4], [.inl (g3 108 ((6 * k) + b)), .inl (g3 108 ((6 * a) + k))], (zs g3 hl))) rfl ⟨by omega, by omega⟩ ?_
            refine zH_go 17 (c' := (205, [some (.inr (.inr (some 104))), some (.inl (k : Int)), some (.inl (a : Int)), some (.inl (b : Int)), some (.inl ((g3 108 ((6 * a) + k)) + (g3 108 ((6 * k) + b))))], [.inl ((6 * (a : Int)) + (b : Int)), .inr (.inr (some 108)), .inl ((g3 108 ((6 * a) + k)) + (g3 108 ((6 * k) + b))), .inl ((6 * (a : Int)) + (b : Int)), .inr (.inr (some 108))], (zs g3 hl))) rfl ?_
            refine zH_np (P := 0 ≤ ((6 * (a : Int)) + (b : Int)) ∧ ((6 * (a : Int)) + (b : Int)) < ((36 : Nat) : Int)) (c' := (206, [some (.inr (.inr (some 104))), some (.inl (k : Int)), some (.inl (a : Int)), some (.inl (b : Int)), some (.inl ((g3 108 ((6 * a) + k)) + (g3 108 ((6 * k) + b))))], [.inl (g3 108 ((6 * a) + b)), .inl ((g3 108 ((6 * a) + k)) + (g3 108 ((6 * k) + b))), .inl ((6 * (a : Int)) + (b : Int)), .inr (.inr (some 108))], (zs g3 hl))) rfl ⟨by omega, by omega⟩ ?_
            refine zH_mg (F := fun m => (225, [some (.inr (.inr (some 104))), some (.inl (k : Int)), some (.inl (a : Int)), some (.inl (b : Int)), some (.inl ((g3 108 ((6 * a) + k)) + (g3 108 ((6 * k) + b))))], [.inl m, .inl ((6 * (a : Int)) + (b : Int)), .inr (.inr (some 108))], (zs g3 hl))) (R := fun m => m ≤ ((g3 108 ((6 * a) + k)) + (g3 108 ((6 * k) + b))) ∧ m ≤ (g3 108 ((6 * a) + b)) ∧ (m = ((g3 108 ((6 * a) + k)) + (g3 108 ((6 * k) + b))) ∨ m = (g3 108 ((6 * a) + b)))) (fun m_4 fm_4 => ?_) (fun kk => ?_)
            · replace fm_4 : m_4 ≤ ((g3 108 ((6 * a) + k)) + (g3 108 ((6 * k) + b))) ∧ m_4 ≤ (g3 108 ((6 * a) + b)) ∧ (m_4 = ((g3 108 ((6 * a) + k)) + (g3 108 ((6 * k) + b))) ∨ m_4 = (g3 108 ((6 * a) + b))) := fm_4
              show zH _ _ (225, [some (.inr (.inr (some 104))), some (.inl (k : Int)), some (.inl (a : Int)), some (.inl (b : Int)), some (.inl ((g3 108 ((6 * a) + k)) + (g3 108 ((6 * k) + b))))], [.inl m_4, .inl ((6 * (a : Int)) + (b : Int)), .inr (.inr (some 108))], (zs g3 hl)) _
              refine zH_np (P := 0 ≤ ((6 * (a : Int)) + (b : Int)) ∧ ((6 * (a : Int)) + (b : Int)) < ((36 : Nat) : Int)) (c' := (226, [some (.inr (.inr (some 104))), some (.inl (k : Int)), some (.inl (a : Int)), some (.inl (b : Int)), some (.inl ((g3 108 ((6 * a) + k)) + (g3 108 ((6 * k) + b))))], [], (zs (zup g3 108 ((6 * a) + b) m_4) hl))) rfl ⟨by omega, by omega⟩ ?_
              refine zH_go 2 (c' := (152, [some (.inr (.inr (some 104))), some (.inl (k : Int)), some (.inl (a : Int)), some (.inl ((b : Int) + 1)), some (.inl ((g3 108 ((6 * a) + k)) + (g3 108 ((6 * k) + b))))], [], (zs (zup g3 108 ((6 * a) + b) m_4) hl))) rfl ?_
              refine ih3 ((zup g3 108 ((6 * a) + b) m_4), (some (.inl ((g3 108 ((6 * a) + k)) + (g3 108 ((6 * k) + b)))))) ?_
              show (∀ c : Nat, c ≠ 108 → (zup g3 108 ((6 * a) + b) m_4) c = h c) ∧ ∀ i j : Nat, i < 6 → j < 6 → (zup g3 108 ((6 * a) + b) m_4) 108 (6 * i + j) = if i < a ∨ (i = a ∧ j < (b + 1)) then min (g 108 (6 * i + j)) (g 108 (6 * i + k) + g 108 (6 * k + j)) else g 108 (6 * i + j)
              refine ⟨fun c hc => ?_, fun i j hi hj => ?_⟩
              · rw [← hK.1 c hc]; funext q; exact zup_ne hc
              · by_cases q : i = a ∧ j = b
                · rw [q.1, q.2, zup_eq, if_pos (by omega)]; rw [eak, ekb, eab] at fm_4; omega
                · rw [zup_k (by omega), hK.2 i j hi hj]
                  by_cases w : i < a ∨ (i = a ∧ j < b)
                  · rw [if_pos w, if_pos (by omega)]
                  · rw [if_neg w, if_neg (by omega)]
            · refine zH_br (x := ((g3 108 ((6 * a) + k)) + (g3 108 ((6 * k) + b)))) (y := (g3 108 ((6 * a) + b))) (k := .ge) (c1 := (214, [some (.inr (.inr (some 104))), some (.inl (k : Int)), some (.inl (a : Int)), some (.inl (b : Int)), some (.inl ((g3 108 ((6 * a) + k)) + (g3 108 ((6 * k) + b))))], [.inl ((6 * (a : Int)) + (b : Int)), .inr (.inr (some 108))], (zs g3 hl))) (c2 := (209, [some (.inr (.inr (some 104))), some (.inl (k : Int)), some (.inl (a : Int)), some (.inl (b : Int)), some (.inl ((g3 108 ((6 * a) + k)) + (g3 108 ((6 * k) + b))))], [.inl ((6 * (a : Int)) + (b : Int)), .inr (.inr (some 108))], (zs g3 hl))) rfl (by first | assumption | (unfold zr; omega)) (by first | assumption | (unfold zr; omega)) (fun (b_5 : ¬ ((g3 108 ((6 * a) + k)) + (g3 108 ((6 * k) + b))) < (g3 108 ((6 * a) + b))) => ?_) (fun (b_5 : ¬ (¬ ((g3 108 ((6 * a) + k)) + (g3 108 ((6 * k) + b))) < (g3 108 ((6 * a) + b)))) => ?_)
              · refine zH_go 7 (c' := (224, [some (.inr (.inr (some 104))), some (.inl (k : Int)), some (.inl (a : Int)), some (.inl (b : Int)), some (.inl ((g3 108 ((6 * a) + k)) + (g3 108 ((6 * k) + b))))], [.inl ((6 * (a : Int)) + (b : Int)), .inr (.inr (some 108)), .inl ((6 * (a : Int)) + (b : Int)), .inr (.inr (some 108))], (zs g3 hl))) rfl ?_
                refine zH_np (P := 0 ≤ ((6 * (a : Int)) + (b : Int)) ∧ ((6 * (a : Int)) + (b : Int)) < ((36 : Nat) : Int)) (c' := (225, [some (.inr (.inr (some 104))), some (.inl (k : Int)), some (.inl (a : Int)), some (.inl (b : Int)), some (.inl ((g3 108 ((6 * a) + k)) + (g3 108 ((6 * k) + b))))], [.inl (g3 108 ((6 * a) + b)), .inl ((6 * (a : Int)) + (b : Int)), .inr (.inr (some 108))], (zs g3 hl))) rfl ⟨by omega, by omega⟩ ?_
                refine kk (g3 108 ((6 * a) + b)) ?_
                show (g3 108 ((6 * a) + b)) ≤ ((g3 108 ((6 * a) + k)) + (g3 108 ((6 * k) + b))) ∧ (g3 108 ((6 * a) + b)) ≤ (g3 108 ((6 * a) + b)) ∧ ((g3 108 ((6 * a) + b)) = ((g3 108 ((6 * a) + k)) + (g3 108 ((6 * k) + b))) ∨ (g3 108 ((6 * a) + b)) = (g3 108 ((6 * a) + b)))
                exact ⟨by omega, by omega, by omega⟩
              · refine zH_go 2 (c' := (225, [some (.inr (.inr (some 104))), some (.inl (k : Int)), some (.inl (a : Int)), some (.inl (b : Int)), some (.inl ((g3 108 ((6 * a) + k)) + (g3 108 ((6 * k) + b))))], [.inl ((g3 108 ((6 * a) + k)) + (g3 108 ((6 * k) + b))), .inl ((6 * (a : Int)) + (b : Int)), .inr (.inr (some 108))], (zs g3 hl))) rfl ?_
                refine kk ((g3 108 ((6 * a) + k)) + (g3 108 ((6 * k) + b))) ?_
                show ((g3 108 ((6 * a) + k)) + (g3 108 ((6 * k) + b))) ≤ ((g3 108 ((6 * a) + k)) + (g3 108 ((6 * k) + b))) ∧ ((g3 108 ((6 * a) + k)) + (g3 108 ((6 * k) + b))) ≤ (g3 108 ((6 * a) + b)) ∧ (((g3 108 ((6 * a) + k)) + (g3 108 ((6 * k) + b))) = ((g3 108 ((6 * a) + k)) + (g3 108 ((6 * k) + b))) ∨ ((g3 108 ((6 * a) + k)) + (g3 108 ((6 * k) + b))) = (g3 108 ((6 * a) + b)))
                exact ⟨by omega, by omega, by omega⟩
          · obtain ⟨g3, x4⟩ := x
            replace hK : (∀ c : Nat, c ≠ 108 → g3 c = h c) ∧ ∀ i j : Nat, i < 6 → j < 6 → g3 108 (6 * i + j) = if i < a ∨ (i = a ∧ j < 6) then min (g 108 (6 * i + j)) (g 108 (6 * i + k) + g 108 (6 * k + j)) else g 108 (6 * i + j) := hK
            show zH _ _ (152, [some (.inr (.inr (some 104))), some (.inl (k : Int)), some (.inl (a : Int)), some (.inl 6), x4], [], (zs g3 hl)) _
            refine zH_go 2 (c' := (155, [some (.inr (.inr (some 104))), some (.inl (k : Int)), some (.inl (a : Int)), some (.inl 6), x4], [.inl 6, .inl 6], (zs g3 hl))) rfl ?_
            refine zH_bt (x := 6) (y := 6) (k := .ge) (c1 := (232, [some (.inr (.inr (some 104))), some (.inl (k : Int)), some (.inl (a : Int)), some (.inl 6), x4], [], (zs g3 hl))) (c2 := (158, [some (.inr (.inr (some 104))), some (.inl (k : Int)), some (.inl (a : Int)), some (.inl 6), x4], [], (zs g3 hl))) rfl ⟨by decide, by decide⟩ ⟨by decide, by decide⟩ (by show ¬ 6 < 6; decide) ?_
            refine zH_go 2 (c' := (144, [some (.inr (.inr (some 104))), some (.inl (k : Int)), some (.inl ((a : Int) + 1)), some (.inl 6), x4], [], (zs g3 hl))) rfl ?_
            refine ih2 (g3, (some (.inl 6)), x4) ?_
            show (∀ c : Nat, c ≠ 108 → g3 c = h c) ∧ ∀ i j : Nat, i < 6 → j < 6 → g3 108 (6 * i + j) = if i < (a + 1) then min (g 108 (6 * i + j)) (g 108 (6 * i + k) + g 108 (6 * k + j)) else g 108 (6 * i + j)
            exact ⟨hK.1, fun i j hi hj => by rw [hK.2 i j hi hj]; by_cases q : i < a + 1 <;> first | rw [if_pos q, if_pos (by omega)] | rw [if_neg q, if_neg (by omega)]⟩
          · show (∀ c : Nat, c ≠ 108 → g2 c = h c) ∧ ∀ i j : Nat, i < 6 → j < 6 → g2 108 (6 * i + j) = if i < a ∨ (i = a ∧ j < 0) then min (g 108 (6 * i + j)) (g 108 (6 * i + k) + g 108 (6 * k + j)) else g 108 (6 * i + j)
            exact ⟨hJ.1, fun i j hi hj => by rw [hJ.2 i j hi hj]; by_cases q : i < a <;> first | rw [if_pos q, if_pos (by omega)] | rw [if_neg q, if_neg (by omega)]⟩
        · obtain ⟨g2, x3, x4⟩ := x
          replace hJ : (∀ c : Nat, c ≠ 108 → g2 c = h c) ∧ ∀ i j : Nat, i < 6 → j < 6 → g2 108 (6 * i + j) = if i < 6 then min (g 108 (6 * i + j)) (g 108 (6 * i + k) + g 108 (6 * k + j)) else g 108 (6 * i + j) := hJ
          show zH _ _ (144, [some (.inr (.inr (some 104))), some (.inl (k : Int)), some (.inl 6), x3, x4], [], (zs g2 hl)) _
          refine zH_go 2 (c' := (147, [some (.inr (.inr (some 104))), some (.inl (k : Int)), some (.inl 6), x3, x4], [.inl 6, .inl 6], (zs g2 hl))) rfl ?_
          refine zH_bt (x := 6) (y := 6) (k := .ge) (c1 := (238, [some (.inr (.inr (some 104))), some (.inl (k : Int)), some (.inl 6), x3, x4], [], (zs g2 hl))) (c2 := (150, [some (.inr (.inr (some 104))), some (.inl (k : Int)), some (.inl 6), x3, x4], [], (zs g2 hl))) rfl ⟨by decide, by decide⟩ ⟨by decide, by decide⟩ (by show ¬ 6 < 6; decide) ?_
          refine zH_go 2 (c' := (136, [some (.inr (.inr (some 104))), some (.inl ((k : Int) + 1)), some (.inl 6), x3, x4], [], (zs g2 hl))) rfl ?_
          refine ih (g2, (some (.inl 6)), x3, x4) ?_
          show (∀ c : Nat, c ≠ 108 → g2 c = h c) ∧ zFI h g2 r (k + 1)
          exact ⟨hJ.1, zFI_round hW hk hI.2 (fun i j hi hj => by rw [hJ.2 i j hi hj, if_pos hi])⟩
        · show (∀ c : Nat, c ≠ 108 → g c = h c) ∧ ∀ i j : Nat, i < 6 → j < 6 → g 108 (6 * i + j) = if i < 0 then min (g 108 (6 * i + j)) (g 108 (6 * i + k) + g 108 (6 * k + j)) else g 108 (6 * i + j)
          exact ⟨hI.1, fun i j hi hj => by rw [if_neg (Nat.not_lt_zero i)]⟩
      · obtain ⟨g, x2, x3, x4⟩ := x
        replace hI : (∀ c : Nat, c ≠ 108 → g c = h c) ∧ zFI h g r 6 := hI
        show zH _ _ (136, [some (.inr (.inr (some 104))), some (.inl 6), x2, x3, x4], [], (zs g hl)) _
        refine zH_go 2 (c' := (139, [some (.inr (.inr (some 104))), some (.inl 6), x2, x3, x4], [.inl 6, .inl 6], (zs g hl))) rfl ?_
        refine zH_bt (x := 6) (y := 6) (k := .ge) (c1 := (244, [some (.inr (.inr (some 104))), some (.inl 6), x2, x3, x4], [], (zs g hl))) (c2 := (142, [some (.inr (.inr (some 104))), some (.inl 6), x2, x3, x4], [], (zs g hl))) rfl ⟨by decide, by decide⟩ ⟨by decide, by decide⟩ (by show ¬ 6 < 6; decide) ?_
        refine zH_ret (v := none) rfl (fun q => absurd q (by decide)) ?_
        exact ⟨rfl, g, rfl, hI.1, fun i j hi hj => zFI_end hW hI.2 hi hj⟩
      · show (∀ c : Nat, c ≠ 108 → g c = h c) ∧ zFI h g r 0
        exact hI
    · show (∀ c : Nat, c ≠ 108 → g c = h c) ∧ zFI h g 0 0
      exact ⟨hI.1, zFI_0 hW (fun i j hi hj => hI.2 i j hi hj)⟩
  · show (∀ c : Nat, c ≠ 108 → h c = h c) ∧ ∀ i j : Nat, i < 0 → j < 6 → h 108 (6 * i + j) = if i = j then 0 else 100000000
    exact ⟨fun c hc => rfl, fun i j hi => absurd hi (Nat.not_lt_zero i)⟩
