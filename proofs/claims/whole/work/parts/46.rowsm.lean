/-! The model: rows of least costs. -/
set_option maxRecDepth 100000 in
set_option maxHeartbeats 4000000 in
theorem p_least117 {d : Nat} {h hl : Nat → Nat → Int} {fr : Nat} (hfr : fr + 512 ≤ 6656) (hR : ∀ j : Nat, j < 512 → 0 ≤ h 117 (fr + j) ∧ h 117 (fr + j) ≤ 100000000) : zQ (d + 1) 118 [.inr (.inr (some 117)), .inl (fr : Int)] (zs h hl) (fun r σ' => ∃ v : Int, r = some (.inl v) ∧ (0 ≤ v ∧ v ≤ 100000000) ∧ (∀ j : Nat, j < 512 → v ≤ h 117 (fr + j)) ∧ (v = 100000000 ∨ ∃ j : Nat, j < 512 ∧ v = h 117 (fr + j)) ∧ σ' = zs h hl) := by
  refine zQ_of (Nat.le_of_ble_eq_true rfl) ?_
  show zH d 118 (0, [some (.inr (.inr (some 117))), some (.inl (fr : Int)), none, none], [], (zs h hl)) _
  refine zH_go 4 (c' := (5, [some (.inr (.inr (some 117))), some (.inl (fr : Int)), some (.inl 100000000), some (.inl 0)], [], (zs h hl))) rfl ?_
  refine zH_lp (X := Int) (F := fun (kq : Nat) (x : Int) => (5, [some (.inr (.inr (some 117))), some (.inl (fr : Int)), some (.inl x), some (.inl (kq : Int))], [], (zs h hl))) (I := fun (kq : Nat) (x : Int) => (0 ≤ x ∧ x ≤ 100000000) ∧ (∀ j : Nat, j < kq → x ≤ h 117 (fr + j)) ∧ (x = 100000000 ∨ ∃ j : Nat, j < kq ∧ x = h 117 (fr + j))) (N := 512) (fun k best hk hI ih => ?_) (fun best hI => ?_) 0 100000000 (by omega) ?_
  · skip
    replace hI : (0 ≤ best ∧ best ≤ 100000000) ∧ (∀ j : Nat, j < k → best ≤ h 117 (fr + j)) ∧ (best = 100000000 ∨ ∃ j : Nat, j < k ∧ best = h 117 (fr + j)) := hI
    show zH _ _ (5, [some (.inr (.inr (some 117))), some (.inl (fr : Int)), some (.inl best), some (.inl (k : Int))], [], (zs h hl)) _
    have hb0 := hI.1
    have hkr := hR k hk
    refine zH_go 2 (c' := (9, [some (.inr (.inr (some 117))), some (.inl (fr : Int)), some (.inl best), some (.inl (k : Int))], [.inl 512, .inl (k : Int)], (zs h hl))) rfl ?_
    refine zH_bf (x := (k : Int)) (y := 512) (k := .ge) (c1 := (37, [some (.inr (.inr (some 117))), some (.inl (fr : Int)), some (.inl best), some (.inl (k : Int))], [], (zs h hl))) (c2 := (12, [some (.inr (.inr (some 117))), some (.inl (fr : Int)), some (.inl best), some (.inl (k : Int))], [], (zs h hl))) rfl (by first | assumption | (unfold zr; omega)) ⟨by decide, by decide⟩ (by show ¬ (¬ (k : Int) < 512); omega) ?_
    refine zH_go 4 (c' := (16, [some (.inr (.inr (some 117))), some (.inl (fr : Int)), some (.inl best), some (.inl (k : Int))], [.inl ((fr : Int) + (k : Int)), .inr (.inr (some 117))], (zs h hl))) rfl ?_
    refine zH_np (P := 0 ≤ ((fr : Int) + (k : Int)) ∧ ((fr : Int) + (k : Int)) < ((6656 : Nat) : Int)) (c' := (17, [some (.inr (.inr (some 117))), some (.inl (fr : Int)), some (.inl best), some (.inl (k : Int))], [.inl (h 117 (fr + k))], (zs h hl))) rfl ⟨by omega, by omega⟩ ?_
    refine zH_go 1 (c' := (18, [some (.inr (.inr (some 117))), some (.inl (fr : Int)), some (.inl best), some (.inl (k : Int))], [.inl best, .inl (h 117 (fr + k))], (zs h hl))) rfl ?_
    refine zH_mg (F := fun m => (30, [some (.inr (.inr (some 117))), some (.inl (fr : Int)), some (.inl best), some (.inl (k : Int))], [.inl m], (zs h hl))) (R := fun m => m ≤ (h 117 (fr + k)) ∧ m ≤ best ∧ (m = (h 117 (fr + k)) ∨ m = best)) (fun m_1 fm_1 => ?_) (fun kk => ?_)
    · replace fm_1 : m_1 ≤ (h 117 (fr + k)) ∧ m_1 ≤ best ∧ (m_1 = (h 117 (fr + k)) ∨ m_1 = best) := fm_1
      show zH _ _ (30, [some (.inr (.inr (some 117))), some (.inl (fr : Int)), some (.inl best), some (.inl (k : Int))], [.inl m_1], (zs h hl)) _
      refine zH_go 3 (c' := (5, [some (.inr (.inr (some 117))), some (.inl (fr : Int)), some (.inl m_1), some (.inl ((k : Int) + 1))], [], (zs h hl))) rfl ?_
      refine ih m_1 ?_
      show (0 ≤ m_1 ∧ m_1 ≤ 100000000) ∧ (∀ j : Nat, j < (k + 1) → m_1 ≤ h 117 (fr + j)) ∧ (m_1 = 100000000 ∨ ∃ j : Nat, j < (k + 1) ∧ m_1 = h 117 (fr + j))
      refine ⟨by omega, fun j hj => ?_, ?_⟩
      · by_cases q : j = k
        · rw [q]; omega
        · have := hI.2.1 j (by omega); omega
      · rcases fm_1.2.2 with q | q
        · exact Or.inr ⟨k, by omega, q⟩
        · rcases hI.2.2 with z | ⟨j, z1, z2⟩
          · exact Or.inl (q.trans z)
          · exact Or.inr ⟨j, by omega, q.trans z2⟩
    · refine zH_br (x := (h 117 (fr + k))) (y := best) (k := .ge) (c1 := (29, [some (.inr (.inr (some 117))), some (.inl (fr : Int)), some (.inl best), some (.inl (k : Int))], [], (zs h hl))) (c2 := (21, [some (.inr (.inr (some 117))), some (.inl (fr : Int)), some (.inl best), some (.inl (k : Int))], [], (zs h hl))) rfl (by first | assumption | (unfold zr; omega)) (by first | assumption | (unfold zr; omega)) (fun (b_2 : ¬ (h 117 (fr + k)) < best) => ?_) (fun (b_2 : ¬ (¬ (h 117 (fr + k)) < best)) => ?_)
      · refine zH_go 1 (c' := (30, [some (.inr (.inr (some 117))), some (.inl (fr : Int)), some (.inl best), some (.inl (k : Int))], [.inl best], (zs h hl))) rfl ?_
        refine kk best ?_
        show best ≤ (h 117 (fr + k)) ∧ best ≤ best ∧ (best = (h 117 (fr + k)) ∨ best = best)
        exact ⟨by omega, by omega, by omega⟩
      · refine zH_go 4 (c' := (25, [some (.inr (.inr (some 117))), some (.inl (fr : Int)), some (.inl best), some (.inl (k : Int))], [.inl ((fr : Int) + (k : Int)), .inr (.inr (some 117))], (zs h hl))) rfl ?_
        refine zH_np (P := 0 ≤ ((fr : Int) + (k : Int)) ∧ ((fr : Int) + (k : Int)) < ((6656 : Nat) : Int)) (c' := (26, [some (.inr (.inr (some 117))), some (.inl (fr : Int)), some (.inl best), some (.inl (k : Int))], [.inl (h 117 (fr + k))], (zs h hl))) rfl ⟨by omega, by omega⟩ ?_
        refine zH_go 1 (c' := (30, [some (.inr (.inr (some 117))), some (.inl (fr : Int)), some (.inl best), some (.inl (k : Int))], [.inl (h 117 (fr + k))], (zs h hl))) rfl ?_
        refine kk (h 117 (fr + k)) ?_
        show (h 117 (fr + k)) ≤ (h 117 (fr + k)) ∧ (h 117 (fr + k)) ≤ best ∧ ((h 117 (fr + k)) = (h 117 (fr + k)) ∨ (h 117 (fr + k)) = best)
        exact ⟨by omega, by omega, by omega⟩
  · skip
    replace hI : (0 ≤ best ∧ best ≤ 100000000) ∧ (∀ j : Nat, j < 512 → best ≤ h 117 (fr + j)) ∧ (best = 100000000 ∨ ∃ j : Nat, j < 512 ∧ best = h 117 (fr + j)) := hI
    show zH _ _ (5, [some (.inr (.inr (some 117))), some (.inl (fr : Int)), some (.inl best), some (.inl 512)], [], (zs h hl)) _
    refine zH_go 2 (c' := (9, [some (.inr (.inr (some 117))), some (.inl (fr : Int)), some (.inl best), some (.inl 512)], [.inl 512, .inl 512], (zs h hl))) rfl ?_
    refine zH_bt (x := 512) (y := 512) (k := .ge) (c1 := (37, [some (.inr (.inr (some 117))), some (.inl (fr : Int)), some (.inl best), some (.inl 512)], [], (zs h hl))) (c2 := (12, [some (.inr (.inr (some 117))), some (.inl (fr : Int)), some (.inl best), some (.inl 512)], [], (zs h hl))) rfl ⟨by decide, by decide⟩ ⟨by decide, by decide⟩ (by show ¬ 512 < 512; decide) ?_
    refine zH_go 1 (c' := (38, [some (.inr (.inr (some 117))), some (.inl (fr : Int)), some (.inl best), some (.inl 512)], [.inl best], (zs h hl))) rfl ?_
    refine zH_ret (v := some (.inl best)) rfl (fun q => absurd q (by decide)) ?_
    exact ⟨best, rfl, hI.1, hI.2.1, hI.2.2, rfl⟩
  · show (0 ≤ 100000000 ∧ 100000000 ≤ 100000000) ∧ (∀ j : Nat, j < 0 → 100000000 ≤ h 117 (fr + j)) ∧ (100000000 = 100000000 ∨ ∃ j : Nat, j < 0 ∧ 100000000 = h 117 (fr + j))
    exact ⟨by omega, fun j hj => absurd hj (Nat.not_lt_zero j), Or.inl rfl⟩
set_option maxRecDepth 100000 in
set_option maxHeartbeats 4000000 in
theorem p_starts117 {d : Nat} {h hl : Nat → Nat → Int} {B : Nat} (hBl : B < 512) (hB : h 104 10 = (B : Int)) : zQ (d + 1) 117 [.inr (.inr (some 104)), .inr (.inr (some 117))] (zs h hl) (fun r σ' => r = none ∧ ∃ g : Nat → Nat → Int, σ' = zs g hl ∧ (∀ c : Nat, c ≠ 117 → g c = h c) ∧ (∀ j : Nat, 512 ≤ j → g 117 j = h 117 j) ∧ ∀ j : Nat, j < 512 → g 117 j = if j = B then 0 else 100000000) := by
  refine zQ_of (Nat.le_of_ble_eq_true rfl) ?_
  show zH d 117 (0, [some (.inr (.inr (some 104))), some (.inr (.inr (some 117))), none], [], (zs h hl)) _
  refine zH_go 2 (c' := (2, [some (.inr (.inr (some 104))), some (.inr (.inr (some 117))), some (.inl 0)], [], (zs h hl))) rfl ?_
  refine zH_lp (X := (Nat → Nat → Int)) (F := fun (kq : Nat) (x : (Nat → Nat → Int)) => (2, [some (.inr (.inr (some 104))), some (.inr (.inr (some 117))), some (.inl (kq : Int))], [], (zs x hl))) (I := fun (kq : Nat) (x : (Nat → Nat → Int)) => (∀ c : Nat, c ≠ 117 → x c = h c) ∧ (∀ j : Nat, 512 ≤ j → x 117 j = h 117 j) ∧ ∀ j : Nat, j < kq → x 117 j = if j = B then 0 else 100000000) (N := 512) (fun k g hk hI ih => ?_) (fun g hI => ?_) 0 h (by omega) ?_
  · skip
    replace hI : (∀ c : Nat, c ≠ 117 → g c = h c) ∧ (∀ j : Nat, 512 ≤ j → g 117 j = h 117 j) ∧ ∀ j : Nat, j < k → g 117 j = if j = B then 0 else 100000000 := hI
    show zH _ _ (2, [some (.inr (.inr (some 104))), some (.inr (.inr (some 117))), some (.inl (k : Int))], [], (zs g hl)) _
    have kB : g 104 10 = (B : Int) := by rw [hI.1 104 (by decide)]; exact hB
    refine zH_go 2 (c' := (6, [some (.inr (.inr (some 104))), some (.inr (.inr (some 117))), some (.inl (k : Int))], [.inl 512, .inl (k : Int)], (zs g hl))) rfl ?_
    refine zH_bf (x := (k : Int)) (y := 512) (k := .ge) (c1 := (32, [some (.inr (.inr (some 104))), some (.inr (.inr (some 117))), some (.inl (k : Int))], [], (zs g hl))) (c2 := (9, [some (.inr (.inr (some 104))), some (.inr (.inr (some 117))), some (.inl (k : Int))], [], (zs g hl))) rfl (by first | assumption | (unfold zr; omega)) ⟨by decide, by decide⟩ (by show ¬ (¬ (k : Int) < 512); omega) ?_
    refine zH_go 5 (c' := (16, [some (.inr (.inr (some 104))), some (.inr (.inr (some 117))), some (.inl (k : Int))], [.inl (g 104 10), .inl (k : Int), .inl (k : Int), .inr (.inr (some 117))], (zs g hl))) rfl ?_
    rw [kB]
    refine zH_mg (F := fun m => (25, [some (.inr (.inr (some 104))), some (.inr (.inr (some 117))), some (.inl (k : Int))], [.inl m, .inl (k : Int), .inr (.inr (some 117))], (zs g hl))) (R := fun m => m = if k = B then 0 else 100000000) (fun m_1 fm_1 => ?_) (fun kk => ?_)
    · replace fm_1 : m_1 = if k = B then 0 else 100000000 := fm_1
      show zH _ _ (25, [some (.inr (.inr (some 104))), some (.inr (.inr (some 117))), some (.inl (k : Int))], [.inl m_1, .inl (k : Int), .inr (.inr (some 117))], (zs g hl)) _
      refine zH_np (P := 0 ≤ (k : Int) ∧ (k : Int) < ((6656 : Nat) : Int)) (c' := (26, [some (.inr (.inr (some 104))), some (.inr (.inr (some 117))), some (.inl (k : Int))], [], (zs (zup g 117 k m_1) hl))) rfl ⟨by omega, by omega⟩ ?_
      refine zH_go 2 (c' := (2, [some (.inr (.inr (some 104))), some (.inr (.inr (some 117))), some (.inl ((k : Int) + 1))], [], (zs (zup g 117 k m_1) hl))) rfl ?_
      refine ih (zup g 117 k m_1) ?_
      show (∀ c : Nat, c ≠ 117 → (zup g 117 k m_1) c = h c) ∧ (∀ j : Nat, 512 ≤ j → (zup g 117 k m_1) 117 j = h 117 j) ∧ ∀ j : Nat, j < (k + 1) → (zup g 117 k m_1) 117 j = if j = B then 0 else 100000000
      refine ⟨fun c hc => ?_, fun j hj => ?_, fun j hj => ?_⟩
      · rw [← hI.1 c hc]; funext q; exact zup_ne hc
      · rw [zup_k (by omega)]; exact hI.2.1 j hj
      · by_cases q : j = k
        · rw [q, zup_eq]; exact fm_1
        · rw [zup_k q]; exact hI.2.2 j (by omega)
    · refine zH_br (x := (k : Int)) (y := (B : Int)) (k := .ne) (c1 := (23, [some (.inr (.inr (some 104))), some (.inr (.inr (some 117))), some (.inl (k : Int))], [.inl (k : Int), .inr (.inr (some 117))], (zs g hl))) (c2 := (19, [some (.inr (.inr (some 104))), some (.inr (.inr (some 117))), some (.inl (k : Int))], [.inl (k : Int), .inr (.inr (some 117))], (zs g hl))) rfl (by first | assumption | (unfold zr; omega)) (by first | assumption | (unfold zr; omega)) (fun (b_2 : ¬ (k : Int) = (B : Int)) => ?_) (fun (b_2 : ¬ (¬ (k : Int) = (B : Int))) => ?_)
      · refine zH_go 1 (c' := (25, [some (.inr (.inr (some 104))), some (.inr (.inr (some 117))), some (.inl (k : Int))], [.inl 100000000, .inl (k : Int), .inr (.inr (some 117))], (zs g hl))) rfl ?_
        refine kk 100000000 ?_
        show 100000000 = if k = B then 0 else 100000000
        rw [if_neg (by omega)]
      · refine zH_go 2 (c' := (25, [some (.inr (.inr (some 104))), some (.inr (.inr (some 117))), some (.inl (k : Int))], [.inl 0, .inl (k : Int), .inr (.inr (some 117))], (zs g hl))) rfl ?_
        refine kk 0 ?_
        show 0 = if k = B then 0 else 100000000
        rw [if_pos (by omega)]
  · skip
    replace hI : (∀ c : Nat, c ≠ 117 → g c = h c) ∧ (∀ j : Nat, 512 ≤ j → g 117 j = h 117 j) ∧ ∀ j : Nat, j < 512 → g 117 j = if j = B then 0 else 100000000 := hI
    show zH _ _ (2, [some (.inr (.inr (some 104))), some (.inr (.inr (some 117))), some (.inl 512)], [], (zs g hl)) _
    refine zH_go 2 (c' := (6, [some (.inr (.inr (some 104))), some (.inr (.inr (some 117))), some (.inl 512)], [.inl 512, .inl 512], (zs g hl))) rfl ?_
    refine zH_bt (x := 512) (y := 512) (k := .ge) (c1 := (32, [some (.inr (.inr (some 104))), some (.inr (.inr (some 117))), some (.inl 512)], [], (zs g hl))) (c2 := (9, [some (.inr (.inr (some 104))), some (.inr (.inr (some 117))), some (.inl 512)], [], (zs g hl))) rfl ⟨by decide, by decide⟩ ⟨by decide, by decide⟩ (by show ¬ 512 < 512; decide) ?_
    refine zH_ret (v := none) rfl (fun q => absurd q (by decide)) ?_
    exact ⟨rfl, g, rfl, hI.1, hI.2.1, hI.2.2⟩
  · show (∀ c : Nat, c ≠ 117 → h c = h c) ∧ (∀ j : Nat, 512 ≤ j → h 117 j = h 117 j) ∧ ∀ j : Nat, j < 0 → h 117 j = if j = B then 0 else 100000000
    exact ⟨fun c hc => rfl, fun j hj => rfl, fun j hj => absurd hj (Nat.not_lt_zero j)⟩
set_option maxRecDepth 100000 in
set_option maxHeartbeats 4000000 in
theorem p_workOf117 {d : Nat} {h hl : Nat → Nat → Int} {p L fr X : Nat} (hfr : fr + 512 ≤ 6656) (hL3 : 1 ≤ L ∧ L ≤ 3) (hp : p ≤ 6) (hX : zSb p L X = true) (hL : h 104 9 = (L : Int)) (hF : zFE h p) (hT : zTD h p) (hR0 : ∀ j : Nat, j < 512 → 0 ≤ h 117 (fr + j) ∧ h 117 (fr + j) ≤ 100000000) (hR : ∀ j : Nat, j < 512 → h 117 (fr + j) < 100000000 → zSb p L j = true ∧ h 117 (fr + j) ≤ 100000) : zQ (d + 3) 119 [.inr (.inr (some 104)), .inr (.inr (some 117)), .inl (fr : Int), .inl (X : Int)] (zs h hl) (fun r σ' => ∃ v : Int, r = some (.inl v) ∧ (0 ≤ v ∧ v ≤ 100000000) ∧ (∀ j : Nat, j < 512 → h 117 (fr + j) < 100000000 → v ≤ h 117 (fr + j) + zMv h L j X) ∧ (v = 100000000 ∨ ∃ j : Nat, j < 512 ∧ h 117 (fr + j) < 100000000 ∧ v = h 117 (fr + j) + zMv h L j X) ∧ σ' = zs h hl) := by
  refine zQ_of (Nat.le_of_ble_eq_true rfl) ?_
  show zH (d + 2) 119 (0, [some (.inr (.inr (some 104))), some (.inr (.inr (some 117))), some (.inl (fr : Int)), some (.inl (X : Int)), none, none, none], [], (zs h hl)) _
  refine zH_go 4 (c' := (7, [some (.inr (.inr (some 104))), some (.inr (.inr (some 117))), some (.inl (fr : Int)), some (.inl (X : Int)), some (.inl 100000000), some (.inl 0), none], [], (zs h hl))) rfl ?_
  refine zH_lp (X := Int × (Option zV)) (F := fun (kq : Nat) (x : Int × (Option zV)) => (7, [some (.inr (.inr (some 104))), some (.inr (.inr (some 117))), some (.inl (fr : Int)), some (.inl (X : Int)), some (.inl x.1), some (.inl (kq : Int)), x.2], [], (zs h hl))) (I := fun (kq : Nat) (x : Int × (Option zV)) => (0 ≤ x.1 ∧ x.1 ≤ 100000000) ∧ (∀ j : Nat, j < kq → h 117 (fr + j) < 100000000 → x.1 ≤ h 117 (fr + j) + zMv h L j X) ∧ (x.1 = 100000000 ∨ ∃ j : Nat, j < 512 ∧ h 117 (fr + j) < 100000000 ∧ x.1 = h 117 (fr + j) + zMv h L j X)) (N := 512) (fun k x hk hI ih => ?_) (fun x hI => ?_) 0 (100000000, none) (by omega) ?_
  · obtain ⟨best, x6⟩ := x
    replace hI : (0 ≤ best ∧ best ≤ 100000000) ∧ (∀ j : Nat, j < k → h 117 (fr + j) < 100000000 → best ≤ h 117 (fr + j) + zMv h L j X) ∧ (best = 100000000 ∨ ∃ j : Nat, j < 512 ∧ h 117 (fr + j) < 100000000 ∧ best = h 117 (fr + j) + zMv h L j X) := hI
    show zH _ _ (7, [some (.inr (.inr (some 104))), some (.inr (.inr (some 117))), some (.inl (fr : Int)), some (.inl (X : Int)), some (.inl best), some (.inl (k : Int)), x6], [], (zs h hl)) _
    have hb0 := hI.1
    have hkr := hR0 k hk
    refine zH_go 2 (c' := (12, [some (.inr (.inr (some 104))), some (.inr (.inr (some 117))), some (.inl (fr : Int)), some (.inl (X : Int)), some (.inl best), some (.inl (k : Int)), x6], [.inl 512, .inl (k : Int)], (zs h hl))) rfl ?_
    refine zH_bf (x := (k : Int)) (y := 512) (k := .ge) (c1 := (64, [some (.inr (.inr (some 104))), some (.inr (.inr (some 117))), some (.inl (fr : Int)), some (.inl (X : Int)), some (.inl best), some (.inl (k : Int)), x6], [], (zs h hl))) (c2 := (15, [some (.inr (.inr (some 104))), some (.inr (.inr (some 117))), some (.inl (fr : Int)), some (.inl (X : Int)), some (.inl best), some (.inl (k : Int)), x6], [], (zs h hl))) rfl (by first | assumption | (unfold zr; omega)) ⟨by decide, by decide⟩ (by show ¬ (¬ (k : Int) < 512); omega) ?_
    refine zH_go 4 (c' := (20, [some (.inr (.inr (some 104))), some (.inr (.inr (some 117))), some (.inl (fr : Int)), some (.inl (X : Int)), some (.inl best), some (.inl (k : Int)), x6], [.inl ((fr : Int) + (k : Int)), .inr (.inr (some 117))], (zs h hl))) rfl ?_
    refine zH_np (P := 0 ≤ ((fr : Int) + (k : Int)) ∧ ((fr : Int) + (k : Int)) < ((6656 : Nat) : Int)) (c' := (21, [some (.inr (.inr (some 104))), some (.inr (.inr (some 117))), some (.inl (fr : Int)), some (.inl (X : Int)), some (.inl best), some (.inl (k : Int)), x6], [.inl (h 117 (fr + k))], (zs h hl))) rfl ⟨by omega, by omega⟩ ?_
    refine zH_go 1 (c' := (23, [some (.inr (.inr (some 104))), some (.inr (.inr (some 117))), some (.inl (fr : Int)), some (.inl (X : Int)), some (.inl best), some (.inl (k : Int)), x6], [.inl best, .inl (h 117 (fr + k))], (zs h hl))) rfl ?_
    refine zH_br (x := (h 117 (fr + k))) (y := best) (k := .ge) (c1 := (58, [some (.inr (.inr (some 104))), some (.inr (.inr (some 117))), some (.inl (fr : Int)), some (.inl (X : Int)), some (.inl best), some (.inl (k : Int)), x6], [], (zs h hl))) (c2 := (26, [some (.inr (.inr (some 104))), some (.inr (.inr (some 117))), some (.inl (fr : Int)), some (.inl (X : Int)), some (.inl best), some (.inl (k : Int)), x6], [], (zs h hl))) rfl (by first | assumption | (unfold zr; omega)) (by first | assumption | (unfold zr; omega)) (fun (b_1 : ¬ (h 117 (fr + k)) < best) => ?_) (fun (b_1 : ¬ (¬ (h 117 (fr + k)) < best)) => ?_)
    · refine zH_go 2 (c' := (7, [some (.inr (.inr (some 104))), some (.inr (.inr (some 117))), some (.inl (fr : Int)), some (.inl (X : Int)), some (.inl best), some (.inl ((k : Int) + 1)), x6], [], (zs h hl))) rfl ?_
      refine ih (best, x6) ?_
      show (0 ≤ best ∧ best ≤ 100000000) ∧ (∀ j : Nat, j < (k + 1) → h 117 (fr + j) < 100000000 → best ≤ h 117 (fr + j) + zMv h L j X) ∧ (best = 100000000 ∨ ∃ j : Nat, j < 512 ∧ h 117 (fr + j) < 100000000 ∧ best = h 117 (fr + j) + zMv h L j X)
      refine ⟨hI.1, fun j hj hr => ?_, hI.2.2⟩
      by_cases q : j = k
      · have hb9 := zMv_b hp hL3 hT (hR j (by omega) hr).1 hX
        rw [q] at hr hb9 ⊢
        omega
      · exact hI.2.1 j (by omega) hr
    · refine zH_go 4 (c' := (31, [some (.inr (.inr (some 104))), some (.inr (.inr (some 117))), some (.inl (fr : Int)), some (.inl (X : Int)), some (.inl best), some (.inl (k : Int)), x6], [.inl ((fr : Int) + (k : Int)), .inr (.inr (some 117))], (zs h hl))) rfl ?_
      refine zH_np (P := 0 ≤ ((fr : Int) + (k : Int)) ∧ ((fr : Int) + (k : Int)) < ((6656 : Nat) : Int)) (c' := (32, [some (.inr (.inr (some 104))), some (.inr (.inr (some 117))), some (.inl (fr : Int)), some (.inl (X : Int)), some (.inl best), some (.inl (k : Int)), x6], [.inl (h 117 (fr + k))], (zs h hl))) rfl ⟨by omega, by omega⟩ ?_
      refine zH_go 3 (c' := (36, [some (.inr (.inr (some 104))), some (.inr (.inr (some 117))), some (.inl (fr : Int)), some (.inl (X : Int)), some (.inl best), some (.inl (k : Int)), x6], [.inl (X : Int), .inl (k : Int), .inr (.inr (some 104)), .inl (h 117 (fr + k))], (zs h hl))) rfl ?_
      have hks := (hR k hk (by omega)).1
      have hmb := zMv_b hp hL3 hT hks hX
      refine zH_call (M' := 114) (as := [.inr (.inr (some 104)), .inl (k : Int), .inl (X : Int)]) (T := [.inl (h 117 (fr + k))]) rfl (p_mvO (s := k) (t := X) hL3 hp hks hX hL hF hT.1) (fun r σ' p_2 => ?_)
      obtain ⟨rfl, rfl⟩ := p_2
      show zH _ _ (39, [some (.inr (.inr (some 104))), some (.inr (.inr (some 117))), some (.inl (fr : Int)), some (.inl (X : Int)), some (.inl best), some (.inl (k : Int)), x6], [.inl (zMv h L k X), .inl (h 117 (fr + k))], (zs h hl)) _
      refine zH_go 4 (c' := (46, [some (.inr (.inr (some 104))), some (.inr (.inr (some 117))), some (.inl (fr : Int)), some (.inl (X : Int)), some (.inl best), some (.inl (k : Int)), some (.inl ((h 117 (fr + k)) + (zMv h L k X)))], [.inl best, .inl ((h 117 (fr + k)) + (zMv h L k X))], (zs h hl))) rfl ?_
      refine zH_mg (F := fun m => (56, [some (.inr (.inr (some 104))), some (.inr (.inr (some 117))), some (.inl (fr : Int)), some (.inl (X : Int)), some (.inl best), some (.inl (k : Int)), some (.inl ((h 117 (fr + k)) + (zMv h L k X)))], [.inl m], (zs h hl))) (R := fun m => m ≤ ((h 117 (fr + k)) + (zMv h L k X)) ∧ m ≤ best ∧ (m = ((h 117 (fr + k)) + (zMv h L k X)) ∨ m = best)) (fun m_3 fm_3 => ?_) (fun kk => ?_)
      · replace fm_3 : m_3 ≤ ((h 117 (fr + k)) + (zMv h L k X)) ∧ m_3 ≤ best ∧ (m_3 = ((h 117 (fr + k)) + (zMv h L k X)) ∨ m_3 = best) := fm_3
        show zH _ _ (56, [some (.inr (.inr (some 104))), some (.inr (.inr (some 117))), some (.inl (fr : Int)), some (.inl (X : Int)), some (.inl best), some (.inl (k : Int)), some (.inl ((h 117 (fr + k)) + (zMv h L k X)))], [.inl m_3], (zs h hl)) _
        refine zH_go 3 (c' := (7, [some (.inr (.inr (some 104))), some (.inr (.inr (some 117))), some (.inl (fr : Int)), some (.inl (X : Int)), some (.inl m_3), some (.inl ((k : Int) + 1)), some (.inl ((h 117 (fr + k)) + (zMv h L k X)))], [], (zs h hl))) rfl ?_
        refine ih (m_3, (some (.inl ((h 117 (fr + k)) + (zMv h L k X))))) ?_
        show (0 ≤ m_3 ∧ m_3 ≤ 100000000) ∧ (∀ j : Nat, j < (k + 1) → h 117 (fr + j) < 100000000 → m_3 ≤ h 117 (fr + j) + zMv h L j X) ∧ (m_3 = 100000000 ∨ ∃ j : Nat, j < 512 ∧ h 117 (fr + j) < 100000000 ∧ m_3 = h 117 (fr + j) + zMv h L j X)
        refine ⟨by omega, fun j hj hr => ?_, ?_⟩
        · by_cases q : j = k
          · rw [q]; omega
          · have := hI.2.1 j (by omega) hr; omega
        · rcases fm_3.2.2 with q | q
          · exact Or.inr ⟨k, hk, by omega, q⟩
          · rcases hI.2.2 with z | ⟨j, z1, z2, z3⟩
            · exact Or.inl (q.trans z)
            · exact Or.inr ⟨j, z1, z2, q.trans z3⟩
      · refine zH_br (x := ((h 117 (fr + k)) + (zMv h L k X))) (y := best) (k := .ge) (c1 := (54, [some (.inr (.inr (some 104))), some (.inr (.inr (some 117))), some (.inl (fr : Int)), some (.inl (X : Int)), some (.inl best), some (.inl (k : Int)), some (.inl ((h 117 (fr + k)) + (zMv h L k X)))], [], (zs h hl))) (c2 := (49, [some (.inr (.inr (some 104))), some (.inr (.inr (some 117))), some (.inl (fr : Int)), some (.inl (X : Int)), some (.inl best), some (.inl (k : Int)), some (.inl ((h 117 (fr + k)) + (zMv h L k X)))], [], (zs h hl))) rfl (by first | assumption | (unfold zr; omega)) (by first | assumption | (unfold zr; omega)) (fun (b_4 : ¬ ((h 117 (fr + k)) + (zMv h L k X)) < best) => ?_) (fun (b_4 : ¬ (¬ ((h 117 (fr + k)) + (zMv h L k X)) < best)) => ?_)
        · refine zH_go 1 (c' := (56, [some (.inr (.inr (some 104))), some (.inr (.inr (some 117))), some (.inl (fr : Int)), some (.inl (X : Int)), some (.inl best), some (.inl (k : Int)), some (.inl ((h 117 (fr + k)) + (zMv h L k X)))], [.inl best], (zs h hl))) rfl ?_
          refine kk best ?_
          show best ≤ ((h 117 (fr + k)) + (zMv h L k X)) ∧ best ≤ best ∧ (best = ((h 117 (fr + k)) + (zMv h L k X)) ∨ best = best)
          exact ⟨by omega, by omega, by omega⟩
        · refine zH_go 2 (c' := (56, [some (.inr (.inr (some 104))), some (.inr (.inr (some 117))), some (.inl (fr : Int)), some (.inl (X : Int)), some (.inl best), some (.inl (k : Int)), some (.inl ((h 117 (fr + k)) + (zMv h L k X)))], [.inl ((h 117 (fr + k)) + (zMv h L k X))], (zs h hl))) rfl ?_
          refine kk ((h 117 (fr + k)) + (zMv h L k X)) ?_
          show ((h 117 (fr + k)) + (zMv h L k X)) ≤ ((h 117 (fr + k)) + (zMv h L k X)) ∧ ((h 117 (fr + k)) + (zMv h L k X)) ≤ best ∧ (((h 117 (fr + k)) + (zMv h L k X)) = ((h 117 (fr + k)) + (zMv h L k X)) ∨ ((h 117 (fr + k)) + (zMv h L k X)) = best)
          exact ⟨by omega, by omega, by omega⟩
  · obtain ⟨best, x6⟩ := x
    replace hI : (0 ≤ best ∧ best ≤ 100000000) ∧ (∀ j : Nat, j < 512 → h 117 (fr + j) < 100000000 → best ≤ h 117 (fr + j) + zMv h L j X) ∧ (best = 100000000 ∨ ∃ j : Nat, j < 512 ∧ h 117 (fr + j) < 100000000 ∧ best = h 117 (fr + j) + zMv h L j X) := hI
    show zH _ _ (7, [some (.inr (.inr (some 104))), some (.inr (.inr (some 117))), some (.inl (fr : Int)), some (.inl (X : Int)), some (.inl best), some (.inl 512), x6], [], (zs h hl)) _
    refine zH_go 2 (c' := (12, [some (.inr (.inr (some 104))), some (.inr (.inr (some 117))), some (.inl (fr : Int)), some (.inl (X : Int)), some (.inl best), some (.inl 512), x6], [.inl 512, .inl 512], (zs h hl))) rfl ?_
    refine zH_bt (x := 512) (y := 512) (k := .ge) (c1 := (64, [some (.inr (.inr (some 104))), some (.inr (.inr (some 117))), some (.inl (fr : Int)), some (.inl (X : Int)), some (.inl best), some (.inl 512), x6], [], (zs h hl))) (c2 := (15, [some (.inr (.inr (some 104))), some (.inr (.inr (some 117))), some (.inl (fr : Int)), some (.inl (X : Int)), some (.inl best), some (.inl 512), x6], [], (zs h hl))) rfl ⟨by decide, by decide⟩ ⟨by decide, by decide⟩ (by show ¬ 512 < 512; decide) ?_
    refine zH_go 1 (c' := (66, [some (.inr (.inr (some 104))), some (.inr (.inr (some 117))), some (.inl (fr : Int)), some (.inl (X : Int)), some (.inl best), some (.inl 512), x6], [.inl best], (zs h hl))) rfl ?_
    refine zH_ret (v := some (.inl best)) rfl (fun q => absurd q (by decide)) ?_
    exact ⟨best, rfl, hI.1, hI.2.1, hI.2.2, rfl⟩
  · show (0 ≤ 100000000 ∧ 100000000 ≤ 100000000) ∧ (∀ j : Nat, j < 0 → h 117 (fr + j) < 100000000 → 100000000 ≤ h 117 (fr + j) + zMv h L j X) ∧ (100000000 = 100000000 ∨ ∃ j : Nat, j < 512 ∧ h 117 (fr + j) < 100000000 ∧ 100000000 = h 117 (fr + j) + zMv h L j X)
    exact ⟨by omega, fun j hj => absurd hj (Nat.not_lt_zero j), Or.inl rfl⟩
set_option maxRecDepth 100000 in
set_option maxHeartbeats 4000000 in
theorem p_serves117 {d : Nat} {h hl : Nat → Nat → Int} {p L fr pp : Nat} (hfr : fr + 1024 ≤ 6656) (hL3 : 1 ≤ L ∧ L ≤ 3) (hp : p ≤ 6) (hpp : pp < p) (hL : h 104 9 = (L : Int)) (hF : zFE h p) (hT : zTD h p) (hR0 : ∀ j : Nat, j < 512 → 0 ≤ h 117 (fr + j) ∧ h 117 (fr + j) ≤ 100000000) (hR : ∀ j : Nat, j < 512 → h 117 (fr + j) < 100000000 → zSb p L j = true ∧ h 117 (fr + j) ≤ 100000) : zQ (d + 2) 116 [.inr (.inr (some 104)), .inr (.inr (some 117)), .inl (fr : Int), .inl (pp : Int)] (zs h hl) (fun r σ' => r = none ∧ ∃ g : Nat → Nat → Int, σ' = zs g hl ∧ (∀ c : Nat, c ≠ 117 → g c = h c) ∧ (∀ j : Nat, j < fr + 512 ∨ fr + 1024 ≤ j → g 117 j = h 117 j) ∧ zNx h L pp (fun s => h 117 (fr + s)) (fun t => g 117 (fr + 512 + t))) := by
  have hwl : ∀ s' l' : Nat, s' < 512 → l' < L → zwd s' l' pp < 512 := fun s' l' h1 h2 => zwd_lt s' h1 l' (by omega) pp (by omega)
  refine zQ_of (Nat.le_of_ble_eq_true rfl) ?_
  show zH (d + 1) 116 (0, [some (.inr (.inr (some 104))), some (.inr (.inr (some 117))), some (.inl (fr : Int)), some (.inl (pp : Int)), none, none, none, none], [], (zs h hl)) _
  refine zH_go 2 (c' := (3, [some (.inr (.inr (some 104))), some (.inr (.inr (some 117))), some (.inl (fr : Int)), some (.inl (pp : Int)), some (.inl 0), none, none, none], [], (zs h hl))) rfl ?_
  refine zH_lp (X := (Nat → Nat → Int)) (F := fun (kq : Nat) (x : (Nat → Nat → Int)) => (3, [some (.inr (.inr (some 104))), some (.inr (.inr (some 117))), some (.inl (fr : Int)), some (.inl (pp : Int)), some (.inl (kq : Int)), none, none, none], [], (zs x hl))) (I := fun (kq : Nat) (x : (Nat → Nat → Int)) => (∀ c : Nat, c ≠ 117 → x c = h c) ∧ (∀ j : Nat, j < fr + 512 ∨ fr + 1024 ≤ j → x 117 j = h 117 j) ∧ ∀ j : Nat, j < kq → x 117 (fr + 512 + j) = 100000000) (N := 512) (fun k g hk hI ih => ?_) (fun g hI => ?_) 0 h (by omega) ?_
  · skip
    replace hI : (∀ c : Nat, c ≠ 117 → g c = h c) ∧ (∀ j : Nat, j < fr + 512 ∨ fr + 1024 ≤ j → g 117 j = h 117 j) ∧ ∀ j : Nat, j < k → g 117 (fr + 512 + j) = 100000000 := hI
    show zH _ _ (3, [some (.inr (.inr (some 104))), some (.inr (.inr (some 117))), some (.inl (fr : Int)), some (.inl (pp : Int)), some (.inl (k : Int)), none, none, none], [], (zs g hl)) _
    refine zH_go 2 (c' := (8, [some (.inr (.inr (some 104))), some (.inr (.inr (some 117))), some (.inl (fr : Int)), some (.inl (pp : Int)), some (.inl (k : Int)), none, none, none], [.inl 512, .inl (k : Int)], (zs g hl))) rfl ?_
    refine zH_bf (x := (k : Int)) (y := 512) (k := .ge) (c1 := (29, [some (.inr (.inr (some 104))), some (.inr (.inr (some 117))), some (.inl (fr : Int)), some (.inl (pp : Int)), some (.inl (k : Int)), none, none, none], [], (zs g hl))) (c2 := (11, [some (.inr (.inr (some 104))), some (.inr (.inr (some 117))), some (.inl (fr : Int)), some (.inl (pp : Int)), some (.inl (k : Int)), none, none, none], [], (zs g hl))) rfl (by first | assumption | (unfold zr; omega)) ⟨by decide, by decide⟩ (by show ¬ (¬ (k : Int) < 512); omega) ?_
    refine zH_go 7 (c' := (22, [some (.inr (.inr (some 104))), some (.inr (.inr (some 117))), some (.inl (fr : Int)), some (.inl (pp : Int)), some (.inl (k : Int)), none, none, none], [.inl 100000000, .inl (((fr : Int) + 512) + (k : Int)), .inr (.inr (some 117))], (zs g hl))) rfl ?_
    refine zH_np (P := 0 ≤ (((fr : Int) + 512) + (k : Int)) ∧ (((fr : Int) + 512) + (k : Int)) < ((6656 : Nat) : Int)) (c' := (23, [some (.inr (.inr (some 104))), some (.inr (.inr (some 117))), some (.inl (fr : Int)), some (.inl (pp : Int)), some (.inl (k : Int)), none, none, none], [], (zs (zup g 117 ((fr + 512) + k) 100000000) hl))) rfl ⟨by omega, by omega⟩ ?_
    refine zH_go 2 (c' := (3, [some (.inr (.inr (some 104))), some (.inr (.inr (some 117))), some (.inl (fr : Int)), some (.inl (pp : Int)), some (.inl ((k : Int) + 1)), none, none, none], [], (zs (zup g 117 ((fr + 512) + k) 100000000) hl))) rfl ?_
    refine ih (zup g 117 ((fr + 512) + k) 100000000) ?_
    show (∀ c : Nat, c ≠ 117 → (zup g 117 ((fr + 512) + k) 100000000) c = h c) ∧ (∀ j : Nat, j < fr + 512 ∨ fr + 1024 ≤ j → (zup g 117 ((fr + 512) + k) 100000000) 117 j = h 117 j) ∧ ∀ j : Nat, j < (k + 1) → (zup g 117 ((fr + 512) + k) 100000000) 117 (fr + 512 + j) = 100000000
    refine ⟨fun c hc => ?_, fun j hj => ?_, fun j hj => ?_⟩
    · rw [← hI.1 c hc]; funext q; exact zup_ne hc
    · rw [zup_k (by omega)]; exact hI.2.1 j hj
    · by_cases q : j = k
      · rw [q, zup_eq]
      · rw [zup_k (by omega)]; exact hI.2.2 j (by omega)
  · skip
    replace hI : (∀ c : Nat, c ≠ 117 → g c = h c) ∧ (∀ j : Nat, j < fr + 512 ∨ fr + 1024 ≤ j → g 117 j = h 117 j) ∧ ∀ j : Nat, j < 512 → g 117 (fr + 512 + j) = 100000000 := hI
    show zH _ _ (3, [some (.inr (.inr (some 104))), some (.inr (.inr (some 117))), some (.inl (fr : Int)), some (.inl (pp : Int)), some (.inl 512), none, none, none], [], (zs g hl)) _
    refine zH_go 2 (c' := (8, [some (.inr (.inr (some 104))), some (.inr (.inr (some 117))), some (.inl (fr : Int)), some (.inl (pp : Int)), some (.inl 512), none, none, none], [.inl 512, .inl 512], (zs g hl))) rfl ?_
    refine zH_bt (x := 512) (y := 512) (k := .ge) (c1 := (29, [some (.inr (.inr (some 104))), some (.inr (.inr (some 117))), some (.inl (fr : Int)), some (.inl (pp : Int)), some (.inl 512), none, none, none], [], (zs g hl))) (c2 := (11, [some (.inr (.inr (some 104))), some (.inr (.inr (some 117))), some (.inl (fr : Int)), some (.inl (pp : Int)), some (.inl 512), none, none, none], [], (zs g hl))) rfl ⟨by decide, by decide⟩ ⟨by decide, by decide⟩ (by show ¬ 512 < 512; decide) ?_
    refine zH_go 2 (c' := (32, [some (.inr (.inr (some 104))), some (.inr (.inr (some 117))), some (.inl (fr : Int)), some (.inl (pp : Int)), some (.inl 0), none, none, none], [], (zs g hl))) rfl ?_
    refine zH_lp (X := (Nat → Nat → Int) × (Option zV) × (Option zV) × (Option zV)) (F := fun (kq : Nat) (x : (Nat → Nat → Int) × (Option zV) × (Option zV) × (Option zV)) => (32, [some (.inr (.inr (some 104))), some (.inr (.inr (some 117))), some (.inl (fr : Int)), some (.inl (pp : Int)), some (.inl (kq : Int)), x.2.1, x.2.2.1, x.2.2.2], [], (zs x.1 hl))) (I := fun (kq : Nat) (x : (Nat → Nat → Int) × (Option zV) × (Option zV) × (Option zV)) => (∀ c : Nat, c ≠ 117 → x.1 c = h c) ∧ (∀ j : Nat, j < fr + 512 ∨ fr + 1024 ≤ j → x.1 117 j = h 117 j) ∧ zNxI h L pp (fun s => h 117 (fr + s)) (fun t => x.1 117 (fr + 512 + t)) kq 0) (N := 512) (fun k x hk hI ih => ?_) (fun x hI => ?_) 0 (g, none, none, none) (by omega) ?_
    · obtain ⟨g, x5, x6, x7⟩ := x
      replace hI : (∀ c : Nat, c ≠ 117 → g c = h c) ∧ (∀ j : Nat, j < fr + 512 ∨ fr + 1024 ≤ j → g 117 j = h 117 j) ∧ zNxI h L pp (fun s => h 117 (fr + s)) (fun t => g 117 (fr + 512 + t)) k 0 := hI
      show zH _ _ (32, [some (.inr (.inr (some 104))), some (.inr (.inr (some 117))), some (.inl (fr : Int)), some (.inl (pp : Int)), some (.inl (k : Int)), x5, x6, x7], [], (zs g hl)) _
      have hkr := hR0 k hk
      have ek : g 117 (fr + k) = h 117 (fr + k) := hI.2.1 _ (Or.inl (by omega))
      refine zH_go 2 (c' := (37, [some (.inr (.inr (some 104))), some (.inr (.inr (some 117))), some (.inl (fr : Int)), some (.inl (pp : Int)), some (.inl (k : Int)), x5, x6, x7], [.inl 512, .inl (k : Int)], (zs g hl))) rfl ?_
      refine zH_bf (x := (k : Int)) (y := 512) (k := .ge) (c1 := (154, [some (.inr (.inr (some 104))), some (.inr (.inr (some 117))), some (.inl (fr : Int)), some (.inl (pp : Int)), some (.inl (k : Int)), x5, x6, x7], [], (zs g hl))) (c2 := (40, [some (.inr (.inr (some 104))), some (.inr (.inr (some 117))), some (.inl (fr : Int)), some (.inl (pp : Int)), some (.inl (k : Int)), x5, x6, x7], [], (zs g hl))) rfl (by first | assumption | (unfold zr; omega)) ⟨by decide, by decide⟩ (by show ¬ (¬ (k : Int) < 512); omega) ?_
      refine zH_go 4 (c' := (45, [some (.inr (.inr (some 104))), some (.inr (.inr (some 117))), some (.inl (fr : Int)), some (.inl (pp : Int)), some (.inl (k : Int)), x5, x6, x7], [.inl ((fr : Int) + (k : Int)), .inr (.inr (some 117))], (zs g hl))) rfl ?_
      refine zH_np (P := 0 ≤ ((fr : Int) + (k : Int)) ∧ ((fr : Int) + (k : Int)) < ((6656 : Nat) : Int)) (c' := (46, [some (.inr (.inr (some 104))), some (.inr (.inr (some 117))), some (.inl (fr : Int)), some (.inl (pp : Int)), some (.inl (k : Int)), x5, x6, x7], [.inl (g 117 (fr + k))], (zs g hl))) rfl ⟨by omega, by omega⟩ ?_
      refine zH_go 1 (c' := (48, [some (.inr (.inr (some 104))), some (.inr (.inr (some 117))), some (.inl (fr : Int)), some (.inl (pp : Int)), some (.inl (k : Int)), x5, x6, x7], [.inl 100000000, .inl (g 117 (fr + k))], (zs g hl))) rfl ?_
      refine zH_br (x := (g 117 (fr + k))) (y := 100000000) (k := .ge) (c1 := (148, [some (.inr (.inr (some 104))), some (.inr (.inr (some 117))), some (.inl (fr : Int)), some (.inl (pp : Int)), some (.inl (k : Int)), x5, x6, x7], [], (zs g hl))) (c2 := (51, [some (.inr (.inr (some 104))), some (.inr (.inr (some 117))), some (.inl (fr : Int)), some (.inl (pp : Int)), some (.inl (k : Int)), x5, x6, x7], [], (zs g hl))) rfl (by first | assumption | (unfold zr; omega)) ⟨by decide, by decide⟩ (fun (b_1 : ¬ (g 117 (fr + k)) < 100000000) => ?_) (fun (b_1 : ¬ (¬ (g 117 (fr + k)) < 100000000)) => ?_)
      · refine zH_go 2 (c' := (32, [some (.inr (.inr (some 104))), some (.inr (.inr (some 117))), some (.inl (fr : Int)), some (.inl (pp : Int)), some (.inl ((k : Int) + 1)), x5, x6, x7], [], (zs g hl))) rfl ?_
        refine ih (g, x5, x6, x7) ?_
        show (∀ c : Nat, c ≠ 117 → g c = h c) ∧ (∀ j : Nat, j < fr + 512 ∨ fr + 1024 ≤ j → g 117 j = h 117 j) ∧ zNxI h L pp (fun s => h 117 (fr + s)) (fun t => g 117 (fr + 512 + t)) (k + 1) 0
        exact ⟨hI.1, hI.2.1, zNxI_skip hI.2.2 (by show 100000000 ≤ h 117 (fr + k); omega)⟩
      · refine zH_go 2 (c' := (54, [some (.inr (.inr (some 104))), some (.inr (.inr (some 117))), some (.inl (fr : Int)), some (.inl (pp : Int)), some (.inl (k : Int)), some (.inl 0), x6, x7], [], (zs g hl))) rfl ?_
        refine zH_lp (X := (Nat → Nat → Int) × (Option zV) × (Option zV)) (F := fun (kq : Nat) (x : (Nat → Nat → Int) × (Option zV) × (Option zV)) => (54, [some (.inr (.inr (some 104))), some (.inr (.inr (some 117))), some (.inl (fr : Int)), some (.inl (pp : Int)), some (.inl (k : Int)), some (.inl (kq : Int)), x.2.1, x.2.2], [], (zs x.1 hl))) (I := fun (kq : Nat) (x : (Nat → Nat → Int) × (Option zV) × (Option zV)) => (∀ c : Nat, c ≠ 117 → x.1 c = h c) ∧ (∀ j : Nat, j < fr + 512 ∨ fr + 1024 ≤ j → x.1 117 j = h 117 j) ∧ zNxI h L pp (fun s => h 117 (fr + s)) (fun t => x.1 117 (fr + 512 + t)) k kq) (N := L) (fun l x hlL hJ ih2 => ?_) (fun x hJ => ?_) 0 (g, x6, x7) (by omega) ?_
        · obtain ⟨g2, x6, x7⟩ := x
          replace hJ : (∀ c : Nat, c ≠ 117 → g2 c = h c) ∧ (∀ j : Nat, j < fr + 512 ∨ fr + 1024 ≤ j → g2 117 j = h 117 j) ∧ zNxI h L pp (fun s => h 117 (fr + s)) (fun t => g2 117 (fr + 512 + t)) k l := hJ
          show zH _ _ (54, [some (.inr (.inr (some 104))), some (.inr (.inr (some 117))), some (.inl (fr : Int)), some (.inl (pp : Int)), some (.inl (k : Int)), some (.inl (l : Int)), x6, x7], [], (zs g2 hl)) _
          have kL : g2 104 9 = (L : Int) := by rw [hJ.1 104 (by decide)]; exact hL
          have hks := (hR k hk (by omega)).1
          have hT9 := zwd_lt k hk l (by omega) pp (by omega)
          have hdg := zSb_dg hks hlL
          have ef : g2 108 (6 * zdg k l + pp) = h (12 + zdg k l) pp := by rw [hJ.1 108 (by decide)]; exact hF _ _ hdg hpp
          have hfb := hT.2.1 _ _ hdg hpp
          have hfb0 := (hT.1 (zdg k l) pp (by omega) (by omega)).1
          have ek2 : g2 117 (fr + k) = h 117 (fr + k) := hJ.2.1 _ (Or.inl (by omega))
          have hkb := (hR k hk (by omega)).2
          have hold : 0 ≤ g2 117 (fr + 512 + zwd k l pp) ∧ g2 117 (fr + 512 + zwd k l pp) ≤ 100000000 := by
            rcases hJ.2.2.2 _ hT9 with q | ⟨s, l2, a1, a2, a3, a4, a5⟩
            · dsimp only at q; omega
            · dsimp only at a3 a5
              have b1 := (hR s a1 a3)
              have b2 := hT.2.1 _ _ (zSb_dg b1.1 a2) hpp
              have b3 := (hT.1 (zdg s l2) pp (by have := zSb_dg b1.1 a2; omega) (by omega)).1
              have b4 := (hR0 s a1).1
              omega
          refine zH_go 3 (c' := (60, [some (.inr (.inr (some 104))), some (.inr (.inr (some 117))), some (.inl (fr : Int)), some (.inl (pp : Int)), some (.inl (k : Int)), some (.inl (l : Int)), x6, x7], [.inl (g2 104 9), .inl (l : Int)], (zs g2 hl))) rfl ?_
          rw [kL]
          refine zH_bf (x := (l : Int)) (y := (L : Int)) (k := .ge) (c1 := (148, [some (.inr (.inr (some 104))), some (.inr (.inr (some 117))), some (.inl (fr : Int)), some (.inl (pp : Int)), some (.inl (k : Int)), some (.inl (l : Int)), x6, x7], [], (zs g2 hl))) (c2 := (63, [some (.inr (.inr (some 104))), some (.inr (.inr (some 117))), some (.inl (fr : Int)), some (.inl (pp : Int)), some (.inl (k : Int)), some (.inl (l : Int)), x6, x7], [], (zs g2 hl))) rfl (by first | assumption | (unfold zr; omega)) (by first | assumption | (unfold zr; omega)) (by show ¬ (¬ (l : Int) < (L : Int)); omega) ?_
          refine zH_go 3 (c' := (68, [some (.inr (.inr (some 104))), some (.inr (.inr (some 117))), some (.inl (fr : Int)), some (.inl (pp : Int)), some (.inl (k : Int)), some (.inl (l : Int)), x6, x7], [.inl (pp : Int), .inl (l : Int), .inl (k : Int)], (zs g2 hl))) rfl ?_
          refine zH_call (M' := 115) (as := [.inl (k : Int), .inl (l : Int), .inl (pp : Int)]) (T := []) rfl (p_moved (n := k) (i := l) (v := pp) hk (by omega) (by omega)) (fun r σ' p_2 => ?_)
          obtain ⟨rfl, rfl⟩ := p_2
          show zH _ _ (71, [some (.inr (.inr (some 104))), some (.inr (.inr (some 117))), some (.inl (fr : Int)), some (.inl (pp : Int)), some (.inl (k : Int)), some (.inl (l : Int)), x6, x7], [.inl ((zwd k l pp : Nat) : Int)], (zs g2 hl)) _
          refine zH_go 5 (c' := (78, [some (.inr (.inr (some 104))), some (.inr (.inr (some 117))), some (.inl (fr : Int)), some (.inl (pp : Int)), some (.inl (k : Int)), some (.inl (l : Int)), some (.inl ((zwd k l pp : Nat) : Int)), x7], [.inl ((fr : Int) + (k : Int)), .inr (.inr (some 117))], (zs g2 hl))) rfl ?_
          refine zH_np (P := 0 ≤ ((fr : Int) + (k : Int)) ∧ ((fr : Int) + (k : Int)) < ((6656 : Nat) : Int)) (c' := (79, [some (.inr (.inr (some 104))), some (.inr (.inr (some 117))), some (.inl (fr : Int)), some (.inl (pp : Int)), some (.inl (k : Int)), some (.inl (l : Int)), some (.inl ((zwd k l pp : Nat) : Int)), x7], [.inl (g2 117 (fr + k))], (zs g2 hl))) rfl ⟨by omega, by omega⟩ ?_
          refine zH_go 10 (c' := (95, [some (.inr (.inr (some 104))), some (.inr (.inr (some 117))), some (.inl (fr : Int)), some (.inl (pp : Int)), some (.inl (k : Int)), some (.inl (l : Int)), some (.inl ((zwd k l pp : Nat) : Int)), x7], [.inl (zand (zshr (k : Int) (3 * (l : Int))) 7), .inl 6, .inr (.inr (some 108)), .inl (g2 117 (fr + k))], (zs g2 hl))) rfl ?_
          rw [show (zand (zshr (k : Int) (3 * (l : Int))) 7) = ((zdg k l : Nat) : Int) from zdigit_ok k (by omega) l (by omega)]
          refine zH_go 3 (c' := (98, [some (.inr (.inr (some 104))), some (.inr (.inr (some 117))), some (.inl (fr : Int)), some (.inl (pp : Int)), some (.inl (k : Int)), some (.inl (l : Int)), some (.inl ((zwd k l pp : Nat) : Int)), x7], [.inl ((6 * ((zdg k l : Nat) : Int)) + (pp : Int)), .inr (.inr (some 108)), .inl (g2 117 (fr + k))], (zs g2 hl))) rfl ?_
          refine zH_np (P := 0 ≤ ((6 * ((zdg k l : Nat) : Int)) + (pp : Int)) ∧ ((6 * ((zdg k l : Nat) : Int)) + (pp : Int)) < ((36 : Nat) : Int)) (c' := (99, [some (.inr (.inr (some 104))), some (.inr (.inr (some 117))), some (.inl (fr : Int)), some (.inl (pp : Int)), some (.inl (k : Int)), some (.inl (l : Int)), some (.inl ((zwd k l pp : Nat) : Int)), x7], [.inl (g2 108 ((6 * (zdg k l)) + pp)), .inl (g2 117 (fr + k))], (zs g2 hl))) rfl ⟨by omega, by omega⟩ ?_
          refine zH_go 15 (c' := (122, [some (.inr (.inr (some 104))), some (.inr (.inr (some 117))), some (.inl (fr : Int)), some (.inl (pp : Int)), some (.inl (k : Int)), some (.inl (l : Int)), some (.inl ((zwd k l pp : Nat) : Int)), some (.inl ((g2 117 (fr + k)) + (g2 108 ((6 * (zdg k l)) + pp))))], [.inl (((fr : Int) + 512) + ((zwd k l pp : Nat) : Int)), .inr (.inr (some 117)), .inl ((g2 117 (fr + k)) + (g2 108 ((6 * (zdg k l)) + pp))), .inl (((fr : Int) + 512) + ((zwd k l pp : Nat) : Int)), .inr (.inr (some 117))], (zs g2 hl))) rfl ?_
          refine zH_np (P := 0 ≤ (((fr : Int) + 512) + ((zwd k l pp : Nat) : Int)) ∧ (((fr : Int) + 512) + ((zwd k l pp : Nat) : Int)) < ((6656 : Nat) : Int)) (c' := (123, [some (.inr (.inr (some 104))), some (.inr (.inr (some 117))), some (.inl (fr : Int)), some (.inl (pp : Int)), some (.inl (k : Int)), some (.inl (l : Int)), some (.inl ((zwd k l pp : Nat) : Int)), some (.inl ((g2 117 (fr + k)) + (g2 108 ((6 * (zdg k l)) + pp))))], [.inl (g2 117 ((fr + 512) + (zwd k l pp))), .inl ((g2 117 (fr + k)) + (g2 108 ((6 * (zdg k l)) + pp))), .inl (((fr : Int) + 512) + ((zwd k l pp : Nat) : Int)), .inr (.inr (some 117))], (zs g2 hl))) rfl ⟨by omega, by omega⟩ ?_
          refine zH_mg (F := fun m => (141, [some (.inr (.inr (some 104))), some (.inr (.inr (some 117))), some (.inl (fr : Int)), some (.inl (pp : Int)), some (.inl (k : Int)), some (.inl (l : Int)), some (.inl ((zwd k l pp : Nat) : Int)), some (.inl ((g2 117 (fr + k)) + (g2 108 ((6 * (zdg k l)) + pp))))], [.inl m, .inl (((fr : Int) + 512) + ((zwd k l pp : Nat) : Int)), .inr (.inr (some 117))], (zs g2 hl))) (R := fun m => m ≤ ((g2 117 (fr + k)) + (g2 108 ((6 * (zdg k l)) + pp))) ∧ m ≤ (g2 117 ((fr + 512) + (zwd k l pp))) ∧ (m = ((g2 117 (fr + k)) + (g2 108 ((6 * (zdg k l)) + pp))) ∨ m = (g2 117 ((fr + 512) + (zwd k l pp))))) (fun m_3 fm_3 => ?_) (fun kk => ?_)
          · replace fm_3 : m_3 ≤ ((g2 117 (fr + k)) + (g2 108 ((6 * (zdg k l)) + pp))) ∧ m_3 ≤ (g2 117 ((fr + 512) + (zwd k l pp))) ∧ (m_3 = ((g2 117 (fr + k)) + (g2 108 ((6 * (zdg k l)) + pp))) ∨ m_3 = (g2 117 ((fr + 512) + (zwd k l pp)))) := fm_3
            show zH _ _ (141, [some (.inr (.inr (some 104))), some (.inr (.inr (some 117))), some (.inl (fr : Int)), some (.inl (pp : Int)), some (.inl (k : Int)), some (.inl (l : Int)), some (.inl ((zwd k l pp : Nat) : Int)), some (.inl ((g2 117 (fr + k)) + (g2 108 ((6 * (zdg k l)) + pp))))], [.inl m_3, .inl (((fr : Int) + 512) + ((zwd k l pp : Nat) : Int)), .inr (.inr (some 117))], (zs g2 hl)) _
            refine zH_np (P := 0 ≤ (((fr : Int) + 512) + ((zwd k l pp : Nat) : Int)) ∧ (((fr : Int) + 512) + ((zwd k l pp : Nat) : Int)) < ((6656 : Nat) : Int)) (c' := (142, [some (.inr (.inr (some 104))), some (.inr (.inr (some 117))), some (.inl (fr : Int)), some (.inl (pp : Int)), some (.inl (k : Int)), some (.inl (l : Int)), some (.inl ((zwd k l pp : Nat) : Int)), some (.inl ((g2 117 (fr + k)) + (g2 108 ((6 * (zdg k l)) + pp))))], [], (zs (zup g2 117 ((fr + 512) + (zwd k l pp)) m_3) hl))) rfl ⟨by omega, by omega⟩ ?_
            refine zH_go 2 (c' := (54, [some (.inr (.inr (some 104))), some (.inr (.inr (some 117))), some (.inl (fr : Int)), some (.inl (pp : Int)), some (.inl (k : Int)), some (.inl ((l : Int) + 1)), some (.inl ((zwd k l pp : Nat) : Int)), some (.inl ((g2 117 (fr + k)) + (g2 108 ((6 * (zdg k l)) + pp))))], [], (zs (zup g2 117 ((fr + 512) + (zwd k l pp)) m_3) hl))) rfl ?_
            refine ih2 ((zup g2 117 ((fr + 512) + (zwd k l pp)) m_3), (some (.inl ((zwd k l pp : Nat) : Int))), (some (.inl ((g2 117 (fr + k)) + (g2 108 ((6 * (zdg k l)) + pp)))))) ?_
            show (∀ c : Nat, c ≠ 117 → (zup g2 117 ((fr + 512) + (zwd k l pp)) m_3) c = h c) ∧ (∀ j : Nat, j < fr + 512 ∨ fr + 1024 ≤ j → (zup g2 117 ((fr + 512) + (zwd k l pp)) m_3) 117 j = h 117 j) ∧ zNxI h L pp (fun s => h 117 (fr + s)) (fun t => (zup g2 117 ((fr + 512) + (zwd k l pp)) m_3) 117 (fr + 512 + t)) k (l + 1)
            refine ⟨fun c hc => ?_, fun j hj => ?_, zNxI_step hJ.2.2 hk hlL (by show h 117 (fr + k) < 100000000; omega) (m := m_3) ?_ hT9 ?_ (fun t ht hne => ?_) hwl⟩
            · rw [← hJ.1 c hc]; funext q; exact zup_ne hc
            · rw [zup_k (by omega)]; exact hJ.2.1 j hj
            · show m_3 ≤ h 117 (fr + k) + h (12 + zdg k l) pp ∧ m_3 ≤ g2 117 (fr + 512 + zwd k l pp) ∧ (m_3 = h 117 (fr + k) + h (12 + zdg k l) pp ∨ m_3 = g2 117 (fr + 512 + zwd k l pp))
              rw [ek2, ef] at fm_3
              exact fm_3
            · exact zup_eq
            · exact zup_k (by omega)
          · refine zH_br (x := ((g2 117 (fr + k)) + (g2 108 ((6 * (zdg k l)) + pp)))) (y := (g2 117 ((fr + 512) + (zwd k l pp)))) (k := .ge) (c1 := (131, [some (.inr (.inr (some 104))), some (.inr (.inr (some 117))), some (.inl (fr : Int)), some (.inl (pp : Int)), some (.inl (k : Int)), some (.inl (l : Int)), some (.inl ((zwd k l pp : Nat) : Int)), some (.inl ((g2 117 (fr + k)) + (g2 108 ((6 * (zdg k l)) + pp))))], [.inl (((fr : Int) + 512) + ((zwd k l pp : Nat) : Int)), .inr (.inr (some 117))], (zs g2 hl))) (c2 := (126, [some (.inr (.inr (some 104))), some (.inr (.inr (some 117))), some (.inl (fr : Int)), some (.inl (pp : Int)), some (.inl (k : Int)), some (.inl (l : Int)), some (.inl ((zwd k l pp : Nat) : Int)), some (.inl ((g2 117 (fr + k)) + (g2 108 ((6 * (zdg k l)) + pp))))], [.inl (((fr : Int) + 512) + ((zwd k l pp : Nat) : Int)), .inr (.inr (some 117))], (zs g2 hl))) rfl (by first | assumption | (unfold zr; omega)) (by first | assumption | (unfold zr; omega)) (fun (b_4 : ¬ ((g2 117 (fr + k)) + (g2 108 ((6 * (zdg k l)) + pp))) < (g2 117 ((fr + 512) + (zwd k l pp)))) => ?_) (fun (b_4 : ¬ (¬ ((g2 117 (fr + k)) + (g2 108 ((6 * (zdg k l)) + pp))) < (g2 117 ((fr + 512) + (zwd k l pp))))) => ?_)
            · refine zH_go 6 (c' := (140, [some (.inr (.inr (some 104))), some (.inr (.inr (some 117))), some (.inl (fr : Int)), some (.inl (pp : Int)), some (.inl (k : Int)), some (.inl (l : Int)), some (.inl ((zwd k l pp : Nat) : Int)), some (.inl ((g2 117 (fr + k)) + (g2 108 ((6 * (zdg k l)) + pp))))], [.inl (((fr : Int) + 512) + ((zwd k l pp : Nat) : Int)), .inr (.inr (some 117)), .inl (((fr : Int) + 512) + ((zwd k l pp : Nat) : Int)), .inr (.inr (some 117))], (zs g2 hl))) rfl ?_
              refine zH_np (P := 0 ≤ (((fr : Int) + 512) + ((zwd k l pp : Nat) : Int)) ∧ (((fr : Int) + 512) + ((zwd k l pp : Nat) : Int)) < ((6656 : Nat) : Int)) (c' := (141, [some (.inr (.inr (some 104))), some (.inr (.inr (some 117))), some (.inl (fr : Int)), some (.inl (pp : Int)), some (.inl (k : Int)), some (.inl (l : Int)), some (.inl ((zwd k l pp : Nat) : Int)), some (.inl ((g2 117 (fr + k)) + (g2 108 ((6 * (zdg k l)) + pp))))], [.inl (g2 117 ((fr + 512) + (zwd k l pp))), .inl (((fr : Int) + 512) + ((zwd k l pp : Nat) : Int)), .inr (.inr (some 117))], (zs g2 hl))) rfl ⟨by omega, by omega⟩ ?_
              refine kk (g2 117 ((fr + 512) + (zwd k l pp))) ?_
              show (g2 117 ((fr + 512) + (zwd k l pp))) ≤ ((g2 117 (fr + k)) + (g2 108 ((6 * (zdg k l)) + pp))) ∧ (g2 117 ((fr + 512) + (zwd k l pp))) ≤ (g2 117 ((fr + 512) + (zwd k l pp))) ∧ ((g2 117 ((fr + 512) + (zwd k l pp))) = ((g2 117 (fr + k)) + (g2 108 ((6 * (zdg k l)) + pp))) ∨ (g2 117 ((fr + 512) + (zwd k l pp))) = (g2 117 ((fr + 512) + (zwd k l pp))))
              exact ⟨by omega, by omega, by omega⟩
            · refine zH_go 2 (c' := (141, [some (.inr (.inr (some 104))), some (.inr (.inr (some 117))), some (.inl (fr : Int)), some (.inl (pp : Int)), some (.inl (k : Int)), some (.inl (l : Int)), some (.inl ((zwd k l pp : Nat) : Int)), some (.inl ((g2 117 (fr + k)) + (g2 108 ((6 * (zdg k l)) + pp))))], [.inl ((g2 117 (fr + k)) + (g2 108 ((6 * (zdg k l)) + pp))), .inl (((fr : Int) + 512) + ((zwd k l pp : Nat) : Int)), .inr (.inr (some 117))], (zs g2 hl))) rfl ?_
              refine kk ((g2 117 (fr + k)) + (g2 108 ((6 * (zdg k l)) + pp))) ?_
              show ((g2 117 (fr + k)) + (g2 108 ((6 * (zdg k l)) + pp))) ≤ ((g2 117 (fr + k)) + (g2 108 ((6 * (zdg k l)) + pp))) ∧ ((g2 117 (fr + k)) + (g2 108 ((6 * (zdg k l)) + pp))) ≤ (g2 117 ((fr + 512) + (zwd k l pp))) ∧ (((g2 117 (fr + k)) + (g2 108 ((6 * (zdg k l)) + pp))) = ((g2 117 (fr + k)) + (g2 108 ((6 * (zdg k l)) + pp))) ∨ ((g2 117 (fr + k)) + (g2 108 ((6 * (zdg k l)) + pp))) = (g2 117 ((fr + 512) + (zwd k l pp))))
              exact ⟨by omega, by omega, by omega⟩
        · obtain ⟨g2, x6, x7⟩ := x
          replace hJ : (∀ c : Nat, c ≠ 117 → g2 c = h c) ∧ (∀ j : Nat, j < fr + 512 ∨ fr + 1024 ≤ j → g2 117 j = h 117 j) ∧ zNxI h L pp (fun s => h 117 (fr + s)) (fun t => g2 117 (fr + 512 + t)) k L := hJ
          show zH _ _ (54, [some (.inr (.inr (some 104))), some (.inr (.inr (some 117))), some (.inl (fr : Int)), some (.inl (pp : Int)), some (.inl (k : Int)), some (.inl (L : Int)), x6, x7], [], (zs g2 hl)) _
          have kL : g2 104 9 = (L : Int) := by rw [hJ.1 104 (by decide)]; exact hL
          refine zH_go 3 (c' := (60, [some (.inr (.inr (some 104))), some (.inr (.inr (some 117))), some (.inl (fr : Int)), some (.inl (pp : Int)), some (.inl (k : Int)), some (.inl (L : Int)), x6, x7], [.inl (g2 104 9), .inl (L : Int)], (zs g2 hl))) rfl ?_
          rw [kL]
          refine zH_bt (x := (L : Int)) (y := (L : Int)) (k := .ge) (c1 := (148, [some (.inr (.inr (some 104))), some (.inr (.inr (some 117))), some (.inl (fr : Int)), some (.inl (pp : Int)), some (.inl (k : Int)), some (.inl (L : Int)), x6, x7], [], (zs g2 hl))) (c2 := (63, [some (.inr (.inr (some 104))), some (.inr (.inr (some 117))), some (.inl (fr : Int)), some (.inl (pp : Int)), some (.inl (k : Int)), some (.inl (L : Int)), x6, x7], [], (zs g2 hl))) rfl (by first | assumption | (unfold zr; omega)) (by first | assumption | (unfold zr; omega)) (by show ¬ (L : Int) < (L : Int); omega) ?_
          refine zH_go 2 (c' := (32, [some (.inr (.inr (some 104))), some (.inr (.inr (some 117))), some (.inl (fr : Int)), some (.inl (pp : Int)), some (.inl ((k : Int) + 1)), some (.inl (L : Int)), x6, x7], [], (zs g2 hl))) rfl ?_
          refine ih (g2, (some (.inl (L : Int))), x6, x7) ?_
          show (∀ c : Nat, c ≠ 117 → g2 c = h c) ∧ (∀ j : Nat, j < fr + 512 ∨ fr + 1024 ≤ j → g2 117 j = h 117 j) ∧ zNxI h L pp (fun s => h 117 (fr + s)) (fun t => g2 117 (fr + 512 + t)) (k + 1) 0
          exact ⟨hJ.1, hJ.2.1, zNxI_full hJ.2.2⟩
        · show (∀ c : Nat, c ≠ 117 → g c = h c) ∧ (∀ j : Nat, j < fr + 512 ∨ fr + 1024 ≤ j → g 117 j = h 117 j) ∧ zNxI h L pp (fun s => h 117 (fr + s)) (fun t => g 117 (fr + 512 + t)) k 0
          exact hI
    · obtain ⟨g, x5, x6, x7⟩ := x
      replace hI : (∀ c : Nat, c ≠ 117 → g c = h c) ∧ (∀ j : Nat, j < fr + 512 ∨ fr + 1024 ≤ j → g 117 j = h 117 j) ∧ zNxI h L pp (fun s => h 117 (fr + s)) (fun t => g 117 (fr + 512 + t)) 512 0 := hI
      show zH _ _ (32, [some (.inr (.inr (some 104))), some (.inr (.inr (some 117))), some (.inl (fr : Int)), some (.inl (pp : Int)), some (.inl 512), x5, x6, x7], [], (zs g hl)) _
      refine zH_go 2 (c' := (37, [some (.inr (.inr (some 104))), some (.inr (.inr (some 117))), some (.inl (fr : Int)), some (.inl (pp : Int)), some (.inl 512), x5, x6, x7], [.inl 512, .inl 512], (zs g hl))) rfl ?_
      refine zH_bt (x := 512) (y := 512) (k := .ge) (c1 := (154, [some (.inr (.inr (some 104))), some (.inr (.inr (some 117))), some (.inl (fr : Int)), some (.inl (pp : Int)), some (.inl 512), x5, x6, x7], [], (zs g hl))) (c2 := (40, [some (.inr (.inr (some 104))), some (.inr (.inr (some 117))), some (.inl (fr : Int)), some (.inl (pp : Int)), some (.inl 512), x5, x6, x7], [], (zs g hl))) rfl ⟨by decide, by decide⟩ ⟨by decide, by decide⟩ (by show ¬ 512 < 512; decide) ?_
      refine zH_ret (v := none) rfl (fun q => absurd q (by decide)) ?_
      exact ⟨rfl, g, rfl, hI.1, hI.2.1, hI.2.2⟩
    · show (∀ c : Nat, c ≠ 117 → g c = h c) ∧ (∀ j : Nat, j < fr + 512 ∨ fr + 1024 ≤ j → g 117 j = h 117 j) ∧ zNxI h L pp (fun s => h 117 (fr + s)) (fun t => g 117 (fr + 512 + t)) 0 0
      exact ⟨hI.1, hI.2.1, fun s l _ _ h1 => absurd h1 (by omega), fun t ht => Or.inl (hI.2.2 t ht)⟩
  · show (∀ c : Nat, c ≠ 117 → h c = h c) ∧ (∀ j : Nat, j < fr + 512 ∨ fr + 1024 ≤ j → h 117 j = h 117 j) ∧ ∀ j : Nat, j < 0 → h 117 (fr + 512 + j) = 100000000
    exact ⟨fun c hc => rfl, fun j hj => rfl, fun j hj => absurd hj (Nat.not_lt_zero j)⟩
set_option maxRecDepth 100000 in
set_option maxHeartbeats 4000000 in
theorem p_least118 {d : Nat} {h hl : Nat → Nat → Int} {fr : Nat} (hfr : fr + 512 ≤ 2048) (hR : ∀ j : Nat, j < 512 → 0 ≤ h 118 (fr + j) ∧ h 118 (fr + j) ≤ 100000000) : zQ (d + 1) 118 [.inr (.inr (some 118)), .inl (fr : Int)] (zs h hl) (fun r σ' => ∃ v : Int, r = some (.inl v) ∧ (0 ≤ v ∧ v ≤ 100000000) ∧ (∀ j : Nat, j < 512 → v ≤ h 118 (fr + j)) ∧ (v = 100000000 ∨ ∃ j : Nat, j < 512 ∧ v = h 118 (fr + j)) ∧ σ' = zs h hl) := by
  refine zQ_of (Nat.le_of_ble_eq_true rfl) ?_
  show zH d 118 (0, [some (.inr (.inr (some 118))), some (.inl (fr : Int)), none, none], [], (zs h hl)) _
  refine zH_go 4 (c' := (5, [some (.inr (.inr (some 118))), some (.inl (fr : Int)), some (.inl 100000000), some (.inl 0)], [], (zs h hl))) rfl ?_
  refine zH_lp (X := Int) (F := fun (kq : Nat) (x : Int) => (5, [some (.inr (.inr (some 118))), some (.inl (fr : Int)), some (.inl x), some (.inl (kq : Int))], [], (zs h hl))) (I := fun (kq : Nat) (x : Int) => (0 ≤ x ∧ x ≤ 100000000) ∧ (∀ j : Nat, j < kq → x ≤ h 118 (fr + j)) ∧ (x = 100000000 ∨ ∃ j : Nat, j < kq ∧ x = h 118 (fr + j))) (N := 512) (fun k best hk hI ih => ?_) (fun best hI => ?_) 0 100000000 (by omega) ?_
  · skip
    replace hI : (0 ≤ best ∧ best ≤ 100000000) ∧ (∀ j : Nat, j < k → best ≤ h 118 (fr + j)) ∧ (best = 100000000 ∨ ∃ j : Nat, j < k ∧ best = h 118 (fr + j)) := hI
    show zH _ _ (5, [some (.inr (.inr (some 118))), some (.inl (fr : Int)), some (.inl best), some (.inl (k : Int))], [], (zs h hl)) _
    have hb0 := hI.1
    have hkr := hR k hk
    refine zH_go 2 (c' := (9, [some (.inr (.inr (some 118))), some (.inl (fr : Int)), some (.inl best), some (.inl (k : Int))], [.inl 512, .inl (k : Int)], (zs h hl))) rfl ?_
    refine zH_bf (x := (k : Int)) (y := 512) (k := .ge) (c1 := (37, [some (.inr (.inr (some 118))), some (.inl (fr : Int)), some (.inl best), some (.inl (k : Int))], [], (zs h hl))) (c2 := (12, [some (.inr (.inr (some 118))), some (.inl (fr : Int)), some (.inl best), some (.inl (k : Int))], [], (zs h hl))) rfl (by first | assumption | (unfold zr; omega)) ⟨by decide, by decide⟩ (by show ¬ (¬ (k : Int) < 512); omega) ?_
    refine zH_go 4 (c' := (16, [some (.inr (.inr (some 118))), some (.inl (fr : Int)), some (.inl best), some (.inl (k : Int))], [.inl ((fr : Int) + (k : Int)), .inr (.inr (some 118))], (zs h hl))) rfl ?_
    refine zH_np (P := 0 ≤ ((fr : Int) + (k : Int)) ∧ ((fr : Int) + (k : Int)) < ((2048 : Nat) : Int)) (c' := (17, [some (.inr (.inr (some 118))), some (.inl (fr : Int)), some (.inl best), some (.inl (k : Int))], [.inl (h 118 (fr + k))], (zs h hl))) rfl ⟨by omega, by omega⟩ ?_
    refine zH_go 1 (c' := (18, [some (.inr (.inr (some 118))), some (.inl (fr : Int)), some (.inl best), some (.inl (k : Int))], [.inl best, .inl (h 118 (fr + k))], (zs h hl))) rfl ?_
    refine zH_mg (F := fun m => (30, [some (.inr (.inr (some 118))), some (.inl (fr : Int)), some (.inl best), some (.inl (k : Int))], [.inl m], (zs h hl))) (R := fun m => m ≤ (h 118 (fr + k)) ∧ m ≤ best ∧ (m = (h 118 (fr + k)) ∨ m = best)) (fun m_1 fm_1 => ?_) (fun kk => ?_)
    · replace fm_1 : m_1 ≤ (h 118 (fr + k)) ∧ m_1 ≤ best ∧ (m_1 = (h 118 (fr + k)) ∨ m_1 = best) := fm_1
      show zH _ _ (30, [some (.inr (.inr (some 118))), some (.inl (fr : Int)), some (.inl best), some (.inl (k : Int))], [.inl m_1], (zs h hl)) _
      refine zH_go 3 (c' := (5, [some (.inr (.inr (some 118))), some (.inl (fr : Int)), some (.inl m_1), some (.inl ((k : Int) + 1))], [], (zs h hl))) rfl ?_
      refine ih m_1 ?_
      show (0 ≤ m_1 ∧ m_1 ≤ 100000000) ∧ (∀ j : Nat, j < (k + 1) → m_1 ≤ h 118 (fr + j)) ∧ (m_1 = 100000000 ∨ ∃ j : Nat, j < (k + 1) ∧ m_1 = h 118 (fr + j))
      refine ⟨by omega, fun j hj => ?_, ?_⟩
      · by_cases q : j = k
        · rw [q]; omega
        · have := hI.2.1 j (by omega); omega
      · rcases fm_1.2.2 with q | q
        · exact Or.inr ⟨k, by omega, q⟩
        · rcases hI.2.2 with z | ⟨j, z1, z2⟩
          · exact Or.inl (q.trans z)
          · exact Or.inr ⟨j, by omega, q.trans z2⟩
    · refine zH_br (x := (h 118 (fr + k))) (y := best) (k := .ge) (c1 := (29, [some (.inr (.inr (some 118))), some (.inl (fr : Int)), some (.inl best), some (.inl (k : Int))], [], (zs h hl))) (c2 := (21, [some (.inr (.inr (some 118))), some (.inl (fr : Int)), some (.inl best), some (.inl (k : Int))], [], (zs h hl))) rfl (by first | assumption | (unfold zr; omega)) (by first | assumption | (unfold zr; omega)) (fun (b_2 : ¬ (h 118 (fr + k)) < best) => ?_) (fun (b_2 : ¬ (¬ (h 118 (fr + k)) < best)) => ?_)
      · refine zH_go 1 (c' := (30, [some (.inr (.inr (some 118))), some (.inl (fr : Int)), some (.inl best), some (.inl (k : Int))], [.inl best], (zs h hl))) rfl ?_
        refine kk best ?_
        show best ≤ (h 118 (fr + k)) ∧ best ≤ best ∧ (best = (h 118 (fr + k)) ∨ best = best)
        exact ⟨by omega, by omega, by omega⟩
      · refine zH_go 4 (c' := (25, [some (.inr (.inr (some 118))), some (.inl (fr : Int)), some (.inl best), some (.inl (k : Int))], [.inl ((fr : Int) + (k : Int)), .inr (.inr (some 118))], (zs h hl))) rfl ?_
        refine zH_np (P := 0 ≤ ((fr : Int) + (k : Int)) ∧ ((fr : Int) + (k : Int)) < ((2048 : Nat) : Int)) (c' := (26, [some (.inr (.inr (some 118))), some (.inl (fr : Int)), some (.inl best), some (.inl (k : Int))], [.inl (h 118 (fr + k))], (zs h hl))) rfl ⟨by omega, by omega⟩ ?_
        refine zH_go 1 (c' := (30, [some (.inr (.inr (some 118))), some (.inl (fr : Int)), some (.inl best), some (.inl (k : Int))], [.inl (h 118 (fr + k))], (zs h hl))) rfl ?_
        refine kk (h 118 (fr + k)) ?_
        show (h 118 (fr + k)) ≤ (h 118 (fr + k)) ∧ (h 118 (fr + k)) ≤ best ∧ ((h 118 (fr + k)) = (h 118 (fr + k)) ∨ (h 118 (fr + k)) = best)
        exact ⟨by omega, by omega, by omega⟩
  · skip
    replace hI : (0 ≤ best ∧ best ≤ 100000000) ∧ (∀ j : Nat, j < 512 → best ≤ h 118 (fr + j)) ∧ (best = 100000000 ∨ ∃ j : Nat, j < 512 ∧ best = h 118 (fr + j)) := hI
    show zH _ _ (5, [some (.inr (.inr (some 118))), some (.inl (fr : Int)), some (.inl best), some (.inl 512)], [], (zs h hl)) _
    refine zH_go 2 (c' := (9, [some (.inr (.inr (some 118))), some (.inl (fr : Int)), some (.inl best), some (.inl 512)], [.inl 512, .inl 512], (zs h hl))) rfl ?_
    refine zH_bt (x := 512) (y := 512) (k := .ge) (c1 := (37, [some (.inr (.inr (some 118))), some (.inl (fr : Int)), some (.inl best), some (.inl 512)], [], (zs h hl))) (c2 := (12, [some (.inr (.inr (some 118))), some (.inl (fr : Int)), some (.inl best), some (.inl 512)], [], (zs h hl))) rfl ⟨by decide, by decide⟩ ⟨by decide, by decide⟩ (by show ¬ 512 < 512; decide) ?_
    refine zH_go 1 (c' := (38, [some (.inr (.inr (some 118))), some (.inl (fr : Int)), some (.inl best), some (.inl 512)], [.inl best], (zs h hl))) rfl ?_
    refine zH_ret (v := some (.inl best)) rfl (fun q => absurd q (by decide)) ?_
    exact ⟨best, rfl, hI.1, hI.2.1, hI.2.2, rfl⟩
  · show (0 ≤ 100000000 ∧ 100000000 ≤ 100000000) ∧ (∀ j : Nat, j < 0 → 100000000 ≤ h 118 (fr + j)) ∧ (100000000 = 100000000 ∨ ∃ j : Nat, j < 0 ∧ 100000000 = h 118 (fr + j))
    exact ⟨by omega, fun j hj => absurd hj (Nat.not_lt_zero j), Or.inl rfl⟩
set_option maxRecDepth 100000 in
set_option maxHeartbeats 4000000 in
theorem p_starts118 {d : Nat} {h hl : Nat → Nat → Int} {B : Nat} (hBl : B < 512) (hB : h 104 10 = (B : Int)) : zQ (d + 1) 117 [.inr (.inr (some 104)), .inr (.inr (some 118))] (zs h hl) (fun r σ' => r = none ∧ ∃ g : Nat → Nat → Int, σ' = zs g hl ∧ (∀ c : Nat, c ≠ 118 → g c = h c) ∧ (∀ j : Nat, 512 ≤ j → g 118 j = h 118 j) ∧ ∀ j : Nat, j < 512 → g 118 j = if j = B then 0 else 100000000) := by
  refine zQ_of (Nat.le_of_ble_eq_true rfl) ?_
  show zH d 117 (0, [some (.inr (.inr (some 104))), some (.inr (.inr (some 118))), none], [], (zs h hl)) _
  refine zH_go 2 (c' := (2, [some (.inr (.inr (some 104))), some (.inr (.inr (some 118))), some (.inl 0)], [], (zs h hl))) rfl ?_
  refine zH_lp (X := (Nat → Nat → Int)) (F := fun (kq : Nat) (x : (Nat → Nat → Int)) => (2, [some (.inr (.inr (some 104))), some (.inr (.inr (some 118))), some (.inl (kq : Int))], [], (zs x hl))) (I := fun (kq : Nat) (x : (Nat → Nat → Int)) => (∀ c : Nat, c ≠ 118 → x c = h c) ∧ (∀ j : Nat, 512 ≤ j → x 118 j = h 118 j) ∧ ∀ j : Nat, j < kq → x 118 j = if j = B then 0 else 100000000) (N := 512) (fun k g hk hI ih => ?_) (fun g hI => ?_) 0 h (by omega) ?_
  · skip
    replace hI : (∀ c : Nat, c ≠ 118 → g c = h c) ∧ (∀ j : Nat, 512 ≤ j → g 118 j = h 118 j) ∧ ∀ j : Nat, j < k → g 118 j = if j = B then 0 else 100000000 := hI
    show zH _ _ (2, [some (.inr (.inr (some 104))), some (.inr (.inr (some 118))), some (.inl (k : Int))], [], (zs g hl)) _
    have kB : g 104 10 = (B : Int) := by rw [hI.1 104 (by decide)]; exact hB
    refine zH_go 2 (c' := (6, [some (.inr (.inr (some 104))), some (.inr (.inr (some 118))), some (.inl (k : Int))], [.inl 512, .inl (k : Int)], (zs g hl))) rfl ?_
    refine zH_bf (x := (k : Int)) (y := 512) (k := .ge) (c1 := (32, [some (.inr (.inr (some 104))), some (.inr (.inr (some 118))), some (.inl (k : Int))], [], (zs g hl))) (c2 := (9, [some (.inr (.inr (some 104))), some (.inr (.inr (some 118))), some (.inl (k : Int))], [], (zs g hl))) rfl (by first | assumption | (unfold zr; omega)) ⟨by decide, by decide⟩ (by show ¬ (¬ (k : Int) < 512); omega) ?_
    refine zH_go 5 (c' := (16, [some (.inr (.inr (some 104))), some (.inr (.inr (some 118))), some (.inl (k : Int))], [.inl (g 104 10), .inl (k : Int), .inl (k : Int), .inr (.inr (some 118))], (zs g hl))) rfl ?_
    rw [kB]
    refine zH_mg (F := fun m => (25, [some (.inr (.inr (some 104))), some (.inr (.inr (some 118))), some (.inl (k : Int))], [.inl m, .inl (k : Int), .inr (.inr (some 118))], (zs g hl))) (R := fun m => m = if k = B then 0 else 100000000) (fun m_1 fm_1 => ?_) (fun kk => ?_)
    · replace fm_1 : m_1 = if k = B then 0 else 100000000 := fm_1
      show zH _ _ (25, [some (.inr (.inr (some 104))), some (.inr (.inr (some 118))), some (.inl (k : Int))], [.inl m_1, .inl (k : Int), .inr (.inr (some 118))], (zs g hl)) _
      refine zH_np (P := 0 ≤ (k : Int) ∧ (k : Int) < ((2048 : Nat) : Int)) (c' := (26, [some (.inr (.inr (some 104))), some (.inr (.inr (some 118))), some (.inl (k : Int))], [], (zs (zup g 118 k m_1) hl))) rfl ⟨by omega, by omega⟩ ?_
      refine zH_go 2 (c' := (2, [some (.inr (.inr (some 104))), some (.inr (.inr (some 118))), some (.inl ((k : Int) + 1))], [], (zs (zup g 118 k m_1) hl))) rfl ?_
      refine ih (zup g 118 k m_1) ?_
      show (∀ c : Nat, c ≠ 118 → (zup g 118 k m_1) c = h c) ∧ (∀ j : Nat, 512 ≤ j → (zup g 118 k m_1) 118 j = h 118 j) ∧ ∀ j : Nat, j < (k + 1) → (zup g 118 k m_1) 118 j = if j = B then 0 else 100000000
      refine ⟨fun c hc => ?_, fun j hj => ?_, fun j hj => ?_⟩
      · rw [← hI.1 c hc]; funext q; exact zup_ne hc
      · rw [zup_k (by omega)]; exact hI.2.1 j hj
      · by_cases q : j = k
        · rw [q, zup_eq]; exact fm_1
        · rw [zup_k q]; exact hI.2.2 j (by omega)
    · refine zH_br (x := (k : Int)) (y := (B : Int)) (k := .ne) (c1 := (23, [some (.inr (.inr (some 104))), some (.inr (.inr (some 118))), some (.inl (k : Int))], [.inl (k : Int), .inr (.inr (some 118))], (zs g hl))) (c2 := (19, [some (.inr (.inr (some 104))), some (.inr (.inr (some 118))), some (.inl (k : Int))], [.inl (k : Int), .inr (.inr (some 118))], (zs g hl))) rfl (by first | assumption | (unfold zr; omega)) (by first | assumption | (unfold zr; omega)) (fun (b_2 : ¬ (k : Int) = (B : Int)) => ?_) (fun (b_2 : ¬ (¬ (k : Int) = (B : Int))) => ?_)
      · refine zH_go 1 (c' := (25, [some (.inr (.inr (some 104))), some (.inr (.inr (some 118))), some (.inl (k : Int))], [.inl 100000000, .inl (k : Int), .inr (.inr (some 118))], (zs g hl))) rfl ?_
        refine kk 100000000 ?_
        show 100000000 = if k = B then 0 else 100000000
        rw [if_neg (by omega)]
      · refine zH_go 2 (c' := (25, [some (.inr (.inr (some 104))), some (.inr (.inr (some 118))), some (.inl (k : Int))], [.inl 0, .inl (k : Int), .inr (.inr (some 118))], (zs g hl))) rfl ?_
        refine kk 0 ?_
        show 0 = if k = B then 0 else 100000000
        rw [if_pos (by omega)]
  · skip
    replace hI : (∀ c : Nat, c ≠ 118 → g c = h c) ∧ (∀ j : Nat, 512 ≤ j → g 118 j = h 118 j) ∧ ∀ j : Nat, j < 512 → g 118 j = if j = B then 0 else 100000000 := hI
    show zH _ _ (2, [some (.inr (.inr (some 104))), some (.inr (.inr (some 118))), some (.inl 512)], [], (zs g hl)) _
    refine zH_go 2 (c' := (6, [some (.inr (.inr (some 104))), some (.inr (.inr (some 118))), some (.inl 512)], [.inl 512, .inl 512], (zs g hl))) rfl ?_
    refine zH_bt (x := 512) (y := 512) (k := .ge) (c1 := (32, [some (.inr (.inr (some 104))), some (.inr (.inr (some 118))), some (.inl 512)], [], (zs g hl))) (c2 := (9, [some (.inr (.inr (some 104))), some (.inr (.inr (some 118))), some (.inl 512)], [], (zs g hl))) rfl ⟨by decide, by decide⟩ ⟨by decide, by decide⟩ (by show ¬ 512 < 512; decide) ?_
    refine zH_ret (v := none) rfl (fun q => absurd q (by decide)) ?_
    exact ⟨rfl, g, rfl, hI.1, hI.2.1, hI.2.2⟩
  · show (∀ c : Nat, c ≠ 118 → h c = h c) ∧ (∀ j : Nat, 512 ≤ j → h 118 j = h 118 j) ∧ ∀ j : Nat, j < 0 → h 118 j = if j = B then 0 else 100000000
    exact ⟨fun c hc => rfl, fun j hj => rfl, fun j hj => absurd hj (Nat.not_lt_zero j)⟩
set_option maxRecDepth 100000 in
set_option maxHeartbeats 4000000 in
theorem p_workOf118 {d : Nat} {h hl : Nat → Nat → Int} {p L fr X : Nat} (hfr : fr + 512 ≤ 2048) (hL3 : 1 ≤ L ∧ L ≤ 3) (hp : p ≤ 6) (hX : zSb p L X = true) (hL : h 104 9 = (L : Int)) (hF : zFE h p) (hT : zTD h p) (hR0 : ∀ j : Nat, j < 512 → 0 ≤ h 118 (fr + j) ∧ h 118 (fr + j) ≤ 100000000) (hR : ∀ j : Nat, j < 512 → h 118 (fr + j) < 100000000 → zSb p L j = true ∧ h 118 (fr + j) ≤ 100000) : zQ (d + 3) 119 [.inr (.inr (some 104)), .inr (.inr (some 118)), .inl (fr : Int), .inl (X : Int)] (zs h hl) (fun r σ' => ∃ v : Int, r = some (.inl v) ∧ (0 ≤ v ∧ v ≤ 100000000) ∧ (∀ j : Nat, j < 512 → h 118 (fr + j) < 100000000 → v ≤ h 118 (fr + j) + zMv h L j X) ∧ (v = 100000000 ∨ ∃ j : Nat, j < 512 ∧ h 118 (fr + j) < 100000000 ∧ v = h 118 (fr + j) + zMv h L j X) ∧ σ' = zs h hl) := by
  refine zQ_of (Nat.le_of_ble_eq_true rfl) ?_
  show zH (d + 2) 119 (0, [some (.inr (.inr (some 104))), some (.inr (.inr (some 118))), some (.inl (fr : Int)), some (.inl (X : Int)), none, none, none], [], (zs h hl)) _
  refine zH_go 4 (c' := (7, [some (.inr (.inr (some 104))), some (.inr (.inr (some 118))), some (.inl (fr : Int)), some (.inl (X : Int)), some (.inl 100000000), some (.inl 0), none], [], (zs h hl))) rfl ?_
  refine zH_lp (X := Int × (Option zV)) (F := fun (kq : Nat) (x : Int × (Option zV)) => (7, [some (.inr (.inr (some 104))), some (.inr (.inr (some 118))), some (.inl (fr : Int)), some (.inl (X : Int)), some (.inl x.1), some (.inl (kq : Int)), x.2], [], (zs h hl))) (I := fun (kq : Nat) (x : Int × (Option zV)) => (0 ≤ x.1 ∧ x.1 ≤ 100000000) ∧ (∀ j : Nat, j < kq → h 118 (fr + j) < 100000000 → x.1 ≤ h 118 (fr + j) + zMv h L j X) ∧ (x.1 = 100000000 ∨ ∃ j : Nat, j < 512 ∧ h 118 (fr + j) < 100000000 ∧ x.1 = h 118 (fr + j) + zMv h L j X)) (N := 512) (fun k x hk hI ih => ?_) (fun x hI => ?_) 0 (100000000, none) (by omega) ?_
  · obtain ⟨best, x6⟩ := x
    replace hI : (0 ≤ best ∧ best ≤ 100000000) ∧ (∀ j : Nat, j < k → h 118 (fr + j) < 100000000 → best ≤ h 118 (fr + j) + zMv h L j X) ∧ (best = 100000000 ∨ ∃ j : Nat, j < 512 ∧ h 118 (fr + j) < 100000000 ∧ best = h 118 (fr + j) + zMv h L j X) := hI
    show zH _ _ (7, [some (.inr (.inr (some 104))), some (.inr (.inr (some 118))), some (.inl (fr : Int)), some (.inl (X : Int)), some (.inl best), some (.inl (k : Int)), x6], [], (zs h hl)) _
    have hb0 := hI.1
    have hkr := hR0 k hk
    refine zH_go 2 (c' := (12, [some (.inr (.inr (some 104))), some (.inr (.inr (some 118))), some (.inl (fr : Int)), some (.inl (X : Int)), some (.inl best), some (.inl (k : Int)), x6], [.inl 512, .inl (k : Int)], (zs h hl))) rfl ?_
    refine zH_bf (x := (k : Int)) (y := 512) (k := .ge) (c1 := (64, [some (.inr (.inr (some 104))), some (.inr (.inr (some 118))), some (.inl (fr : Int)), some (.inl (X : Int)), some (.inl best), some (.inl (k : Int)), x6], [], (zs h hl))) (c2 := (15, [some (.inr (.inr (some 104))), some (.inr (.inr (some 118))), some (.inl (fr : Int)), some (.inl (X : Int)), some (.inl best), some (.inl (k : Int)), x6], [], (zs h hl))) rfl (by first | assumption | (unfold zr; omega)) ⟨by decide, by decide⟩ (by show ¬ (¬ (k : Int) < 512); omega) ?_
    refine zH_go 4 (c' := (20, [some (.inr (.inr (some 104))), some (.inr (.inr (some 118))), some (.inl (fr : Int)), some (.inl (X : Int)), some (.inl best), some (.inl (k : Int)), x6], [.inl ((fr : Int) + (k : Int)), .inr (.inr (some 118))], (zs h hl))) rfl ?_
    refine zH_np (P := 0 ≤ ((fr : Int) + (k : Int)) ∧ ((fr : Int) + (k : Int)) < ((2048 : Nat) : Int)) (c' := (21, [some (.inr (.inr (some 104))), some (.inr (.inr (some 118))), some (.inl (fr : Int)), some (.inl (X : Int)), some (.inl best), some (.inl (k : Int)), x6], [.inl (h 118 (fr + k))], (zs h hl))) rfl ⟨by omega, by omega⟩ ?_
    refine zH_go 1 (c' := (23, [some (.inr (.inr (some 104))), some (.inr (.inr (some 118))), some (.inl (fr : Int)), some (.inl (X : Int)), some (.inl best), some (.inl (k : Int)), x6], [.inl best, .inl (h 118 (fr + k))], (zs h hl))) rfl ?_
    refine zH_br (x := (h 118 (fr + k))) (y := best) (k := .ge) (c1 := (58, [some (.inr (.inr (some 104))), some (.inr (.inr (some 118))), some (.inl (fr : Int)), some (.inl (X : Int)), some (.inl best), some (.inl (k : Int)), x6], [], (zs h hl))) (c2 := (26, [some (.inr (.inr (some 104))), some (.inr (.inr (some 118))), some (.inl (fr : Int)), some (.inl (X : Int)), some (.inl best), some (.inl (k : Int)), x6], [], (zs h hl))) rfl (by first | assumption | (unfold zr; omega)) (by first | assumption | (unfold zr; omega)) (fun (b_1 : ¬ (h 118 (fr + k)) < best) => ?_) (fun (b_1 : ¬ (¬ (h 118 (fr + k)) < best)) => ?_)
    · refine zH_go 2 (c' := (7, [some (.inr (.inr (some 104))), some (.inr (.inr (some 118))), some (.inl (fr : Int)), some (.inl (X : Int)), some (.inl best), some (.inl ((k : Int) + 1)), x6], [], (zs h hl))) rfl ?_
      refine ih (best, x6) ?_
      show (0 ≤ best ∧ best ≤ 100000000) ∧ (∀ j : Nat, j < (k + 1) → h 118 (fr + j) < 100000000 → best ≤ h 118 (fr + j) + zMv h L j X) ∧ (best = 100000000 ∨ ∃ j : Nat, j < 512 ∧ h 118 (fr + j) < 100000000 ∧ best = h 118 (fr + j) + zMv h L j X)
      refine ⟨hI.1, fun j hj hr => ?_, hI.2.2⟩
      by_cases q : j = k
      · have hb9 := zMv_b hp hL3 hT (hR j (by omega) hr).1 hX
        rw [q] at hr hb9 ⊢
        omega
      · exact hI.2.1 j (by omega) hr
    · refine zH_go 4 (c' := (31, [some (.inr (.inr (some 104))), some (.inr (.inr (some 118))), some (.inl (fr : Int)), some (.inl (X : Int)), some (.inl best), some (.inl (k : Int)), x6], [.inl ((fr : Int) + (k : Int)), .inr (.inr (some 118))], (zs h hl))) rfl ?_
      refine zH_np (P := 0 ≤ ((fr : Int) + (k : Int)) ∧ ((fr : Int) + (k : Int)) < ((2048 : Nat) : Int)) (c' := (32, [some (.inr (.inr (some 104))), some (.inr (.inr (some 118))), some (.inl (fr : Int)), some (.inl (X : Int)), some (.inl best), some (.inl (k : Int)), x6], [.inl (h 118 (fr + k))], (zs h hl))) rfl ⟨by omega, by omega⟩ ?_
      refine zH_go 3 (c' := (36, [some (.inr (.inr (some 104))), some (.inr (.inr (some 118))), some (.inl (fr : Int)), some (.inl (X : Int)), some (.inl best), some (.inl (k : Int)), x6], [.inl (X : Int), .inl (k : Int), .inr (.inr (some 104)), .inl (h 118 (fr + k))], (zs h hl))) rfl ?_
      have hks := (hR k hk (by omega)).1
      have hmb := zMv_b hp hL3 hT hks hX
      refine zH_call (M' := 114) (as := [.inr (.inr (some 104)), .inl (k : Int), .inl (X : Int)]) (T := [.inl (h 118 (fr + k))]) rfl (p_mvO (s := k) (t := X) hL3 hp hks hX hL hF hT.1) (fun r σ' p_2 => ?_)
      obtain ⟨rfl, rfl⟩ := p_2
      show zH _ _ (39, [some (.inr (.inr (some 104))), some (.inr (.inr (some 118))), some (.inl (fr : Int)), some (.inl (X : Int)), some (.inl best), some (.inl (k : Int)), x6], [.inl (zMv h L k X), .inl (h 118 (fr + k))], (zs h hl)) _
      refine zH_go 4 (c' := (46, [some (.inr (.inr (some 104))), some (.inr (.inr (some 118))), some (.inl (fr : Int)), some (.inl (X : Int)), some (.inl best), some (.inl (k : Int)), some (.inl ((h 118 (fr + k)) + (zMv h L k X)))], [.inl best, .inl ((h 118 (fr + k)) + (zMv h L k X))], (zs h hl))) rfl ?_
      refine zH_mg (F := fun m => (56, [some (.inr (.inr (some 104))), some (.inr (.inr (some 118))), some (.inl (fr : Int)), some (.inl (X : Int)), some (.inl best), some (.inl (k : Int)), some (.inl ((h 118 (fr + k)) + (zMv h L k X)))], [.inl m], (zs h hl))) (R := fun m => m ≤ ((h 118 (fr + k)) + (zMv h L k X)) ∧ m ≤ best ∧ (m = ((h 118 (fr + k)) + (zMv h L k X)) ∨ m = best)) (fun m_3 fm_3 => ?_) (fun kk => ?_)
      · replace fm_3 : m_3 ≤ ((h 118 (fr + k)) + (zMv h L k X)) ∧ m_3 ≤ best ∧ (m_3 = ((h 118 (fr + k)) + (zMv h L k X)) ∨ m_3 = best) := fm_3
        show zH _ _ (56, [some (.inr (.inr (some 104))), some (.inr (.inr (some 118))), some (.inl (fr : Int)), some (.inl (X : Int)), some (.inl best), some (.inl (k : Int)), some (.inl ((h 118 (fr + k)) + (zMv h L k X)))], [.inl m_3], (zs h hl)) _
        refine zH_go 3 (c' := (7, [some (.inr (.inr (some 104))), some (.inr (.inr (some 118))), some (.inl (fr : Int)), some (.inl (X : Int)), some (.inl m_3), some (.inl ((k : Int) + 1)), some (.inl ((h 118 (fr + k)) + (zMv h L k X)))], [], (zs h hl))) rfl ?_
        refine ih (m_3, (some (.inl ((h 118 (fr + k)) + (zMv h L k X))))) ?_
        show (0 ≤ m_3 ∧ m_3 ≤ 100000000) ∧ (∀ j : Nat, j < (k + 1) → h 118 (fr + j) < 100000000 → m_3 ≤ h 118 (fr + j) + zMv h L j X) ∧ (m_3 = 100000000 ∨ ∃ j : Nat, j < 512 ∧ h 118 (fr + j) < 100000000 ∧ m_3 = h 118 (fr + j) + zMv h L j X)
        refine ⟨by omega, fun j hj hr => ?_, ?_⟩
        · by_cases q : j = k
          · rw [q]; omega
          · have := hI.2.1 j (by omega) hr; omega
        · rcases fm_3.2.2 with q | q
          · exact Or.inr ⟨k, hk, by omega, q⟩
          · rcases hI.2.2 with z | ⟨j, z1, z2, z3⟩
            · exact Or.inl (q.trans z)
            · exact Or.inr ⟨j, z1, z2, q.trans z3⟩
      · refine zH_br (x := ((h 118 (fr + k)) + (zMv h L k X))) (y := best) (k := .ge) (c1 := (54, [some (.inr (.inr (some 104))), some (.inr (.inr (some 118))), some (.inl (fr : Int)), some (.inl (X : Int)), some (.inl best), some (.inl (k : Int)), some (.inl ((h 118 (fr + k)) + (zMv h L k X)))], [], (zs h hl))) (c2 := (49, [some (.inr (.inr (some 104))), some (.inr (.inr (some 118))), some (.inl (fr : Int)), some (.inl (X : Int)), some (.inl best), some (.inl (k : Int)), some (.inl ((h 118 (fr + k)) + (zMv h L k X)))], [], (zs h hl))) rfl (by first | assumption | (unfold zr; omega)) (by first | assumption | (unfold zr; omega)) (fun (b_4 : ¬ ((h 118 (fr + k)) + (zMv h L k X)) < best) => ?_) (fun (b_4 : ¬ (¬ ((h 118 (fr + k)) + (zMv h L k X)) < best)) => ?_)
        · refine zH_go 1 (c' := (56, [some (.inr (.inr (some 104))), some (.inr (.inr (some 118))), some (.inl (fr : Int)), some (.inl (X : Int)), some (.inl best), some (.inl (k : Int)), some (.inl ((h 118 (fr + k)) + (zMv h L k X)))], [.inl best], (zs h hl))) rfl ?_
          refine kk best ?_
          show best ≤ ((h 118 (fr + k)) + (zMv h L k X)) ∧ best ≤ best ∧ (best = ((h 118 (fr + k)) + (zMv h L k X)) ∨ best = best)
          exact ⟨by omega, by omega, by omega⟩
        · refine zH_go 2 (c' := (56, [some (.inr (.inr (some 104))), some (.inr (.inr (some 118))), some (.inl (fr : Int)), some (.inl (X : Int)), some (.inl best), some (.inl (k : Int)), some (.inl ((h 118 (fr + k)) + (zMv h L k X)))], [.inl ((h 118 (fr + k)) + (zMv h L k X))], (zs h hl))) rfl ?_
          refine kk ((h 118 (fr + k)) + (zMv h L k X)) ?_
          show ((h 118 (fr + k)) + (zMv h L k X)) ≤ ((h 118 (fr + k)) + (zMv h L k X)) ∧ ((h 118 (fr + k)) + (zMv h L k X)) ≤ best ∧ (((h 118 (fr + k)) + (zMv h L k X)) = ((h 118 (fr + k)) + (zMv h L k X)) ∨ ((h 118 (fr + k)) + (zMv h L k X)) = best)
          exact ⟨by omega, by omega, by omega⟩
  · obtain ⟨best, x6⟩ := x
    replace hI : (0 ≤ best ∧ best ≤ 100000000) ∧ (∀ j : Nat, j < 512 → h 118 (fr + j) < 100000000 → best ≤ h 118 (fr + j) + zMv h L j X) ∧ (best = 100000000 ∨ ∃ j : Nat, j < 512 ∧ h 118 (fr + j) < 100000000 ∧ best = h 118 (fr + j) + zMv h L j X) := hI
    show zH _ _ (7, [some (.inr (.inr (some 104))), some (.inr (.inr (some 118))), some (.inl (fr : Int)), some (.inl (X : Int)), some (.inl best), some (.inl 512), x6], [], (zs h hl)) _
    refine zH_go 2 (c' := (12, [some (.inr (.inr (some 104))), some (.inr (.inr (some 118))), some (.inl (fr : Int)), some (.inl (X : Int)), some (.inl best), some (.inl 512), x6], [.inl 512, .inl 512], (zs h hl))) rfl ?_
    refine zH_bt (x := 512) (y := 512) (k := .ge) (c1 := (64, [some (.inr (.inr (some 104))), some (.inr (.inr (some 118))), some (.inl (fr : Int)), some (.inl (X : Int)), some (.inl best), some (.inl 512), x6], [], (zs h hl))) (c2 := (15, [some (.inr (.inr (some 104))), some (.inr (.inr (some 118))), some (.inl (fr : Int)), some (.inl (X : Int)), some (.inl best), some (.inl 512), x6], [], (zs h hl))) rfl ⟨by decide, by decide⟩ ⟨by decide, by decide⟩ (by show ¬ 512 < 512; decide) ?_
    refine zH_go 1 (c' := (66, [some (.inr (.inr (some 104))), some (.inr (.inr (some 118))), some (.inl (fr : Int)), some (.inl (X : Int)), some (.inl best), some (.inl 512), x6], [.inl best], (zs h hl))) rfl ?_
    refine zH_ret (v := some (.inl best)) rfl (fun q => absurd q (by decide)) ?_
    exact ⟨best, rfl, hI.1, hI.2.1, hI.2.2, rfl⟩
  · show (0 ≤ 100000000 ∧ 100000000 ≤ 100000000) ∧ (∀ j : Nat, j < 0 → h 118 (fr + j) < 100000000 → 100000000 ≤ h 118 (fr + j) + zMv h L j X) ∧ (100000000 = 100000000 ∨ ∃ j : Nat, j < 512 ∧ h 118 (fr + j) < 100000000 ∧ 100000000 = h 118 (fr + j) + zMv h L j X)
    exact ⟨by omega, fun j hj => absurd hj (Nat.not_lt_zero j), Or.inl rfl⟩
set_option maxRecDepth 100000 in
set_option maxHeartbeats 4000000 in
theorem p_serves118 {d : Nat} {h hl : Nat → Nat → Int} {p L fr pp : Nat} (hfr : fr + 1024 ≤ 2048) (hL3 : 1 ≤ L ∧ L ≤ 3) (hp : p ≤ 6) (hpp : pp < p) (hL : h 104 9 = (L : Int)) (hF : zFE h p) (hT : zTD h p) (hR0 : ∀ j : Nat, j < 512 → 0 ≤ h 118 (fr + j) ∧ h 118 (fr + j) ≤ 100000000) (hR : ∀ j : Nat, j < 512 → h 118 (fr + j) < 100000000 → zSb p L j = true ∧ h 118 (fr + j) ≤ 100000) : zQ (d + 2) 116 [.inr (.inr (some 104)), .inr (.inr (some 118)), .inl (fr : Int), .inl (pp : Int)] (zs h hl) (fun r σ' => r = none ∧ ∃ g : Nat → Nat → Int, σ' = zs g hl ∧ (∀ c : Nat, c ≠ 118 → g c = h c) ∧ (∀ j : Nat, j < fr + 512 ∨ fr + 1024 ≤ j → g 118 j = h 118 j) ∧ zNx h L pp (fun s => h 118 (fr + s)) (fun t => g 118 (fr + 512 + t))) := by
  have hwl : ∀ s' l' : Nat, s' < 512 → l' < L → zwd s' l' pp < 512 := fun s' l' h1 h2 => zwd_lt s' h1 l' (by omega) pp (by omega)
  refine zQ_of (Nat.le_of_ble_eq_true rfl) ?_
  show zH (d + 1) 116 (0, [some (.inr (.inr (some 104))), some (.inr (.inr (some 118))), some (.inl (fr : Int)), some (.inl (pp : Int)), none, none, none, none], [], (zs h hl)) _
  refine zH_go 2 (c' := (3, [some (.inr (.inr (some 104))), some (.inr (.inr (some 118))), some (.inl (fr : Int)), some (.inl (pp : Int)), some (.inl 0), none, none, none], [], (zs h hl))) rfl ?_
  refine zH_lp (X := (Nat → Nat → Int)) (F := fun (kq : Nat) (x : (Nat → Nat → Int)) => (3, [some (.inr (.inr (some 104))), some (.inr (.inr (some 118))), some (.inl (fr : Int)), some (.inl (pp : Int)), some (.inl (kq : Int)), none, none, none], [], (zs x hl))) (I := fun (kq : Nat) (x : (Nat → Nat → Int)) => (∀ c : Nat, c ≠ 118 → x c = h c) ∧ (∀ j : Nat, j < fr + 512 ∨ fr + 1024 ≤ j → x 118 j = h 118 j) ∧ ∀ j : Nat, j < kq → x 118 (fr + 512 + j) = 100000000) (N := 512) (fun k g hk hI ih => ?_) (fun g hI => ?_) 0 h (by omega) ?_
  · skip
    replace hI : (∀ c : Nat, c ≠ 118 → g c = h c) ∧ (∀ j : Nat, j < fr + 512 ∨ fr + 1024 ≤ j → g 118 j = h 118 j) ∧ ∀ j : Nat, j < k → g 118 (fr + 512 + j) = 100000000 := hI
    show zH _ _ (3, [some (.inr (.inr (some 104))), some (.inr (.inr (some 118))), some (.inl (fr : Int)), some (.inl (pp : Int)), some (.inl (k : Int)), none, none, none], [], (zs g hl)) _
    refine zH_go 2 (c' := (8, [some (.inr (.inr (some 104))), some (.inr (.inr (some 118))), some (.inl (fr : Int)), some (.inl (pp : Int)), some (.inl (k : Int)), none, none, none], [.inl 512, .inl (k : Int)], (zs g hl))) rfl ?_
    refine zH_bf (x := (k : Int)) (y := 512) (k := .ge) (c1 := (29, [some (.inr (.inr (some 104))), some (.inr (.inr (some 118))), some (.inl (fr : Int)), some (.inl (pp : Int)), some (.inl (k : Int)), none, none, none], [], (zs g hl))) (c2 := (11, [some (.inr (.inr (some 104))), some (.inr (.inr (some 118))), some (.inl (fr : Int)), some (.inl (pp : Int)), some (.inl (k : Int)), none, none, none], [], (zs g hl))) rfl (by first | assumption | (unfold zr; omega)) ⟨by decide, by decide⟩ (by show ¬ (¬ (k : Int) < 512); omega) ?_
    refine zH_go 7 (c' := (22, [some (.inr (.inr (some 104))), some (.inr (.inr (some 118))), some (.inl (fr : Int)), some (.inl (pp : Int)), some (.inl (k : Int)), none, none, none], [.inl 100000000, .inl (((fr : Int) + 512) + (k : Int)), .inr (.inr (some 118))], (zs g hl))) rfl ?_
    refine zH_np (P := 0 ≤ (((fr : Int) + 512) + (k : Int)) ∧ (((fr : Int) + 512) + (k : Int)) < ((2048 : Nat) : Int)) (c' := (23, [some (.inr (.inr (some 104))), some (.inr (.inr (some 118))), some (.inl (fr : Int)), some (.inl (pp : Int)), some (.inl (k : Int)), none, none, none], [], (zs (zup g 118 ((fr + 512) + k) 100000000) hl))) rfl ⟨by omega, by omega⟩ ?_
    refine zH_go 2 (c' := (3, [some (.inr (.inr (some 104))), some (.inr (.inr (some 118))), some (.inl (fr : Int)), some (.inl (pp : Int)), some (.inl ((k : Int) + 1)), none, none, none], [], (zs (zup g 118 ((fr + 512) + k) 100000000) hl))) rfl ?_
    refine ih (zup g 118 ((fr + 512) + k) 100000000) ?_
    show (∀ c : Nat, c ≠ 118 → (zup g 118 ((fr + 512) + k) 100000000) c = h c) ∧ (∀ j : Nat, j < fr + 512 ∨ fr + 1024 ≤ j → (zup g 118 ((fr + 512) + k) 100000000) 118 j = h 118 j) ∧ ∀ j : Nat, j < (k + 1) → (zup g 118 ((fr + 512) + k) 100000000) 118 (fr + 512 + j) = 100000000
    refine ⟨fun c hc => ?_, fun j hj => ?_, fun j hj => ?_⟩
    · rw [← hI.1 c hc]; funext q; exact zup_ne hc
    · rw [zup_k (by omega)]; exact hI.2.1 j hj
    · by_cases q : j = k
      · rw [q, zup_eq]
      · rw [zup_k (by omega)]; exact hI.2.2 j (by omega)
  · skip
    replace hI : (∀ c : Nat, c ≠ 118 → g c = h c) ∧ (∀ j : Nat, j < fr + 512 ∨ fr + 1024 ≤ j → g 118 j = h 118 j) ∧ ∀ j : Nat, j < 512 → g 118 (fr + 512 + j) = 100000000 := hI
    show zH _ _ (3, [some (.inr (.inr (some 104))), some (.inr (.inr (some 118))), some (.inl (fr : Int)), some (.inl (pp : Int)), some (.inl 512), none, none, none], [], (zs g hl)) _
    refine zH_go 2 (c' := (8, [some (.inr (.inr (some 104))), some (.inr (.inr (some 118))), some (.inl (fr : Int)), some (.inl (pp : Int)), some (.inl 512), none, none, none], [.inl 512, .inl 512], (zs g hl))) rfl ?_
    refine zH_bt (x := 512) (y := 512) (k := .ge) (c1 := (29, [some (.inr (.inr (some 104))), some (.inr (.inr (some 118))), some (.inl (fr : Int)), some (.inl (pp : Int)), some (.inl 512), none, none, none], [], (zs g hl))) (c2 := (11, [some (.inr (.inr (some 104))), some (.inr (.inr (some 118))), some (.inl (fr : Int)), some (.inl (pp : Int)), some (.inl 512), none, none, none], [], (zs g hl))) rfl ⟨by decide, by decide⟩ ⟨by decide, by decide⟩ (by show ¬ 512 < 512; decide) ?_
    refine zH_go 2 (c' := (32, [some (.inr (.inr (some 104))), some (.inr (.inr (some 118))), some (.inl (fr : Int)), some (.inl (pp : Int)), some (.inl 0), none, none, none], [], (zs g hl))) rfl ?_
    refine zH_lp (X := (Nat → Nat → Int) × (Option zV) × (Option zV) × (Option zV)) (F := fun (kq : Nat) (x : (Nat → Nat → Int) × (Option zV) × (Option zV) × (Option zV)) => (32, [some (.inr (.inr (some 104))), some (.inr (.inr (some 118))), some (.inl (fr : Int)), some (.inl (pp : Int)), some (.inl (kq : Int)), x.2.1, x.2.2.1, x.2.2.2], [], (zs x.1 hl))) (I := fun (kq : Nat) (x : (Nat → Nat → Int) × (Option zV) × (Option zV) × (Option zV)) => (∀ c : Nat, c ≠ 118 → x.1 c = h c) ∧ (∀ j : Nat, j < fr + 512 ∨ fr + 1024 ≤ j → x.1 118 j = h 118 j) ∧ zNxI h L pp (fun s => h 118 (fr + s)) (fun t => x.1 118 (fr + 512 + t)) kq 0) (N := 512) (fun k x hk hI ih => ?_) (fun x hI => ?_) 0 (g, none, none, none) (by omega) ?_
    · obtain ⟨g, x5, x6, x7⟩ := x
      replace hI : (∀ c : Nat, c ≠ 118 → g c = h c) ∧ (∀ j : Nat, j < fr + 512 ∨ fr + 1024 ≤ j → g 118 j = h 118 j) ∧ zNxI h L pp (fun s => h 118 (fr + s)) (fun t => g 118 (fr + 512 + t)) k 0 := hI
      show zH _ _ (32, [some (.inr (.inr (some 104))), some (.inr (.inr (some 118))), some (.inl (fr : Int)), some (.inl (pp : Int)), some (.inl (k : Int)), x5, x6, x7], [], (zs g hl)) _
      have hkr := hR0 k hk
      have ek : g 118 (fr + k) = h 118 (fr + k) := hI.2.1 _ (Or.inl (by omega))
      refine zH_go 2 (c' := (37, [some (.inr (.inr (some 104))), some (.inr (.inr (some 118))), some (.inl (fr : Int)), some (.inl (pp : Int)), some (.inl (k : Int)), x5, x6, x7], [.inl 512, .inl (k : Int)], (zs g hl))) rfl ?_
      refine zH_bf (x := (k : Int)) (y := 512) (k := .ge) (c1 := (154, [some (.inr (.inr (some 104))), some (.inr (.inr (some 118))), some (.inl (fr : Int)), some (.inl (pp : Int)), some (.inl (k : Int)), x5, x6, x7], [], (zs g hl))) (c2 := (40, [some (.inr (.inr (some 104))), some (.inr (.inr (some 118))), some (.inl (fr : Int)), some (.inl (pp : Int)), some (.inl (k : Int)), x5, x6, x7], [], (zs g hl))) rfl (by first | assumption | (unfold zr; omega)) ⟨by decide, by decide⟩ (by show ¬ (¬ (k : Int) < 512); omega) ?_
      refine zH_go 4 (c' := (45, [some (.inr (.inr (some 104))), some (.inr (.inr (some 118))), some (.inl (fr : Int)), some (.inl (pp : Int)), some (.inl (k : Int)), x5, x6, x7], [.inl ((fr : Int) + (k : Int)), .inr (.inr (some 118))], (zs g hl))) rfl ?_
      refine zH_np (P := 0 ≤ ((fr : Int) + (k : Int)) ∧ ((fr : Int) + (k : Int)) < ((2048 : Nat) : Int)) (c' := (46, [some (.inr (.inr (some 104))), some (.inr (.inr (some 118))), some (.inl (fr : Int)), some (.inl (pp : Int)), some (.inl (k : Int)), x5, x6, x7], [.inl (g 118 (fr + k))], (zs g hl))) rfl ⟨by omega, by omega⟩ ?_
      refine zH_go 1 (c' := (48, [some (.inr (.inr (some 104))), some (.inr (.inr (some 118))), some (.inl (fr : Int)), some (.inl (pp : Int)), some (.inl (k : Int)), x5, x6, x7], [.inl 100000000, .inl (g 118 (fr + k))], (zs g hl))) rfl ?_
      refine zH_br (x := (g 118 (fr + k))) (y := 100000000) (k := .ge) (c1 := (148, [some (.inr (.inr (some 104))), some (.inr (.inr (some 118))), some (.inl (fr : Int)), some (.inl (pp : Int)), some (.inl (k : Int)), x5, x6, x7], [], (zs g hl))) (c2 := (51, [some (.inr (.inr (some 104))), some (.inr (.inr (some 118))), some (.inl (fr : Int)), some (.inl (pp : Int)), some (.inl (k : Int)), x5, x6, x7], [], (zs g hl))) rfl (by first | assumption | (unfold zr; omega)) ⟨by decide, by decide⟩ (fun (b_1 : ¬ (g 118 (fr + k)) < 100000000) => ?_) (fun (b_1 : ¬ (¬ (g 118 (fr + k)) < 100000000)) => ?_)
      · refine zH_go 2 (c' := (32, [some (.inr (.inr (some 104))), some (.inr (.inr (some 118))), some (.inl (fr : Int)), some (.inl (pp : Int)), some (.inl ((k : Int) + 1)), x5, x6, x7], [], (zs g hl))) rfl ?_
        refine ih (g, x5, x6, x7) ?_
        show (∀ c : Nat, c ≠ 118 → g c = h c) ∧ (∀ j : Nat, j < fr + 512 ∨ fr + 1024 ≤ j → g 118 j = h 118 j) ∧ zNxI h L pp (fun s => h 118 (fr + s)) (fun t => g 118 (fr + 512 + t)) (k + 1) 0
        exact ⟨hI.1, hI.2.1, zNxI_skip hI.2.2 (by show 100000000 ≤ h 118 (fr + k); omega)⟩
      · refine zH_go 2 (c' := (54, [some (.inr (.inr (some 104))), some (.inr (.inr (some 118))), some (.inl (fr : Int)), some (.inl (pp : Int)), some (.inl (k : Int)), some (.inl 0), x6, x7], [], (zs g hl))) rfl ?_
        refine zH_lp (X := (Nat → Nat → Int) × (Option zV) × (Option zV)) (F := fun (kq : Nat) (x : (Nat → Nat → Int) × (Option zV) × (Option zV)) => (54, [some (.inr (.inr (some 104))), some (.inr (.inr (some 118))), some (.inl (fr : Int)), some (.inl (pp : Int)), some (.inl (k : Int)), some (.inl (kq : Int)), x.2.1, x.2.2], [], (zs x.1 hl))) (I := fun (kq : Nat) (x : (Nat → Nat → Int) × (Option zV) × (Option zV)) => (∀ c : Nat, c ≠ 118 → x.1 c = h c) ∧ (∀ j : Nat, j < fr + 512 ∨ fr + 1024 ≤ j → x.1 118 j = h 118 j) ∧ zNxI h L pp (fun s => h 118 (fr + s)) (fun t => x.1 118 (fr + 512 + t)) k kq) (N := L) (fun l x hlL hJ ih2 => ?_) (fun x hJ => ?_) 0 (g, x6, x7) (by omega) ?_
        · obtain ⟨g2, x6, x7⟩ := x
          replace hJ : (∀ c : Nat, c ≠ 118 → g2 c = h c) ∧ (∀ j : Nat, j < fr + 512 ∨ fr + 1024 ≤ j → g2 118 j = h 118 j) ∧ zNxI h L pp (fun s => h 118 (fr + s)) (fun t => g2 118 (fr + 512 + t)) k l := hJ
          show zH _ _ (54, [some (.inr (.inr (some 104))), some (.inr (.inr (some 118))), some (.inl (fr : Int)), some (.inl (pp : Int)), some (.inl (k : Int)), some (.inl (l : Int)), x6, x7], [], (zs g2 hl)) _
          have kL : g2 104 9 = (L : Int) := by rw [hJ.1 104 (by decide)]; exact hL
          have hks := (hR k hk (by omega)).1
          have hT9 := zwd_lt k hk l (by omega) pp (by omega)
          have hdg := zSb_dg hks hlL
          have ef : g2 108 (6 * zdg k l + pp) = h (12 + zdg k l) pp := by rw [hJ.1 108 (by decide)]; exact hF _ _ hdg hpp
          have hfb := hT.2.1 _ _ hdg hpp
          have hfb0 := (hT.1 (zdg k l) pp (by omega) (by omega)).1
          have ek2 : g2 118 (fr + k) = h 118 (fr + k) := hJ.2.1 _ (Or.inl (by omega))
          have hkb := (hR k hk (by omega)).2
          have hold : 0 ≤ g2 118 (fr + 512 + zwd k l pp) ∧ g2 118 (fr + 512 + zwd k l pp) ≤ 100000000 := by
            rcases hJ.2.2.2 _ hT9 with q | ⟨s, l2, a1, a2, a3, a4, a5⟩
            · dsimp only at q; omega
            · dsimp only at a3 a5
              have b1 := (hR s a1 a3)
              have b2 := hT.2.1 _ _ (zSb_dg b1.1 a2) hpp
              have b3 := (hT.1 (zdg s l2) pp (by have := zSb_dg b1.1 a2; omega) (by omega)).1
              have b4 := (hR0 s a1).1
              omega
          refine zH_go 3 (c' := (60, [some (.inr (.inr (some 104))), some (.inr (.inr (some 118))), some (.inl (fr : Int)), some (.inl (pp : Int)), some (.inl (k : Int)), some (.inl (l : Int)), x6, x7], [.inl (g2 104 9), .inl (l : Int)], (zs g2 hl))) rfl ?_
          rw [kL]
          refine zH_bf (x := (l : Int)) (y := (L : Int)) (k := .ge) (c1 := (148, [some (.inr (.inr (some 104))), some (.inr (.inr (some 118))), some (.inl (fr : Int)), some (.inl (pp : Int)), some (.inl (k : Int)), some (.inl (l : Int)), x6, x7], [], (zs g2 hl))) (c2 := (63, [some (.inr (.inr (some 104))), some (.inr (.inr (some 118))), some (.inl (fr : Int)), some (.inl (pp : Int)), some (.inl (k : Int)), some (.inl (l : Int)), x6, x7], [], (zs g2 hl))) rfl (by first | assumption | (unfold zr; omega)) (by first | assumption | (unfold zr; omega)) (by show ¬ (¬ (l : Int) < (L : Int)); omega) ?_
          refine zH_go 3 (c' := (68, [some (.inr (.inr (some 104))), some (.inr (.inr (some 118))), some (.inl (fr : Int)), some (.inl (pp : Int)), some (.inl (k : Int)), some (.inl (l : Int)), x6, x7], [.inl (pp : Int), .inl (l : Int), .inl (k : Int)], (zs g2 hl))) rfl ?_
          refine zH_call (M' := 115) (as := [.inl (k : Int), .inl (l : Int), .inl (pp : Int)]) (T := []) rfl (p_moved (n := k) (i := l) (v := pp) hk (by omega) (by omega)) (fun r σ' p_2 => ?_)
          obtain ⟨rfl, rfl⟩ := p_2
          show zH _ _ (71, [some (.inr (.inr (some 104))), some (.inr (.inr (some 118))), some (.inl (fr : Int)), some (.inl (pp : Int)), some (.inl (k : Int)), some (.inl (l : Int)), x6, x7], [.inl ((zwd k l pp : Nat) : Int)], (zs g2 hl)) _
          refine zH_go 5 (c' := (78, [some (.inr (.inr (some 104))), some (.inr (.inr (some 118))), some (.inl (fr : Int)), some (.inl (pp : Int)), some (.inl (k : Int)), some (.inl (l : Int)), some (.inl ((zwd k l pp : Nat) : Int)), x7], [.inl ((fr : Int) + (k : Int)), .inr (.inr (some 118))], (zs g2 hl))) rfl ?_
          refine zH_np (P := 0 ≤ ((fr : Int) + (k : Int)) ∧ ((fr : Int) + (k : Int)) < ((2048 : Nat) : Int)) (c' := (79, [some (.inr (.inr (some 104))), some (.inr (.inr (some 118))), some (.inl (fr : Int)), some (.inl (pp : Int)), some (.inl (k : Int)), some (.inl (l : Int)), some (.inl ((zwd k l pp : Nat) : Int)), x7], [.inl (g2 118 (fr + k))], (zs g2 hl))) rfl ⟨by omega, by omega⟩ ?_
          refine zH_go 10 (c' := (95, [some (.inr (.inr (some 104))), some (.inr (.inr (some 118))), some (.inl (fr : Int)), some (.inl (pp : Int)), some (.inl (k : Int)), some (.inl (l : Int)), some (.inl ((zwd k l pp : Nat) : Int)), x7], [.inl (zand (zshr (k : Int) (3 * (l : Int))) 7), .inl 6, .inr (.inr (some 108)), .inl (g2 118 (fr + k))], (zs g2 hl))) rfl ?_
          rw [show (zand (zshr (k : Int) (3 * (l : Int))) 7) = ((zdg k l : Nat) : Int) from zdigit_ok k (by omega) l (by omega)]
          refine zH_go 3 (c' := (98, [some (.inr (.inr (some 104))), some (.inr (.inr (some 118))), some (.inl (fr : Int)), some (.inl (pp : Int)), some (.inl (k : Int)), some (.inl (l : Int)), some (.inl ((zwd k l pp : Nat) : Int)), x7], [.inl ((6 * ((zdg k l : Nat) : Int)) + (pp : Int)), .inr (.inr (some 108)), .inl (g2 118 (fr + k))], (zs g2 hl))) rfl ?_
          refine zH_np (P := 0 ≤ ((6 * ((zdg k l : Nat) : Int)) + (pp : Int)) ∧ ((6 * ((zdg k l : Nat) : Int)) + (pp : Int)) < ((36 : Nat) : Int)) (c' := (99, [some (.inr (.inr (some 104))), some (.inr (.inr (some 118))), some (.inl (fr : Int)), some (.inl (pp : Int)), some (.inl (k : Int)), some (.inl (l : Int)), some (.inl ((zwd k l pp : Nat) : Int)), x7], [.inl (g2 108 ((6 * (zdg k l)) + pp)), .inl (g2 118 (fr + k))], (zs g2 hl))) rfl ⟨by omega, by omega⟩ ?_
          refine zH_go 15 (c' := (122, [some (.inr (.inr (some 104))), some (.inr (.inr (some 118))), some (.inl (fr : Int)), some (.inl (pp : Int)), some (.inl (k : Int)), some (.inl (l : Int)), some (.inl ((zwd k l pp : Nat) : Int)), some (.inl ((g2 118 (fr + k)) + (g2 108 ((6 * (zdg k l)) + pp))))], [.inl (((fr : Int) + 512) + ((zwd k l pp : Nat) : Int)), .inr (.inr (some 118)), .inl ((g2 118 (fr + k)) + (g2 108 ((6 * (zdg k l)) + pp))), .inl (((fr : Int) + 512) + ((zwd k l pp : Nat) : Int)), .inr (.inr (some 118))], (zs g2 hl))) rfl ?_
          refine zH_np (P := 0 ≤ (((fr : Int) + 512) + ((zwd k l pp : Nat) : Int)) ∧ (((fr : Int) + 512) + ((zwd k l pp : Nat) : Int)) < ((2048 : Nat) : Int)) (c' := (123, [some (.inr (.inr (some 104))), some (.inr (.inr (some 118))), some (.inl (fr : Int)), some (.inl (pp : Int)), some (.inl (k : Int)), some (.inl (l : Int)), some (.inl ((zwd k l pp : Nat) : Int)), some (.inl ((g2 118 (fr + k)) + (g2 108 ((6 * (zdg k l)) + pp))))], [.inl (g2 118 ((fr + 512) + (zwd k l pp))), .inl ((g2 118 (fr + k)) + (g2 108 ((6 * (zdg k l)) + pp))), .inl (((fr : Int) + 512) + ((zwd k l pp : Nat) : Int)), .inr (.inr (some 118))], (zs g2 hl))) rfl ⟨by omega, by omega⟩ ?_
          refine zH_mg (F := fun m => (141, [some (.inr (.inr (some 104))), some (.inr (.inr (some 118))), some (.inl (fr : Int)), some (.inl (pp : Int)), some (.inl (k : Int)), some (.inl (l : Int)), some (.inl ((zwd k l pp : Nat) : Int)), some (.inl ((g2 118 (fr + k)) + (g2 108 ((6 * (zdg k l)) + pp))))], [.inl m, .inl (((fr : Int) + 512) + ((zwd k l pp : Nat) : Int)), .inr (.inr (some 118))], (zs g2 hl))) (R := fun m => m ≤ ((g2 118 (fr + k)) + (g2 108 ((6 * (zdg k l)) + pp))) ∧ m ≤ (g2 118 ((fr + 512) + (zwd k l pp))) ∧ (m = ((g2 118 (fr + k)) + (g2 108 ((6 * (zdg k l)) + pp))) ∨ m = (g2 118 ((fr + 512) + (zwd k l pp))))) (fun m_3 fm_3 => ?_) (fun kk => ?_)
          · replace fm_3 : m_3 ≤ ((g2 118 (fr + k)) + (g2 108 ((6 * (zdg k l)) + pp))) ∧ m_3 ≤ (g2 118 ((fr + 512) + (zwd k l pp))) ∧ (m_3 = ((g2 118 (fr + k)) + (g2 108 ((6 * (zdg k l)) + pp))) ∨ m_3 = (g2 118 ((fr + 512) + (zwd k l pp)))) := fm_3
            show zH _ _ (141, [some (.inr (.inr (some 104))), some (.inr (.inr (some 118))), some (.inl (fr : Int)), some (.inl (pp : Int)), some (.inl (k : Int)), some (.inl (l : Int)), some (.inl ((zwd k l pp : Nat) : Int)), some (.inl ((g2 118 (fr + k)) + (g2 108 ((6 * (zdg k l)) + pp))))], [.inl m_3, .inl (((fr : Int) + 512) + ((zwd k l pp : Nat) : Int)), .inr (.inr (some 118))], (zs g2 hl)) _
            refine zH_np (P := 0 ≤ (((fr : Int) + 512) + ((zwd k l pp : Nat) : Int)) ∧ (((fr : Int) + 512) + ((zwd k l pp : Nat) : Int)) < ((2048 : Nat) : Int)) (c' := (142, [some (.inr (.inr (some 104))), some (.inr (.inr (some 118))), some (.inl (fr : Int)), some (.inl (pp : Int)), some (.inl (k : Int)), some (.inl (l : Int)), some (.inl ((zwd k l pp : Nat) : Int)), some (.inl ((g2 118 (fr + k)) + (g2 108 ((6 * (zdg k l)) + pp))))], [], (zs (zup g2 118 ((fr + 512) + (zwd k l pp)) m_3) hl))) rfl ⟨by omega, by omega⟩ ?_
            refine zH_go 2 (c' := (54, [some (.inr (.inr (some 104))), some (.inr (.inr (some 118))), some (.inl (fr : Int)), some (.inl (pp : Int)), some (.inl (k : Int)), some (.inl ((l : Int) + 1)), some (.inl ((zwd k l pp : Nat) : Int)), some (.inl ((g2 118 (fr + k)) + (g2 108 ((6 * (zdg k l)) + pp))))], [], (zs (zup g2 118 ((fr + 512) + (zwd k l pp)) m_3) hl))) rfl ?_
            refine ih2 ((zup g2 118 ((fr + 512) + (zwd k l pp)) m_3), (some (.inl ((zwd k l pp : Nat) : Int))), (some (.inl ((g2 118 (fr + k)) + (g2 108 ((6 * (zdg k l)) + pp)))))) ?_
            show (∀ c : Nat, c ≠ 118 → (zup g2 118 ((fr + 512) + (zwd k l pp)) m_3) c = h c) ∧ (∀ j : Nat, j < fr + 512 ∨ fr + 1024 ≤ j → (zup g2 118 ((fr + 512) + (zwd k l pp)) m_3) 118 j = h 118 j) ∧ zNxI h L pp (fun s => h 118 (fr + s)) (fun t => (zup g2 118 ((fr + 512) + (zwd k l pp)) m_3) 118 (fr + 512 + t)) k (l + 1)
            refine ⟨fun c hc => ?_, fun j hj => ?_, zNxI_step hJ.2.2 hk hlL (by show h 118 (fr + k) < 100000000; omega) (m := m_3) ?_ hT9 ?_ (fun t ht hne => ?_) hwl⟩
            · rw [← hJ.1 c hc]; funext q; exact zup_ne hc
            · rw [zup_k (by omega)]; exact hJ.2.1 j hj
            · show m_3 ≤ h 118 (fr + k) + h (12 + zdg k l) pp ∧ m_3 ≤ g2 118 (fr + 512 + zwd k l pp) ∧ (m_3 = h 118 (fr + k) + h (12 + zdg k l) pp ∨ m_3 = g2 118 (fr + 512 + zwd k l pp))
              rw [ek2, ef] at fm_3
              exact fm_3
            · exact zup_eq
            · exact zup_k (by omega)
          · refine zH_br (x := ((g2 118 (fr + k)) + (g2 108 ((6 * (zdg k l)) + pp)))) (y := (g2 118 ((fr + 512) + (zwd k l pp)))) (k := .ge) (c1 := (131, [some (.inr (.inr (some 104))), some (.inr (.inr (some 118))), some (.inl (fr : Int)), some (.inl (pp : Int)), some (.inl (k : Int)), some (.inl (l : Int)), some (.inl ((zwd k l pp : Nat) : Int)), some (.inl ((g2 118 (fr + k)) + (g2 108 ((6 * (zdg k l)) + pp))))], [.inl (((fr : Int) + 512) + ((zwd k l pp : Nat) : Int)), .inr (.inr (some 118))], (zs g2 hl))) (c2 := (126, [some (.inr (.inr (some 104))), some (.inr (.inr (some 118))), some (.inl (fr : Int)), some (.inl (pp : Int)), some (.inl (k : Int)), some (.inl (l : Int)), some (.inl ((zwd k l pp : Nat) : Int)), some (.inl ((g2 118 (fr + k)) + (g2 108 ((6 * (zdg k l)) + pp))))], [.inl (((fr : Int) + 512) + ((zwd k l pp : Nat) : Int)), .inr (.inr (some 118))], (zs g2 hl))) rfl (by first | assumption | (unfold zr; omega)) (by first | assumption | (unfold zr; omega)) (fun (b_4 : ¬ ((g2 118 (fr + k)) + (g2 108 ((6 * (zdg k l)) + pp))) < (g2 118 ((fr + 512) + (zwd k l pp)))) => ?_) (fun (b_4 : ¬ (¬ ((g2 118 (fr + k)) + (g2 108 ((6 * (zdg k l)) + pp))) < (g2 118 ((fr + 512) + (zwd k l pp))))) => ?_)
            · refine zH_go 6 (c' := (140, [some (.inr (.inr (some 104))), some (.inr (.inr (some 118))), some (.inl (fr : Int)), some (.inl (pp : Int)), some (.inl (k : Int)), some (.inl (l : Int)), some (.inl ((zwd k l pp : Nat) : Int)), some (.inl ((g2 118 (fr + k)) + (g2 108 ((6 * (zdg k l)) + pp))))], [.inl (((fr : Int) + 512) + ((zwd k l pp : Nat) : Int)), .inr (.inr (some 118)), .inl (((fr : Int) + 512) + ((zwd k l pp : Nat) : Int)), .inr (.inr (some 118))], (zs g2 hl))) rfl ?_
              refine zH_np (P := 0 ≤ (((fr : Int) + 512) + ((zwd k l pp : Nat) : Int)) ∧ (((fr : Int) + 512) + ((zwd k l pp : Nat) : Int)) < ((2048 : Nat) : Int)) (c' := (141, [some (.inr (.inr (some 104))), some (.inr (.inr (some 118))), some (.inl (fr : Int)), some (.inl (pp : Int)), some (.inl (k : Int)), some (.inl (l : Int)), some (.inl ((zwd k l pp : Nat) : Int)), some (.inl ((g2 118 (fr + k)) + (g2 108 ((6 * (zdg k l)) + pp))))], [.inl (g2 118 ((fr + 512) + (zwd k l pp))), .inl (((fr : Int) + 512) + ((zwd k l pp : Nat) : Int)), .inr (.inr (some 118))], (zs g2 hl))) rfl ⟨by omega, by omega⟩ ?_
              refine kk (g2 118 ((fr + 512) + (zwd k l pp))) ?_
              show (g2 118 ((fr + 512) + (zwd k l pp))) ≤ ((g2 118 (fr + k)) + (g2 108 ((6 * (zdg k l)) + pp))) ∧ (g2 118 ((fr + 512) + (zwd k l pp))) ≤ (g2 118 ((fr + 512) + (zwd k l pp))) ∧ ((g2 118 ((fr + 512) + (zwd k l pp))) = ((g2 118 (fr + k)) + (g2 108 ((6 * (zdg k l)) + pp))) ∨ (g2 118 ((fr + 512) + (zwd k l pp))) = (g2 118 ((fr + 512) + (zwd k l pp))))
              exact ⟨by omega, by omega, by omega⟩
            · refine zH_go 2 (c' := (141, [some (.inr (.inr (some 104))), some (.inr (.inr (some 118))), some (.inl (fr : Int)), some (.inl (pp : Int)), some (.inl (k : Int)), some (.inl (l : Int)), some (.inl ((zwd k l pp : Nat) : Int)), some (.inl ((g2 118 (fr + k)) + (g2 108 ((6 * (zdg k l)) + pp))))], [.inl ((g2 118 (fr + k)) + (g2 108 ((6 * (zdg k l)) + pp))), .inl (((fr : Int) + 512) + ((zwd k l pp : Nat) : Int)), .inr (.inr (some 118))], (zs g2 hl))) rfl ?_
              refine kk ((g2 118 (fr + k)) + (g2 108 ((6 * (zdg k l)) + pp))) ?_
              show ((g2 118 (fr + k)) + (g2 108 ((6 * (zdg k l)) + pp))) ≤ ((g2 118 (fr + k)) + (g2 108 ((6 * (zdg k l)) + pp))) ∧ ((g2 118 (fr + k)) + (g2 108 ((6 * (zdg k l)) + pp))) ≤ (g2 118 ((fr + 512) + (zwd k l pp))) ∧ (((g2 118 (fr + k)) + (g2 108 ((6 * (zdg k l)) + pp))) = ((g2 118 (fr + k)) + (g2 108 ((6 * (zdg k l)) + pp))) ∨ ((g2 118 (fr + k)) + (g2 108 ((6 * (zdg k l)) + pp))) = (g2 118 ((fr + 512) + (zwd k l pp))))
              exact ⟨by omega, by omega, by omega⟩
        · obtain ⟨g2, x6, x7⟩ := x
          replace hJ : (∀ c : Nat, c ≠ 118 → g2 c = h c) ∧ (∀ j : Nat, j < fr + 512 ∨ fr + 1024 ≤ j → g2 118 j = h 118 j) ∧ zNxI h L pp (fun s => h 118 (fr + s)) (fun t => g2 118 (fr + 512 + t)) k L := hJ
          show zH _ _ (54, [some (.inr (.inr (some 104))), some (.inr (.inr (some 118))), some (.inl (fr : Int)), some (.inl (pp : Int)), some (.inl (k : Int)), some (.inl (L : Int)), x6, x7], [], (zs g2 hl)) _
          have kL : g2 104 9 = (L : Int) := by rw [hJ.1 104 (by decide)]; exact hL
          refine zH_go 3 (c' := (60, [some (.inr (.inr (some 104))), some (.inr (.inr (some 118))), some (.inl (fr : Int)), some (.inl (pp : Int)), some (.inl (k : Int)), some (.inl (L : Int)), x6, x7], [.inl (g2 104 9), .inl (L : Int)], (zs g2 hl))) rfl ?_
          rw [kL]
          refine zH_bt (x := (L : Int)) (y := (L : Int)) (k := .ge) (c1 := (148, [some (.inr (.inr (some 104))), some (.inr (.inr (some 118))), some (.inl (fr : Int)), some (.inl (pp : Int)), some (.inl (k : Int)), some (.inl (L : Int)), x6, x7], [], (zs g2 hl))) (c2 := (63, [some (.inr (.inr (some 104))), some (.inr (.inr (some 118))), some (.inl (fr : Int)), some (.inl (pp : Int)), some (.inl (k : Int)), some (.inl (L : Int)), x6, x7], [], (zs g2 hl))) rfl (by first | assumption | (unfold zr; omega)) (by first | assumption | (unfold zr; omega)) (by show ¬ (L : Int) < (L : Int); omega) ?_
          refine zH_go 2 (c' := (32, [some (.inr (.inr (some 104))), some (.inr (.inr (some 118))), some (.inl (fr : Int)), some (.inl (pp : Int)), some (.inl ((k : Int) + 1)), some (.inl (L : Int)), x6, x7], [], (zs g2 hl))) rfl ?_
          refine ih (g2, (some (.inl (L : Int))), x6, x7) ?_
          show (∀ c : Nat, c ≠ 118 → g2 c = h c) ∧ (∀ j : Nat, j < fr + 512 ∨ fr + 1024 ≤ j → g2 118 j = h 118 j) ∧ zNxI h L pp (fun s => h 118 (fr + s)) (fun t => g2 118 (fr + 512 + t)) (k + 1) 0
          exact ⟨hJ.1, hJ.2.1, zNxI_full hJ.2.2⟩
        · show (∀ c : Nat, c ≠ 118 → g c = h c) ∧ (∀ j : Nat, j < fr + 512 ∨ fr + 1024 ≤ j → g 118 j = h 118 j) ∧ zNxI h L pp (fun s => h 118 (fr + s)) (fun t => g 118 (fr + 512 + t)) k 0
          exact hI
    · obtain ⟨g, x5, x6, x7⟩ := x
      replace hI : (∀ c : Nat, c ≠ 118 → g c = h c) ∧ (∀ j : Nat, j < fr + 512 ∨ fr + 1024 ≤ j → g 118 j = h 118 j) ∧ zNxI h L pp (fun s => h 118 (fr + s)) (fun t => g 118 (fr + 512 + t)) 512 0 := hI
      show zH _ _ (32, [some (.inr (.inr (some 104))), some (.inr (.inr (some 118))), some (.inl (fr : Int)), some (.inl (pp : Int)), some (.inl 512), x5, x6, x7], [], (zs g hl)) _
      refine zH_go 2 (c' := (37, [some (.inr (.inr (some 104))), some (.inr (.inr (some 118))), some (.inl (fr : Int)), some (.inl (pp : Int)), some (.inl 512), x5, x6, x7], [.inl 512, .inl 512], (zs g hl))) rfl ?_
      refine zH_bt (x := 512) (y := 512) (k := .ge) (c1 := (154, [some (.inr (.inr (some 104))), some (.inr (.inr (some 118))), some (.inl (fr : Int)), some (.inl (pp : Int)), some (.inl 512), x5, x6, x7], [], (zs g hl))) (c2 := (40, [some (.inr (.inr (some 104))), some (.inr (.inr (some 118))), some (.inl (fr : Int)), some (.inl (pp : Int)), some (.inl 512), x5, x6, x7], [], (zs g hl))) rfl ⟨by decide, by decide⟩ ⟨by decide, by decide⟩ (by show ¬ 512 < 512; decide) ?_
      refine zH_ret (v := none) rfl (fun q => absurd q (by decide)) ?_
      exact ⟨rfl, g, rfl, hI.1, hI.2.1, hI.2.2⟩
    · show (∀ c : Nat, c ≠ 118 → g c = h c) ∧ (∀ j : Nat, j < fr + 512 ∨ fr + 1024 ≤ j → g 118 j = h 118 j) ∧ zNxI h L pp (fun s => h 118 (fr + s)) (fun t => g 118 (fr + 512 + t)) 0 0
      exact ⟨hI.1, hI.2.1, fun s l _ _ h1 => absurd h1 (by omega), fun t ht => Or.inl (hI.2.2 t ht)⟩
  · show (∀ c : Nat, c ≠ 118 → h c = h c) ∧ (∀ j : Nat, j < fr + 512 ∨ fr + 1024 ≤ j → h 118 j = h 118 j) ∧ ∀ j : Nat, j < 0 → h 118 (fr + 512 + j) = 100000000
    exact ⟨fun c hc => rfl, fun j hj => rfl, fun j hj => absurd hj (Nat.not_lt_zero j)⟩
