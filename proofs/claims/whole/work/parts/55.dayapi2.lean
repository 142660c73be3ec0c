/-! LadderCalls: a day, by its calls (2). -/
set_option maxRecDepth 100000 in
set_option maxHeartbeats 4000000 in
theorem p_end {d : Nat} {h hl : Nat → Nat → Int} (hon : zr (h 21 3)) : zQ (d + 4) 68 [.inr (.inr (some 2))] (zs h hl) (fun r' σ' => (¬ 0 < h 21 3 ∧ r' = some (.inl (-2)) ∧ σ' = zs h hl) ∨ (0 < h 21 3 ∧ r' = some (.inl (h 21 4)) ∧ ∃ g : Nat → Nat → Int, σ' = zs g hl ∧ zStopP h g 21 40 41)) := by
  refine zQ_of (Nat.le_of_ble_eq_true rfl) ?_
  show zH (d + 3) 68 (0, [some (.inr (.inr (some 2))), none], [], (zs h hl)) _
  refine zH_go 2 (c' := (4, [some (.inr (.inr (some 2))), none], [.inr (.inr (some 21))], (zs h hl))) rfl ?_
  refine zH_call (M' := 12) (as := [.inr (.inr (some 21))]) (T := []) rfl (p_isOnD hon) (fun r σ' p_1 => ?_)
  rcases p_1 with ⟨rfl, b_2, rfl⟩ | ⟨rfl, b_2, rfl⟩
  · show zH _ _ (7, [some (.inr (.inr (some 2))), none], [.inl 1], (zs h hl)) _
    refine zH_bt (x := 1) (y := 0) (k := .ne) (c1 := (13, [some (.inr (.inr (some 2))), none], [], (zs h hl))) (c2 := (10, [some (.inr (.inr (some 2))), none], [], (zs h hl))) rfl ⟨by decide, by decide⟩ ⟨by decide, by decide⟩ (by show ¬ 1 = 0; decide) ?_
    refine zH_go 6 (c' := (25, [some (.inr (.inr (some 2))), some (.inl (h 21 4))], [.inr (.inr (some 21))], (zs h hl))) rfl ?_
    refine zH_call (M' := 15) (as := [.inr (.inr (some 21))]) (T := []) rfl p_stopD (fun r' σ' pm => ?_)
    obtain ⟨rfl, g, rfl, hg⟩ := pm
    show zH _ _ (28, [some (.inr (.inr (some 2))), some (.inl (h 21 4))], [], (zs g hl)) _
    refine zH_go 1 (c' := (29, [some (.inr (.inr (some 2))), some (.inl (h 21 4))], [.inl (h 21 4)], (zs g hl))) rfl ?_
    refine zH_ret (v := some (.inl (h 21 4))) rfl (fun q => absurd q (by decide)) ?_
    exact Or.inr ⟨by assumption, rfl, g, rfl, hg⟩
  · show zH _ _ (7, [some (.inr (.inr (some 2))), none], [.inl 0], (zs h hl)) _
    refine zH_bf (x := 0) (y := 0) (k := .ne) (c1 := (13, [some (.inr (.inr (some 2))), none], [], (zs h hl))) (c2 := (10, [some (.inr (.inr (some 2))), none], [], (zs h hl))) rfl ⟨by decide, by decide⟩ ⟨by decide, by decide⟩ (by show ¬ (¬ 0 = 0); decide) ?_
    refine zH_go 1 (c' := (12, [some (.inr (.inr (some 2))), none], [.inl (-2)], (zs h hl))) rfl ?_
    refine zH_ret (v := some (.inl (-2))) rfl (fun q => absurd q (by decide)) ?_
    exact Or.inl ⟨by assumption, rfl, rfl⟩
set_option maxRecDepth 100000 in
set_option maxHeartbeats 4000000 in
theorem p_call {d : Nat} {h hl : Nat → Nat → Int} {a : Int} (ha : zr a) (h4 : 0 ≤ h 21 4 ∧ h 21 4 ≤ 12) (hon : zr (h 21 3)) {K : Int} (hK7 : h 2 7 = K) (hK : 0 ≤ K ∧ K ≤ 3) {p r : Nat} (hW : zTown h p r) {L B n : Nat} {sp : Nat → Nat} (hD : 0 < h 21 3 → zDID h p L B n sp) : zQ (d + 7) 70 [.inr (.inr (some 2)), .inl a] (zs h hl) (fun r' σ' => (∃ x : Int, ¬ x = 0 ∧ zNoCl h a x ∧ r' = some (.inl x) ∧ σ' = zs h hl) ∨ (zNoCl h a 0 ∧ ∃ (l : Nat) (tr : Int) (g gl : Nat → Nat → Int), l < L ∧ r' = some (.inl (l : Int)) ∧ σ' = zs g gl ∧ zServeP h hl g gl L B n (Int.toNat a) sp K l tr 21 40 41 42 43 44 45 46 47 21 47 ∧ zDID g p L B (n + 1) (fun i => if i = l then Int.toNat a else sp i))) := by
  have hWc := hW
  obtain ⟨hp6, hr15, h30, h31, hp3, hr4, hMe, hTB, hCn, hPo, hRd, hLk, hGr⟩ := hWc
  have hP : 0 ≤ h 3 0 ∧ h 3 0 ≤ 6 := by omega
  refine zQ_of (Nat.le_of_ble_eq_true rfl) ?_
  show zH (d + 6) 70 (0, [some (.inr (.inr (some 2))), some (.inl a), none], [], (zs h hl)) _
  refine zH_go 2 (c' := (2, [some (.inr (.inr (some 2))), some (.inl a), none], [.inl a, .inr (.inr (some 2))], (zs h hl))) rfl ?_
  refine zH_call (M' := 77) (as := [.inr (.inr (some 2)), .inl a]) (T := []) rfl (p_noCall ha h4 hP hon) (fun r' σ' pm => ?_)
  obtain ⟨x, hx, rfl, rfl⟩ := pm
  have hxr : -3 ≤ x ∧ x ≤ 0 := by unfold zNoCl at hx; omega
  show zH _ _ (5, [some (.inr (.inr (some 2))), some (.inl a), none], [.inl x], (zs h hl)) _
  refine zH_go 2 (c' := (7, [some (.inr (.inr (some 2))), some (.inl a), some (.inl x)], [.inl x], (zs h hl))) rfl ?_
  refine zH_br (x := x) (y := 0) (k := .eq) (c1 := (14, [some (.inr (.inr (some 2))), some (.inl a), some (.inl x)], [], (zs h hl))) (c2 := (10, [some (.inr (.inr (some 2))), some (.inl a), some (.inl x)], [], (zs h hl))) rfl (by first | assumption | (unfold zr; omega)) ⟨by decide, by decide⟩ (fun (b_1 : x = 0) => ?_) (fun (b_1 : ¬ (x = 0)) => ?_)
  · obtain rfl : x = 0 := by assumption
    have hok : (0 ≤ a ∧ a < h 3 0) ∧ 0 < h 21 3 ∧ h 21 4 < 12 := by unfold zNoCl at hx; omega
    have hD9 := hD hok.2.1
    have hDc := hD9
    obtain ⟨hS, hT, hBs, hL, hn, hn2, hB, htu, hsp, hspL, hsu, hR, hWk, hnk, hHE, hHz⟩ := hDc
    have hL3 := hS.1
    obtain ⟨u, rfl⟩ := Int.eq_ofNat_of_zero_le (show 0 ≤ a by omega)
    show zH _ _ (14, [some (.inr (.inr (some 2))), some (.inl (u : Int)), some (.inl 0)], [], (zs h hl)) _
    refine zH_go 4 (c' := (20, [some (.inr (.inr (some 2))), some (.inl (u : Int)), some (.inl 0)], [.inl (u : Int), .inr (.inr (some 21)), .inr (.inr (some 2))], (zs h hl))) rfl ?_
    refine zH_call (M' := 78) (as := [.inr (.inr (some 2)), .inr (.inr (some 21)), .inl (u : Int)]) (T := []) rfl (p_serveD (n := n) (pp := u) hD9 (by omega) (by omega) hK7 hK) (fun r' σ' pm => ?_)
    obtain ⟨l, tr, g, gl, hl2, rfl, rfl, hs1, hs2⟩ := pm
    show zH _ _ (23, [some (.inr (.inr (some 2))), some (.inl (u : Int)), some (.inl 0)], [.inl (l : Int)], (zs g gl)) _
    refine zH_ret (v := some (.inl (l : Int))) rfl (fun q => absurd q (by decide)) ?_
    exact Or.inr ⟨hx, by rw [Int.toNat_natCast]; exact ⟨l, tr, g, gl, hl2, rfl, rfl, hs1, hs2⟩⟩
  · refine zH_go 2 (c' := (23, [some (.inr (.inr (some 2))), some (.inl a), some (.inl x)], [.inl x], (zs h hl))) rfl ?_
    refine zH_ret (v := some (.inl x)) rfl (fun q => absurd q (by decide)) ?_
    exact Or.inl ⟨x, by assumption, hx, rfl, rfl⟩
set_option maxRecDepth 100000 in
set_option maxHeartbeats 4000000 in
theorem p_back {d : Nat} {h hl : Nat → Nat → Int} (h4 : 0 ≤ h 21 4 ∧ h 21 4 ≤ 12) {p : Nat} {L B n : Nat} {sp : Nat → Nat} (hD : 0 < h 21 4 → zDID h p L B n sp) : zQ (d + 2) 71 [.inr (.inr (some 2))] (zs h hl) (fun r' σ' => (h 21 4 ≤ 0 ∧ r' = some (.inl (-2)) ∧ σ' = zs h hl) ∨ ∃ m l : Nat, n = m + 1 ∧ h 43 m = (l : Int) ∧ r' = some (.inl (m : Int)) ∧ ∃ g : Nat → Nat → Int, σ' = zs g hl ∧ zBackP h g m l 21 40 41 44 46 47 ∧ zDID g p L B m (fun i => if i = l then Int.toNat (h 46 m) else sp i)) := by
  refine zQ_of (Nat.le_of_ble_eq_true rfl) ?_
  show zH (d + 1) 71 (0, [some (.inr (.inr (some 2)))], [], (zs h hl)) _
  refine zH_go 3 (c' := (7, [some (.inr (.inr (some 2)))], [.inl (h 21 4)], (zs h hl))) rfl ?_
  refine zH_br (x := (h 21 4)) (y := 0) (k := .gt) (c1 := (13, [some (.inr (.inr (some 2)))], [], (zs h hl))) (c2 := (10, [some (.inr (.inr (some 2)))], [], (zs h hl))) rfl (by first | assumption | (unfold zr; omega)) ⟨by decide, by decide⟩ (fun (b_1 : 0 < (h 21 4)) => ?_) (fun (b_1 : ¬ (0 < (h 21 4))) => ?_)
  · have hD9 := hD (by omega)
    have hDc := hD9
    obtain ⟨hS, hT, hBs, hL, hn, hn2, hB, htu, hsp, hspL, hsu, hR, hWk, hnk, hHE, hHz⟩ := hDc
    have hL3 := hS.1
    obtain ⟨m, rfl⟩ : ∃ m, n = m + 1 := ⟨n - 1, by omega⟩
    have hRm := hR m (by omega)
    obtain ⟨l, el⟩ := Int.eq_ofNat_of_zero_le hRm.2.1.1
    refine zH_go 2 (c' := (17, [some (.inr (.inr (some 2)))], [.inr (.inr (some 21))], (zs h hl))) rfl ?_
    refine zH_call (M' := 18) (as := [.inr (.inr (some 21))]) (T := []) rfl (p_backD (n := m) (l := l) (by omega) (by omega) (by omega) el) (fun r' σ' pm => ?_)
    obtain ⟨rfl, g, rfl, hg⟩ := pm
    have g4 : g 21 4 = (m : Int) := hg.2.2.1
    show zH _ _ (20, [some (.inr (.inr (some 2)))], [], (zs g hl)) _
    refine zH_go 3 (c' := (27, [some (.inr (.inr (some 2)))], [.inl (g 21 4)], (zs g hl))) rfl ?_
    rw [g4]
    refine zH_ret (v := some (.inl (m : Int))) rfl (fun q => absurd q (by decide)) ?_
    exact Or.inr ⟨m, l, rfl, el, rfl, g, rfl, hg, zDI_backD hD9 el hg⟩
  · refine zH_go 1 (c' := (12, [some (.inr (.inr (some 2)))], [.inl (-2)], (zs h hl))) rfl ?_
    refine zH_ret (v := some (.inl (-2))) rfl (fun q => absurd q (by decide)) ?_
    exact Or.inl ⟨by omega, rfl, rfl⟩
set_option maxRecDepth 100000 in
set_option maxHeartbeats 4000000 in
theorem p_cruel {d : Nat} {h hl : Nat → Nat → Int} (h4 : 0 ≤ h 21 4 ∧ h 21 4 ≤ 12) (hon : zr (h 21 3)) {K : Int} (hK7 : h 2 7 = K) (hK : 0 ≤ K ∧ K ≤ 3) {p r : Nat} (hW : zTown h p r) {L B n : Nat} {sp : Nat → Nat} (hD : 0 < h 21 3 → zDID h p L B n sp) : zQ (d + 7) 72 [.inr (.inr (some 2))] (zs h hl) (fun r' σ' => (¬ 0 < h 21 3 ∧ r' = some (.inl (-2)) ∧ σ' = zs h hl) ∨ (0 < h 21 3 ∧ (∀ j : Nat, j < p → zCov L sp j) ∧ r' = some (.inl (-2)) ∧ σ' = zs h hl) ∨ (0 < h 21 3 ∧ ∃ k : Nat, k < p ∧ (∀ j : Nat, j < k → zCov L sp j) ∧ ¬ zCov L sp k ∧ ((12 ≤ h 21 4 ∧ r' = some (.inl (-3)) ∧ σ' = zs h hl) ∨ (h 21 4 < 12 ∧ ∃ (l : Nat) (tr : Int) (g gl : Nat → Nat → Int), l < L ∧ r' = some (.inl (k : Int)) ∧ σ' = zs g gl ∧ zServeP h hl g gl L B n k sp K l tr 21 40 41 42 43 44 45 46 47 21 47 ∧ zDID g p L B (n + 1) (fun i => if i = l then k else sp i))))) := by
  have hWc := hW
  obtain ⟨hp6, hr15, h30, h31, hp3, hr4, hMe, hTB, hCn, hPo, hRd, hLk, hGr⟩ := hWc
  have hP : 0 ≤ h 3 0 ∧ h 3 0 ≤ 6 := by omega
  refine zQ_of (Nat.le_of_ble_eq_true rfl) ?_
  show zH (d + 6) 72 (0, [some (.inr (.inr (some 2))), none], [], (zs h hl)) _
  refine zH_go 2 (c' := (4, [some (.inr (.inr (some 2))), none], [.inr (.inr (some 21))], (zs h hl))) rfl ?_
  refine zH_call (M' := 12) (as := [.inr (.inr (some 21))]) (T := []) rfl (p_isOnD hon) (fun r σ' p_1 => ?_)
  rcases p_1 with ⟨rfl, b_2, rfl⟩ | ⟨rfl, b_2, rfl⟩
  · show zH _ _ (7, [some (.inr (.inr (some 2))), none], [.inl 1], (zs h hl)) _
    refine zH_bt (x := 1) (y := 0) (k := .ne) (c1 := (13, [some (.inr (.inr (some 2))), none], [], (zs h hl))) (c2 := (10, [some (.inr (.inr (some 2))), none], [], (zs h hl))) rfl ⟨by decide, by decide⟩ ⟨by decide, by decide⟩ (by show ¬ 1 = 0; decide) ?_
    have hD9 := hD (by assumption)
    have hDc := hD9
    obtain ⟨hS, hT, hBs, hL, hn, hn2, hB, htu, hsp, hspL, hsu, hR, hWk, hnk, hHE, hHz⟩ := hDc
    have hL3 := hS.1
    refine zH_go 2 (c' := (17, [some (.inr (.inr (some 2))), none], [.inr (.inr (some 21))], (zs h hl))) rfl ?_
    refine zH_call (M' := 26) (as := [.inr (.inr (some 21))]) (T := []) rfl (p_bareD hL3 hL (fun i hi => (hsp i (by omega)).1) (fun i hi => (hsp i (by omega)).2) hP) (fun r' σ' pm => ?_)
    obtain ⟨k, k1, k2, k3, rfl, rfl⟩ := pm
    show zH _ _ (20, [some (.inr (.inr (some 2))), none], [.inl (k : Int)], (zs h hl)) _
    refine zH_go 4 (c' := (26, [some (.inr (.inr (some 2))), some (.inl (k : Int))], [.inl (k : Int), .inr (.inr (some 3))], (zs h hl))) rfl ?_
    refine zH_call (M' := 48) (as := [.inr (.inr (some 3)), .inl (k : Int)]) (T := []) rfl (p_has (by first | assumption | (unfold zr; omega)) hP) (fun r σ' p_3 => ?_)
    rcases p_3 with ⟨rfl, b_4, rfl⟩ | ⟨rfl, b_4, rfl⟩
    · show zH _ _ (29, [some (.inr (.inr (some 2))), some (.inl (k : Int))], [.inl 1], (zs h hl)) _
      refine zH_bt (x := 1) (y := 0) (k := .ne) (c1 := (35, [some (.inr (.inr (some 2))), some (.inl (k : Int))], [], (zs h hl))) (c2 := (32, [some (.inr (.inr (some 2))), some (.inl (k : Int))], [], (zs h hl))) rfl ⟨by decide, by decide⟩ ⟨by decide, by decide⟩ (by show ¬ 1 = 0; decide) ?_
      refine zH_go 4 (c' := (44, [some (.inr (.inr (some 2))), some (.inl (k : Int))], [.inl 12, .inl (h 21 4)], (zs h hl))) rfl ?_
      refine zH_br (x := (h 21 4)) (y := 12) (k := .lt) (c1 := (50, [some (.inr (.inr (some 2))), some (.inl (k : Int))], [], (zs h hl))) (c2 := (47, [some (.inr (.inr (some 2))), some (.inl (k : Int))], [], (zs h hl))) rfl (by first | assumption | (unfold zr; omega)) ⟨by decide, by decide⟩ (fun (b_5 : (h 21 4) < 12) => ?_) (fun (b_5 : ¬ ((h 21 4) < 12)) => ?_)
      · refine zH_go 4 (c' := (56, [some (.inr (.inr (some 2))), some (.inl (k : Int))], [.inl (k : Int), .inr (.inr (some 21)), .inr (.inr (some 2))], (zs h hl))) rfl ?_
        refine zH_call (M' := 78) (as := [.inr (.inr (some 2)), .inr (.inr (some 21)), .inl (k : Int)]) (T := []) rfl (p_serveD (n := n) (pp := k) hD9 (by omega) (by omega) hK7 hK) (fun r' σ' pm => ?_)
        obtain ⟨l, tr, g, gl, hl2, rfl, rfl, hs1, hs2⟩ := pm
        show zH _ _ (59, [some (.inr (.inr (some 2))), some (.inl (k : Int))], [.inl (l : Int)], (zs g gl)) _
        refine zH_go 2 (c' := (61, [some (.inr (.inr (some 2))), some (.inl (k : Int))], [.inl (k : Int)], (zs g gl))) rfl ?_
        refine zH_ret (v := some (.inl (k : Int))) rfl (fun q => absurd q (by decide)) ?_
        exact Or.inr (Or.inr ⟨by assumption, k, by omega, k2, by rcases k3 with q | q <;> first | exact q | (exfalso; omega), Or.inr ⟨by omega, l, tr, g, gl, hl2, rfl, rfl, hs1, hs2⟩⟩)
      · refine zH_go 1 (c' := (49, [some (.inr (.inr (some 2))), some (.inl (k : Int))], [.inl (-3)], (zs h hl))) rfl ?_
        refine zH_ret (v := some (.inl (-3))) rfl (fun q => absurd q (by decide)) ?_
        exact Or.inr (Or.inr ⟨by assumption, k, by omega, k2, by rcases k3 with q | q <;> first | exact q | (exfalso; omega), Or.inl ⟨by omega, rfl, rfl⟩⟩)
    · show zH _ _ (29, [some (.inr (.inr (some 2))), some (.inl (k : Int))], [.inl 0], (zs h hl)) _
      refine zH_bf (x := 0) (y := 0) (k := .ne) (c1 := (35, [some (.inr (.inr (some 2))), some (.inl (k : Int))], [], (zs h hl))) (c2 := (32, [some (.inr (.inr (some 2))), some (.inl (k : Int))], [], (zs h hl))) rfl ⟨by decide, by decide⟩ ⟨by decide, by decide⟩ (by show ¬ (¬ 0 = 0); decide) ?_
      refine zH_go 1 (c' := (34, [some (.inr (.inr (some 2))), some (.inl (k : Int))], [.inl (-2)], (zs h hl))) rfl ?_
      refine zH_ret (v := some (.inl (-2))) rfl (fun q => absurd q (by decide)) ?_
      exact Or.inr (Or.inl ⟨by assumption, fun j hj => k2 j (by omega), rfl, rfl⟩)
  · show zH _ _ (7, [some (.inr (.inr (some 2))), none], [.inl 0], (zs h hl)) _
    refine zH_bf (x := 0) (y := 0) (k := .ne) (c1 := (13, [some (.inr (.inr (some 2))), none], [], (zs h hl))) (c2 := (10, [some (.inr (.inr (some 2))), none], [], (zs h hl))) rfl ⟨by decide, by decide⟩ ⟨by decide, by decide⟩ (by show ¬ (¬ 0 = 0); decide) ?_
    refine zH_go 1 (c' := (12, [some (.inr (.inr (some 2))), none], [.inl (-2)], (zs h hl))) rfl ?_
    refine zH_ret (v := some (.inl (-2))) rfl (fun q => absurd q (by decide)) ?_
    exact Or.inl ⟨by assumption, rfl, rfl⟩
set_option maxRecDepth 100000 in
set_option maxHeartbeats 4000000 in
theorem p_ask {d : Nat} {h hl : Nat → Nat → Int} {a : Int} (ha : zr a) (hon : zr (h 21 3)) {K : Int} (hK7 : h 2 7 = K) (hK : 0 ≤ K ∧ K ≤ 3) {p r : Nat} (hW : zTown h p r) {L B n : Nat} {sp : Nat → Nat} (hD : 0 < h 21 3 → zDID h p L B n sp) : zQ (d + 6) 73 [.inr (.inr (some 2)), .inl a] (zs h hl) (fun r' σ' => (¬ (0 ≤ a ∧ a < h 3 0) ∧ r' = some (.inl (-1)) ∧ σ' = zs h hl) ∨ ((0 ≤ a ∧ a < h 3 0) ∧ ¬ 0 < h 21 3 ∧ r' = some (.inl (-2)) ∧ σ' = zs h hl) ∨ ((0 ≤ a ∧ a < h 3 0) ∧ 0 < h 21 3 ∧ ∃ (l : Nat) (tr : Int) (g : Nat → Nat → Int), r' = some (.inl (l : Int)) ∧ σ' = zs g (zup hl 81 0 (hl 81 0 + tr)) ∧ zPkR K L (zCov L sp (Int.toNat a)) (fun l => h (12 + sp l) (Int.toNat a)) (fun l => h 41 l + h (12 + sp l) (Int.toNat a)) (fun l => zWf h L B (zPl h 42 n (Int.toNat a)) (n + 1) (zwd (zStn L sp) l (Int.toNat a)) + h (12 + sp l) (Int.toNat a)) (h 21 6) l tr ∧ zDID g p L B n sp ∧ (∀ c : Nat, c ≠ 21 → c ≠ 39 → c ≠ 22 → c ≠ 38 → c ≠ 24 + (n + 1) → g c = h c) ∧ ∀ j : Nat, j ≠ 7 → g 21 j = h 21 j)) := by
  have hWc := hW
  obtain ⟨hp6, hr15, h30, h31, hp3, hr4, hMe, hTB, hCn, hPo, hRd, hLk, hGr⟩ := hWc
  have hP : 0 ≤ h 3 0 ∧ h 3 0 ≤ 6 := by omega
  refine zQ_of (Nat.le_of_ble_eq_true rfl) ?_
  show zH (d + 5) 73 (0, [some (.inr (.inr (some 2))), some (.inl a)], [], (zs h hl)) _
  refine zH_go 3 (c' := (5, [some (.inr (.inr (some 2))), some (.inl a)], [.inl a, .inr (.inr (some 3))], (zs h hl))) rfl ?_
  refine zH_call (M' := 48) (as := [.inr (.inr (some 3)), .inl a]) (T := []) rfl (p_has (by first | assumption | (unfold zr; omega)) hP) (fun r σ' p_1 => ?_)
  rcases p_1 with ⟨rfl, b_2, rfl⟩ | ⟨rfl, b_2, rfl⟩
  · show zH _ _ (8, [some (.inr (.inr (some 2))), some (.inl a)], [.inl 1], (zs h hl)) _
    refine zH_bt (x := 1) (y := 0) (k := .ne) (c1 := (13, [some (.inr (.inr (some 2))), some (.inl a)], [], (zs h hl))) (c2 := (11, [some (.inr (.inr (some 2))), some (.inl a)], [], (zs h hl))) rfl ⟨by decide, by decide⟩ ⟨by decide, by decide⟩ (by show ¬ 1 = 0; decide) ?_
    refine zH_go 2 (c' := (17, [some (.inr (.inr (some 2))), some (.inl a)], [.inr (.inr (some 21))], (zs h hl))) rfl ?_
    refine zH_call (M' := 12) (as := [.inr (.inr (some 21))]) (T := []) rfl (p_isOnD hon) (fun r σ' p_3 => ?_)
    rcases p_3 with ⟨rfl, b_4, rfl⟩ | ⟨rfl, b_4, rfl⟩
    · show zH _ _ (20, [some (.inr (.inr (some 2))), some (.inl a)], [.inl 1], (zs h hl)) _
      refine zH_bt (x := 1) (y := 0) (k := .ne) (c1 := (26, [some (.inr (.inr (some 2))), some (.inl a)], [], (zs h hl))) (c2 := (23, [some (.inr (.inr (some 2))), some (.inl a)], [], (zs h hl))) rfl ⟨by decide, by decide⟩ ⟨by decide, by decide⟩ (by show ¬ 1 = 0; decide) ?_
      have hD9 := hD (by assumption)
      have hDc := hD9
      obtain ⟨hS, hT, hBs, hL, hn, hn2, hB, htu, hsp, hspL, hsu, hR, hWk, hnk, hHE, hHz⟩ := hDc
      have hL3 := hS.1
      obtain ⟨u, rfl⟩ := Int.eq_ofNat_of_zero_le (show 0 ≤ a by omega)
      show zH _ _ (26, [some (.inr (.inr (some 2))), some (.inl (u : Int))], [], (zs h hl)) _
      refine zH_go 3 (c' := (31, [some (.inr (.inr (some 2))), some (.inl (u : Int))], [.inl (u : Int), .inr (.inr (some 21))], (zs h hl))) rfl ?_
      refine zH_call (M' := 16) (as := [.inr (.inr (some 21)), .inl (u : Int)]) (T := []) rfl (p_hearD hS hT hBs (fun i hi => (hsp i hi).1) (fun i hi => (hsp i hi).2) (pp := u) (by omega) hn hn2 hWk hnk hHz) (fun r σ' p1 => ?_)
      obtain ⟨rfl, g1, rfl, hg⟩ := p1
      have hu : u < p := by omega
      have hD2 := zDI_hearD hD9 hu hg
      have hg0 := hg
      obtain ⟨f1, f7, fj, ff, fW, fk, fHn, fHj⟩ := hg0
      have k27 : g1 2 7 = K := by rw [f1 2 (by decide) (by decide) (by decide) (by decide) (by omega)]; exact hK7
      have hD2' := hD2
      obtain ⟨gS, gT, gBs, gL, gn, gn2, gB, gtu, gsp, gspL, gsu, gR, gW, gnk, gHE, gHz⟩ := hD2'
      obtain ⟨kk, w1, w2, w3, w4⟩ := gW
      have hrow := zWI_b gS gT gBs (⟨kk, w1, w2, w3, w4⟩ : zWI g1 p L B 22 38 24 13) w1 (n := n + 1) (by omega) (by decide)
      have hfar : ∀ l : Nat, l < 3 → 0 ≤ g1 39 l ∧ g1 39 l ≤ 1000000 := fun l hl => by rw [ff l hl]; exact zFar_b hT.1 (fun i hi => (hsp i hi).2) (by omega) l hl
      have hsumb := zDI_bD hD2
      have e41 : g1 41 = h 41 := f1 41 (by decide) (by decide) (by decide) (by decide) (by omega)
      show zH _ _ (34, [some (.inr (.inr (some 2))), some (.inl (u : Int))], [], (zs g1 hl)) _
      refine zH_go 4 (c' := (42, [some (.inr (.inr (some 2))), some (.inl (u : Int))], [.inl (g1 2 7), .inr (.inr (some 81))], (zs g1 hl))) rfl ?_
      rw [k27]
      refine zH_go 2 (c' := (46, [some (.inr (.inr (some 2))), some (.inl (u : Int))], [.inr (.inr (some 21)), .inl K, .inr (.inr (some 81))], (zs g1 hl))) rfl ?_
      refine zH_call (M' := 35) (as := [.inr (.inr (some 81)), .inl K, .inr (.inr (some 21))]) (T := []) rfl (p_pickD hK hL3 gL hfar f7 (fun i hi => (gsp i (by omega)).1) (fun l hl => by have := hsumb l hl; omega) gS gn hn2 hu gspL hrow ⟨gtu.1, by omega⟩) (fun r σ' p2 => ?_)
      obtain ⟨l, tr, hpk, rfl, rfl⟩ := p2
      show zH _ _ (49, [some (.inr (.inr (some 2))), some (.inl (u : Int))], [.inl (l : Int)], (zs g1 (zup hl 81 0 (hl 81 0 + tr)))) _
      refine zH_ret (v := some (.inl (l : Int))) rfl (fun q => absurd q (by decide)) ?_
      have hpk2 := zPkR_imp hpk (gn := fun l => h (12 + sp l) u) (ge := fun l => h 41 l + h (12 + sp l) u) (ga := fun l => zWf h L B (zPl h 42 n u) (n + 1) (zwd (zStn L sp) l u) + h (12 + sp l) u) (fun q hq => ff q (by omega)) (fun q hq => by rw [e41, ff q (by omega)]) (fun q hq => by rw [zWk_D hD9 hu hq hg, ff q (by omega)])
      rw [fj 6 (by decide)] at hpk2
      exact Or.inr (Or.inr ⟨by omega, by assumption, l, tr, g1, rfl, rfl, by rw [Int.toNat_natCast]; exact hpk2, hD2, f1, fj⟩)
    · show zH _ _ (20, [some (.inr (.inr (some 2))), some (.inl a)], [.inl 0], (zs h hl)) _
      refine zH_bf (x := 0) (y := 0) (k := .ne) (c1 := (26, [some (.inr (.inr (some 2))), some (.inl a)], [], (zs h hl))) (c2 := (23, [some (.inr (.inr (some 2))), some (.inl a)], [], (zs h hl))) rfl ⟨by decide, by decide⟩ ⟨by decide, by decide⟩ (by show ¬ (¬ 0 = 0); decide) ?_
      refine zH_go 1 (c' := (25, [some (.inr (.inr (some 2))), some (.inl a)], [.inl (-2)], (zs h hl))) rfl ?_
      refine zH_ret (v := some (.inl (-2))) rfl (fun q => absurd q (by decide)) ?_
      exact Or.inr (Or.inl ⟨by omega, by assumption, rfl, rfl⟩)
  · show zH _ _ (8, [some (.inr (.inr (some 2))), some (.inl a)], [.inl 0], (zs h hl)) _
    refine zH_bf (x := 0) (y := 0) (k := .ne) (c1 := (13, [some (.inr (.inr (some 2))), some (.inl a)], [], (zs h hl))) (c2 := (11, [some (.inr (.inr (some 2))), some (.inl a)], [], (zs h hl))) rfl ⟨by decide, by decide⟩ ⟨by decide, by decide⟩ (by show ¬ (¬ 0 = 0); decide) ?_
    refine zH_go 1 (c' := (12, [some (.inr (.inr (some 2))), some (.inl a)], [.inl (-1)], (zs h hl))) rfl ?_
    refine zH_ret (v := some (.inl (-1))) rfl (fun q => absurd q (by decide)) ?_
    exact Or.inl ⟨by omega, rfl, rfl⟩
set_option maxRecDepth 100000 in
set_option maxHeartbeats 4000000 in
theorem p_stand {d : Nat} {h hl : Nat → Nat → Int} (hon : zr (h 21 3)) {p : Nat} {L B n : Nat} {sp : Nat → Nat} (hD : 0 < h 21 3 → zDID h p L B n sp) : zQ (d + 3) 74 [.inr (.inr (some 2))] (zs h hl) (fun r' σ' => (¬ 0 < h 21 3 ∧ r' = some (.inl (-2)) ∧ σ' = zs h hl) ∨ (0 < h 21 3 ∧ r' = some (.inl ((zStn L sp : Nat) : Int)) ∧ σ' = zs h hl)) := by
  refine zQ_of (Nat.le_of_ble_eq_true rfl) ?_
  show zH (d + 2) 74 (0, [some (.inr (.inr (some 2)))], [], (zs h hl)) _
  refine zH_go 2 (c' := (4, [some (.inr (.inr (some 2)))], [.inr (.inr (some 21))], (zs h hl))) rfl ?_
  refine zH_call (M' := 12) (as := [.inr (.inr (some 21))]) (T := []) rfl (p_isOnD hon) (fun r σ' p_1 => ?_)
  rcases p_1 with ⟨rfl, b_2, rfl⟩ | ⟨rfl, b_2, rfl⟩
  · show zH _ _ (7, [some (.inr (.inr (some 2)))], [.inl 1], (zs h hl)) _
    refine zH_bf (x := 1) (y := 0) (k := .eq) (c1 := (20, [some (.inr (.inr (some 2)))], [], (zs h hl))) (c2 := (10, [some (.inr (.inr (some 2)))], [], (zs h hl))) rfl ⟨by decide, by decide⟩ ⟨by decide, by decide⟩ (by show ¬ (1 = 0); decide) ?_
    have hD9 := hD (by assumption)
    have hDc := hD9
    obtain ⟨hS, hT, hBs, hL, hn, hn2, hB, htu, hsp, hspL, hsu, hR, hWk, hnk, hHE, hHz⟩ := hDc
    have hL3 := hS.1
    refine zH_go 2 (c' := (14, [some (.inr (.inr (some 2)))], [.inr (.inr (some 21))], (zs h hl))) rfl ?_
    refine zH_call (M' := 19) (as := [.inr (.inr (some 21))]) (T := []) rfl (p_stnD hL3 hL (fun i hi => (hsp i (by omega)).1) (fun i hi => (hsp i (by omega)).2)) (fun r σ' p_3 => ?_)
    obtain ⟨rfl, rfl⟩ := p_3
    show zH _ _ (17, [some (.inr (.inr (some 2)))], [.inl ((zStn L sp : Nat) : Int)], (zs h hl)) _
    refine zH_go 1 (c' := (22, [some (.inr (.inr (some 2)))], [.inl ((zStn L sp : Nat) : Int)], (zs h hl))) rfl ?_
    refine zH_ret (v := some (.inl ((zStn L sp : Nat) : Int))) rfl (fun q => absurd q (by decide)) ?_
    exact Or.inr ⟨by assumption, rfl, rfl⟩
  · show zH _ _ (7, [some (.inr (.inr (some 2)))], [.inl 0], (zs h hl)) _
    refine zH_bt (x := 0) (y := 0) (k := .eq) (c1 := (20, [some (.inr (.inr (some 2)))], [], (zs h hl))) (c2 := (10, [some (.inr (.inr (some 2)))], [], (zs h hl))) rfl ⟨by decide, by decide⟩ ⟨by decide, by decide⟩ (by show 0 = 0; decide) ?_
    refine zH_go 1 (c' := (22, [some (.inr (.inr (some 2)))], [.inl (-2)], (zs h hl))) rfl ?_
    refine zH_ret (v := some (.inl (-2))) rfl (fun q => absurd q (by decide)) ?_
    exact Or.inl ⟨by assumption, rfl, rfl⟩
theorem zB_iff {C D : Prop} {σ : zS} (h : C ↔ D) : ∀ r σ', zB C σ r σ' → zB D σ r σ' := fun r σ' q => by
  rcases q with ⟨a, b, c⟩ | ⟨a, b, c⟩
  · exact Or.inl ⟨a, h.mp b, c⟩
  · exact Or.inr ⟨a, fun w => b (h.mpr w), c⟩
set_option maxRecDepth 100000 in
set_option maxHeartbeats 4000000 in
theorem p_moves {d : Nat} {h hl : Nat → Nat → Int} {s t : Int} (hs : zr s) (ht : zr t) (hon : zr (h 21 3)) {p r : Nat} (hW : zTown h p r) {L B n : Nat} {sp : Nat → Nat} (hD : 0 < h 21 3 → zDID h p L B n sp) : zQ (d + 3) 79 [.inr (.inr (some 2)), .inl s, .inl t] (zs h hl) (fun r' σ' => (¬ 0 < h 21 3 ∧ r' = some (.inl (-2)) ∧ σ' = zs h hl) ∨ (0 < h 21 3 ∧ ¬ (zStd (p : Int) L s ∧ zStd (p : Int) L t) ∧ r' = some (.inl (-1)) ∧ σ' = zs h hl) ∨ (0 < h 21 3 ∧ ∃ X Y : Nat, s = (X : Int) ∧ t = (Y : Int) ∧ zSb p L X = true ∧ zSb p L Y = true ∧ r' = some (.inl (zMv h L X Y)) ∧ σ' = zs h hl)) := by
  have hWc := hW
  obtain ⟨hp6, hr15, h30, h31, hp3, hr4, hMe, hTB, hCn, hPo, hRd, hLk, hGr⟩ := hWc
  have hP : 0 ≤ h 3 0 ∧ h 3 0 ≤ 6 := by omega
  refine zQ_of (Nat.le_of_ble_eq_true rfl) ?_
  show zH (d + 2) 79 (0, [some (.inr (.inr (some 2))), some (.inl s), some (.inl t)], [], (zs h hl)) _
  refine zH_go 2 (c' := (4, [some (.inr (.inr (some 2))), some (.inl s), some (.inl t)], [.inr (.inr (some 21))], (zs h hl))) rfl ?_
  refine zH_call (M' := 12) (as := [.inr (.inr (some 21))]) (T := []) rfl (p_isOnD hon) (fun r σ' p_1 => ?_)
  rcases p_1 with ⟨rfl, b_2, rfl⟩ | ⟨rfl, b_2, rfl⟩
  · show zH _ _ (7, [some (.inr (.inr (some 2))), some (.inl s), some (.inl t)], [.inl 1], (zs h hl)) _
    refine zH_bt (x := 1) (y := 0) (k := .ne) (c1 := (13, [some (.inr (.inr (some 2))), some (.inl s), some (.inl t)], [], (zs h hl))) (c2 := (10, [some (.inr (.inr (some 2))), some (.inl s), some (.inl t)], [], (zs h hl))) rfl ⟨by decide, by decide⟩ ⟨by decide, by decide⟩ (by show ¬ 1 = 0; decide) ?_
    have hD9 := hD (by assumption)
    have hDc := hD9
    obtain ⟨hS, hT, hBs, hL, hn, hn2, hB, htu, hsp, hspL, hsu, hR, hWk, hnk, hHE, hHz⟩ := hDc
    have hL3 := hS.1
    have hsR : ∀ n : Nat, n < 512 → -1 ≤ h 20 n ∧ h 20 n < 56 := fun n hn => by cases e : zSb p L n with | true => have := hS.2.2.2.2.1 n hn e; have := hS.2.2.2.1; omega | false => have := hS.2.2.2.2.2.1 n hn e; omega
    refine zH_go 3 (c' := (18, [some (.inr (.inr (some 2))), some (.inl s), some (.inl t)], [.inl s, .inr (.inr (some 18))], (zs h hl))) rfl ?_
    refine zH_call (M' := 43) (as := [.inr (.inr (some 18)), .inl s]) (T := []) rfl (zQ_imp (p_sHas (by first | assumption | (unfold zr; omega)) hsR) (zB_iff (zSI_has hS))) (fun r σ' p_3 => ?_)
    rcases p_3 with ⟨rfl, b_4, rfl⟩ | ⟨rfl, b_4, rfl⟩
    · show zH _ _ (21, [some (.inr (.inr (some 2))), some (.inl s), some (.inl t)], [.inl 1], (zs h hl)) _
      refine zH_bf (x := 1) (y := 0) (k := .eq) (c1 := (35, [some (.inr (.inr (some 2))), some (.inl s), some (.inl t)], [], (zs h hl))) (c2 := (24, [some (.inr (.inr (some 2))), some (.inl s), some (.inl t)], [], (zs h hl))) rfl ⟨by decide, by decide⟩ ⟨by decide, by decide⟩ (by show ¬ (1 = 0); decide) ?_
      refine zH_go 3 (c' := (29, [some (.inr (.inr (some 2))), some (.inl s), some (.inl t)], [.inl t, .inr (.inr (some 18))], (zs h hl))) rfl ?_
      refine zH_call (M' := 43) (as := [.inr (.inr (some 18)), .inl t]) (T := []) rfl (zQ_imp (p_sHas (by first | assumption | (unfold zr; omega)) hsR) (zB_iff (zSI_has hS))) (fun r σ' p_5 => ?_)
      rcases p_5 with ⟨rfl, b_6, rfl⟩ | ⟨rfl, b_6, rfl⟩
      · show zH _ _ (32, [some (.inr (.inr (some 2))), some (.inl s), some (.inl t)], [.inl 1], (zs h hl)) _
        refine zH_bt (x := 1) (y := 0) (k := .ne) (c1 := (37, [some (.inr (.inr (some 2))), some (.inl s), some (.inl t)], [], (zs h hl))) (c2 := (35, [some (.inr (.inr (some 2))), some (.inl s), some (.inl t)], [], (zs h hl))) rfl ⟨by decide, by decide⟩ ⟨by decide, by decide⟩ (by show ¬ 1 = 0; decide) ?_
        have q1 : zStd (p : Int) L s := by assumption
        have q2 : zStd (p : Int) L t := by assumption
        have q10 := q1.1
        have q20 := q2.1
        obtain ⟨X, rfl⟩ := Int.eq_ofNat_of_zero_le (show 0 ≤ s by omega)
        obtain ⟨Y, rfl⟩ := Int.eq_ofNat_of_zero_le (show 0 ≤ t by omega)
        show zH _ _ (37, [some (.inr (.inr (some 2))), some (.inl (X : Int)), some (.inl (Y : Int))], [], (zs h hl)) _
        have x1 := zSb_iff.mp q1
        have y1 := zSb_iff.mp q2
        refine zH_go 4 (c' := (43, [some (.inr (.inr (some 2))), some (.inl (X : Int)), some (.inl (Y : Int))], [.inl (Y : Int), .inl (X : Int), .inr (.inr (some 18))], (zs h hl))) rfl ?_
        refine zH_call (M' := 46) (as := [.inr (.inr (some 18)), .inl (X : Int), .inl (Y : Int)]) (T := []) rfl (p_mv (s := X) (t := Y) hL3 (zSb_lt hL3.2 x1) (zSb_lt hL3.2 y1) (fun i hi => by have := zSb_dg x1 hi; omega) (fun i hi => by have := zSb_dg y1 hi; omega) hS.2.2.1 hT.2.2 hT.1) (fun r σ' p_7 => ?_)
        obtain ⟨rfl, rfl⟩ := p_7
        show zH _ _ (46, [some (.inr (.inr (some 2))), some (.inl (X : Int)), some (.inl (Y : Int))], [.inl (zMv h L X Y)], (zs h hl)) _
        refine zH_ret (v := some (.inl (zMv h L X Y))) rfl (fun q => absurd q (by decide)) ?_
        exact Or.inr (Or.inr ⟨by assumption, X, Y, rfl, rfl, x1, y1, rfl, rfl⟩)
      · show zH _ _ (32, [some (.inr (.inr (some 2))), some (.inl s), some (.inl t)], [.inl 0], (zs h hl)) _
        refine zH_bf (x := 0) (y := 0) (k := .ne) (c1 := (37, [some (.inr (.inr (some 2))), some (.inl s), some (.inl t)], [], (zs h hl))) (c2 := (35, [some (.inr (.inr (some 2))), some (.inl s), some (.inl t)], [], (zs h hl))) rfl ⟨by decide, by decide⟩ ⟨by decide, by decide⟩ (by show ¬ (¬ 0 = 0); decide) ?_
        refine zH_go 1 (c' := (36, [some (.inr (.inr (some 2))), some (.inl s), some (.inl t)], [.inl (-1)], (zs h hl))) rfl ?_
        refine zH_ret (v := some (.inl (-1))) rfl (fun q => absurd q (by decide)) ?_
        exact Or.inr (Or.inl ⟨by assumption, fun q => by first | exact absurd q.1 (by assumption) | exact absurd q.2 (by assumption), rfl, rfl⟩)
    · show zH _ _ (21, [some (.inr (.inr (some 2))), some (.inl s), some (.inl t)], [.inl 0], (zs h hl)) _
      refine zH_bt (x := 0) (y := 0) (k := .eq) (c1 := (35, [some (.inr (.inr (some 2))), some (.inl s), some (.inl t)], [], (zs h hl))) (c2 := (24, [some (.inr (.inr (some 2))), some (.inl s), some (.inl t)], [], (zs h hl))) rfl ⟨by decide, by decide⟩ ⟨by decide, by decide⟩ (by show 0 = 0; decide) ?_
      refine zH_go 1 (c' := (36, [some (.inr (.inr (some 2))), some (.inl s), some (.inl t)], [.inl (-1)], (zs h hl))) rfl ?_
      refine zH_ret (v := some (.inl (-1))) rfl (fun q => absurd q (by decide)) ?_
      exact Or.inr (Or.inl ⟨by assumption, fun q => by first | exact absurd q.1 (by assumption) | exact absurd q.2 (by assumption), rfl, rfl⟩)
  · show zH _ _ (7, [some (.inr (.inr (some 2))), some (.inl s), some (.inl t)], [.inl 0], (zs h hl)) _
    refine zH_bf (x := 0) (y := 0) (k := .ne) (c1 := (13, [some (.inr (.inr (some 2))), some (.inl s), some (.inl t)], [], (zs h hl))) (c2 := (10, [some (.inr (.inr (some 2))), some (.inl s), some (.inl t)], [], (zs h hl))) rfl ⟨by decide, by decide⟩ ⟨by decide, by decide⟩ (by show ¬ (¬ 0 = 0); decide) ?_
    refine zH_go 1 (c' := (12, [some (.inr (.inr (some 2))), some (.inl s), some (.inl t)], [.inl (-2)], (zs h hl))) rfl ?_
    refine zH_ret (v := some (.inl (-2))) rfl (fun q => absurd q (by decide)) ?_
    exact Or.inl ⟨by assumption, rfl, rfl⟩
set_option maxRecDepth 100000 in
set_option maxHeartbeats 4000000 in
theorem p_work {d : Nat} {h hl : Nat → Nat → Int} {i s : Int} (hi : zr i) (hs : zr s) (h4 : 0 ≤ h 21 4 ∧ h 21 4 ≤ 12) (hon : zr (h 21 3)) {p r : Nat} (hW : zTown h p r) {L B n : Nat} {sp : Nat → Nat} (hD : 0 < h 21 3 → zDID h p L B n sp) : zQ (d + 3) 80 [.inr (.inr (some 2)), .inl i, .inl s] (zs h hl) (fun r' σ' => (¬ 0 < h 21 3 ∧ r' = some (.inl (-2)) ∧ σ' = zs h hl) ∨ (0 < h 21 3 ∧ ¬ ((0 ≤ i ∧ i ≤ h 21 4) ∧ zStd (p : Int) L s) ∧ r' = some (.inl (-1)) ∧ σ' = zs h hl) ∨ (0 < h 21 3 ∧ ∃ u X : Nat, i = (u : Int) ∧ s = (X : Int) ∧ u ≤ n ∧ zSb p L X = true ∧ r' = some (.inl (zWf h L B (zpl h) u X)) ∧ σ' = zs h hl)) := by
  have hWc := hW
  obtain ⟨hp6, hr15, h30, h31, hp3, hr4, hMe, hTB, hCn, hPo, hRd, hLk, hGr⟩ := hWc
  have hP : 0 ≤ h 3 0 ∧ h 3 0 ≤ 6 := by omega
  refine zQ_of (Nat.le_of_ble_eq_true rfl) ?_
  show zH (d + 2) 80 (0, [some (.inr (.inr (some 2))), some (.inl i), some (.inl s)], [], (zs h hl)) _
  refine zH_go 2 (c' := (4, [some (.inr (.inr (some 2))), some (.inl i), some (.inl s)], [.inr (.inr (some 21))], (zs h hl))) rfl ?_
  refine zH_call (M' := 12) (as := [.inr (.inr (some 21))]) (T := []) rfl (p_isOnD hon) (fun r σ' p_1 => ?_)
  rcases p_1 with ⟨rfl, b_2, rfl⟩ | ⟨rfl, b_2, rfl⟩
  · show zH _ _ (7, [some (.inr (.inr (some 2))), some (.inl i), some (.inl s)], [.inl 1], (zs h hl)) _
    refine zH_bt (x := 1) (y := 0) (k := .ne) (c1 := (13, [some (.inr (.inr (some 2))), some (.inl i), some (.inl s)], [], (zs h hl))) (c2 := (10, [some (.inr (.inr (some 2))), some (.inl i), some (.inl s)], [], (zs h hl))) rfl ⟨by decide, by decide⟩ ⟨by decide, by decide⟩ (by show ¬ 1 = 0; decide) ?_
    have hD9 := hD (by assumption)
    have hDc := hD9
    obtain ⟨hS, hT, hBs, hL, hn, hn2, hB, htu, hsp, hspL, hsu, hR, hWk, hnk, hHE, hHz⟩ := hDc
    have hL3 := hS.1
    have hsR : ∀ n : Nat, n < 512 → -1 ≤ h 20 n ∧ h 20 n < 56 := fun n hn => by cases e : zSb p L n with | true => have := hS.2.2.2.2.1 n hn e; have := hS.2.2.2.1; omega | false => have := hS.2.2.2.2.2.1 n hn e; omega
    refine zH_go 1 (c' := (14, [some (.inr (.inr (some 2))), some (.inl i), some (.inl s)], [.inl i], (zs h hl))) rfl ?_
    refine zH_br (x := i) (y := 0) (k := .lt) (c1 := (39, [some (.inr (.inr (some 2))), some (.inl i), some (.inl s)], [], (zs h hl))) (c2 := (17, [some (.inr (.inr (some 2))), some (.inl i), some (.inl s)], [], (zs h hl))) rfl (by first | assumption | (unfold zr; omega)) ⟨by decide, by decide⟩ (fun (b_3 : i < 0) => ?_) (fun (b_3 : ¬ (i < 0)) => ?_)
    · refine zH_go 1 (c' := (40, [some (.inr (.inr (some 2))), some (.inl i), some (.inl s)], [.inl (-1)], (zs h hl))) rfl ?_
      refine zH_ret (v := some (.inl (-1))) rfl (fun q => absurd q (by decide)) ?_
      exact Or.inr (Or.inl ⟨by assumption, fun q => by first | (exfalso; omega) | exact absurd q.2 (by assumption), rfl, rfl⟩)
    · refine zH_go 4 (c' := (25, [some (.inr (.inr (some 2))), some (.inl i), some (.inl s)], [.inl (h 21 4), .inl i], (zs h hl))) rfl ?_
      refine zH_br (x := i) (y := (h 21 4)) (k := .gt) (c1 := (39, [some (.inr (.inr (some 2))), some (.inl i), some (.inl s)], [], (zs h hl))) (c2 := (28, [some (.inr (.inr (some 2))), some (.inl i), some (.inl s)], [], (zs h hl))) rfl (by first | assumption | (unfold zr; omega)) (by first | assumption | (unfold zr; omega)) (fun (b_4 : (h 21 4) < i) => ?_) (fun (b_4 : ¬ ((h 21 4) < i)) => ?_)
      · refine zH_go 1 (c' := (40, [some (.inr (.inr (some 2))), some (.inl i), some (.inl s)], [.inl (-1)], (zs h hl))) rfl ?_
        refine zH_ret (v := some (.inl (-1))) rfl (fun q => absurd q (by decide)) ?_
        exact Or.inr (Or.inl ⟨by assumption, fun q => by first | (exfalso; omega) | exact absurd q.2 (by assumption), rfl, rfl⟩)
      · refine zH_go 3 (c' := (33, [some (.inr (.inr (some 2))), some (.inl i), some (.inl s)], [.inl s, .inr (.inr (some 18))], (zs h hl))) rfl ?_
        refine zH_call (M' := 43) (as := [.inr (.inr (some 18)), .inl s]) (T := []) rfl (zQ_imp (p_sHas (by first | assumption | (unfold zr; omega)) hsR) (zB_iff (zSI_has hS))) (fun r σ' p_5 => ?_)
        rcases p_5 with ⟨rfl, b_6, rfl⟩ | ⟨rfl, b_6, rfl⟩
        · show zH _ _ (36, [some (.inr (.inr (some 2))), some (.inl i), some (.inl s)], [.inl 1], (zs h hl)) _
          refine zH_bt (x := 1) (y := 0) (k := .ne) (c1 := (41, [some (.inr (.inr (some 2))), some (.inl i), some (.inl s)], [], (zs h hl))) (c2 := (39, [some (.inr (.inr (some 2))), some (.inl i), some (.inl s)], [], (zs h hl))) rfl ⟨by decide, by decide⟩ ⟨by decide, by decide⟩ (by show ¬ 1 = 0; decide) ?_
          have q2 : zStd (p : Int) L s := by assumption
          have q20 := q2.1
          obtain ⟨u, rfl⟩ := Int.eq_ofNat_of_zero_le (show 0 ≤ i by omega)
          obtain ⟨X, rfl⟩ := Int.eq_ofNat_of_zero_le (show 0 ≤ s by omega)
          show zH _ _ (41, [some (.inr (.inr (some 2))), some (.inl (u : Int)), some (.inl (X : Int))], [], (zs h hl)) _
          have x1 := zSb_iff.mp q2
          have xl := zSb_lt hL3.2 x1
          have xs := hS.2.2.2.2.1 X xl x1
          have s2 := hS.2.2.2.1
          have ew := zWork_D hD9 (show u ≤ n by omega) x1
          refine zH_go 5 (c' := (50, [some (.inr (.inr (some 2))), some (.inl (u : Int)), some (.inl (X : Int))], [.inl (X : Int), .inl (u : Int), .inr (.inr (some 22))], (zs h hl))) rfl ?_
          refine zH_call (M' := 59) (as := [.inr (.inr (some 22)), .inl (u : Int), .inl (X : Int)]) (T := []) rfl (p_wofD (n := u) (s := X) (by omega) xl (by omega)) (fun r σ' p_7 => ?_)
          obtain ⟨rfl, rfl⟩ := p_7
          show zH _ _ (53, [some (.inr (.inr (some 2))), some (.inl (u : Int)), some (.inl (X : Int))], [.inl (h (24 + u) (Int.toNat (h 20 X)))], (zs h hl)) _
          refine zH_ret (v := some (.inl (h (24 + u) (Int.toNat (h 20 X))))) rfl (fun q => absurd q (by decide)) ?_
          exact Or.inr (Or.inr ⟨by assumption, u, X, rfl, rfl, by omega, x1, by rw [ew], rfl⟩)
        · show zH _ _ (36, [some (.inr (.inr (some 2))), some (.inl i), some (.inl s)], [.inl 0], (zs h hl)) _
          refine zH_bf (x := 0) (y := 0) (k := .ne) (c1 := (41, [some (.inr (.inr (some 2))), some (.inl i), some (.inl s)], [], (zs h hl))) (c2 := (39, [some (.inr (.inr (some 2))), some (.inl i), some (.inl s)], [], (zs h hl))) rfl ⟨by decide, by decide⟩ ⟨by decide, by decide⟩ (by show ¬ (¬ 0 = 0); decide) ?_
          refine zH_go 1 (c' := (40, [some (.inr (.inr (some 2))), some (.inl i), some (.inl s)], [.inl (-1)], (zs h hl))) rfl ?_
          refine zH_ret (v := some (.inl (-1))) rfl (fun q => absurd q (by decide)) ?_
          exact Or.inr (Or.inl ⟨by assumption, fun q => by first | (exfalso; omega) | exact absurd q.2 (by assumption), rfl, rfl⟩)
  · show zH _ _ (7, [some (.inr (.inr (some 2))), some (.inl i), some (.inl s)], [.inl 0], (zs h hl)) _
    refine zH_bf (x := 0) (y := 0) (k := .ne) (c1 := (13, [some (.inr (.inr (some 2))), some (.inl i), some (.inl s)], [], (zs h hl))) (c2 := (10, [some (.inr (.inr (some 2))), some (.inl i), some (.inl s)], [], (zs h hl))) rfl ⟨by decide, by decide⟩ ⟨by decide, by decide⟩ (by show ¬ (¬ 0 = 0); decide) ?_
    refine zH_go 1 (c' := (12, [some (.inr (.inr (some 2))), some (.inl i), some (.inl s)], [.inl (-2)], (zs h hl))) rfl ?_
    refine zH_ret (v := some (.inl (-2))) rfl (fun q => absurd q (by decide)) ?_
    exact Or.inl ⟨by assumption, rfl, rfl⟩
set_option maxRecDepth 100000 in
set_option maxHeartbeats 4000000 in
theorem p_least {d : Nat} {h hl : Nat → Nat → Int} {i : Int} (hi : zr i) (h4 : 0 ≤ h 21 4 ∧ h 21 4 ≤ 12) (hon : zr (h 21 3)) {p r : Nat} (hW : zTown h p r) {L B n : Nat} {sp : Nat → Nat} (hD : 0 < h 21 3 → zDID h p L B n sp) : zQ (d + 4) 81 [.inr (.inr (some 2)), .inl i] (zs h hl) (fun r' σ' => (¬ 0 < h 21 3 ∧ r' = some (.inl (-2)) ∧ σ' = zs h hl) ∨ (0 < h 21 3 ∧ ¬ (0 ≤ i ∧ i ≤ h 21 4) ∧ r' = some (.inl (-1)) ∧ σ' = zs h hl) ∨ (0 < h 21 3 ∧ ∃ (u : Nat) (v : Int), i = (u : Int) ∧ u ≤ n ∧ zLow h p L B u v ∧ r' = some (.inl v) ∧ σ' = zs h hl)) := by
  have hWc := hW
  obtain ⟨hp6, hr15, h30, h31, hp3, hr4, hMe, hTB, hCn, hPo, hRd, hLk, hGr⟩ := hWc
  have hP : 0 ≤ h 3 0 ∧ h 3 0 ≤ 6 := by omega
  refine zQ_of (Nat.le_of_ble_eq_true rfl) ?_
  show zH (d + 3) 81 (0, [some (.inr (.inr (some 2))), some (.inl i)], [], (zs h hl)) _
  refine zH_go 2 (c' := (4, [some (.inr (.inr (some 2))), some (.inl i)], [.inr (.inr (some 21))], (zs h hl))) rfl ?_
  refine zH_call (M' := 12) (as := [.inr (.inr (some 21))]) (T := []) rfl (p_isOnD hon) (fun r σ' p_1 => ?_)
  rcases p_1 with ⟨rfl, b_2, rfl⟩ | ⟨rfl, b_2, rfl⟩
  · show zH _ _ (7, [some (.inr (.inr (some 2))), some (.inl i)], [.inl 1], (zs h hl)) _
    refine zH_bt (x := 1) (y := 0) (k := .ne) (c1 := (13, [some (.inr (.inr (some 2))), some (.inl i)], [], (zs h hl))) (c2 := (10, [some (.inr (.inr (some 2))), some (.inl i)], [], (zs h hl))) rfl ⟨by decide, by decide⟩ ⟨by decide, by decide⟩ (by show ¬ 1 = 0; decide) ?_
    have hD9 := hD (by assumption)
    have hDc := hD9
    obtain ⟨hS, hT, hBs, hL, hn, hn2, hB, htu, hsp, hspL, hsu, hR, hWk, hnk, hHE, hHz⟩ := hDc
    have hL3 := hS.1
    refine zH_go 1 (c' := (14, [some (.inr (.inr (some 2))), some (.inl i)], [.inl i], (zs h hl))) rfl ?_
    refine zH_br (x := i) (y := 0) (k := .lt) (c1 := (28, [some (.inr (.inr (some 2))), some (.inl i)], [], (zs h hl))) (c2 := (17, [some (.inr (.inr (some 2))), some (.inl i)], [], (zs h hl))) rfl (by first | assumption | (unfold zr; omega)) ⟨by decide, by decide⟩ (fun (b_3 : i < 0) => ?_) (fun (b_3 : ¬ (i < 0)) => ?_)
    · refine zH_go 1 (c' := (29, [some (.inr (.inr (some 2))), some (.inl i)], [.inl (-1)], (zs h hl))) rfl ?_
      refine zH_ret (v := some (.inl (-1))) rfl (fun q => absurd q (by decide)) ?_
      exact Or.inr (Or.inl ⟨by assumption, by omega, rfl, rfl⟩)
    · refine zH_go 4 (c' := (25, [some (.inr (.inr (some 2))), some (.inl i)], [.inl (h 21 4), .inl i], (zs h hl))) rfl ?_
      refine zH_br (x := i) (y := (h 21 4)) (k := .le) (c1 := (30, [some (.inr (.inr (some 2))), some (.inl i)], [], (zs h hl))) (c2 := (28, [some (.inr (.inr (some 2))), some (.inl i)], [], (zs h hl))) rfl (by first | assumption | (unfold zr; omega)) (by first | assumption | (unfold zr; omega)) (fun (b_4 : ¬ (h 21 4) < i) => ?_) (fun (b_4 : ¬ (¬ (h 21 4) < i)) => ?_)
      · obtain ⟨u, rfl⟩ := Int.eq_ofNat_of_zero_le (show 0 ≤ i by omega)
        show zH _ _ (30, [some (.inr (.inr (some 2))), some (.inl (u : Int))], [], (zs h hl)) _
        refine zH_go 4 (c' := (38, [some (.inr (.inr (some 2))), some (.inl (u : Int))], [.inl (u : Int), .inr (.inr (some 22))], (zs h hl))) rfl ?_
        have hWk2 := hWk
        obtain ⟨kk, w1, w2, w3, w4⟩ := hWk2
        have hrow := zWI_b hS hT hBs hWk w1 (n := u) (by omega) (by decide)
        have hne : ∃ j : Nat, (j : Int) < h 18 2 := ⟨Int.toNat (h 20 B), by have := hS.2.2.2.2.1 B (zSb_lt hL3.2 hBs) hBs; omega⟩
        refine zH_call (M' := 60) (as := [.inr (.inr (some 22)), .inl (u : Int)]) (T := []) rfl (p_wlowD (n0 := u) hS (by omega) hrow hne) (fun r' σ' pm => ?_)
        obtain ⟨v, rfl, v1, v2, rfl⟩ := pm
        have hv := zLow_D hD9 (show u ≤ n by omega) v1 v2
        have hvb : 0 ≤ v ∧ v ≤ 100000 := by obtain ⟨j, j1, j2⟩ := v2; rw [j2]; exact hrow j j1
        show zH _ _ (41, [some (.inr (.inr (some 2))), some (.inl (u : Int))], [.inl v], (zs h hl)) _
        refine zH_ret (v := some (.inl v)) rfl (fun q => absurd q (by decide)) ?_
        exact Or.inr (Or.inr ⟨by assumption, u, v, rfl, by omega, hv, rfl, rfl⟩)
      · refine zH_go 1 (c' := (29, [some (.inr (.inr (some 2))), some (.inl i)], [.inl (-1)], (zs h hl))) rfl ?_
        refine zH_ret (v := some (.inl (-1))) rfl (fun q => absurd q (by decide)) ?_
        exact Or.inr (Or.inl ⟨by assumption, by omega, rfl, rfl⟩)
  · show zH _ _ (7, [some (.inr (.inr (some 2))), some (.inl i)], [.inl 0], (zs h hl)) _
    refine zH_bf (x := 0) (y := 0) (k := .ne) (c1 := (13, [some (.inr (.inr (some 2))), some (.inl i)], [], (zs h hl))) (c2 := (10, [some (.inr (.inr (some 2))), some (.inl i)], [], (zs h hl))) rfl ⟨by decide, by decide⟩ ⟨by decide, by decide⟩ (by show ¬ (¬ 0 = 0); decide) ?_
    refine zH_go 1 (c' := (12, [some (.inr (.inr (some 2))), some (.inl i)], [.inl (-2)], (zs h hl))) rfl ?_
    refine zH_ret (v := some (.inl (-2))) rfl (fun q => absurd q (by decide)) ?_
    exact Or.inl ⟨by assumption, rfl, rfl⟩
set_option maxRecDepth 100000 in
set_option maxHeartbeats 4000000 in
theorem p_ratio {d : Nat} {h hl : Nat → Nat → Int} (h4 : 0 ≤ h 21 4 ∧ h 21 4 ≤ 12) (hon : zr (h 21 3)) {p r : Nat} (hW : zTown h p r) {L B n : Nat} {sp : Nat → Nat} (hD : 0 < h 21 3 → zDID h p L B n sp) : zQ (d + 4) 83 [.inr (.inr (some 2))] (zs h hl) (fun r' σ' => (¬ 0 < h 21 3 ∧ r' = some (.inl (-2)) ∧ σ' = zs h hl) ∨ (0 < h 21 3 ∧ ∃ v : Int, zLow h p L B n v ∧ ((v = 0 ∧ r' = some (.inl (-9)) ∧ σ' = zs h hl) ∨ (¬ v = 0 ∧ r' = some (.inl (zdiv (1000 * (h 41 0 + h 41 1 + h 41 2)) v)) ∧ σ' = zs h hl)))) := by
  have hWc := hW
  obtain ⟨hp6, hr15, h30, h31, hp3, hr4, hMe, hTB, hCn, hPo, hRd, hLk, hGr⟩ := hWc
  have hP : 0 ≤ h 3 0 ∧ h 3 0 ≤ 6 := by omega
  refine zQ_of (Nat.le_of_ble_eq_true rfl) ?_
  show zH (d + 3) 83 (0, [some (.inr (.inr (some 2))), none], [], (zs h hl)) _
  refine zH_go 2 (c' := (4, [some (.inr (.inr (some 2))), none], [.inr (.inr (some 21))], (zs h hl))) rfl ?_
  refine zH_call (M' := 12) (as := [.inr (.inr (some 21))]) (T := []) rfl (p_isOnD hon) (fun r σ' p_1 => ?_)
  rcases p_1 with ⟨rfl, b_2, rfl⟩ | ⟨rfl, b_2, rfl⟩
  · show zH _ _ (7, [some (.inr (.inr (some 2))), none], [.inl 1], (zs h hl)) _
    refine zH_bt (x := 1) (y := 0) (k := .ne) (c1 := (13, [some (.inr (.inr (some 2))), none], [], (zs h hl))) (c2 := (10, [some (.inr (.inr (some 2))), none], [], (zs h hl))) rfl ⟨by decide, by decide⟩ ⟨by decide, by decide⟩ (by show ¬ 1 = 0; decide) ?_
    have hD9 := hD (by assumption)
    have hDc := hD9
    obtain ⟨hS, hT, hBs, hL, hn, hn2, hB, htu, hsp, hspL, hsu, hR, hWk, hnk, hHE, hHz⟩ := hDc
    have hL3 := hS.1
    refine zH_go 6 (c' := (27, [some (.inr (.inr (some 2))), none], [.inl (h 21 4), .inr (.inr (some 22))], (zs h hl))) rfl ?_
    rw [hn]
    have hWk2 := hWk
    obtain ⟨kk, w1, w2, w3, w4⟩ := hWk2
    have hrow := zWI_b hS hT hBs hWk w1 (n := n) (by omega) (by decide)
    have hne : ∃ j : Nat, (j : Int) < h 18 2 := ⟨Int.toNat (h 20 B), by have := hS.2.2.2.2.1 B (zSb_lt hL3.2 hBs) hBs; omega⟩
    refine zH_call (M' := 60) (as := [.inr (.inr (some 22)), .inl (n : Int)]) (T := []) rfl (p_wlowD (n0 := n) hS (by omega) hrow hne) (fun r' σ' pm => ?_)
    obtain ⟨v, rfl, v1, v2, rfl⟩ := pm
    have hv := zLow_D hD9 (show n ≤ n by omega) v1 v2
    have hvb : 0 ≤ v ∧ v ≤ 100000 := by obtain ⟨j, j1, j2⟩ := v2; rw [j2]; exact hrow j j1
    show zH _ _ (30, [some (.inr (.inr (some 2))), none], [.inl v], (zs h hl)) _
    refine zH_go 2 (c' := (32, [some (.inr (.inr (some 2))), some (.inl v)], [.inl v], (zs h hl))) rfl ?_
    refine zH_br (x := v) (y := 0) (k := .ne) (c1 := (40, [some (.inr (.inr (some 2))), some (.inl v)], [], (zs h hl))) (c2 := (35, [some (.inr (.inr (some 2))), some (.inl v)], [], (zs h hl))) rfl (by first | assumption | (unfold zr; omega)) ⟨by decide, by decide⟩ (fun (b_3 : ¬ v = 0) => ?_) (fun (b_3 : ¬ (¬ v = 0)) => ?_)
    · refine zH_go 3 (c' := (47, [some (.inr (.inr (some 2))), some (.inl v)], [.inr (.inr (some 21)), .inl 1000], (zs h hl))) rfl ?_
      refine zH_call (M' := 22) (as := [.inr (.inr (some 21))]) (T := [.inl 1000]) rfl (p_paidD) (fun r σ' p_4 => ?_)
      obtain ⟨rfl, rfl⟩ := p_4
      show zH _ _ (50, [some (.inr (.inr (some 2))), some (.inl v)], [.inl (h 41 0 + h 41 1 + h 41 2), .inl 1000], (zs h hl)) _
      refine zH_go 2 (c' := (52, [some (.inr (.inr (some 2))), some (.inl v)], [.inl v, .inl (1000 * (h 41 0 + h 41 1 + h 41 2))], (zs h hl))) rfl ?_
      refine zH_np (P := zr v ∧ v ≠ 0) (c' := (53, [some (.inr (.inr (some 2))), some (.inl v)], [.inl (zdiv (1000 * (h 41 0 + h 41 1 + h 41 2)) v)], (zs h hl))) rfl ⟨(by first | assumption | (unfold zr; omega)), by omega⟩ ?_
      refine zH_ret (v := some (.inl (zdiv (1000 * (h 41 0 + h 41 1 + h 41 2)) v))) rfl (fun q => absurd q (by decide)) ?_
      exact Or.inr ⟨by assumption, v, hv, Or.inr ⟨by omega, rfl, rfl⟩⟩
    · refine zH_go 2 (c' := (53, [some (.inr (.inr (some 2))), some (.inl v)], [.inl (-9)], (zs h hl))) rfl ?_
      refine zH_ret (v := some (.inl (-9))) rfl (fun q => absurd q (by decide)) ?_
      exact Or.inr ⟨by assumption, v, hv, Or.inl ⟨by omega, rfl, rfl⟩⟩
  · show zH _ _ (7, [some (.inr (.inr (some 2))), none], [.inl 0], (zs h hl)) _
    refine zH_bf (x := 0) (y := 0) (k := .ne) (c1 := (13, [some (.inr (.inr (some 2))), none], [], (zs h hl))) (c2 := (10, [some (.inr (.inr (some 2))), none], [], (zs h hl))) rfl ⟨by decide, by decide⟩ ⟨by decide, by decide⟩ (by show ¬ (¬ 0 = 0); decide) ?_
    refine zH_go 1 (c' := (12, [some (.inr (.inr (some 2))), none], [.inl (-2)], (zs h hl))) rfl ?_
    refine zH_ret (v := some (.inl (-2))) rfl (fun q => absurd q (by decide)) ?_
    exact Or.inl ⟨by assumption, rfl, rfl⟩
def zAbt (h : Nat → Nat → Int) (w x : Int) : Prop := (w = 0 ∧ x = h 3 0) ∨ (w = 1 ∧ x = h 3 1) ∨ (w = 2 ∧ x = h 21 3) ∨ (w = 3 ∧ x = h 21 4) ∨ (w = 4 ∧ x = h 2 7) ∨ (w = 5 ∧ ((zTorn h ∧ x = 1) ∨ (¬ zTorn h ∧ x = 0))) ∨ ((w < 0 ∨ 5 < w) ∧ x = -1)
set_option maxRecDepth 100000 in
set_option maxHeartbeats 4000000 in
theorem p_ab0 {d : Nat} {h hl : Nat → Nat → Int} {p r : Nat} (hW : zTown h p r) : zQ (d + 3) 97 [.inr (.inr (some 2)), .inl 0] (zs h hl) (fun r' σ' => ∃ x : Int, zAbt h 0 x ∧ r' = some (.inl x) ∧ σ' = zs h hl) := by
  have hWc := hW
  obtain ⟨hp6, hr15, h30, h31, hp3, hr4, hMe, hTB, hCn, hPo, hRd, hLk, hGr⟩ := hWc
  have hP : 0 ≤ h 3 0 ∧ h 3 0 ≤ 6 := by omega
  refine zQ_of (Nat.le_of_ble_eq_true rfl) ?_
  show zH (d + 2) 97 (0, [some (.inr (.inr (some 2))), some (.inl 0)], [], (zs h hl)) _
  refine zH_go 1 (c' := (1, [some (.inr (.inr (some 2))), some (.inl 0)], [.inl 0], (zs h hl))) rfl ?_
  refine zH_sw rfl ⟨by decide, by decide⟩ (tgt := 40) rfl ?_
  show zH _ _ (40, [some (.inr (.inr (some 2))), some (.inl 0)], [], (zs h hl)) _
  refine zH_go 3 (c' := (47, [some (.inr (.inr (some 2))), some (.inl 0)], [.inl (h 3 0)], (zs h hl))) rfl ?_
  refine zH_ret (v := some (.inl (h 3 0))) rfl (fun q => absurd q (by decide)) ?_
  exact ⟨_, Or.inl ⟨rfl, rfl⟩, rfl, rfl⟩
set_option maxRecDepth 100000 in
set_option maxHeartbeats 4000000 in
theorem p_ab1 {d : Nat} {h hl : Nat → Nat → Int} {p r : Nat} (hW : zTown h p r) : zQ (d + 3) 97 [.inr (.inr (some 2)), .inl 1] (zs h hl) (fun r' σ' => ∃ x : Int, zAbt h 1 x ∧ r' = some (.inl x) ∧ σ' = zs h hl) := by
  have hWc := hW
  obtain ⟨hp6, hr15, h30, h31, hp3, hr4, hMe, hTB, hCn, hPo, hRd, hLk, hGr⟩ := hWc
  have hP : 0 ≤ h 3 0 ∧ h 3 0 ≤ 6 := by omega
  refine zQ_of (Nat.le_of_ble_eq_true rfl) ?_
  show zH (d + 2) 97 (0, [some (.inr (.inr (some 2))), some (.inl 1)], [], (zs h hl)) _
  refine zH_go 1 (c' := (1, [some (.inr (.inr (some 2))), some (.inl 1)], [.inl 1], (zs h hl))) rfl ?_
  refine zH_sw rfl ⟨by decide, by decide⟩ (tgt := 48) rfl ?_
  show zH _ _ (48, [some (.inr (.inr (some 2))), some (.inl 1)], [], (zs h hl)) _
  refine zH_go 3 (c' := (55, [some (.inr (.inr (some 2))), some (.inl 1)], [.inl (h 3 1)], (zs h hl))) rfl ?_
  refine zH_ret (v := some (.inl (h 3 1))) rfl (fun q => absurd q (by decide)) ?_
  exact ⟨_, Or.inr (Or.inl ⟨rfl, rfl⟩), rfl, rfl⟩
set_option maxRecDepth 100000 in
set_option maxHeartbeats 4000000 in
theorem p_ab2 {d : Nat} {h hl : Nat → Nat → Int} {p r : Nat} (hW : zTown h p r) : zQ (d + 3) 97 [.inr (.inr (some 2)), .inl 2] (zs h hl) (fun r' σ' => ∃ x : Int, zAbt h 2 x ∧ r' = some (.inl x) ∧ σ' = zs h hl) := by
  have hWc := hW
  obtain ⟨hp6, hr15, h30, h31, hp3, hr4, hMe, hTB, hCn, hPo, hRd, hLk, hGr⟩ := hWc
  have hP : 0 ≤ h 3 0 ∧ h 3 0 ≤ 6 := by omega
  refine zQ_of (Nat.le_of_ble_eq_true rfl) ?_
  show zH (d + 2) 97 (0, [some (.inr (.inr (some 2))), some (.inl 2)], [], (zs h hl)) _
  refine zH_go 1 (c' := (1, [some (.inr (.inr (some 2))), some (.inl 2)], [.inl 2], (zs h hl))) rfl ?_
  refine zH_sw rfl ⟨by decide, by decide⟩ (tgt := 56) rfl ?_
  show zH _ _ (56, [some (.inr (.inr (some 2))), some (.inl 2)], [], (zs h hl)) _
  refine zH_go 3 (c' := (63, [some (.inr (.inr (some 2))), some (.inl 2)], [.inl (h 21 3)], (zs h hl))) rfl ?_
  refine zH_ret (v := some (.inl (h 21 3))) rfl (fun q => absurd q (by decide)) ?_
  exact ⟨_, Or.inr (Or.inr (Or.inl ⟨rfl, rfl⟩)), rfl, rfl⟩
set_option maxRecDepth 100000 in
set_option maxHeartbeats 4000000 in
theorem p_ab3 {d : Nat} {h hl : Nat → Nat → Int} {p r : Nat} (hW : zTown h p r) : zQ (d + 3) 97 [.inr (.inr (some 2)), .inl 3] (zs h hl) (fun r' σ' => ∃ x : Int, zAbt h 3 x ∧ r' = some (.inl x) ∧ σ' = zs h hl) := by
  have hWc := hW
  obtain ⟨hp6, hr15, h30, h31, hp3, hr4, hMe, hTB, hCn, hPo, hRd, hLk, hGr⟩ := hWc
  have hP : 0 ≤ h 3 0 ∧ h 3 0 ≤ 6 := by omega
  refine zQ_of (Nat.le_of_ble_eq_true rfl) ?_
  show zH (d + 2) 97 (0, [some (.inr (.inr (some 2))), some (.inl 3)], [], (zs h hl)) _
  refine zH_go 1 (c' := (1, [some (.inr (.inr (some 2))), some (.inl 3)], [.inl 3], (zs h hl))) rfl ?_
  refine zH_sw rfl ⟨by decide, by decide⟩ (tgt := 64) rfl ?_
  show zH _ _ (64, [some (.inr (.inr (some 2))), some (.inl 3)], [], (zs h hl)) _
  refine zH_go 3 (c' := (71, [some (.inr (.inr (some 2))), some (.inl 3)], [.inl (h 21 4)], (zs h hl))) rfl ?_
  refine zH_ret (v := some (.inl (h 21 4))) rfl (fun q => absurd q (by decide)) ?_
  exact ⟨_, Or.inr (Or.inr (Or.inr (Or.inl ⟨rfl, rfl⟩))), rfl, rfl⟩
set_option maxRecDepth 100000 in
set_option maxHeartbeats 4000000 in
theorem p_ab4 {d : Nat} {h hl : Nat → Nat → Int} {p r : Nat} (hW : zTown h p r) : zQ (d + 3) 97 [.inr (.inr (some 2)), .inl 4] (zs h hl) (fun r' σ' => ∃ x : Int, zAbt h 4 x ∧ r' = some (.inl x) ∧ σ' = zs h hl) := by
  have hWc := hW
  obtain ⟨hp6, hr15, h30, h31, hp3, hr4, hMe, hTB, hCn, hPo, hRd, hLk, hGr⟩ := hWc
  have hP : 0 ≤ h 3 0 ∧ h 3 0 ≤ 6 := by omega
  refine zQ_of (Nat.le_of_ble_eq_true rfl) ?_
  show zH (d + 2) 97 (0, [some (.inr (.inr (some 2))), some (.inl 4)], [], (zs h hl)) _
  refine zH_go 1 (c' := (1, [some (.inr (.inr (some 2))), some (.inl 4)], [.inl 4], (zs h hl))) rfl ?_
  refine zH_sw rfl ⟨by decide, by decide⟩ (tgt := 72) rfl ?_
  show zH _ _ (72, [some (.inr (.inr (some 2))), some (.inl 4)], [], (zs h hl)) _
  refine zH_go 2 (c' := (76, [some (.inr (.inr (some 2))), some (.inl 4)], [.inl (h 2 7)], (zs h hl))) rfl ?_
  refine zH_ret (v := some (.inl (h 2 7))) rfl (fun q => absurd q (by decide)) ?_
  exact ⟨_, Or.inr (Or.inr (Or.inr (Or.inr (Or.inl ⟨rfl, rfl⟩)))), rfl, rfl⟩
set_option maxRecDepth 100000 in
set_option maxHeartbeats 4000000 in
theorem p_ab5 {d : Nat} {h hl : Nat → Nat → Int} {p r : Nat} (hW : zTown h p r) : zQ (d + 3) 97 [.inr (.inr (some 2)), .inl 5] (zs h hl) (fun r' σ' => ∃ x : Int, zAbt h 5 x ∧ r' = some (.inl x) ∧ σ' = zs h hl) := by
  have hWc := hW
  obtain ⟨hp6, hr15, h30, h31, hp3, hr4, hMe, hTB, hCn, hPo, hRd, hLk, hGr⟩ := hWc
  have hP : 0 ≤ h 3 0 ∧ h 3 0 ≤ 6 := by omega
  refine zQ_of (Nat.le_of_ble_eq_true rfl) ?_
  show zH (d + 2) 97 (0, [some (.inr (.inr (some 2))), some (.inl 5)], [], (zs h hl)) _
  refine zH_go 1 (c' := (1, [some (.inr (.inr (some 2))), some (.inl 5)], [.inl 5], (zs h hl))) rfl ?_
  refine zH_sw rfl ⟨by decide, by decide⟩ (tgt := 77) rfl ?_
  show zH _ _ (77, [some (.inr (.inr (some 2))), some (.inl 5)], [], (zs h hl)) _
  refine zH_go 2 (c' := (81, [some (.inr (.inr (some 2))), some (.inl 5)], [.inr (.inr (some 3))], (zs h hl))) rfl ?_
  refine zH_call (M' := 54) (as := [.inr (.inr (some 3))]) (T := []) rfl (p_isTorn hP hTB) (fun r σ' p_1 => ?_)
  rcases p_1 with ⟨rfl, b_2, rfl⟩ | ⟨rfl, b_2, rfl⟩
  · show zH _ _ (84, [some (.inr (.inr (some 2))), some (.inl 5)], [.inl 1], (zs h hl)) _
    refine zH_bf (x := 1) (y := 0) (k := .eq) (c1 := (91, [some (.inr (.inr (some 2))), some (.inl 5)], [], (zs h hl))) (c2 := (87, [some (.inr (.inr (some 2))), some (.inl 5)], [], (zs h hl))) rfl ⟨by decide, by decide⟩ ⟨by decide, by decide⟩ (by show ¬ (1 = 0); decide) ?_
    refine zH_go 2 (c' := (92, [some (.inr (.inr (some 2))), some (.inl 5)], [.inl 1], (zs h hl))) rfl ?_
    refine zH_ret (v := some (.inl 1)) rfl (fun q => absurd q (by decide)) ?_
    exact ⟨_, Or.inr (Or.inr (Or.inr (Or.inr (Or.inr (Or.inl ⟨rfl, Or.inl ⟨by assumption, rfl⟩⟩))))), rfl, rfl⟩
  · show zH _ _ (84, [some (.inr (.inr (some 2))), some (.inl 5)], [.inl 0], (zs h hl)) _
    refine zH_bt (x := 0) (y := 0) (k := .eq) (c1 := (91, [some (.inr (.inr (some 2))), some (.inl 5)], [], (zs h hl))) (c2 := (87, [some (.inr (.inr (some 2))), some (.inl 5)], [], (zs h hl))) rfl ⟨by decide, by decide⟩ ⟨by decide, by decide⟩ (by show 0 = 0; decide) ?_
    refine zH_go 1 (c' := (92, [some (.inr (.inr (some 2))), some (.inl 5)], [.inl 0], (zs h hl))) rfl ?_
    refine zH_ret (v := some (.inl 0)) rfl (fun q => absurd q (by decide)) ?_
    exact ⟨_, Or.inr (Or.inr (Or.inr (Or.inr (Or.inr (Or.inl ⟨rfl, Or.inr ⟨by assumption, rfl⟩⟩))))), rfl, rfl⟩
set_option maxRecDepth 100000 in
set_option maxHeartbeats 4000000 in
theorem p_abe {d : Nat} {h hl : Nat → Nat → Int} {w : Int} (hw : zr w) (hsw : w < 0 ∨ 5 < w) : zQ (d + 3) 97 [.inr (.inr (some 2)), .inl w] (zs h hl) (fun r' σ' => ∃ x : Int, zAbt h w x ∧ r' = some (.inl x) ∧ σ' = zs h hl) := by
  refine zQ_of (Nat.le_of_ble_eq_true rfl) ?_
  show zH (d + 2) 97 (0, [some (.inr (.inr (some 2))), some (.inl w)], [], (zs h hl)) _
  refine zH_go 1 (c' := (1, [some (.inr (.inr (some 2))), some (.inl w)], [.inl w], (zs h hl))) rfl ?_
  refine zH_sw rfl (by first | assumption | (unfold zr; omega)) (tgt := 93) (by rw [if_pos hsw]; rfl) ?_
  show zH _ _ (93, [some (.inr (.inr (some 2))), some (.inl w)], [], (zs h hl)) _
  refine zH_go 1 (c' := (94, [some (.inr (.inr (some 2))), some (.inl w)], [.inl (-1)], (zs h hl))) rfl ?_
  refine zH_ret (v := some (.inl (-1))) rfl (fun q => absurd q (by decide)) ?_
  exact ⟨_, Or.inr (Or.inr (Or.inr (Or.inr (Or.inr (Or.inr ⟨hsw, rfl⟩))))), rfl, rfl⟩
theorem p_about {d : Nat} {h hl : Nat → Nat → Int} {w : Int} (hw : zr w) {p r : Nat} (hW : zTown h p r) : zQ (d + 3) 97 [.inr (.inr (some 2)), .inl w] (zs h hl) (fun r' σ' => ∃ x : Int, zAbt h w x ∧ r' = some (.inl x) ∧ σ' = zs h hl) := by
  by_cases q : w < 0 ∨ 5 < w
  · exact p_abe hw q
  · rcases (show w = 0 ∨ w = 1 ∨ w = 2 ∨ w = 3 ∨ w = 4 ∨ w = 5 by omega) with rfl | rfl | rfl | rfl | rfl | rfl
    · exact p_ab0 hW
    · exact p_ab1 hW
    · exact p_ab2 hW
    · exact p_ab3 hW
    · exact p_ab4 hW
    · exact p_ab5 hW
