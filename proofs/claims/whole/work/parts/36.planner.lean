/-! THE PLAN: what is still to pay. -/
set_option maxRecDepth 100000 in
set_option maxHeartbeats 4000000 in
theorem p_rest {d : Nat} {h hl : Nat → Nat → Int} {i s : Nat} (hi : i < 13) (hs : s < 512) (h20 : 0 ≤ h 20 s ∧ h 20 s < 56) : zQ (d + 2) 31 [.inr (.inr (some 66)), .inl (i : Int), .inl (s : Int)] (zs h hl) (zI1 (h (68 + i) (Int.toNat (h 20 s))) (zs h hl)) := by
  refine zQ_of (Nat.le_of_ble_eq_true rfl) ?_
  show zH (d + 1) 31 (0, [some (.inr (.inr (some 66))), some (.inl (i : Int)), some (.inl (s : Int)), none], [], (zs h hl)) _
  refine zH_go 3 (c' := (5, [some (.inr (.inr (some 66))), some (.inl (i : Int)), some (.inl (s : Int)), none], [.inl (s : Int), .inr (.inr (some 18))], (zs h hl))) rfl ?_
  refine zH_call (M' := 44) (as := [.inr (.inr (some 18)), .inl (s : Int)]) (T := []) rfl (p_slot (n := s) (by omega)) (fun r σ' p_1 => ?_)
  obtain ⟨rfl, rfl⟩ := p_1
  show zH _ _ (8, [some (.inr (.inr (some 66))), some (.inl (i : Int)), some (.inl (s : Int)), none], [.inl (h 20 s)], (zs h hl)) _
  refine zH_go 2 (c' := (10, [some (.inr (.inr (some 66))), some (.inl (i : Int)), some (.inl (s : Int)), some (.inl (h 20 s))], [.inl (i : Int)], (zs h hl))) rfl ?_
  refine zH_br (x := (i : Int)) (y := 0) (k := .lt) (c1 := (32, [some (.inr (.inr (some 66))), some (.inl (i : Int)), some (.inl (s : Int)), some (.inl (h 20 s))], [], (zs h hl))) (c2 := (13, [some (.inr (.inr (some 66))), some (.inl (i : Int)), some (.inl (s : Int)), some (.inl (h 20 s))], [], (zs h hl))) rfl (by first | assumption | (unfold zr; omega)) ⟨by decide, by decide⟩ (fun (b_2 : (i : Int) < 0) => ?_) (fun (b_2 : ¬ ((i : Int) < 0)) => ?_)
  · refine zH_go 1 (c' := (34, [some (.inr (.inr (some 66))), some (.inl (i : Int)), some (.inl (s : Int)), some (.inl (h 20 s))], [.inl 1000000], (zs h hl))) rfl ?_
    exfalso
    omega
  · refine zH_go 4 (c' := (19, [some (.inr (.inr (some 66))), some (.inl (i : Int)), some (.inl (s : Int)), some (.inl (h 20 s))], [.inl 13, .inl (i : Int)], (zs h hl))) rfl ?_
    refine zH_br (x := (i : Int)) (y := 13) (k := .ge) (c1 := (32, [some (.inr (.inr (some 66))), some (.inl (i : Int)), some (.inl (s : Int)), some (.inl (h 20 s))], [], (zs h hl))) (c2 := (22, [some (.inr (.inr (some 66))), some (.inl (i : Int)), some (.inl (s : Int)), some (.inl (h 20 s))], [], (zs h hl))) rfl (by first | assumption | (unfold zr; omega)) ⟨by decide, by decide⟩ (fun (b_3 : ¬ (i : Int) < 13) => ?_) (fun (b_3 : ¬ (¬ (i : Int) < 13)) => ?_)
    · refine zH_go 1 (c' := (34, [some (.inr (.inr (some 66))), some (.inl (i : Int)), some (.inl (s : Int)), some (.inl (h 20 s))], [.inl 1000000], (zs h hl))) rfl ?_
      exfalso
      omega
    · refine zH_go 1 (c' := (23, [some (.inr (.inr (some 66))), some (.inl (i : Int)), some (.inl (s : Int)), some (.inl (h 20 s))], [.inl (h 20 s)], (zs h hl))) rfl ?_
      refine zH_br (x := (h 20 s)) (y := 0) (k := .lt) (c1 := (32, [some (.inr (.inr (some 66))), some (.inl (i : Int)), some (.inl (s : Int)), some (.inl (h 20 s))], [], (zs h hl))) (c2 := (26, [some (.inr (.inr (some 66))), some (.inl (i : Int)), some (.inl (s : Int)), some (.inl (h 20 s))], [], (zs h hl))) rfl (by first | assumption | (unfold zr; omega)) ⟨by decide, by decide⟩ (fun (b_4 : (h 20 s) < 0) => ?_) (fun (b_4 : ¬ ((h 20 s) < 0)) => ?_)
      · refine zH_go 1 (c' := (34, [some (.inr (.inr (some 66))), some (.inl (i : Int)), some (.inl (s : Int)), some (.inl (h 20 s))], [.inl 1000000], (zs h hl))) rfl ?_
        exfalso
        omega
      · refine zH_go 2 (c' := (29, [some (.inr (.inr (some 66))), some (.inl (i : Int)), some (.inl (s : Int)), some (.inl (h 20 s))], [.inl 56, .inl (h 20 s)], (zs h hl))) rfl ?_
        refine zH_br (x := (h 20 s)) (y := 56) (k := .lt) (c1 := (35, [some (.inr (.inr (some 66))), some (.inl (i : Int)), some (.inl (s : Int)), some (.inl (h 20 s))], [], (zs h hl))) (c2 := (32, [some (.inr (.inr (some 66))), some (.inl (i : Int)), some (.inl (s : Int)), some (.inl (h 20 s))], [], (zs h hl))) rfl (by first | assumption | (unfold zr; omega)) ⟨by decide, by decide⟩ (fun (b_5 : (h 20 s) < 56) => ?_) (fun (b_5 : ¬ ((h 20 s) < 56)) => ?_)
        · refine zH_go 3 (c' := (40, [some (.inr (.inr (some 66))), some (.inl (i : Int)), some (.inl (s : Int)), some (.inl (h 20 s))], [.inl (i : Int), .inr (.inr (some 67))], (zs h hl))) rfl ?_
          refine zH_aal (A := 67) (n := 13) (b := 68 + i) rfl rfl (by omega) (by omega) (zhr_67 (by omega)) ?_
          show zH _ _ (41, [some (.inr (.inr (some 66))), some (.inl (i : Int)), some (.inl (s : Int)), some (.inl (h 20 s))], [.inr (.inr (some (68 + i)))], (zs h hl)) _
          refine zH_go 1 (c' := (42, [some (.inr (.inr (some 66))), some (.inl (i : Int)), some (.inl (s : Int)), some (.inl (h 20 s))], [.inl (h 20 s), .inr (.inr (some (68 + i)))], (zs h hl))) rfl ?_
          refine zH_ial rfl (n := 56) (zsh_67 (by omega)) (by omega) (by omega) ?_
          show zH _ _ (43, [some (.inr (.inr (some 66))), some (.inl (i : Int)), some (.inl (s : Int)), some (.inl (h 20 s))], [.inl (h (68 + i) (Int.toNat (h 20 s)))], (zs h hl)) _
          refine zH_ret (v := some (.inl (h (68 + i) (Int.toNat (h 20 s))))) rfl (fun q => absurd q (by decide)) ?_
          exact ⟨rfl, rfl⟩
        · refine zH_go 1 (c' := (34, [some (.inr (.inr (some 66))), some (.inl (i : Int)), some (.inl (s : Int)), some (.inl (h 20 s))], [.inl 1000000], (zs h hl))) rfl ?_
          exfalso
          omega
/-- what CALL i costs by this LADDER, with all behind it -/
def zSd (h : Nat → Nat → Int) (i s l pq : Nat) : Int := h (12 + zdg s l) pq + h (68 + (i + 1)) (Int.toNat (h 20 (zwd s l pq)))
def zPh (h : Nat → Nat → Int) (p L i pq : Nat) : Prop := zSI h p L ∧ zTB h ∧ h 42 i = (pq : Int) ∧ pq < p ∧ (i : Int) < h 21 4 ∧ h 21 4 ≤ 12
set_option maxRecDepth 100000 in
set_option maxHeartbeats 4000000 in
theorem p_sending {d : Nat} {h hl : Nat → Nat → Int} {p L i s l pq : Nat} (hP : zPh h p L i pq) (hs : zSb p L s = true) (hl1 : l < L) : zQ (d + 3) 30 [.inr (.inr (some 66)), .inr (.inr (some 21)), .inl (i : Int), .inl (s : Int), .inl (l : Int)] (zs h hl) (zI1 (zSd h i s l pq) (zs h hl)) := by
  have hS := hP.1
  have hp6 := hS.2.1
  have hc12 := hP.2.2.2.2.2
  have hlt := hP.2.2.2.2.1
  have hpq := hP.2.2.2.1
  have hs5 := zSb_lt hS.1.2 hs
  have hdl := zSb_dg hs hl1
  have hw := zSb_wd hp6 hS.1.2 hs hl1 hpq
  have hwl := zSb_lt hS.1.2 hw
  have hsl := hS.2.2.2.2.1 _ hwl hw
  have hs2 := hS.2.2.2.1
  have hl3 := hS.1
  refine zQ_of (Nat.le_of_ble_eq_true rfl) ?_
  show zH (d + 2) 30 (0, [some (.inr (.inr (some 66))), some (.inr (.inr (some 21))), some (.inl (i : Int)), some (.inl (s : Int)), some (.inl (l : Int)), none], [], (zs h hl)) _
  refine zH_go 2 (c' := (2, [some (.inr (.inr (some 66))), some (.inr (.inr (some 21))), some (.inl (i : Int)), some (.inl (s : Int)), some (.inl (l : Int)), none], [.inl (i : Int), .inr (.inr (some 21))], (zs h hl))) rfl ?_
  refine zH_call (M' := 23) (as := [.inr (.inr (some 21)), .inl (i : Int)]) (T := []) rfl (p_placeOfD (i := i) (by omega) hP.2.2.2.2.1 (by omega)) (fun r σ' p_1 => ?_)
  obtain ⟨rfl, rfl⟩ := p_1
  rw [hP.2.2.1]
  show zH _ _ (5, [some (.inr (.inr (some 66))), some (.inr (.inr (some 21))), some (.inl (i : Int)), some (.inl (s : Int)), some (.inl (l : Int)), none], [.inl (pq : Int)], (zs h hl)) _
  refine zH_go 5 (c' := (14, [some (.inr (.inr (some 66))), some (.inr (.inr (some 21))), some (.inl (i : Int)), some (.inl (s : Int)), some (.inl (l : Int)), some (.inl (pq : Int))], [.inl (l : Int), .inl (s : Int), .inr (.inr (some 3))], (zs h hl))) rfl ?_
  refine zH_call (M' := 100) (as := [.inl (s : Int), .inl (l : Int)]) (T := [.inr (.inr (some 3))]) rfl (p_digit (n := s) (i := l) (by omega) (by omega)) (fun r σ' p_2 => ?_)
  obtain ⟨rfl, rfl⟩ := p_2
  show zH _ _ (17, [some (.inr (.inr (some 66))), some (.inr (.inr (some 21))), some (.inl (i : Int)), some (.inl (s : Int)), some (.inl (l : Int)), some (.inl (pq : Int))], [.inl ((zdg s l : Nat) : Int), .inr (.inr (some 3))], (zs h hl)) _
  refine zH_go 1 (c' := (19, [some (.inr (.inr (some 66))), some (.inr (.inr (some 21))), some (.inl (i : Int)), some (.inl (s : Int)), some (.inl (l : Int)), some (.inl (pq : Int))], [.inl (pq : Int), .inl ((zdg s l : Nat) : Int), .inr (.inr (some 3))], (zs h hl))) rfl ?_
  refine zH_call (M' := 52) (as := [.inr (.inr (some 3)), .inl ((zdg s l : Nat) : Int), .inl (pq : Int)]) (T := []) rfl (p_gap (a := zdg s l) (b := pq) (by omega) (by omega)) (fun r σ' p_3 => ?_)
  obtain ⟨rfl, rfl⟩ := p_3
  show zH _ _ (22, [some (.inr (.inr (some 66))), some (.inr (.inr (some 21))), some (.inl (i : Int)), some (.inl (s : Int)), some (.inl (l : Int)), some (.inl (pq : Int))], [.inl (h (12 + zdg s l) pq)], (zs h hl)) _
  refine zH_go 7 (c' := (31, [some (.inr (.inr (some 66))), some (.inr (.inr (some 21))), some (.inl (i : Int)), some (.inl (s : Int)), some (.inl (l : Int)), some (.inl (pq : Int))], [.inl (pq : Int), .inl (l : Int), .inl (s : Int), .inl ((i : Int) + 1), .inr (.inr (some 66)), .inl (h (12 + zdg s l) pq)], (zs h hl))) rfl ?_
  refine zH_call (M' := 101) (as := [.inl (s : Int), .inl (l : Int), .inl (pq : Int)]) (T := [.inl ((i : Int) + 1), .inr (.inr (some 66)), .inl (h (12 + zdg s l) pq)]) rfl (p_withDigit (n := s) (i := l) (v := pq) (by omega) (by omega) (by omega)) (fun r σ' p_4 => ?_)
  obtain ⟨rfl, rfl⟩ := p_4
  show zH _ _ (34, [some (.inr (.inr (some 66))), some (.inr (.inr (some 21))), some (.inl (i : Int)), some (.inl (s : Int)), some (.inl (l : Int)), some (.inl (pq : Int))], [.inl ((zwd s l pq : Nat) : Int), .inl ((i : Int) + 1), .inr (.inr (some 66)), .inl (h (12 + zdg s l) pq)], (zs h hl)) _
  refine zH_call (M' := 31) (as := [.inr (.inr (some 66)), .inl ((i : Int) + 1), .inl ((zwd s l pq : Nat) : Int)]) (T := [.inl (h (12 + zdg s l) pq)]) rfl (p_rest (i := i + 1) (s := zwd s l pq) (by omega) hwl (by omega)) (fun r σ' p_5 => ?_)
  obtain ⟨rfl, rfl⟩ := p_5
  show zH _ _ (37, [some (.inr (.inr (some 66))), some (.inr (.inr (some 21))), some (.inl (i : Int)), some (.inl (s : Int)), some (.inl (l : Int)), some (.inl (pq : Int))], [.inl (h (68 + (i + 1)) (Int.toNat (h 20 (zwd s l pq)))), .inl (h (12 + zdg s l) pq)], (zs h hl)) _
  refine zH_go 1 (c' := (38, [some (.inr (.inr (some 66))), some (.inr (.inr (some 21))), some (.inl (i : Int)), some (.inl (s : Int)), some (.inl (l : Int)), some (.inl (pq : Int))], [.inl ((h (12 + zdg s l) pq) + (h (68 + (i + 1)) (Int.toNat (h 20 (zwd s l pq)))))], (zs h hl))) rfl ?_
  refine zH_ret (v := some (.inl ((h (12 + zdg s l) pq) + (h (68 + (i + 1)) (Int.toNat (h 20 (zwd s l pq))))))) rfl (fun q => absurd q (by decide)) ?_
  exact ⟨rfl, rfl⟩
set_option maxRecDepth 100000 in
set_option maxHeartbeats 4000000 in
theorem p_cheap1 {d : Nat} {h hl : Nat → Nat → Int} {p i s pq : Nat} (hP : zPh h p 1 i pq) (hs : zSb p 1 s = true) (hb : ∀ l : Nat, l < 1 → 0 ≤ zSd h i s l pq ∧ zSd h i s l pq ≤ 1000000) : zQ (d + 4) 29 [.inr (.inr (some 66)), .inr (.inr (some 21)), .inl (i : Int), .inl (s : Int)] (zs h hl) (zI1 (zm3 1 (fun l => zSd h i s l pq)) (zs h hl)) := by
  have hL := hP.1.2.2.1
  have b0 := hb 0 (by decide)
  refine zQ_of (Nat.le_of_ble_eq_true rfl) ?_
  show zH (d + 3) 29 (0, [some (.inr (.inr (some 66))), some (.inr (.inr (some 21))), some (.inl (i : Int)), some (.inl (s : Int)), none, none], [], (zs h hl)) _
  refine zH_go 8 (c' := (16, [some (.inr (.inr (some 66))), some (.inr (.inr (some 21))), some (.inl (i : Int)), some (.inl (s : Int)), some (.inl 1000000), some (.inl 0)], [.inl (h 18 1), .inl 0], (zs h hl))) rfl ?_
  rw [hL]
  refine zH_bf (x := 0) (y := 1) (k := .ge) (c1 := (41, [some (.inr (.inr (some 66))), some (.inr (.inr (some 21))), some (.inl (i : Int)), some (.inl (s : Int)), some (.inl 1000000), some (.inl 0)], [], (zs h hl))) (c2 := (19, [some (.inr (.inr (some 66))), some (.inr (.inr (some 21))), some (.inl (i : Int)), some (.inl (s : Int)), some (.inl 1000000), some (.inl 0)], [], (zs h hl))) rfl ⟨by decide, by decide⟩ ⟨by decide, by decide⟩ (by show ¬ (¬ 0 < 1); decide) ?_
  refine zH_go 6 (c' := (27, [some (.inr (.inr (some 66))), some (.inr (.inr (some 21))), some (.inl (i : Int)), some (.inl (s : Int)), some (.inl 1000000), some (.inl 0)], [.inl 0, .inl (s : Int), .inl (i : Int), .inr (.inr (some 21)), .inr (.inr (some 66)), .inl 1000000], (zs h hl))) rfl ?_
  refine zH_call (M' := 30) (as := [.inr (.inr (some 66)), .inr (.inr (some 21)), .inl (i : Int), .inl (s : Int), .inl 0]) (T := [.inl 1000000]) rfl (p_sending (L := 1) (pq := pq) (l := 0) hP hs (by decide)) (fun r σ' p_1 => ?_)
  obtain ⟨rfl, rfl⟩ := p_1
  show zH _ _ (30, [some (.inr (.inr (some 66))), some (.inr (.inr (some 21))), some (.inl (i : Int)), some (.inl (s : Int)), some (.inl 1000000), some (.inl 0)], [.inl (zSd h i s 0 pq), .inl 1000000], (zs h hl)) _
  refine zH_np (P := zr 1000000 ∧ zr (zSd h i s 0 pq)) (c' := (33, [some (.inr (.inr (some 66))), some (.inr (.inr (some 21))), some (.inl (i : Int)), some (.inl (s : Int)), some (.inl 1000000), some (.inl 0)], [.inl (if (zSd h i s 0 pq) < 1000000 then (zSd h i s 0 pq) else 1000000)], (zs h hl))) rfl ⟨⟨by decide, by decide⟩, (by first | assumption | (unfold zr; omega))⟩ ?_
  obtain ⟨m_2, em_2, fm_2⟩ := zmin_spec 1000000 (zSd h i s 0 pq)
  rw [em_2]
  refine zH_go 7 (c' := (16, [some (.inr (.inr (some 66))), some (.inr (.inr (some 21))), some (.inl (i : Int)), some (.inl (s : Int)), some (.inl m_2), some (.inl 1)], [.inl (h 18 1), .inl 1], (zs h hl))) rfl ?_
  rw [hL]
  refine zH_bt (x := 1) (y := 1) (k := .ge) (c1 := (41, [some (.inr (.inr (some 66))), some (.inr (.inr (some 21))), some (.inl (i : Int)), some (.inl (s : Int)), some (.inl m_2), some (.inl 1)], [], (zs h hl))) (c2 := (19, [some (.inr (.inr (some 66))), some (.inr (.inr (some 21))), some (.inl (i : Int)), some (.inl (s : Int)), some (.inl m_2), some (.inl 1)], [], (zs h hl))) rfl ⟨by decide, by decide⟩ ⟨by decide, by decide⟩ (by show ¬ 1 < 1; decide) ?_
  refine zH_go 1 (c' := (43, [some (.inr (.inr (some 66))), some (.inr (.inr (some 21))), some (.inl (i : Int)), some (.inl (s : Int)), some (.inl m_2), some (.inl 1)], [.inl m_2], (zs h hl))) rfl ?_
  refine zH_ret (v := some (.inl m_2)) rfl (fun q => absurd q (by decide)) ?_
  refine ⟨congrArg (fun z => some (Sum.inl z)) ?_, rfl⟩
  unfold zm3
  rw [if_pos rfl]
  show _ = zSd h i s 0 pq
  omega
set_option maxRecDepth 100000 in
set_option maxHeartbeats 4000000 in
theorem p_first1 {d : Nat} {h hl : Nat → Nat → Int} {p i s pq : Nat} (hP : zPh h p 1 i pq) (hs : zSb p 1 s = true) (hb : ∀ l : Nat, l < 1 → 0 ≤ zSd h i s l pq ∧ zSd h i s l pq ≤ 1000000) (hr : zr (h (68 + i) (Int.toNat (h 20 s)))) (hex : ∃ l : Nat, l < 1 ∧ zSd h i s l pq = h (68 + i) (Int.toNat (h 20 s))) : zQ (d + 4) 33 [.inr (.inr (some 66)), .inr (.inr (some 21)), .inl (i : Int), .inl (s : Int)] (zs h hl) (fun r σ' => ∃ l : Nat, l < 1 ∧ zSd h i s l pq = h (68 + i) (Int.toNat (h 20 s)) ∧ (∀ j : Nat, j < l → ¬ zSd h i s j pq = h (68 + i) (Int.toNat (h 20 s))) ∧ r = some (.inl (l : Int)) ∧ σ' = zs h hl) := by
  have hS := hP.1
  have hL := hS.2.2.1
  have hc12 := hP.2.2.2.2.2
  have hlt := hP.2.2.2.2.1
  have hs5 := zSb_lt hS.1.2 hs
  have hsl := hS.2.2.2.2.1 _ hs5 hs
  have hs2 := hS.2.2.2.1
  have hr0 := hr
  have b0 := hb 0 (by decide)
  refine zQ_of (Nat.le_of_ble_eq_true rfl) ?_
  show zH (d + 3) 33 (0, [some (.inr (.inr (some 66))), some (.inr (.inr (some 21))), some (.inl (i : Int)), some (.inl (s : Int)), none, none], [], (zs h hl)) _
  refine zH_go 3 (c' := (3, [some (.inr (.inr (some 66))), some (.inr (.inr (some 21))), some (.inl (i : Int)), some (.inl (s : Int)), none, none], [.inl (s : Int), .inl (i : Int), .inr (.inr (some 66))], (zs h hl))) rfl ?_
  refine zH_call (M' := 31) (as := [.inr (.inr (some 66)), .inl (i : Int), .inl (s : Int)]) (T := []) rfl (p_rest (i := i) (s := s) (by omega) hs5 (by omega)) (fun r σ' p_1 => ?_)
  obtain ⟨rfl, rfl⟩ := p_1
  show zH _ _ (6, [some (.inr (.inr (some 66))), some (.inr (.inr (some 21))), some (.inl (i : Int)), some (.inl (s : Int)), none, none], [.inl (h (68 + i) (Int.toNat (h 20 s)))], (zs h hl)) _
  refine zH_go 7 (c' := (20, [some (.inr (.inr (some 66))), some (.inr (.inr (some 21))), some (.inl (i : Int)), some (.inl (s : Int)), some (.inl (h (68 + i) (Int.toNat (h 20 s)))), some (.inl 0)], [.inl (h 18 1), .inl 0], (zs h hl))) rfl ?_
  rw [hL]
  refine zH_bf (x := 0) (y := 1) (k := .ge) (c1 := (46, [some (.inr (.inr (some 66))), some (.inr (.inr (some 21))), some (.inl (i : Int)), some (.inl (s : Int)), some (.inl (h (68 + i) (Int.toNat (h 20 s)))), some (.inl 0)], [], (zs h hl))) (c2 := (23, [some (.inr (.inr (some 66))), some (.inr (.inr (some 21))), some (.inl (i : Int)), some (.inl (s : Int)), some (.inl (h (68 + i) (Int.toNat (h 20 s)))), some (.inl 0)], [], (zs h hl))) rfl ⟨by decide, by decide⟩ ⟨by decide, by decide⟩ (by show ¬ (¬ 0 < 1); decide) ?_
  refine zH_go 5 (c' := (29, [some (.inr (.inr (some 66))), some (.inr (.inr (some 21))), some (.inl (i : Int)), some (.inl (s : Int)), some (.inl (h (68 + i) (Int.toNat (h 20 s)))), some (.inl 0)], [.inl 0, .inl (s : Int), .inl (i : Int), .inr (.inr (some 21)), .inr (.inr (some 66))], (zs h hl))) rfl ?_
  refine zH_call (M' := 30) (as := [.inr (.inr (some 66)), .inr (.inr (some 21)), .inl (i : Int), .inl (s : Int), .inl 0]) (T := []) rfl (p_sending (L := 1) (pq := pq) (l := 0) hP hs (by decide)) (fun r σ' p_2 => ?_)
  obtain ⟨rfl, rfl⟩ := p_2
  show zH _ _ (32, [some (.inr (.inr (some 66))), some (.inr (.inr (some 21))), some (.inl (i : Int)), some (.inl (s : Int)), some (.inl (h (68 + i) (Int.toNat (h 20 s)))), some (.inl 0)], [.inl (zSd h i s 0 pq)], (zs h hl)) _
  refine zH_go 1 (c' := (34, [some (.inr (.inr (some 66))), some (.inr (.inr (some 21))), some (.inl (i : Int)), some (.inl (s : Int)), some (.inl (h (68 + i) (Int.toNat (h 20 s)))), some (.inl 0)], [.inl (h (68 + i) (Int.toNat (h 20 s))), .inl (zSd h i s 0 pq)], (zs h hl))) rfl ?_
  refine zH_br (x := (zSd h i s 0 pq)) (y := (h (68 + i) (Int.toNat (h 20 s)))) (k := .ne) (c1 := (40, [some (.inr (.inr (some 66))), some (.inr (.inr (some 21))), some (.inl (i : Int)), some (.inl (s : Int)), some (.inl (h (68 + i) (Int.toNat (h 20 s)))), some (.inl 0)], [], (zs h hl))) (c2 := (37, [some (.inr (.inr (some 66))), some (.inr (.inr (some 21))), some (.inl (i : Int)), some (.inl (s : Int)), some (.inl (h (68 + i) (Int.toNat (h 20 s)))), some (.inl 0)], [], (zs h hl))) rfl (by first | assumption | (unfold zr; omega)) (by first | assumption | (unfold zr; omega)) (fun (b_3 : ¬ (zSd h i s 0 pq) = (h (68 + i) (Int.toNat (h 20 s)))) => ?_) (fun (b_3 : ¬ (¬ (zSd h i s 0 pq) = (h (68 + i) (Int.toNat (h 20 s))))) => ?_)
  · refine zH_go 6 (c' := (20, [some (.inr (.inr (some 66))), some (.inr (.inr (some 21))), some (.inl (i : Int)), some (.inl (s : Int)), some (.inl (h (68 + i) (Int.toNat (h 20 s)))), some (.inl 1)], [.inl (h 18 1), .inl 1], (zs h hl))) rfl ?_
    rw [hL]
    refine zH_bt (x := 1) (y := 1) (k := .ge) (c1 := (46, [some (.inr (.inr (some 66))), some (.inr (.inr (some 21))), some (.inl (i : Int)), some (.inl (s : Int)), some (.inl (h (68 + i) (Int.toNat (h 20 s)))), some (.inl 1)], [], (zs h hl))) (c2 := (23, [some (.inr (.inr (some 66))), some (.inr (.inr (some 21))), some (.inl (i : Int)), some (.inl (s : Int)), some (.inl (h (68 + i) (Int.toNat (h 20 s)))), some (.inl 1)], [], (zs h hl))) rfl ⟨by decide, by decide⟩ ⟨by decide, by decide⟩ (by show ¬ 1 < 1; decide) ?_
    refine zH_go 1 (c' := (47, [some (.inr (.inr (some 66))), some (.inr (.inr (some 21))), some (.inl (i : Int)), some (.inl (s : Int)), some (.inl (h (68 + i) (Int.toNat (h 20 s)))), some (.inl 1)], [.inl 0], (zs h hl))) rfl ?_
    exfalso
    rcases hex with ⟨l, q1, q2⟩
    rcases (show l = 0 by omega) with rfl <;> omega
  · refine zH_go 1 (c' := (39, [some (.inr (.inr (some 66))), some (.inr (.inr (some 21))), some (.inl (i : Int)), some (.inl (s : Int)), some (.inl (h (68 + i) (Int.toNat (h 20 s)))), some (.inl 0)], [.inl 0], (zs h hl))) rfl ?_
    refine zH_ret (v := some (.inl 0)) rfl (fun q => absurd q (by decide)) ?_
    exact ⟨0, by decide, by omega, fun j hj => absurd hj (Nat.not_lt_zero j), rfl, rfl⟩
set_option maxRecDepth 100000 in
set_option maxHeartbeats 4000000 in
theorem p_cheap2 {d : Nat} {h hl : Nat → Nat → Int} {p i s pq : Nat} (hP : zPh h p 2 i pq) (hs : zSb p 2 s = true) (hb : ∀ l : Nat, l < 2 → 0 ≤ zSd h i s l pq ∧ zSd h i s l pq ≤ 1000000) : zQ (d + 4) 29 [.inr (.inr (some 66)), .inr (.inr (some 21)), .inl (i : Int), .inl (s : Int)] (zs h hl) (zI1 (zm3 2 (fun l => zSd h i s l pq)) (zs h hl)) := by
  have hL := hP.1.2.2.1
  have b0 := hb 0 (by decide)
  have b1 := hb 1 (by decide)
  refine zQ_of (Nat.le_of_ble_eq_true rfl) ?_
  show zH (d + 3) 29 (0, [some (.inr (.inr (some 66))), some (.inr (.inr (some 21))), some (.inl (i : Int)), some (.inl (s : Int)), none, none], [], (zs h hl)) _
  refine zH_go 8 (c' := (16, [some (.inr (.inr (some 66))), some (.inr (.inr (some 21))), some (.inl (i : Int)), some (.inl (s : Int)), some (.inl 1000000), some (.inl 0)], [.inl (h 18 1), .inl 0], (zs h hl))) rfl ?_
  rw [hL]
  refine zH_bf (x := 0) (y := 2) (k := .ge) (c1 := (41, [some (.inr (.inr (some 66))), some (.inr (.inr (some 21))), some (.inl (i : Int)), some (.inl (s : Int)), some (.inl 1000000), some (.inl 0)], [], (zs h hl))) (c2 := (19, [some (.inr (.inr (some 66))), some (.inr (.inr (some 21))), some (.inl (i : Int)), some (.inl (s : Int)), some (.inl 1000000), some (.inl 0)], [], (zs h hl))) rfl ⟨by decide, by decide⟩ ⟨by decide, by decide⟩ (by show ¬ (¬ 0 < 2); decide) ?_
  refine zH_go 6 (c' := (27, [some (.inr (.inr (some 66))), some (.inr (.inr (some 21))), some (.inl (i : Int)), some (.inl (s : Int)), some (.inl 1000000), some (.inl 0)], [.inl 0, .inl (s : Int), .inl (i : Int), .inr (.inr (some 21)), .inr (.inr (some 66)), .inl 1000000], (zs h hl))) rfl ?_
  refine zH_call (M' := 30) (as := [.inr (.inr (some 66)), .inr (.inr (some 21)), .inl (i : Int), .inl (s : Int), .inl 0]) (T := [.inl 1000000]) rfl (p_sending (L := 2) (pq := pq) (l := 0) hP hs (by decide)) (fun r σ' p_1 => ?_)
  obtain ⟨rfl, rfl⟩ := p_1
  show zH _ _ (30, [some (.inr (.inr (some 66))), some (.inr (.inr (some 21))), some (.inl (i : Int)), some (.inl (s : Int)), some (.inl 1000000), some (.inl 0)], [.inl (zSd h i s 0 pq), .inl 1000000], (zs h hl)) _
  refine zH_np (P := zr 1000000 ∧ zr (zSd h i s 0 pq)) (c' := (33, [some (.inr (.inr (some 66))), some (.inr (.inr (some 21))), some (.inl (i : Int)), some (.inl (s : Int)), some (.inl 1000000), some (.inl 0)], [.inl (if (zSd h i s 0 pq) < 1000000 then (zSd h i s 0 pq) else 1000000)], (zs h hl))) rfl ⟨⟨by decide, by decide⟩, (by first | assumption | (unfold zr; omega))⟩ ?_
  obtain ⟨m_2, em_2, fm_2⟩ := zmin_spec 1000000 (zSd h i s 0 pq)
  rw [em_2]
  refine zH_go 7 (c' := (16, [some (.inr (.inr (some 66))), some (.inr (.inr (some 21))), some (.inl (i : Int)), some (.inl (s : Int)), some (.inl m_2), some (.inl 1)], [.inl (h 18 1), .inl 1], (zs h hl))) rfl ?_
  rw [hL]
  refine zH_bf (x := 1) (y := 2) (k := .ge) (c1 := (41, [some (.inr (.inr (some 66))), some (.inr (.inr (some 21))), some (.inl (i : Int)), some (.inl (s : Int)), some (.inl m_2), some (.inl 1)], [], (zs h hl))) (c2 := (19, [some (.inr (.inr (some 66))), some (.inr (.inr (some 21))), some (.inl (i : Int)), some (.inl (s : Int)), some (.inl m_2), some (.inl 1)], [], (zs h hl))) rfl ⟨by decide, by decide⟩ ⟨by decide, by decide⟩ (by show ¬ (¬ 1 < 2); decide) ?_
  refine zH_go 6 (c' := (27, [some (.inr (.inr (some 66))), some (.inr (.inr (some 21))), some (.inl (i : Int)), some (.inl (s : Int)), some (.inl m_2), some (.inl 1)], [.inl 1, .inl (s : Int), .inl (i : Int), .inr (.inr (some 21)), .inr (.inr (some 66)), .inl m_2], (zs h hl))) rfl ?_
  refine zH_call (M' := 30) (as := [.inr (.inr (some 66)), .inr (.inr (some 21)), .inl (i : Int), .inl (s : Int), .inl 1]) (T := [.inl m_2]) rfl (p_sending (L := 2) (pq := pq) (l := 1) hP hs (by decide)) (fun r σ' p_3 => ?_)
  obtain ⟨rfl, rfl⟩ := p_3
  show zH _ _ (30, [some (.inr (.inr (some 66))), some (.inr (.inr (some 21))), some (.inl (i : Int)), some (.inl (s : Int)), some (.inl m_2), some (.inl 1)], [.inl (zSd h i s 1 pq), .inl m_2], (zs h hl)) _
  refine zH_np (P := zr m_2 ∧ zr (zSd h i s 1 pq)) (c' := (33, [some (.inr (.inr (some 66))), some (.inr (.inr (some 21))), some (.inl (i : Int)), some (.inl (s : Int)), some (.inl m_2), some (.inl 1)], [.inl (if (zSd h i s 1 pq) < m_2 then (zSd h i s 1 pq) else m_2)], (zs h hl))) rfl ⟨(by first | assumption | (unfold zr; omega)), (by first | assumption | (unfold zr; omega))⟩ ?_
  obtain ⟨m_4, em_4, fm_4⟩ := zmin_spec m_2 (zSd h i s 1 pq)
  rw [em_4]
  refine zH_go 7 (c' := (16, [some (.inr (.inr (some 66))), some (.inr (.inr (some 21))), some (.inl (i : Int)), some (.inl (s : Int)), some (.inl m_4), some (.inl 2)], [.inl (h 18 1), .inl 2], (zs h hl))) rfl ?_
  rw [hL]
  refine zH_bt (x := 2) (y := 2) (k := .ge) (c1 := (41, [some (.inr (.inr (some 66))), some (.inr (.inr (some 21))), some (.inl (i : Int)), some (.inl (s : Int)), some (.inl m_4), some (.inl 2)], [], (zs h hl))) (c2 := (19, [some (.inr (.inr (some 66))), some (.inr (.inr (some 21))), some (.inl (i : Int)), some (.inl (s : Int)), some (.inl m_4), some (.inl 2)], [], (zs h hl))) rfl ⟨by decide, by decide⟩ ⟨by decide, by decide⟩ (by show ¬ 2 < 2; decide) ?_
  refine zH_go 1 (c' := (43, [some (.inr (.inr (some 66))), some (.inr (.inr (some 21))), some (.inl (i : Int)), some (.inl (s : Int)), some (.inl m_4), some (.inl 2)], [.inl m_4], (zs h hl))) rfl ?_
  refine zH_ret (v := some (.inl m_4)) rfl (fun q => absurd q (by decide)) ?_
  refine ⟨congrArg (fun z => some (Sum.inl z)) ?_, rfl⟩
  unfold zm3
  rw [if_neg (by decide), if_pos rfl]
  dsimp only
  omega
set_option maxRecDepth 100000 in
set_option maxHeartbeats 4000000 in
theorem p_first2 {d : Nat} {h hl : Nat → Nat → Int} {p i s pq : Nat} (hP : zPh h p 2 i pq) (hs : zSb p 2 s = true) (hb : ∀ l : Nat, l < 2 → 0 ≤ zSd h i s l pq ∧ zSd h i s l pq ≤ 1000000) (hr : zr (h (68 + i) (Int.toNat (h 20 s)))) (hex : ∃ l : Nat, l < 2 ∧ zSd h i s l pq = h (68 + i) (Int.toNat (h 20 s))) : zQ (d + 4) 33 [.inr (.inr (some 66)), .inr (.inr (some 21)), .inl (i : Int), .inl (s : Int)] (zs h hl) (fun r σ' => ∃ l : Nat, l < 2 ∧ zSd h i s l pq = h (68 + i) (Int.toNat (h 20 s)) ∧ (∀ j : Nat, j < l → ¬ zSd h i s j pq = h (68 + i) (Int.toNat (h 20 s))) ∧ r = some (.inl (l : Int)) ∧ σ' = zs h hl) := by
  have hS := hP.1
  have hL := hS.2.2.1
  have hc12 := hP.2.2.2.2.2
  have hlt := hP.2.2.2.2.1
  have hs5 := zSb_lt hS.1.2 hs
  have hsl := hS.2.2.2.2.1 _ hs5 hs
  have hs2 := hS.2.2.2.1
  have hr0 := hr
  have b0 := hb 0 (by decide)
  have b1 := hb 1 (by decide)
  refine zQ_of (Nat.le_of_ble_eq_true rfl) ?_
  show zH (d + 3) 33 (0, [some (.inr (.inr (some 66))), some (.inr (.inr (some 21))), some (.inl (i : Int)), some (.inl (s : Int)), none, none], [], (zs h hl)) _
  refine zH_go 3 (c' := (3, [some (.inr (.inr (some 66))), some (.inr (.inr (some 21))), some (.inl (i : Int)), some (.inl (s : Int)), none, none], [.inl (s : Int), .inl (i : Int), .inr (.inr (some 66))], (zs h hl))) rfl ?_
  refine zH_call (M' := 31) (as := [.inr (.inr (some 66)), .inl (i : Int), .inl (s : Int)]) (T := []) rfl (p_rest (i := i) (s := s) (by omega) hs5 (by omega)) (fun r σ' p_1 => ?_)
  obtain ⟨rfl, rfl⟩ := p_1
  show zH _ _ (6, [some (.inr (.inr (some 66))), some (.inr (.inr (some 21))), some (.inl (i : Int)), some (.inl (s : Int)), none, none], [.inl (h (68 + i) (Int.toNat (h 20 s)))], (zs h hl)) _
  refine zH_go 7 (c' := (20, [some (.inr (.inr (some 66))), some (.inr (.inr (some 21))), some (.inl (i : Int)), some (.inl (s : Int)), some (.inl (h (68 + i) (Int.toNat (h 20 s)))), some (.inl 0)], [.inl (h 18 1), .inl 0], (zs h hl))) rfl ?_
  rw [hL]
  refine zH_bf (x := 0) (y := 2) (k := .ge) (c1 := (46, [some (.inr (.inr (some 66))), some (.inr (.inr (some 21))), some (.inl (i : Int)), some (.inl (s : Int)), some (.inl (h (68 + i) (Int.toNat (h 20 s)))), some (.inl 0)], [], (zs h hl))) (c2 := (23, [some (.inr (.inr (some 66))), some (.inr (.inr (some 21))), some (.inl (i : Int)), some (.inl (s : Int)), some (.inl (h (68 + i) (Int.toNat (h 20 s)))), some (.inl 0)], [], (zs h hl))) rfl ⟨by decide, by decide⟩ ⟨by decide, by decide⟩ (by show ¬ (¬ 0 < 2); decide) ?_
  refine zH_go 5 (c' := (29, [some (.inr (.inr (some 66))), some (.inr (.inr (some 21))), some (.inl (i : Int)), some (.inl (s : Int)), some (.inl (h (68 + i) (Int.toNat (h 20 s)))), some (.inl 0)], [.inl 0, .inl (s : Int), .inl (i : Int), .inr (.inr (some 21)), .inr (.inr (some 66))], (zs h hl))) rfl ?_
  refine zH_call (M' := 30) (as := [.inr (.inr (some 66)), .inr (.inr (some 21)), .inl (i : Int), .inl (s : Int), .inl 0]) (T := []) rfl (p_sending (L := 2) (pq := pq) (l := 0) hP hs (by decide)) (fun r σ' p_2 => ?_)
  obtain ⟨rfl, rfl⟩ := p_2
  show zH _ _ (32, [some (.inr (.inr (some 66))), some (.inr (.inr (some 21))), some (.inl (i : Int)), some (.inl (s : Int)), some (.inl (h (68 + i) (Int.toNat (h 20 s)))), some (.inl 0)], [.inl (zSd h i s 0 pq)], (zs h hl)) _
  refine zH_go 1 (c' := (34, [some (.inr (.inr (some 66))), some (.inr (.inr (some 21))), some (.inl (i : Int)), some (.inl (s : Int)), some (.inl (h (68 + i) (Int.toNat (h 20 s)))), some (.inl 0)], [.inl (h (68 + i) (Int.toNat (h 20 s))), .inl (zSd h i s 0 pq)], (zs h hl))) rfl ?_
  refine zH_br (x := (zSd h i s 0 pq)) (y := (h (68 + i) (Int.toNat (h 20 s)))) (k := .ne) (c1 := (40, [some (.inr (.inr (some 66))), some (.inr (.inr (some 21))), some (.inl (i : Int)), some (.inl (s : Int)), some (.inl (h (68 + i) (Int.toNat (h 20 s)))), some (.inl 0)], [], (zs h hl))) (c2 := (37, [some (.inr (.inr (some 66))), some (.inr (.inr (some 21))), some (.inl (i : Int)), some (.inl (s : Int)), some (.inl (h (68 + i) (Int.toNat (h 20 s)))), some (.inl 0)], [], (zs h hl))) rfl (by first | assumption | (unfold zr; omega)) (by first | assumption | (unfold zr; omega)) (fun (b_3 : ¬ (zSd h i s 0 pq) = (h (68 + i) (Int.toNat (h 20 s)))) => ?_) (fun (b_3 : ¬ (¬ (zSd h i s 0 pq) = (h (68 + i) (Int.toNat (h 20 s))))) => ?_)
  · refine zH_go 6 (c' := (20, [some (.inr (.inr (some 66))), some (.inr (.inr (some 21))), some (.inl (i : Int)), some (.inl (s : Int)), some (.inl (h (68 + i) (Int.toNat (h 20 s)))), some (.inl 1)], [.inl (h 18 1), .inl 1], (zs h hl))) rfl ?_
    rw [hL]
    refine zH_bf (x := 1) (y := 2) (k := .ge) (c1 := (46, [some (.inr (.inr (some 66))), some (.inr (.inr (some 21))), some (.inl (i : Int)), some (.inl (s : Int)), some (.inl (h (68 + i) (Int.toNat (h 20 s)))), some (.inl 1)], [], (zs h hl))) (c2 := (23, [some (.inr (.inr (some 66))), some (.inr (.inr (some 21))), some (.inl (i : Int)), some (.inl (s : Int)), some (.inl (h (68 + i) (Int.toNat (h 20 s)))), some (.inl 1)], [], (zs h hl))) rfl ⟨by decide, by decide⟩ ⟨by decide, by decide⟩ (by show ¬ (¬ 1 < 2); decide) ?_
    refine zH_go 5 (c' := (29, [some (.inr (.inr (some 66))), some (.inr (.inr (some 21))), some (.inl (i : Int)), some (.inl (s : Int)), some (.inl (h (68 + i) (Int.toNat (h 20 s)))), some (.inl 1)], [.inl 1, .inl (s : Int), .inl (i : Int), .inr (.inr (some 21)), .inr (.inr (some 66))], (zs h hl))) rfl ?_
    refine zH_call (M' := 30) (as := [.inr (.inr (some 66)), .inr (.inr (some 21)), .inl (i : Int), .inl (s : Int), .inl 1]) (T := []) rfl (p_sending (L := 2) (pq := pq) (l := 1) hP hs (by decide)) (fun r σ' p_4 => ?_)
    obtain ⟨rfl, rfl⟩ := p_4
    show zH _ _ (32, [some (.inr (.inr (some 66))), some (.inr (.inr (some 21))), some (.inl (i : Int)), some (.inl (s : Int)), some (.inl (h (68 + i) (Int.toNat (h 20 s)))), some (.inl 1)], [.inl (zSd h i s 1 pq)], (zs h hl)) _
    refine zH_go 1 (c' := (34, [some (.inr (.inr (some 66))), some (.inr (.inr (some 21))), some (.inl (i : Int)), some (.inl (s : Int)), some (.inl (h (68 + i) (Int.toNat (h 20 s)))), some (.inl 1)], [.inl (h (68 + i) (Int.toNat (h 20 s))), .inl (zSd h i s 1 pq)], (zs h hl))) rfl ?_
    refine zH_br (x := (zSd h i s 1 pq)) (y := (h (68 + i) (Int.toNat (h 20 s)))) (k := .ne) (c1 := (40, [some (.inr (.inr (some 66))), some (.inr (.inr (some 21))), some (.inl (i : Int)), some (.inl (s : Int)), some (.inl (h (68 + i) (Int.toNat (h 20 s)))), some (.inl 1)], [], (zs h hl))) (c2 := (37, [some (.inr (.inr (some 66))), some (.inr (.inr (some 21))), some (.inl (i : Int)), some (.inl (s : Int)), some (.inl (h (68 + i) (Int.toNat (h 20 s)))), some (.inl 1)], [], (zs h hl))) rfl (by first | assumption | (unfold zr; omega)) (by first | assumption | (unfold zr; omega)) (fun (b_5 : ¬ (zSd h i s 1 pq) = (h (68 + i) (Int.toNat (h 20 s)))) => ?_) (fun (b_5 : ¬ (¬ (zSd h i s 1 pq) = (h (68 + i) (Int.toNat (h 20 s))))) => ?_)
    · refine zH_go 6 (c' := (20, [some (.inr (.inr (some 66))), some (.inr (.inr (some 21))), some (.inl (i : Int)), some (.inl (s : Int)), some (.inl (h (68 + i) (Int.toNat (h 20 s)))), some (.inl 2)], [.inl (h 18 1), .inl 2], (zs h hl))) rfl ?_
      rw [hL]
      refine zH_bt (x := 2) (y := 2) (k := .ge) (c1 := (46, [some (.inr (.inr (some 66))), some (.inr (.inr (some 21))), some (.inl (i : Int)), some (.inl (s : Int)), some (.inl (h (68 + i) (Int.toNat (h 20 s)))), some (.inl 2)], [], (zs h hl))) (c2 := (23, [some (.inr (.inr (some 66))), some (.inr (.inr (some 21))), some (.inl (i : Int)), some (.inl (s : Int)), some (.inl (h (68 + i) (Int.toNat (h 20 s)))), some (.inl 2)], [], (zs h hl))) rfl ⟨by decide, by decide⟩ ⟨by decide, by decide⟩ (by show ¬ 2 < 2; decide) ?_
      refine zH_go 1 (c' := (47, [some (.inr (.inr (some 66))), some (.inr (.inr (some 21))), some (.inl (i : Int)), some (.inl (s : Int)), some (.inl (h (68 + i) (Int.toNat (h 20 s)))), some (.inl 2)], [.inl 0], (zs h hl))) rfl ?_
      exfalso
      rcases hex with ⟨l, q1, q2⟩
      rcases (show l = 0 ∨ l = 1 by omega) with rfl | rfl <;> omega
    · refine zH_go 1 (c' := (39, [some (.inr (.inr (some 66))), some (.inr (.inr (some 21))), some (.inl (i : Int)), some (.inl (s : Int)), some (.inl (h (68 + i) (Int.toNat (h 20 s)))), some (.inl 1)], [.inl 1], (zs h hl))) rfl ?_
      refine zH_ret (v := some (.inl 1)) rfl (fun q => absurd q (by decide)) ?_
      exact ⟨1, by decide, by omega, fun j hj => by rcases (show j = 0 by omega) with rfl <;> omega, rfl, rfl⟩
  · refine zH_go 1 (c' := (39, [some (.inr (.inr (some 66))), some (.inr (.inr (some 21))), some (.inl (i : Int)), some (.inl (s : Int)), some (.inl (h (68 + i) (Int.toNat (h 20 s)))), some (.inl 0)], [.inl 0], (zs h hl))) rfl ?_
    refine zH_ret (v := some (.inl 0)) rfl (fun q => absurd q (by decide)) ?_
    exact ⟨0, by decide, by omega, fun j hj => absurd hj (Nat.not_lt_zero j), rfl, rfl⟩
set_option maxRecDepth 100000 in
set_option maxHeartbeats 4000000 in
theorem p_cheap3 {d : Nat} {h hl : Nat → Nat → Int} {p i s pq : Nat} (hP : zPh h p 3 i pq) (hs : zSb p 3 s = true) (hb : ∀ l : Nat, l < 3 → 0 ≤ zSd h i s l pq ∧ zSd h i s l pq ≤ 1000000) : zQ (d + 4) 29 [.inr (.inr (some 66)), .inr (.inr (some 21)), .inl (i : Int), .inl (s : Int)] (zs h hl) (zI1 (zm3 3 (fun l => zSd h i s l pq)) (zs h hl)) := by
  have hL := hP.1.2.2.1
  have b0 := hb 0 (by decide)
  have b1 := hb 1 (by decide)
  have b2 := hb 2 (by decide)
  refine zQ_of (Nat.le_of_ble_eq_true rfl) ?_
  show zH (d + 3) 29 (0, [some (.inr (.inr (some 66))), some (.inr (.inr (some 21))), some (.inl (i : Int)), some (.inl (s : Int)), none, none], [], (zs h hl)) _
  refine zH_go 8 (c' := (16, [some (.inr (.inr (some 66))), some (.inr (.inr (some 21))), some (.inl (i : Int)), some (.inl (s : Int)), some (.inl 1000000), some (.inl 0)], [.inl (h 18 1), .inl 0], (zs h hl))) rfl ?_
  rw [hL]
  refine zH_bf (x := 0) (y := 3) (k := .ge) (c1 := (41, [some (.inr (.inr (some 66))), some (.inr (.inr (some 21))), some (.inl (i : Int)), some (.inl (s : Int)), some (.inl 1000000), some (.inl 0)], [], (zs h hl))) (c2 := (19, [some (.inr (.inr (some 66))), some (.inr (.inr (some 21))), some (.inl (i : Int)), some (.inl (s : Int)), some (.inl 1000000), some (.inl 0)], [], (zs h hl))) rfl ⟨by decide, by decide⟩ ⟨by decide, by decide⟩ (by show ¬ (¬ 0 < 3); decide) ?_
  refine zH_go 6 (c' := (27, [some (.inr (.inr (some 66))), some (.inr (.inr (some 21))), some (.inl (i : Int)), some (.inl (s : Int)), some (.inl 1000000), some (.inl 0)], [.inl 0, .inl (s : Int), .inl (i : Int), .inr (.inr (some 21)), .inr (.inr (some 66)), .inl 1000000], (zs h hl))) rfl ?_
  refine zH_call (M' := 30) (as := [.inr (.inr (some 66)), .inr (.inr (some 21)), .inl (i : Int), .inl (s : Int), .inl 0]) (T := [.inl 1000000]) rfl (p_sending (L := 3) (pq := pq) (l := 0) hP hs (by decide)) (fun r σ' p_1 => ?_)
  obtain ⟨rfl, rfl⟩ := p_1
  show zH _ _ (30, [some (.inr (.inr (some 66))), some (.inr (.inr (some 21))), some (.inl (i : Int)), some (.inl (s : Int)), some (.inl 1000000), some (.inl 0)], [.inl (zSd h i s 0 pq), .inl 1000000], (zs h hl)) _
  refine zH_np (P := zr 1000000 ∧ zr (zSd h i s 0 pq)) (c' := (33, [some (.inr (.inr (some 66))), some (.inr (.inr (some 21))), some (.inl (i : Int)), some (.inl (s : Int)), some (.inl 1000000), some (.inl 0)], [.inl (if (zSd h i s 0 pq) < 1000000 then (zSd h i s 0 pq) else 1000000)], (zs h hl))) rfl ⟨⟨by decide, by decide⟩, (by first | assumption | (unfold zr; omega))⟩ ?_
  obtain ⟨m_2, em_2, fm_2⟩ := zmin_spec 1000000 (zSd h i s 0 pq)
  rw [em_2]
  refine zH_go 7 (c' := (16, [some (.inr (.inr (some 66))), some (.inr (.inr (some 21))), some (.inl (i : Int)), some (.inl (s : Int)), some (.inl m_2), some (.inl 1)], [.inl (h 18 1), .inl 1], (zs h hl))) rfl ?_
  rw [hL]
  refine zH_bf (x := 1) (y := 3) (k := .ge) (c1 := (41, [some (.inr (.inr (some 66))), some (.inr (.inr (some 21))), some (.inl (i : Int)), some (.inl (s : Int)), some (.inl m_2), some (.inl 1)], [], (zs h hl))) (c2 := (19, [some (.inr (.inr (some 66))), some (.inr (.inr (some 21))), some (.inl (i : Int)), some (.inl (s : Int)), some (.inl m_2), some (.inl 1)], [], (zs h hl))) rfl ⟨by decide, by decide⟩ ⟨by decide, by decide⟩ (by show ¬ (¬ 1 < 3); decide) ?_
  refine zH_go 6 (c' := (27, [some (.inr (.inr (some 66))), some (.inr (.inr (some 21))), some (.inl (i : Int)), some (.inl (s : Int)), some (.inl m_2), some (.inl 1)], [.inl 1, .inl (s : Int), .inl (i : Int), .inr (.inr (some 21)), .inr (.inr (some 66)), .inl m_2], (zs h hl))) rfl ?_
  refine zH_call (M' := 30) (as := [.inr (.inr (some 66)), .inr (.inr (some 21)), .inl (i : Int), .inl (s : Int), .inl 1]) (T := [.inl m_2]) rfl (p_sending (L := 3) (pq := pq) (l := 1) hP hs (by decide)) (fun r σ' p_3 => ?_)
  obtain ⟨rfl, rfl⟩ := p_3
  show zH _ _ (30, [some (.inr (.inr (some 66))), some (.inr (.inr (some 21))), some (.inl (i : Int)), some (.inl (s : Int)), some (.inl m_2), some (.inl 1)], [.inl (zSd h i s 1 pq), .inl m_2], (zs h hl)) _
  refine zH_np (P := zr m_2 ∧ zr (zSd h i s 1 pq)) (c' := (33, [some (.inr (.inr (some 66))), some (.inr (.inr (some 21))), some (.inl (i : Int)), some (.inl (s : Int)), some (.inl m_2), some (.inl 1)], [.inl (if (zSd h i s 1 pq) < m_2 then (zSd h i s 1 pq) else m_2)], (zs h hl))) rfl ⟨(by first | assumption | (unfold zr; omega)), (by first | assumption | (unfold zr; omega))⟩ ?_
  obtain ⟨m_4, em_4, fm_4⟩ := zmin_spec m_2 (zSd h i s 1 pq)
  rw [em_4]
  refine zH_go 7 (c' := (16, [some (.inr (.inr (some 66))), some (.inr (.inr (some 21))), some (.inl (i : Int)), some (.inl (s : Int)), some (.inl m_4), some (.inl 2)], [.inl (h 18 1), .inl 2], (zs h hl))) rfl ?_
  rw [hL]
  refine zH_bf (x := 2) (y := 3) (k := .ge) (c1 := (41, [some (.inr (.inr (some 66))), some (.inr (.inr (some 21))), some (.inl (i : Int)), some (.inl (s : Int)), some (.inl m_4), some (.inl 2)], [], (zs h hl))) (c2 := (19, [some (.inr (.inr (some 66))), some (.inr (.inr (some 21))), some (.inl (i : Int)), some (.inl (s : Int)), some (.inl m_4), some (.inl 2)], [], (zs h hl))) rfl ⟨by decide, by decide⟩ ⟨by decide, by decide⟩ (by show ¬ (¬ 2 < 3); decide) ?_
  refine zH_go 6 (c' := (27, [some (.inr (.inr (some 66))), some (.inr (.inr (some 21))), some (.inl (i : Int)), some (.inl (s : Int)), some (.inl m_4), some (.inl 2)], [.inl 2, .inl (s : Int), .inl (i : Int), .inr (.inr (some 21)), .inr (.inr (some 66)), .inl m_4], (zs h hl))) rfl ?_
  refine zH_call (M' := 30) (as := [.inr (.inr (some 66)), .inr (.inr (some 21)), .inl (i : Int), .inl (s : Int), .inl 2]) (T := [.inl m_4]) rfl (p_sending (L := 3) (pq := pq) (l := 2) hP hs (by decide)) (fun r σ' p_5 => ?_)
  obtain ⟨rfl, rfl⟩ := p_5
  show zH _ _ (30, [some (.inr (.inr (some 66))), some (.inr (.inr (some 21))), some (.inl (i : Int)), some (.inl (s : Int)), some (.inl m_4), some (.inl 2)], [.inl (zSd h i s 2 pq), .inl m_4], (zs h hl)) _
  refine zH_np (P := zr m_4 ∧ zr (zSd h i s 2 pq)) (c' := (33, [some (.inr (.inr (some 66))), some (.inr (.inr (some 21))), some (.inl (i : Int)), some (.inl (s : Int)), some (.inl m_4), some (.inl 2)], [.inl (if (zSd h i s 2 pq) < m_4 then (zSd h i s 2 pq) else m_4)], (zs h hl))) rfl ⟨(by first | assumption | (unfold zr; omega)), (by first | assumption | (unfold zr; omega))⟩ ?_
  obtain ⟨m_6, em_6, fm_6⟩ := zmin_spec m_4 (zSd h i s 2 pq)
  rw [em_6]
  refine zH_go 7 (c' := (16, [some (.inr (.inr (some 66))), some (.inr (.inr (some 21))), some (.inl (i : Int)), some (.inl (s : Int)), some (.inl m_6), some (.inl 3)], [.inl (h 18 1), .inl 3], (zs h hl))) rfl ?_
  rw [hL]
  refine zH_bt (x := 3) (y := 3) (k := .ge) (c1 := (41, [some (.inr (.inr (some 66))), some (.inr (.inr (some 21))), some (.inl (i : Int)), some (.inl (s : Int)), some (.inl m_6), some (.inl 3)], [], (zs h hl))) (c2 := (19, [some (.inr (.inr (some 66))), some (.inr (.inr (some 21))), some (.inl (i : Int)), some (.inl (s : Int)), some (.inl m_6), some (.inl 3)], [], (zs h hl))) rfl ⟨by decide, by decide⟩ ⟨by decide, by decide⟩ (by show ¬ 3 < 3; decide) ?_
  refine zH_go 1 (c' := (43, [some (.inr (.inr (some 66))), some (.inr (.inr (some 21))), some (.inl (i : Int)), some (.inl (s : Int)), some (.inl m_6), some (.inl 3)], [.inl m_6], (zs h hl))) rfl ?_
  refine zH_ret (v := some (.inl m_6)) rfl (fun q => absurd q (by decide)) ?_
  refine ⟨congrArg (fun z => some (Sum.inl z)) ?_, rfl⟩
  unfold zm3
  rw [if_neg (by decide), if_neg (by decide)]
  dsimp only
  omega
set_option maxRecDepth 100000 in
set_option maxHeartbeats 4000000 in
theorem p_first3 {d : Nat} {h hl : Nat → Nat → Int} {p i s pq : Nat} (hP : zPh h p 3 i pq) (hs : zSb p 3 s = true) (hb : ∀ l : Nat, l < 3 → 0 ≤ zSd h i s l pq ∧ zSd h i s l pq ≤ 1000000) (hr : zr (h (68 + i) (Int.toNat (h 20 s)))) (hex : ∃ l : Nat, l < 3 ∧ zSd h i s l pq = h (68 + i) (Int.toNat (h 20 s))) : zQ (d + 4) 33 [.inr (.inr (some 66)), .inr (.inr (some 21)), .inl (i : Int), .inl (s : Int)] (zs h hl) (fun r σ' => ∃ l : Nat, l < 3 ∧ zSd h i s l pq = h (68 + i) (Int.toNat (h 20 s)) ∧ (∀ j : Nat, j < l → ¬ zSd h i s j pq = h (68 + i) (Int.toNat (h 20 s))) ∧ r = some (.inl (l : Int)) ∧ σ' = zs h hl) := by
  have hS := hP.1
  have hL := hS.2.2.1
  have hc12 := hP.2.2.2.2.2
  have hlt := hP.2.2.2.2.1
  have hs5 := zSb_lt hS.1.2 hs
  have hsl := hS.2.2.2.2.1 _ hs5 hs
  have hs2 := hS.2.2.2.1
  have hr0 := hr
  have b0 := hb 0 (by decide)
  have b1 := hb 1 (by decide)
  have b2 := hb 2 (by decide)
  refine zQ_of (Nat.le_of_ble_eq_true rfl) ?_
  show zH (d + 3) 33 (0, [some (.inr (.inr (some 66))), some (.inr (.inr (some 21))), some (.inl (i : Int)), some (.inl (s : Int)), none, none], [], (zs h hl)) _
  refine zH_go 3 (c' := (3, [some (.inr (.inr (some 66))), some (.inr (.inr (some 21))), some (.inl (i : Int)), some (.inl (s : Int)), none, none], [.inl (s : Int), .inl (i : Int), .inr (.inr (some 66))], (zs h hl))) rfl ?_
  refine zH_call (M' := 31) (as := [.inr (.inr (some 66)), .inl (i : Int), .inl (s : Int)]) (T := []) rfl (p_rest (i := i) (s := s) (by omega) hs5 (by omega)) (fun r σ' p_1 => ?_)
  obtain ⟨rfl, rfl⟩ := p_1
  show zH _ _ (6, [some (.inr (.inr (some 66))), some (.inr (.inr (some 21))), some (.inl (i : Int)), some (.inl (s : Int)), none, none], [.inl (h (68 + i) (Int.toNat (h 20 s)))], (zs h hl)) _
  refine zH_go 7 (c' := (20, [some (.inr (.inr (some 66))), some (.inr (.inr (some 21))), some (.inl (i : Int)), some (.inl (s : Int)), some (.inl (h (68 + i) (Int.toNat (h 20 s)))), some (.inl 0)], [.inl (h 18 1), .inl 0], (zs h hl))) rfl ?_
  rw [hL]
  refine zH_bf (x := 0) (y := 3) (k := .ge) (c1 := (46, [some (.inr (.inr (some 66))), some (.inr (.inr (some 21))), some (.inl (i : Int)), some (.inl (s : Int)), some (.inl (h (68 + i) (Int.toNat (h 20 s)))), some (.inl 0)], [], (zs h hl))) (c2 := (23, [some (.inr (.inr (some 66))), some (.inr (.inr (some 21))), some (.inl (i : Int)), some (.inl (s : Int)), some (.inl (h (68 + i) (Int.toNat (h 20 s)))), some (.inl 0)], [], (zs h hl))) rfl ⟨by decide, by decide⟩ ⟨by decide, by decide⟩ (by show ¬ (¬ 0 < 3); decide) ?_
  refine zH_go 5 (c' := (29, [some (.inr (.inr (some 66))), some (.inr (.inr (some 21))), some (.inl (i : Int)), some (.inl (s : Int)), some (.inl (h (68 + i) (Int.toNat (h 20 s)))), some (.inl 0)], [.inl 0, .inl (s : Int), .inl (i : Int), .inr (.inr (some 21)), .inr (.inr (some 66))], (zs h hl))) rfl ?_
  refine zH_call (M' := 30) (as := [.inr (.inr (some 66)), .inr (.inr (some 21)), .inl (i : Int), .inl (s : Int), .inl 0]) (T := []) rfl (p_sending (L := 3) (pq := pq) (l := 0) hP hs (by decide)) (fun r σ' p_2 => ?_)
  obtain ⟨rfl, rfl⟩ := p_2
  show zH _ _ (32, [some (.inr (.inr (some 66))), some (.inr (.inr (some 21))), some (.inl (i : Int)), some (.inl (s : Int)), some (.inl (h (68 + i) (Int.toNat (h 20 s)))), some (.inl 0)], [.inl (zSd h i s 0 pq)], (zs h hl)) _
  refine zH_go 1 (c' := (34, [some (.inr (.inr (some 66))), some (.inr (.inr (some 21))), some (.inl (i : Int)), some (.inl (s : Int)), some (.inl (h (68 + i) (Int.toNat (h 20 s)))), some (.inl 0)], [.inl (h (68 + i) (Int.toNat (h 20 s))), .inl (zSd h i s 0 pq)], (zs h hl))) rfl ?_
  refine zH_br (x := (zSd h i s 0 pq)) (y := (h (68 + i) (Int.toNat (h 20 s)))) (k := .ne) (c1 := (40, [some (.inr (.inr (some 66))), some (.inr (.inr (some 21))), some (.inl (i : Int)), some (.inl (s : Int)), some (.inl (h (68 + i) (Int.toNat (h 20 s)))), some (.inl 0)], [], (zs h hl))) (c2 := (37, [some (.inr (.inr (some 66))), some (.inr (.inr (some 21))), some (.inl (i : Int)), some (.inl (s : Int)), some (.inl (h (68 + i) (Int.toNat (h 20 s)))), some (.inl 0)], [], (zs h hl))) rfl (by first | assumption | (unfold zr; omega)) (by first | assumption | (unfold zr; omega)) (fun (b_3 : ¬ (zSd h i s 0 pq) = (h (68 + i) (Int.toNat (h 20 s)))) => ?_) (fun (b_3 : ¬ (¬ (zSd h i s 0 pq) = (h (68 + i) (Int.toNat (h 20 s))))) => ?_)
  · refine zH_go 6 (c' := (20, [some (.inr (.inr (some 66))), some (.inr (.inr (some 21))), some (.inl (i : Int)), some (.inl (s : Int)), some (.inl (h (68 + i) (Int.toNat (h 20 s)))), some (.inl 1)], [.inl (h 18 1), .inl 1], (zs h hl))) rfl ?_
    rw [hL]
    refine zH_bf (x := 1) (y := 3) (k := .ge) (c1 := (46, [some (.inr (.inr (some 66))), some (.inr (.inr (some 21))), some (.inl (i : Int)), some (.inl (s : Int)), some (.inl (h (68 + i) (Int.toNat (h 20 s)))), some (.inl 1)], [], (zs h hl))) (c2 := (23, [some (.inr (.inr (some 66))), some (.inr (.inr (some 21))), some (.inl (i : Int)), some (.inl (s : Int)), some (.inl (h (68 + i) (Int.toNat (h 20 s)))), some (.inl 1)], [], (zs h hl))) rfl ⟨by decide, by decide⟩ ⟨by decide, by decide⟩ (by show ¬ (¬ 1 < 3); decide) ?_
    refine zH_go 5 (c' := (29, [some (.inr (.inr (some 66))), some (.inr (.inr (some 21))), some (.inl (i : Int)), some (.inl (s : Int)), some (.inl (h (68 + i) (Int.toNat (h 20 s)))), some (.inl 1)], [.inl 1, .inl (s : Int), .inl (i : Int), .inr (.inr (some 21)), .inr (.inr (some 66))], (zs h hl))) rfl ?_
    refine zH_call (M' := 30) (as := [.inr (.inr (some 66)), .inr (.inr (some 21)), .inl (i : Int), .inl (s : Int), .inl 1]) (T := []) rfl (p_sending (L := 3) (pq := pq) (l := 1) hP hs (by decide)) (fun r σ' p_4 => ?_)
    obtain ⟨rfl, rfl⟩ := p_4
    show zH _ _ (32, [some (.inr (.inr (some 66))), some (.inr (.inr (some 21))), some (.inl (i : Int)), some (.inl (s : Int)), some (.inl (h (68 + i) (Int.toNat (h 20 s)))), some (.inl 1)], [.inl (zSd h i s 1 pq)], (zs h hl)) _
    refine zH_go 1 (c' := (34, [some (.inr (.inr (some 66))), some (.inr (.inr (some 21))), some (.inl (i : Int)), some (.inl (s : Int)), some (.inl (h (68 + i) (Int.toNat (h 20 s)))), some (.inl 1)], [.inl (h (68 + i) (Int.toNat (h 20 s))), .inl (zSd h i s 1 pq)], (zs h hl))) rfl ?_
    refine zH_br (x := (zSd h i s 1 pq)) (y := (h (68 + i) (Int.toNat (h 20 s)))) (k := .ne) (c1 := (40, [some (.inr (.inr (some 66))), some (.inr (.inr (some 21))), some (.inl (i : Int)), some (.inl (s : Int)), some (.inl (h (68 + i) (Int.toNat (h 20 s)))), some (.inl 1)], [], (zs h hl))) (c2 := (37, [some (.inr (.inr (some 66))), some (.inr (.inr (some 21))), some (.inl (i : Int)), some (.inl (s : Int)), some (.inl (h (68 + i) (Int.toNat (h 20 s)))), some (.inl 1)], [], (zs h hl))) rfl (by first | assumption | (unfold zr; omega)) (by first | assumption | (unfold zr; omega)) (fun (b_5 : ¬ (zSd h i s 1 pq) = (h (68 + i) (Int.toNat (h 20 s)))) => ?_) (fun (b_5 : ¬ (¬ (zSd h i s 1 pq) = (h (68 + i) (Int.toNat (h 20 s))))) => ?_)
    · refine zH_go 6 (c' := (20, [some (.inr (.inr (some 66))), some (.inr (.inr (some 21))), some (.inl (i : Int)), some (.inl (s : Int)), some (.inl (h (68 + i) (Int.toNat (h 20 s)))), some (.inl 2)], [.inl (h 18 1), .inl 2], (zs h hl))) rfl ?_
      rw [hL]
      refine zH_bf (x := 2) (y := 3) (k := .ge) (c1 := (46, [some (.inr (.inr (some 66))), some (.inr (.inr (some 21))), some (.inl (i : Int)), some (.inl (s : Int)), some (.inl (h (68 + i) (Int.toNat (h 20 s)))), some (.inl 2)], [], (zs h hl))) (c2 := (23, [some (.inr (.inr (some 66))), some (.inr (.inr (some 21))), some (.inl (i : Int)), some (.inl (s : Int)), some (.inl (h (68 + i) (Int.toNat (h 20 s)))), some (.inl 2)], [], (zs h hl))) rfl ⟨by decide, by decide⟩ ⟨by decide, by decide⟩ (by show ¬ (¬ 2 < 3); decide) ?_
      refine zH_go 5 (c' := (29, [some (.inr (.inr (some 66))), some (.inr (.inr (some 21))), some (.inl (i : Int)), some (.inl (s : Int)), some (.inl (h (68 + i) (Int.toNat (h 20 s)))), some (.inl 2)], [.inl 2, .inl (s : Int), .inl (i : Int), .inr (.inr (some 21)), .inr (.inr (some 66))], (zs h hl))) rfl ?_
      refine zH_call (M' := 30) (as := [.inr (.inr (some 66)), .inr (.inr (some 21)), .inl (i : Int), .inl (s : Int), .inl 2]) (T := []) rfl (p_sending (L := 3) (pq := pq) (l := 2) hP hs (by decide)) (fun r σ' p_6 => ?_)
      obtain ⟨rfl, rfl⟩ := p_6
      show zH _ _ (32, [some (.inr (.inr (some 66))), some (.inr (.inr (some 21))), some (.inl (i : Int)), some (.inl (s : Int)), some (.inl (h (68 + i) (Int.toNat (h 20 s)))), some (.inl 2)], [.inl (zSd h i s 2 pq)], (zs h hl)) _
      refine zH_go 1 (c' := (34, [some (.inr (.inr (some 66))), some (.inr (.inr (some 21))), some (.inl (i : Int)), some (.inl (s : Int)), some (.inl (h (68 + i) (Int.toNat (h 20 s)))), some (.inl 2)], [.inl (h (68 + i) (Int.toNat (h 20 s))), .inl (zSd h i s 2 pq)], (zs h hl))) rfl ?_
      refine zH_br (x := (zSd h i s 2 pq)) (y := (h (68 + i) (Int.toNat (h 20 s)))) (k := .ne) (c1 := (40, [some (.inr (.inr (some 66))), some (.inr (.inr (some 21))), some (.inl (i : Int)), some (.inl (s : Int)), some (.inl (h (68 + i) (Int.toNat (h 20 s)))), some (.inl 2)], [], (zs h hl))) (c2 := (37, [some (.inr (.inr (some 66))), some (.inr (.inr (some 21))), some (.inl (i : Int)), some (.inl (s : Int)), some (.inl (h (68 + i) (Int.toNat (h 20 s)))), some (.inl 2)], [], (zs h hl))) rfl (by first | assumption | (unfold zr; omega)) (by first | assumption | (unfold zr; omega)) (fun (b_7 : ¬ (zSd h i s 2 pq) = (h (68 + i) (Int.toNat (h 20 s)))) => ?_) (fun (b_7 : ¬ (¬ (zSd h i s 2 pq) = (h (68 + i) (Int.toNat (h 20 s))))) => ?_)
      · refine zH_go 6 (c' := (20, [some (.inr (.inr (some 66))), some (.inr (.inr (some 21))), some (.inl (i : Int)), some (.inl (s : Int)), some (.inl (h (68 + i) (Int.toNat (h 20 s)))), some (.inl 3)], [.inl (h 18 1), .inl 3], (zs h hl))) rfl ?_
        rw [hL]
        refine zH_bt (x := 3) (y := 3) (k := .ge) (c1 := (46, [some (.inr (.inr (some 66))), some (.inr (.inr (some 21))), some (.inl (i : Int)), some (.inl (s : Int)), some (.inl (h (68 + i) (Int.toNat (h 20 s)))), some (.inl 3)], [], (zs h hl))) (c2 := (23, [some (.inr (.inr (some 66))), some (.inr (.inr (some 21))), some (.inl (i : Int)), some (.inl (s : Int)), some (.inl (h (68 + i) (Int.toNat (h 20 s)))), some (.inl 3)], [], (zs h hl))) rfl ⟨by decide, by decide⟩ ⟨by decide, by decide⟩ (by show ¬ 3 < 3; decide) ?_
        refine zH_go 1 (c' := (47, [some (.inr (.inr (some 66))), some (.inr (.inr (some 21))), some (.inl (i : Int)), some (.inl (s : Int)), some (.inl (h (68 + i) (Int.toNat (h 20 s)))), some (.inl 3)], [.inl 0], (zs h hl))) rfl ?_
        exfalso
        rcases hex with ⟨l, q1, q2⟩
        rcases (show l = 0 ∨ l = 1 ∨ l = 2 by omega) with rfl | rfl | rfl <;> omega
      · refine zH_go 1 (c' := (39, [some (.inr (.inr (some 66))), some (.inr (.inr (some 21))), some (.inl (i : Int)), some (.inl (s : Int)), some (.inl (h (68 + i) (Int.toNat (h 20 s)))), some (.inl 2)], [.inl 2], (zs h hl))) rfl ?_
        refine zH_ret (v := some (.inl 2)) rfl (fun q => absurd q (by decide)) ?_
        exact ⟨2, by decide, by omega, fun j hj => by rcases (show j = 0 ∨ j = 1 by omega) with rfl | rfl <;> omega, rfl, rfl⟩
    · refine zH_go 1 (c' := (39, [some (.inr (.inr (some 66))), some (.inr (.inr (some 21))), some (.inl (i : Int)), some (.inl (s : Int)), some (.inl (h (68 + i) (Int.toNat (h 20 s)))), some (.inl 1)], [.inl 1], (zs h hl))) rfl ?_
      refine zH_ret (v := some (.inl 1)) rfl (fun q => absurd q (by decide)) ?_
      exact ⟨1, by decide, by omega, fun j hj => by rcases (show j = 0 by omega) with rfl <;> omega, rfl, rfl⟩
  · refine zH_go 1 (c' := (39, [some (.inr (.inr (some 66))), some (.inr (.inr (some 21))), some (.inl (i : Int)), some (.inl (s : Int)), some (.inl (h (68 + i) (Int.toNat (h 20 s)))), some (.inl 0)], [.inl 0], (zs h hl))) rfl ?_
    refine zH_ret (v := some (.inl 0)) rfl (fun q => absurd q (by decide)) ?_
    exact ⟨0, by decide, by omega, fun j hj => absurd hj (Nat.not_lt_zero j), rfl, rfl⟩
theorem p_cheap {d : Nat} {h hl : Nat → Nat → Int} {p L i s pq : Nat} (hP : zPh h p L i pq) (hs : zSb p L s = true) (hb : ∀ l : Nat, l < L → 0 ≤ zSd h i s l pq ∧ zSd h i s l pq ≤ 1000000) : zQ (d + 4) 29 [.inr (.inr (some 66)), .inr (.inr (some 21)), .inl (i : Int), .inl (s : Int)] (zs h hl) (zI1 (zm3 L (fun l => zSd h i s l pq)) (zs h hl)) := by
  rcases (show L = 1 ∨ L = 2 ∨ L = 3 by have := hP.1.1; omega) with rfl | rfl | rfl
  · exact p_cheap1 hP hs hb
  · exact p_cheap2 hP hs hb
  · exact p_cheap3 hP hs hb
theorem p_first {d : Nat} {h hl : Nat → Nat → Int} {p L i s pq : Nat} (hP : zPh h p L i pq) (hs : zSb p L s = true) (hb : ∀ l : Nat, l < L → 0 ≤ zSd h i s l pq ∧ zSd h i s l pq ≤ 1000000) (hr : zr (h (68 + i) (Int.toNat (h 20 s)))) (hex : ∃ l : Nat, l < L ∧ zSd h i s l pq = h (68 + i) (Int.toNat (h 20 s))) : zQ (d + 4) 33 [.inr (.inr (some 66)), .inr (.inr (some 21)), .inl (i : Int), .inl (s : Int)] (zs h hl) (fun r σ' => ∃ l : Nat, l < L ∧ zSd h i s l pq = h (68 + i) (Int.toNat (h 20 s)) ∧ (∀ j : Nat, j < l → ¬ zSd h i s j pq = h (68 + i) (Int.toNat (h 20 s))) ∧ r = some (.inl (l : Int)) ∧ σ' = zs h hl) := by
  rcases (show L = 1 ∨ L = 2 ∨ L = 3 by have := hP.1.1; omega) with rfl | rfl | rfl
  · exact p_first1 hP hs hb hr hex
  · exact p_first2 hP hs hb hr hex
  · exact p_first3 hP hs hb hr hex
