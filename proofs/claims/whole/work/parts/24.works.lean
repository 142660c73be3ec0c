/-! WORK: after a CALL, at the start, rows. -/
theorem zdg_hi : ∀ n : Nat, n < 512 → ∀ L : Nat, L < 4 → (n < 8 ^ L ↔ ∀ i : Nat, i < 3 → L ≤ i → zdg n i = 0) := by decide +kernel
theorem zSb_lt {p L n : Nat} (hL : L ≤ 3) (h : zSb p L n = true) : n < 512 := by
  unfold zSb at h
  rw [Bool.and_eq_true, decide_eq_true_eq] at h
  have : 8 ^ L ≤ 8 ^ 3 := Nat.pow_le_pow_right (by decide) hL
  omega
theorem zSb_dg {p L n i : Nat} (h : zSb p L n = true) (hi : i < L) : zdg n i < p := by
  unfold zSb at h
  rw [Bool.and_eq_true, List.all_eq_true] at h
  exact of_decide_eq_true (h.2 i (List.mem_range.mpr hi))
theorem zSb_wd {p L n l v : Nat} (hp : p ≤ 6) (hL : L ≤ 3) (h : zSb p L n = true) (hl : l < L) (hv : v < p) : zSb p L (zwd n l v) = true := by
  have hn := zSb_lt hL h
  have h1 := h
  unfold zSb at h1
  rw [Bool.and_eq_true, decide_eq_true_eq, List.all_eq_true] at h1
  have hw := zwd_lt n hn l (by omega) v (by omega)
  unfold zSb
  rw [Bool.and_eq_true, decide_eq_true_eq, List.all_eq_true]
  refine ⟨(zdg_hi _ hw L (by omega)).mpr (fun i hi hLi => ?_), fun i hi => decide_eq_true ?_⟩
  · rw [zdg_wd n hn l (by omega) v (by omega) i hi, if_neg (by omega)]
    exact (zdg_hi n hn L (by omega)).mp h1.1 i hi hLi
  · have hi := List.mem_range.mp hi
    rw [zdg_wd n hn l (by omega) v (by omega) i (by omega)]
    by_cases q : i = l
    · rw [if_pos q]; exact hv
    · rw [if_neg q]; exact zSb_dg h hi
/-- what the cells of STANDS hold -/
def zSI (h : Nat → Nat → Int) (p L : Nat) : Prop := (1 ≤ L ∧ L ≤ 3) ∧ p ≤ 6 ∧ h 18 1 = (L : Int) ∧ (0 ≤ h 18 2 ∧ h 18 2 ≤ 56) ∧ (∀ n : Nat, n < 512 → zSb p L n = true → 0 ≤ h 20 n ∧ h 20 n < h 18 2 ∧ h 19 (h 20 n).toNat = (zLL n : Int)) ∧ (∀ n : Nat, n < 512 → zSb p L n = false → h 20 n = -1) ∧ (∀ s : Nat, (s : Int) < h 18 2 → ∃ n : Nat, n < 512 ∧ zSb p L n = true ∧ zLL n = n ∧ h 19 s = (n : Int) ∧ h 20 n = (s : Int))
theorem zSI_of {h g : Nat → Nat → Int} {p L : Nat} (hL : 1 ≤ L ∧ L ≤ 3) (hp : p ≤ 6) (hI : zLI h g p L 512) : zSI g p L := by
  obtain ⟨i1, i2, i3, i4, i5, i6⟩ := hI
  have h5 := zcnt_56 p (by omega) L (by omega)
  refine ⟨hL, hp, i1, by omega, fun n hn hs => ?_, i4, fun s hs => i5 s (by omega)⟩
  have := i3 n hn hs
  rw [i2]
  exact this
/-- one CALL more: the least of all LADDERS that serve it -/
def zAf (h : Nat → Nat → Int) (L A s p : Nat) : Int := if L = 1 then h A (Int.toNat (h 20 (zwd s 0 p))) + h (12 + p) (zdg s 0)
  else if L = 2 then min (h A (Int.toNat (h 20 (zwd s 0 p))) + h (12 + p) (zdg s 0)) (h A (Int.toNat (h 20 (zwd s 1 p))) + h (12 + p) (zdg s 1))
  else min (h A (Int.toNat (h 20 (zwd s 0 p))) + h (12 + p) (zdg s 0)) (min (h A (Int.toNat (h 20 (zwd s 1 p))) + h (12 + p) (zdg s 1)) (h A (Int.toNat (h 20 (zwd s 2 p))) + h (12 + p) (zdg s 2)))
set_option maxRecDepth 100000 in
set_option maxHeartbeats 4000000 in
theorem p_afD1 {d : Nat} {h hl : Nat → Nat → Int} {A p s pp : Nat} (hS : zSI h p 1) (hs : zSb p 1 s = true) (hp : pp < p) (hsh : zSh A = .inr (0, 56) ∧ 2 ≤ A ∧ A < 127) (hA : ∀ k : Nat, (k : Int) < h 18 2 → 0 ≤ h A k ∧ h A k ≤ 100000) (hB : zTB h) (hD : ∀ i j : Nat, i < p → j < p → h (12 + i) j ≤ 1500) : zQ (d + 2) 58 [.inr (.inr (some 22)), .inr (.inr (some (A))), .inl (s : Int), .inl (pp : Int)] (zs h hl) (zI1 (zAf h 1 A s pp) (zs h hl)) := by
  obtain ⟨hL3, hp6, hL, hs2, hsl, -, -⟩ := hS
  have hn := zSb_lt hL3.2 hs
  have w0 := zSb_wd hp6 hL3.2 hs (by decide : 0 < 1) hp
  have wl0 := zSb_lt hL3.2 w0
  have sl0 := hsl _ wl0 w0
  have dg0 := zSb_dg hs (by decide : 0 < 1)
  have r0 := hA (Int.toNat (h 20 (zwd s 0 pp))) (by omega)
  have dd0 := hB pp (zdg s 0) (by omega) (by omega)
  have ds0 := hD pp (zdg s 0) hp dg0
  refine zQ_of (Nat.le_of_ble_eq_true rfl) ?_
  show zH (d + 1) 58 (0, [some (.inr (.inr (some 22))), some (.inr (.inr (some (A)))), some (.inl (s : Int)), some (.inl (pp : Int)), none, none, none], [], (zs h hl)) _
  refine zH_go 8 (c' := (16, [some (.inr (.inr (some 22))), some (.inr (.inr (some (A)))), some (.inl (s : Int)), some (.inl (pp : Int)), some (.inl 1000000), some (.inl 0), none], [.inl (h 18 1), .inl 0], (zs h hl))) rfl ?_
  rw [hL]
  refine zH_bf (x := 0) (y := 1) (k := .ge) (c1 := (79, [some (.inr (.inr (some 22))), some (.inr (.inr (some (A)))), some (.inl (s : Int)), some (.inl (pp : Int)), some (.inl 1000000), some (.inl 0), none], [], (zs h hl))) (c2 := (19, [some (.inr (.inr (some 22))), some (.inr (.inr (some (A)))), some (.inl (s : Int)), some (.inl (pp : Int)), some (.inl 1000000), some (.inl 0), none], [], (zs h hl))) rfl ⟨by decide, by decide⟩ ⟨by decide, by decide⟩ (by show ¬ (¬ 0 < 1); decide) ?_
  refine zH_go 5 (c' := (27, [some (.inr (.inr (some 22))), some (.inr (.inr (some (A)))), some (.inl (s : Int)), some (.inl (pp : Int)), some (.inl 1000000), some (.inl 0), none], [.inl (pp : Int), .inl 0, .inl (s : Int), .inr (.inr (some 18))], (zs h hl))) rfl ?_
  refine zH_call (M' := 101) (as := [.inl (s : Int), .inl 0, .inl (pp : Int)]) (T := [.inr (.inr (some 18))]) rfl (p_withDigit (n := s) (i := 0) (v := pp) (by omega) (by decide) (by omega)) (fun r σ' p_1 => ?_)
  obtain ⟨rfl, rfl⟩ := p_1
  show zH _ _ (30, [some (.inr (.inr (some 22))), some (.inr (.inr (some (A)))), some (.inl (s : Int)), some (.inl (pp : Int)), some (.inl 1000000), some (.inl 0), none], [.inl ((zwd s 0 pp : Nat) : Int), .inr (.inr (some 18))], (zs h hl)) _
  refine zH_call (M' := 44) (as := [.inr (.inr (some 18)), .inl ((zwd s 0 pp : Nat) : Int)]) (T := []) rfl (p_slot (n := zwd s 0 pp) (by omega)) (fun r σ' p_2 => ?_)
  obtain ⟨rfl, rfl⟩ := p_2
  show zH _ _ (33, [some (.inr (.inr (some 22))), some (.inr (.inr (some (A)))), some (.inl (s : Int)), some (.inl (pp : Int)), some (.inl 1000000), some (.inl 0), none], [.inl (h 20 (zwd s 0 pp))], (zs h hl)) _
  refine zH_go 2 (c' := (37, [some (.inr (.inr (some 22))), some (.inr (.inr (some (A)))), some (.inl (s : Int)), some (.inl (pp : Int)), some (.inl 1000000), some (.inl 0), some (.inl (h 20 (zwd s 0 pp)))], [.inl (h 20 (zwd s 0 pp))], (zs h hl))) rfl ?_
  refine zH_br (x := (h 20 (zwd s 0 pp))) (y := 0) (k := .lt) (c1 := (73, [some (.inr (.inr (some 22))), some (.inr (.inr (some (A)))), some (.inl (s : Int)), some (.inl (pp : Int)), some (.inl 1000000), some (.inl 0), some (.inl (h 20 (zwd s 0 pp)))], [], (zs h hl))) (c2 := (40, [some (.inr (.inr (some 22))), some (.inr (.inr (some (A)))), some (.inl (s : Int)), some (.inl (pp : Int)), some (.inl 1000000), some (.inl 0), some (.inl (h 20 (zwd s 0 pp)))], [], (zs h hl))) rfl (by first | assumption | (unfold zr; omega)) ⟨by decide, by decide⟩ (fun (b_3 : (h 20 (zwd s 0 pp)) < 0) => ?_) (fun (b_3 : ¬ ((h 20 (zwd s 0 pp)) < 0)) => ?_)
  · refine zH_go 6 (c' := (16, [some (.inr (.inr (some 22))), some (.inr (.inr (some (A)))), some (.inl (s : Int)), some (.inl (pp : Int)), some (.inl 1000000), some (.inl 1), some (.inl (h 20 (zwd s 0 pp)))], [.inl (h 18 1), .inl 1], (zs h hl))) rfl ?_
    rw [hL]
    refine zH_bt (x := 1) (y := 1) (k := .ge) (c1 := (79, [some (.inr (.inr (some 22))), some (.inr (.inr (some (A)))), some (.inl (s : Int)), some (.inl (pp : Int)), some (.inl 1000000), some (.inl 1), some (.inl (h 20 (zwd s 0 pp)))], [], (zs h hl))) (c2 := (19, [some (.inr (.inr (some 22))), some (.inr (.inr (some (A)))), some (.inl (s : Int)), some (.inl (pp : Int)), some (.inl 1000000), some (.inl 1), some (.inl (h 20 (zwd s 0 pp)))], [], (zs h hl))) rfl ⟨by decide, by decide⟩ ⟨by decide, by decide⟩ (by show ¬ 1 < 1; decide) ?_
    refine zH_go 1 (c' := (81, [some (.inr (.inr (some 22))), some (.inr (.inr (some (A)))), some (.inl (s : Int)), some (.inl (pp : Int)), some (.inl 1000000), some (.inl 1), some (.inl (h 20 (zwd s 0 pp)))], [.inl 1000000], (zs h hl))) rfl ?_
    refine zH_ret (v := some (.inl 1000000)) rfl (fun q => absurd q (by decide)) ?_
    refine ⟨congrArg (fun z => some (Sum.inl z)) ?_, rfl⟩
    unfold zAf
    rw [if_pos rfl]
    omega
  · refine zH_go 2 (c' := (43, [some (.inr (.inr (some 22))), some (.inr (.inr (some (A)))), some (.inl (s : Int)), some (.inl (pp : Int)), some (.inl 1000000), some (.inl 0), some (.inl (h 20 (zwd s 0 pp)))], [.inr (.inr (some (A))), .inl (h 20 (zwd s 0 pp))], (zs h hl))) rfl ?_
    refine zH_aln rfl (n := 56) (t := 0) hsh (by decide) ?_
    show zH _ _ (44, [some (.inr (.inr (some 22))), some (.inr (.inr (some (A)))), some (.inl (s : Int)), some (.inl (pp : Int)), some (.inl 1000000), some (.inl 0), some (.inl (h 20 (zwd s 0 pp)))], [.inl 56, .inl (h 20 (zwd s 0 pp))], (zs h hl)) _
    refine zH_br (x := (h 20 (zwd s 0 pp))) (y := 56) (k := .ge) (c1 := (73, [some (.inr (.inr (some 22))), some (.inr (.inr (some (A)))), some (.inl (s : Int)), some (.inl (pp : Int)), some (.inl 1000000), some (.inl 0), some (.inl (h 20 (zwd s 0 pp)))], [], (zs h hl))) (c2 := (47, [some (.inr (.inr (some 22))), some (.inr (.inr (some (A)))), some (.inl (s : Int)), some (.inl (pp : Int)), some (.inl 1000000), some (.inl 0), some (.inl (h 20 (zwd s 0 pp)))], [], (zs h hl))) rfl (by first | assumption | (unfold zr; omega)) ⟨by decide, by decide⟩ (fun (b_4 : ¬ (h 20 (zwd s 0 pp)) < 56) => ?_) (fun (b_4 : ¬ (¬ (h 20 (zwd s 0 pp)) < 56)) => ?_)
    · refine zH_go 6 (c' := (16, [some (.inr (.inr (some 22))), some (.inr (.inr (some (A)))), some (.inl (s : Int)), some (.inl (pp : Int)), some (.inl 1000000), some (.inl 1), some (.inl (h 20 (zwd s 0 pp)))], [.inl (h 18 1), .inl 1], (zs h hl))) rfl ?_
      rw [hL]
      refine zH_bt (x := 1) (y := 1) (k := .ge) (c1 := (79, [some (.inr (.inr (some 22))), some (.inr (.inr (some (A)))), some (.inl (s : Int)), some (.inl (pp : Int)), some (.inl 1000000), some (.inl 1), some (.inl (h 20 (zwd s 0 pp)))], [], (zs h hl))) (c2 := (19, [some (.inr (.inr (some 22))), some (.inr (.inr (some (A)))), some (.inl (s : Int)), some (.inl (pp : Int)), some (.inl 1000000), some (.inl 1), some (.inl (h 20 (zwd s 0 pp)))], [], (zs h hl))) rfl ⟨by decide, by decide⟩ ⟨by decide, by decide⟩ (by show ¬ 1 < 1; decide) ?_
      refine zH_go 1 (c' := (81, [some (.inr (.inr (some 22))), some (.inr (.inr (some (A)))), some (.inl (s : Int)), some (.inl (pp : Int)), some (.inl 1000000), some (.inl 1), some (.inl (h 20 (zwd s 0 pp)))], [.inl 1000000], (zs h hl))) rfl ?_
      refine zH_ret (v := some (.inl 1000000)) rfl (fun q => absurd q (by decide)) ?_
      refine ⟨congrArg (fun z => some (Sum.inl z)) ?_, rfl⟩
      unfold zAf
      rw [if_pos rfl]
      omega
    · refine zH_go 3 (c' := (52, [some (.inr (.inr (some 22))), some (.inr (.inr (some (A)))), some (.inl (s : Int)), some (.inl (pp : Int)), some (.inl 1000000), some (.inl 0), some (.inl (h 20 (zwd s 0 pp)))], [.inl (h 20 (zwd s 0 pp)), .inr (.inr (some (A))), .inl 1000000], (zs h hl))) rfl ?_
      refine zH_ial rfl (n := 56) hsh (by omega) (by omega) ?_
      show zH _ _ (53, [some (.inr (.inr (some 22))), some (.inr (.inr (some (A)))), some (.inl (s : Int)), some (.inl (pp : Int)), some (.inl 1000000), some (.inl 0), some (.inl (h 20 (zwd s 0 pp)))], [.inl (h A (Int.toNat (h 20 (zwd s 0 pp)))), .inl 1000000], (zs h hl)) _
      refine zH_go 5 (c' := (61, [some (.inr (.inr (some 22))), some (.inr (.inr (some (A)))), some (.inl (s : Int)), some (.inl (pp : Int)), some (.inl 1000000), some (.inl 0), some (.inl (h 20 (zwd s 0 pp)))], [.inl 0, .inl (s : Int), .inl (pp : Int), .inr (.inr (some 3)), .inl (h A (Int.toNat (h 20 (zwd s 0 pp)))), .inl 1000000], (zs h hl))) rfl ?_
      refine zH_call (M' := 100) (as := [.inl (s : Int), .inl 0]) (T := [.inl (pp : Int), .inr (.inr (some 3)), .inl (h A (Int.toNat (h 20 (zwd s 0 pp)))), .inl 1000000]) rfl (p_digit (n := s) (i := 0) (by omega) (by decide)) (fun r σ' p_5 => ?_)
      obtain ⟨rfl, rfl⟩ := p_5
      show zH _ _ (64, [some (.inr (.inr (some 22))), some (.inr (.inr (some (A)))), some (.inl (s : Int)), some (.inl (pp : Int)), some (.inl 1000000), some (.inl 0), some (.inl (h 20 (zwd s 0 pp)))], [.inl ((zdg s 0 : Nat) : Int), .inl (pp : Int), .inr (.inr (some 3)), .inl (h A (Int.toNat (h 20 (zwd s 0 pp)))), .inl 1000000], (zs h hl)) _
      refine zH_call (M' := 52) (as := [.inr (.inr (some 3)), .inl (pp : Int), .inl ((zdg s 0 : Nat) : Int)]) (T := [.inl (h A (Int.toNat (h 20 (zwd s 0 pp)))), .inl 1000000]) rfl (p_gap (a := pp) (b := zdg s 0) (by omega) (by omega)) (fun r σ' p_6 => ?_)
      obtain ⟨rfl, rfl⟩ := p_6
      show zH _ _ (67, [some (.inr (.inr (some 22))), some (.inr (.inr (some (A)))), some (.inl (s : Int)), some (.inl (pp : Int)), some (.inl 1000000), some (.inl 0), some (.inl (h 20 (zwd s 0 pp)))], [.inl (h (12 + pp) (zdg s 0)), .inl (h A (Int.toNat (h 20 (zwd s 0 pp)))), .inl 1000000], (zs h hl)) _
      refine zH_go 1 (c' := (68, [some (.inr (.inr (some 22))), some (.inr (.inr (some (A)))), some (.inl (s : Int)), some (.inl (pp : Int)), some (.inl 1000000), some (.inl 0), some (.inl (h 20 (zwd s 0 pp)))], [.inl ((h A (Int.toNat (h 20 (zwd s 0 pp)))) + (h (12 + pp) (zdg s 0))), .inl 1000000], (zs h hl))) rfl ?_
      refine zH_np (P := zr 1000000 ∧ zr ((h A (Int.toNat (h 20 (zwd s 0 pp)))) + (h (12 + pp) (zdg s 0)))) (c' := (71, [some (.inr (.inr (some 22))), some (.inr (.inr (some (A)))), some (.inl (s : Int)), some (.inl (pp : Int)), some (.inl 1000000), some (.inl 0), some (.inl (h 20 (zwd s 0 pp)))], [.inl (if ((h A (Int.toNat (h 20 (zwd s 0 pp)))) + (h (12 + pp) (zdg s 0))) < 1000000 then ((h A (Int.toNat (h 20 (zwd s 0 pp)))) + (h (12 + pp) (zdg s 0))) else 1000000)], (zs h hl))) rfl ⟨⟨by decide, by decide⟩, (by first | assumption | (unfold zr; omega))⟩ ?_
      obtain ⟨m_7, em_7, fm_7⟩ := zmin_spec 1000000 ((h A (Int.toNat (h 20 (zwd s 0 pp)))) + (h (12 + pp) (zdg s 0)))
      rw [em_7]
      refine zH_go 7 (c' := (16, [some (.inr (.inr (some 22))), some (.inr (.inr (some (A)))), some (.inl (s : Int)), some (.inl (pp : Int)), some (.inl m_7), some (.inl 1), some (.inl (h 20 (zwd s 0 pp)))], [.inl (h 18 1), .inl 1], (zs h hl))) rfl ?_
      rw [hL]
      refine zH_bt (x := 1) (y := 1) (k := .ge) (c1 := (79, [some (.inr (.inr (some 22))), some (.inr (.inr (some (A)))), some (.inl (s : Int)), some (.inl (pp : Int)), some (.inl m_7), some (.inl 1), some (.inl (h 20 (zwd s 0 pp)))], [], (zs h hl))) (c2 := (19, [some (.inr (.inr (some 22))), some (.inr (.inr (some (A)))), some (.inl (s : Int)), some (.inl (pp : Int)), some (.inl m_7), some (.inl 1), some (.inl (h 20 (zwd s 0 pp)))], [], (zs h hl))) rfl ⟨by decide, by decide⟩ ⟨by decide, by decide⟩ (by show ¬ 1 < 1; decide) ?_
      refine zH_go 1 (c' := (81, [some (.inr (.inr (some 22))), some (.inr (.inr (some (A)))), some (.inl (s : Int)), some (.inl (pp : Int)), some (.inl m_7), some (.inl 1), some (.inl (h 20 (zwd s 0 pp)))], [.inl m_7], (zs h hl))) rfl ?_
      refine zH_ret (v := some (.inl m_7)) rfl (fun q => absurd q (by decide)) ?_
      refine ⟨congrArg (fun z => some (Sum.inl z)) ?_, rfl⟩
      unfold zAf
      rw [if_pos rfl]
      omega
set_option maxRecDepth 100000 in
set_option maxHeartbeats 4000000 in
theorem p_afD2 {d : Nat} {h hl : Nat → Nat → Int} {A p s pp : Nat} (hS : zSI h p 2) (hs : zSb p 2 s = true) (hp : pp < p) (hsh : zSh A = .inr (0, 56) ∧ 2 ≤ A ∧ A < 127) (hA : ∀ k : Nat, (k : Int) < h 18 2 → 0 ≤ h A k ∧ h A k ≤ 100000) (hB : zTB h) (hD : ∀ i j : Nat, i < p → j < p → h (12 + i) j ≤ 1500) : zQ (d + 2) 58 [.inr (.inr (some 22)), .inr (.inr (some (A))), .inl (s : Int), .inl (pp : Int)] (zs h hl) (zI1 (zAf h 2 A s pp) (zs h hl)) := by
  obtain ⟨hL3, hp6, hL, hs2, hsl, -, -⟩ := hS
  have hn := zSb_lt hL3.2 hs
  have w0 := zSb_wd hp6 hL3.2 hs (by decide : 0 < 2) hp
  have wl0 := zSb_lt hL3.2 w0
  have sl0 := hsl _ wl0 w0
  have dg0 := zSb_dg hs (by decide : 0 < 2)
  have r0 := hA (Int.toNat (h 20 (zwd s 0 pp))) (by omega)
  have dd0 := hB pp (zdg s 0) (by omega) (by omega)
  have ds0 := hD pp (zdg s 0) hp dg0
  have w1 := zSb_wd hp6 hL3.2 hs (by decide : 1 < 2) hp
  have wl1 := zSb_lt hL3.2 w1
  have sl1 := hsl _ wl1 w1
  have dg1 := zSb_dg hs (by decide : 1 < 2)
  have r1 := hA (Int.toNat (h 20 (zwd s 1 pp))) (by omega)
  have dd1 := hB pp (zdg s 1) (by omega) (by omega)
  have ds1 := hD pp (zdg s 1) hp dg1
  refine zQ_of (Nat.le_of_ble_eq_true rfl) ?_
  show zH (d + 1) 58 (0, [some (.inr (.inr (some 22))), some (.inr (.inr (some (A)))), some (.inl (s : Int)), some (.inl (pp : Int)), none, none, none], [], (zs h hl)) _
  refine zH_go 8 (c' := (16, [some (.inr (.inr (some 22))), some (.inr (.inr (some (A)))), some (.inl (s : Int)), some (.inl (pp : Int)), some (.inl 1000000), some (.inl 0), none], [.inl (h 18 1), .inl 0], (zs h hl))) rfl ?_
  rw [hL]
  refine zH_bf (x := 0) (y := 2) (k := .ge) (c1 := (79, [some (.inr (.inr (some 22))), some (.inr (.inr (some (A)))), some (.inl (s : Int)), some (.inl (pp : Int)), some (.inl 1000000), some (.inl 0), none], [], (zs h hl))) (c2 := (19, [some (.inr (.inr (some 22))), some (.inr (.inr (some (A)))), some (.inl (s : Int)), some (.inl (pp : Int)), some (.inl 1000000), some (.inl 0), none], [], (zs h hl))) rfl ⟨by decide, by decide⟩ ⟨by decide, by decide⟩ (by show ¬ (¬ 0 < 2); decide) ?_
  refine zH_go 5 (c' := (27, [some (.inr (.inr (some 22))), some (.inr (.inr (some (A)))), some (.inl (s : Int)), some (.inl (pp : Int)), some (.inl 1000000), some (.inl 0), none], [.inl (pp : Int), .inl 0, .inl (s : Int), .inr (.inr (some 18))], (zs h hl))) rfl ?_
  refine zH_call (M' := 101) (as := [.inl (s : Int), .inl 0, .inl (pp : Int)]) (T := [.inr (.inr (some 18))]) rfl (p_withDigit (n := s) (i := 0) (v := pp) (by omega) (by decide) (by omega)) (fun r σ' p_1 => ?_)
  obtain ⟨rfl, rfl⟩ := p_1
  show zH _ _ (30, [some (.inr (.inr (some 22))), some (.inr (.inr (some (A)))), some (.inl (s : Int)), some (.inl (pp : Int)), some (.inl 1000000), some (.inl 0), none], [.inl ((zwd s 0 pp : Nat) : Int), .inr (.inr (some 18))], (zs h hl)) _
  refine zH_call (M' := 44) (as := [.inr (.inr (some 18)), .inl ((zwd s 0 pp : Nat) : Int)]) (T := []) rfl (p_slot (n := zwd s 0 pp) (by omega)) (fun r σ' p_2 => ?_)
  obtain ⟨rfl, rfl⟩ := p_2
  show zH _ _ (33, [some (.inr (.inr (some 22))), some (.inr (.inr (some (A)))), some (.inl (s : Int)), some (.inl (pp : Int)), some (.inl 1000000), some (.inl 0), none], [.inl (h 20 (zwd s 0 pp))], (zs h hl)) _
  refine zH_go 2 (c' := (37, [some (.inr (.inr (some 22))), some (.inr (.inr (some (A)))), some (.inl (s : Int)), some (.inl (pp : Int)), some (.inl 1000000), some (.inl 0), some (.inl (h 20 (zwd s 0 pp)))], [.inl (h 20 (zwd s 0 pp))], (zs h hl))) rfl ?_
  refine zH_br (x := (h 20 (zwd s 0 pp))) (y := 0) (k := .lt) (c1 := (73, [some (.inr (.inr (some 22))), some (.inr (.inr (some (A)))), some (.inl (s : Int)), some (.inl (pp : Int)), some (.inl 1000000), some (.inl 0), some (.inl (h 20 (zwd s 0 pp)))], [], (zs h hl))) (c2 := (40, [some (.inr (.inr (some 22))), some (.inr (.inr (some (A)))), some (.inl (s : Int)), some (.inl (pp : Int)), some (.inl 1000000), some (.inl 0), some (.inl (h 20 (zwd s 0 pp)))], [], (zs h hl))) rfl (by first | assumption | (unfold zr; omega)) ⟨by decide, by decide⟩ (fun (b_3 : (h 20 (zwd s 0 pp)) < 0) => ?_) (fun (b_3 : ¬ ((h 20 (zwd s 0 pp)) < 0)) => ?_)
  · refine zH_go 6 (c' := (16, [some (.inr (.inr (some 22))), some (.inr (.inr (some (A)))), some (.inl (s : Int)), some (.inl (pp : Int)), some (.inl 1000000), some (.inl 1), some (.inl (h 20 (zwd s 0 pp)))], [.inl (h 18 1), .inl 1], (zs h hl))) rfl ?_
    rw [hL]
    refine zH_bf (x := 1) (y := 2) (k := .ge) (c1 := (79, [some (.inr (.inr (some 22))), some (.inr (.inr (some (A)))), some (.inl (s : Int)), some (.inl (pp : Int)), some (.inl 1000000), some (.inl 1), some (.inl (h 20 (zwd s 0 pp)))], [], (zs h hl))) (c2 := (19, [some (.inr (.inr (some 22))), some (.inr (.inr (some (A)))), some (.inl (s : Int)), some (.inl (pp : Int)), some (.inl 1000000), some (.inl 1), some (.inl (h 20 (zwd s 0 pp)))], [], (zs h hl))) rfl ⟨by decide, by decide⟩ ⟨by decide, by decide⟩ (by show ¬ (¬ 1 < 2); decide) ?_
    refine zH_go 5 (c' := (27, [some (.inr (.inr (some 22))), some (.inr (.inr (some (A)))), some (.inl (s : Int)), some (.inl (pp : Int)), some (.inl 1000000), some (.inl 1), some (.inl (h 20 (zwd s 0 pp)))], [.inl (pp : Int), .inl 1, .inl (s : Int), .inr (.inr (some 18))], (zs h hl))) rfl ?_
    refine zH_call (M' := 101) (as := [.inl (s : Int), .inl 1, .inl (pp : Int)]) (T := [.inr (.inr (some 18))]) rfl (p_withDigit (n := s) (i := 1) (v := pp) (by omega) (by decide) (by omega)) (fun r σ' p_4 => ?_)
    obtain ⟨rfl, rfl⟩ := p_4
    show zH _ _ (30, [some (.inr (.inr (some 22))), some (.inr (.inr (some (A)))), some (.inl (s : Int)), some (.inl (pp : Int)), some (.inl 1000000), some (.inl 1), some (.inl (h 20 (zwd s 0 pp)))], [.inl ((zwd s 1 pp : Nat) : Int), .inr (.inr (some 18))], (zs h hl)) _
    refine zH_call (M' := 44) (as := [.inr (.inr (some 18)), .inl ((zwd s 1 pp : Nat) : Int)]) (T := []) rfl (p_slot (n := zwd s 1 pp) (by omega)) (fun r σ' p_5 => ?_)
    obtain ⟨rfl, rfl⟩ := p_5
    show zH _ _ (33, [some (.inr (.inr (some 22))), some (.inr (.inr (some (A)))), some (.inl (s : Int)), some (.inl (pp : Int)), some (.inl 1000000), some (.inl 1), some (.inl (h 20 (zwd s 0 pp)))], [.inl (h 20 (zwd s 1 pp))], (zs h hl)) _
    refine zH_go 2 (c' := (37, [some (.inr (.inr (some 22))), some (.inr (.inr (some (A)))), some (.inl (s : Int)), some (.inl (pp : Int)), some (.inl 1000000), some (.inl 1), some (.inl (h 20 (zwd s 1 pp)))], [.inl (h 20 (zwd s 1 pp))], (zs h hl))) rfl ?_
    refine zH_br (x := (h 20 (zwd s 1 pp))) (y := 0) (k := .lt) (c1 := (73, [some (.inr (.inr (some 22))), some (.inr (.inr (some (A)))), some (.inl (s : Int)), some (.inl (pp : Int)), some (.inl 1000000), some (.inl 1), some (.inl (h 20 (zwd s 1 pp)))], [], (zs h hl))) (c2 := (40, [some (.inr (.inr (some 22))), some (.inr (.inr (some (A)))), some (.inl (s : Int)), some (.inl (pp : Int)), some (.inl 1000000), some (.inl 1), some (.inl (h 20 (zwd s 1 pp)))], [], (zs h hl))) rfl (by first | assumption | (unfold zr; omega)) ⟨by decide, by decide⟩ (fun (b_6 : (h 20 (zwd s 1 pp)) < 0) => ?_) (fun (b_6 : ¬ ((h 20 (zwd s 1 pp)) < 0)) => ?_)
    · refine zH_go 6 (c' := (16, [some (.inr (.inr (some 22))), some (.inr (.inr (some (A)))), some (.inl (s : Int)), some (.inl (pp : Int)), some (.inl 1000000), some (.inl 2), some (.inl (h 20 (zwd s 1 pp)))], [.inl (h 18 1), .inl 2], (zs h hl))) rfl ?_
      rw [hL]
      refine zH_bt (x := 2) (y := 2) (k := .ge) (c1 := (79, [some (.inr (.inr (some 22))), some (.inr (.inr (some (A)))), some (.inl (s : Int)), some (.inl (pp : Int)), some (.inl 1000000), some (.inl 2), some (.inl (h 20 (zwd s 1 pp)))], [], (zs h hl))) (c2 := (19, [some (.inr (.inr (some 22))), some (.inr (.inr (some (A)))), some (.inl (s : Int)), some (.inl (pp : Int)), some (.inl 1000000), some (.inl 2), some (.inl (h 20 (zwd s 1 pp)))], [], (zs h hl))) rfl ⟨by decide, by decide⟩ ⟨by decide, by decide⟩ (by show ¬ 2 < 2; decide) ?_
      refine zH_go 1 (c' := (81, [some (.inr (.inr (some 22))), some (.inr (.inr (some (A)))), some (.inl (s : Int)), some (.inl (pp : Int)), some (.inl 1000000), some (.inl 2), some (.inl (h 20 (zwd s 1 pp)))], [.inl 1000000], (zs h hl))) rfl ?_
      refine zH_ret (v := some (.inl 1000000)) rfl (fun q => absurd q (by decide)) ?_
      refine ⟨congrArg (fun z => some (Sum.inl z)) ?_, rfl⟩
      unfold zAf
      rw [if_neg (by decide), if_pos rfl]
      omega
    · refine zH_go 2 (c' := (43, [some (.inr (.inr (some 22))), some (.inr (.inr (some (A)))), some (.inl (s : Int)), some (.inl (pp : Int)), some (.inl 1000000), some (.inl 1), some (.inl (h 20 (zwd s 1 pp)))], [.inr (.inr (some (A))), .inl (h 20 (zwd s 1 pp))], (zs h hl))) rfl ?_
      refine zH_aln rfl (n := 56) (t := 0) hsh (by decide) ?_
      show zH _ _ (44, [some (.inr (.inr (some 22))), some (.inr (.inr (some (A)))), some (.inl (s : Int)), some (.inl (pp : Int)), some (.inl 1000000), some (.inl 1), some (.inl (h 20 (zwd s 1 pp)))], [.inl 56, .inl (h 20 (zwd s 1 pp))], (zs h hl)) _
      refine zH_br (x := (h 20 (zwd s 1 pp))) (y := 56) (k := .ge) (c1 := (73, [some (.inr (.inr (some 22))), some (.inr (.inr (some (A)))), some (.inl (s : Int)), some (.inl (pp : Int)), some (.inl 1000000), some (.inl 1), some (.inl (h 20 (zwd s 1 pp)))], [], (zs h hl))) (c2 := (47, [some (.inr (.inr (some 22))), some (.inr (.inr (some (A)))), some (.inl (s : Int)), some (.inl (pp : Int)), some (.inl 1000000), some (.inl 1), some (.inl (h 20 (zwd s 1 pp)))], [], (zs h hl))) rfl (by first | assumption | (unfold zr; omega)) ⟨by decide, by decide⟩ (fun (b_7 : ¬ (h 20 (zwd s 1 pp)) < 56) => ?_) (fun (b_7 : ¬ (¬ (h 20 (zwd s 1 pp)) < 56)) => ?_)
      · refine zH_go 6 (c' := (16, [some (.inr (.inr (some 22))), some (.inr (.inr (some (A)))), some (.inl (s : Int)), some (.inl (pp : Int)), some (.inl 1000000), some (.inl 2), some (.inl (h 20 (zwd s 1 pp)))], [.inl (h 18 1), .inl 2], (zs h hl))) rfl ?_
        rw [hL]
        refine zH_bt (x := 2) (y := 2) (k := .ge) (c1 := (79, [some (.inr (.inr (some 22))), some (.inr (.inr (some (A)))), some (.inl (s : Int)), some (.inl (pp : Int)), some (.inl 1000000), some (.inl 2), some (.inl (h 20 (zwd s 1 pp)))], [], (zs h hl))) (c2 := (19, [some (.inr (.inr (some 22))), some (.inr (.inr (some (A)))), some (.inl (s : Int)), some (.inl (pp : Int)), some (.inl 1000000), some (.inl 2), some (.inl (h 20 (zwd s 1 pp)))], [], (zs h hl))) rfl ⟨by decide, by decide⟩ ⟨by decide, by decide⟩ (by show ¬ 2 < 2; decide) ?_
        refine zH_go 1 (c' := (81, [some (.inr (.inr (some 22))), some (.inr (.inr (some (A)))), some (.inl (s : Int)), some (.inl (pp : Int)), some (.inl 1000000), some (.inl 2), some (.inl (h 20 (zwd s 1 pp)))], [.inl 1000000], (zs h hl))) rfl ?_
        refine zH_ret (v := some (.inl 1000000)) rfl (fun q => absurd q (by decide)) ?_
        refine ⟨congrArg (fun z => some (Sum.inl z)) ?_, rfl⟩
        unfold zAf
        rw [if_neg (by decide), if_pos rfl]
        omega
      · refine zH_go 3 (c' := (52, [some (.inr (.inr (some 22))), some (.inr (.inr (some (A)))), some (.inl (s : Int)), some (.inl (pp : Int)), some (.inl 1000000), some (.inl 1), some (.inl (h 20 (zwd s 1 pp)))], [.inl (h 20 (zwd s 1 pp)), .inr (.inr (some (A))), .inl 1000000], (zs h hl))) rfl ?_
        refine zH_ial rfl (n := 56) hsh (by omega) (by omega) ?_
        show zH _ _ (53, [some (.inr (.inr (some 22))), some (.inr (.inr (some (A)))), some (.inl (s : Int)), some (.inl (pp : Int)), some (.inl 1000000), some (.inl 1), some (.inl (h 20 (zwd s 1 pp)))], [.inl (h A (Int.toNat (h 20 (zwd s 1 pp)))), .inl 1000000], (zs h hl)) _
        refine zH_go 5 (c' := (61, [some (.inr (.inr (some 22))), some (.inr (.inr (some (A)))), some (.inl (s : Int)), some (.inl (pp : Int)), some (.inl 1000000), some (.inl 1), some (.inl (h 20 (zwd s 1 pp)))], [.inl 1, .inl (s : Int), .inl (pp : Int), .inr (.inr (some 3)), .inl (h A (Int.toNat (h 20 (zwd s 1 pp)))), .inl 1000000], (zs h hl))) rfl ?_
        refine zH_call (M' := 100) (as := [.inl (s : Int), .inl 1]) (T := [.inl (pp : Int), .inr (.inr (some 3)), .inl (h A (Int.toNat (h 20 (zwd s 1 pp)))), .inl 1000000]) rfl (p_digit (n := s) (i := 1) (by omega) (by decide)) (fun r σ' p_8 => ?_)
        obtain ⟨rfl, rfl⟩ := p_8
        show zH _ _ (64, [some (.inr (.inr (some 22))), some (.inr (.inr (some (A)))), some (.inl (s : Int)), some (.inl (pp : Int)), some (.inl 1000000), some (.inl 1), some (.inl (h 20 (zwd s 1 pp)))], [.inl ((zdg s 1 : Nat) : Int), .inl (pp : Int), .inr (.inr (some 3)), .inl (h A (Int.toNat (h 20 (zwd s 1 pp)))), .inl 1000000], (zs h hl)) _
        refine zH_call (M' := 52) (as := [.inr (.inr (some 3)), .inl (pp : Int), .inl ((zdg s 1 : Nat) : Int)]) (T := [.inl (h A (Int.toNat (h 20 (zwd s 1 pp)))), .inl 1000000]) rfl (p_gap (a := pp) (b := zdg s 1) (by omega) (by omega)) (fun r σ' p_9 => ?_)
        obtain ⟨rfl, rfl⟩ := p_9
        show zH _ _ (67, [some (.inr (.inr (some 22))), some (.inr (.inr (some (A)))), some (.inl (s : Int)), some (.inl (pp : Int)), some (.inl 1000000), some (.inl 1), some (.inl (h 20 (zwd s 1 pp)))], [.inl (h (12 + pp) (zdg s 1)), .inl (h A (Int.toNat (h 20 (zwd s 1 pp)))), .inl 1000000], (zs h hl)) _
        refine zH_go 1 (c' := (68, [some (.inr (.inr (some 22))), some (.inr (.inr (some (A)))), some (.inl (s : Int)), some (.inl (pp : Int)), some (.inl 1000000), some (.inl 1), some (.inl (h 20 (zwd s 1 pp)))], [.inl ((h A (Int.toNat (h 20 (zwd s 1 pp)))) + (h (12 + pp) (zdg s 1))), .inl 1000000], (zs h hl))) rfl ?_
        refine zH_np (P := zr 1000000 ∧ zr ((h A (Int.toNat (h 20 (zwd s 1 pp)))) + (h (12 + pp) (zdg s 1)))) (c' := (71, [some (.inr (.inr (some 22))), some (.inr (.inr (some (A)))), some (.inl (s : Int)), some (.inl (pp : Int)), some (.inl 1000000), some (.inl 1), some (.inl (h 20 (zwd s 1 pp)))], [.inl (if ((h A (Int.toNat (h 20 (zwd s 1 pp)))) + (h (12 + pp) (zdg s 1))) < 1000000 then ((h A (Int.toNat (h 20 (zwd s 1 pp)))) + (h (12 + pp) (zdg s 1))) else 1000000)], (zs h hl))) rfl ⟨⟨by decide, by decide⟩, (by first | assumption | (unfold zr; omega))⟩ ?_
        obtain ⟨m_10, em_10, fm_10⟩ := zmin_spec 1000000 ((h A (Int.toNat (h 20 (zwd s 1 pp)))) + (h (12 + pp) (zdg s 1)))
        rw [em_10]
        refine zH_go 7 (c' := (16, [some (.inr (.inr (some 22))), some (.inr (.inr (some (A)))), some (.inl (s : Int)), some (.inl (pp : Int)), some (.inl m_10), some (.inl 2), some (.inl (h 20 (zwd s 1 pp)))], [.inl (h 18 1), .inl 2], (zs h hl))) rfl ?_
        rw [hL]
        refine zH_bt (x := 2) (y := 2) (k := .ge) (c1 := (79, [some (.inr (.inr (some 22))), some (.inr (.inr (some (A)))), some (.inl (s : Int)), some (.inl (pp : Int)), some (.inl m_10), some (.inl 2), some (.inl (h 20 (zwd s 1 pp)))], [], (zs h hl))) (c2 := (19, [some (.inr (.inr (some 22))), some (.inr (.inr (some (A)))), some (.inl (s : Int)), some (.inl (pp : Int)), some (.inl m_10), some (.inl 2), some (.inl (h 20 (zwd s 1 pp)))], [], (zs h hl))) rfl ⟨by decide, by decide⟩ ⟨by decide, by decide⟩ (by show ¬ 2 < 2; decide) ?_
        refine zH_go 1 (c' := (81, [some (.inr (.inr (some 22))), some (.inr (.inr (some (A)))), some (.inl (s : Int)), some (.inl (pp : Int)), some (.inl m_10), some (.inl 2), some (.inl (h 20 (zwd s 1 pp)))], [.inl m_10], (zs h hl))) rfl ?_
        refine zH_ret (v := some (.inl m_10)) rfl (fun q => absurd q (by decide)) ?_
        refine ⟨congrArg (fun z => some (Sum.inl z)) ?_, rfl⟩
        unfold zAf
        rw [if_neg (by decide), if_pos rfl]
        omega
  · refine zH_go 2 (c' := (43, [some (.inr (.inr (some 22))), some (.inr (.inr (some (A)))), some (.inl (s : Int)), some (.inl (pp : Int)), some (.inl 1000000), some (.inl 0), some (.inl (h 20 (zwd s 0 pp)))], [.inr (.inr (some (A))), .inl (h 20 (zwd s 0 pp))], (zs h hl))) rfl ?_
    refine zH_aln rfl (n := 56) (t := 0) hsh (by decide) ?_
    show zH _ _ (44, [some (.inr (.inr (some 22))), some (.inr (.inr (some (A)))), some (.inl (s : Int)), some (.inl (pp : Int)), some (.inl 1000000), some (.inl 0), some (.inl (h 20 (zwd s 0 pp)))], [.inl 56, .inl (h 20 (zwd s 0 pp))], (zs h hl)) _
    refine zH_br (x := (h 20 (zwd s 0 pp))) (y := 56) (k := .ge) (c1 := (73, [some (.inr (.inr (some 22))), some (.inr (.inr (some (A)))), some (.inl (s : Int)), some (.inl (pp : Int)), some (.inl 1000000), some (.inl 0), some (.inl (h 20 (zwd s 0 pp)))], [], (zs h hl))) (c2 := (47, [some (.inr (.inr (some 22))), some (.inr (.inr (some (A)))), some (.inl (s : Int)), some (.inl (pp : Int)), some (.inl 1000000), some (.inl 0), some (.inl (h 20 (zwd s 0 pp)))], [], (zs h hl))) rfl (by first | assumption | (unfold zr; omega)) ⟨by decide, by decide⟩ (fun (b_11 : ¬ (h 20 (zwd s 0 pp)) < 56) => ?_) (fun (b_11 : ¬ (¬ (h 20 (zwd s 0 pp)) < 56)) => ?_)
    · refine zH_go 6 (c' := (16, [some (.inr (.inr (some 22))), some (.inr (.inr (some (A)))), some (.inl (s : Int)), some (.inl (pp : Int)), some (.inl 1000000), some (.inl 1), some (.inl (h 20 (zwd s 0 pp)))], [.inl (h 18 1), .inl 1], (zs h hl))) rfl ?_
      rw [hL]
      refine zH_bf (x := 1) (y := 2) (k := .ge) (c1 := (79, [some (.inr (.inr (some 22))), some (.inr (.inr (some (A)))), some (.inl (s : Int)), some (.inl (pp : Int)), some (.inl 1000000), some (.inl 1), some (.inl (h 20 (zwd s 0 pp)))], [], (zs h hl))) (c2 := (19, [some (.inr (.inr (some 22))), some (.inr (.inr (some (A)))), some (.inl (s : Int)), some (.inl (pp : Int)), some (.inl 1000000), some (.inl 1), some (.inl (h 20 (zwd s 0 pp)))], [], (zs h hl))) rfl ⟨by decide, by decide⟩ ⟨by decide, by decide⟩ (by show ¬ (¬ 1 < 2); decide) ?_
      refine zH_go 5 (c' := (27, [some (.inr (.inr (some 22))), some (.inr (.inr (some (A)))), some (.inl (s : Int)), some (.inl (pp : Int)), some (.inl 1000000), some (.inl 1), some (.inl (h 20 (zwd s 0 pp)))], [.inl (pp : Int), .inl 1, .inl (s : Int), .inr (.inr (some 18))], (zs h hl))) rfl ?_
      refine zH_call (M' := 101) (as := [.inl (s : Int), .inl 1, .inl (pp : Int)]) (T := [.inr (.inr (some 18))]) rfl (p_withDigit (n := s) (i := 1) (v := pp) (by omega) (by decide) (by omega)) (fun r σ' p_12 => ?_)
      obtain ⟨rfl, rfl⟩ := p_12
      show zH _ _ (30, [some (.inr (.inr (some 22))), some (.inr (.inr (some (A)))), some (.inl (s : Int)), some (.inl (pp : Int)), some (.inl 1000000), some (.inl 1), some (.inl (h 20 (zwd s 0 pp)))], [.inl ((zwd s 1 pp : Nat) : Int), .inr (.inr (some 18))], (zs h hl)) _
      refine zH_call (M' := 44) (as := [.inr (.inr (some 18)), .inl ((zwd s 1 pp : Nat) : Int)]) (T := []) rfl (p_slot (n := zwd s 1 pp) (by omega)) (fun r σ' p_13 => ?_)
      obtain ⟨rfl, rfl⟩ := p_13
      show zH _ _ (33, [some (.inr (.inr (some 22))), some (.inr (.inr (some (A)))), some (.inl (s : Int)), some (.inl (pp : Int)), some (.inl 1000000), some (.inl 1), some (.inl (h 20 (zwd s 0 pp)))], [.inl (h 20 (zwd s 1 pp))], (zs h hl)) _
      refine zH_go 2 (c' := (37, [some (.inr (.inr (some 22))), some (.inr (.inr (some (A)))), some (.inl (s : Int)), some (.inl (pp : Int)), some (.inl 1000000), some (.inl 1), some (.inl (h 20 (zwd s 1 pp)))], [.inl (h 20 (zwd s 1 pp))], (zs h hl))) rfl ?_
      refine zH_br (x := (h 20 (zwd s 1 pp))) (y := 0) (k := .lt) (c1 := (73, [some (.inr (.inr (some 22))), some (.inr (.inr (some (A)))), some (.inl (s : Int)), some (.inl (pp : Int)), some (.inl 1000000), some (.inl 1), some (.inl (h 20 (zwd s 1 pp)))], [], (zs h hl))) (c2 := (40, [some (.inr (.inr (some 22))), some (.inr (.inr (some (A)))), some (.inl (s : Int)), some (.inl (pp : Int)), some (.inl 1000000), some (.inl 1), some (.inl (h 20 (zwd s 1 pp)))], [], (zs h hl))) rfl (by first | assumption | (unfold zr; omega)) ⟨by decide, by decide⟩ (fun (b_14 : (h 20 (zwd s 1 pp)) < 0) => ?_) (fun (b_14 : ¬ ((h 20 (zwd s 1 pp)) < 0)) => ?_)
      · refine zH_go 6 (c' := (16, [some (.inr (.inr (some 22))), some (.inr (.inr (some (A)))), some (.inl (s : Int)), some (.inl (pp : Int)), some (.inl 1000000), some (.inl 2), some (.inl (h 20 (zwd s 1 pp)))], [.inl (h 18 1), .inl 2], (zs h hl))) rfl ?_
        rw [hL]
        refine zH_bt (x := 2) (y := 2) (k := .ge) (c1 := (79, [some (.inr (.inr (some 22))), some (.inr (.inr (some (A)))), some (.inl (s : Int)), some (.inl (pp : Int)), some (.inl 1000000), some (.inl 2), some (.inl (h 20 (zwd s 1 pp)))], [], (zs h hl))) (c2 := (19, [some (.inr (.inr (some 22))), some (.inr (.inr (some (A)))), some (.inl (s : Int)), some (.inl (pp : Int)), some (.inl 1000000), some (.inl 2), some (.inl (h 20 (zwd s 1 pp)))], [], (zs h hl))) rfl ⟨by decide, by decide⟩ ⟨by decide, by decide⟩ (by show ¬ 2 < 2; decide) ?_
        refine zH_go 1 (c' := (81, [some (.inr (.inr (some 22))), some (.inr (.inr (some (A)))), some (.inl (s : Int)), some (.inl (pp : Int)), some (.inl 1000000), some (.inl 2), some (.inl (h 20 (zwd s 1 pp)))], [.inl 1000000], (zs h hl))) rfl ?_
        refine zH_ret (v := some (.inl 1000000)) rfl (fun q => absurd q (by decide)) ?_
        refine ⟨congrArg (fun z => some (Sum.inl z)) ?_, rfl⟩
        unfold zAf
        rw [if_neg (by decide), if_pos rfl]
        omega
      · refine zH_go 2 (c' := (43, [some (.inr (.inr (some 22))), some (.inr (.inr (some (A)))), some (.inl (s : Int)), some (.inl (pp : Int)), some (.inl 1000000), some (.inl 1), some (.inl (h 20 (zwd s 1 pp)))], [.inr (.inr (some (A))), .inl (h 20 (zwd s 1 pp))], (zs h hl))) rfl ?_
        refine zH_aln rfl (n := 56) (t := 0) hsh (by decide) ?_
        show zH _ _ (44, [some (.inr (.inr (some 22))), some (.inr (.inr (some (A)))), some (.inl (s : Int)), some (.inl (pp : Int)), some (.inl 1000000), some (.inl 1), some (.inl (h 20 (zwd s 1 pp)))], [.inl 56, .inl (h 20 (zwd s 1 pp))], (zs h hl)) _
        refine zH_br (x := (h 20 (zwd s 1 pp))) (y := 56) (k := .ge) (c1 := (73, [some (.inr (.inr (some 22))), some (.inr (.inr (some (A)))), some (.inl (s : Int)), some (.inl (pp : Int)), some (.inl 1000000), some (.inl 1), some (.inl (h 20 (zwd s 1 pp)))], [], (zs h hl))) (c2 := (47, [some (.inr (.inr (some 22))), some (.inr (.inr (some (A)))), some (.inl (s : Int)), some (.inl (pp : Int)), some (.inl 1000000), some (.inl 1), some (.inl (h 20 (zwd s 1 pp)))], [], (zs h hl))) rfl (by first | assumption | (unfold zr; omega)) ⟨by decide, by decide⟩ (fun (b_15 : ¬ (h 20 (zwd s 1 pp)) < 56) => ?_) (fun (b_15 : ¬ (¬ (h 20 (zwd s 1 pp)) < 56)) => ?_)
        · refine zH_go 6 (c' := (16, [some (.inr (.inr (some 22))), some (.inr (.inr (some (A)))), some (.inl (s : Int)), some (.inl (pp : Int)), some (.inl 1000000), some (.inl 2), some (.inl (h 20 (zwd s 1 pp)))], [.inl (h 18 1), .inl 2], (zs h hl))) rfl ?_
          rw [hL]
          refine zH_bt (x := 2) (y := 2) (k := .ge) (c1 := (79, [some (.inr (.inr (some 22))), some (.inr (.inr (some (A)))), some (.inl (s : Int)), some (.inl (pp : Int)), some (.inl 1000000), some (.inl 2), some (.inl (h 20 (zwd s 1 pp)))], [], (zs h hl))) (c2 := (19, [some (.inr (.inr (some 22))), some (.inr (.inr (some (A)))), some (.inl (s : Int)), some (.inl (pp : Int)), some (.inl 1000000), some (.inl 2), some (.inl (h 20 (zwd s 1 pp)))], [], (zs h hl))) rfl ⟨by decide, by decide⟩ ⟨by decide, by decide⟩ (by show ¬ 2 < 2; decide) ?_
          refine zH_go 1 (c' := (81, [some (.inr (.inr (some 22))), some (.inr (.inr (some (A)))), some (.inl (s : Int)), some (.inl (pp : Int)), some (.inl 1000000), some (.inl 2), some (.inl (h 20 (zwd s 1 pp)))], [.inl 1000000], (zs h hl))) rfl ?_
          refine zH_ret (v := some (.inl 1000000)) rfl (fun q => absurd q (by decide)) ?_
          refine ⟨congrArg (fun z => some (Sum.inl z)) ?_, rfl⟩
          unfold zAf
          rw [if_neg (by decide), if_pos rfl]
          omega
        · refine zH_go 3 (c' := (52, [some (.inr (.inr (some 22))), some (.inr (.inr (some (A)))), some (.inl (s : Int)), some (.inl (pp : Int)), some (.inl 1000000), some (.inl 1), some (.inl (h 20 (zwd s 1 pp)))], [.inl (h 20 (zwd s 1 pp)), .inr (.inr (some (A))), .inl 1000000], (zs h hl))) rfl ?_
          refine zH_ial rfl (n := 56) hsh (by omega) (by omega) ?_
          show zH _ _ (53, [some (.inr (.inr (some 22))), some (.inr (.inr (some (A)))), some (.inl (s : Int)), some (.inl (pp : Int)), some (.inl 1000000), some (.inl 1), some (.inl (h 20 (zwd s 1 pp)))], [.inl (h A (Int.toNat (h 20 (zwd s 1 pp)))), .inl 1000000], (zs h hl)) _
          refine zH_go 5 (c' := (61, [some (.inr (.inr (some 22))), some (.inr (.inr (some (A)))), some (.inl (s : Int)), some (.inl (pp : Int)), some (.inl 1000000), some (.inl 1), some (.inl (h 20 (zwd s 1 pp)))], [.inl 1, .inl (s : Int), .inl (pp : Int), .inr (.inr (some 3)), .inl (h A (Int.toNat (h 20 (zwd s 1 pp)))), .inl 1000000], (zs h hl))) rfl ?_
          refine zH_call (M' := 100) (as := [.inl (s : Int), .inl 1]) (T := [.inl (pp : Int), .inr (.inr (some 3)), .inl (h A (Int.toNat (h 20 (zwd s 1 pp)))), .inl 1000000]) rfl (p_digit (n := s) (i := 1) (by omega) (by decide)) (fun r σ' p_16 => ?_)
          obtain ⟨rfl, rfl⟩ := p_16
          show zH _ _ (64, [some (.inr (.inr (some 22))), some (.inr (.inr (some (A)))), some (.inl (s : Int)), some (.inl (pp : Int)), some (.inl 1000000), some (.inl 1), some (.inl (h 20 (zwd s 1 pp)))], [.inl ((zdg s 1 : Nat) : Int), .inl (pp : Int), .inr (.inr (some 3)), .inl (h A (Int.toNat (h 20 (zwd s 1 pp)))), .inl 1000000], (zs h hl)) _
          refine zH_call (M' := 52) (as := [.inr (.inr (some 3)), .inl (pp : Int), .inl ((zdg s 1 : Nat) : Int)]) (T := [.inl (h A (Int.toNat (h 20 (zwd s 1 pp)))), .inl 1000000]) rfl (p_gap (a := pp) (b := zdg s 1) (by omega) (by omega)) (fun r σ' p_17 => ?_)
          obtain ⟨rfl, rfl⟩ := p_17
          show zH _ _ (67, [some (.inr (.inr (some 22))), some (.inr (.inr (some (A)))), some (.inl (s : Int)), some (.inl (pp : Int)), some (.inl 1000000), some (.inl 1), some (.inl (h 20 (zwd s 1 pp)))], [.inl (h (12 + pp) (zdg s 1)), .inl (h A (Int.toNat (h 20 (zwd s 1 pp)))), .inl 1000000], (zs h hl)) _
          refine zH_go 1 (c' := (68, [some (.inr (.inr (some 22))), some (.inr (.inr (some (A)))), some (.inl (s : Int)), some (.inl (pp : Int)), some (.inl 1000000), some (.inl 1), some (.inl (h 20 (zwd s 1 pp)))], [.inl ((h A (Int.toNat (h 20 (zwd s 1 pp)))) + (h (12 + pp) (zdg s 1))), .inl 1000000], (zs h hl))) rfl ?_
          refine zH_np (P := zr 1000000 ∧ zr ((h A (Int.toNat (h 20 (zwd s 1 pp)))) + (h (12 + pp) (zdg s 1)))) (c' := (71, [some (.inr (.inr (some 22))), some (.inr (.inr (some (A)))), some (.inl (s : Int)), some (.inl (pp : Int)), some (.inl 1000000), some (.inl 1), some (.inl (h 20 (zwd s 1 pp)))], [.inl (if ((h A (Int.toNat (h 20 (zwd s 1 pp)))) + (h (12 + pp) (zdg s 1))) < 1000000 then ((h A (Int.toNat (h 20 (zwd s 1 pp)))) + (h (12 + pp) (zdg s 1))) else 1000000)], (zs h hl))) rfl ⟨⟨by decide, by decide⟩, (by first | assumption | (unfold zr; omega))⟩ ?_
          obtain ⟨m_18, em_18, fm_18⟩ := zmin_spec 1000000 ((h A (Int.toNat (h 20 (zwd s 1 pp)))) + (h (12 + pp) (zdg s 1)))
          rw [em_18]
          refine zH_go 7 (c' := (16, [some (.inr (.inr (some 22))), some (.inr (.inr (some (A)))), some (.inl (s : Int)), some (.inl (pp : Int)), some (.inl m_18), some (.inl 2), some (.inl (h 20 (zwd s 1 pp)))], [.inl (h 18 1), .inl 2], (zs h hl))) rfl ?_
          rw [hL]
          refine zH_bt (x := 2) (y := 2) (k := .ge) (c1 := (79, [some (.inr (.inr (some 22))), some (.inr (.inr (some (A)))), some (.inl (s : Int)), some (.inl (pp : Int)), some (.inl m_18), some (.inl 2), some (.inl (h 20 (zwd s 1 pp)))], [], (zs h hl))) (c2 := (19, [some (.inr (.inr (some 22))), some (.inr (.inr (some (A)))), some (.inl (s : Int)), some (.inl (pp : Int)), some (.inl m_18), some (.inl 2), some (.inl (h 20 (zwd s 1 pp)))], [], (zs h hl))) rfl ⟨by decide, by decide⟩ ⟨by decide, by decide⟩ (by show ¬ 2 < 2; decide) ?_
          refine zH_go 1 (c' := (81, [some (.inr (.inr (some 22))), some (.inr (.inr (some (A)))), some (.inl (s : Int)), some (.inl (pp : Int)), some (.inl m_18), some (.inl 2), some (.inl (h 20 (zwd s 1 pp)))], [.inl m_18], (zs h hl))) rfl ?_
          refine zH_ret (v := some (.inl m_18)) rfl (fun q => absurd q (by decide)) ?_
          refine ⟨congrArg (fun z => some (Sum.inl z)) ?_, rfl⟩
          unfold zAf
          rw [if_neg (by decide), if_pos rfl]
          omega
    · refine zH_go 3 (c' := (52, [some (.inr (.inr (some 22))), some (.inr (.inr (some (A)))), some (.inl (s : Int)), some (.inl (pp : Int)), some (.inl 1000000), some (.inl 0), some (.inl (h 20 (zwd s 0 pp)))], [.inl (h 20 (zwd s 0 pp)), .inr (.inr (some (A))), .inl 1000000], (zs h hl))) rfl ?_
      refine zH_ial rfl (n := 56) hsh (by omega) (by omega) ?_
      show zH _ _ (53, [some (.inr (.inr (some 22))), some (.inr (.inr (some (A)))), some (.inl (s : Int)), some (.inl (pp : Int)), some (.inl 1000000), some (.inl 0), some (.inl (h 20 (zwd s 0 pp)))], [.inl (h A (Int.toNat (h 20 (zwd s 0 pp)))), .inl 1000000], (zs h hl)) _
      refine zH_go 5 (c' := (61, [some (.inr (.inr (some 22))), some (.inr (.inr (some (A)))), some (.inl (s : Int)), some (.inl (pp : Int)), some (.inl 1000000), some (.inl 0), some (.inl (h 20 (zwd s 0 pp)))], [.inl 0, .inl (s : Int), .inl (pp : Int), .inr (.inr (some 3)), .inl (h A (Int.toNat (h 20 (zwd s 0 pp)))), .inl 1000000], (zs h hl))) rfl ?_
      refine zH_call (M' := 100) (as := [.inl (s : Int), .inl 0]) (T := [.inl (pp : Int), .inr (.inr (some 3)), .inl (h A (Int.toNat (h 20 (zwd s 0 pp)))), .inl 1000000]) rfl (p_digit (n := s) (i := 0) (by omega) (by decide)) (fun r σ' p_19 => ?_)
      obtain ⟨rfl, rfl⟩ := p_19
      show zH _ _ (64, [some (.inr (.inr (some 22))), some (.inr (.inr (some (A)))), some (.inl (s : Int)), some (.inl (pp : Int)), some (.inl 1000000), some (.inl 0), some (.inl (h 20 (zwd s 0 pp)))], [.inl ((zdg s 0 : Nat) : Int), .inl (pp : Int), .inr (.inr (some 3)), .inl (h A (Int.toNat (h 20 (zwd s 0 pp)))), .inl 1000000], (zs h hl)) _
      refine zH_call (M' := 52) (as := [.inr (.inr (some 3)), .inl (pp : Int), .inl ((zdg s 0 : Nat) : Int)]) (T := [.inl (h A (Int.toNat (h 20 (zwd s 0 pp)))), .inl 1000000]) rfl (p_gap (a := pp) (b := zdg s 0) (by omega) (by omega)) (fun r σ' p_20 => ?_)
      obtain ⟨rfl, rfl⟩ := p_20
      show zH _ _ (67, [some (.inr (.inr (some 22))), some (.inr (.inr (some (A)))), some (.inl (s : Int)), some (.inl (pp : Int)), some (.inl 1000000), some (.inl 0), some (.inl (h 20 (zwd s 0 pp)))], [.inl (h (12 + pp) (zdg s 0)), .inl (h A (Int.toNat (h 20 (zwd s 0 pp)))), .inl 1000000], (zs h hl)) _
      refine zH_go 1 (c' := (68, [some (.inr (.inr (some 22))), some (.inr (.inr (some (A)))), some (.inl (s : Int)), some (.inl (pp : Int)), some (.inl 1000000), some (.inl 0), some (.inl (h 20 (zwd s 0 pp)))], [.inl ((h A (Int.toNat (h 20 (zwd s 0 pp)))) + (h (12 + pp) (zdg s 0))), .inl 1000000], (zs h hl))) rfl ?_
      refine zH_np (P := zr 1000000 ∧ zr ((h A (Int.toNat (h 20 (zwd s 0 pp)))) + (h (12 + pp) (zdg s 0)))) (c' := (71, [some (.inr (.inr (some 22))), some (.inr (.inr (some (A)))), some (.inl (s : Int)), some (.inl (pp : Int)), some (.inl 1000000), some (.inl 0), some (.inl (h 20 (zwd s 0 pp)))], [.inl (if ((h A (Int.toNat (h 20 (zwd s 0 pp)))) + (h (12 + pp) (zdg s 0))) < 1000000 then ((h A (Int.toNat (h 20 (zwd s 0 pp)))) + (h (12 + pp) (zdg s 0))) else 1000000)], (zs h hl))) rfl ⟨⟨by decide, by decide⟩, (by first | assumption | (unfold zr; omega))⟩ ?_
      obtain ⟨m_21, em_21, fm_21⟩ := zmin_spec 1000000 ((h A (Int.toNat (h 20 (zwd s 0 pp)))) + (h (12 + pp) (zdg s 0)))
      rw [em_21]
      refine zH_go 7 (c' := (16, [some (.inr (.inr (some 22))), some (.inr (.inr (some (A)))), some (.inl (s : Int)), some (.inl (pp : Int)), some (.inl m_21), some (.inl 1), some (.inl (h 20 (zwd s 0 pp)))], [.inl (h 18 1), .inl 1], (zs h hl))) rfl ?_
      rw [hL]
      refine zH_bf (x := 1) (y := 2) (k := .ge) (c1 := (79, [some (.inr (.inr (some 22))), some (.inr (.inr (some (A)))), some (.inl (s : Int)), some (.inl (pp : Int)), some (.inl m_21), some (.inl 1), some (.inl (h 20 (zwd s 0 pp)))], [], (zs h hl))) (c2 := (19, [some (.inr (.inr (some 22))), some (.inr (.inr (some (A)))), some (.inl (s : Int)), some (.inl (pp : Int)), some (.inl m_21), some (.inl 1), some (.inl (h 20 (zwd s 0 pp)))], [], (zs h hl))) rfl ⟨by decide, by decide⟩ ⟨by decide, by decide⟩ (by show ¬ (¬ 1 < 2); decide) ?_
      refine zH_go 5 (c' := (27, [some (.inr (.inr (some 22))), some (.inr (.inr (some (A)))), some (.inl (s : Int)), some (.inl (pp : Int)), some (.inl m_21), some (.inl 1), some (.inl (h 20 (zwd s 0 pp)))], [.inl (pp : Int), .inl 1, .inl (s : Int), .inr (.inr (some 18))], (zs h hl))) rfl ?_
      refine zH_call (M' := 101) (as := [.inl (s : Int), .inl 1, .inl (pp : Int)]) (T := [.inr (.inr (some 18))]) rfl (p_withDigit (n := s) (i := 1) (v := pp) (by omega) (by decide) (by omega)) (fun r σ' p_22 => ?_)
      obtain ⟨rfl, rfl⟩ := p_22
      show zH _ _ (30, [some (.inr (.inr (some 22))), some (.inr (.inr (some (A)))), some (.inl (s : Int)), some (.inl (pp : Int)), some (.inl m_21), some (.inl 1), some (.inl (h 20 (zwd s 0 pp)))], [.inl ((zwd s 1 pp : Nat) : Int), .inr (.inr (some 18))], (zs h hl)) _
      refine zH_call (M' := 44) (as := [.inr (.inr (some 18)), .inl ((zwd s 1 pp : Nat) : Int)]) (T := []) rfl (p_slot (n := zwd s 1 pp) (by omega)) (fun r σ' p_23 => ?_)
      obtain ⟨rfl, rfl⟩ := p_23
      show zH _ _ (33, [some (.inr (.inr (some 22))), some (.inr (.inr (some (A)))), some (.inl (s : Int)), some (.inl (pp : Int)), some (.inl m_21), some (.inl 1), some (.inl (h 20 (zwd s 0 pp)))], [.inl (h 20 (zwd s 1 pp))], (zs h hl)) _
      refine zH_go 2 (c' := (37, [some (.inr (.inr (some 22))), some (.inr (.inr (some (A)))), some (.inl (s : Int)), some (.inl (pp : Int)), some (.inl m_21), some (.inl 1), some (.inl (h 20 (zwd s 1 pp)))], [.inl (h 20 (zwd s 1 pp))], (zs h hl))) rfl ?_
      refine zH_br (x := (h 20 (zwd s 1 pp))) (y := 0) (k := .lt) (c1 := (73, [some (.inr (.inr (some 22))), some (.inr (.inr (some (A)))), some (.inl (s : Int)), some (.inl (pp : Int)), some (.inl m_21), some (.inl 1), some (.inl (h 20 (zwd s 1 pp)))], [], (zs h hl))) (c2 := (40, [some (.inr (.inr (some 22))), some (.inr (.inr (some (A)))), some (.inl (s : Int)), some (.inl (pp : Int)), some (.inl m_21), some (.inl 1), some (.inl (h 20 (zwd s 1 pp)))], [], (zs h hl))) rfl (by first | assumption | (unfold zr; omega)) ⟨by decide, by decide⟩ (fun (b_24 : (h 20 (zwd s 1 pp)) < 0) => ?_) (fun (b_24 : ¬ ((h 20 (zwd s 1 pp)) < 0)) => ?_)
      · refine zH_go 6 (c' := (16, [some (.inr (.inr (some 22))), some (.inr (.inr (some (A)))), some (.inl (s : Int)), some (.inl (pp : Int)), some (.inl m_21), some (.inl 2), some (.inl (h 20 (zwd s 1 pp)))], [.inl (h 18 1), .inl 2], (zs h hl))) rfl ?_
        rw [hL]
        refine zH_bt (x := 2) (y := 2) (k := .ge) (c1 := (79, [some (.inr (.inr (some 22))), some (.inr (.inr (some (A)))), some (.inl (s : Int)), some (.inl (pp : Int)), some (.inl m_21), some (.inl 2), some (.inl (h 20 (zwd s 1 pp)))], [], (zs h hl))) (c2 := (19, [some (.inr (.inr (some 22))), some (.inr (.inr (some (A)))), some (.inl (s : Int)), some (.inl (pp : Int)), some (.inl m_21), some (.inl 2), some (.inl (h 20 (zwd s 1 pp)))], [], (zs h hl))) rfl ⟨by decide, by decide⟩ ⟨by decide, by decide⟩ (by show ¬ 2 < 2; decide) ?_
        refine zH_go 1 (c' := (81, [some (.inr (.inr (some 22))), some (.inr (.inr (some (A)))), some (.inl (s : Int)), some (.inl (pp : Int)), some (.inl m_21), some (.inl 2), some (.inl (h 20 (zwd s 1 pp)))], [.inl m_21], (zs h hl))) rfl ?_
        refine zH_ret (v := some (.inl m_21)) rfl (fun q => absurd q (by decide)) ?_
        refine ⟨congrArg (fun z => some (Sum.inl z)) ?_, rfl⟩
        unfold zAf
        rw [if_neg (by decide), if_pos rfl]
        omega
      · refine zH_go 2 (c' := (43, [some (.inr (.inr (some 22))), some (.inr (.inr (some (A)))), some (.inl (s : Int)), some (.inl (pp : Int)), some (.inl m_21), some (.inl 1), some (.inl (h 20 (zwd s 1 pp)))], [.inr (.inr (some (A))), .inl (h 20 (zwd s 1 pp))], (zs h hl))) rfl ?_
        refine zH_aln rfl (n := 56) (t := 0) hsh (by decide) ?_
        show zH _ _ (44, [some (.inr (.inr (some 22))), some (.inr (.inr (some (A)))), some (.inl (s : Int)), some (.inl (pp : Int)), some (.inl m_21), some (.inl 1), some (.inl (h 20 (zwd s 1 pp)))], [.inl 56, .inl (h 20 (zwd s 1 pp))], (zs h hl)) _
        refine zH_br (x := (h 20 (zwd s 1 pp))) (y := 56) (k := .ge) (c1 := (73, [some (.inr (.inr (some 22))), some (.inr (.inr (some (A)))), some (.inl (s : Int)), some (.inl (pp : Int)), some (.inl m_21), some (.inl 1), some (.inl (h 20 (zwd s 1 pp)))], [], (zs h hl))) (c2 := (47, [some (.inr (.inr (some 22))), some (.inr (.inr (some (A)))), some (.inl (s : Int)), some (.inl (pp : Int)), some (.inl m_21), some (.inl 1), some (.inl (h 20 (zwd s 1 pp)))], [], (zs h hl))) rfl (by first | assumption | (unfold zr; omega)) ⟨by decide, by decide⟩ (fun (b_25 : ¬ (h 20 (zwd s 1 pp)) < 56) => ?_) (fun (b_25 : ¬ (¬ (h 20 (zwd s 1 pp)) < 56)) => ?_)
        · refine zH_go 6 (c' := (16, [some (.inr (.inr (some 22))), some (.inr (.inr (some (A)))), some (.inl (s : Int)), some (.inl (pp : Int)), some (.inl m_21), some (.inl 2), some (.inl (h 20 (zwd s 1 pp)))], [.inl (h 18 1), .inl 2], (zs h hl))) rfl ?_
          rw [hL]
          refine zH_bt (x := 2) (y := 2) (k := .ge) (c1 := (79, [some (.inr (.inr (some 22))), some (.inr (.inr (some (A)))), some (.inl (s : Int)), some (.inl (pp : Int)), some (.inl m_21), some (.inl 2), some (.inl (h 20 (zwd s 1 pp)))], [], (zs h hl))) (c2 := (19, [some (.inr (.inr (some 22))), some (.inr (.inr (some (A)))), some (.inl (s : Int)), some (.inl (pp : Int)), some (.inl m_21), some (.inl 2), some (.inl (h 20 (zwd s 1 pp)))], [], (zs h hl))) rfl ⟨by decide, by decide⟩ ⟨by decide, by decide⟩ (by show ¬ 2 < 2; decide) ?_
          refine zH_go 1 (c' := (81, [some (.inr (.inr (some 22))), some (.inr (.inr (some (A)))), some (.inl (s : Int)), some (.inl (pp : Int)), some (.inl m_21), some (.inl 2), some (.inl (h 20 (zwd s 1 pp)))], [.inl m_21], (zs h hl))) rfl ?_
          refine zH_ret (v := some (.inl m_21)) rfl (fun q => absurd q (by decide)) ?_
          refine ⟨congrArg (fun z => some (Sum.inl z)) ?_, rfl⟩
          unfold zAf
          rw [if_neg (by decide), if_pos rfl]
          omega
        · refine zH_go 3 (c' := (52, [some (.inr (.inr (some 22))), some (.inr (.inr (some (A)))), some (.inl (s : Int)), some (.inl (pp : Int)), some (.inl m_21), some (.inl 1), some (.inl (h 20 (zwd s 1 pp)))], [.inl (h 20 (zwd s 1 pp)), .inr (.inr (some (A))), .inl m_21], (zs h hl))) rfl ?_
          refine zH_ial rfl (n := 56) hsh (by omega) (by omega) ?_
          show zH _ _ (53, [some (.inr (.inr (some 22))), some (.inr (.inr (some (A)))), some (.inl (s : Int)), some (.inl (pp : Int)), some (.inl m_21), some (.inl 1), some (.inl (h 20 (zwd s 1 pp)))], [.inl (h A (Int.toNat (h 20 (zwd s 1 pp)))), .inl m_21], (zs h hl)) _
          refine zH_go 5 (c' := (61, [some (.inr (.inr (some 22))), some (.inr (.inr (some (A)))), some (.inl (s : Int)), some (.inl (pp : Int)), some (.inl m_21), some (.inl 1), some (.inl (h 20 (zwd s 1 pp)))], [.inl 1, .inl (s : Int), .inl (pp : Int), .inr (.inr (some 3)), .inl (h A (Int.toNat (h 20 (zwd s 1 pp)))), .inl m_21], (zs h hl))) rfl ?_
          refine zH_call (M' := 100) (as := [.inl (s : Int), .inl 1]) (T := [.inl (pp : Int), .inr (.inr (some 3)), .inl (h A (Int.toNat (h 20 (zwd s 1 pp)))), .inl m_21]) rfl (p_digit (n := s) (i := 1) (by omega) (by decide)) (fun r σ' p_26 => ?_)
          obtain ⟨rfl, rfl⟩ := p_26
          show zH _ _ (64, [some (.inr (.inr (some 22))), some (.inr (.inr (some (A)))), some (.inl (s : Int)), some (.inl (pp : Int)), some (.inl m_21), some (.inl 1), some (.inl (h 20 (zwd s 1 pp)))], [.inl ((zdg s 1 : Nat) : Int), .inl (pp : Int), .inr (.inr (some 3)), .inl (h A (Int.toNat (h 20 (zwd s 1 pp)))), .inl m_21], (zs h hl)) _
          refine zH_call (M' := 52) (as := [.inr (.inr (some 3)), .inl (pp : Int), .inl ((zdg s 1 : Nat) : Int)]) (T := [.inl (h A (Int.toNat (h 20 (zwd s 1 pp)))), .inl m_21]) rfl (p_gap (a := pp) (b := zdg s 1) (by omega) (by omega)) (fun r σ' p_27 => ?_)
          obtain ⟨rfl, rfl⟩ := p_27
          show zH _ _ (67, [some (.inr (.inr (some 22))), some (.inr (.inr (some (A)))), some (.inl (s : Int)), some (.inl (pp : Int)), some (.inl m_21), some (.inl 1), some (.inl (h 20 (zwd s 1 pp)))], [.inl (h (12 + pp) (zdg s 1)), .inl (h A (Int.toNat (h 20 (zwd s 1 pp)))), .inl m_21], (zs h hl)) _
          refine zH_go 1 (c' := (68, [some (.inr (.inr (some 22))), some (.inr (.inr (some (A)))), some (.inl (s : Int)), some (.inl (pp : Int)), some (.inl m_21), some (.inl 1), some (.inl (h 20 (zwd s 1 pp)))], [.inl ((h A (Int.toNat (h 20 (zwd s 1 pp)))) + (h (12 + pp) (zdg s 1))), .inl m_21], (zs h hl))) rfl ?_
          refine zH_np (P := zr m_21 ∧ zr ((h A (Int.toNat (h 20 (zwd s 1 pp)))) + (h (12 + pp) (zdg s 1)))) (c' := (71, [some (.inr (.inr (some 22))), some (.inr (.inr (some (A)))), some (.inl (s : Int)), some (.inl (pp : Int)), some (.inl m_21), some (.inl 1), some (.inl (h 20 (zwd s 1 pp)))], [.inl (if ((h A (Int.toNat (h 20 (zwd s 1 pp)))) + (h (12 + pp) (zdg s 1))) < m_21 then ((h A (Int.toNat (h 20 (zwd s 1 pp)))) + (h (12 + pp) (zdg s 1))) else m_21)], (zs h hl))) rfl ⟨(by first | assumption | (unfold zr; omega)), (by first | assumption | (unfold zr; omega))⟩ ?_
          obtain ⟨m_28, em_28, fm_28⟩ := zmin_spec m_21 ((h A (Int.toNat (h 20 (zwd s 1 pp)))) + (h (12 + pp) (zdg s 1)))
          rw [em_28]
          refine zH_go 7 (c' := (16, [some (.inr (.inr (some 22))), some (.inr (.inr (some (A)))), some (.inl (s : Int)), some (.inl (pp : Int)), some (.inl m_28), some (.inl 2), some (.inl (h 20 (zwd s 1 pp)))], [.inl (h 18 1), .inl 2], (zs h hl))) rfl ?_
          rw [hL]
          refine zH_bt (x := 2) (y := 2) (k := .ge) (c1 := (79, [some (.inr (.inr (some 22))), some (.inr (.inr (some (A)))), some (.inl (s : Int)), some (.inl (pp : Int)), some (.inl m_28), some (.inl 2), some (.inl (h 20 (zwd s 1 pp)))], [], (zs h hl))) (c2 := (19, [some (.inr (.inr (some 22))), some (.inr (.inr (some (A)))), some (.inl (s : Int)), some (.inl (pp : Int)), some (.inl m_28), some (.inl 2), some (.inl (h 20 (zwd s 1 pp)))], [], (zs h hl))) rfl ⟨by decide, by decide⟩ ⟨by decide, by decide⟩ (by show ¬ 2 < 2; decide) ?_
          refine zH_go 1 (c' := (81, [some (.inr (.inr (some 22))), some (.inr (.inr (some (A)))), some (.inl (s : Int)), some (.inl (pp : Int)), some (.inl m_28), some (.inl 2), some (.inl (h 20 (zwd s 1 pp)))], [.inl m_28], (zs h hl))) rfl ?_
          refine zH_ret (v := some (.inl m_28)) rfl (fun q => absurd q (by decide)) ?_
          refine ⟨congrArg (fun z => some (Sum.inl z)) ?_, rfl⟩
          unfold zAf
          rw [if_neg (by decide), if_pos rfl]
          omega
set_option maxRecDepth 100000 in
set_option maxHeartbeats 4000000 in
theorem p_afD3 {d : Nat} {h hl : Nat → Nat → Int} {A p s pp : Nat} (hS : zSI h p 3) (hs : zSb p 3 s = true) (hp : pp < p) (hsh : zSh A = .inr (0, 56) ∧ 2 ≤ A ∧ A < 127) (hA : ∀ k : Nat, (k : Int) < h 18 2 → 0 ≤ h A k ∧ h A k ≤ 100000) (hB : zTB h) (hD : ∀ i j : Nat, i < p → j < p → h (12 + i) j ≤ 1500) : zQ (d + 2) 58 [.inr (.inr (some 22)), .inr (.inr (some (A))), .inl (s : Int), .inl (pp : Int)] (zs h hl) (zI1 (zAf h 3 A s pp) (zs h hl)) := by
  obtain ⟨hL3, hp6, hL, hs2, hsl, -, -⟩ := hS
  have hn := zSb_lt hL3.2 hs
  have w0 := zSb_wd hp6 hL3.2 hs (by decide : 0 < 3) hp
  have wl0 := zSb_lt hL3.2 w0
  have sl0 := hsl _ wl0 w0
  have dg0 := zSb_dg hs (by decide : 0 < 3)
  have r0 := hA (Int.toNat (h 20 (zwd s 0 pp))) (by omega)
  have dd0 := hB pp (zdg s 0) (by omega) (by omega)
  have ds0 := hD pp (zdg s 0) hp dg0
  have w1 := zSb_wd hp6 hL3.2 hs (by decide : 1 < 3) hp
  have wl1 := zSb_lt hL3.2 w1
  have sl1 := hsl _ wl1 w1
  have dg1 := zSb_dg hs (by decide : 1 < 3)
  have r1 := hA (Int.toNat (h 20 (zwd s 1 pp))) (by omega)
  have dd1 := hB pp (zdg s 1) (by omega) (by omega)
  have ds1 := hD pp (zdg s 1) hp dg1
  have w2 := zSb_wd hp6 hL3.2 hs (by decide : 2 < 3) hp
  have wl2 := zSb_lt hL3.2 w2
  have sl2 := hsl _ wl2 w2
  have dg2 := zSb_dg hs (by decide : 2 < 3)
  have r2 := hA (Int.toNat (h 20 (zwd s 2 pp))) (by omega)
  have dd2 := hB pp (zdg s 2) (by omega) (by omega)
  have ds2 := hD pp (zdg s 2) hp dg2
  refine zQ_of (Nat.le_of_ble_eq_true rfl) ?_
  show zH (d + 1) 58 (0, [some (.inr (.inr (some 22))), some (.inr (.inr (some (A)))), some (.inl (s : Int)), some (.inl (pp : Int)), none, none, none], [], (zs h hl)) _
  refine zH_go 8 (c' := (16, [some (.inr (.inr (some 22))), some (.inr (.inr (some (A)))), some (.inl (s : Int)), some (.inl (pp : Int)), some (.inl 1000000), some (.inl 0), none], [.inl (h 18 1), .inl 0], (zs h hl))) rfl ?_
  rw [hL]
  refine zH_bf (x := 0) (y := 3) (k := .ge) (c1 := (79, [some (.inr (.inr (some 22))), some (.inr (.inr (some (A)))), some (.inl (s : Int)), some (.inl (pp : Int)), some (.inl 1000000), some (.inl 0), none], [], (zs h hl))) (c2 := (19, [some (.inr (.inr (some 22))), some (.inr (.inr (some (A)))), some (.inl (s : Int)), some (.inl (pp : Int)), some (.inl 1000000), some (.inl 0), none], [], (zs h hl))) rfl ⟨by decide, by decide⟩ ⟨by decide, by decide⟩ (by show ¬ (¬ 0 < 3); decide) ?_
  refine zH_go 5 (c' := (27, [some (.inr (.inr (some 22))), some (.inr (.inr (some (A)))), some (.inl (s : Int)), some (.inl (pp : Int)), some (.inl 1000000), some (.inl 0), none], [.inl (pp : Int), .inl 0, .inl (s : Int), .inr (.inr (some 18))], (zs h hl))) rfl ?_
  refine zH_call (M' := 101) (as := [.inl (s : Int), .inl 0, .inl (pp : Int)]) (T := [.inr (.inr (some 18))]) rfl (p_withDigit (n := s) (i := 0) (v := pp) (by omega) (by decide) (by omega)) (fun r σ' p_1 => ?_)
  obtain ⟨rfl, rfl⟩ := p_1
  show zH _ _ (30, [some (.inr (.inr (some 22))), some (.inr (.inr (some (A)))), some (.inl (s : Int)), some (.inl (pp : Int)), some (.inl 1000000), some (.inl 0), none], [.inl ((zwd s 0 pp : Nat) : Int), .inr (.inr (some 18))], (zs h hl)) _
  refine zH_call (M' := 44) (as := [.inr (.inr (some 18)), .inl ((zwd s 0 pp : Nat) : Int)]) (T := []) rfl (p_slot (n := zwd s 0 pp) (by omega)) (fun r σ' p_2 => ?_)
  obtain ⟨rfl, rfl⟩ := p_2
  show zH _ _ (33, [some (.inr (.inr (some 22))), some (.inr (.inr (some (A)))), some (.inl (s : Int)), some (.inl (pp : Int)), some (.inl 1000000), some (.inl 0), none], [.inl (h 20 (zwd s 0 pp))], (zs h hl)) _
  refine zH_go 2 (c' := (37, [some (.inr (.inr (some 22))), some (.inr (.inr (some (A)))), some (.inl (s : Int)), some (.inl (pp : Int)), some (.inl 1000000), some (.inl 0), some (.inl (h 20 (zwd s 0 pp)))], [.inl (h 20 (zwd s 0 pp))], (zs h hl))) rfl ?_
  refine zH_br (x := (h 20 (zwd s 0 pp))) (y := 0) (k := .lt) (c1 := (73, [some (.inr (.inr (some 22))), some (.inr (.inr (some (A)))), some (.inl (s : Int)), some (.inl (pp : Int)), some (.inl 1000000), some (.inl 0), some (.inl (h 20 (zwd s 0 pp)))], [], (zs h hl))) (c2 := (40, [some (.inr (.inr (some 22))), some (.inr (.inr (some (A)))), some (.inl (s : Int)), some (.inl (pp : Int)), some (.inl 1000000), some (.inl 0), some (.inl (h 20 (zwd s 0 pp)))], [], (zs h hl))) rfl (by first | assumption | (unfold zr; omega)) ⟨by decide, by decide⟩ (fun (b_3 : (h 20 (zwd s 0 pp)) < 0) => ?_) (fun (b_3 : ¬ ((h 20 (zwd s 0 pp)) < 0)) => ?_)
  · refine zH_go 6 (c' := (16, [some (.inr (.inr (some 22))), some (.inr (.inr (some (A)))), some (.inl (s : Int)), some (.inl (pp : Int)), some (.inl 1000000), some (.inl 1), some (.inl (h 20 (zwd s 0 pp)))], [.inl (h 18 1), .inl 1], (zs h hl))) rfl ?_
    rw [hL]
    refine zH_bf (x := 1) (y := 3) (k := .ge) (c1 := (79, [some (.inr (.inr (some 22))), some (.inr (.inr (some (A)))), some (.inl (s : Int)), some (.inl (pp : Int)), some (.inl 1000000), some (.inl 1), some (.inl (h 20 (zwd s 0 pp)))], [], (zs h hl))) (c2 := (19, [some (.inr (.inr (some 22))), some (.inr (.inr (some (A)))), some (.inl (s : Int)), some (.inl (pp : Int)), some (.inl 1000000), some (.inl 1), some (.inl (h 20 (zwd s 0 pp)))], [], (zs h hl))) rfl ⟨by decide, by decide⟩ ⟨by decide, by decide⟩ (by show ¬ (¬ 1 < 3); decide) ?_
    refine zH_go 5 (c' := (27, [some (.inr (.inr (some 22))), some (.inr (.inr (some (A)))), some (.inl (s : Int)), some (.inl (pp : Int)), some (.inl 1000000), some (.inl 1), some (.inl (h 20 (zwd s 0 pp)))], [.inl (pp : Int), .inl 1, .inl (s : Int), .inr (.inr (some 18))], (zs h hl))) rfl ?_
    refine zH_call (M' := 101) (as := [.inl (s : Int), .inl 1, .inl (pp : Int)]) (T := [.inr (.inr (some 18))]) rfl (p_withDigit (n := s) (i := 1) (v := pp) (by omega) (by decide) (by omega)) (fun r σ' p_4 => ?_)
    obtain ⟨rfl, rfl⟩ := p_4
    show zH _ _ (30, [some (.inr (.inr (some 22))), some (.inr (.inr (some (A)))), some (.inl (s : Int)), some (.inl (pp : Int)), some (.inl 1000000), some (.inl 1), some (.inl (h 20 (zwd s 0 pp)))], [.inl ((zwd s 1 pp : Nat) : Int), .inr (.inr (some 18))], (zs h hl)) _
    refine zH_call (M' := 44) (as := [.inr (.inr (some 18)), .inl ((zwd s 1 pp : Nat) : Int)]) (T := []) rfl (p_slot (n := zwd s 1 pp) (by omega)) (fun r σ' p_5 => ?_)
    obtain ⟨rfl, rfl⟩ := p_5
    show zH _ _ (33, [some (.inr (.inr (some 22))), some (.inr (.inr (some (A)))), some (.inl (s : Int)), some (.inl (pp : Int)), some (.inl 1000000), some (.inl 1), some (.inl (h 20 (zwd s 0 pp)))], [.inl (h 20 (zwd s 1 pp))], (zs h hl)) _
    refine zH_go 2 (c' := (37, [some (.inr (.inr (some 22))), some (.inr (.inr (some (A)))), some (.inl (s : Int)), some (.inl (pp : Int)), some (.inl 1000000), some (.inl 1), some (.inl (h 20 (zwd s 1 pp)))], [.inl (h 20 (zwd s 1 pp))], (zs h hl))) rfl ?_
    refine zH_br (x := (h 20 (zwd s 1 pp))) (y := 0) (k := .lt) (c1 := (73, [some (.inr (.inr (some 22))), some (.inr (.inr (some (A)))), some (.inl (s : Int)), some (.inl (pp : Int)), some (.inl 1000000), some (.inl 1), some (.inl (h 20 (zwd s 1 pp)))], [], (zs h hl))) (c2 := (40, [some (.inr (.inr (some 22))), some (.inr (.inr (some (A)))), some (.inl (s : Int)), some (.inl (pp : Int)), some (.inl 1000000), some (.inl 1), some (.inl (h 20 (zwd s 1 pp)))], [], (zs h hl))) rfl (by first | assumption | (unfold zr; omega)) ⟨by decide, by decide⟩ (fun (b_6 : (h 20 (zwd s 1 pp)) < 0) => ?_) (fun (b_6 : ¬ ((h 20 (zwd s 1 pp)) < 0)) => ?_)
    · refine zH_go 6 (c' := (16, [some (.inr (.inr (some 22))), some (.inr (.inr (some (A)))), some (.inl (s : Int)), some (.inl (pp : Int)), some (.inl 1000000), some (.inl 2), some (.inl (h 20 (zwd s 1 pp)))], [.inl (h 18 1), .inl 2], (zs h hl))) rfl ?_
      rw [hL]
      refine zH_bf (x := 2) (y := 3) (k := .ge) (c1 := (79, [some (.inr (.inr (some 22))), some (.inr (.inr (some (A)))), some (.inl (s : Int)), some (.inl (pp : Int)), some (.inl 1000000), some (.inl 2), some (.inl (h 20 (zwd s 1 pp)))], [], (zs h hl))) (c2 := (19, [some (.inr (.inr (some 22))), some (.inr (.inr (some (A)))), some (.inl (s : Int)), some (.inl (pp : Int)), some (.inl 1000000), some (.inl 2), some (.inl (h 20 (zwd s 1 pp)))], [], (zs h hl))) rfl ⟨by decide, by decide⟩ ⟨by decide, by decide⟩ (by show ¬ (¬ 2 < 3); decide) ?_
      refine zH_go 5 (c' := (27, [some (.inr (.inr (some 22))), some (.inr (.inr (some (A)))), some (.inl (s : Int)), some (.inl (pp : Int)), some (.inl 1000000), some (.inl 2), some (.inl (h 20 (zwd s 1 pp)))], [.inl (pp : Int), .inl 2, .inl (s : Int), .inr (.inr (some 18))], (zs h hl))) rfl ?_
      refine zH_call (M' := 101) (as := [.inl (s : Int), .inl 2, .inl (pp : Int)]) (T := [.inr (.inr (some 18))]) rfl (p_withDigit (n := s) (i := 2) (v := pp) (by omega) (by decide) (by omega)) (fun r σ' p_7 => ?_)
      obtain ⟨rfl, rfl⟩ := p_7
      show zH _ _ (30, [some (.inr (.inr (some 22))), some (.inr (.inr (some (A)))), some (.inl (s : Int)), some (.inl (pp : Int)), some (.inl 1000000), some (.inl 2), some (.inl (h 20 (zwd s 1 pp)))], [.inl ((zwd s 2 pp : Nat) : Int), .inr (.inr (some 18))], (zs h hl)) _
      refine zH_call (M' := 44) (as := [.inr (.inr (some 18)), .inl ((zwd s 2 pp : Nat) : Int)]) (T := []) rfl (p_slot (n := zwd s 2 pp) (by omega)) (fun r σ' p_8 => ?_)
      obtain ⟨rfl, rfl⟩ := p_8
      show zH _ _ (33, [some (.inr (.inr (some 22))), some (.inr (.inr (some (A)))), some (.inl (s : Int)), some (.inl (pp : Int)), some (.inl 1000000), some (.inl 2), some (.inl (h 20 (zwd s 1 pp)))], [.inl (h 20 (zwd s 2 pp))], (zs h hl)) _
      refine zH_go 2 (c' := (37, [some (.inr (.inr (some 22))), some (.inr (.inr (some (A)))), some (.inl (s : Int)), some (.inl (pp : Int)), some (.inl 1000000), some (.inl 2), some (.inl (h 20 (zwd s 2 pp)))], [.inl (h 20 (zwd s 2 pp))], (zs h hl))) rfl ?_
      refine zH_br (x := (h 20 (zwd s 2 pp))) (y := 0) (k := .lt) (c1 := (73, [some (.inr (.inr (some 22))), some (.inr (.inr (some (A)))), some (.inl (s : Int)), some (.inl (pp : Int)), some (.inl 1000000), some (.inl 2), some (.inl (h 20 (zwd s 2 pp)))], [], (zs h hl))) (c2 := (40, [some (.inr (.inr (some 22))), some (.inr (.inr (some (A)))), some (.inl (s : Int)), some (.inl (pp : Int)), some (.inl 1000000), some (.inl 2), some (.inl (h 20 (zwd s 2 pp)))], [], (zs h hl))) rfl (by first | assumption | (unfold zr; omega)) ⟨by decide, by decide⟩ (fun (b_9 : (h 20 (zwd s 2 pp)) < 0) => ?_) (fun (b_9 : ¬ ((h 20 (zwd s 2 pp)) < 0)) => ?_)
      · refine zH_go 6 (c' := (16, [some (.inr (.inr (some 22))), some (.inr (.inr (some (A)))), some (.inl (s : Int)), some (.inl (pp : Int)), some (.inl 1000000), some (.inl 3), some (.inl (h 20 (zwd s 2 pp)))], [.inl (h 18 1), .inl 3], (zs h hl))) rfl ?_
        rw [hL]
        refine zH_bt (x := 3) (y := 3) (k := .ge) (c1 := (79, [some (.inr (.inr (some 22))), some (.inr (.inr (some (A)))), some (.inl (s : Int)), some (.inl (pp : Int)), some (.inl 1000000), some (.inl 3), some (.inl (h 20 (zwd s 2 pp)))], [], (zs h hl))) (c2 := (19, [some (.inr (.inr (some 22))), some (.inr (.inr (some (A)))), some (.inl (s : Int)), some (.inl (pp : Int)), some (.inl 1000000), some (.inl 3), some (.inl (h 20 (zwd s 2 pp)))], [], (zs h hl))) rfl ⟨by decide, by decide⟩ ⟨by decide, by decide⟩ (by show ¬ 3 < 3; decide) ?_
        refine zH_go 1 (c' := (81, [some (.inr (.inr (some 22))), some (.inr (.inr (some (A)))), some (.inl (s : Int)), some (.inl (pp : Int)), some (.inl 1000000), some (.inl 3), some (.inl (h 20 (zwd s 2 pp)))], [.inl 1000000], (zs h hl))) rfl ?_
        refine zH_ret (v := some (.inl 1000000)) rfl (fun q => absurd q (by decide)) ?_
        refine ⟨congrArg (fun z => some (Sum.inl z)) ?_, rfl⟩
        unfold zAf
        rw [if_neg (by decide), if_neg (by decide)]
        omega
      · refine zH_go 2 (c' := (43, [some (.inr (.inr (some 22))), some (.inr (.inr (some (A)))), some (.inl (s : Int)), some (.inl (pp : Int)), some (.inl 1000000), some (.inl 2), some (.inl (h 20 (zwd s 2 pp)))], [.inr (.inr (some (A))), .inl (h 20 (zwd s 2 pp))], (zs h hl))) rfl ?_
        refine zH_aln rfl (n := 56) (t := 0) hsh (by decide) ?_
        show zH _ _ (44, [some (.inr (.inr (some 22))), some (.inr (.inr (some (A)))), some (.inl (s : Int)), some (.inl (pp : Int)), some (.inl 1000000), some (.inl 2), some (.inl (h 20 (zwd s 2 pp)))], [.inl 56, .inl (h 20 (zwd s 2 pp))], (zs h hl)) _
        refine zH_br (x := (h 20 (zwd s 2 pp))) (y := 56) (k := .ge) (c1 := (73, [some (.inr (.inr (some 22))), some (.inr (.inr (some (A)))), some (.inl (s : Int)), some (.inl (pp : Int)), some (.inl 1000000), some (.inl 2), some (.inl (h 20 (zwd s 2 pp)))], [], (zs h hl))) (c2 := (47, [some (.inr (.inr (some 22))), some (.inr (.inr (some (A)))), some (.inl (s : Int)), some (.inl (pp : Int)), some (.inl 1000000), some (.inl 2), some (.inl (h 20 (zwd s 2 pp)))], [], (zs h hl))) rfl (by first | assumption | (unfold zr; omega)) ⟨by decide, by decide⟩ (fun (b_10 : ¬ (h 20 (zwd s 2 pp)) < 56) => ?_) (fun (b_10 : ¬ (¬ (h 20 (zwd s 2 pp)) < 56)) => ?_)
        · refine zH_go 6 (c' := (16, [some (.inr (.inr (some 22))), some (.inr (.inr (some (A)))), some (.inl (s : Int)), some (.inl (pp : Int)), some (.inl 1000000), some (.inl 3), some (.inl (h 20 (zwd s 2 pp)))], [.inl (h 18 1), .inl 3], (zs h hl))) rfl ?_
          rw [hL]
          refine zH_bt (x := 3) (y := 3) (k := .ge) (c1 := (79, [some (.inr (.inr (some 22))), some (.inr (.inr (some (A)))), some (.inl (s : Int)), some (.inl (pp : Int)), some (.inl 1000000), some (.inl 3), some (.inl (h 20 (zwd s 2 pp)))], [], (zs h hl))) (c2 := (19, [some (.inr (.inr (some 22))), some (.inr (.inr (some (A)))), some (.inl (s : Int)), some (.inl (pp : Int)), some (.inl 1000000), some (.inl 3), some (.inl (h 20 (zwd s 2 pp)))], [], (zs h hl))) rfl ⟨by decide, by decide⟩ ⟨by decide, by decide⟩ (by show ¬ 3 < 3; decide) ?_
          refine zH_go 1 (c' := (81, [some (.inr (.inr (some 22))), some (.inr (.inr (some (A)))), some (.inl (s : Int)), some (.inl (pp : Int)), some (.inl 1000000), some (.inl 3), some (.inl (h 20 (zwd s 2 pp)))], [.inl 1000000], (zs h hl))) rfl ?_
          refine zH_ret (v := some (.inl 1000000)) rfl (fun q => absurd q (by decide)) ?_
          refine ⟨congrArg (fun z => some (Sum.inl z)) ?_, rfl⟩
          unfold zAf
          rw [if_neg (by decide), if_neg (by decide)]
          omega
        · refine zH_go 3 (c' := (52, [some (.inr (.inr (some 22))), some (.inr (.inr (some (A)))), some (.inl (s : Int)), some (.inl (pp : Int)), some (.inl 1000000), some (.inl 2), some (.inl (h 20 (zwd s 2 pp)))], [.inl (h 20 (zwd s 2 pp)), .inr (.inr (some (A))), .inl 1000000], (zs h hl))) rfl ?_
          refine zH_ial rfl (n := 56) hsh (by omega) (by omega) ?_
          show zH _ _ (53, [some (.inr (.inr (some 22))), some (.inr (.inr (some (A)))), some (.inl (s : Int)), some (.inl (pp : Int)), some (.inl 1000000), some (.inl 2), some (.inl (h 20 (zwd s 2 pp)))], [.inl (h A (Int.toNat (h 20 (zwd s 2 pp)))), .inl 1000000], (zs h hl)) _
          refine zH_go 5 (c' := (61, [some (.inr (.inr (some 22))), some (.inr (.inr (some (A)))), some (.inl (s : Int)), some (.inl (pp : Int)), some (.inl 1000000), some (.inl 2), some (.inl (h 20 (zwd s 2 pp)))], [.inl 2, .inl (s : Int), .inl (pp : Int), .inr (.inr (some 3)), .inl (h A (Int.toNat (h 20 (zwd s 2 pp)))), .inl 1000000], (zs h hl))) rfl ?_
          refine zH_call (M' := 100) (as := [.inl (s : Int), .inl 2]) (T := [.inl (pp : Int), .inr (.inr (some 3)), .inl (h A (Int.toNat (h 20 (zwd s 2 pp)))), .inl 1000000]) rfl (p_digit (n := s) (i := 2) (by omega) (by decide)) (fun r σ' p_11 => ?_)
          obtain ⟨rfl, rfl⟩ := p_11
          show zH _ _ (64, [some (.inr (.inr (some 22))), some (.inr (.inr (some (A)))), some (.inl (s : Int)), some (.inl (pp : Int)), some (.inl 1000000), some (.inl 2), some (.inl (h 20 (zwd s 2 pp)))], [.inl ((zdg s 2 : Nat) : Int), .inl (pp : Int), .inr (.inr (some 3)), .inl (h A (Int.toNat (h 20 (zwd s 2 pp)))), .inl 1000000], (zs h hl)) _
          refine zH_call (M' := 52) (as := [.inr (.inr (some 3)), .inl (pp : Int), .inl ((zdg s 2 : Nat) : Int)]) (T := [.inl (h A (Int.toNat (h 20 (zwd s 2 pp)))), .inl 1000000]) rfl (p_gap (a := pp) (b := zdg s 2) (by omega) (by omega)) (fun r σ' p_12 => ?_)
          obtain ⟨rfl, rfl⟩ := p_12
          show zH _ _ (67, [some (.inr (.inr (some 22))), some (.inr (.inr (some (A)))), some (.inl (s : Int)), some (.inl (pp : Int)), some (.inl 1000000), some (.inl 2), some (.inl (h 20 (zwd s 2 pp)))], [.inl (h (12 + pp) (zdg s 2)), .inl (h A (Int.toNat (h 20 (zwd s 2 pp)))), .inl 1000000], (zs h hl)) _
          refine zH_go 1 (c' := (68, [some (.inr (.inr (some 22))), some (.inr (.inr (some (A)))), some (.inl (s : Int)), some (.inl (pp : Int)), some (.inl 1000000), some (.inl 2), some (.inl (h 20 (zwd s 2 pp)))], [.inl ((h A (Int.toNat (h 20 (zwd s 2 pp)))) + (h (12 + pp) (zdg s 2))), .inl 1000000], (zs h hl))) rfl ?_
          refine zH_np (P := zr 1000000 ∧ zr ((h A (Int.toNat (h 20 (zwd s 2 pp)))) + (h (12 + pp) (zdg s 2)))) (c' := (71, [some (.inr (.inr (some 22))), some (.inr (.inr (some (A)))), some (.inl (s : Int)), some (.inl (pp : Int)), some (.inl 1000000), some (.inl 2), some (.inl (h 20 (zwd s 2 pp)))], [.inl (if ((h A (Int.toNat (h 20 (zwd s 2 pp)))) + (h (12 + pp) (zdg s 2))) < 1000000 then ((h A (Int.toNat (h 20 (zwd s 2 pp)))) + (h (12 + pp) (zdg s 2))) else 1000000)], (zs h hl))) rfl ⟨⟨by decide, by decide⟩, (by first | assumption | (unfold zr; omega))⟩ ?_
          obtain ⟨m_13, em_13, fm_13⟩ := zmin_spec 1000000 ((h A (Int.toNat (h 20 (zwd s 2 pp)))) + (h (12 + pp) (zdg s 2)))
          rw [em_13]
          refine zH_go 7 (c' := (16, [some (.inr (.inr (some 22))), some (.inr (.inr (some (A)))), some (.inl (s : Int)), some (.inl (pp : Int)), some (.inl m_13), some (.inl 3), some (.inl (h 20 (zwd s 2 pp)))], [.inl (h 18 1), .inl 3], (zs h hl))) rfl ?_
          rw [hL]
          refine zH_bt (x := 3) (y := 3) (k := .ge) (c1 := (79, [some (.inr (.inr (some 22))), some (.inr (.inr (some (A)))), some (.inl (s : Int)), some (.inl (pp : Int)), some (.inl m_13), some (.inl 3), some (.inl (h 20 (zwd s 2 pp)))], [], (zs h hl))) (c2 := (19, [some (.inr (.inr (some 22))), some (.inr (.inr (some (A)))), some (.inl (s : Int)), some (.inl (pp : Int)), some (.inl m_13), some (.inl 3), some (.inl (h 20 (zwd s 2 pp)))], [], (zs h hl))) rfl ⟨by decide, by decide⟩ ⟨by decide, by decide⟩ (by show ¬ 3 < 3; decide) ?_
          refine zH_go 1 (c' := (81, [some (.inr (.inr (some 22))), some (.inr (.inr (some (A)))), some (.inl (s : Int)), some (.inl (pp : Int)), some (.inl m_13), some (.inl 3), some (.inl (h 20 (zwd s 2 pp)))], [.inl m_13], (zs h hl))) rfl ?_
          refine zH_ret (v := some (.inl m_13)) rfl (fun q => absurd q (by decide)) ?_
          refine ⟨congrArg (fun z => some (Sum.inl z)) ?_, rfl⟩
          unfold zAf
          rw [if_neg (by decide), if_neg (by decide)]
          omega
    · refine zH_go 2 (c' := (43, [some (.inr (.inr (some 22))), some (.inr (.inr (some (A)))), some (.inl (s : Int)), some (.inl (pp : Int)), some (.inl 1000000), some (.inl 1), some (.inl (h 20 (zwd s 1 pp)))], [.inr (.inr (some (A))), .inl (h 20 (zwd s 1 pp))], (zs h hl))) rfl ?_
      refine zH_aln rfl (n := 56) (t := 0) hsh (by decide) ?_
      show zH _ _ (44, [some (.inr (.inr (some 22))), some (.inr (.inr (some (A)))), some (.inl (s : Int)), some (.inl (pp : Int)), some (.inl 1000000), some (.inl 1), some (.inl (h 20 (zwd s 1 pp)))], [.inl 56, .inl (h 20 (zwd s 1 pp))], (zs h hl)) _
      refine zH_br (x := (h 20 (zwd s 1 pp))) (y := 56) (k := .ge) (c1 := (73, [some (.inr (.inr (some 22))), some (.inr (.inr (some (A)))), some (.inl (s : Int)), some (.inl (pp : Int)), some (.inl 1000000), some (.inl 1), some (.inl (h 20 (zwd s 1 pp)))], [], (zs h hl))) (c2 := (47, [some (.inr (.inr (some 22))), some (.inr (.inr (some (A)))), some (.inl (s : Int)), some (.inl (pp : Int)), some (.inl 1000000), some (.inl 1), some (.inl (h 20 (zwd s 1 pp)))], [], (zs h hl))) rfl (by first | assumption | (unfold zr; omega)) ⟨by decide, by decide⟩ (fun (b_14 : ¬ (h 20 (zwd s 1 pp)) < 56) => ?_) (fun (b_14 : ¬ (¬ (h 20 (zwd s 1 pp)) < 56)) => ?_)
      · refine zH_go 6 (c' := (16, [some (.inr (.inr (some 22))), some (.inr (.inr (some (A)))), some (.inl (s : Int)), some (.inl (pp : Int)), some (.inl 1000000), some (.inl 2), some (.inl (h 20 (zwd s 1 pp)))], [.inl (h 18 1), .inl 2], (zs h hl))) rfl ?_
        rw [hL]
        refine zH_bf (x := 2) (y := 3) (k := .ge) (c1 := (79, [some (.inr (.inr (some 22))), some (.inr (.inr (some (A)))), some (.inl (s : Int)), some (.inl (pp : Int)), some (.inl 1000000), some (.inl 2), some (.inl (h 20 (zwd s 1 pp)))], [], (zs h hl))) (c2 := (19, [some (.inr (.inr (some 22))), some (.inr (.inr (some (A)))), some (.inl (s : Int)), some (.inl (pp : Int)), some (.inl 1000000), some (.inl 2), some (.inl (h 20 (zwd s 1 pp)))], [], (zs h hl))) rfl ⟨by decide, by decide⟩ ⟨by decide, by decide⟩ (by show ¬ (¬ 2 < 3); decide) ?_
        refine zH_go 5 (c' := (27, [some (.inr (.inr (some 22))), some (.inr (.inr (some (A)))), some (.inl (s : Int)), some (.inl (pp : Int)), some (.inl 1000000), some (.inl 2), some (.inl (h 20 (zwd s 1 pp)))], [.inl (pp : Int), .inl 2, .inl (s : Int), .inr (.inr (some 18))], (zs h hl))) rfl ?_
        refine zH_call (M' := 101) (as := [.inl (s : Int), .inl 2, .inl (pp : Int)]) (T := [.inr (.inr (some 18))]) rfl (p_withDigit (n := s) (i := 2) (v := pp) (by omega) (by decide) (by omega)) (fun r σ' p_15 => ?_)
        obtain ⟨rfl, rfl⟩ := p_15
        show zH _ _ (30, [some (.inr (.inr (some 22))), some (.inr (.inr (some (A)))), some (.inl (s : Int)), some (.inl (pp : Int)), some (.inl 1000000), some (.inl 2), some (.inl (h 20 (zwd s 1 pp)))], [.inl ((zwd s 2 pp : Nat) : Int), .inr (.inr (some 18))], (zs h hl)) _
        refine zH_call (M' := 44) (as := [.inr (.inr (some 18)), .inl ((zwd s 2 pp : Nat) : Int)]) (T := []) rfl (p_slot (n := zwd s 2 pp) (by omega)) (fun r σ' p_16 => ?_)
        obtain ⟨rfl, rfl⟩ := p_16
        show zH _ _ (33, [some (.inr (.inr (some 22))), some (.inr (.inr (some (A)))), some (.inl (s : Int)), some (.inl (pp : Int)), some (.inl 1000000), some (.inl 2), some (.inl (h 20 (zwd s 1 pp)))], [.inl (h 20 (zwd s 2 pp))], (zs h hl)) _
        refine zH_go 2 (c' := (37, [some (.inr (.inr (some 22))), some (.inr (.inr (some (A)))), some (.inl (s : Int)), some (.inl (pp : Int)), some (.inl 1000000), some (.inl 2), some (.inl (h 20 (zwd s 2 pp)))], [.inl (h 20 (zwd s 2 pp))], (zs h hl))) rfl ?_
        refine zH_br (x := (h 20 (zwd s 2 pp))) (y := 0) (k := .lt) (c1 := (73, [some (.inr (.inr (some 22))), some (.inr (.inr (some (A)))), some (.inl (s : Int)), some (.inl (pp : Int)), some (.inl 1000000), some (.inl 2), some (.inl (h 20 (zwd s 2 pp)))], [], (zs h hl))) (c2 := (40, [some (.inr (.inr (some 22))), some (.inr (.inr (some (A)))), some (.inl (s : Int)), some (.inl (pp : Int)), some (.inl 1000000), some (.inl 2), some (.inl (h 20 (zwd s 2 pp)))], [], (zs h hl))) rfl (by first | assumption | (unfold zr; omega)) ⟨by decide, by decide⟩ (fun (b_17 : (h 20 (zwd s 2 pp)) < 0) => ?_) (fun (b_17 : ¬ ((h 20 (zwd s 2 pp)) < 0)) => ?_)
        · refine zH_go 6 (c' := (16, [some (.inr (.inr (some 22))), some (.inr (.inr (some (A)))), some (.inl (s : Int)), some (.inl (pp : Int)), some (.inl 1000000), some (.inl 3), some (.inl (h 20 (zwd s 2 pp)))], [.inl (h 18 1), .inl 3], (zs h hl))) rfl ?_
          rw [hL]
          refine zH_bt (x := 3) (y := 3) (k := .ge) (c1 := (79, [some (.inr (.inr (some 22))), some (.inr (.inr (some (A)))), some (.inl (s : Int)), some (.inl (pp : Int)), some (.inl 1000000), some (.inl 3), some (.inl (h 20 (zwd s 2 pp)))], [], (zs h hl))) (c2 := (19, [some (.inr (.inr (some 22))), some (.inr (.inr (some (A)))), some (.inl (s : Int)), some (.inl (pp : Int)), some (.inl 1000000), some (.inl 3), some (.inl (h 20 (zwd s 2 pp)))], [], (zs h hl))) rfl ⟨by decide, by decide⟩ ⟨by decide, by decide⟩ (by show ¬ 3 < 3; decide) ?_
          refine zH_go 1 (c' := (81, [some (.inr (.inr (some 22))), some (.inr (.inr (some (A)))), some (.inl (s : Int)), some (.inl (pp : Int)), some (.inl 1000000), some (.inl 3), some (.inl (h 20 (zwd s 2 pp)))], [.inl 1000000], (zs h hl))) rfl ?_
          refine zH_ret (v := some (.inl 1000000)) rfl (fun q => absurd q (by decide)) ?_
          refine ⟨congrArg (fun z => some (Sum.inl z)) ?_, rfl⟩
          unfold zAf
          rw [if_neg (by decide), if_neg (by decide)]
          omega
        · refine zH_go 2 (c' := (43, [some (.inr (.inr (some 22))), some (.inr (.inr (some (A)))), some (.inl (s : Int)), some (.inl (pp : Int)), some (.inl 1000000), some (.inl 2), some (.inl (h 20 (zwd s 2 pp)))], [.inr (.inr (some (A))), .inl (h 20 (zwd s 2 pp))], (zs h hl))) rfl ?_
          refine zH_aln rfl (n := 56) (t := 0) hsh (by decide) ?_
          show zH _ _ (44, [some (.inr (.inr (some 22))), some (.inr (.inr (some (A)))), some (.inl (s : Int)), some (.inl (pp : Int)), some (.inl 1000000), some (.inl 2), some (.inl (h 20 (zwd s 2 pp)))], [.inl 56, .inl (h 20 (zwd s 2 pp))], (zs h hl)) _
          refine zH_br (x := (h 20 (zwd s 2 pp))) (y := 56) (k := .ge) (c1 := (73, [some (.inr (.inr (some 22))), some (.inr (.inr (some (A)))), some (.inl (s : Int)), some (.inl (pp : Int)), some (.inl 1000000), some (.inl 2), some (.inl (h 20 (zwd s 2 pp)))], [], (zs h hl))) (c2 := (47, [some (.inr (.inr (some 22))), some (.inr (.inr (some (A)))), some (.inl (s : Int)), some (.inl (pp : Int)), some (.inl 1000000), some (.inl 2), some (.inl (h 20 (zwd s 2 pp)))], [], (zs h hl))) rfl (by first | assumption | (unfold zr; omega)) ⟨by decide, by decide⟩ (fun (b_18 : ¬ (h 20 (zwd s 2 pp)) < 56) => ?_) (fun (b_18 : ¬ (¬ (h 20 (zwd s 2 pp)) < 56)) => ?_)
          · refine zH_go 6 (c' := (16, [some (.inr (.inr (some 22))), some (.inr (.inr (some (A)))), some (.inl (s : Int)), some (.inl (pp : Int)), some (.inl 1000000), some (.inl 3), some (.inl (h 20 (zwd s 2 pp)))], [.inl (h 18 1), .inl 3], (zs h hl))) rfl ?_
            rw [hL]
            refine zH_bt (x := 3) (y := 3) (k := .ge) (c1 := (79, [some (.inr (.inr (some 22))), some (.inr (.inr (some (A)))), some (.inl (s : Int)), some (.inl (pp : Int)), some (.inl 1000000), some (.inl 3), some (.inl (h 20 (zwd s 2 pp)))], [], (zs h hl))) (c2 := (19, [some (.inr (.inr (some 22))), some (.inr (.inr (some (A)))), some (.inl (s : Int)), some (.inl (pp : Int)), some (.inl 1000000), some (.inl 3), some (.inl (h 20 (zwd s 2 pp)))], [], (zs h hl))) rfl ⟨by decide, by decide⟩ ⟨by decide, by decide⟩ (by show ¬ 3 < 3; decide) ?_
            refine zH_go 1 (c' := (81, [some (.inr (.inr (some 22))), some (.inr (.inr (some (A)))), some (.inl (s : Int)), some (.inl (pp : Int)), some (.inl 1000000), some (.inl 3), some (.inl (h 20 (zwd s 2 pp)))], [.inl 1000000], (zs h hl))) rfl ?_
            refine zH_ret (v := some (.inl 1000000)) rfl (fun q => absurd q (by decide)) ?_
            refine ⟨congrArg (fun z => some (Sum.inl z)) ?_, rfl⟩
            unfold zAf
            rw [if_neg (by decide), if_neg (by decide)]
            omega
          · refine zH_go 3 (c' := (52, [some (.inr (.inr (some 22))), some (.inr (.inr (some (A)))), some (.inl (s : Int)), some (.inl (pp : Int)), some (.inl 1000000), some (.inl 2), some (.inl (h 20 (zwd s 2 pp)))], [.inl (h 20 (zwd s 2 pp)), .inr (.inr (some (A))), .inl 1000000], (zs h hl))) rfl ?_
            refine zH_ial rfl (n := 56) hsh (by omega) (by omega) ?_
            show zH _ _ (53, [some (.inr (.inr (some 22))), some (.inr (.inr (some (A)))), some (.inl (s : Int)), some (.inl (pp : Int)), some (.inl 1000000), some (.inl 2), some (.inl (h 20 (zwd s 2 pp)))], [.inl (h A (Int.toNat (h 20 (zwd s 2 pp)))), .inl 1000000], (zs h hl)) _
            refine zH_go 5 (c' := (61, [some (.inr (.inr (some 22))), some (.inr (.inr (some (A)))), some (.inl (s : Int)), some (.inl (pp : Int)), some (.inl 1000000), some (.inl 2), some (.inl (h 20 (zwd s 2 pp)))], [.inl 2, .inl (s : Int), .inl (pp : Int), .inr (.inr (some 3)), .inl (h A (Int.toNat (h 20 (zwd s 2 pp)))), .inl 1000000], (zs h hl))) rfl ?_
            refine zH_call (M' := 100) (as := [.inl (s : Int), .inl 2]) (T := [.inl (pp : Int), .inr (.inr (some 3)), .inl (h A (Int.toNat (h 20 (zwd s 2 pp)))), .inl 1000000]) rfl (p_digit (n := s) (i := 2) (by omega) (by decide)) (fun r σ' p_19 => ?_)
            obtain ⟨rfl, rfl⟩ := p_19
            show zH _ _ (64, [some (.inr (.inr (some 22))), some (.inr (.inr (some (A)))), some (.inl (s : Int)), some (.inl (pp : Int)), some (.inl 1000000), some (.inl 2), some (.inl (h 20 (zwd s 2 pp)))], [.inl ((zdg s 2 : Nat) : Int), .inl (pp : Int), .inr (.inr (some 3)), .inl (h A (Int.toNat (h 20 (zwd s 2 pp)))), .inl 1000000], (zs h hl)) _
            refine zH_call (M' := 52) (as := [.inr (.inr (some 3)), .inl (pp : Int), .inl ((zdg s 2 : Nat) : Int)]) (T := [.inl (h A (Int.toNat (h 20 (zwd s 2 pp)))), .inl 1000000]) rfl (p_gap (a := pp) (b := zdg s 2) (by omega) (by omega)) (fun r σ' p_20 => ?_)
            obtain ⟨rfl, rfl⟩ := p_20
            show zH _ _ (67, [some (.inr (.inr (some 22))), some (.inr (.inr (some (A)))), some (.inl (s : Int)), some (.inl (pp : Int)), some (.inl 1000000), some (.inl 2), some (.inl (h 20 (zwd s 2 pp)))], [.inl (h (12 + pp) (zdg s 2)), .inl (h A (Int.toNat (h 20 (zwd s 2 pp)))), .inl 1000000], (zs h hl)) _
            refine zH_go 1 (c' := (68, [some (.inr (.inr (some 22))), some (.inr (.inr (some (A)))), some (.inl (s : Int)), some (.inl (pp : Int)), some (.inl 1000000), some (.inl 2), some (.inl (h 20 (zwd s 2 pp)))], [.inl ((h A (Int.toNat (h 20 (zwd s 2 pp)))) + (h (12 + pp) (zdg s 2))), .inl 1000000], (zs h hl))) rfl ?_
            refine zH_np (P := zr 1000000 ∧ zr ((h A (Int.toNat (h 20 (zwd s 2 pp)))) + (h (12 + pp) (zdg s 2)))) (c' := (71, [some (.inr (.inr (some 22))), some (.inr (.inr (some (A)))), some (.inl (s : Int)), some (.inl (pp : Int)), some (.inl 1000000), some (.inl 2), some (.inl (h 20 (zwd s 2 pp)))], [.inl (if ((h A (Int.toNat (h 20 (zwd s 2 pp)))) + (h (12 + pp) (zdg s 2))) < 1000000 then ((h A (Int.toNat (h 20 (zwd s 2 pp)))) + (h (12 + pp) (zdg s 2))) else 1000000)], (zs h hl))) rfl ⟨⟨by decide, by decide⟩, (by first | assumption | (unfold zr; omega))⟩ ?_
            obtain ⟨m_21, em_21, fm_21⟩ := zmin_spec 1000000 ((h A (Int.toNat (h 20 (zwd s 2 pp)))) + (h (12 + pp) (zdg s 2)))
            rw [em_21]
            refine zH_go 7 (c' := (16, [some (.inr (.inr (some 22))), some (.inr (.inr (some (A)))), some (.inl (s : Int)), some (.inl (pp : Int)), some (.inl m_21), some (.inl 3), some (.inl (h 20 (zwd s 2 pp)))], [.inl (h 18 1), .inl 3], (zs h hl))) rfl ?_
            rw [hL]
            refine zH_bt (x := 3) (y := 3) (k := .ge) (c1 := (79, [some (.inr (.inr (some 22))), some (.inr (.inr (some (A)))), some (.inl (s : Int)), some (.inl (pp : Int)), some (.inl m_21), some (.inl 3), some (.inl (h 20 (zwd s 2 pp)))], [], (zs h hl))) (c2 := (19, [some (.inr (.inr (some 22))), some (.inr (.inr (some (A)))), some (.inl (s : Int)), some (.inl (pp : Int)), some (.inl m_21), some (.inl 3), some (.inl (h 20 (zwd s 2 pp)))], [], (zs h hl))) rfl ⟨by decide, by decide⟩ ⟨by decide, by decide⟩ (by show ¬ 3 < 3; decide) ?_
            refine zH_go 1 (c' := (81, [some (.inr (.inr (some 22))), some (.inr (.inr (some (A)))), some (.inl (s : Int)), some (.inl (pp : Int)), some (.inl m_21), some (.inl 3), some (.inl (h 20 (zwd s 2 pp)))], [.inl m_21], (zs h hl))) rfl ?_
            refine zH_ret (v := some (.inl m_21)) rfl (fun q => absurd q (by decide)) ?_
            refine ⟨congrArg (fun z => some (Sum.inl z)) ?_, rfl⟩
            unfold zAf
            rw [if_neg (by decide), if_neg (by decide)]
            omega
      · refine zH_go 3 (c' := (52, [some (.inr (.inr (some 22))), some (.inr (.inr (some (A)))), some (.inl (s : Int)), some (.inl (pp : Int)), some (.inl 1000000), some (.inl 1), some (.inl (h 20 (zwd s 1 pp)))], [.inl (h 20 (zwd s 1 pp)), .inr (.inr (some (A))), .inl 1000000], (zs h hl))) rfl ?_
        refine zH_ial rfl (n := 56) hsh (by omega) (by omega) ?_
        show zH _ _ (53, [some (.inr (.inr (some 22))), some (.inr (.inr (some (A)))), some (.inl (s : Int)), some (.inl (pp : Int)), some (.inl 1000000), some (.inl 1), some (.inl (h 20 (zwd s 1 pp)))], [.inl (h A (Int.toNat (h 20 (zwd s 1 pp)))), .inl 1000000], (zs h hl)) _
        refine zH_go 5 (c' := (61, [some (.inr (.inr (some 22))), some (.inr (.inr (some (A)))), some (.inl (s : Int)), some (.inl (pp : Int)), some (.inl 1000000), some (.inl 1), some (.inl (h 20 (zwd s 1 pp)))], [.inl 1, .inl (s : Int), .inl (pp : Int), .inr (.inr (some 3)), .inl (h A (Int.toNat (h 20 (zwd s 1 pp)))), .inl 1000000], (zs h hl))) rfl ?_
        refine zH_call (M' := 100) (as := [.inl (s : Int), .inl 1]) (T := [.inl (pp : Int), .inr (.inr (some 3)), .inl (h A (Int.toNat (h 20 (zwd s 1 pp)))), .inl 1000000]) rfl (p_digit (n := s) (i := 1) (by omega) (by decide)) (fun r σ' p_22 => ?_)
        obtain ⟨rfl, rfl⟩ := p_22
        show zH _ _ (64, [some (.inr (.inr (some 22))), some (.inr (.inr (some (A)))), some (.inl (s : Int)), some (.inl (pp : Int)), some (.inl 1000000), some (.inl 1), some (.inl (h 20 (zwd s 1 pp)))], [.inl ((zdg s 1 : Nat) : Int), .inl (pp : Int), .inr (.inr (some 3)), .inl (h A (Int.toNat (h 20 (zwd s 1 pp)))), .inl 1000000], (zs h hl)) _
        refine zH_call (M' := 52) (as := [.inr (.inr (some 3)), .inl (pp : Int), .inl ((zdg s 1 : Nat) : Int)]) (T := [.inl (h A (Int.toNat (h 20 (zwd s 1 pp)))), .inl 1000000]) rfl (p_gap (a := pp) (b := zdg s 1) (by omega) (by omega)) (fun r σ' p_23 => ?_)
        obtain ⟨rfl, rfl⟩ := p_23
        show zH _ _ (67, [some (.inr (.inr (some 22))), some (.inr (.inr (some (A)))), some (.inl (s : Int)), some (.inl (pp : Int)), some (.inl 1000000), some (.inl 1), some (.inl (h 20 (zwd s 1 pp)))], [.inl (h (12 + pp) (zdg s 1)), .inl (h A (Int.toNat (h 20 (zwd s 1 pp)))), .inl 1000000], (zs h hl)) _
        refine zH_go 1 (c' := (68, [some (.inr (.inr (some 22))), some (.inr (.inr (some (A)))), some (.inl (s : Int)), some (.inl (pp : Int)), some (.inl 1000000), some (.inl 1), some (.inl (h 20 (zwd s 1 pp)))], [.inl ((h A (Int.toNat (h 20 (zwd s 1 pp)))) + (h (12 + pp) (zdg s 1))), .inl 1000000], (zs h hl))) rfl ?_
        refine zH_np (P := zr 1000000 ∧ zr ((h A (Int.toNat (h 20 (zwd s 1 pp)))) + (h (12 + pp) (zdg s 1)))) (c' := (71, [some (.inr (.inr (some 22))), some (.inr (.inr (some (A)))), some (.inl (s : Int)), some (.inl (pp : Int)), some (.inl 1000000), some (.inl 1), some (.inl (h 20 (zwd s 1 pp)))], [.inl (if ((h A (Int.toNat (h 20 (zwd s 1 pp)))) + (h (12 + pp) (zdg s 1))) < 1000000 then ((h A (Int.toNat (h 20 (zwd s 1 pp)))) + (h (12 + pp) (zdg s 1))) else 1000000)], (zs h hl))) rfl ⟨⟨by decide, by decide⟩, (by first | assumption | (unfold zr; omega))⟩ ?_
        obtain ⟨m_24, em_24, fm_24⟩ := zmin_spec 1000000 ((h A (Int.toNat (h 20 (zwd s 1 pp)))) + (h (12 + pp) (zdg s 1)))
        rw [em_24]
        refine zH_go 7 (c' := (16, [some (.inr (.inr (some 22))), some (.inr (.inr (some (A)))), some (.inl (s : Int)), some (.inl (pp : Int)), some (.inl m_24), some (.inl 2), some (.inl (h 20 (zwd s 1 pp)))], [.inl (h 18 1), .inl 2], (zs h hl))) rfl ?_
        rw [hL]
        refine zH_bf (x := 2) (y := 3) (k := .ge) (c1 := (79, [some (.inr (.inr (some 22))), some (.inr (.inr (some (A)))), some (.inl (s : Int)), some (.inl (pp : Int)), some (.inl m_24), some (.inl 2), some (.inl (h 20 (zwd s 1 pp)))], [], (zs h hl))) (c2 := (19, [some (.inr (.inr (some 22))), some (.inr (.inr (some (A)))), some (.inl (s : Int)), some (.inl (pp : Int)), some (.inl m_24), some (.inl 2), some (.inl (h 20 (zwd s 1 pp)))], [], (zs h hl))) rfl ⟨by decide, by decide⟩ ⟨by decide, by decide⟩ (by show ¬ (¬ 2 < 3); decide) ?_
        refine zH_go 5 (c' := (27, [some (.inr (.inr (some 22))), some (.inr (.inr (some (A)))), some (.inl (s : Int)), some (.inl (pp : Int)), some (.inl m_24), some (.inl 2), some (.inl (h 20 (zwd s 1 pp)))], [.inl (pp : Int), .inl 2, .inl (s : Int), .inr (.inr (some 18))], (zs h hl))) rfl ?_
        refine zH_call (M' := 101) (as := [.inl (s : Int), .inl 2, .inl (pp : Int)]) (T := [.inr (.inr (some 18))]) rfl (p_withDigit (n := s) (i := 2) (v := pp) (by omega) (by decide) (by omega)) (fun r σ' p_25 => ?_)
        obtain ⟨rfl, rfl⟩ := p_25
        show zH _ _ (30, [some (.inr (.inr (some 22))), some (.inr (.inr (some (A)))), some (.inl (s : Int)), some (.inl (pp : Int)), some (.inl m_24), some (.inl 2), some (.inl (h 20 (zwd s 1 pp)))], [.inl ((zwd s 2 pp : Nat) : Int), .inr (.inr (some 18))], (zs h hl)) _
        refine zH_call (M' := 44) (as := [.inr (.inr (some 18)), .inl ((zwd s 2 pp : Nat) : Int)]) (T := []) rfl (p_slot (n := zwd s 2 pp) (by omega)) (fun r σ' p_26 => ?_)
        obtain ⟨rfl, rfl⟩ := p_26
        show zH _ _ (33, [some (.inr (.inr (some 22))), some (.inr (.inr (some (A)))), some (.inl (s : Int)), some (.inl (pp : Int)), some (.inl m_24), some (.inl 2), some (.inl (h 20 (zwd s 1 pp)))], [.inl (h 20 (zwd s 2 pp))], (zs h hl)) _
        refine zH_go 2 (c' := (37, [some (.inr (.inr (some 22))), some (.inr (.inr (some (A)))), some (.inl (s : Int)), some (.inl (pp : Int)), some (.inl m_24), some (.inl 2), some (.inl (h 20 (zwd s 2 pp)))], [.inl (h 20 (zwd s 2 pp))], (zs h hl))) rfl ?_
        refine zH_br (x := (h 20 (zwd s 2 pp))) (y := 0) (k := .lt) (c1 := (73, [some (.inr (.inr (some 22))), some (.inr (.inr (some (A)))), some (.inl (s : Int)), some (.inl (pp : Int)), some (.inl m_24), some (.inl 2), some (.inl (h 20 (zwd s 2 pp)))], [], (zs h hl))) (c2 := (40, [some (.inr (.inr (some 22))), some (.inr (.inr (some (A)))), some (.inl (s : Int)), some (.inl (pp : Int)), some (.inl m_24), some (.inl 2), some (.inl (h 20 (zwd s 2 pp)))], [], (zs h hl))) rfl (by first | assumption | (unfold zr; omega)) ⟨by decide, by decide⟩ (fun (b_27 : (h 20 (zwd s 2 pp)) < 0) => ?_) (fun (b_27 : ¬ ((h 20 (zwd s 2 pp)) < 0)) => ?_)
        · refine zH_go 6 (c' := (16, [some (.inr (.inr (some 22))), some (.inr (.inr (some (A)))), some (.inl (s : Int)), some (.inl (pp : Int)), some (.inl m_24), some (.inl 3), some (.inl (h 20 (zwd s 2 pp)))], [.inl (h 18 1), .inl 3], (zs h hl))) rfl ?_
          rw [hL]
          refine zH_bt (x := 3) (y := 3) (k := .ge) (c1 := (79, [some (.inr (.inr (some 22))), some (.inr (.inr (some (A)))), some (.inl (s : Int)), some (.inl (pp : Int)), some (.inl m_24), some (.inl 3), some (.inl (h 20 (zwd s 2 pp)))], [], (zs h hl))) (c2 := (19, [some (.inr (.inr (some 22))), some (.inr (.inr (some (A)))), some (.inl (s : Int)), some (.inl (pp : Int)), some (.inl m_24), some (.inl 3), some (.inl (h 20 (zwd s 2 pp)))], [], (zs h hl))) rfl ⟨by decide, by decide⟩ ⟨by decide, by decide⟩ (by show ¬ 3 < 3; decide) ?_
          refine zH_go 1 (c' := (81, [some (.inr (.inr (some 22))), some (.inr (.inr (some (A)))), some (.inl (s : Int)), some (.inl (pp : Int)), some (.inl m_24), some (.inl 3), some (.inl (h 20 (zwd s 2 pp)))], [.inl m_24], (zs h hl))) rfl ?_
          refine zH_ret (v := some (.inl m_24)) rfl (fun q => absurd q (by decide)) ?_
          refine ⟨congrArg (fun z => some (Sum.inl z)) ?_, rfl⟩
          unfold zAf
          rw [if_neg (by decide), if_neg (by decide)]
          omega
        · refine zH_go 2 (c' := (43, [some (.inr (.inr (some 22))), some (.inr (.inr (some (A)))), some (.inl (s : Int)), some (.inl (pp : Int)), some (.inl m_24), some (.inl 2), some (.inl (h 20 (zwd s 2 pp)))], [.inr (.inr (some (A))), .inl (h 20 (zwd s 2 pp))], (zs h hl))) rfl ?_
          refine zH_aln rfl (n := 56) (t := 0) hsh (by decide) ?_
          show zH _ _ (44, [some (.inr (.inr (some 22))), some (.inr (.inr (some (A)))), some (.inl (s : Int)), some (.inl (pp : Int)), some (.inl m_24), some (.inl 2), some (.inl (h 20 (zwd s 2 pp)))], [.inl 56, .inl (h 20 (zwd s 2 pp))], (zs h hl)) _
          refine zH_br (x := (h 20 (zwd s 2 pp))) (y := 56) (k := .ge) (c1 := (73, [some (.inr (.inr (some 22))), some (.inr (.inr (some (A)))), some (.inl (s : Int)), some (.inl (pp : Int)), some (.inl m_24), some (.inl 2), some (.inl (h 20 (zwd s 2 pp)))], [], (zs h hl))) (c2 := (47, [some (.inr (.inr (some 22))), some (.inr (.inr (some (A)))), some (.inl (s : Int)), some (.inl (pp : Int)), some (.inl m_24), some (.inl 2), some (.inl (h 20 (zwd s 2 pp)))], [], (zs h hl))) rfl (by first | assumption | (unfold zr; omega)) ⟨by decide, by decide⟩ (fun (b_28 : ¬ (h 20 (zwd s 2 pp)) < 56) => ?_) (fun (b_28 : ¬ (¬ (h 20 (zwd s 2 pp)) < 56)) => ?_)
          · refine zH_go 6 (c' := (16, [some (.inr (.inr (some 22))), some (.inr (.inr (some (A)))), some (.inl (s : Int)), some (.inl (pp : Int)), some (.inl m_24), some (.inl 3), some (.inl (h 20 (zwd s 2 pp)))], [.inl (h 18 1), .inl 3], (zs h hl))) rfl ?_
            rw [hL]
            refine zH_bt (x := 3) (y := 3) (k := .ge) (c1 := (79, [some (.inr (.inr (some 22))), some (.inr (.inr (some (A)))), some (.inl (s : Int)), some (.inl (pp : Int)), some (.inl m_24), some (.inl 3), some (.inl (h 20 (zwd s 2 pp)))], [], (zs h hl))) (c2 := (19, [some (.inr (.inr (some 22))), some (.inr (.inr (some (A)))), some (.inl (s : Int)), some (.inl (pp : Int)), some (.inl m_24), some (.inl 3), some (.inl (h 20 (zwd s 2 pp)))], [], (zs h hl))) rfl ⟨by decide, by decide⟩ ⟨by decide, by decide⟩ (by show ¬ 3 < 3; decide) ?_
            refine zH_go 1 (c' := (81, [some (.inr (.inr (some 22))), some (.inr (.inr (some (A)))), some (.inl (s : Int)), some (.inl (pp : Int)), some (.inl m_24), some (.inl 3), some (.inl (h 20 (zwd s 2 pp)))], [.inl m_24], (zs h hl))) rfl ?_
            refine zH_ret (v := some (.inl m_24)) rfl (fun q => absurd q (by decide)) ?_
            refine ⟨congrArg (fun z => some (Sum.inl z)) ?_, rfl⟩
            unfold zAf
            rw [if_neg (by decide), if_neg (by decide)]
            omega
          · refine zH_go 3 (c' := (52, [some (.inr (.inr (some 22))), some (.inr (.inr (some (A)))), some (.inl (s : Int)), some (.inl (pp : Int)), some (.inl m_24), some (.inl 2), some (.inl (h 20 (zwd s 2 pp)))], [.inl (h 20 (zwd s 2 pp)), .inr (.inr (some (A))), .inl m_24], (zs h hl))) rfl ?_
            refine zH_ial rfl (n := 56) hsh (by omega) (by omega) ?_
            show zH _ _ (53, [some (.inr (.inr (some 22))), some (.inr (.inr (some (A)))), some (.inl (s : Int)), some (.inl (pp : Int)), some (.inl m_24), some (.inl 2), some (.inl (h 20 (zwd s 2 pp)))], [.inl (h A (Int.toNat (h 20 (zwd s 2 pp)))), .inl m_24], (zs h hl)) _
            refine zH_go 5 (c' := (61, [some (.inr (.inr (some 22))), some (.inr (.inr (some (A)))), some (.inl (s : Int)), some (.inl (pp : Int)), some (.inl m_24), some (.inl 2), some (.inl (h 20 (zwd s 2 pp)))], [.inl 2, .inl (s : Int), .inl (pp : Int), .inr (.inr (some 3)), .inl (h A (Int.toNat (h 20 (zwd s 2 pp)))), .inl m_24], (zs h hl))) rfl ?_
            refine zH_call (M' := 100) (as := [.inl (s : Int), .inl 2]) (T := [.inl (pp : Int), .inr (.inr (some 3)), .inl (h A (Int.toNat (h 20 (zwd s 2 pp)))), .inl m_24]) rfl (p_digit (n := s) (i := 2) (by omega) (by decide)) (fun r σ' p_29 => ?_)
            obtain ⟨rfl, rfl⟩ := p_29
            show zH _ _ (64, [some (.inr (.inr (some 22))), some (.inr (.inr (some (A)))), some (.inl (s : Int)), some (.inl (pp : Int)), some (.inl m_24), some (.inl 2), some (.inl (h 20 (zwd s 2 pp)))], [.inl ((zdg s 2 : Nat) : Int), .inl (pp : Int), .inr (.inr (some 3)), .inl (h A (Int.toNat (h 20 (zwd s 2 pp)))), .inl m_24], (zs h hl)) _
            refine zH_call (M' := 52) (as := [.inr (.inr (some 3)), .inl (pp : Int), .inl ((zdg s 2 : Nat) : Int)]) (T := [.inl (h A (Int.toNat (h 20 (zwd s 2 pp)))), .inl m_24]) rfl (p_gap (a := pp) (b := zdg s 2) (by omega) (by omega)) (fun r σ' p_30 => ?_)
            obtain ⟨rfl, rfl⟩ := p_30
            show zH _ _ (67, [some (.inr (.inr (some 22))), some (.inr (.inr (some (A)))), some (.inl (s : Int)), some (.inl (pp : Int)), some (.inl m_24), some (.inl 2), some (.inl (h 20 (zwd s 2 pp)))], [.inl (h (12 + pp) (zdg s 2)), .inl (h A (Int.toNat (h 20 (zwd s 2 pp)))), .inl m_24], (zs h hl)) _
            refine zH_go 1 (c' := (68, [some (.inr (.inr (some 22))), some (.inr (.inr (some (A)))), some (.inl (s : Int)), some (.inl (pp : Int)), some (.inl m_24), some (.inl 2), some (.inl (h 20 (zwd s 2 pp)))], [.inl ((h A (Int.toNat (h 20 (zwd s 2 pp)))) + (h (12 + pp) (zdg s 2))), .inl m_24], (zs h hl))) rfl ?_
            refine zH_np (P := zr m_24 ∧ zr ((h A (Int.toNat (h 20 (zwd s 2 pp)))) + (h (12 + pp) (zdg s 2)))) (c' := (71, [some (.inr (.inr (some 22))), some (.inr (.inr (some (A)))), some (.inl (s : Int)), some (.inl (pp : Int)), some (.inl m_24), some (.inl 2), some (.inl (h 20 (zwd s 2 pp)))], [.inl (if ((h A (Int.toNat (h 20 (zwd s 2 pp)))) + (h (12 + pp) (zdg s 2))) < m_24 then ((h A (Int.toNat (h 20 (zwd s 2 pp)))) + (h (12 + pp) (zdg s 2))) else m_24)], (zs h hl))) rfl ⟨(by first | assumption | (unfold zr; omega)), (by first | assumption | (unfold zr; omega))⟩ ?_
            obtain ⟨m_31, em_31, fm_31⟩ := zmin_spec m_24 ((h A (Int.toNat (h 20 (zwd s 2 pp)))) + (h (12 + pp) (zdg s 2)))
            rw [em_31]
            refine zH_go 7 (c' := (16, [some (.inr (.inr (some 22))), some (.inr (.inr (some (A)))), some (.inl (s : Int)), some (.inl (pp : Int)), some (.inl m_31), some (.inl 3), some (.inl (h 20 (zwd s 2 pp)))], [.inl (h 18 1), .inl 3], (zs h hl))) rfl ?_
            rw [hL]
            refine zH_bt (x := 3) (y := 3) (k := .ge) (c1 := (79, [some (.inr (.inr (some 22))), some (.inr (.inr (some (A)))), some (.inl (s : Int)), some (.inl (pp : Int)), some (.inl m_31), some (.inl 3), some (.inl (h 20 (zwd s 2 pp)))], [], (zs h hl))) (c2 := (19, [some (.inr (.inr (some 22))), some (.inr (.inr (some (A)))), some (.inl (s : Int)), some (.inl (pp : Int)), some (.inl m_31), some (.inl 3), some (.inl (h 20 (zwd s 2 pp)))], [], (zs h hl))) rfl ⟨by decide, by decide⟩ ⟨by decide, by decide⟩ (by show ¬ 3 < 3; decide) ?_
            refine zH_go 1 (c' := (81, [some (.inr (.inr (some 22))), some (.inr (.inr (some (A)))), some (.inl (s : Int)), some (.inl (pp : Int)), some (.inl m_31), some (.inl 3), some (.inl (h 20 (zwd s 2 pp)))], [.inl m_31], (zs h hl))) rfl ?_
            refine zH_ret (v := some (.inl m_31)) rfl (fun q => absurd q (by decide)) ?_
            refine ⟨congrArg (fun z => some (Sum.inl z)) ?_, rfl⟩
            unfold zAf
            rw [if_neg (by decide), if_neg (by decide)]
            omega
  · refine zH_go 2 (c' := (43, [some (.inr (.inr (some 22))), some (.inr (.inr (some (A)))), some (.inl (s : Int)), some (.inl (pp : Int)), some (.inl 1000000), some (.inl 0), some (.inl (h 20 (zwd s 0 pp)))], [.inr (.inr (some (A))), .inl (h 20 (zwd s 0 pp))], (zs h hl))) rfl ?_
    refine zH_aln rfl (n := 56) (t := 0) hsh (by decide) ?_
    show zH _ _ (44, [some (.inr (.inr (some 22))), some (.inr (.inr (some (A)))), some (.inl (s : Int)), some (.inl (pp : Int)), some (.inl 1000000), some (.inl 0), some (.inl (h 20 (zwd s 0 pp)))], [.inl 56, .inl (h 20 (zwd s 0 pp))], (zs h hl)) _
    refine zH_br (x := (h 20 (zwd s 0 pp))) (y := 56) (k := .ge) (c1 := (73, [some (.inr (.inr (some 22))), some (.inr (.inr (some (A)))), some (.inl (s : Int)), some (.inl (pp : Int)), some (.inl 1000000), some (.inl 0), some (.inl (h 20 (zwd s 0 pp)))], [], (zs h hl))) (c2 := (47, [some (.inr (.inr (some 22))), some (.inr (.inr (some (A)))), some (.inl (s : Int)), some (.inl (pp : Int)), some (.inl 1000000), some (.inl 0), some (.inl (h 20 (zwd s 0 pp)))], [], (zs h hl))) rfl (by first | assumption | (unfold zr; omega)) ⟨by decide, by decide⟩ (fun (b_32 : ¬ (h 20 (zwd s 0 pp)) < 56) => ?_) (fun (b_32 : ¬ (¬ (h 20 (zwd s 0 pp)) < 56)) => ?_)
    · refine zH_go 6 (c' := (16, [some (.inr (.inr (some 22))), some (.inr (.inr (some (A)))), some (.inl (s : Int)), some (.inl (pp : Int)), some (.inl 1000000), some (.inl 1), some (.inl (h 20 (zwd s 0 pp)))], [.inl (h 18 1), .inl 1], (zs h hl))) rfl ?_
      rw [hL]
      refine zH_bf (x := 1) (y := 3) (k := .ge) (c1 := (79, [some (.inr (.inr (some 22))), some (.inr (.inr (some (A)))), some (.inl (s : Int)), some (.inl (pp : Int)), some (.inl 1000000), some (.inl 1), some (.inl (h 20 (zwd s 0 pp)))], [], (zs h hl))) (c2 := (19, [some (.inr (.inr (some 22))), some (.inr (.inr (some (A)))), some (.inl (s : Int)), some (.inl (pp : Int)), some (.inl 1000000), some (.inl 1), some (.inl (h 20 (zwd s 0 pp)))], [], (zs h hl))) rfl ⟨by decide, by decide⟩ ⟨by decide, by decide⟩ (by show ¬ (¬ 1 < 3); decide) ?_
      refine zH_go 5 (c' := (27, [some (.inr (.inr (some 22))), some (.inr (.inr (some (A)))), some (.inl (s : Int)), some (.inl (pp : Int)), some (.inl 1000000), some (.inl 1), some (.inl (h 20 (zwd s 0 pp)))], [.inl (pp : Int), .inl 1, .inl (s : Int), .inr (.inr (some 18))], (zs h hl))) rfl ?_
      refine zH_call (M' := 101) (as := [.inl (s : Int), .inl 1, .inl (pp : Int)]) (T := [.inr (.inr (some 18))]) rfl (p_withDigit (n := s) (i := 1) (v := pp) (by omega) (by decide) (by omega)) (fun r σ' p_33 => ?_)
      obtain ⟨rfl, rfl⟩ := p_33
      show zH _ _ (30, [some (.inr (.inr (some 22))), some (.inr (.inr (some (A)))), some (.inl (s : Int)), some (.inl (pp : Int)), some (.inl 1000000), some (.inl 1), some (.inl (h 20 (zwd s 0 pp)))], [.inl ((zwd s 1 pp : Nat) : Int), .inr (.inr (some 18))], (zs h hl)) _
      refine zH_call (M' := 44) (as := [.inr (.inr (some 18)), .inl ((zwd s 1 pp : Nat) : Int)]) (T := []) rfl (p_slot (n := zwd s 1 pp) (by omega)) (fun r σ' p_34 => ?_)
      obtain ⟨rfl, rfl⟩ := p_34
      show zH _ _ (33, [some (.inr (.inr (some 22))), some (.inr (.inr (some (A)))), some (.inl (s : Int)), some (.inl (pp : Int)), some (.inl 1000000), some (.inl 1), some (.inl (h 20 (zwd s 0 pp)))], [.inl (h 20 (zwd s 1 pp))], (zs h hl)) _
      refine zH_go 2 (c' := (37, [some (.inr (.inr (some 22))), some (.inr (.inr (some (A)))), some (.inl (s : Int)), some (.inl (pp : Int)), some (.inl 1000000), some (.inl 1), some (.inl (h 20 (zwd s 1 pp)))], [.inl (h 20 (zwd s 1 pp))], (zs h hl))) rfl ?_
      refine zH_br (x := (h 20 (zwd s 1 pp))) (y := 0) (k := .lt) (c1 := (73, [some (.inr (.inr (some 22))), some (.inr (.inr (some (A)))), some (.inl (s : Int)), some (.inl (pp : Int)), some (.inl 1000000), some (.inl 1), some (.inl (h 20 (zwd s 1 pp)))], [], (zs h hl))) (c2 := (40, [some (.inr (.inr (some 22))), some (.inr (.inr (some (A)))), some (.inl (s : Int)), some (.inl (pp : Int)), some (.inl 1000000), some (.inl 1), some (.inl (h 20 (zwd s 1 pp)))], [], (zs h hl))) rfl (by first | assumption | (unfold zr; omega)) ⟨by decide, by decide⟩ (fun (b_35 : (h 20 (zwd s 1 pp)) < 0) => ?_) (fun (b_35 : ¬ ((h 20 (zwd s 1 pp)) < 0)) => ?_)
      · refine zH_go 6 (c' := (16, [some (.inr (.inr (some 22))), some (.inr (.inr (some (A)))), some (.inl (s : Int)), some (.inl (pp : Int)), some (.inl 1000000), some (.inl 2), some (.inl (h 20 (zwd s 1 pp)))], [.inl (h 18 1), .inl 2], (zs h hl))) rfl ?_
        rw [hL]
        refine zH_bf (x := 2) (y := 3) (k := .ge) (c1 := (79, [some (.inr (.inr (some 22))), some (.inr (.inr (some (A)))), some (.inl (s : Int)), some (.inl (pp : Int)), some (.inl 1000000), some (.inl 2), some (.inl (h 20 (zwd s 1 pp)))], [], (zs h hl))) (c2 := (19, [some (.inr (.inr (some 22))), some (.inr (.inr (some (A)))), some (.inl (s : Int)), some (.inl (pp : Int)), some (.inl 1000000), some (.inl 2), some (.inl (h 20 (zwd s 1 pp)))], [], (zs h hl))) rfl ⟨by decide, by decide⟩ ⟨by decide, by decide⟩ (by show ¬ (¬ 2 < 3); decide) ?_
        refine zH_go 5 (c' := (27, [some (.inr (.inr (some 22))), some (.inr (.inr (some (A)))), some (.inl (s : Int)), some (.inl (pp : Int)), some (.inl 1000000), some (.inl 2), some (.inl (h 20 (zwd s 1 pp)))], [.inl (pp : Int), .inl 2, .inl (s : Int), .inr (.inr (some 18))], (zs h hl))) rfl ?_
        refine zH_call (M' := 101) (as := [.inl (s : Int), .inl 2, .inl (pp : Int)]) (T := [.inr (.inr (some 18))]) rfl (p_withDigit (n := s) (i := 2) (v := pp) (by omega) (by decide) (by omega)) (fun r σ' p_36 => ?_)
        obtain ⟨rfl, rfl⟩ := p_36
        show zH _ _ (30, [some (.inr (.inr (some 22))), some (.inr (.inr (some (A)))), some (.inl (s : Int)), some (.inl (pp : Int)), some (.inl 1000000), some (.inl 2), some (.inl (h 20 (zwd s 1 pp)))], [.inl ((zwd s 2 pp : Nat) : Int), .inr (.inr (some 18))], (zs h hl)) _
        refine zH_call (M' := 44) (as := [.inr (.inr (some 18)), .inl ((zwd s 2 pp : Nat) : Int)]) (T := []) rfl (p_slot (n := zwd s 2 pp) (by omega)) (fun r σ' p_37 => ?_)
        obtain ⟨rfl, rfl⟩ := p_37
        show zH _ _ (33, [some (.inr (.inr (some 22))), some (.inr (.inr (some (A)))), some (.inl (s : Int)), some (.inl (pp : Int)), some (.inl 1000000), some (.inl 2), some (.inl (h 20 (zwd s 1 pp)))], [.inl (h 20 (zwd s 2 pp))], (zs h hl)) _
        refine zH_go 2 (c' := (37, [some (.inr (.inr (some 22))), some (.inr (.inr (some (A)))), some (.inl (s : Int)), some (.inl (pp : Int)), some (.inl 1000000), some (.inl 2), some (.inl (h 20 (zwd s 2 pp)))], [.inl (h 20 (zwd s 2 pp))], (zs h hl))) rfl ?_
        refine zH_br (x := (h 20 (zwd s 2 pp))) (y := 0) (k := .lt) (c1 := (73, [some (.inr (.inr (some 22))), some (.inr (.inr (some (A)))), some (.inl (s : Int)), some (.inl (pp : Int)), some (.inl 1000000), some (.inl 2), some (.inl (h 20 (zwd s 2 pp)))], [], (zs h hl))) (c2 := (40, [some (.inr (.inr (some 22))), some (.inr (.inr (some (A)))), some (.inl (s : Int)), some (.inl (pp : Int)), some (.inl 1000000), some (.inl 2), some (.inl (h 20 (zwd s 2 pp)))], [], (zs h hl))) rfl (by first | assumption | (unfold zr; omega)) ⟨by decide, by decide⟩ (fun (b_38 : (h 20 (zwd s 2 pp)) < 0) => ?_) (fun (b_38 : ¬ ((h 20 (zwd s 2 pp)) < 0)) => ?_)
        · refine zH_go 6 (c' := (16, [some (.inr (.inr (some 22))), some (.inr (.inr (some (A)))), some (.inl (s : Int)), some (.inl (pp : Int)), some (.inl 1000000), some (.inl 3), some (.inl (h 20 (zwd s 2 pp)))], [.inl (h 18 1), .inl 3], (zs h hl))) rfl ?_
          rw [hL]
          refine zH_bt (x := 3) (y := 3) (k := .ge) (c1 := (79, [some (.inr (.inr (some 22))), some (.inr (.inr (some (A)))), some (.inl (s : Int)), some (.inl (pp : Int)), some (.inl 1000000), some (.inl 3), some (.inl (h 20 (zwd s 2 pp)))], [], (zs h hl))) (c2 := (19, [some (.inr (.inr (some 22))), some (.inr (.inr (some (A)))), some (.inl (s : Int)), some (.inl (pp : Int)), some (.inl 1000000), some (.inl 3), some (.inl (h 20 (zwd s 2 pp)))], [], (zs h hl))) rfl ⟨by decide, by decide⟩ ⟨by decide, by decide⟩ (by show ¬ 3 < 3; decide) ?_
          refine zH_go 1 (c' := (81, [some (.inr (.inr (some 22))), some (.inr (.inr (some (A)))), some (.inl (s : Int)), some (.inl (pp : Int)), some (.inl 1000000), some (.inl 3), some (.inl (h 20 (zwd s 2 pp)))], [.inl 1000000], (zs h hl))) rfl ?_
          refine zH_ret (v := some (.inl 1000000)) rfl (fun q => absurd q (by decide)) ?_
          refine ⟨congrArg (fun z => some (Sum.inl z)) ?_, rfl⟩
          unfold zAf
          rw [if_neg (by decide), if_neg (by decide)]
          omega
        · refine zH_go 2 (c' := (43, [some (.inr (.inr (some 22))), some (.inr (.inr (some (A)))), some (.inl (s : Int)), some (.inl (pp : Int)), some (.inl 1000000), some (.inl 2), some (.inl (h 20 (zwd s 2 pp)))], [.inr (.inr (some (A))), .inl (h 20 (zwd s 2 pp))], (zs h hl))) rfl ?_
          refine zH_aln rfl (n := 56) (t := 0) hsh (by decide) ?_
          show zH _ _ (44, [some (.inr (.inr (some 22))), some (.inr (.inr (some (A)))), some (.inl (s : Int)), some (.inl (pp : Int)), some (.inl 1000000), some (.inl 2), some (.inl (h 20 (zwd s 2 pp)))], [.inl 56, .inl (h 20 (zwd s 2 pp))], (zs h hl)) _
          refine zH_br (x := (h 20 (zwd s 2 pp))) (y := 56) (k := .ge) (c1 := (73, [some (.inr (.inr (some 22))), some (.inr (.inr (some (A)))), some (.inl (s : Int)), some (.inl (pp : Int)), some (.inl 1000000), some (.inl 2), some (.inl (h 20 (zwd s 2 pp)))], [], (zs h hl))) (c2 := (47, [some (.inr (.inr (some 22))), some (.inr (.inr (some (A)))), some (.inl (s : Int)), some (.inl (pp : Int)), some (.inl 1000000), some (.inl 2), some (.inl (h 20 (zwd s 2 pp)))], [], (zs h hl))) rfl (by first | assumption | (unfold zr; omega)) ⟨by decide, by decide⟩ (fun (b_39 : ¬ (h 20 (zwd s 2 pp)) < 56) => ?_) (fun (b_39 : ¬ (¬ (h 20 (zwd s 2 pp)) < 56)) => ?_)
          · refine zH_go 6 (c' := (16, [some (.inr (.inr (some 22))), some (.inr (.inr (some (A)))), some (.inl (s : Int)), some (.inl (pp : Int)), some (.inl 1000000), some (.inl 3), some (.inl (h 20 (zwd s 2 pp)))], [.inl (h 18 1), .inl 3], (zs h hl))) rfl ?_
            rw [hL]
            refine zH_bt (x := 3) (y := 3) (k := .ge) (c1 := (79, [some (.inr (.inr (some 22))), some (.inr (.inr (some (A)))), some (.inl (s : Int)), some (.inl (pp : Int)), some (.inl 1000000), some (.inl 3), some (.inl (h 20 (zwd s 2 pp)))], [], (zs h hl))) (c2 := (19, [some (.inr (.inr (some 22))), some (.inr (.inr (some (A)))), some (.inl (s : Int)), some (.inl (pp : Int)), some (.inl 1000000), some (.inl 3), some (.inl (h 20 (zwd s 2 pp)))], [], (zs h hl))) rfl ⟨by decide, by decide⟩ ⟨by decide, by decide⟩ (by show ¬ 3 < 3; decide) ?_
            refine zH_go 1 (c' := (81, [some (.inr (.inr (some 22))), some (.inr (.inr (some (A)))), some (.inl (s : Int)), some (.inl (pp : Int)), some (.inl 1000000), some (.inl 3), some (.inl (h 20 (zwd s 2 pp)))], [.inl 1000000], (zs h hl))) rfl ?_
            refine zH_ret (v := some (.inl 1000000)) rfl (fun q => absurd q (by decide)) ?_
            refine ⟨congrArg (fun z => some (Sum.inl z)) ?_, rfl⟩
            unfold zAf
            rw [if_neg (by decide), if_neg (by decide)]
            omega
          · refine zH_go 3 (c' := (52, [some (.inr (.inr (some 22))), some (.inr (.inr (some (A)))), some (.inl (s : Int)), some (.inl (pp : Int)), some (.inl 1000000), some (.inl 2), some (.inl (h 20 (zwd s 2 pp)))], [.inl (h 20 (zwd s 2 pp)), .inr (.inr (some (A))), .inl 1000000], (zs h hl))) rfl ?_
            refine zH_ial rfl (n := 56) hsh (by omega) (by omega) ?_
            show zH _ _ (53, [some (.inr (.inr (some 22))), some (.inr (.inr (some (A)))), some (.inl (s : Int)), some (.inl (pp : Int)), some (.inl 1000000), some (.inl 2), some (.inl (h 20 (zwd s 2 pp)))], [.inl (h A (Int.toNat (h 20 (zwd s 2 pp)))), .inl 1000000], (zs h hl)) _
            refine zH_go 5 (c' := (61, [some (.inr (.inr (some 22))), some (.inr (.inr (some (A)))), some (.inl (s : Int)), some (.inl (pp : Int)), some (.inl 1000000), some (.inl 2), some (.inl (h 20 (zwd s 2 pp)))], [.inl 2, .inl (s : Int), .inl (pp : Int), .inr (.inr (some 3)), .inl (h A (Int.toNat (h 20 (zwd s 2 pp)))), .inl 1000000], (zs h hl))) rfl ?_
            refine zH_call (M' := 100) (as := [.inl (s : Int), .inl 2]) (T := [.inl (pp : Int), .inr (.inr (some 3)), .inl (h A (Int.toNat (h 20 (zwd s 2 pp)))), .inl 1000000]) rfl (p_digit (n := s) (i := 2) (by omega) (by decide)) (fun r σ' p_40 => ?_)
            obtain ⟨rfl, rfl⟩ := p_40
            show zH _ _ (64, [some (.inr (.inr (some 22))), some (.inr (.inr (some (A)))), some (.inl (s : Int)), some (.inl (pp : Int)), some (.inl 1000000), some (.inl 2), some (.inl (h 20 (zwd s 2 pp)))], [.inl ((zdg s 2 : Nat) : Int), .inl (pp : Int), .inr (.inr (some 3)), .inl (h A (Int.toNat (h 20 (zwd s 2 pp)))), .inl 1000000], (zs h hl)) _
            refine zH_call (M' := 52) (as := [.inr (.inr (some 3)), .inl (pp : Int), .inl ((zdg s 2 : Nat) : Int)]) (T := [.inl (h A (Int.toNat (h 20 (zwd s 2 pp)))), .inl 1000000]) rfl (p_gap (a := pp) (b := zdg s 2) (by omega) (by omega)) (fun r σ' p_41 => ?_)
            obtain ⟨rfl, rfl⟩ := p_41
            show zH _ _ (67, [some (.inr (.inr (some 22))), some (.inr (.inr (some (A)))), some (.inl (s : Int)), some (.inl (pp : Int)), some (.inl 1000000), some (.inl 2), some (.inl (h 20 (zwd s 2 pp)))], [.inl (h (12 + pp) (zdg s 2)), .inl (h A (Int.toNat (h 20 (zwd s 2 pp)))), .inl 1000000], (zs h hl)) _
            refine zH_go 1 (c' := (68, [some (.inr (.inr (some 22))), some (.inr (.inr (some (A)))), some (.inl (s : Int)), some (.inl (pp : Int)), some (.inl 1000000), some (.inl 2), some (.inl (h 20 (zwd s 2 pp)))], [.inl ((h A (Int.toNat (h 20 (zwd s 2 pp)))) + (h (12 + pp) (zdg s 2))), .inl 1000000], (zs h hl))) rfl ?_
            refine zH_np (P := zr 1000000 ∧ zr ((h A (Int.toNat (h 20 (zwd s 2 pp)))) + (h (12 + pp) (zdg s 2)))) (c' := (71, [some (.inr (.inr (some 22))), some (.inr (.inr (some (A)))), some (.inl (s : Int)), some (.inl (pp : Int)), some (.inl 1000000), some (.inl 2), some (.inl (h 20 (zwd s 2 pp)))], [.inl (if ((h A (Int.toNat (h 20 (zwd s 2 pp)))) + (h (12 + pp) (zdg s 2))) < 1000000 then ((h A (Int.toNat (h 20 (zwd s 2 pp)))) + (h (12 + pp) (zdg s 2))) else 1000000)], (zs h hl))) rfl ⟨⟨by decide, by decide⟩, (by first | assumption | (unfold zr; omega))⟩ ?_
            obtain ⟨m_42, em_42, fm_42⟩ := zmin_spec 1000000 ((h A (Int.toNat (h 20 (zwd s 2 pp)))) + (h (12 + pp) (zdg s 2)))
            rw [em_42]
            refine zH_go 7 (c' := (16, [some (.inr (.inr (some 22))), some (.inr (.inr (some (A)))), some (.inl (s : Int)), some (.inl (pp : Int)), some (.inl m_42), some (.inl 3), some (.inl (h 20 (zwd s 2 pp)))], [.inl (h 18 1), .inl 3], (zs h hl))) rfl ?_
            rw [hL]
            refine zH_bt (x := 3) (y := 3) (k := .ge) (c1 := (79, [some (.inr (.inr (some 22))), some (.inr (.inr (some (A)))), some (.inl (s : Int)), some (.inl (pp : Int)), some (.inl m_42), some (.inl 3), some (.inl (h 20 (zwd s 2 pp)))], [], (zs h hl))) (c2 := (19, [some (.inr (.inr (some 22))), some (.inr (.inr (some (A)))), some (.inl (s : Int)), some (.inl (pp : Int)), some (.inl m_42), some (.inl 3), some (.inl (h 20 (zwd s 2 pp)))], [], (zs h hl))) rfl ⟨by decide, by decide⟩ ⟨by decide, by decide⟩ (by show ¬ 3 < 3; decide) ?_
            refine zH_go 1 (c' := (81, [some (.inr (.inr (some 22))), some (.inr (.inr (some (A)))), some (.inl (s : Int)), some (.inl (pp : Int)), some (.inl m_42), some (.inl 3), some (.inl (h 20 (zwd s 2 pp)))], [.inl m_42], (zs h hl))) rfl ?_
            refine zH_ret (v := some (.inl m_42)) rfl (fun q => absurd q (by decide)) ?_
            refine ⟨congrArg (fun z => some (Sum.inl z)) ?_, rfl⟩
            unfold zAf
            rw [if_neg (by decide), if_neg (by decide)]
            omega
      · refine zH_go 2 (c' := (43, [some (.inr (.inr (some 22))), some (.inr (.inr (some (A)))), some (.inl (s : Int)), some (.inl (pp : Int)), some (.inl 1000000), some (.inl 1), some (.inl (h 20 (zwd s 1 pp)))], [.inr (.inr (some (A))), .inl (h 20 (zwd s 1 pp))], (zs h hl))) rfl ?_
        refine zH_aln rfl (n := 56) (t := 0) hsh (by decide) ?_
        show zH _ _ (44, [some (.inr (.inr (some 22))), some (.inr (.inr (some (A)))), some (.inl (s : Int)), some (.inl (pp : Int)), some (.inl 1000000), some (.inl 1), some (.inl (h 20 (zwd s 1 pp)))], [.inl 56, .inl (h 20 (zwd s 1 pp))], (zs h hl)) _
        refine zH_br (x := (h 20 (zwd s 1 pp))) (y := 56) (k := .ge) (c1 := (73, [some (.inr (.inr (some 22))), some (.inr (.inr (some (A)))), some (.inl (s : Int)), some (.inl (pp : Int)), some (.inl 1000000), some (.inl 1), some (.inl (h 20 (zwd s 1 pp)))], [], (zs h hl))) (c2 := (47, [some (.inr (.inr (some 22))), some (.inr (.inr (some (A)))), some (.inl (s : Int)), some (.inl (pp : Int)), some (.inl 1000000), some (.inl 1), some (.inl (h 20 (zwd s 1 pp)))], [], (zs h hl))) rfl (by first | assumption | (unfold zr; omega)) ⟨by decide, by decide⟩ (fun (b_43 : ¬ (h 20 (zwd s 1 pp)) < 56) => ?_) (fun (b_43 : ¬ (¬ (h 20 (zwd s 1 pp)) < 56)) => ?_)
        · refine zH_go 6 (c' := (16, [some (.inr (.inr (some 22))), some (.inr (.inr (some (A)))), some (.inl (s : Int)), some (.inl (pp : Int)), some (.inl 1000000), some (.inl 2), some (.inl (h 20 (zwd s 1 pp)))], [.inl (h 18 1), .inl 2], (zs h hl))) rfl ?_
          rw [hL]
          refine zH_bf (x := 2) (y := 3) (k := .ge) (c1 := (79, [some (.inr (.inr (some 22))), some (.inr (.inr (some (A)))), some (.inl (s : Int)), some (.inl (pp : Int)), some (.inl 1000000), some (.inl 2), some (.inl (h 20 (zwd s 1 pp)))], [], (zs h hl))) (c2 := (19, [some (.inr (.inr (some 22))), some (.inr (.inr (some (A)))), some (.inl (s : Int)), some (.inl (pp : Int)), some (.inl 1000000), some (.inl 2), some (.inl (h 20 (zwd s 1 pp)))], [], (zs h hl))) rfl ⟨by decide, by decide⟩ ⟨by decide, by decide⟩ (by show ¬ (¬ 2 < 3); decide) ?_
          refine zH_go 5 (c' := (27, [some (.inr (.inr (some 22))), some (.inr (.inr (some (A)))), some (.inl (s : Int)), some (.inl (pp : Int)), some (.inl 1000000), some (.inl 2), some (.inl (h 20 (zwd s 1 pp)))], [.inl (pp : Int), .inl 2, .inl (s : Int), .inr (.inr (some 18))], (zs h hl))) rfl ?_
          refine zH_call (M' := 101) (as := [.inl (s : Int), .inl 2, .inl (pp : Int)]) (T := [.inr (.inr (some 18))]) rfl (p_withDigit (n := s) (i := 2) (v := pp) (by omega) (by decide) (by omega)) (fun r σ' p_44 => ?_)
          obtain ⟨rfl, rfl⟩ := p_44
          show zH _ _ (30, [some (.inr (.inr (some 22))), some (.inr (.inr (some (A)))), some (.inl (s : Int)), some (.inl (pp : Int)), some (.inl 1000000), some (.inl 2), some (.inl (h 20 (zwd s 1 pp)))], [.inl ((zwd s 2 pp : Nat) : Int), .inr (.inr (some 18))], (zs h hl)) _
          refine zH_call (M' := 44) (as := [.inr (.inr (some 18)), .inl ((zwd s 2 pp : Nat) : Int)]) (T := []) rfl (p_slot (n := zwd s 2 pp) (by omega)) (fun r σ' p_45 => ?_)
          obtain ⟨rfl, rfl⟩ := p_45
          show zH _ _ (33, [some (.inr (.inr (some 22))), some (.inr (.inr (some (A)))), some (.inl (s : Int)), some (.inl (pp : Int)), some (.inl 1000000), some (.inl 2), some (.inl (h 20 (zwd s 1 pp)))], [.inl (h 20 (zwd s 2 pp))], (zs h hl)) _
          refine zH_go 2 (c' := (37, [some (.inr (.inr (some 22))), some (.inr (.inr (some (A)))), some (.inl (s : Int)), some (.inl (pp : Int)), some (.inl 1000000), some (.inl 2), some (.inl (h 20 (zwd s 2 pp)))], [.inl (h 20 (zwd s 2 pp))], (zs h hl))) rfl ?_
          refine zH_br (x := (h 20 (zwd s 2 pp))) (y := 0) (k := .lt) (c1 := (73, [some (.inr (.inr (some 22))), some (.inr (.inr (some (A)))), some (.inl (s : Int)), some (.inl (pp : Int)), some (.inl 1000000), some (.inl 2), some (.inl (h 20 (zwd s 2 pp)))], [], (zs h hl))) (c2 := (40, [some (.inr (.inr (some 22))), some (.inr (.inr (some (A)))), some (.inl (s : Int)), some (.inl (pp : Int)), some (.inl 1000000), some (.inl 2), some (.inl (h 20 (zwd s 2 pp)))], [], (zs h hl))) rfl (by first | assumption | (unfold zr; omega)) ⟨by decide, by decide⟩ (fun (b_46 : (h 20 (zwd s 2 pp)) < 0) => ?_) (fun (b_46 : ¬ ((h 20 (zwd s 2 pp)) < 0)) => ?_)
          · refine zH_go 6 (c' := (16, [some (.inr (.inr (some 22))), some (.inr (.inr (some (A)))), some (.inl (s : Int)), some (.inl (pp : Int)), some (.inl 1000000), some (.inl 3), some (.inl (h 20 (zwd s 2 pp)))], [.inl (h 18 1), .inl 3], (zs h hl))) rfl ?_
            rw [hL]
            refine zH_bt (x := 3) (y := 3) (k := .ge) (c1 := (79, [some (.inr (.inr (some 22))), some (.inr (.inr (some (A)))), some (.inl (s : Int)), some (.inl (pp : Int)), some (.inl 1000000), some (.inl 3), some (.inl (h 20 (zwd s 2 pp)))], [], (zs h hl))) (c2 := (19, [some (.inr (.inr (some 22))), some (.inr (.inr (some (A)))), some (.inl (s : Int)), some (.inl (pp : Int)), some (.inl 1000000), some (.inl 3), some (.inl (h 20 (zwd s 2 pp)))], [], (zs h hl))) rfl ⟨by decide, by decide⟩ ⟨by decide, by decide⟩ (by show ¬ 3 < 3; decide) ?_
            refine zH_go 1 (c' := (81, [some (.inr (.inr (some 22))), some (.inr (.inr (some (A)))), some (.inl (s : Int)), some (.inl (pp : Int)), some (.inl 1000000), some (.inl 3), some (.inl (h 20 (zwd s 2 pp)))], [.inl 1000000], (zs h hl))) rfl ?_
            refine zH_ret (v := some (.inl 1000000)) rfl (fun q => absurd q (by decide)) ?_
            refine ⟨congrArg (fun z => some (Sum.inl z)) ?_, rfl⟩
            unfold zAf
            rw [if_neg (by decide), if_neg (by decide)]
            omega
          · refine zH_go 2 (c' := (43, [some (.inr (.inr (some 22))), some (.inr (.inr (some (A)))), some (.inl (s : Int)), some (.inl (pp : Int)), some (.inl 1000000), some (.inl 2), some (.inl (h 20 (zwd s 2 pp)))], [.inr (.inr (some (A))), .inl (h 20 (zwd s 2 pp))], (zs h hl))) rfl ?_
            refine zH_aln rfl (n := 56) (t := 0) hsh (by decide) ?_
            show zH _ _ (44, [some (.inr (.inr (some 22))), some (.inr (.inr (some (A)))), some (.inl (s : Int)), some (.inl (pp : Int)), some (.inl 1000000), some (.inl 2), some (.inl (h 20 (zwd s 2 pp)))], [.inl 56, .inl (h 20 (zwd s 2 pp))], (zs h hl)) _
            refine zH_br (x := (h 20 (zwd s 2 pp))) (y := 56) (k := .ge) (c1 := (73, [some (.inr (.inr (some 22))), some (.inr (.inr (some (A)))), some (.inl (s : Int)), some (.inl (pp : Int)), some (.inl 1000000), some (.inl 2), some (.inl (h 20 (zwd s 2 pp)))], [], (zs h hl))) (c2 := (47, [some (.inr (.inr (some 22))), some (.inr (.inr (some (A)))), some (.inl (s : Int)), some (.inl (pp : Int)), some (.inl 1000000), some (.inl 2), some (.inl (h 20 (zwd s 2 pp)))], [], (zs h hl))) rfl (by first | assumption | (unfold zr; omega)) ⟨by decide, by decide⟩ (fun (b_47 : ¬ (h 20 (zwd s 2 pp)) < 56) => ?_) (fun (b_47 : ¬ (¬ (h 20 (zwd s 2 pp)) < 56)) => ?_)
            · refine zH_go 6 (c' := (16, [some (.inr (.inr (some 22))), some (.inr (.inr (some (A)))), some (.inl (s : Int)), some (.inl (pp : Int)), some (.inl 1000000), some (.inl 3), some (.inl (h 20 (zwd s 2 pp)))], [.inl (h 18 1), .inl 3], (zs h hl))) rfl ?_
              rw [hL]
              refine zH_bt (x := 3) (y := 3) (k := .ge) (c1 := (79, [some (.inr (.inr (some 22))), some (.inr (.inr (some (A)))), some (.inl (s : Int)), some (.inl (pp : Int)), some (.inl 1000000), some (.inl 3), some (.inl (h 20 (zwd s 2 pp)))], [], (zs h hl))) (c2 := (19, [some (.inr (.inr (some 22))), some (.inr (.inr (some (A)))), some (.inl (s : Int)), some (.inl (pp : Int)), some (.inl 1000000), some (.inl 3), some (.inl (h 20 (zwd s 2 pp)))], [], (zs h hl))) rfl ⟨by decide, by decide⟩ ⟨by decide, by decide⟩ (by show ¬ 3 < 3; decide) ?_
              refine zH_go 1 (c' := (81, [some (.inr (.inr (some 22))), some (.inr (.inr (some (A)))), some (.inl (s : Int)), some (.inl (pp : Int)), some (.inl 1000000), some (.inl 3), some (.inl (h 20 (zwd s 2 pp)))], [.inl 1000000], (zs h hl))) rfl ?_
              refine zH_ret (v := some (.inl 1000000)) rfl (fun q => absurd q (by decide)) ?_
              refine ⟨congrArg (fun z => some (Sum.inl z)) ?_, rfl⟩
              unfold zAf
              rw [if_neg (by decide), if_neg (by decide)]
              omega
            · refine zH_go 3 (c' := (52, [some (.inr (.inr (some 22))), some (.inr (.inr (some (A)))), some (.inl (s : Int)), some (.inl (pp : Int)), some (.inl 1000000), some (.inl 2), some (.inl (h 20 (zwd s 2 pp)))], [.inl (h 20 (zwd s 2 pp)), .inr (.inr (some (A))), .inl 1000000], (zs h hl))) rfl ?_
              refine zH_ial rfl (n := 56) hsh (by omega) (by omega) ?_
              show zH _ _ (53, [some (.inr (.inr (some 22))), some (.inr (.inr (some (A)))), some (.inl (s : Int)), some (.inl (pp : Int)), some (.inl 1000000), some (.inl 2), some (.inl (h 20 (zwd s 2 pp)))], [.inl (h A (Int.toNat (h 20 (zwd s 2 pp)))), .inl 1000000], (zs h hl)) _
              refine zH_go 5 (c' := (61, [some (.inr (.inr (some 22))), some (.inr (.inr (some (A)))), some (.inl (s : Int)), some (.inl (pp : Int)), some (.inl 1000000), some (.inl 2), some (.inl (h 20 (zwd s 2 pp)))], [.inl 2, .inl (s : Int), .inl (pp : Int), .inr (.inr (some 3)), .inl (h A (Int.toNat (h 20 (zwd s 2 pp)))), .inl 1000000], (zs h hl))) rfl ?_
              refine zH_call (M' := 100) (as := [.inl (s : Int), .inl 2]) (T := [.inl (pp : Int), .inr (.inr (some 3)), .inl (h A (Int.toNat (h 20 (zwd s 2 pp)))), .inl 1000000]) rfl (p_digit (n := s) (i := 2) (by omega) (by decide)) (fun r σ' p_48 => ?_)
              obtain ⟨rfl, rfl⟩ := p_48
              show zH _ _ (64, [some (.inr (.inr (some 22))), some (.inr (.inr (some (A)))), some (.inl (s : Int)), some (.inl (pp : Int)), some (.inl 1000000), some (.inl 2), some (.inl (h 20 (zwd s 2 pp)))], [.inl ((zdg s 2 : Nat) : Int), .inl (pp : Int), .inr (.inr (some 3)), .inl (h A (Int.toNat (h 20 (zwd s 2 pp)))), .inl 1000000], (zs h hl)) _
              refine zH_call (M' := 52) (as := [.inr (.inr (some 3)), .inl (pp : Int), .inl ((zdg s 2 : Nat) : Int)]) (T := [.inl (h A (Int.toNat (h 20 (zwd s 2 pp)))), .inl 1000000]) rfl (p_gap (a := pp) (b := zdg s 2) (by omega) (by omega)) (fun r σ' p_49 => ?_)
              obtain ⟨rfl, rfl⟩ := p_49
              show zH _ _ (67, [some (.inr (.inr (some 22))), some (.inr (.inr (some (A)))), some (.inl (s : Int)), some (.inl (pp : Int)), some (.inl 1000000), some (.inl 2), some (.inl (h 20 (zwd s 2 pp)))], [.inl (h (12 + pp) (zdg s 2)), .inl (h A (Int.toNat (h 20 (zwd s 2 pp)))), .inl 1000000], (zs h hl)) _
              refine zH_go 1 (c' := (68, [some (.inr (.inr (some 22))), some (.inr (.inr (some (A)))), some (.inl (s : Int)), some (.inl (pp : Int)), some (.inl 1000000), some (.inl 2), some (.inl (h 20 (zwd s 2 pp)))], [.inl ((h A (Int.toNat (h 20 (zwd s 2 pp)))) + (h (12 + pp) (zdg s 2))), .inl 1000000], (zs h hl))) rfl ?_
              refine zH_np (P := zr 1000000 ∧ zr ((h A (Int.toNat (h 20 (zwd s 2 pp)))) + (h (12 + pp) (zdg s 2)))) (c' := (71, [some (.inr (.inr (some 22))), some (.inr (.inr (some (A)))), some (.inl (s : Int)), some (.inl (pp : Int)), some (.inl 1000000), some (.inl 2), some (.inl (h 20 (zwd s 2 pp)))], [.inl (if ((h A (Int.toNat (h 20 (zwd s 2 pp)))) + (h (12 + pp) (zdg s 2))) < 1000000 then ((h A (Int.toNat (h 20 (zwd s 2 pp)))) + (h (12 + pp) (zdg s 2))) else 1000000)], (zs h hl))) rfl ⟨⟨by decide, by decide⟩, (by first | assumption | (unfold zr; omega))⟩ ?_
              obtain ⟨m_50, em_50, fm_50⟩ := zmin_spec 1000000 ((h A (Int.toNat (h 20 (zwd s 2 pp)))) + (h (12 + pp) (zdg s 2)))
              rw [em_50]
              refine zH_go 7 (c' := (16, [some (.inr (.inr (some 22))), some (.inr (.inr (some (A)))), some (.inl (s : Int)), some (.inl (pp : Int)), some (.inl m_50), some (.inl 3), some (.inl (h 20 (zwd s 2 pp)))], [.inl (h 18 1), .inl 3], (zs h hl))) rfl ?_
              rw [hL]
              refine zH_bt (x := 3) (y := 3) (k := .ge) (c1 := (79, [some (.inr (.inr (some 22))), some (.inr (.inr (some (A)))), some (.inl (s : Int)), some (.inl (pp : Int)), some (.inl m_50), some (.inl 3), some (.inl (h 20 (zwd s 2 pp)))], [], (zs h hl))) (c2 := (19, [some (.inr (.inr (some 22))), some (.inr (.inr (some (A)))), some (.inl (s : Int)), some (.inl (pp : Int)), some (.inl m_50), some (.inl 3), some (.inl (h 20 (zwd s 2 pp)))], [], (zs h hl))) rfl ⟨by decide, by decide⟩ ⟨by decide, by decide⟩ (by show ¬ 3 < 3; decide) ?_
              refine zH_go 1 (c' := (81, [some (.inr (.inr (some 22))), some (.inr (.inr (some (A)))), some (.inl (s : Int)), some (.inl (pp : Int)), some (.inl m_50), some (.inl 3), some (.inl (h 20 (zwd s 2 pp)))], [.inl m_50], (zs h hl))) rfl ?_
              refine zH_ret (v := some (.inl m_50)) rfl (fun q => absurd q (by decide)) ?_
              refine ⟨congrArg (fun z => some (Sum.inl z)) ?_, rfl⟩
              unfold zAf
              rw [if_neg (by decide), if_neg (by decide)]
              omega
        · refine zH_go 3 (c' := (52, [some (.inr (.inr (some 22))), some (.inr (.inr (some (A)))), some (.inl (s : Int)), some (.inl (pp : Int)), some (.inl 1000000), some (.inl 1), some (.inl (h 20 (zwd s 1 pp)))], [.inl (h 20 (zwd s 1 pp)), .inr (.inr (some (A))), .inl 1000000], (zs h hl))) rfl ?_
          refine zH_ial rfl (n := 56) hsh (by omega) (by omega) ?_
          show zH _ _ (53, [some (.inr (.inr (some 22))), some (.inr (.inr (some (A)))), some (.inl (s : Int)), some (.inl (pp : Int)), some (.inl 1000000), some (.inl 1), some (.inl (h 20 (zwd s 1 pp)))], [.inl (h A (Int.toNat (h 20 (zwd s 1 pp)))), .inl 1000000], (zs h hl)) _
          refine zH_go 5 (c' := (61, [some (.inr (.inr (some 22))), some (.inr (.inr (some (A)))), some (.inl (s : Int)), some (.inl (pp : Int)), some (.inl 1000000), some (.inl 1), some (.inl (h 20 (zwd s 1 pp)))], [.inl 1, .inl (s : Int), .inl (pp : Int), .inr (.inr (some 3)), .inl (h A (Int.toNat (h 20 (zwd s 1 pp)))), .inl 1000000], (zs h hl))) rfl ?_
          refine zH_call (M' := 100) (as := [.inl (s : Int), .inl 1]) (T := [.inl (pp : Int), .inr (.inr (some 3)), .inl (h A (Int.toNat (h 20 (zwd s 1 pp)))), .inl 1000000]) rfl (p_digit (n := s) (i := 1) (by omega) (by decide)) (fun r σ' p_51 => ?_)
          obtain ⟨rfl, rfl⟩ := p_51
          show zH _ _ (64, [some (.inr (.inr (some 22))), some (.inr (.inr (some (A)))), some (.inl (s : Int)), some (.inl (pp : Int)), some (.inl 1000000), some (.inl 1), some (.inl (h 20 (zwd s 1 pp)))], [.inl ((zdg s 1 : Nat) : Int), .inl (pp : Int), .inr (.inr (some 3)), .inl (h A (Int.toNat (h 20 (zwd s 1 pp)))), .inl 1000000], (zs h hl)) _
          refine zH_call (M' := 52) (as := [.inr (.inr (some 3)), .inl (pp : Int), .inl ((zdg s 1 : Nat) : Int)]) (T := [.inl (h A (Int.toNat (h 20 (zwd s 1 pp)))), .inl 1000000]) rfl (p_gap (a := pp) (b := zdg s 1) (by omega) (by omega)) (fun r σ' p_52 => ?_)
          obtain ⟨rfl, rfl⟩ := p_52
          show zH _ _ (67, [some (.inr (.inr (some 22))), some (.inr (.inr (some (A)))), some (.inl (s : Int)), some (.inl (pp : Int)), some (.inl 1000000), some (.inl 1), some (.inl (h 20 (zwd s 1 pp)))], [.inl (h (12 + pp) (zdg s 1)), .inl (h A (Int.toNat (h 20 (zwd s 1 pp)))), .inl 1000000], (zs h hl)) _
          refine zH_go 1 (c' := (68, [some (.inr (.inr (some 22))), some (.inr (.inr (some (A)))), some (.inl (s : Int)), some (.inl (pp : Int)), some (.inl 1000000), some (.inl 1), some (.inl (h 20 (zwd s 1 pp)))], [.inl ((h A (Int.toNat (h 20 (zwd s 1 pp)))) + (h (12 + pp) (zdg s 1))), .inl 1000000], (zs h hl))) rfl ?_
          refine zH_np (P := zr 1000000 ∧ zr ((h A (Int.toNat (h 20 (zwd s 1 pp)))) + (h (12 + pp) (zdg s 1)))) (c' := (71, [some (.inr (.inr (some 22))), some (.inr (.inr (some (A)))), some (.inl (s : Int)), some (.inl (pp : Int)), some (.inl 1000000), some (.inl 1), some (.inl (h 20 (zwd s 1 pp)))], [.inl (if ((h A (Int.toNat (h 20 (zwd s 1 pp)))) + (h (12 + pp) (zdg s 1))) < 1000000 then ((h A (Int.toNat (h 20 (zwd s 1 pp)))) + (h (12 + pp) (zdg s 1))) else 1000000)], (zs h hl))) rfl ⟨⟨by decide, by decide⟩, (by first | assumption | (unfold zr; omega))⟩ ?_
          obtain ⟨m_53, em_53, fm_53⟩ := zmin_spec 1000000 ((h A (Int.toNat (h 20 (zwd s 1 pp)))) + (h (12 + pp) (zdg s 1)))
          rw [em_53]
          refine zH_go 7 (c' := (16, [some (.inr (.inr (some 22))), some (.inr (.inr (some (A)))), some (.inl (s : Int)), some (.inl (pp : Int)), some (.inl m_53), some (.inl 2), some (.inl (h 20 (zwd s 1 pp)))], [.inl (h 18 1), .inl 2], (zs h hl))) rfl ?_
          rw [hL]
          refine zH_bf (x := 2) (y := 3) (k := .ge) (c1 := (79, [some (.inr (.inr (some 22))), some (.inr (.inr (some (A)))), some (.inl (s : Int)), some (.inl (pp : Int)), some (.inl m_53), some (.inl 2), some (.inl (h 20 (zwd s 1 pp)))], [], (zs h hl))) (c2 := (19, [some (.inr (.inr (some 22))), some (.inr (.inr (some (A)))), some (.inl (s : Int)), some (.inl (pp : Int)), some (.inl m_53), some (.inl 2), some (.inl (h 20 (zwd s 1 pp)))], [], (zs h hl))) rfl ⟨by decide, by decide⟩ ⟨by decide, by decide⟩ (by show ¬ (¬ 2 < 3); decide) ?_
          refine zH_go 5 (c' := (27, [some (.inr (.inr (some 22))), some (.inr (.inr (some (A)))), some (.inl (s : Int)), some (.inl (pp : Int)), some (.inl m_53), some (.inl 2), some (.inl (h 20 (zwd s 1 pp)))], [.inl (pp : Int), .inl 2, .inl (s : Int), .inr (.inr (some 18))], (zs h hl))) rfl ?_
          refine zH_call (M' := 101) (as := [.inl (s : Int), .inl 2, .inl (pp : Int)]) (T := [.inr (.inr (some 18))]) rfl (p_withDigit (n := s) (i := 2) (v := pp) (by omega) (by decide) (by omega)) (fun r σ' p_54 => ?_)
          obtain ⟨rfl, rfl⟩ := p_54
          show zH _ _ (30, [some (.inr (.inr (some 22))), some (.inr (.inr (some (A)))), some (.inl (s : Int)), some (.inl (pp : Int)), some (.inl m_53), some (.inl 2), some (.inl (h 20 (zwd s 1 pp)))], [.inl ((zwd s 2 pp : Nat) : Int), .inr (.inr (some 18))], (zs h hl)) _
          refine zH_call (M' := 44) (as := [.inr (.inr (some 18)), .inl ((zwd s 2 pp : Nat) : Int)]) (T := []) rfl (p_slot (n := zwd s 2 pp) (by omega)) (fun r σ' p_55 => ?_)
          obtain ⟨rfl, rfl⟩ := p_55
          show zH _ _ (33, [some (.inr (.inr (some 22))), some (.inr (.inr (some (A)))), some (.inl (s : Int)), some (.inl (pp : Int)), some (.inl m_53), some (.inl 2), some (.inl (h 20 (zwd s 1 pp)))], [.inl (h 20 (zwd s 2 pp))], (zs h hl)) _
          refine zH_go 2 (c' := (37, [some (.inr (.inr (some 22))), some (.inr (.inr (some (A)))), some (.inl (s : Int)), some (.inl (pp : Int)), some (.inl m_53), some (.inl 2), some (.inl (h 20 (zwd s 2 pp)))], [.inl (h 20 (zwd s 2 pp))], (zs h hl))) rfl ?_
          refine zH_br (x := (h 20 (zwd s 2 pp))) (y := 0) (k := .lt) (c1 := (73, [some (.inr (.inr (some 22))), some (.inr (.inr (some (A)))), some (.inl (s : Int)), some (.inl (pp : Int)), some (.inl m_53), some (.inl 2), some (.inl (h 20 (zwd s 2 pp)))], [], (zs h hl))) (c2 := (40, [some (.inr (.inr (some 22))), some (.inr (.inr (some (A)))), some (.inl (s : Int)), some (.inl (pp : Int)), some (.inl m_53), some (.inl 2), some (.inl (h 20 (zwd s 2 pp)))], [], (zs h hl))) rfl (by first | assumption | (unfold zr; omega)) ⟨by decide, by decide⟩ (fun (b_56 : (h 20 (zwd s 2 pp)) < 0) => ?_) (fun (b_56 : ¬ ((h 20 (zwd s 2 pp)) < 0)) => ?_)
          · refine zH_go 6 (c' := (16, [some (.inr (.inr (some 22))), some (.inr (.inr (some (A)))), some (.inl (s : Int)), some (.inl (pp : Int)), some (.inl m_53), some (.inl 3), some (.inl (h 20 (zwd s 2 pp)))], [.inl (h 18 1), .inl 3], (zs h hl))) rfl ?_
            rw [hL]
            refine zH_bt (x := 3) (y := 3) (k := .ge) (c1 := (79, [some (.inr (.inr (some 22))), some (.inr (.inr (some (A)))), some (.inl (s : Int)), some (.inl (pp : Int)), some (.inl m_53), some (.inl 3), some (.inl (h 20 (zwd s 2 pp)))], [], (zs h hl))) (c2 := (19, [some (.inr (.inr (some 22))), some (.inr (.inr (some (A)))), some (.inl (s : Int)), some (.inl (pp : Int)), some (.inl m_53), some (.inl 3), some (.inl (h 20 (zwd s 2 pp)))], [], (zs h hl))) rfl ⟨by decide, by decide⟩ ⟨by decide, by decide⟩ (by show ¬ 3 < 3; decide) ?_
            refine zH_go 1 (c' := (81, [some (.inr (.inr (some 22))), some (.inr (.inr (some (A)))), some (.inl (s : Int)), some (.inl (pp : Int)), some (.inl m_53), some (.inl 3), some (.inl (h 20 (zwd s 2 pp)))], [.inl m_53], (zs h hl))) rfl ?_
            refine zH_ret (v := some (.inl m_53)) rfl (fun q => absurd q (by decide)) ?_
            refine ⟨congrArg (fun z => some (Sum.inl z)) ?_, rfl⟩
            unfold zAf
            rw [if_neg (by decide), if_neg (by decide)]
            omega
          · refine zH_go 2 (c' := (43, [some (.inr (.inr (some 22))), some (.inr (.inr (some (A)))), some (.inl (s : Int)), some (.inl (pp : Int)), some (.inl m_53), some (.inl 2), some (.inl (h 20 (zwd s 2 pp)))], [.inr (.inr (some (A))), .inl (h 20 (zwd s 2 pp))], (zs h hl))) rfl ?_
            refine zH_aln rfl (n := 56) (t := 0) hsh (by decide) ?_
            show zH _ _ (44, [some (.inr (.inr (some 22))), some (.inr (.inr (some (A)))), some (.inl (s : Int)), some (.inl (pp : Int)), some (.inl m_53), some (.inl 2), some (.inl (h 20 (zwd s 2 pp)))], [.inl 56, .inl (h 20 (zwd s 2 pp))], (zs h hl)) _
            refine zH_br (x := (h 20 (zwd s 2 pp))) (y := 56) (k := .ge) (c1 := (73, [some (.inr (.inr (some 22))), some (.inr (.inr (some (A)))), some (.inl (s : Int)), some (.inl (pp : Int)), some (.inl m_53), some (.inl 2), some (.inl (h 20 (zwd s 2 pp)))], [], (zs h hl))) (c2 := (47, [some (.inr (.inr (some 22))), some (.inr (.inr (some (A)))), some (.inl (s : Int)), some (.inl (pp : Int)), some (.inl m_53), some (.inl 2), some (.inl (h 20 (zwd s 2 pp)))], [], (zs h hl))) rfl (by first | assumption | (unfold zr; omega)) ⟨by decide, by decide⟩ (fun (b_57 : ¬ (h 20 (zwd s 2 pp)) < 56) => ?_) (fun (b_57 : ¬ (¬ (h 20 (zwd s 2 pp)) < 56)) => ?_)
            · refine zH_go 6 (c' := (16, [some (.inr (.inr (some 22))), some (.inr (.inr (some (A)))), some (.inl (s : Int)), some (.inl (pp : Int)), some (.inl m_53), some (.inl 3), some (.inl (h 20 (zwd s 2 pp)))], [.inl (h 18 1), .inl 3], (zs h hl))) rfl ?_
              rw [hL]
              refine zH_bt (x := 3) (y := 3) (k := .ge) (c1 := (79, [some (.inr (.inr (some 22))), some (.inr (.inr (some (A)))), some (.inl (s : Int)), some (.inl (pp : Int)), some (.inl m_53), some (.inl 3), some (.inl (h 20 (zwd s 2 pp)))], [], (zs h hl))) (c2 := (19, [some (.inr (.inr (some 22))), some (.inr (.inr (some (A)))), some (.inl (s : Int)), some (.inl (pp : Int)), some (.inl m_53), some (.inl 3), some (.inl (h 20 (zwd s 2 pp)))], [], (zs h hl))) rfl ⟨by decide, by decide⟩ ⟨by decide, by decide⟩ (by show ¬ 3 < 3; decide) ?_
              refine zH_go 1 (c' := (81, [some (.inr (.inr (some 22))), some (.inr (.inr (some (A)))), some (.inl (s : Int)), some (.inl (pp : Int)), some (.inl m_53), some (.inl 3), some (.inl (h 20 (zwd s 2 pp)))], [.inl m_53], (zs h hl))) rfl ?_
              refine zH_ret (v := some (.inl m_53)) rfl (fun q => absurd q (by decide)) ?_
              refine ⟨congrArg (fun z => some (Sum.inl z)) ?_, rfl⟩
              unfold zAf
              rw [if_neg (by decide), if_neg (by decide)]
              omega
            · refine zH_go 3 (c' := (52, [some (.inr (.inr (some 22))), some (.inr (.inr (some (A)))), some (.inl (s : Int)), some (.inl (pp : Int)), some (.inl m_53), some (.inl 2), some (.inl (h 20 (zwd s 2 pp)))], [.inl (h 20 (zwd s 2 pp)), .inr (.inr (some (A))), .inl m_53], (zs h hl))) rfl ?_
              refine zH_ial rfl (n := 56) hsh (by omega) (by omega) ?_
              show zH _ _ (53, [some (.inr (.inr (some 22))), some (.inr (.inr (some (A)))), some (.inl (s : Int)), some (.inl (pp : Int)), some (.inl m_53), some (.inl 2), some (.inl (h 20 (zwd s 2 pp)))], [.inl (h A (Int.toNat (h 20 (zwd s 2 pp)))), .inl m_53], (zs h hl)) _
              refine zH_go 5 (c' := (61, [some (.inr (.inr (some 22))), some (.inr (.inr (some (A)))), some (.inl (s : Int)), some (.inl (pp : Int)), some (.inl m_53), some (.inl 2), some (.inl (h 20 (zwd s 2 pp)))], [.inl 2, .inl (s : Int), .inl (pp : Int), .inr (.inr (some 3)), .inl (h A (Int.toNat (h 20 (zwd s 2 pp)))), .inl m_53], (zs h hl))) rfl ?_
              refine zH_call (M' := 100) (as := [.inl (s : Int), .inl 2]) (T := [.inl (pp : Int), .inr (.inr (some 3)), .inl (h A (Int.toNat (h 20 (zwd s 2 pp)))), .inl m_53]) rfl (p_digit (n := s) (i := 2) (by omega) (by decide)) (fun r σ' p_58 => ?_)
              obtain ⟨rfl, rfl⟩ := p_58
              show zH _ _ (64, [some (.inr (.inr (some 22))), some (.inr (.inr (some (A)))), some (.inl (s : Int)), some (.inl (pp : Int)), some (.inl m_53), some (.inl 2), some (.inl (h 20 (zwd s 2 pp)))], [.inl ((zdg s 2 : Nat) : Int), .inl (pp : Int), .inr (.inr (some 3)), .inl (h A (Int.toNat (h 20 (zwd s 2 pp)))), .inl m_53], (zs h hl)) _
              refine zH_call (M' := 52) (as := [.inr (.inr (some 3)), .inl (pp : Int), .inl ((zdg s 2 : Nat) : Int)]) (T := [.inl (h A (Int.toNat (h 20 (zwd s 2 pp)))), .inl m_53]) rfl (p_gap (a := pp) (b := zdg s 2) (by omega) (by omega)) (fun r σ' p_59 => ?_)
              obtain ⟨rfl, rfl⟩ := p_59
              show zH _ _ (67, [some (.inr (.inr (some 22))), some (.inr (.inr (some (A)))), some (.inl (s : Int)), some (.inl (pp : Int)), some (.inl m_53), some (.inl 2), some (.inl (h 20 (zwd s 2 pp)))], [.inl (h (12 + pp) (zdg s 2)), .inl (h A (Int.toNat (h 20 (zwd s 2 pp)))), .inl m_53], (zs h hl)) _
              refine zH_go 1 (c' := (68, [some (.inr (.inr (some 22))), some (.inr (.inr (some (A)))), some (.inl (s : Int)), some (.inl (pp : Int)), some (.inl m_53), some (.inl 2), some (.inl (h 20 (zwd s 2 pp)))], [.inl ((h A (Int.toNat (h 20 (zwd s 2 pp)))) + (h (12 + pp) (zdg s 2))), .inl m_53], (zs h hl))) rfl ?_
              refine zH_np (P := zr m_53 ∧ zr ((h A (Int.toNat (h 20 (zwd s 2 pp)))) + (h (12 + pp) (zdg s 2)))) (c' := (71, [some (.inr (.inr (some 22))), some (.inr (.inr (some (A)))), some (.inl (s : Int)), some (.inl (pp : Int)), some (.inl m_53), some (.inl 2), some (.inl (h 20 (zwd s 2 pp)))], [.inl (if ((h A (Int.toNat (h 20 (zwd s 2 pp)))) + (h (12 + pp) (zdg s 2))) < m_53 then ((h A (Int.toNat (h 20 (zwd s 2 pp)))) + (h (12 + pp) (zdg s 2))) else m_53)], (zs h hl))) rfl ⟨(by first | assumption | (unfold zr; omega)), (by first | assumption | (unfold zr; omega))⟩ ?_
              obtain ⟨m_60, em_60, fm_60⟩ := zmin_spec m_53 ((h A (Int.toNat (h 20 (zwd s 2 pp)))) + (h (12 + pp) (zdg s 2)))
              rw [em_60]
              refine zH_go 7 (c' := (16, [some (.inr (.inr (some 22))), some (.inr (.inr (some (A)))), some (.inl (s : Int)), some (.inl (pp : Int)), some (.inl m_60), some (.inl 3), some (.inl (h 20 (zwd s 2 pp)))], [.inl (h 18 1), .inl 3], (zs h hl))) rfl ?_
              rw [hL]
              refine zH_bt (x := 3) (y := 3) (k := .ge) (c1 := (79, [some (.inr (.inr (some 22))), some (.inr (.inr (some (A)))), some (.inl (s : Int)), some (.inl (pp : Int)), some (.inl m_60), some (.inl 3), some (.inl (h 20 (zwd s 2 pp)))], [], (zs h hl))) (c2 := (19, [some (.inr (.inr (some 22))), some (.inr (.inr (some (A)))), some (.inl (s : Int)), some (.inl (pp : Int)), some (.inl m_60), some (.inl 3), some (.inl (h 20 (zwd s 2 pp)))], [], (zs h hl))) rfl ⟨by decide, by decide⟩ ⟨by decide, by decide⟩ (by show ¬ 3 < 3; decide) ?_
              refine zH_go 1 (c' := (81, [some (.inr (.inr (some 22))), some (.inr (.inr (some (A)))), some (.inl (s : Int)), some (.inl (pp : Int)), some (.inl m_60), some (.inl 3), some (.inl (h 20 (zwd s 2 pp)))], [.inl m_60], (zs h hl))) rfl ?_
              refine zH_ret (v := some (.inl m_60)) rfl (fun q => absurd q (by decide)) ?_
              refine ⟨congrArg (fun z => some (Sum.inl z)) ?_, rfl⟩
              unfold zAf
              rw [if_neg (by decide), if_neg (by decide)]
              omega
    · refine zH_go 3 (c' := (52, [some (.inr (.inr (some 22))), some (.inr (.inr (some (A)))), some (.inl (s : Int)), some (.inl (pp : Int)), some (.inl 1000000), some (.inl 0), some (.inl (h 20 (zwd s 0 pp)))], [.inl (h 20 (zwd s 0 pp)), .inr (.inr (some (A))), .inl 1000000], (zs h hl))) rfl ?_
      refine zH_ial rfl (n := 56) hsh (by omega) (by omega) ?_
      show zH _ _ (53, [some (.inr (.inr (some 22))), some (.inr (.inr (some (A)))), some (.inl (s : Int)), some (.inl (pp : Int)), some (.inl 1000000), some (.inl 0), some (.inl (h 20 (zwd s 0 pp)))], [.inl (h A (Int.toNat (h 20 (zwd s 0 pp)))), .inl 1000000], (zs h hl)) _
      refine zH_go 5 (c' := (61, [some (.inr (.inr (some 22))), some (.inr (.inr (some (A)))), some (.inl (s : Int)), some (.inl (pp : Int)), some (.inl 1000000), some (.inl 0), some (.inl (h 20 (zwd s 0 pp)))], [.inl 0, .inl (s : Int), .inl (pp : Int), .inr (.inr (some 3)), .inl (h A (Int.toNat (h 20 (zwd s 0 pp)))), .inl 1000000], (zs h hl))) rfl ?_
      refine zH_call (M' := 100) (as := [.inl (s : Int), .inl 0]) (T := [.inl (pp : Int), .inr (.inr (some 3)), .inl (h A (Int.toNat (h 20 (zwd s 0 pp)))), .inl 1000000]) rfl (p_digit (n := s) (i := 0) (by omega) (by decide)) (fun r σ' p_61 => ?_)
      obtain ⟨rfl, rfl⟩ := p_61
      show zH _ _ (64, [some (.inr (.inr (some 22))), some (.inr (.inr (some (A)))), some (.inl (s : Int)), some (.inl (pp : Int)), some (.inl 1000000), some (.inl 0), some (.inl (h 20 (zwd s 0 pp)))], [.inl ((zdg s 0 : Nat) : Int), .inl (pp : Int), .inr (.inr (some 3)), .inl (h A (Int.toNat (h 20 (zwd s 0 pp)))), .inl 1000000], (zs h hl)) _
      refine zH_call (M' := 52) (as := [.inr (.inr (some 3)), .inl (pp : Int), .inl ((zdg s 0 : Nat) : Int)]) (T := [.inl (h A (Int.toNat (h 20 (zwd s 0 pp)))), .inl 1000000]) rfl (p_gap (a := pp) (b := zdg s 0) (by omega) (by omega)) (fun r σ' p_62 => ?_)
      obtain ⟨rfl, rfl⟩ := p_62
      show zH _ _ (67, [some (.inr (.inr (some 22))), some (.inr (.inr (some (A)))), some (.inl (s : Int)), some (.inl (pp : Int)), some (.inl 1000000), some (.inl 0), some (.inl (h 20 (zwd s 0 pp)))], [.inl (h (12 + pp) (zdg s 0)), .inl (h A (Int.toNat (h 20 (zwd s 0 pp)))), .inl 1000000], (zs h hl)) _
      refine zH_go 1 (c' := (68, [some (.inr (.inr (some 22))), some (.inr (.inr (some (A)))), some (.inl (s : Int)), some (.inl (pp : Int)), some (.inl 1000000), some (.inl 0), some (.inl (h 20 (zwd s 0 pp)))], [.inl ((h A (Int.toNat (h 20 (zwd s 0 pp)))) + (h (12 + pp) (zdg s 0))), .inl 1000000], (zs h hl))) rfl ?_
      refine zH_np (P := zr 1000000 ∧ zr ((h A (Int.toNat (h 20 (zwd s 0 pp)))) + (h (12 + pp) (zdg s 0)))) (c' := (71, [some (.inr (.inr (some 22))), some (.inr (.inr (some (A)))), some (.inl (s : Int)), some (.inl (pp : Int)), some (.inl 1000000), some (.inl 0), some (.inl (h 20 (zwd s 0 pp)))], [.inl (if ((h A (Int.toNat (h 20 (zwd s 0 pp)))) + (h (12 + pp) (zdg s 0))) < 1000000 then ((h A (Int.toNat (h 20 (zwd s 0 pp)))) + (h (12 + pp) (zdg s 0))) else 1000000)], (zs h hl))) rfl ⟨⟨by decide, by decide⟩, (by first | assumption | (unfold zr; omega))⟩ ?_
      obtain ⟨m_63, em_63, fm_63⟩ := zmin_spec 1000000 ((h A (Int.toNat (h 20 (zwd s 0 pp)))) + (h (12 + pp) (zdg s 0)))
      rw [em_63]
      refine zH_go 7 (c' := (16, [some (.inr (.inr (some 22))), some (.inr (.inr (some (A)))), some (.inl (s : Int)), some (.inl (pp : Int)), some (.inl m_63), some (.inl 1), some (.inl (h 20 (zwd s 0 pp)))], [.inl (h 18 1), .inl 1], (zs h hl))) rfl ?_
      rw [hL]
      refine zH_bf (x := 1) (y := 3) (k := .ge) (c1 := (79, [some (.inr (.inr (some 22))), some (.inr (.inr (some (A)))), some (.inl (s : Int)), some (.inl (pp : Int)), some (.inl m_63), some (.inl 1), some (.inl (h 20 (zwd s 0 pp)))], [], (zs h hl))) (c2 := (19, [some (.inr (.inr (some 22))), some (.inr (.inr (some (A)))), some (.inl (s : Int)), some (.inl (pp : Int)), some (.inl m_63), some (.inl 1), some (.inl (h 20 (zwd s 0 pp)))], [], (zs h hl))) rfl ⟨by decide, by decide⟩ ⟨by decide, by decide⟩ (by show ¬ (¬ 1 < 3); decide) ?_
      refine zH_go 5 (c' := (27, [some (.inr (.inr (some 22))), some (.inr (.inr (some (A)))), some (.inl (s : Int)), some (.inl (pp : Int)), some (.inl m_63), some (.inl 1), some (.inl (h 20 (zwd s 0 pp)))], [.inl (pp : Int), .inl 1, .inl (s : Int), .inr (.inr (some 18))], (zs h hl))) rfl ?_
      refine zH_call (M' := 101) (as := [.inl (s : Int), .inl 1, .inl (pp : Int)]) (T := [.inr (.inr (some 18))]) rfl (p_withDigit (n := s) (i := 1) (v := pp) (by omega) (by decide) (by omega)) (fun r σ' p_64 => ?_)
      obtain ⟨rfl, rfl⟩ := p_64
      show zH _ _ (30, [some (.inr (.inr (some 22))), some (.inr (.inr (some (A)))), some (.inl (s : Int)), some (.inl (pp : Int)), some (.inl m_63), some (.inl 1), some (.inl (h 20 (zwd s 0 pp)))], [.inl ((zwd s 1 pp : Nat) : Int), .inr (.inr (some 18))], (zs h hl)) _
      refine zH_call (M' := 44) (as := [.inr (.inr (some 18)), .inl ((zwd s 1 pp : Nat) : Int)]) (T := []) rfl (p_slot (n := zwd s 1 pp) (by omega)) (fun r σ' p_65 => ?_)
      obtain ⟨rfl, rfl⟩ := p_65
      show zH _ _ (33, [some (.inr (.inr (some 22))), some (.inr (.inr (some (A)))), some (.inl (s : Int)), some (.inl (pp : Int)), some (.inl m_63), some (.inl 1), some (.inl (h 20 (zwd s 0 pp)))], [.inl (h 20 (zwd s 1 pp))], (zs h hl)) _
      refine zH_go 2 (c' := (37, [some (.inr (.inr (some 22))), some (.inr (.inr (some (A)))), some (.inl (s : Int)), some (.inl (pp : Int)), some (.inl m_63), some (.inl 1), some (.inl (h 20 (zwd s 1 pp)))], [.inl (h 20 (zwd s 1 pp))], (zs h hl))) rfl ?_
      refine zH_br (x := (h 20 (zwd s 1 pp))) (y := 0) (k := .lt) (c1 := (73, [some (.inr (.inr (some 22))), some (.inr (.inr (some (A)))), some (.inl (s : Int)), some (.inl (pp : Int)), some (.inl m_63), some (.inl 1), some (.inl (h 20 (zwd s 1 pp)))], [], (zs h hl))) (c2 := (40, [some (.inr (.inr (some 22))), some (.inr (.inr (some (A)))), some (.inl (s : Int)), some (.inl (pp : Int)), some (.inl m_63), some (.inl 1), some (.inl (h 20 (zwd s 1 pp)))], [], (zs h hl))) rfl (by first | assumption | (unfold zr; omega)) ⟨by decide, by decide⟩ (fun (b_66 : (h 20 (zwd s 1 pp)) < 0) => ?_) (fun (b_66 : ¬ ((h 20 (zwd s 1 pp)) < 0)) => ?_)
      · refine zH_go 6 (c' := (16, [some (.inr (.inr (some 22))), some (.inr (.inr (some (A)))), some (.inl (s : Int)), some (.inl (pp : Int)), some (.inl m_63), some (.inl 2), some (.inl (h 20 (zwd s 1 pp)))], [.inl (h 18 1), .inl 2], (zs h hl))) rfl ?_
        rw [hL]
        refine zH_bf (x := 2) (y := 3) (k := .ge) (c1 := (79, [some (.inr (.inr (some 22))), some (.inr (.inr (some (A)))), some (.inl (s : Int)), some (.inl (pp : Int)), some (.inl m_63), some (.inl 2), some (.inl (h 20 (zwd s 1 pp)))], [], (zs h hl))) (c2 := (19, [some (.inr (.inr (some 22))), some (.inr (.inr (some (A)))), some (.inl (s : Int)), some (.inl (pp : Int)), some (.inl m_63), some (.inl 2), some (.inl (h 20 (zwd s 1 pp)))], [], (zs h hl))) rfl ⟨by decide, by decide⟩ ⟨by decide, by decide⟩ (by show ¬ (¬ 2 < 3); decide) ?_
        refine zH_go 5 (c' := (27, [some (.inr (.inr (some 22))), some (.inr (.inr (some (A)))), some (.inl (s : Int)), some (.inl (pp : Int)), some (.inl m_63), some (.inl 2), some (.inl (h 20 (zwd s 1 pp)))], [.inl (pp : Int), .inl 2, .inl (s : Int), .inr (.inr (some 18))], (zs h hl))) rfl ?_
        refine zH_call (M' := 101) (as := [.inl (s : Int), .inl 2, .inl (pp : Int)]) (T := [.inr (.inr (some 18))]) rfl (p_withDigit (n := s) (i := 2) (v := pp) (by omega) (by decide) (by omega)) (fun r σ' p_67 => ?_)
        obtain ⟨rfl, rfl⟩ := p_67
        show zH _ _ (30, [some (.inr (.inr (some 22))), some (.inr (.inr (some (A)))), some (.inl (s : Int)), some (.inl (pp : Int)), some (.inl m_63), some (.inl 2), some (.inl (h 20 (zwd s 1 pp)))], [.inl ((zwd s 2 pp : Nat) : Int), .inr (.inr (some 18))], (zs h hl)) _
        refine zH_call (M' := 44) (as := [.inr (.inr (some 18)), .inl ((zwd s 2 pp : Nat) : Int)]) (T := []) rfl (p_slot (n := zwd s 2 pp) (by omega)) (fun r σ' p_68 => ?_)
        obtain ⟨rfl, rfl⟩ := p_68
        show zH _ _ (33, [some (.inr (.inr (some 22))), some (.inr (.inr (some (A)))), some (.inl (s : Int)), some (.inl (pp : Int)), some (.inl m_63), some (.inl 2), some (.inl (h 20 (zwd s 1 pp)))], [.inl (h 20 (zwd s 2 pp))], (zs h hl)) _
        refine zH_go 2 (c' := (37, [some (.inr (.inr (some 22))), some (.inr (.inr (some (A)))), some (.inl (s : Int)), some (.inl (pp : Int)), some (.inl m_63), some (.inl 2), some (.inl (h 20 (zwd s 2 pp)))], [.inl (h 20 (zwd s 2 pp))], (zs h hl))) rfl ?_
        refine zH_br (x := (h 20 (zwd s 2 pp))) (y := 0) (k := .lt) (c1 := (73, [some (.inr (.inr (some 22))), some (.inr (.inr (some (A)))), some (.inl (s : Int)), some (.inl (pp : Int)), some (.inl m_63), some (.inl 2), some (.inl (h 20 (zwd s 2 pp)))], [], (zs h hl))) (c2 := (40, [some (.inr (.inr (some 22))), some (.inr (.inr (some (A)))), some (.inl (s : Int)), some (.inl (pp : Int)), some (.inl m_63), some (.inl 2), some (.inl (h 20 (zwd s 2 pp)))], [], (zs h hl))) rfl (by first | assumption | (unfold zr; omega)) ⟨by decide, by decide⟩ (fun (b_69 : (h 20 (zwd s 2 pp)) < 0) => ?_) (fun (b_69 : ¬ ((h 20 (zwd s 2 pp)) < 0)) => ?_)
        · refine zH_go 6 (c' := (16, [some (.inr (.inr (some 22))), some (.inr (.inr (some (A)))), some (.inl (s : Int)), some (.inl (pp : Int)), some (.inl m_63), some (.inl 3), some (.inl (h 20 (zwd s 2 pp)))], [.inl (h 18 1), .inl 3], (zs h hl))) rfl ?_
          rw [hL]
          refine zH_bt (x := 3) (y := 3) (k := .ge) (c1 := (79, [some (.inr (.inr (some 22))), some (.inr (.inr (some (A)))), some (.inl (s : Int)), some (.inl (pp : Int)), some (.inl m_63), some (.inl 3), some (.inl (h 20 (zwd s 2 pp)))], [], (zs h hl))) (c2 := (19, [some (.inr (.inr (some 22))), some (.inr (.inr (some (A)))), some (.inl (s : Int)), some (.inl (pp : Int)), some (.inl m_63), some (.inl 3), some (.inl (h 20 (zwd s 2 pp)))], [], (zs h hl))) rfl ⟨by decide, by decide⟩ ⟨by decide, by decide⟩ (by show ¬ 3 < 3; decide) ?_
          refine zH_go 1 (c' := (81, [some (.inr (.inr (some 22))), some (.inr (.inr (some (A)))), some (.inl (s : Int)), some (.inl (pp : Int)), some (.inl m_63), some (.inl 3), some (.inl (h 20 (zwd s 2 pp)))], [.inl m_63], (zs h hl))) rfl ?_
          refine zH_ret (v := some (.inl m_63)) rfl (fun q => absurd q (by decide)) ?_
          refine ⟨congrArg (fun z => some (Sum.inl z)) ?_, rfl⟩
          unfold zAf
          rw [if_neg (by decide), if_neg (by decide)]
          omega
        · refine zH_go 2 (c' := (43, [some (.inr (.inr (some 22))), some (.inr (.inr (some (A)))), some (.inl (s : Int)), some (.inl (pp : Int)), some (.inl m_63), some (.inl 2), some (.inl (h 20 (zwd s 2 pp)))], [.inr (.inr (some (A))), .inl (h 20 (zwd s 2 pp))], (zs h hl))) rfl ?_
          refine zH_aln rfl (n := 56) (t := 0) hsh (by decide) ?_
          show zH _ _ (44, [some (.inr (.inr (some 22))), some (.inr (.inr (some (A)))), some (.inl (s : Int)), some (.inl (pp : Int)), some (.inl m_63), some (.inl 2), some (.inl (h 20 (zwd s 2 pp)))], [.inl 56, .inl (h 20 (zwd s 2 pp))], (zs h hl)) _
          refine zH_br (x := (h 20 (zwd s 2 pp))) (y := 56) (k := .ge) (c1 := (73, [some (.inr (.inr (some 22))), some (.inr (.inr (some (A)))), some (.inl (s : Int)), some (.inl (pp : Int)), some (.inl m_63), some (.inl 2), some (.inl (h 20 (zwd s 2 pp)))], [], (zs h hl))) (c2 := (47, [some (.inr (.inr (some 22))), some (.inr (.inr (some (A)))), some (.inl (s : Int)), some (.inl (pp : Int)), some (.inl m_63), some (.inl 2), some (.inl (h 20 (zwd s 2 pp)))], [], (zs h hl))) rfl (by first | assumption | (unfold zr; omega)) ⟨by decide, by decide⟩ (fun (b_70 : ¬ (h 20 (zwd s 2 pp)) < 56) => ?_) (fun (b_70 : ¬ (¬ (h 20 (zwd s 2 pp)) < 56)) => ?_)
          · refine zH_go 6 (c' := (16, [some (.inr (.inr (some 22))), some (.inr (.inr (some (A)))), some (.inl (s : Int)), some (.inl (pp : Int)), some (.inl m_63), some (.inl 3), some (.inl (h 20 (zwd s 2 pp)))], [.inl (h 18 1), .inl 3], (zs h hl))) rfl ?_
            rw [hL]
            refine zH_bt (x := 3) (y := 3) (k := .ge) (c1 := (79, [some (.inr (.inr (some 22))), some (.inr (.inr (some (A)))), some (.inl (s : Int)), some (.inl (pp : Int)), some (.inl m_63), some (.inl 3), some (.inl (h 20 (zwd s 2 pp)))], [], (zs h hl))) (c2 := (19, [some (.inr (.inr (some 22))), some (.inr (.inr (some (A)))), some (.inl (s : Int)), some (.inl (pp : Int)), some (.inl m_63), some (.inl 3), some (.inl (h 20 (zwd s 2 pp)))], [], (zs h hl))) rfl ⟨by decide, by decide⟩ ⟨by decide, by decide⟩ (by show ¬ 3 < 3; decide) ?_
            refine zH_go 1 (c' := (81, [some (.inr (.inr (some 22))), some (.inr (.inr (some (A)))), some (.inl (s : Int)), some (.inl (pp : Int)), some (.inl m_63), some (.inl 3), some (.inl (h 20 (zwd s 2 pp)))], [.inl m_63], (zs h hl))) rfl ?_
            refine zH_ret (v := some (.inl m_63)) rfl (fun q => absurd q (by decide)) ?_
            refine ⟨congrArg (fun z => some (Sum.inl z)) ?_, rfl⟩
            unfold zAf
            rw [if_neg (by decide), if_neg (by decide)]
            omega
          · refine zH_go 3 (c' := (52, [some (.inr (.inr (some 22))), some (.inr (.inr (some (A)))), some (.inl (s : Int)), some (.inl (pp : Int)), some (.inl m_63), some (.inl 2), some (.inl (h 20 (zwd s 2 pp)))], [.inl (h 20 (zwd s 2 pp)), .inr (.inr (some (A))), .inl m_63], (zs h hl))) rfl ?_
            refine zH_ial rfl (n := 56) hsh (by omega) (by omega) ?_
            show zH _ _ (53, [some (.inr (.inr (some 22))), some (.inr (.inr (some (A)))), some (.inl (s : Int)), some (.inl (pp : Int)), some (.inl m_63), some (.inl 2), some (.inl (h 20 (zwd s 2 pp)))], [.inl (h A (Int.toNat (h 20 (zwd s 2 pp)))), .inl m_63], (zs h hl)) _
            refine zH_go 5 (c' := (61, [some (.inr (.inr (some 22))), some (.inr (.inr (some (A)))), some (.inl (s : Int)), some (.inl (pp : Int)), some (.inl m_63), some (.inl 2), some (.inl (h 20 (zwd s 2 pp)))], [.inl 2, .inl (s : Int), .inl (pp : Int), .inr (.inr (some 3)), .inl (h A (Int.toNat (h 20 (zwd s 2 pp)))), .inl m_63], (zs h hl))) rfl ?_
            refine zH_call (M' := 100) (as := [.inl (s : Int), .inl 2]) (T := [.inl (pp : Int), .inr (.inr (some 3)), .inl (h A (Int.toNat (h 20 (zwd s 2 pp)))), .inl m_63]) rfl (p_digit (n := s) (i := 2) (by omega) (by decide)) (fun r σ' p_71 => ?_)
            obtain ⟨rfl, rfl⟩ := p_71
            show zH _ _ (64, [some (.inr (.inr (some 22))), some (.inr (.inr (some (A)))), some (.inl (s : Int)), some (.inl (pp : Int)), some (.inl m_63), some (.inl 2), some (.inl (h 20 (zwd s 2 pp)))], [.inl ((zdg s 2 : Nat) : Int), .inl (pp : Int), .inr (.inr (some 3)), .inl (h A (Int.toNat (h 20 (zwd s 2 pp)))), .inl m_63], (zs h hl)) _
            refine zH_call (M' := 52) (as := [.inr (.inr (some 3)), .inl (pp : Int), .inl ((zdg s 2 : Nat) : Int)]) (T := [.inl (h A (Int.toNat (h 20 (zwd s 2 pp)))), .inl m_63]) rfl (p_gap (a := pp) (b := zdg s 2) (by omega) (by omega)) (fun r σ' p_72 => ?_)
            obtain ⟨rfl, rfl⟩ := p_72
            show zH _ _ (67, [some (.inr (.inr (some 22))), some (.inr (.inr (some (A)))), some (.inl (s : Int)), some (.inl (pp : Int)), some (.inl m_63), some (.inl 2), some (.inl (h 20 (zwd s 2 pp)))], [.inl (h (12 + pp) (zdg s 2)), .inl (h A (Int.toNat (h 20 (zwd s 2 pp)))), .inl m_63], (zs h hl)) _
            refine zH_go 1 (c' := (68, [some (.inr (.inr (some 22))), some (.inr (.inr (some (A)))), some (.inl (s : Int)), some (.inl (pp : Int)), some (.inl m_63), some (.inl 2), some (.inl (h 20 (zwd s 2 pp)))], [.inl ((h A (Int.toNat (h 20 (zwd s 2 pp)))) + (h (12 + pp) (zdg s 2))), .inl m_63], (zs h hl))) rfl ?_
            refine zH_np (P := zr m_63 ∧ zr ((h A (Int.toNat (h 20 (zwd s 2 pp)))) + (h (12 + pp) (zdg s 2)))) (c' := (71, [some (.inr (.inr (some 22))), some (.inr (.inr (some (A)))), some (.inl (s : Int)), some (.inl (pp : Int)), some (.inl m_63), some (.inl 2), some (.inl (h 20 (zwd s 2 pp)))], [.inl (if ((h A (Int.toNat (h 20 (zwd s 2 pp)))) + (h (12 + pp) (zdg s 2))) < m_63 then ((h A (Int.toNat (h 20 (zwd s 2 pp)))) + (h (12 + pp) (zdg s 2))) else m_63)], (zs h hl))) rfl ⟨(by first | assumption | (unfold zr; omega)), (by first | assumption | (unfold zr; omega))⟩ ?_
            obtain ⟨m_73, em_73, fm_73⟩ := zmin_spec m_63 ((h A (Int.toNat (h 20 (zwd s 2 pp)))) + (h (12 + pp) (zdg s 2)))
            rw [em_73]
            refine zH_go 7 (c' := (16, [some (.inr (.inr (some 22))), some (.inr (.inr (some (A)))), some (.inl (s : Int)), some (.inl (pp : Int)), some (.inl m_73), some (.inl 3), some (.inl (h 20 (zwd s 2 pp)))], [.inl (h 18 1), .inl 3], (zs h hl))) rfl ?_
            rw [hL]
            refine zH_bt (x := 3) (y := 3) (k := .ge) (c1 := (79, [some (.inr (.inr (some 22))), some (.inr (.inr (some (A)))), some (.inl (s : Int)), some (.inl (pp : Int)), some (.inl m_73), some (.inl 3), some (.inl (h 20 (zwd s 2 pp)))], [], (zs h hl))) (c2 := (19, [some (.inr (.inr (some 22))), some (.inr (.inr (some (A)))), some (.inl (s : Int)), some (.inl (pp : Int)), some (.inl m_73), some (.inl 3), some (.inl (h 20 (zwd s 2 pp)))], [], (zs h hl))) rfl ⟨by decide, by decide⟩ ⟨by decide, by decide⟩ (by show ¬ 3 < 3; decide) ?_
            refine zH_go 1 (c' := (81, [some (.inr (.inr (some 22))), some (.inr (.inr (some (A)))), some (.inl (s : Int)), some (.inl (pp : Int)), some (.inl m_73), some (.inl 3), some (.inl (h 20 (zwd s 2 pp)))], [.inl m_73], (zs h hl))) rfl ?_
            refine zH_ret (v := some (.inl m_73)) rfl (fun q => absurd q (by decide)) ?_
            refine ⟨congrArg (fun z => some (Sum.inl z)) ?_, rfl⟩
            unfold zAf
            rw [if_neg (by decide), if_neg (by decide)]
            omega
      · refine zH_go 2 (c' := (43, [some (.inr (.inr (some 22))), some (.inr (.inr (some (A)))), some (.inl (s : Int)), some (.inl (pp : Int)), some (.inl m_63), some (.inl 1), some (.inl (h 20 (zwd s 1 pp)))], [.inr (.inr (some (A))), .inl (h 20 (zwd s 1 pp))], (zs h hl))) rfl ?_
        refine zH_aln rfl (n := 56) (t := 0) hsh (by decide) ?_
        show zH _ _ (44, [some (.inr (.inr (some 22))), some (.inr (.inr (some (A)))), some (.inl (s : Int)), some (.inl (pp : Int)), some (.inl m_63), some (.inl 1), some (.inl (h 20 (zwd s 1 pp)))], [.inl 56, .inl (h 20 (zwd s 1 pp))], (zs h hl)) _
        refine zH_br (x := (h 20 (zwd s 1 pp))) (y := 56) (k := .ge) (c1 := (73, [some (.inr (.inr (some 22))), some (.inr (.inr (some (A)))), some (.inl (s : Int)), some (.inl (pp : Int)), some (.inl m_63), some (.inl 1), some (.inl (h 20 (zwd s 1 pp)))], [], (zs h hl))) (c2 := (47, [some (.inr (.inr (some 22))), some (.inr (.inr (some (A)))), some (.inl (s : Int)), some (.inl (pp : Int)), some (.inl m_63), some (.inl 1), some (.inl (h 20 (zwd s 1 pp)))], [], (zs h hl))) rfl (by first | assumption | (unfold zr; omega)) ⟨by decide, by decide⟩ (fun (b_74 : ¬ (h 20 (zwd s 1 pp)) < 56) => ?_) (fun (b_74 : ¬ (¬ (h 20 (zwd s 1 pp)) < 56)) => ?_)
        · refine zH_go 6 (c' := (16, [some (.inr (.inr (some 22))), some (.inr (.inr (some (A)))), some (.inl (s : Int)), some (.inl (pp : Int)), some (.inl m_63), some (.inl 2), some (.inl (h 20 (zwd s 1 pp)))], [.inl (h 18 1), .inl 2], (zs h hl))) rfl ?_
          rw [hL]
          refine zH_bf (x := 2) (y := 3) (k := .ge) (c1 := (79, [some (.inr (.inr (some 22))), some (.inr (.inr (some (A)))), some (.inl (s : Int)), some (.inl (pp : Int)), some (.inl m_63), some (.inl 2), some (.inl (h 20 (zwd s 1 pp)))], [], (zs h hl))) (c2 := (19, [some (.inr (.inr (some 22))), some (.inr (.inr (some (A)))), some (.inl (s : Int)), some (.inl (pp : Int)), some (.inl m_63), some (.inl 2), some (.inl (h 20 (zwd s 1 pp)))], [], (zs h hl))) rfl ⟨by decide, by decide⟩ ⟨by decide, by decide⟩ (by show ¬ (¬ 2 < 3); decide) ?_
          refine zH_go 5 (c' := (27, [some (.inr (.inr (some 22))), some (.inr (.inr (some (A)))), some (.inl (s : Int)), some (.inl (pp : Int)), some (.inl m_63), some (.inl 2), some (.inl (h 20 (zwd s 1 pp)))], [.inl (pp : Int), .inl 2, .inl (s : Int), .inr (.inr (some 18))], (zs h hl))) rfl ?_
          refine zH_call (M' := 101) (as := [.inl (s : Int), .inl 2, .inl (pp : Int)]) (T := [.inr (.inr (some 18))]) rfl (p_withDigit (n := s) (i := 2) (v := pp) (by omega) (by decide) (by omega)) (fun r σ' p_75 => ?_)
          obtain ⟨rfl, rfl⟩ := p_75
          show zH _ _ (30, [some (.inr (.inr (some 22))), some (.inr (.inr (some (A)))), some (.inl (s : Int)), some (.inl (pp : Int)), some (.inl m_63), some (.inl 2), some (.inl (h 20 (zwd s 1 pp)))], [.inl ((zwd s 2 pp : Nat) : Int), .inr (.inr (some 18))], (zs h hl)) _
          refine zH_call (M' := 44) (as := [.inr (.inr (some 18)), .inl ((zwd s 2 pp : Nat) : Int)]) (T := []) rfl (p_slot (n := zwd s 2 pp) (by omega)) (fun r σ' p_76 => ?_)
          obtain ⟨rfl, rfl⟩ := p_76
          show zH _ _ (33, [some (.inr (.inr (some 22))), some (.inr (.inr (some (A)))), some (.inl (s : Int)), some (.inl (pp : Int)), some (.inl m_63), some (.inl 2), some (.inl (h 20 (zwd s 1 pp)))], [.inl (h 20 (zwd s 2 pp))], (zs h hl)) _
          refine zH_go 2 (c' := (37, [some (.inr (.inr (some 22))), some (.inr (.inr (some (A)))), some (.inl (s : Int)), some (.inl (pp : Int)), some (.inl m_63), some (.inl 2), some (.inl (h 20 (zwd s 2 pp)))], [.inl (h 20 (zwd s 2 pp))], (zs h hl))) rfl ?_
          refine zH_br (x := (h 20 (zwd s 2 pp))) (y := 0) (k := .lt) (c1 := (73, [some (.inr (.inr (some 22))), some (.inr (.inr (some (A)))), some (.inl (s : Int)), some (.inl (pp : Int)), some (.inl m_63), some (.inl 2), some (.inl (h 20 (zwd s 2 pp)))], [], (zs h hl))) (c2 := (40, [some (.inr (.inr (some 22))), some (.inr (.inr (some (A)))), some (.inl (s : Int)), some (.inl (pp : Int)), some (.inl m_63), some (.inl 2), some (.inl (h 20 (zwd s 2 pp)))], [], (zs h hl))) rfl (by first | assumption | (unfold zr; omega)) ⟨by decide, by decide⟩ (fun (b_77 : (h 20 (zwd s 2 pp)) < 0) => ?_) (fun (b_77 : ¬ ((h 20 (zwd s 2 pp)) < 0)) => ?_)
          · refine zH_go 6 (c' := (16, [some (.inr (.inr (some 22))), some (.inr (.inr (some (A)))), some (.inl (s : Int)), some (.inl (pp : Int)), some (.inl m_63), some (.inl 3), some (.inl (h 20 (zwd s 2 pp)))], [.inl (h 18 1), .inl 3], (zs h hl))) rfl ?_
            rw [hL]
            refine zH_bt (x := 3) (y := 3) (k := .ge) (c1 := (79, [some (.inr (.inr (some 22))), some (.inr (.inr (some (A)))), some (.inl (s : Int)), some (.inl (pp : Int)), some (.inl m_63), some (.inl 3), some (.inl (h 20 (zwd s 2 pp)))], [], (zs h hl))) (c2 := (19, [some (.inr (.inr (some 22))), some (.inr (.inr (some (A)))), some (.inl (s : Int)), some (.inl (pp : Int)), some (.inl m_63), some (.inl 3), some (.inl (h 20 (zwd s 2 pp)))], [], (zs h hl))) rfl ⟨by decide, by decide⟩ ⟨by decide, by decide⟩ (by show ¬ 3 < 3; decide) ?_
            refine zH_go 1 (c' := (81, [some (.inr (.inr (some 22))), some (.inr (.inr (some (A)))), some (.inl (s : Int)), some (.inl (pp : Int)), some (.inl m_63), some (.inl 3), some (.inl (h 20 (zwd s 2 pp)))], [.inl m_63], (zs h hl))) rfl ?_
            refine zH_ret (v := some (.inl m_63)) rfl (fun q => absurd q (by decide)) ?_
            refine ⟨congrArg (fun z => some (Sum.inl z)) ?_, rfl⟩
            unfold zAf
            rw [if_neg (by decide), if_neg (by decide)]
            omega
          · refine zH_go 2 (c' := (43, [some (.inr (.inr (some 22))), some (.inr (.inr (some (A)))), some (.inl (s : Int)), some (.inl (pp : Int)), some (.inl m_63), some (.inl 2), some (.inl (h 20 (zwd s 2 pp)))], [.inr (.inr (some (A))), .inl (h 20 (zwd s 2 pp))], (zs h hl))) rfl ?_
            refine zH_aln rfl (n := 56) (t := 0) hsh (by decide) ?_
            show zH _ _ (44, [some (.inr (.inr (some 22))), some (.inr (.inr (some (A)))), some (.inl (s : Int)), some (.inl (pp : Int)), some (.inl m_63), some (.inl 2), some (.inl (h 20 (zwd s 2 pp)))], [.inl 56, .inl (h 20 (zwd s 2 pp))], (zs h hl)) _
            refine zH_br (x := (h 20 (zwd s 2 pp))) (y := 56) (k := .ge) (c1 := (73, [some (.inr (.inr (some 22))), some (.inr (.inr (some (A)))), some (.inl (s : Int)), some (.inl (pp : Int)), some (.inl m_63), some (.inl 2), some (.inl (h 20 (zwd s 2 pp)))], [], (zs h hl))) (c2 := (47, [some (.inr (.inr (some 22))), some (.inr (.inr (some (A)))), some (.inl (s : Int)), some (.inl (pp : Int)), some (.inl m_63), some (.inl 2), some (.inl (h 20 (zwd s 2 pp)))], [], (zs h hl))) rfl (by first | assumption | (unfold zr; omega)) ⟨by decide, by decide⟩ (fun (b_78 : ¬ (h 20 (zwd s 2 pp)) < 56) => ?_) (fun (b_78 : ¬ (¬ (h 20 (zwd s 2 pp)) < 56)) => ?_)
            · refine zH_go 6 (c' := (16, [some (.inr (.inr (some 22))), some (.inr (.inr (some (A)))), some (.inl (s : Int)), some (.inl (pp : Int)), some (.inl m_63), some (.inl 3), some (.inl (h 20 (zwd s 2 pp)))], [.inl (h 18 1), .inl 3], (zs h hl))) rfl ?_
              rw [hL]
              refine zH_bt (x := 3) (y := 3) (k := .ge) (c1 := (79, [some (.inr (.inr (some 22))), some (.inr (.inr (some (A)))), some (.inl (s : Int)), some (.inl (pp : Int)), some (.inl m_63), some (.inl 3), some (.inl (h 20 (zwd s 2 pp)))], [], (zs h hl))) (c2 := (19, [some (.inr (.inr (some 22))), some (.inr (.inr (some (A)))), some (.inl (s : Int)), some (.inl (pp : Int)), some (.inl m_63), some (.inl 3), some (.inl (h 20 (zwd s 2 pp)))], [], (zs h hl))) rfl ⟨by decide, by decide⟩ ⟨by decide, by decide⟩ (by show ¬ 3 < 3; decide) ?_
              refine zH_go 1 (c' := (81, [some (.inr (.inr (some 22))), some (.inr (.inr (some (A)))), some (.inl (s : Int)), some (.inl (pp : Int)), some (.inl m_63), some (.inl 3), some (.inl (h 20 (zwd s 2 pp)))], [.inl m_63], (zs h hl))) rfl ?_
              refine zH_ret (v := some (.inl m_63)) rfl (fun q => absurd q (by decide)) ?_
              refine ⟨congrArg (fun z => some (Sum.inl z)) ?_, rfl⟩
              unfold zAf
              rw [if_neg (by decide), if_neg (by decide)]
              omega
            · refine zH_go 3 (c' := (52, [some (.inr (.inr (some 22))), some (.inr (.inr (some (A)))), some (.inl (s : Int)), some (.inl (pp : Int)), some (.inl m_63), some (.inl 2), some (.inl (h 20 (zwd s 2 pp)))], [.inl (h 20 (zwd s 2 pp)), .inr (.inr (some (A))), .inl m_63], (zs h hl))) rfl ?_
              refine zH_ial rfl (n := 56) hsh (by omega) (by omega) ?_
              show zH _ _ (53, [some (.inr (.inr (some 22))), some (.inr (.inr (some (A)))), some (.inl (s : Int)), some (.inl (pp : Int)), some (.inl m_63), some (.inl 2), some (.inl (h 20 (zwd s 2 pp)))], [.inl (h A (Int.toNat (h 20 (zwd s 2 pp)))), .inl m_63], (zs h hl)) _
              refine zH_go 5 (c' := (61, [some (.inr (.inr (some 22))), some (.inr (.inr (some (A)))), some (.inl (s : Int)), some (.inl (pp : Int)), some (.inl m_63), some (.inl 2), some (.inl (h 20 (zwd s 2 pp)))], [.inl 2, .inl (s : Int), .inl (pp : Int), .inr (.inr (some 3)), .inl (h A (Int.toNat (h 20 (zwd s 2 pp)))), .inl m_63], (zs h hl))) rfl ?_
              refine zH_call (M' := 100) (as := [.inl (s : Int), .inl 2]) (T := [.inl (pp : Int), .inr (.inr (some 3)), .inl (h A (Int.toNat (h 20 (zwd s 2 pp)))), .inl m_63]) rfl (p_digit (n := s) (i := 2) (by omega) (by decide)) (fun r σ' p_79 => ?_)
              obtain ⟨rfl, rfl⟩ := p_79
              show zH _ _ (64, [some (.inr (.inr (some 22))), some (.inr (.inr (some (A)))), some (.inl (s : Int)), some (.inl (pp : Int)), some (.inl m_63), some (.inl 2), some (.inl (h 20 (zwd s 2 pp)))], [.inl ((zdg s 2 : Nat) : Int), .inl (pp : Int), .inr (.inr (some 3)), .inl (h A (Int.toNat (h 20 (zwd s 2 pp)))), .inl m_63], (zs h hl)) _
              refine zH_call (M' := 52) (as := [.inr (.inr (some 3)), .inl (pp : Int), .inl ((zdg s 2 : Nat) : Int)]) (T := [.inl (h A (Int.toNat (h 20 (zwd s 2 pp)))), .inl m_63]) rfl (p_gap (a := pp) (b := zdg s 2) (by omega) (by omega)) (fun r σ' p_80 => ?_)
              obtain ⟨rfl, rfl⟩ := p_80
              show zH _ _ (67, [some (.inr (.inr (some 22))), some (.inr (.inr (some (A)))), some (.inl (s : Int)), some (.inl (pp : Int)), some (.inl m_63), some (.inl 2), some (.inl (h 20 (zwd s 2 pp)))], [.inl (h (12 + pp) (zdg s 2)), .inl (h A (Int.toNat (h 20 (zwd s 2 pp)))), .inl m_63], (zs h hl)) _
              refine zH_go 1 (c' := (68, [some (.inr (.inr (some 22))), some (.inr (.inr (some (A)))), some (.inl (s : Int)), some (.inl (pp : Int)), some (.inl m_63), some (.inl 2), some (.inl (h 20 (zwd s 2 pp)))], [.inl ((h A (Int.toNat (h 20 (zwd s 2 pp)))) + (h (12 + pp) (zdg s 2))), .inl m_63], (zs h hl))) rfl ?_
              refine zH_np (P := zr m_63 ∧ zr ((h A (Int.toNat (h 20 (zwd s 2 pp)))) + (h (12 + pp) (zdg s 2)))) (c' := (71, [some (.inr (.inr (some 22))), some (.inr (.inr (some (A)))), some (.inl (s : Int)), some (.inl (pp : Int)), some (.inl m_63), some (.inl 2), some (.inl (h 20 (zwd s 2 pp)))], [.inl (if ((h A (Int.toNat (h 20 (zwd s 2 pp)))) + (h (12 + pp) (zdg s 2))) < m_63 then ((h A (Int.toNat (h 20 (zwd s 2 pp)))) + (h (12 + pp) (zdg s 2))) else m_63)], (zs h hl))) rfl ⟨(by first | assumption | (unfold zr; omega)), (by first | assumption | (unfold zr; omega))⟩ ?_
              obtain ⟨m_81, em_81, fm_81⟩ := zmin_spec m_63 ((h A (Int.toNat (h 20 (zwd s 2 pp)))) + (h (12 + pp) (zdg s 2)))
              rw [em_81]
              refine zH_go 7 (c' := (16, [some (.inr (.inr (some 22))), some (.inr (.inr (some (A)))), some (.inl (s : Int)), some (.inl (pp : Int)), some (.inl m_81), some (.inl 3), some (.inl (h 20 (zwd s 2 pp)))], [.inl (h 18 1), .inl 3], (zs h hl))) rfl ?_
              rw [hL]
              refine zH_bt (x := 3) (y := 3) (k := .ge) (c1 := (79, [some (.inr (.inr (some 22))), some (.inr (.inr (some (A)))), some (.inl (s : Int)), some (.inl (pp : Int)), some (.inl m_81), some (.inl 3), some (.inl (h 20 (zwd s 2 pp)))], [], (zs h hl))) (c2 := (19, [some (.inr (.inr (some 22))), some (.inr (.inr (some (A)))), some (.inl (s : Int)), some (.inl (pp : Int)), some (.inl m_81), some (.inl 3), some (.inl (h 20 (zwd s 2 pp)))], [], (zs h hl))) rfl ⟨by decide, by decide⟩ ⟨by decide, by decide⟩ (by show ¬ 3 < 3; decide) ?_
              refine zH_go 1 (c' := (81, [some (.inr (.inr (some 22))), some (.inr (.inr (some (A)))), some (.inl (s : Int)), some (.inl (pp : Int)), some (.inl m_81), some (.inl 3), some (.inl (h 20 (zwd s 2 pp)))], [.inl m_81], (zs h hl))) rfl ?_
              refine zH_ret (v := some (.inl m_81)) rfl (fun q => absurd q (by decide)) ?_
              refine ⟨congrArg (fun z => some (Sum.inl z)) ?_, rfl⟩
              unfold zAf
              rw [if_neg (by decide), if_neg (by decide)]
              omega
        · refine zH_go 3 (c' := (52, [some (.inr (.inr (some 22))), some (.inr (.inr (some (A)))), some (.inl (s : Int)), some (.inl (pp : Int)), some (.inl m_63), some (.inl 1), some (.inl (h 20 (zwd s 1 pp)))], [.inl (h 20 (zwd s 1 pp)), .inr (.inr (some (A))), .inl m_63], (zs h hl))) rfl ?_
          refine zH_ial rfl (n := 56) hsh (by omega) (by omega) ?_
          show zH _ _ (53, [some (.inr (.inr (some 22))), some (.inr (.inr (some (A)))), some (.inl (s : Int)), some (.inl (pp : Int)), some (.inl m_63), some (.inl 1), some (.inl (h 20 (zwd s 1 pp)))], [.inl (h A (Int.toNat (h 20 (zwd s 1 pp)))), .inl m_63], (zs h hl)) _
          refine zH_go 5 (c' := (61, [some (.inr (.inr (some 22))), some (.inr (.inr (some (A)))), some (.inl (s : Int)), some (.inl (pp : Int)), some (.inl m_63), some (.inl 1), some (.inl (h 20 (zwd s 1 pp)))], [.inl 1, .inl (s : Int), .inl (pp : Int), .inr (.inr (some 3)), .inl (h A (Int.toNat (h 20 (zwd s 1 pp)))), .inl m_63], (zs h hl))) rfl ?_
          refine zH_call (M' := 100) (as := [.inl (s : Int), .inl 1]) (T := [.inl (pp : Int), .inr (.inr (some 3)), .inl (h A (Int.toNat (h 20 (zwd s 1 pp)))), .inl m_63]) rfl (p_digit (n := s) (i := 1) (by omega) (by decide)) (fun r σ' p_82 => ?_)
          obtain ⟨rfl, rfl⟩ := p_82
          show zH _ _ (64, [some (.inr (.inr (some 22))), some (.inr (.inr (some (A)))), some (.inl (s : Int)), some (.inl (pp : Int)), some (.inl m_63), some (.inl 1), some (.inl (h 20 (zwd s 1 pp)))], [.inl ((zdg s 1 : Nat) : Int), .inl (pp : Int), .inr (.inr (some 3)), .inl (h A (Int.toNat (h 20 (zwd s 1 pp)))), .inl m_63], (zs h hl)) _
          refine zH_call (M' := 52) (as := [.inr (.inr (some 3)), .inl (pp : Int), .inl ((zdg s 1 : Nat) : Int)]) (T := [.inl (h A (Int.toNat (h 20 (zwd s 1 pp)))), .inl m_63]) rfl (p_gap (a := pp) (b := zdg s 1) (by omega) (by omega)) (fun r σ' p_83 => ?_)
          obtain ⟨rfl, rfl⟩ := p_83
          show zH _ _ (67, [some (.inr (.inr (some 22))), some (.inr (.inr (some (A)))), some (.inl (s : Int)), some (.inl (pp : Int)), some (.inl m_63), some (.inl 1), some (.inl (h 20 (zwd s 1 pp)))], [.inl (h (12 + pp) (zdg s 1)), .inl (h A (Int.toNat (h 20 (zwd s 1 pp)))), .inl m_63], (zs h hl)) _
          refine zH_go 1 (c' := (68, [some (.inr (.inr (some 22))), some (.inr (.inr (some (A)))), some (.inl (s : Int)), some (.inl (pp : Int)), some (.inl m_63), some (.inl 1), some (.inl (h 20 (zwd s 1 pp)))], [.inl ((h A (Int.toNat (h 20 (zwd s 1 pp)))) + (h (12 + pp) (zdg s 1))), .inl m_63], (zs h hl))) rfl ?_
          refine zH_np (P := zr m_63 ∧ zr ((h A (Int.toNat (h 20 (zwd s 1 pp)))) + (h (12 + pp) (zdg s 1)))) (c' := (71, [some (.inr (.inr (some 22))), some (.inr (.inr (some (A)))), some (.inl (s : Int)), some (.inl (pp : Int)), some (.inl m_63), some (.inl 1), some (.inl (h 20 (zwd s 1 pp)))], [.inl (if ((h A (Int.toNat (h 20 (zwd s 1 pp)))) + (h (12 + pp) (zdg s 1))) < m_63 then ((h A (Int.toNat (h 20 (zwd s 1 pp)))) + (h (12 + pp) (zdg s 1))) else m_63)], (zs h hl))) rfl ⟨(by first | assumption | (unfold zr; omega)), (by first | assumption | (unfold zr; omega))⟩ ?_
          obtain ⟨m_84, em_84, fm_84⟩ := zmin_spec m_63 ((h A (Int.toNat (h 20 (zwd s 1 pp)))) + (h (12 + pp) (zdg s 1)))
          rw [em_84]
          refine zH_go 7 (c' := (16, [some (.inr (.inr (some 22))), some (.inr (.inr (some (A)))), some (.inl (s : Int)), some (.inl (pp : Int)), some (.inl m_84), some (.inl 2), some (.inl (h 20 (zwd s 1 pp)))], [.inl (h 18 1), .inl 2], (zs h hl))) rfl ?_
          rw [hL]
          refine zH_bf (x := 2) (y := 3) (k := .ge) (c1 := (79, [some (.inr (.inr (some 22))), some (.inr (.inr (some (A)))), some (.inl (s : Int)), some (.inl (pp : Int)), some (.inl m_84), some (.inl 2), some (.inl (h 20 (zwd s 1 pp)))], [], (zs h hl))) (c2 := (19, [some (.inr (.inr (some 22))), some (.inr (.inr (some (A)))), some (.inl (s : Int)), some (.inl (pp : Int)), some (.inl m_84), some (.inl 2), some (.inl (h 20 (zwd s 1 pp)))], [], (zs h hl))) rfl ⟨by decide, by decide⟩ ⟨by decide, by decide⟩ (by show ¬ (¬ 2 < 3); decide) ?_
          refine zH_go 5 (c' := (27, [some (.inr (.inr (some 22))), some (.inr (.inr (some (A)))), some (.inl (s : Int)), some (.inl (pp : Int)), some (.inl m_84), some (.inl 2), some (.inl (h 20 (zwd s 1 pp)))], [.inl (pp : Int), .inl 2, .inl (s : Int), .inr (.inr (some 18))], (zs h hl))) rfl ?_
          refine zH_call (M' := 101) (as := [.inl (s : Int), .inl 2, .inl (pp : Int)]) (T := [.inr (.inr (some 18))]) rfl (p_withDigit (n := s) (i := 2) (v := pp) (by omega) (by decide) (by omega)) (fun r σ' p_85 => ?_)
          obtain ⟨rfl, rfl⟩ := p_85
          show zH _ _ (30, [some (.inr (.inr (some 22))), some (.inr (.inr (some (A)))), some (.inl (s : Int)), some (.inl (pp : Int)), some (.inl m_84), some (.inl 2), some (.inl (h 20 (zwd s 1 pp)))], [.inl ((zwd s 2 pp : Nat) : Int), .inr (.inr (some 18))], (zs h hl)) _
          refine zH_call (M' := 44) (as := [.inr (.inr (some 18)), .inl ((zwd s 2 pp : Nat) : Int)]) (T := []) rfl (p_slot (n := zwd s 2 pp) (by omega)) (fun r σ' p_86 => ?_)
          obtain ⟨rfl, rfl⟩ := p_86
          show zH _ _ (33, [some (.inr (.inr (some 22))), some (.inr (.inr (some (A)))), some (.inl (s : Int)), some (.inl (pp : Int)), some (.inl m_84), some (.inl 2), some (.inl (h 20 (zwd s 1 pp)))], [.inl (h 20 (zwd s 2 pp))], (zs h hl)) _
          refine zH_go 2 (c' := (37, [some (.inr (.inr (some 22))), some (.inr (.inr (some (A)))), some (.inl (s : Int)), some (.inl (pp : Int)), some (.inl m_84), some (.inl 2), some (.inl (h 20 (zwd s 2 pp)))], [.inl (h 20 (zwd s 2 pp))], (zs h hl))) rfl ?_
          refine zH_br (x := (h 20 (zwd s 2 pp))) (y := 0) (k := .lt) (c1 := (73, [some (.inr (.inr (some 22))), some (.inr (.inr (some (A)))), some (.inl (s : Int)), some (.inl (pp : Int)), some (.inl m_84), some (.inl 2), some (.inl (h 20 (zwd s 2 pp)))], [], (zs h hl))) (c2 := (40, [some (.inr (.inr (some 22))), some (.inr (.inr (some (A)))), some (.inl (s : Int)), some (.inl (pp : Int)), some (.inl m_84), some (.inl 2), some (.inl (h 20 (zwd s 2 pp)))], [], (zs h hl))) rfl (by first | assumption | (unfold zr; omega)) ⟨by decide, by decide⟩ (fun (b_87 : (h 20 (zwd s 2 pp)) < 0) => ?_) (fun (b_87 : ¬ ((h 20 (zwd s 2 pp)) < 0)) => ?_)
          · refine zH_go 6 (c' := (16, [some (.inr (.inr (some 22))), some (.inr (.inr (some (A)))), some (.inl (s : Int)), some (.inl (pp : Int)), some (.inl m_84), some (.inl 3), some (.inl (h 20 (zwd s 2 pp)))], [.inl (h 18 1), .inl 3], (zs h hl))) rfl ?_
            rw [hL]
            refine zH_bt (x := 3) (y := 3) (k := .ge) (c1 := (79, [some (.inr (.inr (some 22))), some (.inr (.inr (some (A)))), some (.inl (s : Int)), some (.inl (pp : Int)), some (.inl m_84), some (.inl 3), some (.inl (h 20 (zwd s 2 pp)))], [], (zs h hl))) (c2 := (19, [some (.inr (.inr (some 22))), some (.inr (.inr (some (A)))), some (.inl (s : Int)), some (.inl (pp : Int)), some (.inl m_84), some (.inl 3), some (.inl (h 20 (zwd s 2 pp)))], [], (zs h hl))) rfl ⟨by decide, by decide⟩ ⟨by decide, by decide⟩ (by show ¬ 3 < 3; decide) ?_
            refine zH_go 1 (c' := (81, [some (.inr (.inr (some 22))), some (.inr (.inr (some (A)))), some (.inl (s : Int)), some (.inl (pp : Int)), some (.inl m_84), some (.inl 3), some (.inl (h 20 (zwd s 2 pp)))], [.inl m_84], (zs h hl))) rfl ?_
            refine zH_ret (v := some (.inl m_84)) rfl (fun q => absurd q (by decide)) ?_
            refine ⟨congrArg (fun z => some (Sum.inl z)) ?_, rfl⟩
            unfold zAf
            rw [if_neg (by decide), if_neg (by decide)]
            omega
          · refine zH_go 2 (c' := (43, [some (.inr (.inr (some 22))), some (.inr (.inr (some (A)))), some (.inl (s : Int)), some (.inl (pp : Int)), some (.inl m_84), some (.inl 2), some (.inl (h 20 (zwd s 2 pp)))], [.inr (.inr (some (A))), .inl (h 20 (zwd s 2 pp))], (zs h hl))) rfl ?_
            refine zH_aln rfl (n := 56) (t := 0) hsh (by decide) ?_
            show zH _ _ (44, [some (.inr (.inr (some 22))), some (.inr (.inr (some (A)))), some (.inl (s : Int)), some (.inl (pp : Int)), some (.inl m_84), some (.inl 2), some (.inl (h 20 (zwd s 2 pp)))], [.inl 56, .inl (h 20 (zwd s 2 pp))], (zs h hl)) _
            refine zH_br (x := (h 20 (zwd s 2 pp))) (y := 56) (k := .ge) (c1 := (73, [some (.inr (.inr (some 22))), some (.inr (.inr (some (A)))), some (.inl (s : Int)), some (.inl (pp : Int)), some (.inl m_84), some (.inl 2), some (.inl (h 20 (zwd s 2 pp)))], [], (zs h hl))) (c2 := (47, [some (.inr (.inr (some 22))), some (.inr (.inr (some (A)))), some (.inl (s : Int)), some (.inl (pp : Int)), some (.inl m_84), some (.inl 2), some (.inl (h 20 (zwd s 2 pp)))], [], (zs h hl))) rfl (by first | assumption | (unfold zr; omega)) ⟨by decide, by decide⟩ (fun (b_88 : ¬ (h 20 (zwd s 2 pp)) < 56) => ?_) (fun (b_88 : ¬ (¬ (h 20 (zwd s 2 pp)) < 56)) => ?_)
            · refine zH_go 6 (c' := (16, [some (.inr (.inr (some 22))), some (.inr (.inr (some (A)))), some (.inl (s : Int)), some (.inl (pp : Int)), some (.inl m_84), some (.inl 3), some (.inl (h 20 (zwd s 2 pp)))], [.inl (h 18 1), .inl 3], (zs h hl))) rfl ?_
              rw [hL]
              refine zH_bt (x := 3) (y := 3) (k := .ge) (c1 := (79, [some (.inr (.inr (some 22))), some (.inr (.inr (some (A)))), some (.inl (s : Int)), some (.inl (pp : Int)), some (.inl m_84), some (.inl 3), some (.inl (h 20 (zwd s 2 pp)))], [], (zs h hl))) (c2 := (19, [some (.inr (.inr (some 22))), some (.inr (.inr (some (A)))), some (.inl (s : Int)), some (.inl (pp : Int)), some (.inl m_84), some (.inl 3), some (.inl (h 20 (zwd s 2 pp)))], [], (zs h hl))) rfl ⟨by decide, by decide⟩ ⟨by decide, by decide⟩ (by show ¬ 3 < 3; decide) ?_
              refine zH_go 1 (c' := (81, [some (.inr (.inr (some 22))), some (.inr (.inr (some (A)))), some (.inl (s : Int)), some (.inl (pp : Int)), some (.inl m_84), some (.inl 3), some (.inl (h 20 (zwd s 2 pp)))], [.inl m_84], (zs h hl))) rfl ?_
              refine zH_ret (v := some (.inl m_84)) rfl (fun q => absurd q (by decide)) ?_
              refine ⟨congrArg (fun z => some (Sum.inl z)) ?_, rfl⟩
              unfold zAf
              rw [if_neg (by decide), if_neg (by decide)]
              omega
            · refine zH_go 3 (c' := (52, [some (.inr (.inr (some 22))), some (.inr (.inr (some (A)))), some (.inl (s : Int)), some (.inl (pp : Int)), some (.inl m_84), some (.inl 2), some (.inl (h 20 (zwd s 2 pp)))], [.inl (h 20 (zwd s 2 pp)), .inr (.inr (some (A))), .inl m_84], (zs h hl))) rfl ?_
              refine zH_ial rfl (n := 56) hsh (by omega) (by omega) ?_
              show zH _ _ (53, [some (.inr (.inr (some 22))), some (.inr (.inr (some (A)))), some (.inl (s : Int)), some (.inl (pp : Int)), some (.inl m_84), some (.inl 2), some (.inl (h 20 (zwd s 2 pp)))], [.inl (h A (Int.toNat (h 20 (zwd s 2 pp)))), .inl m_84], (zs h hl)) _
              refine zH_go 5 (c' := (61, [some (.inr (.inr (some 22))), some (.inr (.inr (some (A)))), some (.inl (s : Int)), some (.inl (pp : Int)), some (.inl m_84), some (.inl 2), some (.inl (h 20 (zwd s 2 pp)))], [.inl 2, .inl (s : Int), .inl (pp : Int), .inr (.inr (some 3)), .inl (h A (Int.toNat (h 20 (zwd s 2 pp)))), .inl m_84], (zs h hl))) rfl ?_
              refine zH_call (M' := 100) (as := [.inl (s : Int), .inl 2]) (T := [.inl (pp : Int), .inr (.inr (some 3)), .inl (h A (Int.toNat (h 20 (zwd s 2 pp)))), .inl m_84]) rfl (p_digit (n := s) (i := 2) (by omega) (by decide)) (fun r σ' p_89 => ?_)
              obtain ⟨rfl, rfl⟩ := p_89
              show zH _ _ (64, [some (.inr (.inr (some 22))), some (.inr (.inr (some (A)))), some (.inl (s : Int)), some (.inl (pp : Int)), some (.inl m_84), some (.inl 2), some (.inl (h 20 (zwd s 2 pp)))], [.inl ((zdg s 2 : Nat) : Int), .inl (pp : Int), .inr (.inr (some 3)), .inl (h A (Int.toNat (h 20 (zwd s 2 pp)))), .inl m_84], (zs h hl)) _
              refine zH_call (M' := 52) (as := [.inr (.inr (some 3)), .inl (pp : Int), .inl ((zdg s 2 : Nat) : Int)]) (T := [.inl (h A (Int.toNat (h 20 (zwd s 2 pp)))), .inl m_84]) rfl (p_gap (a := pp) (b := zdg s 2) (by omega) (by omega)) (fun r σ' p_90 => ?_)
              obtain ⟨rfl, rfl⟩ := p_90
              show zH _ _ (67, [some (.inr (.inr (some 22))), some (.inr (.inr (some (A)))), some (.inl (s : Int)), some (.inl (pp : Int)), some (.inl m_84), some (.inl 2), some (.inl (h 20 (zwd s 2 pp)))], [.inl (h (12 + pp) (zdg s 2)), .inl (h A (Int.toNat (h 20 (zwd s 2 pp)))), .inl m_84], (zs h hl)) _
              refine zH_go 1 (c' := (68, [some (.inr (.inr (some 22))), some (.inr (.inr (some (A)))), some (.inl (s : Int)), some (.inl (pp : Int)), some (.inl m_84), some (.inl 2), some (.inl (h 20 (zwd s 2 pp)))], [.inl ((h A (Int.toNat (h 20 (zwd s 2 pp)))) + (h (12 + pp) (zdg s 2))), .inl m_84], (zs h hl))) rfl ?_
              refine zH_np (P := zr m_84 ∧ zr ((h A (Int.toNat (h 20 (zwd s 2 pp)))) + (h (12 + pp) (zdg s 2)))) (c' := (71, [some (.inr (.inr (some 22))), some (.inr (.inr (some (A)))), some (.inl (s : Int)), some (.inl (pp : Int)), some (.inl m_84), some (.inl 2), some (.inl (h 20 (zwd s 2 pp)))], [.inl (if ((h A (Int.toNat (h 20 (zwd s 2 pp)))) + (h (12 + pp) (zdg s 2))) < m_84 then ((h A (Int.toNat (h 20 (zwd s 2 pp)))) + (h (12 + pp) (zdg s 2))) else m_84)], (zs h hl))) rfl ⟨(by first | assumption | (unfold zr; omega)), (by first | assumption | (unfold zr; omega))⟩ ?_
              obtain ⟨m_91, em_91, fm_91⟩ := zmin_spec m_84 ((h A (Int.toNat (h 20 (zwd s 2 pp)))) + (h (12 + pp) (zdg s 2)))
              rw [em_91]
              refine zH_go 7 (c' := (16, [some (.inr (.inr (some 22))), some (.inr (.inr (some (A)))), some (.inl (s : Int)), some (.inl (pp : Int)), some (.inl m_91), some (.inl 3), some (.inl (h 20 (zwd s 2 pp)))], [.inl (h 18 1), .inl 3], (zs h hl))) rfl ?_
              rw [hL]
              refine zH_bt (x := 3) (y := 3) (k := .ge) (c1 := (79, [some (.inr (.inr (some 22))), some (.inr (.inr (some (A)))), some (.inl (s : Int)), some (.inl (pp : Int)), some (.inl m_91), some (.inl 3), some (.inl (h 20 (zwd s 2 pp)))], [], (zs h hl))) (c2 := (19, [some (.inr (.inr (some 22))), some (.inr (.inr (some (A)))), some (.inl (s : Int)), some (.inl (pp : Int)), some (.inl m_91), some (.inl 3), some (.inl (h 20 (zwd s 2 pp)))], [], (zs h hl))) rfl ⟨by decide, by decide⟩ ⟨by decide, by decide⟩ (by show ¬ 3 < 3; decide) ?_
              refine zH_go 1 (c' := (81, [some (.inr (.inr (some 22))), some (.inr (.inr (some (A)))), some (.inl (s : Int)), some (.inl (pp : Int)), some (.inl m_91), some (.inl 3), some (.inl (h 20 (zwd s 2 pp)))], [.inl m_91], (zs h hl))) rfl ?_
              refine zH_ret (v := some (.inl m_91)) rfl (fun q => absurd q (by decide)) ?_
              refine ⟨congrArg (fun z => some (Sum.inl z)) ?_, rfl⟩
              unfold zAf
              rw [if_neg (by decide), if_neg (by decide)]
              omega
theorem p_afD {d : Nat} {h hl : Nat → Nat → Int} {A p s pp L : Nat} (hS : zSI h p L) (hs : zSb p L s = true) (hp : pp < p) (hsh : zSh A = .inr (0, 56) ∧ 2 ≤ A ∧ A < 127) (hA : ∀ k : Nat, (k : Int) < h 18 2 → 0 ≤ h A k ∧ h A k ≤ 100000) (hB : zTB h) (hD : ∀ i j : Nat, i < p → j < p → h (12 + i) j ≤ 1500) : zQ (d + 2) 58 [.inr (.inr (some 22)), .inr (.inr (some A)), .inl (s : Int), .inl (pp : Int)] (zs h hl) (zI1 (zAf h L A s pp) (zs h hl)) := by
  rcases (show L = 1 ∨ L = 2 ∨ L = 3 by have := hS.1; omega) with rfl | rfl | rfl
  · exact p_afD1 hS hs hp hsh hA hB hD
  · exact p_afD2 hS hs hp hsh hA hB hD
  · exact p_afD3 hS hs hp hsh hA hB hD
set_option maxRecDepth 100000 in
set_option maxHeartbeats 4000000 in
theorem p_afT1 {d : Nat} {h hl : Nat → Nat → Int} {A p s pp : Nat} (hS : zSI h p 1) (hs : zSb p 1 s = true) (hp : pp < p) (hsh : zSh A = .inr (0, 56) ∧ 2 ≤ A ∧ A < 127) (hA : ∀ k : Nat, (k : Int) < h 18 2 → 0 ≤ h A k ∧ h A k ≤ 100000) (hB : zTB h) (hD : ∀ i j : Nat, i < p → j < p → h (12 + i) j ≤ 1500) : zQ (d + 2) 58 [.inr (.inr (some 49)), .inr (.inr (some (A))), .inl (s : Int), .inl (pp : Int)] (zs h hl) (zI1 (zAf h 1 A s pp) (zs h hl)) := by
  obtain ⟨hL3, hp6, hL, hs2, hsl, -, -⟩ := hS
  have hn := zSb_lt hL3.2 hs
  have w0 := zSb_wd hp6 hL3.2 hs (by decide : 0 < 1) hp
  have wl0 := zSb_lt hL3.2 w0
  have sl0 := hsl _ wl0 w0
  have dg0 := zSb_dg hs (by decide : 0 < 1)
  have r0 := hA (Int.toNat (h 20 (zwd s 0 pp))) (by omega)
  have dd0 := hB pp (zdg s 0) (by omega) (by omega)
  have ds0 := hD pp (zdg s 0) hp dg0
  refine zQ_of (Nat.le_of_ble_eq_true rfl) ?_
  show zH (d + 1) 58 (0, [some (.inr (.inr (some 49))), some (.inr (.inr (some (A)))), some (.inl (s : Int)), some (.inl (pp : Int)), none, none, none], [], (zs h hl)) _
  refine zH_go 8 (c' := (16, [some (.inr (.inr (some 49))), some (.inr (.inr (some (A)))), some (.inl (s : Int)), some (.inl (pp : Int)), some (.inl 1000000), some (.inl 0), none], [.inl (h 18 1), .inl 0], (zs h hl))) rfl ?_
  rw [hL]
  refine zH_bf (x := 0) (y := 1) (k := .ge) (c1 := (79, [some (.inr (.inr (some 49))), some (.inr (.inr (some (A)))), some (.inl (s : Int)), some (.inl (pp : Int)), some (.inl 1000000), some (.inl 0), none], [], (zs h hl))) (c2 := (19, [some (.inr (.inr (some 49))), some (.inr (.inr (some (A)))), some (.inl (s : Int)), some (.inl (pp : Int)), some (.inl 1000000), some (.inl 0), none], [], (zs h hl))) rfl ⟨by decide, by decide⟩ ⟨by decide, by decide⟩ (by show ¬ (¬ 0 < 1); decide) ?_
  refine zH_go 5 (c' := (27, [some (.inr (.inr (some 49))), some (.inr (.inr (some (A)))), some (.inl (s : Int)), some (.inl (pp : Int)), some (.inl 1000000), some (.inl 0), none], [.inl (pp : Int), .inl 0, .inl (s : Int), .inr (.inr (some 18))], (zs h hl))) rfl ?_
  refine zH_call (M' := 101) (as := [.inl (s : Int), .inl 0, .inl (pp : Int)]) (T := [.inr (.inr (some 18))]) rfl (p_withDigit (n := s) (i := 0) (v := pp) (by omega) (by decide) (by omega)) (fun r σ' p_1 => ?_)
  obtain ⟨rfl, rfl⟩ := p_1
  show zH _ _ (30, [some (.inr (.inr (some 49))), some (.inr (.inr (some (A)))), some (.inl (s : Int)), some (.inl (pp : Int)), some (.inl 1000000), some (.inl 0), none], [.inl ((zwd s 0 pp : Nat) : Int), .inr (.inr (some 18))], (zs h hl)) _
  refine zH_call (M' := 44) (as := [.inr (.inr (some 18)), .inl ((zwd s 0 pp : Nat) : Int)]) (T := []) rfl (p_slot (n := zwd s 0 pp) (by omega)) (fun r σ' p_2 => ?_)
  obtain ⟨rfl, rfl⟩ := p_2
  show zH _ _ (33, [some (.inr (.inr (some 49))), some (.inr (.inr (some (A)))), some (.inl (s : Int)), some (.inl (pp : Int)), some (.inl 1000000), some (.inl 0), none], [.inl (h 20 (zwd s 0 pp))], (zs h hl)) _
  refine zH_go 2 (c' := (37, [some (.inr (.inr (some 49))), some (.inr (.inr (some (A)))), some (.inl (s : Int)), some (.inl (pp : Int)), some (.inl 1000000), some (.inl 0), some (.inl (h 20 (zwd s 0 pp)))], [.inl (h 20 (zwd s 0 pp))], (zs h hl))) rfl ?_
  refine zH_br (x := (h 20 (zwd s 0 pp))) (y := 0) (k := .lt) (c1 := (73, [some (.inr (.inr (some 49))), some (.inr (.inr (some (A)))), some (.inl (s : Int)), some (.inl (pp : Int)), some (.inl 1000000), some (.inl 0), some (.inl (h 20 (zwd s 0 pp)))], [], (zs h hl))) (c2 := (40, [some (.inr (.inr (some 49))), some (.inr (.inr (some (A)))), some (.inl (s : Int)), some (.inl (pp : Int)), some (.inl 1000000), some (.inl 0), some (.inl (h 20 (zwd s 0 pp)))], [], (zs h hl))) rfl (by first | assumption | (unfold zr; omega)) ⟨by decide, by decide⟩ (fun (b_3 : (h 20 (zwd s 0 pp)) < 0) => ?_) (fun (b_3 : ¬ ((h 20 (zwd s 0 pp)) < 0)) => ?_)
  · refine zH_go 6 (c' := (16, [some (.inr (.inr (some 49))), some (.inr (.inr (some (A)))), some (.inl (s : Int)), some (.inl (pp : Int)), some (.inl 1000000), some (.inl 1), some (.inl (h 20 (zwd s 0 pp)))], [.inl (h 18 1), .inl 1], (zs h hl))) rfl ?_
    rw [hL]
    refine zH_bt (x := 1) (y := 1) (k := .ge) (c1 := (79, [some (.inr (.inr (some 49))), some (.inr (.inr (some (A)))), some (.inl (s : Int)), some (.inl (pp : Int)), some (.inl 1000000), some (.inl 1), some (.inl (h 20 (zwd s 0 pp)))], [], (zs h hl))) (c2 := (19, [some (.inr (.inr (some 49))), some (.inr (.inr (some (A)))), some (.inl (s : Int)), some (.inl (pp : Int)), some (.inl 1000000), some (.inl 1), some (.inl (h 20 (zwd s 0 pp)))], [], (zs h hl))) rfl ⟨by decide, by decide⟩ ⟨by decide, by decide⟩ (by show ¬ 1 < 1; decide) ?_
    refine zH_go 1 (c' := (81, [some (.inr (.inr (some 49))), some (.inr (.inr (some (A)))), some (.inl (s : Int)), some (.inl (pp : Int)), some (.inl 1000000), some (.inl 1), some (.inl (h 20 (zwd s 0 pp)))], [.inl 1000000], (zs h hl))) rfl ?_
    refine zH_ret (v := some (.inl 1000000)) rfl (fun q => absurd q (by decide)) ?_
    refine ⟨congrArg (fun z => some (Sum.inl z)) ?_, rfl⟩
    unfold zAf
    rw [if_pos rfl]
    omega
  · refine zH_go 2 (c' := (43, [some (.inr (.inr (some 49))), some (.inr (.inr (some (A)))), some (.inl (s : Int)), some (.inl (pp : Int)), some (.inl 1000000), some (.inl 0), some (.inl (h 20 (zwd s 0 pp)))], [.inr (.inr (some (A))), .inl (h 20 (zwd s 0 pp))], (zs h hl))) rfl ?_
    refine zH_aln rfl (n := 56) (t := 0) hsh (by decide) ?_
    show zH _ _ (44, [some (.inr (.inr (some 49))), some (.inr (.inr (some (A)))), some (.inl (s : Int)), some (.inl (pp : Int)), some (.inl 1000000), some (.inl 0), some (.inl (h 20 (zwd s 0 pp)))], [.inl 56, .inl (h 20 (zwd s 0 pp))], (zs h hl)) _
    refine zH_br (x := (h 20 (zwd s 0 pp))) (y := 56) (k := .ge) (c1 := (73, [some (.inr (.inr (some 49))), some (.inr (.inr (some (A)))), some (.inl (s : Int)), some (.inl (pp : Int)), some (.inl 1000000), some (.inl 0), some (.inl (h 20 (zwd s 0 pp)))], [], (zs h hl))) (c2 := (47, [some (.inr (.inr (some 49))), some (.inr (.inr (some (A)))), some (.inl (s : Int)), some (.inl (pp : Int)), some (.inl 1000000), some (.inl 0), some (.inl (h 20 (zwd s 0 pp)))], [], (zs h hl))) rfl (by first | assumption | (unfold zr; omega)) ⟨by decide, by decide⟩ (fun (b_4 : ¬ (h 20 (zwd s 0 pp)) < 56) => ?_) (fun (b_4 : ¬ (¬ (h 20 (zwd s 0 pp)) < 56)) => ?_)
    · refine zH_go 6 (c' := (16, [some (.inr (.inr (some 49))), some (.inr (.inr (some (A)))), some (.inl (s : Int)), some (.inl (pp : Int)), some (.inl 1000000), some (.inl 1), some (.inl (h 20 (zwd s 0 pp)))], [.inl (h 18 1), .inl 1], (zs h hl))) rfl ?_
      rw [hL]
      refine zH_bt (x := 1) (y := 1) (k := .ge) (c1 := (79, [some (.inr (.inr (some 49))), some (.inr (.inr (some (A)))), some (.inl (s : Int)), some (.inl (pp : Int)), some (.inl 1000000), some (.inl 1), some (.inl (h 20 (zwd s 0 pp)))], [], (zs h hl))) (c2 := (19, [some (.inr (.inr (some 49))), some (.inr (.inr (some (A)))), some (.inl (s : Int)), some (.inl (pp : Int)), some (.inl 1000000), some (.inl 1), some (.inl (h 20 (zwd s 0 pp)))], [], (zs h hl))) rfl ⟨by decide, by decide⟩ ⟨by decide, by decide⟩ (by show ¬ 1 < 1; decide) ?_
      refine zH_go 1 (c' := (81, [some (.inr (.inr (some 49))), some (.inr (.inr (some (A)))), some (.inl (s : Int)), some (.inl (pp : Int)), some (.inl 1000000), some (.inl 1), some (.inl (h 20 (zwd s 0 pp)))], [.inl 1000000], (zs h hl))) rfl ?_
      refine zH_ret (v := some (.inl 1000000)) rfl (fun q => absurd q (by decide)) ?_
      refine ⟨congrArg (fun z => some (Sum.inl z)) ?_, rfl⟩
      unfold zAf
      rw [if_pos rfl]
      omega
    · refine zH_go 3 (c' := (52, [some (.inr (.inr (some 49))), some (.inr (.inr (some (A)))), some (.inl (s : Int)), some (.inl (pp : Int)), some (.inl 1000000), some (.inl 0), some (.inl (h 20 (zwd s 0 pp)))], [.inl (h 20 (zwd s 0 pp)), .inr (.inr (some (A))), .inl 1000000], (zs h hl))) rfl ?_
      refine zH_ial rfl (n := 56) hsh (by omega) (by omega) ?_
      show zH _ _ (53, [some (.inr (.inr (some 49))), some (.inr (.inr (some (A)))), some (.inl (s : Int)), some (.inl (pp : Int)), some (.inl 1000000), some (.inl 0), some (.inl (h 20 (zwd s 0 pp)))], [.inl (h A (Int.toNat (h 20 (zwd s 0 pp)))), .inl 1000000], (zs h hl)) _
      refine zH_go 5 (c' := (61, [some (.inr (.inr (some 49))), some (.inr (.inr (some (A)))), some (.inl (s : Int)), some (.inl (pp : Int)), some (.inl 1000000), some (.inl 0), some (.inl (h 20 (zwd s 0 pp)))], [.inl 0, .inl (s : Int), .inl (pp : Int), .inr (.inr (some 3)), .inl (h A (Int.toNat (h 20 (zwd s 0 pp)))), .inl 1000000], (zs h hl))) rfl ?_
      refine zH_call (M' := 100) (as := [.inl (s : Int), .inl 0]) (T := [.inl (pp : Int), .inr (.inr (some 3)), .inl (h A (Int.toNat (h 20 (zwd s 0 pp)))), .inl 1000000]) rfl (p_digit (n := s) (i := 0) (by omega) (by decide)) (fun r σ' p_5 => ?_)
      obtain ⟨rfl, rfl⟩ := p_5
      show zH _ _ (64, [some (.inr (.inr (some 49))), some (.inr (.inr (some (A)))), some (.inl (s : Int)), some (.inl (pp : Int)), some (.inl 1000000), some (.inl 0), some (.inl (h 20 (zwd s 0 pp)))], [.inl ((zdg s 0 : Nat) : Int), .inl (pp : Int), .inr (.inr (some 3)), .inl (h A (Int.toNat (h 20 (zwd s 0 pp)))), .inl 1000000], (zs h hl)) _
      refine zH_call (M' := 52) (as := [.inr (.inr (some 3)), .inl (pp : Int), .inl ((zdg s 0 : Nat) : Int)]) (T := [.inl (h A (Int.toNat (h 20 (zwd s 0 pp)))), .inl 1000000]) rfl (p_gap (a := pp) (b := zdg s 0) (by omega) (by omega)) (fun r σ' p_6 => ?_)
      obtain ⟨rfl, rfl⟩ := p_6
      show zH _ _ (67, [some (.inr (.inr (some 49))), some (.inr (.inr (some (A)))), some (.inl (s : Int)), some (.inl (pp : Int)), some (.inl 1000000), some (.inl 0), some (.inl (h 20 (zwd s 0 pp)))], [.inl (h (12 + pp) (zdg s 0)), .inl (h A (Int.toNat (h 20 (zwd s 0 pp)))), .inl 1000000], (zs h hl)) _
      refine zH_go 1 (c' := (68, [some (.inr (.inr (some 49))), some (.inr (.inr (some (A)))), some (.inl (s : Int)), some (.inl (pp : Int)), some (.inl 1000000), some (.inl 0), some (.inl (h 20 (zwd s 0 pp)))], [.inl ((h A (Int.toNat (h 20 (zwd s 0 pp)))) + (h (12 + pp) (zdg s 0))), .inl 1000000], (zs h hl))) rfl ?_
      refine zH_np (P := zr 1000000 ∧ zr ((h A (Int.toNat (h 20 (zwd s 0 pp)))) + (h (12 + pp) (zdg s 0)))) (c' := (71, [some (.inr (.inr (some 49))), some (.inr (.inr (some (A)))), some (.inl (s : Int)), some (.inl (pp : Int)), some (.inl 1000000), some (.inl 0), some (.inl (h 20 (zwd s 0 pp)))], [.inl (if ((h A (Int.toNat (h 20 (zwd s 0 pp)))) + (h (12 + pp) (zdg s 0))) < 1000000 then ((h A (Int.toNat (h 20 (zwd s 0 pp)))) + (h (12 + pp) (zdg s 0))) else 1000000)], (zs h hl))) rfl ⟨⟨by decide, by decide⟩, (by first | assumption | (unfold zr; omega))⟩ ?_
      obtain ⟨m_7, em_7, fm_7⟩ := zmin_spec 1000000 ((h A (Int.toNat (h 20 (zwd s 0 pp)))) + (h (12 + pp) (zdg s 0)))
      rw [em_7]
      refine zH_go 7 (c' := (16, [some (.inr (.inr (some 49))), some (.inr (.inr (some (A)))), some (.inl (s : Int)), some (.inl (pp : Int)), some (.inl m_7), some (.inl 1), some (.inl (h 20 (zwd s 0 pp)))], [.inl (h 18 1), .inl 1], (zs h hl))) rfl ?_
      rw [hL]
      refine zH_bt (x := 1) (y := 1) (k := .ge) (c1 := (79, [some (.inr (.inr (some 49))), some (.inr (.inr (some (A)))), some (.inl (s : Int)), some (.inl (pp : Int)), some (.inl m_7), some (.inl 1), some (.inl (h 20 (zwd s 0 pp)))], [], (zs h hl))) (c2 := (19, [some (.inr (.inr (some 49))), some (.inr (.inr (some (A)))), some (.inl (s : Int)), some (.inl (pp : Int)), some (.inl m_7), some (.inl 1), some (.inl (h 20 (zwd s 0 pp)))], [], (zs h hl))) rfl ⟨by decide, by decide⟩ ⟨by decide, by decide⟩ (by show ¬ 1 < 1; decide) ?_
      refine zH_go 1 (c' := (81, [some (.inr (.inr (some 49))), some (.inr (.inr (some (A)))), some (.inl (s : Int)), some (.inl (pp : Int)), some (.inl m_7), some (.inl 1), some (.inl (h 20 (zwd s 0 pp)))], [.inl m_7], (zs h hl))) rfl ?_
      refine zH_ret (v := some (.inl m_7)) rfl (fun q => absurd q (by decide)) ?_
      refine ⟨congrArg (fun z => some (Sum.inl z)) ?_, rfl⟩
      unfold zAf
      rw [if_pos rfl]
      omega
set_option maxRecDepth 100000 in
set_option maxHeartbeats 4000000 in
theorem p_afT2 {d : Nat} {h hl : Nat → Nat → Int} {A p s pp : Nat} (hS : zSI h p 2) (hs : zSb p 2 s = true) (hp : pp < p) (hsh : zSh A = .inr (0, 56) ∧ 2 ≤ A ∧ A < 127) (hA : ∀ k : Nat, (k : Int) < h 18 2 → 0 ≤ h A k ∧ h A k ≤ 100000) (hB : zTB h) (hD : ∀ i j : Nat, i < p → j < p → h (12 + i) j ≤ 1500) : zQ (d + 2) 58 [.inr (.inr (some 49)), .inr (.inr (some (A))), .inl (s : Int), .inl (pp : Int)] (zs h hl) (zI1 (zAf h 2 A s pp) (zs h hl)) := by
  obtain ⟨hL3, hp6, hL, hs2, hsl, -, -⟩ := hS
  have hn := zSb_lt hL3.2 hs
  have w0 := zSb_wd hp6 hL3.2 hs (by decide : 0 < 2) hp
  have wl0 := zSb_lt hL3.2 w0
  have sl0 := hsl _ wl0 w0
  have dg0 := zSb_dg hs (by decide : 0 < 2)
  have r0 := hA (Int.toNat (h 20 (zwd s 0 pp))) (by omega)
  have dd0 := hB pp (zdg s 0) (by omega) (by omega)
  have ds0 := hD pp (zdg s 0) hp dg0
  have w1 := zSb_wd hp6 hL3.2 hs (by decide : 1 < 2) hp
  have wl1 := zSb_lt hL3.2 w1
  have sl1 := hsl _ wl1 w1
  have dg1 := zSb_dg hs (by decide : 1 < 2)
  have r1 := hA (Int.toNat (h 20 (zwd s 1 pp))) (by omega)
  have dd1 := hB pp (zdg s 1) (by omega) (by omega)
  have ds1 := hD pp (zdg s 1) hp dg1
  refine zQ_of (Nat.le_of_ble_eq_true rfl) ?_
  show zH (d + 1) 58 (0, [some (.inr (.inr (some 49))), some (.inr (.inr (some (A)))), some (.inl (s : Int)), some (.inl (pp : Int)), none, none, none], [], (zs h hl)) _
  refine zH_go 8 (c' := (16, [some (.inr (.inr (some 49))), some (.inr (.inr (some (A)))), some (.inl (s : Int)), some (.inl (pp : Int)), some (.inl 1000000), some (.inl 0), none], [.inl (h 18 1), .inl 0], (zs h hl))) rfl ?_
  rw [hL]
  refine zH_bf (x := 0) (y := 2) (k := .ge) (c1 := (79, [some (.inr (.inr (some 49))), some (.inr (.inr (some (A)))), some (.inl (s : Int)), some (.inl (pp : Int)), some (.inl 1000000), some (.inl 0), none], [], (zs h hl))) (c2 := (19, [some (.inr (.inr (some 49))), some (.inr (.inr (some (A)))), some (.inl (s : Int)), some (.inl (pp : Int)), some (.inl 1000000), some (.inl 0), none], [], (zs h hl))) rfl ⟨by decide, by decide⟩ ⟨by decide, by decide⟩ (by show ¬ (¬ 0 < 2); decide) ?_
  refine zH_go 5 (c' := (27, [some (.inr (.inr (some 49))), some (.inr (.inr (some (A)))), some (.inl (s : Int)), some (.inl (pp : Int)), some (.inl 1000000), some (.inl 0), none], [.inl (pp : Int), .inl 0, .inl (s : Int), .inr (.inr (some 18))], (zs h hl))) rfl ?_
  refine zH_call (M' := 101) (as := [.inl (s : Int), .inl 0, .inl (pp : Int)]) (T := [.inr (.inr (some 18))]) rfl (p_withDigit (n := s) (i := 0) (v := pp) (by omega) (by decide) (by omega)) (fun r σ' p_1 => ?_)
  obtain ⟨rfl, rfl⟩ := p_1
  show zH _ _ (30, [some (.inr (.inr (some 49))), some (.inr (.inr (some (A)))), some (.inl (s : Int)), some (.inl (pp : Int)), some (.inl 1000000), some (.inl 0), none], [.inl ((zwd s 0 pp : Nat) : Int), .inr (.inr (some 18))], (zs h hl)) _
  refine zH_call (M' := 44) (as := [.inr (.inr (some 18)), .inl ((zwd s 0 pp : Nat) : Int)]) (T := []) rfl (p_slot (n := zwd s 0 pp) (by omega)) (fun r σ' p_2 => ?_)
  obtain ⟨rfl, rfl⟩ := p_2
  show zH _ _ (33, [some (.inr (.inr (some 49))), some (.inr (.inr (some (A)))), some (.inl (s : Int)), some (.inl (pp : Int)), some (.inl 1000000), some (.inl 0), none], [.inl (h 20 (zwd s 0 pp))], (zs h hl)) _
  refine zH_go 2 (c' := (37, [some (.inr (.inr (some 49))), some (.inr (.inr (some (A)))), some (.inl (s : Int)), some (.inl (pp : Int)), some (.inl 1000000), some (.inl 0), some (.inl (h 20 (zwd s 0 pp)))], [.inl (h 20 (zwd s 0 pp))], (zs h hl))) rfl ?_
  refine zH_br (x := (h 20 (zwd s 0 pp))) (y := 0) (k := .lt) (c1 := (73, [some (.inr (.inr (some 49))), some (.inr (.inr (some (A)))), some (.inl (s : Int)), some (.inl (pp : Int)), some (.inl 1000000), some (.inl 0), some (.inl (h 20 (zwd s 0 pp)))], [], (zs h hl))) (c2 := (40, [some (.inr (.inr (some 49))), some (.inr (.inr (some (A)))), some (.inl (s : Int)), some (.inl (pp : Int)), some (.inl 1000000), some (.inl 0), some (.inl (h 20 (zwd s 0 pp)))], [], (zs h hl))) rfl (by first | assumption | (unfold zr; omega)) ⟨by decide, by decide⟩ (fun (b_3 : (h 20 (zwd s 0 pp)) < 0) => ?_) (fun (b_3 : ¬ ((h 20 (zwd s 0 pp)) < 0)) => ?_)
  · refine zH_go 6 (c' := (16, [some (.inr (.inr (some 49))), some (.inr (.inr (some (A)))), some (.inl (s : Int)), some (.inl (pp : Int)), some (.inl 1000000), some (.inl 1), some (.inl (h 20 (zwd s 0 pp)))], [.inl (h 18 1), .inl 1], (zs h hl))) rfl ?_
    rw [hL]
    refine zH_bf (x := 1) (y := 2) (k := .ge) (c1 := (79, [some (.inr (.inr (some 49))), some (.inr (.inr (some (A)))), some (.inl (s : Int)), some (.inl (pp : Int)), some (.inl 1000000), some (.inl 1), some (.inl (h 20 (zwd s 0 pp)))], [], (zs h hl))) (c2 := (19, [some (.inr (.inr (some 49))), some (.inr (.inr (some (A)))), some (.inl (s : Int)), some (.inl (pp : Int)), some (.inl 1000000), some (.inl 1), some (.inl (h 20 (zwd s 0 pp)))], [], (zs h hl))) rfl ⟨by decide, by decide⟩ ⟨by decide, by decide⟩ (by show ¬ (¬ 1 < 2); decide) ?_
    refine zH_go 5 (c' := (27, [some (.inr (.inr (some 49))), some (.inr (.inr (some (A)))), some (.inl (s : Int)), some (.inl (pp : Int)), some (.inl 1000000), some (.inl 1), some (.inl (h 20 (zwd s 0 pp)))], [.inl (pp : Int), .inl 1, .inl (s : Int), .inr (.inr (some 18))], (zs h hl))) rfl ?_
    refine zH_call (M' := 101) (as := [.inl (s : Int), .inl 1, .inl (pp : Int)]) (T := [.inr (.inr (some 18))]) rfl (p_withDigit (n := s) (i := 1) (v := pp) (by omega) (by decide) (by omega)) (fun r σ' p_4 => ?_)
    obtain ⟨rfl, rfl⟩ := p_4
    show zH _ _ (30, [some (.inr (.inr (some 49))), some (.inr (.inr (some (A)))), some (.inl (s : Int)), some (.inl (pp : Int)), some (.inl 1000000), some (.inl 1), some (.inl (h 20 (zwd s 0 pp)))], [.inl ((zwd s 1 pp : Nat) : Int), .inr (.inr (some 18))], (zs h hl)) _
    refine zH_call (M' := 44) (as := [.inr (.inr (some 18)), .inl ((zwd s 1 pp : Nat) : Int)]) (T := []) rfl (p_slot (n := zwd s 1 pp) (by omega)) (fun r σ' p_5 => ?_)
    obtain ⟨rfl, rfl⟩ := p_5
    show zH _ _ (33, [some (.inr (.inr (some 49))), some (.inr (.inr (some (A)))), some (.inl (s : Int)), some (.inl (pp : Int)), some (.inl 1000000), some (.inl 1), some (.inl (h 20 (zwd s 0 pp)))], [.inl (h 20 (zwd s 1 pp))], (zs h hl)) _
    refine zH_go 2 (c' := (37, [some (.inr (.inr (some 49))), some (.inr (.inr (some (A)))), some (.inl (s : Int)), some (.inl (pp : Int)), some (.inl 1000000), some (.inl 1), some (.inl (h 20 (zwd s 1 pp)))], [.inl (h 20 (zwd s 1 pp))], (zs h hl))) rfl ?_
    refine zH_br (x := (h 20 (zwd s 1 pp))) (y := 0) (k := .lt) (c1 := (73, [some (.inr (.inr (some 49))), some (.inr (.inr (some (A)))), some (.inl (s : Int)), some (.inl (pp : Int)), some (.inl 1000000), some (.inl 1), some (.inl (h 20 (zwd s 1 pp)))], [], (zs h hl))) (c2 := (40, [some (.inr (.inr (some 49))), some (.inr (.inr (some (A)))), some (.inl (s : Int)), some (.inl (pp : Int)), some (.inl 1000000), some (.inl 1), some (.inl (h 20 (zwd s 1 pp)))], [], (zs h hl))) rfl (by first | assumption | (unfold zr; omega)) ⟨by decide, by decide⟩ (fun (b_6 : (h 20 (zwd s 1 pp)) < 0) => ?_) (fun (b_6 : ¬ ((h 20 (zwd s 1 pp)) < 0)) => ?_)
    · refine zH_go 6 (c' := (16, [some (.inr (.inr (some 49))), some (.inr (.inr (some (A)))), some (.inl (s : Int)), some (.inl (pp : Int)), some (.inl 1000000), some (.inl 2), some (.inl (h 20 (zwd s 1 pp)))], [.inl (h 18 1), .inl 2], (zs h hl))) rfl ?_
      rw [hL]
      refine zH_bt (x := 2) (y := 2) (k := .ge) (c1 := (79, [some (.inr (.inr (some 49))), some (.inr (.inr (some (A)))), some (.inl (s : Int)), some (.inl (pp : Int)), some (.inl 1000000), some (.inl 2), some (.inl (h 20 (zwd s 1 pp)))], [], (zs h hl))) (c2 := (19, [some (.inr (.inr (some 49))), some (.inr (.inr (some (A)))), some (.inl (s : Int)), some (.inl (pp : Int)), some (.inl 1000000), some (.inl 2), some (.inl (h 20 (zwd s 1 pp)))], [], (zs h hl))) rfl ⟨by decide, by decide⟩ ⟨by decide, by decide⟩ (by show ¬ 2 < 2; decide) ?_
      refine zH_go 1 (c' := (81, [some (.inr (.inr (some 49))), some (.inr (.inr (some (A)))), some (.inl (s : Int)), some (.inl (pp : Int)), some (.inl 1000000), some (.inl 2), some (.inl (h 20 (zwd s 1 pp)))], [.inl 1000000], (zs h hl))) rfl ?_
      refine zH_ret (v := some (.inl 1000000)) rfl (fun q => absurd q (by decide)) ?_
      refine ⟨congrArg (fun z => some (Sum.inl z)) ?_, rfl⟩
      unfold zAf
      rw [if_neg (by decide), if_pos rfl]
      omega
    · refine zH_go 2 (c' := (43, [some (.inr (.inr (some 49))), some (.inr (.inr (some (A)))), some (.inl (s : Int)), some (.inl (pp : Int)), some (.inl 1000000), some (.inl 1), some (.inl (h 20 (zwd s 1 pp)))], [.inr (.inr (some (A))), .inl (h 20 (zwd s 1 pp))], (zs h hl))) rfl ?_
      refine zH_aln rfl (n := 56) (t := 0) hsh (by decide) ?_
      show zH _ _ (44, [some (.inr (.inr (some 49))), some (.inr (.inr (some (A)))), some (.inl (s : Int)), some (.inl (pp : Int)), some (.inl 1000000), some (.inl 1), some (.inl (h 20 (zwd s 1 pp)))], [.inl 56, .inl (h 20 (zwd s 1 pp))], (zs h hl)) _
      refine zH_br (x := (h 20 (zwd s 1 pp))) (y := 56) (k := .ge) (c1 := (73, [some (.inr (.inr (some 49))), some (.inr (.inr (some (A)))), some (.inl (s : Int)), some (.inl (pp : Int)), some (.inl 1000000), some (.inl 1), some (.inl (h 20 (zwd s 1 pp)))], [], (zs h hl))) (c2 := (47, [some (.inr (.inr (some 49))), some (.inr (.inr (some (A)))), some (.inl (s : Int)), some (.inl (pp : Int)), some (.inl 1000000), some (.inl 1), some (.inl (h 20 (zwd s 1 pp)))], [], (zs h hl))) rfl (by first | assumption | (unfold zr; omega)) ⟨by decide, by decide⟩ (fun (b_7 : ¬ (h 20 (zwd s 1 pp)) < 56) => ?_) (fun (b_7 : ¬ (¬ (h 20 (zwd s 1 pp)) < 56)) => ?_)
      · refine zH_go 6 (c' := (16, [some (.inr (.inr (some 49))), some (.inr (.inr (some (A)))), some (.inl (s : Int)), some (.inl (pp : Int)), some (.inl 1000000), some (.inl 2), some (.inl (h 20 (zwd s 1 pp)))], [.inl (h 18 1), .inl 2], (zs h hl))) rfl ?_
        rw [hL]
        refine zH_bt (x := 2) (y := 2) (k := .ge) (c1 := (79, [some (.inr (.inr (some 49))), some (.inr (.inr (some (A)))), some (.inl (s : Int)), some (.inl (pp : Int)), some (.inl 1000000), some (.inl 2), some (.inl (h 20 (zwd s 1 pp)))], [], (zs h hl))) (c2 := (19, [some (.inr (.inr (some 49))), some (.inr (.inr (some (A)))), some (.inl (s : Int)), some (.inl (pp : Int)), some (.inl 1000000), some (.inl 2), some (.inl (h 20 (zwd s 1 pp)))], [], (zs h hl))) rfl ⟨by decide, by decide⟩ ⟨by decide, by decide⟩ (by show ¬ 2 < 2; decide) ?_
        refine zH_go 1 (c' := (81, [some (.inr (.inr (some 49))), some (.inr (.inr (some (A)))), some (.inl (s : Int)), some (.inl (pp : Int)), some (.inl 1000000), some (.inl 2), some (.inl (h 20 (zwd s 1 pp)))], [.inl 1000000], (zs h hl))) rfl ?_
        refine zH_ret (v := some (.inl 1000000)) rfl (fun q => absurd q (by decide)) ?_
        refine ⟨congrArg (fun z => some (Sum.inl z)) ?_, rfl⟩
        unfold zAf
        rw [if_neg (by decide), if_pos rfl]
        omega
      · refine zH_go 3 (c' := (52, [some (.inr (.inr (some 49))), some (.inr (.inr (some (A)))), some (.inl (s : Int)), some (.inl (pp : Int)), some (.inl 1000000), some (.inl 1), some (.inl (h 20 (zwd s 1 pp)))], [.inl (h 20 (zwd s 1 pp)), .inr (.inr (some (A))), .inl 1000000], (zs h hl))) rfl ?_
        refine zH_ial rfl (n := 56) hsh (by omega) (by omega) ?_
        show zH _ _ (53, [some (.inr (.inr (some 49))), some (.inr (.inr (some (A)))), some (.inl (s : Int)), some (.inl (pp : Int)), some (.inl 1000000), some (.inl 1), some (.inl (h 20 (zwd s 1 pp)))], [.inl (h A (Int.toNat (h 20 (zwd s 1 pp)))), .inl 1000000], (zs h hl)) _
        refine zH_go 5 (c' := (61, [some (.inr (.inr (some 49))), some (.inr (.inr (some (A)))), some (.inl (s : Int)), some (.inl (pp : Int)), some (.inl 1000000), some (.inl 1), some (.inl (h 20 (zwd s 1 pp)))], [.inl 1, .inl (s : Int), .inl (pp : Int), .inr (.inr (some 3)), .inl (h A (Int.toNat (h 20 (zwd s 1 pp)))), .inl 1000000], (zs h hl))) rfl ?_
        refine zH_call (M' := 100) (as := [.inl (s : Int), .inl 1]) (T := [.inl (pp : Int), .inr (.inr (some 3)), .inl (h A (Int.toNat (h 20 (zwd s 1 pp)))), .inl 1000000]) rfl (p_digit (n := s) (i := 1) (by omega) (by decide)) (fun r σ' p_8 => ?_)
        obtain ⟨rfl, rfl⟩ := p_8
        show zH _ _ (64, [some (.inr (.inr (some 49))), some (.inr (.inr (some (A)))), some (.inl (s : Int)), some (.inl (pp : Int)), some (.inl 1000000), some (.inl 1), some (.inl (h 20 (zwd s 1 pp)))], [.inl ((zdg s 1 : Nat) : Int), .inl (pp : Int), .inr (.inr (some 3)), .inl (h A (Int.toNat (h 20 (zwd s 1 pp)))), .inl 1000000], (zs h hl)) _
        refine zH_call (M' := 52) (as := [.inr (.inr (some 3)), .inl (pp : Int), .inl ((zdg s 1 : Nat) : Int)]) (T := [.inl (h A (Int.toNat (h 20 (zwd s 1 pp)))), .inl 1000000]) rfl (p_gap (a := pp) (b := zdg s 1) (by omega) (by omega)) (fun r σ' p_9 => ?_)
        obtain ⟨rfl, rfl⟩ := p_9
        show zH _ _ (67, [some (.inr (.inr (some 49))), some (.inr (.inr (some (A)))), some (.inl (s : Int)), some (.inl (pp : Int)), some (.inl 1000000), some (.inl 1), some (.inl (h 20 (zwd s 1 pp)))], [.inl (h (12 + pp) (zdg s 1)), .inl (h A (Int.toNat (h 20 (zwd s 1 pp)))), .inl 1000000], (zs h hl)) _
        refine zH_go 1 (c' := (68, [some (.inr (.inr (some 49))), some (.inr (.inr (some (A)))), some (.inl (s : Int)), some (.inl (pp : Int)), some (.inl 1000000), some (.inl 1), some (.inl (h 20 (zwd s 1 pp)))], [.inl ((h A (Int.toNat (h 20 (zwd s 1 pp)))) + (h (12 + pp) (zdg s 1))), .inl 1000000], (zs h hl))) rfl ?_
        refine zH_np (P := zr 1000000 ∧ zr ((h A (Int.toNat (h 20 (zwd s 1 pp)))) + (h (12 + pp) (zdg s 1)))) (c' := (71, [some (.inr (.inr (some 49))), some (.inr (.inr (some (A)))), some (.inl (s : Int)), some (.inl (pp : Int)), some (.inl 1000000), some (.inl 1), some (.inl (h 20 (zwd s 1 pp)))], [.inl (if ((h A (Int.toNat (h 20 (zwd s 1 pp)))) + (h (12 + pp) (zdg s 1))) < 1000000 then ((h A (Int.toNat (h 20 (zwd s 1 pp)))) + (h (12 + pp) (zdg s 1))) else 1000000)], (zs h hl))) rfl ⟨⟨by decide, by decide⟩, (by first | assumption | (unfold zr; omega))⟩ ?_
        obtain ⟨m_10, em_10, fm_10⟩ := zmin_spec 1000000 ((h A (Int.toNat (h 20 (zwd s 1 pp)))) + (h (12 + pp) (zdg s 1)))
        rw [em_10]
        refine zH_go 7 (c' := (16, [some (.inr (.inr (some 49))), some (.inr (.inr (some (A)))), some (.inl (s : Int)), some (.inl (pp : Int)), some (.inl m_10), some (.inl 2), some (.inl (h 20 (zwd s 1 pp)))], [.inl (h 18 1), .inl 2], (zs h hl))) rfl ?_
        rw [hL]
        refine zH_bt (x := 2) (y := 2) (k := .ge) (c1 := (79, [some (.inr (.inr (some 49))), some (.inr (.inr (some (A)))), some (.inl (s : Int)), some (.inl (pp : Int)), some (.inl m_10), some (.inl 2), some (.inl (h 20 (zwd s 1 pp)))], [], (zs h hl))) (c2 := (19, [some (.inr (.inr (some 49))), some (.inr (.inr (some (A)))), some (.inl (s : Int)), some (.inl (pp : Int)), some (.inl m_10), some (.inl 2), some (.inl (h 20 (zwd s 1 pp)))], [], (zs h hl))) rfl ⟨by decide, by decide⟩ ⟨by decide, by decide⟩ (by show ¬ 2 < 2; decide) ?_
        refine zH_go 1 (c' := (81, [some (.inr (.inr (some 49))), some (.inr (.inr (some (A)))), some (.inl (s : Int)), some (.inl (pp : Int)), some (.inl m_10), some (.inl 2), some (.inl (h 20 (zwd s 1 pp)))], [.inl m_10], (zs h hl))) rfl ?_
        refine zH_ret (v := some (.inl m_10)) rfl (fun q => absurd q (by decide)) ?_
        refine ⟨congrArg (fun z => some (Sum.inl z)) ?_, rfl⟩
        unfold zAf
        rw [if_neg (by decide), if_pos rfl]
        omega
  · refine zH_go 2 (c' := (43, [some (.inr (.inr (some 49))), some (.inr (.inr (some (A)))), some (.inl (s : Int)), some (.inl (pp : Int)), some (.inl 1000000), some (.inl 0), some (.inl (h 20 (zwd s 0 pp)))], [.inr (.inr (some (A))), .inl (h 20 (zwd s 0 pp))], (zs h hl))) rfl ?_
    refine zH_aln rfl (n := 56) (t := 0) hsh (by decide) ?_
    show zH _ _ (44, [some (.inr (.inr (some 49))), some (.inr (.inr (some (A)))), some (.inl (s : Int)), some (.inl (pp : Int)), some (.inl 1000000), some (.inl 0), some (.inl (h 20 (zwd s 0 pp)))], [.inl 56, .inl (h 20 (zwd s 0 pp))], (zs h hl)) _
    refine zH_br (x := (h 20 (zwd s 0 pp))) (y := 56) (k := .ge) (c1 := (73, [some (.inr (.inr (some 49))), some (.inr (.inr (some (A)))), some (.inl (s : Int)), some (.inl (pp : Int)), some (.inl 1000000), some (.inl 0), some (.inl (h 20 (zwd s 0 pp)))], [], (zs h hl))) (c2 := (47, [some (.inr (.inr (some 49))), some (.inr (.inr (some (A)))), some (.inl (s : Int)), some (.inl (pp : Int)), some (.inl 1000000), some (.inl 0), some (.inl (h 20 (zwd s 0 pp)))], [], (zs h hl))) rfl (by first | assumption | (unfold zr; omega)) ⟨by decide, by decide⟩ (fun (b_11 : ¬ (h 20 (zwd s 0 pp)) < 56) => ?_) (fun (b_11 : ¬ (¬ (h 20 (zwd s 0 pp)) < 56)) => ?_)
    · refine zH_go 6 (c' := (16, [some (.inr (.inr (some 49))), some (.inr (.inr (some (A)))), some (.inl (s : Int)), some (.inl (pp : Int)), some (.inl 1000000), some (.inl 1), some (.inl (h 20 (zwd s 0 pp)))], [.inl (h 18 1), .inl 1], (zs h hl))) rfl ?_
      rw [hL]
      refine zH_bf (x := 1) (y := 2) (k := .ge) (c1 := (79, [some (.inr (.inr (some 49))), some (.inr (.inr (some (A)))), some (.inl (s : Int)), some (.inl (pp : Int)), some (.inl 1000000), some (.inl 1), some (.inl (h 20 (zwd s 0 pp)))], [], (zs h hl))) (c2 := (19, [some (.inr (.inr (some 49))), some (.inr (.inr (some (A)))), some (.inl (s : Int)), some (.inl (pp : Int)), some (.inl 1000000), some (.inl 1), some (.inl (h 20 (zwd s 0 pp)))], [], (zs h hl))) rfl ⟨by decide, by decide⟩ ⟨by decide, by decide⟩ (by show ¬ (¬ 1 < 2); decide) ?_
      refine zH_go 5 (c' := (27, [some (.inr (.inr (some 49))), some (.inr (.inr (some (A)))), some (.inl (s : Int)), some (.inl (pp : Int)), some (.inl 1000000), some (.inl 1), some (.inl (h 20 (zwd s 0 pp)))], [.inl (pp : Int), .inl 1, .inl (s : Int), .inr (.inr (some 18))], (zs h hl))) rfl ?_
      refine zH_call (M' := 101) (as := [.inl (s : Int), .inl 1, .inl (pp : Int)]) (T := [.inr (.inr (some 18))]) rfl (p_withDigit (n := s) (i := 1) (v := pp) (by omega) (by decide) (by omega)) (fun r σ' p_12 => ?_)
      obtain ⟨rfl, rfl⟩ := p_12
      show zH _ _ (30, [some (.inr (.inr (some 49))), some (.inr (.inr (some (A)))), some (.inl (s : Int)), some (.inl (pp : Int)), some (.inl 1000000), some (.inl 1), some (.inl (h 20 (zwd s 0 pp)))], [.inl ((zwd s 1 pp : Nat) : Int), .inr (.inr (some 18))], (zs h hl)) _
      refine zH_call (M' := 44) (as := [.inr (.inr (some 18)), .inl ((zwd s 1 pp : Nat) : Int)]) (T := []) rfl (p_slot (n := zwd s 1 pp) (by omega)) (fun r σ' p_13 => ?_)
      obtain ⟨rfl, rfl⟩ := p_13
      show zH _ _ (33, [some (.inr (.inr (some 49))), some (.inr (.inr (some (A)))), some (.inl (s : Int)), some (.inl (pp : Int)), some (.inl 1000000), some (.inl 1), some (.inl (h 20 (zwd s 0 pp)))], [.inl (h 20 (zwd s 1 pp))], (zs h hl)) _
      refine zH_go 2 (c' := (37, [some (.inr (.inr (some 49))), some (.inr (.inr (some (A)))), some (.inl (s : Int)), some (.inl (pp : Int)), some (.inl 1000000), some (.inl 1), some (.inl (h 20 (zwd s 1 pp)))], [.inl (h 20 (zwd s 1 pp))], (zs h hl))) rfl ?_
      refine zH_br (x := (h 20 (zwd s 1 pp))) (y := 0) (k := .lt) (c1 := (73, [some (.inr (.inr (some 49))), some (.inr (.inr (some (A)))), some (.inl (s : Int)), some (.inl (pp : Int)), some (.inl 1000000), some (.inl 1), some (.inl (h 20 (zwd s 1 pp)))], [], (zs h hl))) (c2 := (40, [some (.inr (.inr (some 49))), some (.inr (.inr (some (A)))), some (.inl (s : Int)), some (.inl (pp : Int)), some (.inl 1000000), some (.inl 1), some (.inl (h 20 (zwd s 1 pp)))], [], (zs h hl))) rfl (by first | assumption | (unfold zr; omega)) ⟨by decide, by decide⟩ (fun (b_14 : (h 20 (zwd s 1 pp)) < 0) => ?_) (fun (b_14 : ¬ ((h 20 (zwd s 1 pp)) < 0)) => ?_)
      · refine zH_go 6 (c' := (16, [some (.inr (.inr (some 49))), some (.inr (.inr (some (A)))), some (.inl (s : Int)), some (.inl (pp : Int)), some (.inl 1000000), some (.inl 2), some (.inl (h 20 (zwd s 1 pp)))], [.inl (h 18 1), .inl 2], (zs h hl))) rfl ?_
        rw [hL]
        refine zH_bt (x := 2) (y := 2) (k := .ge) (c1 := (79, [some (.inr (.inr (some 49))), some (.inr (.inr (some (A)))), some (.inl (s : Int)), some (.inl (pp : Int)), some (.inl 1000000), some (.inl 2), some (.inl (h 20 (zwd s 1 pp)))], [], (zs h hl))) (c2 := (19, [some (.inr (.inr (some 49))), some (.inr (.inr (some (A)))), some (.inl (s : Int)), some (.inl (pp : Int)), some (.inl 1000000), some (.inl 2), some (.inl (h 20 (zwd s 1 pp)))], [], (zs h hl))) rfl ⟨by decide, by decide⟩ ⟨by decide, by decide⟩ (by show ¬ 2 < 2; decide) ?_
        refine zH_go 1 (c' := (81, [some (.inr (.inr (some 49))), some (.inr (.inr (some (A)))), some (.inl (s : Int)), some (.inl (pp : Int)), some (.inl 1000000), some (.inl 2), some (.inl (h 20 (zwd s 1 pp)))], [.inl 1000000], (zs h hl))) rfl ?_
        refine zH_ret (v := some (.inl 1000000)) rfl (fun q => absurd q (by decide)) ?_
        refine ⟨congrArg (fun z => some (Sum.inl z)) ?_, rfl⟩
        unfold zAf
        rw [if_neg (by decide), if_pos rfl]
        omega
      · refine zH_go 2 (c' := (43, [some (.inr (.inr (some 49))), some (.inr (.inr (some (A)))), some (.inl (s : Int)), some (.inl (pp : Int)), some (.inl 1000000), some (.inl 1), some (.inl (h 20 (zwd s 1 pp)))], [.inr (.inr (some (A))), .inl (h 20 (zwd s 1 pp))], (zs h hl))) rfl ?_
        refine zH_aln rfl (n := 56) (t := 0) hsh (by decide) ?_
        show zH _ _ (44, [some (.inr (.inr (some 49))), some (.inr (.inr (some (A)))), some (.inl (s : Int)), some (.inl (pp : Int)), some (.inl 1000000), some (.inl 1), some (.inl (h 20 (zwd s 1 pp)))], [.inl 56, .inl (h 20 (zwd s 1 pp))], (zs h hl)) _
        refine zH_br (x := (h 20 (zwd s 1 pp))) (y := 56) (k := .ge) (c1 := (73, [some (.inr (.inr (some 49))), some (.inr (.inr (some (A)))), some (.inl (s : Int)), some (.inl (pp : Int)), some (.inl 1000000), some (.inl 1), some (.inl (h 20 (zwd s 1 pp)))], [], (zs h hl))) (c2 := (47, [some (.inr (.inr (some 49))), some (.inr (.inr (some (A)))), some (.inl (s : Int)), some (.inl (pp : Int)), some (.inl 1000000), some (.inl 1), some (.inl (h 20 (zwd s 1 pp)))], [], (zs h hl))) rfl (by first | assumption | (unfold zr; omega)) ⟨by decide, by decide⟩ (fun (b_15 : ¬ (h 20 (zwd s 1 pp)) < 56) => ?_) (fun (b_15 : ¬ (¬ (h 20 (zwd s 1 pp)) < 56)) => ?_)
        · refine zH_go 6 (c' := (16, [some (.inr (.inr (some 49))), some (.inr (.inr (some (A)))), some (.inl (s : Int)), some (.inl (pp : Int)), some (.inl 1000000), some (.inl 2), some (.inl (h 20 (zwd s 1 pp)))], [.inl (h 18 1), .inl 2], (zs h hl))) rfl ?_
          rw [hL]
          refine zH_bt (x := 2) (y := 2) (k := .ge) (c1 := (79, [some (.inr (.inr (some 49))), some (.inr (.inr (some (A)))), some (.inl (s : Int)), some (.inl (pp : Int)), some (.inl 1000000), some (.inl 2), some (.inl (h 20 (zwd s 1 pp)))], [], (zs h hl))) (c2 := (19, [some (.inr (.inr (some 49))), some (.inr (.inr (some (A)))), some (.inl (s : Int)), some (.inl (pp : Int)), some (.inl 1000000), some (.inl 2), some (.inl (h 20 (zwd s 1 pp)))], [], (zs h hl))) rfl ⟨by decide, by decide⟩ ⟨by decide, by decide⟩ (by show ¬ 2 < 2; decide) ?_
          refine zH_go 1 (c' := (81, [some (.inr (.inr (some 49))), some (.inr (.inr (some (A)))), some (.inl (s : Int)), some (.inl (pp : Int)), some (.inl 1000000), some (.inl 2), some (.inl (h 20 (zwd s 1 pp)))], [.inl 1000000], (zs h hl))) rfl ?_
          refine zH_ret (v := some (.inl 1000000)) rfl (fun q => absurd q (by decide)) ?_
          refine ⟨congrArg (fun z => some (Sum.inl z)) ?_, rfl⟩
          unfold zAf
          rw [if_neg (by decide), if_pos rfl]
          omega
        · refine zH_go 3 (c' := (52, [some (.inr (.inr (some 49))), some (.inr (.inr (some (A)))), some (.inl (s : Int)), some (.inl (pp : Int)), some (.inl 1000000), some (.inl 1), some (.inl (h 20 (zwd s 1 pp)))], [.inl (h 20 (zwd s 1 pp)), .inr (.inr (some (A))), .inl 1000000], (zs h hl))) rfl ?_
          refine zH_ial rfl (n := 56) hsh (by omega) (by omega) ?_
          show zH _ _ (53, [some (.inr (.inr (some 49))), some (.inr (.inr (some (A)))), some (.inl (s : Int)), some (.inl (pp : Int)), some (.inl 1000000), some (.inl 1), some (.inl (h 20 (zwd s 1 pp)))], [.inl (h A (Int.toNat (h 20 (zwd s 1 pp)))), .inl 1000000], (zs h hl)) _
          refine zH_go 5 (c' := (61, [some (.inr (.inr (some 49))), some (.inr (.inr (some (A)))), some (.inl (s : Int)), some (.inl (pp : Int)), some (.inl 1000000), some (.inl 1), some (.inl (h 20 (zwd s 1 pp)))], [.inl 1, .inl (s : Int), .inl (pp : Int), .inr (.inr (some 3)), .inl (h A (Int.toNat (h 20 (zwd s 1 pp)))), .inl 1000000], (zs h hl))) rfl ?_
          refine zH_call (M' := 100) (as := [.inl (s : Int), .inl 1]) (T := [.inl (pp : Int), .inr (.inr (some 3)), .inl (h A (Int.toNat (h 20 (zwd s 1 pp)))), .inl 1000000]) rfl (p_digit (n := s) (i := 1) (by omega) (by decide)) (fun r σ' p_16 => ?_)
          obtain ⟨rfl, rfl⟩ := p_16
          show zH _ _ (64, [some (.inr (.inr (some 49))), some (.inr (.inr (some (A)))), some (.inl (s : Int)), some (.inl (pp : Int)), some (.inl 1000000), some (.inl 1), some (.inl (h 20 (zwd s 1 pp)))], [.inl ((zdg s 1 : Nat) : Int), .inl (pp : Int), .inr (.inr (some 3)), .inl (h A (Int.toNat (h 20 (zwd s 1 pp)))), .inl 1000000], (zs h hl)) _
          refine zH_call (M' := 52) (as := [.inr (.inr (some 3)), .inl (pp : Int), .inl ((zdg s 1 : Nat) : Int)]) (T := [.inl (h A (Int.toNat (h 20 (zwd s 1 pp)))), .inl 1000000]) rfl (p_gap (a := pp) (b := zdg s 1) (by omega) (by omega)) (fun r σ' p_17 => ?_)
          obtain ⟨rfl, rfl⟩ := p_17
          show zH _ _ (67, [some (.inr (.inr (some 49))), some (.inr (.inr (some (A)))), some (.inl (s : Int)), some (.inl (pp : Int)), some (.inl 1000000), some (.inl 1), some (.inl (h 20 (zwd s 1 pp)))], [.inl (h (12 + pp) (zdg s 1)), .inl (h A (Int.toNat (h 20 (zwd s 1 pp)))), .inl 1000000], (zs h hl)) _
          refine zH_go 1 (c' := (68, [some (.inr (.inr (some 49))), some (.inr (.inr (some (A)))), some (.inl (s : Int)), some (.inl (pp : Int)), some (.inl 1000000), some (.inl 1), some (.inl (h 20 (zwd s 1 pp)))], [.inl ((h A (Int.toNat (h 20 (zwd s 1 pp)))) + (h (12 + pp) (zdg s 1))), .inl 1000000], (zs h hl))) rfl ?_
          refine zH_np (P := zr 1000000 ∧ zr ((h A (Int.toNat (h 20 (zwd s 1 pp)))) + (h (12 + pp) (zdg s 1)))) (c' := (71, [some (.inr (.inr (some 49))), some (.inr (.inr (some (A)))), some (.inl (s : Int)), some (.inl (pp : Int)), some (.inl 1000000), some (.inl 1), some (.inl (h 20 (zwd s 1 pp)))], [.inl (if ((h A (Int.toNat (h 20 (zwd s 1 pp)))) + (h (12 + pp) (zdg s 1))) < 1000000 then ((h A (Int.toNat (h 20 (zwd s 1 pp)))) + (h (12 + pp) (zdg s 1))) else 1000000)], (zs h hl))) rfl ⟨⟨by decide, by decide⟩, (by first | assumption | (unfold zr; omega))⟩ ?_
          obtain ⟨m_18, em_18, fm_18⟩ := zmin_spec 1000000 ((h A (Int.toNat (h 20 (zwd s 1 pp)))) + (h (12 + pp) (zdg s 1)))
          rw [em_18]
          refine zH_go 7 (c' := (16, [some (.inr (.inr (some 49))), some (.inr (.inr (some (A)))), some (.inl (s : Int)), some (.inl (pp : Int)), some (.inl m_18), some (.inl 2), some (.inl (h 20 (zwd s 1 pp)))], [.inl (h 18 1), .inl 2], (zs h hl))) rfl ?_
          rw [hL]
          refine zH_bt (x := 2) (y := 2) (k := .ge) (c1 := (79, [some (.inr (.inr (some 49))), some (.inr (.inr (some (A)))), some (.inl (s : Int)), some (.inl (pp : Int)), some (.inl m_18), some (.inl 2), some (.inl (h 20 (zwd s 1 pp)))], [], (zs h hl))) (c2 := (19, [some (.inr (.inr (some 49))), some (.inr (.inr (some (A)))), some (.inl (s : Int)), some (.inl (pp : Int)), some (.inl m_18), some (.inl 2), some (.inl (h 20 (zwd s 1 pp)))], [], (zs h hl))) rfl ⟨by decide, by decide⟩ ⟨by decide, by decide⟩ (by show ¬ 2 < 2; decide) ?_
          refine zH_go 1 (c' := (81, [some (.inr (.inr (some 49))), some (.inr (.inr (some (A)))), some (.inl (s : Int)), some (.inl (pp : Int)), some (.inl m_18), some (.inl 2), some (.inl (h 20 (zwd s 1 pp)))], [.inl m_18], (zs h hl))) rfl ?_
          refine zH_ret (v := some (.inl m_18)) rfl (fun q => absurd q (by decide)) ?_
          refine ⟨congrArg (fun z => some (Sum.inl z)) ?_, rfl⟩
          unfold zAf
          rw [if_neg (by decide), if_pos rfl]
          omega
    · refine zH_go 3 (c' := (52, [some (.inr (.inr (some 49))), some (.inr (.inr (some (A)))), some (.inl (s : Int)), some (.inl (pp : Int)), some (.inl 1000000), some (.inl 0), some (.inl (h 20 (zwd s 0 pp)))], [.inl (h 20 (zwd s 0 pp)), .inr (.inr (some (A))), .inl 1000000], (zs h hl))) rfl ?_
      refine zH_ial rfl (n := 56) hsh (by omega) (by omega) ?_
      show zH _ _ (53, [some (.inr (.inr (some 49))), some (.inr (.inr (some (A)))), some (.inl (s : Int)), some (.inl (pp : Int)), some (.inl 1000000), some (.inl 0), some (.inl (h 20 (zwd s 0 pp)))], [.inl (h A (Int.toNat (h 20 (zwd s 0 pp)))), .inl 1000000], (zs h hl)) _
      refine zH_go 5 (c' := (61, [some (.inr (.inr (some 49))), some (.inr (.inr (some (A)))), some (.inl (s : Int)), some (.inl (pp : Int)), some (.inl 1000000), some (.inl 0), some (.inl (h 20 (zwd s 0 pp)))], [.inl 0, .inl (s : Int), .inl (pp : Int), .inr (.inr (some 3)), .inl (h A (Int.toNat (h 20 (zwd s 0 pp)))), .inl 1000000], (zs h hl))) rfl ?_
      refine zH_call (M' := 100) (as := [.inl (s : Int), .inl 0]) (T := [.inl (pp : Int), .inr (.inr (some 3)), .inl (h A (Int.toNat (h 20 (zwd s 0 pp)))), .inl 1000000]) rfl (p_digit (n := s) (i := 0) (by omega) (by decide)) (fun r σ' p_19 => ?_)
      obtain ⟨rfl, rfl⟩ := p_19
      show zH _ _ (64, [some (.inr (.inr (some 49))), some (.inr (.inr (some (A)))), some (.inl (s : Int)), some (.inl (pp : Int)), some (.inl 1000000), some (.inl 0), some (.inl (h 20 (zwd s 0 pp)))], [.inl ((zdg s 0 : Nat) : Int), .inl (pp : Int), .inr (.inr (some 3)), .inl (h A (Int.toNat (h 20 (zwd s 0 pp)))), .inl 1000000], (zs h hl)) _
      refine zH_call (M' := 52) (as := [.inr (.inr (some 3)), .inl (pp : Int), .inl ((zdg s 0 : Nat) : Int)]) (T := [.inl (h A (Int.toNat (h 20 (zwd s 0 pp)))), .inl 1000000]) rfl (p_gap (a := pp) (b := zdg s 0) (by omega) (by omega)) (fun r σ' p_20 => ?_)
      obtain ⟨rfl, rfl⟩ := p_20
      show zH _ _ (67, [some (.inr (.inr (some 49))), some (.inr (.inr (some (A)))), some (.inl (s : Int)), some (.inl (pp : Int)), some (.inl 1000000), some (.inl 0), some (.inl (h 20 (zwd s 0 pp)))], [.inl (h (12 + pp) (zdg s 0)), .inl (h A (Int.toNat (h 20 (zwd s 0 pp)))), .inl 1000000], (zs h hl)) _
      refine zH_go 1 (c' := (68, [some (.inr (.inr (some 49))), some (.inr (.inr (some (A)))), some (.inl (s : Int)), some (.inl (pp : Int)), some (.inl 1000000), some (.inl 0), some (.inl (h 20 (zwd s 0 pp)))], [.inl ((h A (Int.toNat (h 20 (zwd s 0 pp)))) + (h (12 + pp) (zdg s 0))), .inl 1000000], (zs h hl))) rfl ?_
      refine zH_np (P := zr 1000000 ∧ zr ((h A (Int.toNat (h 20 (zwd s 0 pp)))) + (h (12 + pp) (zdg s 0)))) (c' := (71, [some (.inr (.inr (some 49))), some (.inr (.inr (some (A)))), some (.inl (s : Int)), some (.inl (pp : Int)), some (.inl 1000000), some (.inl 0), some (.inl (h 20 (zwd s 0 pp)))], [.inl (if ((h A (Int.toNat (h 20 (zwd s 0 pp)))) + (h (12 + pp) (zdg s 0))) < 1000000 then ((h A (Int.toNat (h 20 (zwd s 0 pp)))) + (h (12 + pp) (zdg s 0))) else 1000000)], (zs h hl))) rfl ⟨⟨by decide, by decide⟩, (by first | assumption | (unfold zr; omega))⟩ ?_
      obtain ⟨m_21, em_21, fm_21⟩ := zmin_spec 1000000 ((h A (Int.toNat (h 20 (zwd s 0 pp)))) + (h (12 + pp) (zdg s 0)))
      rw [em_21]
      refine zH_go 7 (c' := (16, [some (.inr (.inr (some 49))), some (.inr (.inr (some (A)))), some (.inl (s : Int)), some (.inl (pp : Int)), some (.inl m_21), some (.inl 1), some (.inl (h 20 (zwd s 0 pp)))], [.inl (h 18 1), .inl 1], (zs h hl))) rfl ?_
      rw [hL]
      refine zH_bf (x := 1) (y := 2) (k := .ge) (c1 := (79, [some (.inr (.inr (some 49))), some (.inr (.inr (some (A)))), some (.inl (s : Int)), some (.inl (pp : Int)), some (.inl m_21), some (.inl 1), some (.inl (h 20 (zwd s 0 pp)))], [], (zs h hl))) (c2 := (19, [some (.inr (.inr (some 49))), some (.inr (.inr (some (A)))), some (.inl (s : Int)), some (.inl (pp : Int)), some (.inl m_21), some (.inl 1), some (.inl (h 20 (zwd s 0 pp)))], [], (zs h hl))) rfl ⟨by decide, by decide⟩ ⟨by decide, by decide⟩ (by show ¬ (¬ 1 < 2); decide) ?_
      refine zH_go 5 (c' := (27, [some (.inr (.inr (some 49))), some (.inr (.inr (some (A)))), some (.inl (s : Int)), some (.inl (pp : Int)), some (.inl m_21), some (.inl 1), some (.inl (h 20 (zwd s 0 pp)))], [.inl (pp : Int), .inl 1, .inl (s : Int), .inr (.inr (some 18))], (zs h hl))) rfl ?_
      refine zH_call (M' := 101) (as := [.inl (s : Int), .inl 1, .inl (pp : Int)]) (T := [.inr (.inr (some 18))]) rfl (p_withDigit (n := s) (i := 1) (v := pp) (by omega) (by decide) (by omega)) (fun r σ' p_22 => ?_)
      obtain ⟨rfl, rfl⟩ := p_22
      show zH _ _ (30, [some (.inr (.inr (some 49))), some (.inr (.inr (some (A)))), some (.inl (s : Int)), some (.inl (pp : Int)), some (.inl m_21), some (.inl 1), some (.inl (h 20 (zwd s 0 pp)))], [.inl ((zwd s 1 pp : Nat) : Int), .inr (.inr (some 18))], (zs h hl)) _
      refine zH_call (M' := 44) (as := [.inr (.inr (some 18)), .inl ((zwd s 1 pp : Nat) : Int)]) (T := []) rfl (p_slot (n := zwd s 1 pp) (by omega)) (fun r σ' p_23 => ?_)
      obtain ⟨rfl, rfl⟩ := p_23
      show zH _ _ (33, [some (.inr (.inr (some 49))), some (.inr (.inr (some (A)))), some (.inl (s : Int)), some (.inl (pp : Int)), some (.inl m_21), some (.inl 1), some (.inl (h 20 (zwd s 0 pp)))], [.inl (h 20 (zwd s 1 pp))], (zs h hl)) _
      refine zH_go 2 (c' := (37, [some (.inr (.inr (some 49))), some (.inr (.inr (some (A)))), some (.inl (s : Int)), some (.inl (pp : Int)), some (.inl m_21), some (.inl 1), some (.inl (h 20 (zwd s 1 pp)))], [.inl (h 20 (zwd s 1 pp))], (zs h hl))) rfl ?_
      refine zH_br (x := (h 20 (zwd s 1 pp))) (y := 0) (k := .lt) (c1 := (73, [some (.inr (.inr (some 49))), some (.inr (.inr (some (A)))), some (.inl (s : Int)), some (.inl (pp : Int)), some (.inl m_21), some (.inl 1), some (.inl (h 20 (zwd s 1 pp)))], [], (zs h hl))) (c2 := (40, [some (.inr (.inr (some 49))), some (.inr (.inr (some (A)))), some (.inl (s : Int)), some (.inl (pp : Int)), some (.inl m_21), some (.inl 1), some (.inl (h 20 (zwd s 1 pp)))], [], (zs h hl))) rfl (by first | assumption | (unfold zr; omega)) ⟨by decide, by decide⟩ (fun (b_24 : (h 20 (zwd s 1 pp)) < 0) => ?_) (fun (b_24 : ¬ ((h 20 (zwd s 1 pp)) < 0)) => ?_)
      · refine zH_go 6 (c' := (16, [some (.inr (.inr (some 49))), some (.inr (.inr (some (A)))), some (.inl (s : Int)), some (.inl (pp : Int)), some (.inl m_21), some (.inl 2), some (.inl (h 20 (zwd s 1 pp)))], [.inl (h 18 1), .inl 2], (zs h hl))) rfl ?_
        rw [hL]
        refine zH_bt (x := 2) (y := 2) (k := .ge) (c1 := (79, [some (.inr (.inr (some 49))), some (.inr (.inr (some (A)))), some (.inl (s : Int)), some (.inl (pp : Int)), some (.inl m_21), some (.inl 2), some (.inl (h 20 (zwd s 1 pp)))], [], (zs h hl))) (c2 := (19, [some (.inr (.inr (some 49))), some (.inr (.inr (some (A)))), some (.inl (s : Int)), some (.inl (pp : Int)), some (.inl m_21), some (.inl 2), some (.inl (h 20 (zwd s 1 pp)))], [], (zs h hl))) rfl ⟨by decide, by decide⟩ ⟨by decide, by decide⟩ (by show ¬ 2 < 2; decide) ?_
        refine zH_go 1 (c' := (81, [some (.inr (.inr (some 49))), some (.inr (.inr (some (A)))), some (.inl (s : Int)), some (.inl (pp : Int)), some (.inl m_21), some (.inl 2), some (.inl (h 20 (zwd s 1 pp)))], [.inl m_21], (zs h hl))) rfl ?_
        refine zH_ret (v := some (.inl m_21)) rfl (fun q => absurd q (by decide)) ?_
        refine ⟨congrArg (fun z => some (Sum.inl z)) ?_, rfl⟩
        unfold zAf
        rw [if_neg (by decide), if_pos rfl]
        omega
      · refine zH_go 2 (c' := (43, [some (.inr (.inr (some 49))), some (.inr (.inr (some (A)))), some (.inl (s : Int)), some (.inl (pp : Int)), some (.inl m_21), some (.inl 1), some (.inl (h 20 (zwd s 1 pp)))], [.inr (.inr (some (A))), .inl (h 20 (zwd s 1 pp))], (zs h hl))) rfl ?_
        refine zH_aln rfl (n := 56) (t := 0) hsh (by decide) ?_
        show zH _ _ (44, [some (.inr (.inr (some 49))), some (.inr (.inr (some (A)))), some (.inl (s : Int)), some (.inl (pp : Int)), some (.inl m_21), some (.inl 1), some (.inl (h 20 (zwd s 1 pp)))], [.inl 56, .inl (h 20 (zwd s 1 pp))], (zs h hl)) _
        refine zH_br (x := (h 20 (zwd s 1 pp))) (y := 56) (k := .ge) (c1 := (73, [some (.inr (.inr (some 49))), some (.inr (.inr (some (A)))), some (.inl (s : Int)), some (.inl (pp : Int)), some (.inl m_21), some (.inl 1), some (.inl (h 20 (zwd s 1 pp)))], [], (zs h hl))) (c2 := (47, [some (.inr (.inr (some 49))), some (.inr (.inr (some (A)))), some (.inl (s : Int)), some (.inl (pp : Int)), some (.inl m_21), some (.inl 1), some (.inl (h 20 (zwd s 1 pp)))], [], (zs h hl))) rfl (by first | assumption | (unfold zr; omega)) ⟨by decide, by decide⟩ (fun (b_25 : ¬ (h 20 (zwd s 1 pp)) < 56) => ?_) (fun (b_25 : ¬ (¬ (h 20 (zwd s 1 pp)) < 56)) => ?_)
        · refine zH_go 6 (c' := (16, [some (.inr (.inr (some 49))), some (.inr (.inr (some (A)))), some (.inl (s : Int)), some (.inl (pp : Int)), some (.inl m_21), some (.inl 2), some (.inl (h 20 (zwd s 1 pp)))], [.inl (h 18 1), .inl 2], (zs h hl))) rfl ?_
          rw [hL]
          refine zH_bt (x := 2) (y := 2) (k := .ge) (c1 := (79, [some (.inr (.inr (some 49))), some (.inr (.inr (some (A)))), some (.inl (s : Int)), some (.inl (pp : Int)), some (.inl m_21), some (.inl 2), some (.inl (h 20 (zwd s 1 pp)))], [], (zs h hl))) (c2 := (19, [some (.inr (.inr (some 49))), some (.inr (.inr (some (A)))), some (.inl (s : Int)), some (.inl (pp : Int)), some (.inl m_21), some (.inl 2), some (.inl (h 20 (zwd s 1 pp)))], [], (zs h hl))) rfl ⟨by decide, by decide⟩ ⟨by decide, by decide⟩ (by show ¬ 2 < 2; decide) ?_
          refine zH_go 1 (c' := (81, [some (.inr (.inr (some 49))), some (.inr (.inr (some (A)))), some (.inl (s : Int)), some (.inl (pp : Int)), some (.inl m_21), some (.inl 2), some (.inl (h 20 (zwd s 1 pp)))], [.inl m_21], (zs h hl))) rfl ?_
          refine zH_ret (v := some (.inl m_21)) rfl (fun q => absurd q (by decide)) ?_
          refine ⟨congrArg (fun z => some (Sum.inl z)) ?_, rfl⟩
          unfold zAf
          rw [if_neg (by decide), if_pos rfl]
          omega
        · refine zH_go 3 (c' := (52, [some (.inr (.inr (some 49))), some (.inr (.inr (some (A)))), some (.inl (s : Int)), some (.inl (pp : Int)), some (.inl m_21), some (.inl 1), some (.inl (h 20 (zwd s 1 pp)))], [.inl (h 20 (zwd s 1 pp)), .inr (.inr (some (A))), .inl m_21], (zs h hl))) rfl ?_
          refine zH_ial rfl (n := 56) hsh (by omega) (by omega) ?_
          show zH _ _ (53, [some (.inr (.inr (some 49))), some (.inr (.inr (some (A)))), some (.inl (s : Int)), some (.inl (pp : Int)), some (.inl m_21), some (.inl 1), some (.inl (h 20 (zwd s 1 pp)))], [.inl (h A (Int.toNat (h 20 (zwd s 1 pp)))), .inl m_21], (zs h hl)) _
          refine zH_go 5 (c' := (61, [some (.inr (.inr (some 49))), some (.inr (.inr (some (A)))), some (.inl (s : Int)), some (.inl (pp : Int)), some (.inl m_21), some (.inl 1), some (.inl (h 20 (zwd s 1 pp)))], [.inl 1, .inl (s : Int), .inl (pp : Int), .inr (.inr (some 3)), .inl (h A (Int.toNat (h 20 (zwd s 1 pp)))), .inl m_21], (zs h hl))) rfl ?_
          refine zH_call (M' := 100) (as := [.inl (s : Int), .inl 1]) (T := [.inl (pp : Int), .inr (.inr (some 3)), .inl (h A (Int.toNat (h 20 (zwd s 1 pp)))), .inl m_21]) rfl (p_digit (n := s) (i := 1) (by omega) (by decide)) (fun r σ' p_26 => ?_)
          obtain ⟨rfl, rfl⟩ := p_26
          show zH _ _ (64, [some (.inr (.inr (some 49))), some (.inr (.inr (some (A)))), some (.inl (s : Int)), some (.inl (pp : Int)), some (.inl m_21), some (.inl 1), some (.inl (h 20 (zwd s 1 pp)))], [.inl ((zdg s 1 : Nat) : Int), .inl (pp : Int), .inr (.inr (some 3)), .inl (h A (Int.toNat (h 20 (zwd s 1 pp)))), .inl m_21], (zs h hl)) _
          refine zH_call (M' := 52) (as := [.inr (.inr (some 3)), .inl (pp : Int), .inl ((zdg s 1 : Nat) : Int)]) (T := [.inl (h A (Int.toNat (h 20 (zwd s 1 pp)))), .inl m_21]) rfl (p_gap (a := pp) (b := zdg s 1) (by omega) (by omega)) (fun r σ' p_27 => ?_)
          obtain ⟨rfl, rfl⟩ := p_27
          show zH _ _ (67, [some (.inr (.inr (some 49))), some (.inr (.inr (some (A)))), some (.inl (s : Int)), some (.inl (pp : Int)), some (.inl m_21), some (.inl 1), some (.inl (h 20 (zwd s 1 pp)))], [.inl (h (12 + pp) (zdg s 1)), .inl (h A (Int.toNat (h 20 (zwd s 1 pp)))), .inl m_21], (zs h hl)) _
          refine zH_go 1 (c' := (68, [some (.inr (.inr (some 49))), some (.inr (.inr (some (A)))), some (.inl (s : Int)), some (.inl (pp : Int)), some (.inl m_21), some (.inl 1), some (.inl (h 20 (zwd s 1 pp)))], [.inl ((h A (Int.toNat (h 20 (zwd s 1 pp)))) + (h (12 + pp) (zdg s 1))), .inl m_21], (zs h hl))) rfl ?_
          refine zH_np (P := zr m_21 ∧ zr ((h A (Int.toNat (h 20 (zwd s 1 pp)))) + (h (12 + pp) (zdg s 1)))) (c' := (71, [some (.inr (.inr (some 49))), some (.inr (.inr (some (A)))), some (.inl (s : Int)), some (.inl (pp : Int)), some (.inl m_21), some (.inl 1), some (.inl (h 20 (zwd s 1 pp)))], [.inl (if ((h A (Int.toNat (h 20 (zwd s 1 pp)))) + (h (12 + pp) (zdg s 1))) < m_21 then ((h A (Int.toNat (h 20 (zwd s 1 pp)))) + (h (12 + pp) (zdg s 1))) else m_21)], (zs h hl))) rfl ⟨(by first | assumption | (unfold zr; omega)), (by first | assumption | (unfold zr; omega))⟩ ?_
          obtain ⟨m_28, em_28, fm_28⟩ := zmin_spec m_21 ((h A (Int.toNat (h 20 (zwd s 1 pp)))) + (h (12 + pp) (zdg s 1)))
          rw [em_28]
          refine zH_go 7 (c' := (16, [some (.inr (.inr (some 49))), some (.inr (.inr (some (A)))), some (.inl (s : Int)), some (.inl (pp : Int)), some (.inl m_28), some (.inl 2), some (.inl (h 20 (zwd s 1 pp)))], [.inl (h 18 1), .inl 2], (zs h hl))) rfl ?_
          rw [hL]
          refine zH_bt (x := 2) (y := 2) (k := .ge) (c1 := (79, [some (.inr (.inr (some 49))), some (.inr (.inr (some (A)))), some (.inl (s : Int)), some (.inl (pp : Int)), some (.inl m_28), some (.inl 2), some (.inl (h 20 (zwd s 1 pp)))], [], (zs h hl))) (c2 := (19, [some (.inr (.inr (some 49))), some (.inr (.inr (some (A)))), some (.inl (s : Int)), some (.inl (pp : Int)), some (.inl m_28), some (.inl 2), some (.inl (h 20 (zwd s 1 pp)))], [], (zs h hl))) rfl ⟨by decide, by decide⟩ ⟨by decide, by decide⟩ (by show ¬ 2 < 2; decide) ?_
          refine zH_go 1 (c' := (81, [some (.inr (.inr (some 49))), some (.inr (.inr (some (A)))), some (.inl (s : Int)), some (.inl (pp : Int)), some (.inl m_28), some (.inl 2), some (.inl (h 20 (zwd s 1 pp)))], [.inl m_28], (zs h hl))) rfl ?_
          refine zH_ret (v := some (.inl m_28)) rfl (fun q => absurd q (by decide)) ?_
          refine ⟨congrArg (fun z => some (Sum.inl z)) ?_, rfl⟩
          unfold zAf
          rw [if_neg (by decide), if_pos rfl]
          omega
set_option maxRecDepth 100000 in
set_option maxHeartbeats 4000000 in
theorem p_afT3 {d : Nat} {h hl : Nat → Nat → Int} {A p s pp : Nat} (hS : zSI h p 3) (hs : zSb p 3 s = true) (hp : pp < p) (hsh : zSh A = .inr (0, 56) ∧ 2 ≤ A ∧ A < 127) (hA : ∀ k : Nat, (k : Int) < h 18 2 → 0 ≤ h A k ∧ h A k ≤ 100000) (hB : zTB h) (hD : ∀ i j : Nat, i < p → j < p → h (12 + i) j ≤ 1500) : zQ (d + 2) 58 [.inr (.inr (some 49)), .inr (.inr (some (A))), .inl (s : Int), .inl (pp : Int)] (zs h hl) (zI1 (zAf h 3 A s pp) (zs h hl)) := by
  obtain ⟨hL3, hp6, hL, hs2, hsl, -, -⟩ := hS
  have hn := zSb_lt hL3.2 hs
  have w0 := zSb_wd hp6 hL3.2 hs (by decide : 0 < 3) hp
  have wl0 := zSb_lt hL3.2 w0
  have sl0 := hsl _ wl0 w0
  have dg0 := zSb_dg hs (by decide : 0 < 3)
  have r0 := hA (Int.toNat (h 20 (zwd s 0 pp))) (by omega)
  have dd0 := hB pp (zdg s 0) (by omega) (by omega)
  have ds0 := hD pp (zdg s 0) hp dg0
  have w1 := zSb_wd hp6 hL3.2 hs (by decide : 1 < 3) hp
  have wl1 := zSb_lt hL3.2 w1
  have sl1 := hsl _ wl1 w1
  have dg1 := zSb_dg hs (by decide : 1 < 3)
  have r1 := hA (Int.toNat (h 20 (zwd s 1 pp))) (by omega)
  have dd1 := hB pp (zdg s 1) (by omega) (by omega)
  have ds1 := hD pp (zdg s 1) hp dg1
  have w2 := zSb_wd hp6 hL3.2 hs (by decide : 2 < 3) hp
  have wl2 := zSb_lt hL3.2 w2
  have sl2 := hsl _ wl2 w2
  have dg2 := zSb_dg hs (by decide : 2 < 3)
  have r2 := hA (Int.toNat (h 20 (zwd s 2 pp))) (by omega)
  have dd2 := hB pp (zdg s 2) (by omega) (by omega)
  have ds2 := hD pp (zdg s 2) hp dg2
  refine zQ_of (Nat.le_of_ble_eq_true rfl) ?_
  show zH (d + 1) 58 (0, [some (.inr (.inr (some 49))), some (.inr (.inr (some (A)))), some (.inl (s : Int)), some (.inl (pp : Int)), none, none, none], [], (zs h hl)) _
  refine zH_go 8 (c' := (16, [some (.inr (.inr (some 49))), some (.inr (.inr (some (A)))), some (.inl (s : Int)), some (.inl (pp : Int)), some (.inl 1000000), some (.inl 0), none], [.inl (h 18 1), .inl 0], (zs h hl))) rfl ?_
  rw [hL]
  refine zH_bf (x := 0) (y := 3) (k := .ge) (c1 := (79, [some (.inr (.inr (some 49))), some (.inr (.inr (some (A)))), some (.inl (s : Int)), some (.inl (pp : Int)), some (.inl 1000000), some (.inl 0), none], [], (zs h hl))) (c2 := (19, [some (.inr (.inr (some 49))), some (.inr (.inr (some (A)))), some (.inl (s : Int)), some (.inl (pp : Int)), some (.inl 1000000), some (.inl 0), none], [], (zs h hl))) rfl ⟨by decide, by decide⟩ ⟨by decide, by decide⟩ (by show ¬ (¬ 0 < 3); decide) ?_
  refine zH_go 5 (c' := (27, [some (.inr (.inr (some 49))), some (.inr (.inr (some (A)))), some (.inl (s : Int)), some (.inl (pp : Int)), some (.inl 1000000), some (.inl 0), none], [.inl (pp : Int), .inl 0, .inl (s : Int), .inr (.inr (some 18))], (zs h hl))) rfl ?_
  refine zH_call (M' := 101) (as := [.inl (s : Int), .inl 0, .inl (pp : Int)]) (T := [.inr (.inr (some 18))]) rfl (p_withDigit (n := s) (i := 0) (v := pp) (by omega) (by decide) (by omega)) (fun r σ' p_1 => ?_)
  obtain ⟨rfl, rfl⟩ := p_1
  show zH _ _ (30, [some (.inr (.inr (some 49))), some (.inr (.inr (some (A)))), some (.inl (s : Int)), some (.inl (pp : Int)), some (.inl 1000000), some (.inl 0), none], [.inl ((zwd s 0 pp : Nat) : Int), .inr (.inr (some 18))], (zs h hl)) _
  refine zH_call (M' := 44) (as := [.inr (.inr (some 18)), .inl ((zwd s 0 pp : Nat) : Int)]) (T := []) rfl (p_slot (n := zwd s 0 pp) (by omega)) (fun r σ' p_2 => ?_)
  obtain ⟨rfl, rfl⟩ := p_2
  show zH _ _ (33, [some (.inr (.inr (some 49))), some (.inr (.inr (some (A)))), some (.inl (s : Int)), some (.inl (pp : Int)), some (.inl 1000000), some (.inl 0), none], [.inl (h 20 (zwd s 0 pp))], (zs h hl)) _
  refine zH_go 2 (c' := (37, [some (.inr (.inr (some 49))), some (.inr (.inr (some (A)))), some (.inl (s : Int)), some (.inl (pp : Int)), some (.inl 1000000), some (.inl 0), some (.inl (h 20 (zwd s 0 pp)))], [.inl (h 20 (zwd s 0 pp))], (zs h hl))) rfl ?_
  refine zH_br (x := (h 20 (zwd s 0 pp))) (y := 0) (k := .lt) (c1 := (73, [some (.inr (.inr (some 49))), some (.inr (.inr (some (A)))), some (.inl (s : Int)), some (.inl (pp : Int)), some (.inl 1000000), some (.inl 0), some (.inl (h 20 (zwd s 0 pp)))], [], (zs h hl))) (c2 := (40, [some (.inr (.inr (some 49))), some (.inr (.inr (some (A)))), some (.inl (s : Int)), some (.inl (pp : Int)), some (.inl 1000000), some (.inl 0), some (.inl (h 20 (zwd s 0 pp)))], [], (zs h hl))) rfl (by first | assumption | (unfold zr; omega)) ⟨by decide, by decide⟩ (fun (b_3 : (h 20 (zwd s 0 pp)) < 0) => ?_) (fun (b_3 : ¬ ((h 20 (zwd s 0 pp)) < 0)) => ?_)
  · refine zH_go 6 (c' := (16, [some (.inr (.inr (some 49))), some (.inr (.inr (some (A)))), some (.inl (s : Int)), some (.inl (pp : Int)), some (.inl 1000000), some (.inl 1), some (.inl (h 20 (zwd s 0 pp)))], [.inl (h 18 1), .inl 1], (zs h hl))) rfl ?_
    rw [hL]
    refine zH_bf (x := 1) (y := 3) (k := .ge) (c1 := (79, [some (.inr (.inr (some 49))), some (.inr (.inr (some (A)))), some (.inl (s : Int)), some (.inl (pp : Int)), some (.inl 1000000), some (.inl 1), some (.inl (h 20 (zwd s 0 pp)))], [], (zs h hl))) (c2 := (19, [some (.inr (.inr (some 49))), some (.inr (.inr (some (A)))), some (.inl (s : Int)), some (.inl (pp : Int)), some (.inl 1000000), some (.inl 1), some (.inl (h 20 (zwd s 0 pp)))], [], (zs h hl))) rfl ⟨by decide, by decide⟩ ⟨by decide, by decide⟩ (by show ¬ (¬ 1 < 3); decide) ?_
    refine zH_go 5 (c' := (27, [some (.inr (.inr (some 49))), some (.inr (.inr (some (A)))), some (.inl (s : Int)), some (.inl (pp : Int)), some (.inl 1000000), some (.inl 1), some (.inl (h 20 (zwd s 0 pp)))], [.inl (pp : Int), .inl 1, .inl (s : Int), .inr (.inr (some 18))], (zs h hl))) rfl ?_
    refine zH_call (M' := 101) (as := [.inl (s : Int), .inl 1, .inl (pp : Int)]) (T := [.inr (.inr (some 18))]) rfl (p_withDigit (n := s) (i := 1) (v := pp) (by omega) (by decide) (by omega)) (fun r σ' p_4 => ?_)
    obtain ⟨rfl, rfl⟩ := p_4
    show zH _ _ (30, [some (.inr (.inr (some 49))), some (.inr (.inr (some (A)))), some (.inl (s : Int)), some (.inl (pp : Int)), some (.inl 1000000), some (.inl 1), some (.inl (h 20 (zwd s 0 pp)))], [.inl ((zwd s 1 pp : Nat) : Int), .inr (.inr (some 18))], (zs h hl)) _
    refine zH_call (M' := 44) (as := [.inr (.inr (some 18)), .inl ((zwd s 1 pp : Nat) : Int)]) (T := []) rfl (p_slot (n := zwd s 1 pp) (by omega)) (fun r σ' p_5 => ?_)
    obtain ⟨rfl, rfl⟩ := p_5
    show zH _ _ (33, [some (.inr (.inr (some 49))), some (.inr (.inr (some (A)))), some (.inl (s : Int)), some (.inl (pp : Int)), some (.inl 1000000), some (.inl 1), some (.inl (h 20 (zwd s 0 pp)))], [.inl (h 20 (zwd s 1 pp))], (zs h hl)) _
    refine zH_go 2 (c' := (37, [some (.inr (.inr (some 49))), some (.inr (.inr (some (A)))), some (.inl (s : Int)), some (.inl (pp : Int)), some (.inl 1000000), some (.inl 1), some (.inl (h 20 (zwd s 1 pp)))], [.inl (h 20 (zwd s 1 pp))], (zs h hl))) rfl ?_
    refine zH_br (x := (h 20 (zwd s 1 pp))) (y := 0) (k := .lt) (c1 := (73, [some (.inr (.inr (some 49))), some (.inr (.inr (some (A)))), some (.inl (s : Int)), some (.inl (pp : Int)), some (.inl 1000000), some (.inl 1), some (.inl (h 20 (zwd s 1 pp)))], [], (zs h hl))) (c2 := (40, [some (.inr (.inr (some 49))), some (.inr (.inr (some (A)))), some (.inl (s : Int)), some (.inl (pp : Int)), some (.inl 1000000), some (.inl 1), some (.inl (h 20 (zwd s 1 pp)))], [], (zs h hl))) rfl (by first | assumption | (unfold zr; omega)) ⟨by decide, by decide⟩ (fun (b_6 : (h 20 (zwd s 1 pp)) < 0) => ?_) (fun (b_6 : ¬ ((h 20 (zwd s 1 pp)) < 0)) => ?_)
    · refine zH_go 6 (c' := (16, [some (.inr (.inr (some 49))), some (.inr (.inr (some (A)))), some (.inl (s : Int)), some (.inl (pp : Int)), some (.inl 1000000), some (.inl 2), some (.inl (h 20 (zwd s 1 pp)))], [.inl (h 18 1), .inl 2], (zs h hl))) rfl ?_
      rw [hL]
      refine zH_bf (x := 2) (y := 3) (k := .ge) (c1 := (79, [some (.inr (.inr (some 49))), some (.inr (.inr (some (A)))), some (.inl (s : Int)), some (.inl (pp : Int)), some (.inl 1000000), some (.inl 2), some (.inl (h 20 (zwd s 1 pp)))], [], (zs h hl))) (c2 := (19, [some (.inr (.inr (some 49))), some (.inr (.inr (some (A)))), some (.inl (s : Int)), some (.inl (pp : Int)), some (.inl 1000000), some (.inl 2), some (.inl (h 20 (zwd s 1 pp)))], [], (zs h hl))) rfl ⟨by decide, by decide⟩ ⟨by decide, by decide⟩ (by show ¬ (¬ 2 < 3); decide) ?_
      refine zH_go 5 (c' := (27, [some (.inr (.inr (some 49))), some (.inr (.inr (some (A)))), some (.inl (s : Int)), some (.inl (pp : Int)), some (.inl 1000000), some (.inl 2), some (.inl (h 20 (zwd s 1 pp)))], [.inl (pp : Int), .inl 2, .inl (s : Int), .inr (.inr (some 18))], (zs h hl))) rfl ?_
      refine zH_call (M' := 101) (as := [.inl (s : Int), .inl 2, .inl (pp : Int)]) (T := [.inr (.inr (some 18))]) rfl (p_withDigit (n := s) (i := 2) (v := pp) (by omega) (by decide) (by omega)) (fun r σ' p_7 => ?_)
      obtain ⟨rfl, rfl⟩ := p_7
      show zH _ _ (30, [some (.inr (.inr (some 49))), some (.inr (.inr (some (A)))), some (.inl (s : Int)), some (.inl (pp : Int)), some (.inl 1000000), some (.inl 2), some (.inl (h 20 (zwd s 1 pp)))], [.inl ((zwd s 2 pp : Nat) : Int), .inr (.inr (some 18))], (zs h hl)) _
      refine zH_call (M' := 44) (as := [.inr (.inr (some 18)), .inl ((zwd s 2 pp : Nat) : Int)]) (T := []) rfl (p_slot (n := zwd s 2 pp) (by omega)) (fun r σ' p_8 => ?_)
      obtain ⟨rfl, rfl⟩ := p_8
      show zH _ _ (33, [some (.inr (.inr (some 49))), some (.inr (.inr (some (A)))), some (.inl (s : Int)), some (.inl (pp : Int)), some (.inl 1000000), some (.inl 2), some (.inl (h 20 (zwd s 1 pp)))], [.inl (h 20 (zwd s 2 pp))], (zs h hl)) _
      refine zH_go 2 (c' := (37, [some (.inr (.inr (some 49))), some (.inr (.inr (some (A)))), some (.inl (s : Int)), some (.inl (pp : Int)), some (.inl 1000000), some (.inl 2), some (.inl (h 20 (zwd s 2 pp)))], [.inl (h 20 (zwd s 2 pp))], (zs h hl))) rfl ?_
      refine zH_br (x := (h 20 (zwd s 2 pp))) (y := 0) (k := .lt) (c1 := (73, [some (.inr (.inr (some 49))), some (.inr (.inr (some (A)))), some (.inl (s : Int)), some (.inl (pp : Int)), some (.inl 1000000), some (.inl 2), some (.inl (h 20 (zwd s 2 pp)))], [], (zs h hl))) (c2 := (40, [some (.inr (.inr (some 49))), some (.inr (.inr (some (A)))), some (.inl (s : Int)), some (.inl (pp : Int)), some (.inl 1000000), some (.inl 2), some (.inl (h 20 (zwd s 2 pp)))], [], (zs h hl))) rfl (by first | assumption | (unfold zr; omega)) ⟨by decide, by decide⟩ (fun (b_9 : (h 20 (zwd s 2 pp)) < 0) => ?_) (fun (b_9 : ¬ ((h 20 (zwd s 2 pp)) < 0)) => ?_)
      · refine zH_go 6 (c' := (16, [some (.inr (.inr (some 49))), some (.inr (.inr (some (A)))), some (.inl (s : Int)), some (.inl (pp : Int)), some (.inl 1000000), some (.inl 3), some (.inl (h 20 (zwd s 2 pp)))], [.inl (h 18 1), .inl 3], (zs h hl))) rfl ?_
        rw [hL]
        refine zH_bt (x := 3) (y := 3) (k := .ge) (c1 := (79, [some (.inr (.inr (some 49))), some (.inr (.inr (some (A)))), some (.inl (s : Int)), some (.inl (pp : Int)), some (.inl 1000000), some (.inl 3), some (.inl (h 20 (zwd s 2 pp)))], [], (zs h hl))) (c2 := (19, [some (.inr (.inr (some 49))), some (.inr (.inr (some (A)))), some (.inl (s : Int)), some (.inl (pp : Int)), some (.inl 1000000), some (.inl 3), some (.inl (h 20 (zwd s 2 pp)))], [], (zs h hl))) rfl ⟨by decide, by decide⟩ ⟨by decide, by decide⟩ (by show ¬ 3 < 3; decide) ?_
        refine zH_go 1 (c' := (81, [some (.inr (.inr (some 49))), some (.inr (.inr (some (A)))), some (.inl (s : Int)), some (.inl (pp : Int)), some (.inl 1000000), some (.inl 3), some (.inl (h 20 (zwd s 2 pp)))], [.inl 1000000], (zs h hl))) rfl ?_
        refine zH_ret (v := some (.inl 1000000)) rfl (fun q => absurd q (by decide)) ?_
        refine ⟨congrArg (fun z => some (Sum.inl z)) ?_, rfl⟩
        unfold zAf
        rw [if_neg (by decide), if_neg (by decide)]
        omega
      · refine zH_go 2 (c' := (43, [some (.inr (.inr (some 49))), some (.inr (.inr (some (A)))), some (.inl (s : Int)), some (.inl (pp : Int)), some (.inl 1000000), some (.inl 2), some (.inl (h 20 (zwd s 2 pp)))], [.inr (.inr (some (A))), .inl (h 20 (zwd s 2 pp))], (zs h hl))) rfl ?_
        refine zH_aln rfl (n := 56) (t := 0) hsh (by decide) ?_
        show zH _ _ (44, [some (.inr (.inr (some 49))), some (.inr (.inr (some (A)))), some (.inl (s : Int)), some (.inl (pp : Int)), some (.inl 1000000), some (.inl 2), some (.inl (h 20 (zwd s 2 pp)))], [.inl 56, .inl (h 20 (zwd s 2 pp))], (zs h hl)) _
        refine zH_br (x := (h 20 (zwd s 2 pp))) (y := 56) (k := .ge) (c1 := (73, [some (.inr (.inr (some 49))), some (.inr (.inr (some (A)))), some (.inl (s : Int)), some (.inl (pp : Int)), some (.inl 1000000), some (.inl 2), some (.inl (h 20 (zwd s 2 pp)))], [], (zs h hl))) (c2 := (47, [some (.inr (.inr (some 49))), some (.inr (.inr (some (A)))), some (.inl (s : Int)), some (.inl (pp : Int)), some (.inl 1000000), some (.inl 2), some (.inl (h 20 (zwd s 2 pp)))], [], (zs h hl))) rfl (by first | assumption | (unfold zr; omega)) ⟨by decide, by decide⟩ (fun (b_10 : ¬ (h 20 (zwd s 2 pp)) < 56) => ?_) (fun (b_10 : ¬ (¬ (h 20 (zwd s 2 pp)) < 56)) => ?_)
        · refine zH_go 6 (c' := (16, [some (.inr (.inr (some 49))), some (.inr (.inr (some (A)))), some (.inl (s : Int)), some (.inl (pp : Int)), some (.inl 1000000), some (.inl 3), some (.inl (h 20 (zwd s 2 pp)))], [.inl (h 18 1), .inl 3], (zs h hl))) rfl ?_
          rw [hL]
          refine zH_bt (x := 3) (y := 3) (k := .ge) (c1 := (79, [some (.inr (.inr (some 49))), some (.inr (.inr (some (A)))), some (.inl (s : Int)), some (.inl (pp : Int)), some (.inl 1000000), some (.inl 3), some (.inl (h 20 (zwd s 2 pp)))], [], (zs h hl))) (c2 := (19, [some (.inr (.inr (some 49))), some (.inr (.inr (some (A)))), some (.inl (s : Int)), some (.inl (pp : Int)), some (.inl 1000000), some (.inl 3), some (.inl (h 20 (zwd s 2 pp)))], [], (zs h hl))) rfl ⟨by decide, by decide⟩ ⟨by decide, by decide⟩ (by show ¬ 3 < 3; decide) ?_
          refine zH_go 1 (c' := (81, [some (.inr (.inr (some 49))), some (.inr (.inr (some (A)))), some (.inl (s : Int)), some (.inl (pp : Int)), some (.inl 1000000), some (.inl 3), some (.inl (h 20 (zwd s 2 pp)))], [.inl 1000000], (zs h hl))) rfl ?_
          refine zH_ret (v := some (.inl 1000000)) rfl (fun q => absurd q (by decide)) ?_
          refine ⟨congrArg (fun z => some (Sum.inl z)) ?_, rfl⟩
          unfold zAf
          rw [if_neg (by decide), if_neg (by decide)]
          omega
        · refine zH_go 3 (c' := (52, [some (.inr (.inr (some 49))), some (.inr (.inr (some (A)))), some (.inl (s : Int)), some (.inl (pp : Int)), some (.inl 1000000), some (.inl 2), some (.inl (h 20 (zwd s 2 pp)))], [.inl (h 20 (zwd s 2 pp)), .inr (.inr (some (A))), .inl 1000000], (zs h hl))) rfl ?_
          refine zH_ial rfl (n := 56) hsh (by omega) (by omega) ?_
          show zH _ _ (53, [some (.inr (.inr (some 49))), some (.inr (.inr (some (A)))), some (.inl (s : Int)), some (.inl (pp : Int)), some (.inl 1000000), some (.inl 2), some (.inl (h 20 (zwd s 2 pp)))], [.inl (h A (Int.toNat (h 20 (zwd s 2 pp)))), .inl 1000000], (zs h hl)) _
          refine zH_go 5 (c' := (61, [some (.inr (.inr (some 49))), some (.inr (.inr (some (A)))), some (.inl (s : Int)), some (.inl (pp : Int)), some (.inl 1000000), some (.inl 2), some (.inl (h 20 (zwd s 2 pp)))], [.inl 2, .inl (s : Int), .inl (pp : Int), .inr (.inr (some 3)), .inl (h A (Int.toNat (h 20 (zwd s 2 pp)))), .inl 1000000], (zs h hl))) rfl ?_
          refine zH_call (M' := 100) (as := [.inl (s : Int), .inl 2]) (T := [.inl (pp : Int), .inr (.inr (some 3)), .inl (h A (Int.toNat (h 20 (zwd s 2 pp)))), .inl 1000000]) rfl (p_digit (n := s) (i := 2) (by omega) (by decide)) (fun r σ' p_11 => ?_)
          obtain ⟨rfl, rfl⟩ := p_11
          show zH _ _ (64, [some (.inr (.inr (some 49))), some (.inr (.inr (some (A)))), some (.inl (s : Int)), some (.inl (pp : Int)), some (.inl 1000000), some (.inl 2), some (.inl (h 20 (zwd s 2 pp)))], [.inl ((zdg s 2 : Nat) : Int), .inl (pp : Int), .inr (.inr (some 3)), .inl (h A (Int.toNat (h 20 (zwd s 2 pp)))), .inl 1000000], (zs h hl)) _
          refine zH_call (M' := 52) (as := [.inr (.inr (some 3)), .inl (pp : Int), .inl ((zdg s 2 : Nat) : Int)]) (T := [.inl (h A (Int.toNat (h 20 (zwd s 2 pp)))), .inl 1000000]) rfl (p_gap (a := pp) (b := zdg s 2) (by omega) (by omega)) (fun r σ' p_12 => ?_)
          obtain ⟨rfl, rfl⟩ := p_12
          show zH _ _ (67, [some (.inr (.inr (some 49))), some (.inr (.inr (some (A)))), some (.inl (s : Int)), some (.inl (pp : Int)), some (.inl 1000000), some (.inl 2), some (.inl (h 20 (zwd s 2 pp)))], [.inl (h (12 + pp) (zdg s 2)), .inl (h A (Int.toNat (h 20 (zwd s 2 pp)))), .inl 1000000], (zs h hl)) _
          refine zH_go 1 (c' := (68, [some (.inr (.inr (some 49))), some (.inr (.inr (some (A)))), some (.inl (s : Int)), some (.inl (pp : Int)), some (.inl 1000000), some (.inl 2), some (.inl (h 20 (zwd s 2 pp)))], [.inl ((h A (Int.toNat (h 20 (zwd s 2 pp)))) + (h (12 + pp) (zdg s 2))), .inl 1000000], (zs h hl))) rfl ?_
          refine zH_np (P := zr 1000000 ∧ zr ((h A (Int.toNat (h 20 (zwd s 2 pp)))) + (h (12 + pp) (zdg s 2)))) (c' := (71, [some (.inr (.inr (some 49))), some (.inr (.inr (some (A)))), some (.inl (s : Int)), some (.inl (pp : Int)), some (.inl 1000000), some (.inl 2), some (.inl (h 20 (zwd s 2 pp)))], [.inl (if ((h A (Int.toNat (h 20 (zwd s 2 pp)))) + (h (12 + pp) (zdg s 2))) < 1000000 then ((h A (Int.toNat (h 20 (zwd s 2 pp)))) + (h (12 + pp) (zdg s 2))) else 1000000)], (zs h hl))) rfl ⟨⟨by decide, by decide⟩, (by first | assumption | (unfold zr; omega))⟩ ?_
          obtain ⟨m_13, em_13, fm_13⟩ := zmin_spec 1000000 ((h A (Int.toNat (h 20 (zwd s 2 pp)))) + (h (12 + pp) (zdg s 2)))
          rw [em_13]
          refine zH_go 7 (c' := (16, [some (.inr (.inr (some 49))), some (.inr (.inr (some (A)))), some (.inl (s : Int)), some (.inl (pp : Int)), some (.inl m_13), some (.inl 3), some (.inl (h 20 (zwd s 2 pp)))], [.inl (h 18 1), .inl 3], (zs h hl))) rfl ?_
          rw [hL]
          refine zH_bt (x := 3) (y := 3) (k := .ge) (c1 := (79, [some (.inr (.inr (some 49))), some (.inr (.inr (some (A)))), some (.inl (s : Int)), some (.inl (pp : Int)), some (.inl m_13), some (.inl 3), some (.inl (h 20 (zwd s 2 pp)))], [], (zs h hl))) (c2 := (19, [some (.inr (.inr (some 49))), some (.inr (.inr (some (A)))), some (.inl (s : Int)), some (.inl (pp : Int)), some (.inl m_13), some (.inl 3), some (.inl (h 20 (zwd s 2 pp)))], [], (zs h hl))) rfl ⟨by decide, by decide⟩ ⟨by decide, by decide⟩ (by show ¬ 3 < 3; decide) ?_
          refine zH_go 1 (c' := (81, [some (.inr (.inr (some 49))), some (.inr (.inr (some (A)))), some (.inl (s : Int)), some (.inl (pp : Int)), some (.inl m_13), some (.inl 3), some (.inl (h 20 (zwd s 2 pp)))], [.inl m_13], (zs h hl))) rfl ?_
          refine zH_ret (v := some (.inl m_13)) rfl (fun q => absurd q (by decide)) ?_
          refine ⟨congrArg (fun z => some (Sum.inl z)) ?_, rfl⟩
          unfold zAf
          rw [if_neg (by decide), if_neg (by decide)]
          omega
    · refine zH_go 2 (c' := (43, [some (.inr (.inr (some 49))), some (.inr (.inr (some (A)))), some (.inl (s : Int)), some (.inl (pp : Int)), some (.inl 1000000), some (.inl 1), some (.inl (h 20 (zwd s 1 pp)))], [.inr (.inr (some (A))), .inl (h 20 (zwd s 1 pp))], (zs h hl))) rfl ?_
      refine zH_aln rfl (n := 56) (t := 0) hsh (by decide) ?_
      show zH _ _ (44, [some (.inr (.inr (some 49))), some (.inr (.inr (some (A)))), some (.inl (s : Int)), some (.inl (pp : Int)), some (.inl 1000000), some (.inl 1), some (.inl (h 20 (zwd s 1 pp)))], [.inl 56, .inl (h 20 (zwd s 1 pp))], (zs h hl)) _
      refine zH_br (x := (h 20 (zwd s 1 pp))) (y := 56) (k := .ge) (c1 := (73, [some (.inr (.inr (some 49))), some (.inr (.inr (some (A)))), some (.inl (s : Int)), some (.inl (pp : Int)), some (.inl 1000000), some (.inl 1), some (.inl (h 20 (zwd s 1 pp)))], [], (zs h hl))) (c2 := (47, [some (.inr (.inr (some 49))), some (.inr (.inr (some (A)))), some (.inl (s : Int)), some (.inl (pp : Int)), some (.inl 1000000), some (.inl 1), some (.inl (h 20 (zwd s 1 pp)))], [], (zs h hl))) rfl (by first | assumption | (unfold zr; omega)) ⟨by decide, by decide⟩ (fun (b_14 : ¬ (h 20 (zwd s 1 pp)) < 56) => ?_) (fun (b_14 : ¬ (¬ (h 20 (zwd s 1 pp)) < 56)) => ?_)
      · refine zH_go 6 (c' := (16, [some (.inr (.inr (some 49))), some (.inr (.inr (some (A)))), some (.inl (s : Int)), some (.inl (pp : Int)), some (.inl 1000000), some (.inl 2), some (.inl (h 20 (zwd s 1 pp)))], [.inl (h 18 1), .inl 2], (zs h hl))) rfl ?_
        rw [hL]
        refine zH_bf (x := 2) (y := 3) (k := .ge) (c1 := (79, [some (.inr (.inr (some 49))), some (.inr (.inr (some (A)))), some (.inl (s : Int)), some (.inl (pp : Int)), some (.inl 1000000), some (.inl 2), some (.inl (h 20 (zwd s 1 pp)))], [], (zs h hl))) (c2 := (19, [some (.inr (.inr (some 49))), some (.inr (.inr (some (A)))), some (.inl (s : Int)), some (.inl (pp : Int)), some (.inl 1000000), some (.inl 2), some (.inl (h 20 (zwd s 1 pp)))], [], (zs h hl))) rfl ⟨by decide, by decide⟩ ⟨by decide, by decide⟩ (by show ¬ (¬ 2 < 3); decide) ?_
        refine zH_go 5 (c' := (27, [some (.inr (.inr (some 49))), some (.inr (.inr (some (A)))), some (.inl (s : Int)), some (.inl (pp : Int)), some (.inl 1000000), some (.inl 2), some (.inl (h 20 (zwd s 1 pp)))], [.inl (pp : Int), .inl 2, .inl (s : Int), .inr (.inr (some 18))], (zs h hl))) rfl ?_
        refine zH_call (M' := 101) (as := [.inl (s : Int), .inl 2, .inl (pp : Int)]) (T := [.inr (.inr (some 18))]) rfl (p_withDigit (n := s) (i := 2) (v := pp) (by omega) (by decide) (by omega)) (fun r σ' p_15 => ?_)
        obtain ⟨rfl, rfl⟩ := p_15
        show zH _ _ (30, [some (.inr (.inr (some 49))), some (.inr (.inr (some (A)))), some (.inl (s : Int)), some (.inl (pp : Int)), some (.inl 1000000), some (.inl 2), some (.inl (h 20 (zwd s 1 pp)))], [.inl ((zwd s 2 pp : Nat) : Int), .inr (.inr (some 18))], (zs h hl)) _
        refine zH_call (M' := 44) (as := [.inr (.inr (some 18)), .inl ((zwd s 2 pp : Nat) : Int)]) (T := []) rfl (p_slot (n := zwd s 2 pp) (by omega)) (fun r σ' p_16 => ?_)
        obtain ⟨rfl, rfl⟩ := p_16
        show zH _ _ (33, [some (.inr (.inr (some 49))), some (.inr (.inr (some (A)))), some (.inl (s : Int)), some (.inl (pp : Int)), some (.inl 1000000), some (.inl 2), some (.inl (h 20 (zwd s 1 pp)))], [.inl (h 20 (zwd s 2 pp))], (zs h hl)) _
        refine zH_go 2 (c' := (37, [some (.inr (.inr (some 49))), some (.inr (.inr (some (A)))), some (.inl (s : Int)), some (.inl (pp : Int)), some (.inl 1000000), some (.inl 2), some (.inl (h 20 (zwd s 2 pp)))], [.inl (h 20 (zwd s 2 pp))], (zs h hl))) rfl ?_
        refine zH_br (x := (h 20 (zwd s 2 pp))) (y := 0) (k := .lt) (c1 := (73, [some (.inr (.inr (some 49))), some (.inr (.inr (some (A)))), some (.inl (s : Int)), some (.inl (pp : Int)), some (.inl 1000000), some (.inl 2), some (.inl (h 20 (zwd s 2 pp)))], [], (zs h hl))) (c2 := (40, [some (.inr (.inr (some 49))), some (.inr (.inr (some (A)))), some (.inl (s : Int)), some (.inl (pp : Int)), some (.inl 1000000), some (.inl 2), some (.inl (h 20 (zwd s 2 pp)))], [], (zs h hl))) rfl (by first | assumption | (unfold zr; omega)) ⟨by decide, by decide⟩ (fun (b_17 : (h 20 (zwd s 2 pp)) < 0) => ?_) (fun (b_17 : ¬ ((h 20 (zwd s 2 pp)) < 0)) => ?_)
        · refine zH_go 6 (c' := (16, [some (.inr (.inr (some 49))), some (.inr (.inr (some (A)))), some (.inl (s : Int)), some (.inl (pp : Int)), some (.inl 1000000), some (.inl 3), some (.inl (h 20 (zwd s 2 pp)))], [.inl (h 18 1), .inl 3], (zs h hl))) rfl ?_
          rw [hL]
          refine zH_bt (x := 3) (y := 3) (k := .ge) (c1 := (79, [some (.inr (.inr (some 49))), some (.inr (.inr (some (A)))), some (.inl (s : Int)), some (.inl (pp : Int)), some (.inl 1000000), some (.inl 3), some (.inl (h 20 (zwd s 2 pp)))], [], (zs h hl))) (c2 := (19, [some (.inr (.inr (some 49))), some (.inr (.inr (some (A)))), some (.inl (s : Int)), some (.inl (pp : Int)), some (.inl 1000000), some (.inl 3), some (.inl (h 20 (zwd s 2 pp)))], [], (zs h hl))) rfl ⟨by decide, by decide⟩ ⟨by decide, by decide⟩ (by show ¬ 3 < 3; decide) ?_
          refine zH_go 1 (c' := (81, [some (.inr (.inr (some 49))), some (.inr (.inr (some (A)))), some (.inl (s : Int)), some (.inl (pp : Int)), some (.inl 1000000), some (.inl 3), some (.inl (h 20 (zwd s 2 pp)))], [.inl 1000000], (zs h hl))) rfl ?_
          refine zH_ret (v := some (.inl 1000000)) rfl (fun q => absurd q (by decide)) ?_
          refine ⟨congrArg (fun z => some (Sum.inl z)) ?_, rfl⟩
          unfold zAf
          rw [if_neg (by decide), if_neg (by decide)]
          omega
        · refine zH_go 2 (c' := (43, [some (.inr (.inr (some 49))), some (.inr (.inr (some (A)))), some (.inl (s : Int)), some (.inl (pp : Int)), some (.inl 1000000), some (.inl 2), some (.inl (h 20 (zwd s 2 pp)))], [.inr (.inr (some (A))), .inl (h 20 (zwd s 2 pp))], (zs h hl))) rfl ?_
          refine zH_aln rfl (n := 56) (t := 0) hsh (by decide) ?_
          show zH _ _ (44, [some (.inr (.inr (some 49))), some (.inr (.inr (some (A)))), some (.inl (s : Int)), some (.inl (pp : Int)), some (.inl 1000000), some (.inl 2), some (.inl (h 20 (zwd s 2 pp)))], [.inl 56, .inl (h 20 (zwd s 2 pp))], (zs h hl)) _
          refine zH_br (x := (h 20 (zwd s 2 pp))) (y := 56) (k := .ge) (c1 := (73, [some (.inr (.inr (some 49))), some (.inr (.inr (some (A)))), some (.inl (s : Int)), some (.inl (pp : Int)), some (.inl 1000000), some (.inl 2), some (.inl (h 20 (zwd s 2 pp)))], [], (zs h hl))) (c2 := (47, [some (.inr (.inr (some 49))), some (.inr (.inr (some (A)))), some (.inl (s : Int)), some (.inl (pp : Int)), some (.inl 1000000), some (.inl 2), some (.inl (h 20 (zwd s 2 pp)))], [], (zs h hl))) rfl (by first | assumption | (unfold zr; omega)) ⟨by decide, by decide⟩ (fun (b_18 : ¬ (h 20 (zwd s 2 pp)) < 56) => ?_) (fun (b_18 : ¬ (¬ (h 20 (zwd s 2 pp)) < 56)) => ?_)
          · refine zH_go 6 (c' := (16, [some (.inr (.inr (some 49))), some (.inr (.inr (some (A)))), some (.inl (s : Int)), some (.inl (pp : Int)), some (.inl 1000000), some (.inl 3), some (.inl (h 20 (zwd s 2 pp)))], [.inl (h 18 1), .inl 3], (zs h hl))) rfl ?_
            rw [hL]
            refine zH_bt (x := 3) (y := 3) (k := .ge) (c1 := (79, [some (.inr (.inr (some 49))), some (.inr (.inr (some (A)))), some (.inl (s : Int)), some (.inl (pp : Int)), some (.inl 1000000), some (.inl 3), some (.inl (h 20 (zwd s 2 pp)))], [], (zs h hl))) (c2 := (19, [some (.inr (.inr (some 49))), some (.inr (.inr (some (A)))), some (.inl (s : Int)), some (.inl (pp : Int)), some (.inl 1000000), some (.inl 3), some (.inl (h 20 (zwd s 2 pp)))], [], (zs h hl))) rfl ⟨by decide, by decide⟩ ⟨by decide, by decide⟩ (by show ¬ 3 < 3; decide) ?_
            refine zH_go 1 (c' := (81, [some (.inr (.inr (some 49))), some (.inr (.inr (some (A)))), some (.inl (s : Int)), some (.inl (pp : Int)), some (.inl 1000000), some (.inl 3), some (.inl (h 20 (zwd s 2 pp)))], [.inl 1000000], (zs h hl))) rfl ?_
            refine zH_ret (v := some (.inl 1000000)) rfl (fun q => absurd q (by decide)) ?_
            refine ⟨congrArg (fun z => some (Sum.inl z)) ?_, rfl⟩
            unfold zAf
            rw [if_neg (by decide), if_neg (by decide)]
            omega
          · refine zH_go 3 (c' := (52, [some (.inr (.inr (some 49))), some (.inr (.inr (some (A)))), some (.inl (s : Int)), some (.inl (pp : Int)), some (.inl 1000000), some (.inl 2), some (.inl (h 20 (zwd s 2 pp)))], [.inl (h 20 (zwd s 2 pp)), .inr (.inr (some (A))), .inl 1000000], (zs h hl))) rfl ?_
            refine zH_ial rfl (n := 56) hsh (by omega) (by omega) ?_
            show zH _ _ (53, [some (.inr (.inr (some 49))), some (.inr (.inr (some (A)))), some (.inl (s : Int)), some (.inl (pp : Int)), some (.inl 1000000), some (.inl 2), some (.inl (h 20 (zwd s 2 pp)))], [.inl (h A (Int.toNat (h 20 (zwd s 2 pp)))), .inl 1000000], (zs h hl)) _
            refine zH_go 5 (c' := (61, [some (.inr (.inr (some 49))), some (.inr (.inr (some (A)))), some (.inl (s : Int)), some (.inl (pp : Int)), some (.inl 1000000), some (.inl 2), some (.inl (h 20 (zwd s 2 pp)))], [.inl 2, .inl (s : Int), .inl (pp : Int), .inr (.inr (some 3)), .inl (h A (Int.toNat (h 20 (zwd s 2 pp)))), .inl 1000000], (zs h hl))) rfl ?_
            refine zH_call (M' := 100) (as := [.inl (s : Int), .inl 2]) (T := [.inl (pp : Int), .inr (.inr (some 3)), .inl (h A (Int.toNat (h 20 (zwd s 2 pp)))), .inl 1000000]) rfl (p_digit (n := s) (i := 2) (by omega) (by decide)) (fun r σ' p_19 => ?_)
            obtain ⟨rfl, rfl⟩ := p_19
            show zH _ _ (64, [some (.inr (.inr (some 49))), some (.inr (.inr (some (A)))), some (.inl (s : Int)), some (.inl (pp : Int)), some (.inl 1000000), some (.inl 2), some (.inl (h 20 (zwd s 2 pp)))], [.inl ((zdg s 2 : Nat) : Int), .inl (pp : Int), .inr (.inr (some 3)), .inl (h A (Int.toNat (h 20 (zwd s 2 pp)))), .inl 1000000], (zs h hl)) _
            refine zH_call (M' := 52) (as := [.inr (.inr (some 3)), .inl (pp : Int), .inl ((zdg s 2 : Nat) : Int)]) (T := [.inl (h A (Int.toNat (h 20 (zwd s 2 pp)))), .inl 1000000]) rfl (p_gap (a := pp) (b := zdg s 2) (by omega) (by omega)) (fun r σ' p_20 => ?_)
            obtain ⟨rfl, rfl⟩ := p_20
            show zH _ _ (67, [some (.inr (.inr (some 49))), some (.inr (.inr (some (A)))), some (.inl (s : Int)), some (.inl (pp : Int)), some (.inl 1000000), some (.inl 2), some (.inl (h 20 (zwd s 2 pp)))], [.inl (h (12 + pp) (zdg s 2)), .inl (h A (Int.toNat (h 20 (zwd s 2 pp)))), .inl 1000000], (zs h hl)) _
            refine zH_go 1 (c' := (68, [some (.inr (.inr (some 49))), some (.inr (.inr (some (A)))), some (.inl (s : Int)), some (.inl (pp : Int)), some (.inl 1000000), some (.inl 2), some (.inl (h 20 (zwd s 2 pp)))], [.inl ((h A (Int.toNat (h 20 (zwd s 2 pp)))) + (h (12 + pp) (zdg s 2))), .inl 1000000], (zs h hl))) rfl ?_
            refine zH_np (P := zr 1000000 ∧ zr ((h A (Int.toNat (h 20 (zwd s 2 pp)))) + (h (12 + pp) (zdg s 2)))) (c' := (71, [some (.inr (.inr (some 49))), some (.inr (.inr (some (A)))), some (.inl (s : Int)), some (.inl (pp : Int)), some (.inl 1000000), some (.inl 2), some (.inl (h 20 (zwd s 2 pp)))], [.inl (if ((h A (Int.toNat (h 20 (zwd s 2 pp)))) + (h (12 + pp) (zdg s 2))) < 1000000 then ((h A (Int.toNat (h 20 (zwd s 2 pp)))) + (h (12 + pp) (zdg s 2))) else 1000000)], (zs h hl))) rfl ⟨⟨by decide, by decide⟩, (by first | assumption | (unfold zr; omega))⟩ ?_
            obtain ⟨m_21, em_21, fm_21⟩ := zmin_spec 1000000 ((h A (Int.toNat (h 20 (zwd s 2 pp)))) + (h (12 + pp) (zdg s 2)))
            rw [em_21]
            refine zH_go 7 (c' := (16, [some (.inr (.inr (some 49))), some (.inr (.inr (some (A)))), some (.inl (s : Int)), some (.inl (pp : Int)), some (.inl m_21), some (.inl 3), some (.inl (h 20 (zwd s 2 pp)))], [.inl (h 18 1), .inl 3], (zs h hl))) rfl ?_
            rw [hL]
            refine zH_bt (x := 3) (y := 3) (k := .ge) (c1 := (79, [some (.inr (.inr (some 49))), some (.inr (.inr (some (A)))), some (.inl (s : Int)), some (.inl (pp : Int)), some (.inl m_21), some (.inl 3), some (.inl (h 20 (zwd s 2 pp)))], [], (zs h hl))) (c2 := (19, [some (.inr (.inr (some 49))), some (.inr (.inr (some (A)))), some (.inl (s : Int)), some (.inl (pp : Int)), some (.inl m_21), some (.inl 3), some (.inl (h 20 (zwd s 2 pp)))], [], (zs h hl))) rfl ⟨by decide, by decide⟩ ⟨by decide, by decide⟩ (by show ¬ 3 < 3; decide) ?_
            refine zH_go 1 (c' := (81, [some (.inr (.inr (some 49))), some (.inr (.inr (some (A)))), some (.inl (s : Int)), some (.inl (pp : Int)), some (.inl m_21), some (.inl 3), some (.inl (h 20 (zwd s 2 pp)))], [.inl m_21], (zs h hl))) rfl ?_
            refine zH_ret (v := some (.inl m_21)) rfl (fun q => absurd q (by decide)) ?_
            refine ⟨congrArg (fun z => some (Sum.inl z)) ?_, rfl⟩
            unfold zAf
            rw [if_neg (by decide), if_neg (by decide)]
            omega
      · refine zH_go 3 (c' := (52, [some (.inr (.inr (some 49))), some (.inr (.inr (some (A)))), some (.inl (s : Int)), some (.inl (pp : Int)), some (.inl 1000000), some (.inl 1), some (.inl (h 20 (zwd s 1 pp)))], [.inl (h 20 (zwd s 1 pp)), .inr (.inr (some (A))), .inl 1000000], (zs h hl))) rfl ?_
        refine zH_ial rfl (n := 56) hsh (by omega) (by omega) ?_
        show zH _ _ (53, [some (.inr (.inr (some 49))), some (.inr (.inr (some (A)))), some (.inl (s : Int)), some (.inl (pp : Int)), some (.inl 1000000), some (.inl 1), some (.inl (h 20 (zwd s 1 pp)))], [.inl (h A (Int.toNat (h 20 (zwd s 1 pp)))), .inl 1000000], (zs h hl)) _
        refine zH_go 5 (c' := (61, [some (.inr (.inr (some 49))), some (.inr (.inr (some (A)))), some (.inl (s : Int)), some (.inl (pp : Int)), some (.inl 1000000), some (.inl 1), some (.inl (h 20 (zwd s 1 pp)))], [.inl 1, .inl (s : Int), .inl (pp : Int), .inr (.inr (some 3)), .inl (h A (Int.toNat (h 20 (zwd s 1 pp)))), .inl 1000000], (zs h hl))) rfl ?_
        refine zH_call (M' := 100) (as := [.inl (s : Int), .inl 1]) (T := [.inl (pp : Int), .inr (.inr (some 3)), .inl (h A (Int.toNat (h 20 (zwd s 1 pp)))), .inl 1000000]) rfl (p_digit (n := s) (i := 1) (by omega) (by decide)) (fun r σ' p_22 => ?_)
        obtain ⟨rfl, rfl⟩ := p_22
        show zH _ _ (64, [some (.inr (.inr (some 49))), some (.inr (.inr (some (A)))), some (.inl (s : Int)), some (.inl (pp : Int)), some (.inl 1000000), some (.inl 1), some (.inl (h 20 (zwd s 1 pp)))], [.inl ((zdg s 1 : Nat) : Int), .inl (pp : Int), .inr (.inr (some 3)), .inl (h A (Int.toNat (h 20 (zwd s 1 pp)))), .inl 1000000], (zs h hl)) _
        refine zH_call (M' := 52) (as := [.inr (.inr (some 3)), .inl (pp : Int), .inl ((zdg s 1 : Nat) : Int)]) (T := [.inl (h A (Int.toNat (h 20 (zwd s 1 pp)))), .inl 1000000]) rfl (p_gap (a := pp) (b := zdg s 1) (by omega) (by omega)) (fun r σ' p_23 => ?_)
        obtain ⟨rfl, rfl⟩ := p_23
        show zH _ _ (67, [some (.inr (.inr (some 49))), some (.inr (.inr (some (A)))), some (.inl (s : Int)), some (.inl (pp : Int)), some (.inl 1000000), some (.inl 1), some (.inl (h 20 (zwd s 1 pp)))], [.inl (h (12 + pp) (zdg s 1)), .inl (h A (Int.toNat (h 20 (zwd s 1 pp)))), .inl 1000000], (zs h hl)) _
        refine zH_go 1 (c' := (68, [some (.inr (.inr (some 49))), some (.inr (.inr (some (A)))), some (.inl (s : Int)), some (.inl (pp : Int)), some (.inl 1000000), some (.inl 1), some (.inl (h 20 (zwd s 1 pp)))], [.inl ((h A (Int.toNat (h 20 (zwd s 1 pp)))) + (h (12 + pp) (zdg s 1))), .inl 1000000], (zs h hl))) rfl ?_
        refine zH_np (P := zr 1000000 ∧ zr ((h A (Int.toNat (h 20 (zwd s 1 pp)))) + (h (12 + pp) (zdg s 1)))) (c' := (71, [some (.inr (.inr (some 49))), some (.inr (.inr (some (A)))), some (.inl (s : Int)), some (.inl (pp : Int)), some (.inl 1000000), some (.inl 1), some (.inl (h 20 (zwd s 1 pp)))], [.inl (if ((h A (Int.toNat (h 20 (zwd s 1 pp)))) + (h (12 + pp) (zdg s 1))) < 1000000 then ((h A (Int.toNat (h 20 (zwd s 1 pp)))) + (h (12 + pp) (zdg s 1))) else 1000000)], (zs h hl))) rfl ⟨⟨by decide, by decide⟩, (by first | assumption | (unfold zr; omega))⟩ ?_
        obtain ⟨m_24, em_24, fm_24⟩ := zmin_spec 1000000 ((h A (Int.toNat (h 20 (zwd s 1 pp)))) + (h (12 + pp) (zdg s 1)))
        rw [em_24]
        refine zH_go 7 (c' := (16, [some (.inr (.inr (some 49))), some (.inr (.inr (some (A)))), some (.inl (s : Int)), some (.inl (pp : Int)), some (.inl m_24), some (.inl 2), some (.inl (h 20 (zwd s 1 pp)))], [.inl (h 18 1), .inl 2], (zs h hl))) rfl ?_
        rw [hL]
        refine zH_bf (x := 2) (y := 3) (k := .ge) (c1 := (79, [some (.inr (.inr (some 49))), some (.inr (.inr (some (A)))), some (.inl (s : Int)), some (.inl (pp : Int)), some (.inl m_24), some (.inl 2), some (.inl (h 20 (zwd s 1 pp)))], [], (zs h hl))) (c2 := (19, [some (.inr (.inr (some 49))), some (.inr (.inr (some (A)))), some (.inl (s : Int)), some (.inl (pp : Int)), some (.inl m_24), some (.inl 2), some (.inl (h 20 (zwd s 1 pp)))], [], (zs h hl))) rfl ⟨by decide, by decide⟩ ⟨by decide, by decide⟩ (by show ¬ (¬ 2 < 3); decide) ?_
        refine zH_go 5 (c' := (27, [some (.inr (.inr (some 49))), some (.inr (.inr (some (A)))), some (.inl (s : Int)), some (.inl (pp : Int)), some (.inl m_24), some (.inl 2), some (.inl (h 20 (zwd s 1 pp)))], [.inl (pp : Int), .inl 2, .inl (s : Int), .inr (.inr (some 18))], (zs h hl))) rfl ?_
        refine zH_call (M' := 101) (as := [.inl (s : Int), .inl 2, .inl (pp : Int)]) (T := [.inr (.inr (some 18))]) rfl (p_withDigit (n := s) (i := 2) (v := pp) (by omega) (by decide) (by omega)) (fun r σ' p_25 => ?_)
        obtain ⟨rfl, rfl⟩ := p_25
        show zH _ _ (30, [some (.inr (.inr (some 49))), some (.inr (.inr (some (A)))), some (.inl (s : Int)), some (.inl (pp : Int)), some (.inl m_24), some (.inl 2), some (.inl (h 20 (zwd s 1 pp)))], [.inl ((zwd s 2 pp : Nat) : Int), .inr (.inr (some 18))], (zs h hl)) _
        refine zH_call (M' := 44) (as := [.inr (.inr (some 18)), .inl ((zwd s 2 pp : Nat) : Int)]) (T := []) rfl (p_slot (n := zwd s 2 pp) (by omega)) (fun r σ' p_26 => ?_)
        obtain ⟨rfl, rfl⟩ := p_26
        show zH _ _ (33, [some (.inr (.inr (some 49))), some (.inr (.inr (some (A)))), some (.inl (s : Int)), some (.inl (pp : Int)), some (.inl m_24), some (.inl 2), some (.inl (h 20 (zwd s 1 pp)))], [.inl (h 20 (zwd s 2 pp))], (zs h hl)) _
        refine zH_go 2 (c' := (37, [some (.inr (.inr (some 49))), some (.inr (.inr (some (A)))), some (.inl (s : Int)), some (.inl (pp : Int)), some (.inl m_24), some (.inl 2), some (.inl (h 20 (zwd s 2 pp)))], [.inl (h 20 (zwd s 2 pp))], (zs h hl))) rfl ?_
        refine zH_br (x := (h 20 (zwd s 2 pp))) (y := 0) (k := .lt) (c1 := (73, [some (.inr (.inr (some 49))), some (.inr (.inr (some (A)))), some (.inl (s : Int)), some (.inl (pp : Int)), some (.inl m_24), some (.inl 2), some (.inl (h 20 (zwd s 2 pp)))], [], (zs h hl))) (c2 := (40, [some (.inr (.inr (some 49))), some (.inr (.inr (some (A)))), some (.inl (s : Int)), some (.inl (pp : Int)), some (.inl m_24), some (.inl 2), some (.inl (h 20 (zwd s 2 pp)))], [], (zs h hl))) rfl (by first | assumption | (unfold zr; omega)) ⟨by decide, by decide⟩ (fun (b_27 : (h 20 (zwd s 2 pp)) < 0) => ?_) (fun (b_27 : ¬ ((h 20 (zwd s 2 pp)) < 0)) => ?_)
        · refine zH_go 6 (c' := (16, [some (.inr (.inr (some 49))), some (.inr (.inr (some (A)))), some (.inl (s : Int)), some (.inl (pp : Int)), some (.inl m_24), some (.inl 3), some (.inl (h 20 (zwd s 2 pp)))], [.inl (h 18 1), .inl 3], (zs h hl))) rfl ?_
          rw [hL]
          refine zH_bt (x := 3) (y := 3) (k := .ge) (c1 := (79, [some (.inr (.inr (some 49))), some (.inr (.inr (some (A)))), some (.inl (s : Int)), some (.inl (pp : Int)), some (.inl m_24), some (.inl 3), some (.inl (h 20 (zwd s 2 pp)))], [], (zs h hl))) (c2 := (19, [some (.inr (.inr (some 49))), some (.inr (.inr (some (A)))), some (.inl (s : Int)), some (.inl (pp : Int)), some (.inl m_24), some (.inl 3), some (.inl (h 20 (zwd s 2 pp)))], [], (zs h hl))) rfl ⟨by decide, by decide⟩ ⟨by decide, by decide⟩ (by show ¬ 3 < 3; decide) ?_
          refine zH_go 1 (c' := (81, [some (.inr (.inr (some 49))), some (.inr (.inr (some (A)))), some (.inl (s : Int)), some (.inl (pp : Int)), some (.inl m_24), some (.inl 3), some (.inl (h 20 (zwd s 2 pp)))], [.inl m_24], (zs h hl))) rfl ?_
          refine zH_ret (v := some (.inl m_24)) rfl (fun q => absurd q (by decide)) ?_
          refine ⟨congrArg (fun z => some (Sum.inl z)) ?_, rfl⟩
          unfold zAf
          rw [if_neg (by decide), if_neg (by decide)]
          omega
        · refine zH_go 2 (c' := (43, [some (.inr (.inr (some 49))), some (.inr (.inr (some (A)))), some (.inl (s : Int)), some (.inl (pp : Int)), some (.inl m_24), some (.inl 2), some (.inl (h 20 (zwd s 2 pp)))], [.inr (.inr (some (A))), .inl (h 20 (zwd s 2 pp))], (zs h hl))) rfl ?_
          refine zH_aln rfl (n := 56) (t := 0) hsh (by decide) ?_
          show zH _ _ (44, [some (.inr (.inr (some 49))), some (.inr (.inr (some (A)))), some (.inl (s : Int)), some (.inl (pp : Int)), some (.inl m_24), some (.inl 2), some (.inl (h 20 (zwd s 2 pp)))], [.inl 56, .inl (h 20 (zwd s 2 pp))], (zs h hl)) _
          refine zH_br (x := (h 20 (zwd s 2 pp))) (y := 56) (k := .ge) (c1 := (73, [some (.inr (.inr (some 49))), some (.inr (.inr (some (A)))), some (.inl (s : Int)), some (.inl (pp : Int)), some (.inl m_24), some (.inl 2), some (.inl (h 20 (zwd s 2 pp)))], [], (zs h hl))) (c2 := (47, [some (.inr (.inr (some 49))), some (.inr (.inr (some (A)))), some (.inl (s : Int)), some (.inl (pp : Int)), some (.inl m_24), some (.inl 2), some (.inl (h 20 (zwd s 2 pp)))], [], (zs h hl))) rfl (by first | assumption | (unfold zr; omega)) ⟨by decide, by decide⟩ (fun (b_28 : ¬ (h 20 (zwd s 2 pp)) < 56) => ?_) (fun (b_28 : ¬ (¬ (h 20 (zwd s 2 pp)) < 56)) => ?_)
          · refine zH_go 6 (c' := (16, [some (.inr (.inr (some 49))), some (.inr (.inr (some (A)))), some (.inl (s : Int)), some (.inl (pp : Int)), some (.inl m_24), some (.inl 3), some (.inl (h 20 (zwd s 2 pp)))], [.inl (h 18 1), .inl 3], (zs h hl))) rfl ?_
            rw [hL]
            refine zH_bt (x := 3) (y := 3) (k := .ge) (c1 := (79, [some (.inr (.inr (some 49))), some (.inr (.inr (some (A)))), some (.inl (s : Int)), some (.inl (pp : Int)), some (.inl m_24), some (.inl 3), some (.inl (h 20 (zwd s 2 pp)))], [], (zs h hl))) (c2 := (19, [some (.inr (.inr (some 49))), some (.inr (.inr (some (A)))), some (.inl (s : Int)), some (.inl (pp : Int)), some (.inl m_24), some (.inl 3), some (.inl (h 20 (zwd s 2 pp)))], [], (zs h hl))) rfl ⟨by decide, by decide⟩ ⟨by decide, by decide⟩ (by show ¬ 3 < 3; decide) ?_
            refine zH_go 1 (c' := (81, [some (.inr (.inr (some 49))), some (.inr (.inr (some (A)))), some (.inl (s : Int)), some (.inl (pp : Int)), some (.inl m_24), some (.inl 3), some (.inl (h 20 (zwd s 2 pp)))], [.inl m_24], (zs h hl))) rfl ?_
            refine zH_ret (v := some (.inl m_24)) rfl (fun q => absurd q (by decide)) ?_
            refine ⟨congrArg (fun z => some (Sum.inl z)) ?_, rfl⟩
            unfold zAf
            rw [if_neg (by decide), if_neg (by decide)]
            omega
          · refine zH_go 3 (c' := (52, [some (.inr (.inr (some 49))), some (.inr (.inr (some (A)))), some (.inl (s : Int)), some (.inl (pp : Int)), some (.inl m_24), some (.inl 2), some (.inl (h 20 (zwd s 2 pp)))], [.inl (h 20 (zwd s 2 pp)), .inr (.inr (some (A))), .inl m_24], (zs h hl))) rfl ?_
            refine zH_ial rfl (n := 56) hsh (by omega) (by omega) ?_
            show zH _ _ (53, [some (.inr (.inr (some 49))), some (.inr (.inr (some (A)))), some (.inl (s : Int)), some (.inl (pp : Int)), some (.inl m_24), some (.inl 2), some (.inl (h 20 (zwd s 2 pp)))], [.inl (h A (Int.toNat (h 20 (zwd s 2 pp)))), .inl m_24], (zs h hl)) _
            refine zH_go 5 (c' := (61, [some (.inr (.inr (some 49))), some (.inr (.inr (some (A)))), some (.inl (s : Int)), some (.inl (pp : Int)), some (.inl m_24), some (.inl 2), some (.inl (h 20 (zwd s 2 pp)))], [.inl 2, .inl (s : Int), .inl (pp : Int), .inr (.inr (some 3)), .inl (h A (Int.toNat (h 20 (zwd s 2 pp)))), .inl m_24], (zs h hl))) rfl ?_
            refine zH_call (M' := 100) (as := [.inl (s : Int), .inl 2]) (T := [.inl (pp : Int), .inr (.inr (some 3)), .inl (h A (Int.toNat (h 20 (zwd s 2 pp)))), .inl m_24]) rfl (p_digit (n := s) (i := 2) (by omega) (by decide)) (fun r σ' p_29 => ?_)
            obtain ⟨rfl, rfl⟩ := p_29
            show zH _ _ (64, [some (.inr (.inr (some 49))), some (.inr (.inr (some (A)))), some (.inl (s : Int)), some (.inl (pp : Int)), some (.inl m_24), some (.inl 2), some (.inl (h 20 (zwd s 2 pp)))], [.inl ((zdg s 2 : Nat) : Int), .inl (pp : Int), .inr (.inr (some 3)), .inl (h A (Int.toNat (h 20 (zwd s 2 pp)))), .inl m_24], (zs h hl)) _
            refine zH_call (M' := 52) (as := [.inr (.inr (some 3)), .inl (pp : Int), .inl ((zdg s 2 : Nat) : Int)]) (T := [.inl (h A (Int.toNat (h 20 (zwd s 2 pp)))), .inl m_24]) rfl (p_gap (a := pp) (b := zdg s 2) (by omega) (by omega)) (fun r σ' p_30 => ?_)
            obtain ⟨rfl, rfl⟩ := p_30
            show zH _ _ (67, [some (.inr (.inr (some 49))), some (.inr (.inr (some (A)))), some (.inl (s : Int)), some (.inl (pp : Int)), some (.inl m_24), some (.inl 2), some (.inl (h 20 (zwd s 2 pp)))], [.inl (h (12 + pp) (zdg s 2)), .inl (h A (Int.toNat (h 20 (zwd s 2 pp)))), .inl m_24], (zs h hl)) _
            refine zH_go 1 (c' := (68, [some (.inr (.inr (some 49))), some (.inr (.inr (some (A)))), some (.inl (s : Int)), some (.inl (pp : Int)), some (.inl m_24), some (.inl 2), some (.inl (h 20 (zwd s 2 pp)))], [.inl ((h A (Int.toNat (h 20 (zwd s 2 pp)))) + (h (12 + pp) (zdg s 2))), .inl m_24], (zs h hl))) rfl ?_
            refine zH_np (P := zr m_24 ∧ zr ((h A (Int.toNat (h 20 (zwd s 2 pp)))) + (h (12 + pp) (zdg s 2)))) (c' := (71, [some (.inr (.inr (some 49))), some (.inr (.inr (some (A)))), some (.inl (s : Int)), some (.inl (pp : Int)), some (.inl m_24), some (.inl 2), some (.inl (h 20 (zwd s 2 pp)))], [.inl (if ((h A (Int.toNat (h 20 (zwd s 2 pp)))) + (h (12 + pp) (zdg s 2))) < m_24 then ((h A (Int.toNat (h 20 (zwd s 2 pp)))) + (h (12 + pp) (zdg s 2))) else m_24)], (zs h hl))) rfl ⟨(by first | assumption | (unfold zr; omega)), (by first | assumption | (unfold zr; omega))⟩ ?_
            obtain ⟨m_31, em_31, fm_31⟩ := zmin_spec m_24 ((h A (Int.toNat (h 20 (zwd s 2 pp)))) + (h (12 + pp) (zdg s 2)))
            rw [em_31]
            refine zH_go 7 (c' := (16, [some (.inr (.inr (some 49))), some (.inr (.inr (some (A)))), some (.inl (s : Int)), some (.inl (pp : Int)), some (.inl m_31), some (.inl 3), some (.inl (h 20 (zwd s 2 pp)))], [.inl (h 18 1), .inl 3], (zs h hl))) rfl ?_
            rw [hL]
            refine zH_bt (x := 3) (y := 3) (k := .ge) (c1 := (79, [some (.inr (.inr (some 49))), some (.inr (.inr (some (A)))), some (.inl (s : Int)), some (.inl (pp : Int)), some (.inl m_31), some (.inl 3), some (.inl (h 20 (zwd s 2 pp)))], [], (zs h hl))) (c2 := (19, [some (.inr (.inr (some 49))), some (.inr (.inr (some (A)))), some (.inl (s : Int)), some (.inl (pp : Int)), some (.inl m_31), some (.inl 3), some (.inl (h 20 (zwd s 2 pp)))], [], (zs h hl))) rfl ⟨by decide, by decide⟩ ⟨by decide, by decide⟩ (by show ¬ 3 < 3; decide) ?_
            refine zH_go 1 (c' := (81, [some (.inr (.inr (some 49))), some (.inr (.inr (some (A)))), some (.inl (s : Int)), some (.inl (pp : Int)), some (.inl m_31), some (.inl 3), some (.inl (h 20 (zwd s 2 pp)))], [.inl m_31], (zs h hl))) rfl ?_
            refine zH_ret (v := some (.inl m_31)) rfl (fun q => absurd q (by decide)) ?_
            refine ⟨congrArg (fun z => some (Sum.inl z)) ?_, rfl⟩
            unfold zAf
            rw [if_neg (by decide), if_neg (by decide)]
            omega
  · refine zH_go 2 (c' := (43, [some (.inr (.inr (some 49))), some (.inr (.inr (some (A)))), some (.inl (s : Int)), some (.inl (pp : Int)), some (.inl 1000000), some (.inl 0), some (.inl (h 20 (zwd s 0 pp)))], [.inr (.inr (some (A))), .inl (h 20 (zwd s 0 pp))], (zs h hl))) rfl ?_
    refine zH_aln rfl (n := 56) (t := 0) hsh (by decide) ?_
    show zH _ _ (44, [some (.inr (.inr (some 49))), some (.inr (.inr (some (A)))), some (.inl (s : Int)), some (.inl (pp : Int)), some (.inl 1000000), some (.inl 0), some (.inl (h 20 (zwd s 0 pp)))], [.inl 56, .inl (h 20 (zwd s 0 pp))], (zs h hl)) _
    refine zH_br (x := (h 20 (zwd s 0 pp))) (y := 56) (k := .ge) (c1 := (73, [some (.inr (.inr (some 49))), some (.inr (.inr (some (A)))), some (.inl (s : Int)), some (.inl (pp : Int)), some (.inl 1000000), some (.inl 0), some (.inl (h 20 (zwd s 0 pp)))], [], (zs h hl))) (c2 := (47, [some (.inr (.inr (some 49))), some (.inr (.inr (some (A)))), some (.inl (s : Int)), some (.inl (pp : Int)), some (.inl 1000000), some (.inl 0), some (.inl (h 20 (zwd s 0 pp)))], [], (zs h hl))) rfl (by first | assumption | (unfold zr; omega)) ⟨by decide, by decide⟩ (fun (b_32 : ¬ (h 20 (zwd s 0 pp)) < 56) => ?_) (fun (b_32 : ¬ (¬ (h 20 (zwd s 0 pp)) < 56)) => ?_)
    · refine zH_go 6 (c' := (16, [some (.inr (.inr (some 49))), some (.inr (.inr (some (A)))), some (.inl (s : Int)), some (.inl (pp : Int)), some (.inl 1000000), some (.inl 1), some (.inl (h 20 (zwd s 0 pp)))], [.inl (h 18 1), .inl 1], (zs h hl))) rfl ?_
      rw [hL]
      refine zH_bf (x := 1) (y := 3) (k := .ge) (c1 := (79, [some (.inr (.inr (some 49))), some (.inr (.inr (some (A)))), some (.inl (s : Int)), some (.inl (pp : Int)), some (.inl 1000000), some (.inl 1), some (.inl (h 20 (zwd s 0 pp)))], [], (zs h hl))) (c2 := (19, [some (.inr (.inr (some 49))), some (.inr (.inr (some (A)))), some (.inl (s : Int)), some (.inl (pp : Int)), some (.inl 1000000), some (.inl 1), some (.inl (h 20 (zwd s 0 pp)))], [], (zs h hl))) rfl ⟨by decide, by decide⟩ ⟨by decide, by decide⟩ (by show ¬ (¬ 1 < 3); decide) ?_
      refine zH_go 5 (c' := (27, [some (.inr (.inr (some 49))), some (.inr (.inr (some (A)))), some (.inl (s : Int)), some (.inl (pp : Int)), some (.inl 1000000), some (.inl 1), some (.inl (h 20 (zwd s 0 pp)))], [.inl (pp : Int), .inl 1, .inl (s : Int), .inr (.inr (some 18))], (zs h hl))) rfl ?_
      refine zH_call (M' := 101) (as := [.inl (s : Int), .inl 1, .inl (pp : Int)]) (T := [.inr (.inr (some 18))]) rfl (p_withDigit (n := s) (i := 1) (v := pp) (by omega) (by decide) (by omega)) (fun r σ' p_33 => ?_)
      obtain ⟨rfl, rfl⟩ := p_33
      show zH _ _ (30, [some (.inr (.inr (some 49))), some (.inr (.inr (some (A)))), some (.inl (s : Int)), some (.inl (pp : Int)), some (.inl 1000000), some (.inl 1), some (.inl (h 20 (zwd s 0 pp)))], [.inl ((zwd s 1 pp : Nat) : Int), .inr (.inr (some 18))], (zs h hl)) _
      refine zH_call (M' := 44) (as := [.inr (.inr (some 18)), .inl ((zwd s 1 pp : Nat) : Int)]) (T := []) rfl (p_slot (n := zwd s 1 pp) (by omega)) (fun r σ' p_34 => ?_)
      obtain ⟨rfl, rfl⟩ := p_34
      show zH _ _ (33, [some (.inr (.inr (some 49))), some (.inr (.inr (some (A)))), some (.inl (s : Int)), some (.inl (pp : Int)), some (.inl 1000000), some (.inl 1), some (.inl (h 20 (zwd s 0 pp)))], [.inl (h 20 (zwd s 1 pp))], (zs h hl)) _
      refine zH_go 2 (c' := (37, [some (.inr (.inr (some 49))), some (.inr (.inr (some (A)))), some (.inl (s : Int)), some (.inl (pp : Int)), some (.inl 1000000), some (.inl 1), some (.inl (h 20 (zwd s 1 pp)))], [.inl (h 20 (zwd s 1 pp))], (zs h hl))) rfl ?_
      refine zH_br (x := (h 20 (zwd s 1 pp))) (y := 0) (k := .lt) (c1 := (73, [some (.inr (.inr (some 49))), some (.inr (.inr (some (A)))), some (.inl (s : Int)), some (.inl (pp : Int)), some (.inl 1000000), some (.inl 1), some (.inl (h 20 (zwd s 1 pp)))], [], (zs h hl))) (c2 := (40, [some (.inr (.inr (some 49))), some (.inr (.inr (some (A)))), some (.inl (s : Int)), some (.inl (pp : Int)), some (.inl 1000000), some (.inl 1), some (.inl (h 20 (zwd s 1 pp)))], [], (zs h hl))) rfl (by first | assumption | (unfold zr; omega)) ⟨by decide, by decide⟩ (fun (b_35 : (h 20 (zwd s 1 pp)) < 0) => ?_) (fun (b_35 : ¬ ((h 20 (zwd s 1 pp)) < 0)) => ?_)
      · refine zH_go 6 (c' := (16, [some (.inr (.inr (some 49))), some (.inr (.inr (some (A)))), some (.inl (s : Int)), some (.inl (pp : Int)), some (.inl 1000000), some (.inl 2), some (.inl (h 20 (zwd s 1 pp)))], [.inl (h 18 1), .inl 2], (zs h hl))) rfl ?_
        rw [hL]
        refine zH_bf (x := 2) (y := 3) (k := .ge) (c1 := (79, [some (.inr (.inr (some 49))), some (.inr (.inr (some (A)))), some (.inl (s : Int)), some (.inl (pp : Int)), some (.inl 1000000), some (.inl 2), some (.inl (h 20 (zwd s 1 pp)))], [], (zs h hl))) (c2 := (19, [some (.inr (.inr (some 49))), some (.inr (.inr (some (A)))), some (.inl (s : Int)), some (.inl (pp : Int)), some (.inl 1000000), some (.inl 2), some (.inl (h 20 (zwd s 1 pp)))], [], (zs h hl))) rfl ⟨by decide, by decide⟩ ⟨by decide, by decide⟩ (by show ¬ (¬ 2 < 3); decide) ?_
        refine zH_go 5 (c' := (27, [some (.inr (.inr (some 49))), some (.inr (.inr (some (A)))), some (.inl (s : Int)), some (.inl (pp : Int)), some (.inl 1000000), some (.inl 2), some (.inl (h 20 (zwd s 1 pp)))], [.inl (pp : Int), .inl 2, .inl (s : Int), .inr (.inr (some 18))], (zs h hl))) rfl ?_
        refine zH_call (M' := 101) (as := [.inl (s : Int), .inl 2, .inl (pp : Int)]) (T := [.inr (.inr (some 18))]) rfl (p_withDigit (n := s) (i := 2) (v := pp) (by omega) (by decide) (by omega)) (fun r σ' p_36 => ?_)
        obtain ⟨rfl, rfl⟩ := p_36
        show zH _ _ (30, [some (.inr (.inr (some 49))), some (.inr (.inr (some (A)))), some (.inl (s : Int)), some (.inl (pp : Int)), some (.inl 1000000), some (.inl 2), some (.inl (h 20 (zwd s 1 pp)))], [.inl ((zwd s 2 pp : Nat) : Int), .inr (.inr (some 18))], (zs h hl)) _
        refine zH_call (M' := 44) (as := [.inr (.inr (some 18)), .inl ((zwd s 2 pp : Nat) : Int)]) (T := []) rfl (p_slot (n := zwd s 2 pp) (by omega)) (fun r σ' p_37 => ?_)
        obtain ⟨rfl, rfl⟩ := p_37
        show zH _ _ (33, [some (.inr (.inr (some 49))), some (.inr (.inr (some (A)))), some (.inl (s : Int)), some (.inl (pp : Int)), some (.inl 1000000), some (.inl 2), some (.inl (h 20 (zwd s 1 pp)))], [.inl (h 20 (zwd s 2 pp))], (zs h hl)) _
        refine zH_go 2 (c' := (37, [some (.inr (.inr (some 49))), some (.inr (.inr (some (A)))), some (.inl (s : Int)), some (.inl (pp : Int)), some (.inl 1000000), some (.inl 2), some (.inl (h 20 (zwd s 2 pp)))], [.inl (h 20 (zwd s 2 pp))], (zs h hl))) rfl ?_
        refine zH_br (x := (h 20 (zwd s 2 pp))) (y := 0) (k := .lt) (c1 := (73, [some (.inr (.inr (some 49))), some (.inr (.inr (some (A)))), some (.inl (s : Int)), some (.inl (pp : Int)), some (.inl 1000000), some (.inl 2), some (.inl (h 20 (zwd s 2 pp)))], [], (zs h hl))) (c2 := (40, [some (.inr (.inr (some 49))), some (.inr (.inr (some (A)))), some (.inl (s : Int)), some (.inl (pp : Int)), some (.inl 1000000), some (.inl 2), some (.inl (h 20 (zwd s 2 pp)))], [], (zs h hl))) rfl (by first | assumption | (unfold zr; omega)) ⟨by decide, by decide⟩ (fun (b_38 : (h 20 (zwd s 2 pp)) < 0) => ?_) (fun (b_38 : ¬ ((h 20 (zwd s 2 pp)) < 0)) => ?_)
        · refine zH_go 6 (c' := (16, [some (.inr (.inr (some 49))), some (.inr (.inr (some (A)))), some (.inl (s : Int)), some (.inl (pp : Int)), some (.inl 1000000), some (.inl 3), some (.inl (h 20 (zwd s 2 pp)))], [.inl (h 18 1), .inl 3], (zs h hl))) rfl ?_
          rw [hL]
          refine zH_bt (x := 3) (y := 3) (k := .ge) (c1 := (79, [some (.inr (.inr (some 49))), some (.inr (.inr (some (A)))), some (.inl (s : Int)), some (.inl (pp : Int)), some (.inl 1000000), some (.inl 3), some (.inl (h 20 (zwd s 2 pp)))], [], (zs h hl))) (c2 := (19, [some (.inr (.inr (some 49))), some (.inr (.inr (some (A)))), some (.inl (s : Int)), some (.inl (pp : Int)), some (.inl 1000000), some (.inl 3), some (.inl (h 20 (zwd s 2 pp)))], [], (zs h hl))) rfl ⟨by decide, by decide⟩ ⟨by decide, by decide⟩ (by show ¬ 3 < 3; decide) ?_
          refine zH_go 1 (c' := (81, [some (.inr (.inr (some 49))), some (.inr (.inr (some (A)))), some (.inl (s : Int)), some (.inl (pp : Int)), some (.inl 1000000), some (.inl 3), some (.inl (h 20 (zwd s 2 pp)))], [.inl 1000000], (zs h hl))) rfl ?_
          refine zH_ret (v := some (.inl 1000000)) rfl (fun q => absurd q (by decide)) ?_
          refine ⟨congrArg (fun z => some (Sum.inl z)) ?_, rfl⟩
          unfold zAf
          rw [if_neg (by decide), if_neg (by decide)]
          omega
        · refine zH_go 2 (c' := (43, [some (.inr (.inr (some 49))), some (.inr (.inr (some (A)))), some (.inl (s : Int)), some (.inl (pp : Int)), some (.inl 1000000), some (.inl 2), some (.inl (h 20 (zwd s 2 pp)))], [.inr (.inr (some (A))), .inl (h 20 (zwd s 2 pp))], (zs h hl))) rfl ?_
          refine zH_aln rfl (n := 56) (t := 0) hsh (by decide) ?_
          show zH _ _ (44, [some (.inr (.inr (some 49))), some (.inr (.inr (some (A)))), some (.inl (s : Int)), some (.inl (pp : Int)), some (.inl 1000000), some (.inl 2), some (.inl (h 20 (zwd s 2 pp)))], [.inl 56, .inl (h 20 (zwd s 2 pp))], (zs h hl)) _
          refine zH_br (x := (h 20 (zwd s 2 pp))) (y := 56) (k := .ge) (c1 := (73, [some (.inr (.inr (some 49))), some (.inr (.inr (some (A)))), some (.inl (s : Int)), some (.inl (pp : Int)), some (.inl 1000000), some (.inl 2), some (.inl (h 20 (zwd s 2 pp)))], [], (zs h hl))) (c2 := (47, [some (.inr (.inr (some 49))), some (.inr (.inr (some (A)))), some (.inl (s : Int)), some (.inl (pp : Int)), some (.inl 1000000), some (.inl 2), some (.inl (h 20 (zwd s 2 pp)))], [], (zs h hl))) rfl (by first | assumption | (unfold zr; omega)) ⟨by decide, by decide⟩ (fun (b_39 : ¬ (h 20 (zwd s 2 pp)) < 56) => ?_) (fun (b_39 : ¬ (¬ (h 20 (zwd s 2 pp)) < 56)) => ?_)
          · refine zH_go 6 (c' := (16, [some (.inr (.inr (some 49))), some (.inr (.inr (some (A)))), some (.inl (s : Int)), some (.inl (pp : Int)), some (.inl 1000000), some (.inl 3), some (.inl (h 20 (zwd s 2 pp)))], [.inl (h 18 1), .inl 3], (zs h hl))) rfl ?_
            rw [hL]
            refine zH_bt (x := 3) (y := 3) (k := .ge) (c1 := (79, [some (.inr (.inr (some 49))), some (.inr (.inr (some (A)))), some (.inl (s : Int)), some (.inl (pp : Int)), some (.inl 1000000), some (.inl 3), some (.inl (h 20 (zwd s 2 pp)))], [], (zs h hl))) (c2 := (19, [some (.inr (.inr (some 49))), some (.inr (.inr (some (A)))), some (.inl (s : Int)), some (.inl (pp : Int)), some (.inl 1000000), some (.inl 3), some (.inl (h 20 (zwd s 2 pp)))], [], (zs h hl))) rfl ⟨by decide, by decide⟩ ⟨by decide, by decide⟩ (by show ¬ 3 < 3; decide) ?_
            refine zH_go 1 (c' := (81, [some (.inr (.inr (some 49))), some (.inr (.inr (some (A)))), some (.inl (s : Int)), some (.inl (pp : Int)), some (.inl 1000000), some (.inl 3), some (.inl (h 20 (zwd s 2 pp)))], [.inl 1000000], (zs h hl))) rfl ?_
            refine zH_ret (v := some (.inl 1000000)) rfl (fun q => absurd q (by decide)) ?_
            refine ⟨congrArg (fun z => some (Sum.inl z)) ?_, rfl⟩
            unfold zAf
            rw [if_neg (by decide), if_neg (by decide)]
            omega
          · refine zH_go 3 (c' := (52, [some (.inr (.inr (some 49))), some (.inr (.inr (some (A)))), some (.inl (s : Int)), some (.inl (pp : Int)), some (.inl 1000000), some (.inl 2), some (.inl (h 20 (zwd s 2 pp)))], [.inl (h 20 (zwd s 2 pp)), .inr (.inr (some (A))), .inl 1000000], (zs h hl))) rfl ?_
            refine zH_ial rfl (n := 56) hsh (by omega) (by omega) ?_
            show zH _ _ (53, [some (.inr (.inr (some 49))), some (.inr (.inr (some (A)))), some (.inl (s : Int)), some (.inl (pp : Int)), some (.inl 1000000), some (.inl 2), some (.inl (h 20 (zwd s 2 pp)))], [.inl (h A (Int.toNat (h 20 (zwd s 2 pp)))), .inl 1000000], (zs h hl)) _
            refine zH_go 5 (c' := (61, [some (.inr (.inr (some 49))), some (.inr (.inr (some (A)))), some (.inl (s : Int)), some (.inl (pp : Int)), some (.inl 1000000), some (.inl 2), some (.inl (h 20 (zwd s 2 pp)))], [.inl 2, .inl (s : Int), .inl (pp : Int), .inr (.inr (some 3)), .inl (h A (Int.toNat (h 20 (zwd s 2 pp)))), .inl 1000000], (zs h hl))) rfl ?_
            refine zH_call (M' := 100) (as := [.inl (s : Int), .inl 2]) (T := [.inl (pp : Int), .inr (.inr (some 3)), .inl (h A (Int.toNat (h 20 (zwd s 2 pp)))), .inl 1000000]) rfl (p_digit (n := s) (i := 2) (by omega) (by decide)) (fun r σ' p_40 => ?_)
            obtain ⟨rfl, rfl⟩ := p_40
            show zH _ _ (64, [some (.inr (.inr (some 49))), some (.inr (.inr (some (A)))), some (.inl (s : Int)), some (.inl (pp : Int)), some (.inl 1000000), some (.inl 2), some (.inl (h 20 (zwd s 2 pp)))], [.inl ((zdg s 2 : Nat) : Int), .inl (pp : Int), .inr (.inr (some 3)), .inl (h A (Int.toNat (h 20 (zwd s 2 pp)))), .inl 1000000], (zs h hl)) _
            refine zH_call (M' := 52) (as := [.inr (.inr (some 3)), .inl (pp : Int), .inl ((zdg s 2 : Nat) : Int)]) (T := [.inl (h A (Int.toNat (h 20 (zwd s 2 pp)))), .inl 1000000]) rfl (p_gap (a := pp) (b := zdg s 2) (by omega) (by omega)) (fun r σ' p_41 => ?_)
            obtain ⟨rfl, rfl⟩ := p_41
            show zH _ _ (67, [some (.inr (.inr (some 49))), some (.inr (.inr (some (A)))), some (.inl (s : Int)), some (.inl (pp : Int)), some (.inl 1000000), some (.inl 2), some (.inl (h 20 (zwd s 2 pp)))], [.inl (h (12 + pp) (zdg s 2)), .inl (h A (Int.toNat (h 20 (zwd s 2 pp)))), .inl 1000000], (zs h hl)) _
            refine zH_go 1 (c' := (68, [some (.inr (.inr (some 49))), some (.inr (.inr (some (A)))), some (.inl (s : Int)), some (.inl (pp : Int)), some (.inl 1000000), some (.inl 2), some (.inl (h 20 (zwd s 2 pp)))], [.inl ((h A (Int.toNat (h 20 (zwd s 2 pp)))) + (h (12 + pp) (zdg s 2))), .inl 1000000], (zs h hl))) rfl ?_
            refine zH_np (P := zr 1000000 ∧ zr ((h A (Int.toNat (h 20 (zwd s 2 pp)))) + (h (12 + pp) (zdg s 2)))) (c' := (71, [some (.inr (.inr (some 49))), some (.inr (.inr (some (A)))), some (.inl (s : Int)), some (.inl (pp : Int)), some (.inl 1000000), some (.inl 2), some (.inl (h 20 (zwd s 2 pp)))], [.inl (if ((h A (Int.toNat (h 20 (zwd s 2 pp)))) + (h (12 + pp) (zdg s 2))) < 1000000 then ((h A (Int.toNat (h 20 (zwd s 2 pp)))) + (h (12 + pp) (zdg s 2))) else 1000000)], (zs h hl))) rfl ⟨⟨by decide, by decide⟩, (by first | assumption | (unfold zr; omega))⟩ ?_
            obtain ⟨m_42, em_42, fm_42⟩ := zmin_spec 1000000 ((h A (Int.toNat (h 20 (zwd s 2 pp)))) + (h (12 + pp) (zdg s 2)))
            rw [em_42]
            refine zH_go 7 (c' := (16, [some (.inr (.inr (some 49))), some (.inr (.inr (some (A)))), some (.inl (s : Int)), some (.inl (pp : Int)), some (.inl m_42), some (.inl 3), some (.inl (h 20 (zwd s 2 pp)))], [.inl (h 18 1), .inl 3], (zs h hl))) rfl ?_
            rw [hL]
            refine zH_bt (x := 3) (y := 3) (k := .ge) (c1 := (79, [some (.inr (.inr (some 49))), some (.inr (.inr (some (A)))), some (.inl (s : Int)), some (.inl (pp : Int)), some (.inl m_42), some (.inl 3), some (.inl (h 20 (zwd s 2 pp)))], [], (zs h hl))) (c2 := (19, [some (.inr (.inr (some 49))), some (.inr (.inr (some (A)))), some (.inl (s : Int)), some (.inl (pp : Int)), some (.inl m_42), some (.inl 3), some (.inl (h 20 (zwd s 2 pp)))], [], (zs h hl))) rfl ⟨by decide, by decide⟩ ⟨by decide, by decide⟩ (by show ¬ 3 < 3; decide) ?_
            refine zH_go 1 (c' := (81, [some (.inr (.inr (some 49))), some (.inr (.inr (some (A)))), some (.inl (s : Int)), some (.inl (pp : Int)), some (.inl m_42), some (.inl 3), some (.inl (h 20 (zwd s 2 pp)))], [.inl m_42], (zs h hl))) rfl ?_
            refine zH_ret (v := some (.inl m_42)) rfl (fun q => absurd q (by decide)) ?_
            refine ⟨congrArg (fun z => some (Sum.inl z)) ?_, rfl⟩
            unfold zAf
            rw [if_neg (by decide), if_neg (by decide)]
            omega
      · refine zH_go 2 (c' := (43, [some (.inr (.inr (some 49))), some (.inr (.inr (some (A)))), some (.inl (s : Int)), some (.inl (pp : Int)), some (.inl 1000000), some (.inl 1), some (.inl (h 20 (zwd s 1 pp)))], [.inr (.inr (some (A))), .inl (h 20 (zwd s 1 pp))], (zs h hl))) rfl ?_
        refine zH_aln rfl (n := 56) (t := 0) hsh (by decide) ?_
        show zH _ _ (44, [some (.inr (.inr (some 49))), some (.inr (.inr (some (A)))), some (.inl (s : Int)), some (.inl (pp : Int)), some (.inl 1000000), some (.inl 1), some (.inl (h 20 (zwd s 1 pp)))], [.inl 56, .inl (h 20 (zwd s 1 pp))], (zs h hl)) _
        refine zH_br (x := (h 20 (zwd s 1 pp))) (y := 56) (k := .ge) (c1 := (73, [some (.inr (.inr (some 49))), some (.inr (.inr (some (A)))), some (.inl (s : Int)), some (.inl (pp : Int)), some (.inl 1000000), some (.inl 1), some (.inl (h 20 (zwd s 1 pp)))], [], (zs h hl))) (c2 := (47, [some (.inr (.inr (some 49))), some (.inr (.inr (some (A)))), some (.inl (s : Int)), some (.inl (pp : Int)), some (.inl 1000000), some (.inl 1), some (.inl (h 20 (zwd s 1 pp)))], [], (zs h hl))) rfl (by first | assumption | (unfold zr; omega)) ⟨by decide, by decide⟩ (fun (b_43 : ¬ (h 20 (zwd s 1 pp)) < 56) => ?_) (fun (b_43 : ¬ (¬ (h 20 (zwd s 1 pp)) < 56)) => ?_)
        · refine zH_go 6 (c' := (16, [some (.inr (.inr (some 49))), some (.inr (.inr (some (A)))), some (.inl (s : Int)), some (.inl (pp : Int)), some (.inl 1000000), some (.inl 2), some (.inl (h 20 (zwd s 1 pp)))], [.inl (h 18 1), .inl 2], (zs h hl))) rfl ?_
          rw [hL]
          refine zH_bf (x := 2) (y := 3) (k := .ge) (c1 := (79, [some (.inr (.inr (some 49))), some (.inr (.inr (some (A)))), some (.inl (s : Int)), some (.inl (pp : Int)), some (.inl 1000000), some (.inl 2), some (.inl (h 20 (zwd s 1 pp)))], [], (zs h hl))) (c2 := (19, [some (.inr (.inr (some 49))), some (.inr (.inr (some (A)))), some (.inl (s : Int)), some (.inl (pp : Int)), some (.inl 1000000), some (.inl 2), some (.inl (h 20 (zwd s 1 pp)))], [], (zs h hl))) rfl ⟨by decide, by decide⟩ ⟨by decide, by decide⟩ (by show ¬ (¬ 2 < 3); decide) ?_
          refine zH_go 5 (c' := (27, [some (.inr (.inr (some 49))), some (.inr (.inr (some (A)))), some (.inl (s : Int)), some (.inl (pp : Int)), some (.inl 1000000), some (.inl 2), some (.inl (h 20 (zwd s 1 pp)))], [.inl (pp : Int), .inl 2, .inl (s : Int), .inr (.inr (some 18))], (zs h hl))) rfl ?_
          refine zH_call (M' := 101) (as := [.inl (s : Int), .inl 2, .inl (pp : Int)]) (T := [.inr (.inr (some 18))]) rfl (p_withDigit (n := s) (i := 2) (v := pp) (by omega) (by decide) (by omega)) (fun r σ' p_44 => ?_)
          obtain ⟨rfl, rfl⟩ := p_44
          show zH _ _ (30, [some (.inr (.inr (some 49))), some (.inr (.inr (some (A)))), some (.inl (s : Int)), some (.inl (pp : Int)), some (.inl 1000000), some (.inl 2), some (.inl (h 20 (zwd s 1 pp)))], [.inl ((zwd s 2 pp : Nat) : Int), .inr (.inr (some 18))], (zs h hl)) _
          refine zH_call (M' := 44) (as := [.inr (.inr (some 18)), .inl ((zwd s 2 pp : Nat) : Int)]) (T := []) rfl (p_slot (n := zwd s 2 pp) (by omega)) (fun r σ' p_45 => ?_)
          obtain ⟨rfl, rfl⟩ := p_45
          show zH _ _ (33, [some (.inr (.inr (some 49))), some (.inr (.inr (some (A)))), some (.inl (s : Int)), some (.inl (pp : Int)), some (.inl 1000000), some (.inl 2), some (.inl (h 20 (zwd s 1 pp)))], [.inl (h 20 (zwd s 2 pp))], (zs h hl)) _
          refine zH_go 2 (c' := (37, [some (.inr (.inr (some 49))), some (.inr (.inr (some (A)))), some (.inl (s : Int)), some (.inl (pp : Int)), some (.inl 1000000), some (.inl 2), some (.inl (h 20 (zwd s 2 pp)))], [.inl (h 20 (zwd s 2 pp))], (zs h hl))) rfl ?_
          refine zH_br (x := (h 20 (zwd s 2 pp))) (y := 0) (k := .lt) (c1 := (73, [some (.inr (.inr (some 49))), some (.inr (.inr (some (A)))), some (.inl (s : Int)), some (.inl (pp : Int)), some (.inl 1000000), some (.inl 2), some (.inl (h 20 (zwd s 2 pp)))], [], (zs h hl))) (c2 := (40, [some (.inr (.inr (some 49))), some (.inr (.inr (some (A)))), some (.inl (s : Int)), some (.inl (pp : Int)), some (.inl 1000000), some (.inl 2), some (.inl (h 20 (zwd s 2 pp)))], [], (zs h hl))) rfl (by first | assumption | (unfold zr; omega)) ⟨by decide, by decide⟩ (fun (b_46 : (h 20 (zwd s 2 pp)) < 0) => ?_) (fun (b_46 : ¬ ((h 20 (zwd s 2 pp)) < 0)) => ?_)
          · refine zH_go 6 (c' := (16, [some (.inr (.inr (some 49))), some (.inr (.inr (some (A)))), some (.inl (s : Int)), some (.inl (pp : Int)), some (.inl 1000000), some (.inl 3), some (.inl (h 20 (zwd s 2 pp)))], [.inl (h 18 1), .inl 3], (zs h hl))) rfl ?_
            rw [hL]
            refine zH_bt (x := 3) (y := 3) (k := .ge) (c1 := (79, [some (.inr (.inr (some 49))), some (.inr (.inr (some (A)))), some (.inl (s : Int)), some (.inl (pp : Int)), some (.inl 1000000), some (.inl 3), some (.inl (h 20 (zwd s 2 pp)))], [], (zs h hl))) (c2 := (19, [some (.inr (.inr (some 49))), some (.inr (.inr (some (A)))), some (.inl (s : Int)), some (.inl (pp : Int)), some (.inl 1000000), some (.inl 3), some (.inl (h 20 (zwd s 2 pp)))], [], (zs h hl))) rfl ⟨by decide, by decide⟩ ⟨by decide, by decide⟩ (by show ¬ 3 < 3; decide) ?_
            refine zH_go 1 (c' := (81, [some (.inr (.inr (some 49))), some (.inr (.inr (some (A)))), some (.inl (s : Int)), some (.inl (pp : Int)), some (.inl 1000000), some (.inl 3), some (.inl (h 20 (zwd s 2 pp)))], [.inl 1000000], (zs h hl))) rfl ?_
            refine zH_ret (v := some (.inl 1000000)) rfl (fun q => absurd q (by decide)) ?_
            refine ⟨congrArg (fun z => some (Sum.inl z)) ?_, rfl⟩
            unfold zAf
            rw [if_neg (by decide), if_neg (by decide)]
            omega
          · refine zH_go 2 (c' := (43, [some (.inr (.inr (some 49))), some (.inr (.inr (some (A)))), some (.inl (s : Int)), some (.inl (pp : Int)), some (.inl 1000000), some (.inl 2), some (.inl (h 20 (zwd s 2 pp)))], [.inr (.inr (some (A))), .inl (h 20 (zwd s 2 pp))], (zs h hl))) rfl ?_
            refine zH_aln rfl (n := 56) (t := 0) hsh (by decide) ?_
            show zH _ _ (44, [some (.inr (.inr (some 49))), some (.inr (.inr (some (A)))), some (.inl (s : Int)), some (.inl (pp : Int)), some (.inl 1000000), some (.inl 2), some (.inl (h 20 (zwd s 2 pp)))], [.inl 56, .inl (h 20 (zwd s 2 pp))], (zs h hl)) _
            refine zH_br (x := (h 20 (zwd s 2 pp))) (y := 56) (k := .ge) (c1 := (73, [some (.inr (.inr (some 49))), some (.inr (.inr (some (A)))), some (.inl (s : Int)), some (.inl (pp : Int)), some (.inl 1000000), some (.inl 2), some (.inl (h 20 (zwd s 2 pp)))], [], (zs h hl))) (c2 := (47, [some (.inr (.inr (some 49))), some (.inr (.inr (some (A)))), some (.inl (s : Int)), some (.inl (pp : Int)), some (.inl 1000000), some (.inl 2), some (.inl (h 20 (zwd s 2 pp)))], [], (zs h hl))) rfl (by first | assumption | (unfold zr; omega)) ⟨by decide, by decide⟩ (fun (b_47 : ¬ (h 20 (zwd s 2 pp)) < 56) => ?_) (fun (b_47 : ¬ (¬ (h 20 (zwd s 2 pp)) < 56)) => ?_)
            · refine zH_go 6 (c' := (16, [some (.inr (.inr (some 49))), some (.inr (.inr (some (A)))), some (.inl (s : Int)), some (.inl (pp : Int)), some (.inl 1000000), some (.inl 3), some (.inl (h 20 (zwd s 2 pp)))], [.inl (h 18 1), .inl 3], (zs h hl))) rfl ?_
              rw [hL]
              refine zH_bt (x := 3) (y := 3) (k := .ge) (c1 := (79, [some (.inr (.inr (some 49))), some (.inr (.inr (some (A)))), some (.inl (s : Int)), some (.inl (pp : Int)), some (.inl 1000000), some (.inl 3), some (.inl (h 20 (zwd s 2 pp)))], [], (zs h hl))) (c2 := (19, [some (.inr (.inr (some 49))), some (.inr (.inr (some (A)))), some (.inl (s : Int)), some (.inl (pp : Int)), some (.inl 1000000), some (.inl 3), some (.inl (h 20 (zwd s 2 pp)))], [], (zs h hl))) rfl ⟨by decide, by decide⟩ ⟨by decide, by decide⟩ (by show ¬ 3 < 3; decide) ?_
              refine zH_go 1 (c' := (81, [some (.inr (.inr (some 49))), some (.inr (.inr (some (A)))), some (.inl (s : Int)), some (.inl (pp : Int)), some (.inl 1000000), some (.inl 3), some (.inl (h 20 (zwd s 2 pp)))], [.inl 1000000], (zs h hl))) rfl ?_
              refine zH_ret (v := some (.inl 1000000)) rfl (fun q => absurd q (by decide)) ?_
              refine ⟨congrArg (fun z => some (Sum.inl z)) ?_, rfl⟩
              unfold zAf
              rw [if_neg (by decide), if_neg (by decide)]
              omega
            · refine zH_go 3 (c' := (52, [some (.inr (.inr (some 49))), some (.inr (.inr (some (A)))), some (.inl (s : Int)), some (.inl (pp : Int)), some (.inl 1000000), some (.inl 2), some (.inl (h 20 (zwd s 2 pp)))], [.inl (h 20 (zwd s 2 pp)), .inr (.inr (some (A))), .inl 1000000], (zs h hl))) rfl ?_
              refine zH_ial rfl (n := 56) hsh (by omega) (by omega) ?_
              show zH _ _ (53, [some (.inr (.inr (some 49))), some (.inr (.inr (some (A)))), some (.inl (s : Int)), some (.inl (pp : Int)), some (.inl 1000000), some (.inl 2), some (.inl (h 20 (zwd s 2 pp)))], [.inl (h A (Int.toNat (h 20 (zwd s 2 pp)))), .inl 1000000], (zs h hl)) _
              refine zH_go 5 (c' := (61, [some (.inr (.inr (some 49))), some (.inr (.inr (some (A)))), some (.inl (s : Int)), some (.inl (pp : Int)), some (.inl 1000000), some (.inl 2), some (.inl (h 20 (zwd s 2 pp)))], [.inl 2, .inl (s : Int), .inl (pp : Int), .inr (.inr (some 3)), .inl (h A (Int.toNat (h 20 (zwd s 2 pp)))), .inl 1000000], (zs h hl))) rfl ?_
              refine zH_call (M' := 100) (as := [.inl (s : Int), .inl 2]) (T := [.inl (pp : Int), .inr (.inr (some 3)), .inl (h A (Int.toNat (h 20 (zwd s 2 pp)))), .inl 1000000]) rfl (p_digit (n := s) (i := 2) (by omega) (by decide)) (fun r σ' p_48 => ?_)
              obtain ⟨rfl, rfl⟩ := p_48
              show zH _ _ (64, [some (.inr (.inr (some 49))), some (.inr (.inr (some (A)))), some (.inl (s : Int)), some (.inl (pp : Int)), some (.inl 1000000), some (.inl 2), some (.inl (h 20 (zwd s 2 pp)))], [.inl ((zdg s 2 : Nat) : Int), .inl (pp : Int), .inr (.inr (some 3)), .inl (h A (Int.toNat (h 20 (zwd s 2 pp)))), .inl 1000000], (zs h hl)) _
              refine zH_call (M' := 52) (as := [.inr (.inr (some 3)), .inl (pp : Int), .inl ((zdg s 2 : Nat) : Int)]) (T := [.inl (h A (Int.toNat (h 20 (zwd s 2 pp)))), .inl 1000000]) rfl (p_gap (a := pp) (b := zdg s 2) (by omega) (by omega)) (fun r σ' p_49 => ?_)
              obtain ⟨rfl, rfl⟩ := p_49
              show zH _ _ (67, [some (.inr (.inr (some 49))), some (.inr (.inr (some (A)))), some (.inl (s : Int)), some (.inl (pp : Int)), some (.inl 1000000), some (.inl 2), some (.inl (h 20 (zwd s 2 pp)))], [.inl (h (12 + pp) (zdg s 2)), .inl (h A (Int.toNat (h 20 (zwd s 2 pp)))), .inl 1000000], (zs h hl)) _
              refine zH_go 1 (c' := (68, [some (.inr (.inr (some 49))), some (.inr (.inr (some (A)))), some (.inl (s : Int)), some (.inl (pp : Int)), some (.inl 1000000), some (.inl 2), some (.inl (h 20 (zwd s 2 pp)))], [.inl ((h A (Int.toNat (h 20 (zwd s 2 pp)))) + (h (12 + pp) (zdg s 2))), .inl 1000000], (zs h hl))) rfl ?_
              refine zH_np (P := zr 1000000 ∧ zr ((h A (Int.toNat (h 20 (zwd s 2 pp)))) + (h (12 + pp) (zdg s 2)))) (c' := (71, [some (.inr (.inr (some 49))), some (.inr (.inr (some (A)))), some (.inl (s : Int)), some (.inl (pp : Int)), some (.inl 1000000), some (.inl 2), some (.inl (h 20 (zwd s 2 pp)))], [.inl (if ((h A (Int.toNat (h 20 (zwd s 2 pp)))) + (h (12 + pp) (zdg s 2))) < 1000000 then ((h A (Int.toNat (h 20 (zwd s 2 pp)))) + (h (12 + pp) (zdg s 2))) else 1000000)], (zs h hl))) rfl ⟨⟨by decide, by decide⟩, (by first | assumption | (unfold zr; omega))⟩ ?_
              obtain ⟨m_50, em_50, fm_50⟩ := zmin_spec 1000000 ((h A (Int.toNat (h 20 (zwd s 2 pp)))) + (h (12 + pp) (zdg s 2)))
              rw [em_50]
              refine zH_go 7 (c' := (16, [some (.inr (.inr (some 49))), some (.inr (.inr (some (A)))), some (.inl (s : Int)), some (.inl (pp : Int)), some (.inl m_50), some (.inl 3), some (.inl (h 20 (zwd s 2 pp)))], [.inl (h 18 1), .inl 3], (zs h hl))) rfl ?_
              rw [hL]
              refine zH_bt (x := 3) (y := 3) (k := .ge) (c1 := (79, [some (.inr (.inr (some 49))), some (.inr (.inr (some (A)))), some (.inl (s : Int)), some (.inl (pp : Int)), some (.inl m_50), some (.inl 3), some (.inl (h 20 (zwd s 2 pp)))], [], (zs h hl))) (c2 := (19, [some (.inr (.inr (some 49))), some (.inr (.inr (some (A)))), some (.inl (s : Int)), some (.inl (pp : Int)), some (.inl m_50), some (.inl 3), some (.inl (h 20 (zwd s 2 pp)))], [], (zs h hl))) rfl ⟨by decide, by decide⟩ ⟨by decide, by decide⟩ (by show ¬ 3 < 3; decide) ?_
              refine zH_go 1 (c' := (81, [some (.inr (.inr (some 49))), some (.inr (.inr (some (A)))), some (.inl (s : Int)), some (.inl (pp : Int)), some (.inl m_50), some (.inl 3), some (.inl (h 20 (zwd s 2 pp)))], [.inl m_50], (zs h hl))) rfl ?_
              refine zH_ret (v := some (.inl m_50)) rfl (fun q => absurd q (by decide)) ?_
              refine ⟨congrArg (fun z => some (Sum.inl z)) ?_, rfl⟩
              unfold zAf
              rw [if_neg (by decide), if_neg (by decide)]
              omega
        · refine zH_go 3 (c' := (52, [some (.inr (.inr (some 49))), some (.inr (.inr (some (A)))), some (.inl (s : Int)), some (.inl (pp : Int)), some (.inl 1000000), some (.inl 1), some (.inl (h 20 (zwd s 1 pp)))], [.inl (h 20 (zwd s 1 pp)), .inr (.inr (some (A))), .inl 1000000], (zs h hl))) rfl ?_
          refine zH_ial rfl (n := 56) hsh (by omega) (by omega) ?_
          show zH _ _ (53, [some (.inr (.inr (some 49))), some (.inr (.inr (some (A)))), some (.inl (s : Int)), some (.inl (pp : Int)), some (.inl 1000000), some (.inl 1), some (.inl (h 20 (zwd s 1 pp)))], [.inl (h A (Int.toNat (h 20 (zwd s 1 pp)))), .inl 1000000], (zs h hl)) _
          refine zH_go 5 (c' := (61, [some (.inr (.inr (some 49))), some (.inr (.inr (some (A)))), some (.inl (s : Int)), some (.inl (pp : Int)), some (.inl 1000000), some (.inl 1), some (.inl (h 20 (zwd s 1 pp)))], [.inl 1, .inl (s : Int), .inl (pp : Int), .inr (.inr (some 3)), .inl (h A (Int.toNat (h 20 (zwd s 1 pp)))), .inl 1000000], (zs h hl))) rfl ?_
          refine zH_call (M' := 100) (as := [.inl (s : Int), .inl 1]) (T := [.inl (pp : Int), .inr (.inr (some 3)), .inl (h A (Int.toNat (h 20 (zwd s 1 pp)))), .inl 1000000]) rfl (p_digit (n := s) (i := 1) (by omega) (by decide)) (fun r σ' p_51 => ?_)
          obtain ⟨rfl, rfl⟩ := p_51
          show zH _ _ (64, [some (.inr (.inr (some 49))), some (.inr (.inr (some (A)))), some (.inl (s : Int)), some (.inl (pp : Int)), some (.inl 1000000), some (.inl 1), some (.inl (h 20 (zwd s 1 pp)))], [.inl ((zdg s 1 : Nat) : Int), .inl (pp : Int), .inr (.inr (some 3)), .inl (h A (Int.toNat (h 20 (zwd s 1 pp)))), .inl 1000000], (zs h hl)) _
          refine zH_call (M' := 52) (as := [.inr (.inr (some 3)), .inl (pp : Int), .inl ((zdg s 1 : Nat) : Int)]) (T := [.inl (h A (Int.toNat (h 20 (zwd s 1 pp)))), .inl 1000000]) rfl (p_gap (a := pp) (b := zdg s 1) (by omega) (by omega)) (fun r σ' p_52 => ?_)
          obtain ⟨rfl, rfl⟩ := p_52
          show zH _ _ (67, [some (.inr (.inr (some 49))), some (.inr (.inr (some (A)))), some (.inl (s : Int)), some (.inl (pp : Int)), some (.inl 1000000), some (.inl 1), some (.inl (h 20 (zwd s 1 pp)))], [.inl (h (12 + pp) (zdg s 1)), .inl (h A (Int.toNat (h 20 (zwd s 1 pp)))), .inl 1000000], (zs h hl)) _
          refine zH_go 1 (c' := (68, [some (.inr (.inr (some 49))), some (.inr (.inr (some (A)))), some (.inl (s : Int)), some (.inl (pp : Int)), some (.inl 1000000), some (.inl 1), some (.inl (h 20 (zwd s 1 pp)))], [.inl ((h A (Int.toNat (h 20 (zwd s 1 pp)))) + (h (12 + pp) (zdg s 1))), .inl 1000000], (zs h hl))) rfl ?_
          refine zH_np (P := zr 1000000 ∧ zr ((h A (Int.toNat (h 20 (zwd s 1 pp)))) + (h (12 + pp) (zdg s 1)))) (c' := (71, [some (.inr (.inr (some 49))), some (.inr (.inr (some (A)))), some (.inl (s : Int)), some (.inl (pp : Int)), some (.inl 1000000), some (.inl 1), some (.inl (h 20 (zwd s 1 pp)))], [.inl (if ((h A (Int.toNat (h 20 (zwd s 1 pp)))) + (h (12 + pp) (zdg s 1))) < 1000000 then ((h A (Int.toNat (h 20 (zwd s 1 pp)))) + (h (12 + pp) (zdg s 1))) else 1000000)], (zs h hl))) rfl ⟨⟨by decide, by decide⟩, (by first | assumption | (unfold zr; omega))⟩ ?_
          obtain ⟨m_53, em_53, fm_53⟩ := zmin_spec 1000000 ((h A (Int.toNat (h 20 (zwd s 1 pp)))) + (h (12 + pp) (zdg s 1)))
          rw [em_53]
          refine zH_go 7 (c' := (16, [some (.inr (.inr (some 49))), some (.inr (.inr (some (A)))), some (.inl (s : Int)), some (.inl (pp : Int)), some (.inl m_53), some (.inl 2), some (.inl (h 20 (zwd s 1 pp)))], [.inl (h 18 1), .inl 2], (zs h hl))) rfl ?_
          rw [hL]
          refine zH_bf (x := 2) (y := 3) (k := .ge) (c1 := (79, [some (.inr (.inr (some 49))), some (.inr (.inr (some (A)))), some (.inl (s : Int)), some (.inl (pp : Int)), some (.inl m_53), some (.inl 2), some (.inl (h 20 (zwd s 1 pp)))], [], (zs h hl))) (c2 := (19, [some (.inr (.inr (some 49))), some (.inr (.inr (some (A)))), some (.inl (s : Int)), some (.inl (pp : Int)), some (.inl m_53), some (.inl 2), some (.inl (h 20 (zwd s 1 pp)))], [], (zs h hl))) rfl ⟨by decide, by decide⟩ ⟨by decide, by decide⟩ (by show ¬ (¬ 2 < 3); decide) ?_
          refine zH_go 5 (c' := (27, [some (.inr (.inr (some 49))), some (.inr (.inr (some (A)))), some (.inl (s : Int)), some (.inl (pp : Int)), some (.inl m_53), some (.inl 2), some (.inl (h 20 (zwd s 1 pp)))], [.inl (pp : Int), .inl 2, .inl (s : Int), .inr (.inr (some 18))], (zs h hl))) rfl ?_
          refine zH_call (M' := 101) (as := [.inl (s : Int), .inl 2, .inl (pp : Int)]) (T := [.inr (.inr (some 18))]) rfl (p_withDigit (n := s) (i := 2) (v := pp) (by omega) (by decide) (by omega)) (fun r σ' p_54 => ?_)
          obtain ⟨rfl, rfl⟩ := p_54
          show zH _ _ (30, [some (.inr (.inr (some 49))), some (.inr (.inr (some (A)))), some (.inl (s : Int)), some (.inl (pp : Int)), some (.inl m_53), some (.inl 2), some (.inl (h 20 (zwd s 1 pp)))], [.inl ((zwd s 2 pp : Nat) : Int), .inr (.inr (some 18))], (zs h hl)) _
          refine zH_call (M' := 44) (as := [.inr (.inr (some 18)), .inl ((zwd s 2 pp : Nat) : Int)]) (T := []) rfl (p_slot (n := zwd s 2 pp) (by omega)) (fun r σ' p_55 => ?_)
          obtain ⟨rfl, rfl⟩ := p_55
          show zH _ _ (33, [some (.inr (.inr (some 49))), some (.inr (.inr (some (A)))), some (.inl (s : Int)), some (.inl (pp : Int)), some (.inl m_53), some (.inl 2), some (.inl (h 20 (zwd s 1 pp)))], [.inl (h 20 (zwd s 2 pp))], (zs h hl)) _
          refine zH_go 2 (c' := (37, [some (.inr (.inr (some 49))), some (.inr (.inr (some (A)))), some (.inl (s : Int)), some (.inl (pp : Int)), some (.inl m_53), some (.inl 2), some (.inl (h 20 (zwd s 2 pp)))], [.inl (h 20 (zwd s 2 pp))], (zs h hl))) rfl ?_
          refine zH_br (x := (h 20 (zwd s 2 pp))) (y := 0) (k := .lt) (c1 := (73, [some (.inr (.inr (some 49))), some (.inr (.inr (some (A)))), some (.inl (s : Int)), some (.inl (pp : Int)), some (.inl m_53), some (.inl 2), some (.inl (h 20 (zwd s 2 pp)))], [], (zs h hl))) (c2 := (40, [some (.inr (.inr (some 49))), some (.inr (.inr (some (A)))), some (.inl (s : Int)), some (.inl (pp : Int)), some (.inl m_53), some (.inl 2), some (.inl (h 20 (zwd s 2 pp)))], [], (zs h hl))) rfl (by first | assumption | (unfold zr; omega)) ⟨by decide, by decide⟩ (fun (b_56 : (h 20 (zwd s 2 pp)) < 0) => ?_) (fun (b_56 : ¬ ((h 20 (zwd s 2 pp)) < 0)) => ?_)
          · refine zH_go 6 (c' := (16, [some (.inr (.inr (some 49))), some (.inr (.inr (some (A)))), some (.inl (s : Int)), some (.inl (pp : Int)), some (.inl m_53), some (.inl 3), some (.inl (h 20 (zwd s 2 pp)))], [.inl (h 18 1), .inl 3], (zs h hl))) rfl ?_
            rw [hL]
            refine zH_bt (x := 3) (y := 3) (k := .ge) (c1 := (79, [some (.inr (.inr (some 49))), some (.inr (.inr (some (A)))), some (.inl (s : Int)), some (.inl (pp : Int)), some (.inl m_53), some (.inl 3), some (.inl (h 20 (zwd s 2 pp)))], [], (zs h hl))) (c2 := (19, [some (.inr (.inr (some 49))), some (.inr (.inr (some (A)))), some (.inl (s : Int)), some (.inl (pp : Int)), some (.inl m_53), some (.inl 3), some (.inl (h 20 (zwd s 2 pp)))], [], (zs h hl))) rfl ⟨by decide, by decide⟩ ⟨by decide, by decide⟩ (by show ¬ 3 < 3; decide) ?_
            refine zH_go 1 (c' := (81, [some (.inr (.inr (some 49))), some (.inr (.inr (some (A)))), some (.inl (s : Int)), some (.inl (pp : Int)), some (.inl m_53), some (.inl 3), some (.inl (h 20 (zwd s 2 pp)))], [.inl m_53], (zs h hl))) rfl ?_
            refine zH_ret (v := some (.inl m_53)) rfl (fun q => absurd q (by decide)) ?_
            refine ⟨congrArg (fun z => some (Sum.inl z)) ?_, rfl⟩
            unfold zAf
            rw [if_neg (by decide), if_neg (by decide)]
            omega
          · refine zH_go 2 (c' := (43, [some (.inr (.inr (some 49))), some (.inr (.inr (some (A)))), some (.inl (s : Int)), some (.inl (pp : Int)), some (.inl m_53), some (.inl 2), some (.inl (h 20 (zwd s 2 pp)))], [.inr (.inr (some (A))), .inl (h 20 (zwd s 2 pp))], (zs h hl))) rfl ?_
            refine zH_aln rfl (n := 56) (t := 0) hsh (by decide) ?_
            show zH _ _ (44, [some (.inr (.inr (some 49))), some (.inr (.inr (some (A)))), some (.inl (s : Int)), some (.inl (pp : Int)), some (.inl m_53), some (.inl 2), some (.inl (h 20 (zwd s 2 pp)))], [.inl 56, .inl (h 20 (zwd s 2 pp))], (zs h hl)) _
            refine zH_br (x := (h 20 (zwd s 2 pp))) (y := 56) (k := .ge) (c1 := (73, [some (.inr (.inr (some 49))), some (.inr (.inr (some (A)))), some (.inl (s : Int)), some (.inl (pp : Int)), some (.inl m_53), some (.inl 2), some (.inl (h 20 (zwd s 2 pp)))], [], (zs h hl))) (c2 := (47, [some (.inr (.inr (some 49))), some (.inr (.inr (some (A)))), some (.inl (s : Int)), some (.inl (pp : Int)), some (.inl m_53), some (.inl 2), some (.inl (h 20 (zwd s 2 pp)))], [], (zs h hl))) rfl (by first | assumption | (unfold zr; omega)) ⟨by decide, by decide⟩ (fun (b_57 : ¬ (h 20 (zwd s 2 pp)) < 56) => ?_) (fun (b_57 : ¬ (¬ (h 20 (zwd s 2 pp)) < 56)) => ?_)
            · refine zH_go 6 (c' := (16, [some (.inr (.inr (some 49))), some (.inr (.inr (some (A)))), some (.inl (s : Int)), some (.inl (pp : Int)), some (.inl m_53), some (.inl 3), some (.inl (h 20 (zwd s 2 pp)))], [.inl (h 18 1), .inl 3], (zs h hl))) rfl ?_
              rw [hL]
              refine zH_bt (x := 3) (y := 3) (k := .ge) (c1 := (79, [some (.inr (.inr (some 49))), some (.inr (.inr (some (A)))), some (.inl (s : Int)), some (.inl (pp : Int)), some (.inl m_53), some (.inl 3), some (.inl (h 20 (zwd s 2 pp)))], [], (zs h hl))) (c2 := (19, [some (.inr (.inr (some 49))), some (.inr (.inr (some (A)))), some (.inl (s : Int)), some (.inl (pp : Int)), some (.inl m_53), some (.inl 3), some (.inl (h 20 (zwd s 2 pp)))], [], (zs h hl))) rfl ⟨by decide, by decide⟩ ⟨by decide, by decide⟩ (by show ¬ 3 < 3; decide) ?_
              refine zH_go 1 (c' := (81, [some (.inr (.inr (some 49))), some (.inr (.inr (some (A)))), some (.inl (s : Int)), some (.inl (pp : Int)), some (.inl m_53), some (.inl 3), some (.inl (h 20 (zwd s 2 pp)))], [.inl m_53], (zs h hl))) rfl ?_
              refine zH_ret (v := some (.inl m_53)) rfl (fun q => absurd q (by decide)) ?_
              refine ⟨congrArg (fun z => some (Sum.inl z)) ?_, rfl⟩
              unfold zAf
              rw [if_neg (by decide), if_neg (by decide)]
              omega
            · refine zH_go 3 (c' := (52, [some (.inr (.inr (some 49))), some (.inr (.inr (some (A)))), some (.inl (s : Int)), some (.inl (pp : Int)), some (.inl m_53), some (.inl 2), some (.inl (h 20 (zwd s 2 pp)))], [.inl (h 20 (zwd s 2 pp)), .inr (.inr (some (A))), .inl m_53], (zs h hl))) rfl ?_
              refine zH_ial rfl (n := 56) hsh (by omega) (by omega) ?_
              show zH _ _ (53, [some (.inr (.inr (some 49))), some (.inr (.inr (some (A)))), some (.inl (s : Int)), some (.inl (pp : Int)), some (.inl m_53), some (.inl 2), some (.inl (h 20 (zwd s 2 pp)))], [.inl (h A (Int.toNat (h 20 (zwd s 2 pp)))), .inl m_53], (zs h hl)) _
              refine zH_go 5 (c' := (61, [some (.inr (.inr (some 49))), some (.inr (.inr (some (A)))), some (.inl (s : Int)), some (.inl (pp : Int)), some (.inl m_53), some (.inl 2), some (.inl (h 20 (zwd s 2 pp)))], [.inl 2, .inl (s : Int), .inl (pp : Int), .inr (.inr (some 3)), .inl (h A (Int.toNat (h 20 (zwd s 2 pp)))), .inl m_53], (zs h hl))) rfl ?_
              refine zH_call (M' := 100) (as := [.inl (s : Int), .inl 2]) (T := [.inl (pp : Int), .inr (.inr (some 3)), .inl (h A (Int.toNat (h 20 (zwd s 2 pp)))), .inl m_53]) rfl (p_digit (n := s) (i := 2) (by omega) (by decide)) (fun r σ' p_58 => ?_)
              obtain ⟨rfl, rfl⟩ := p_58
              show zH _ _ (64, [some (.inr (.inr (some 49))), some (.inr (.inr (some (A)))), some (.inl (s : Int)), some (.inl (pp : Int)), some (.inl m_53), some (.inl 2), some (.inl (h 20 (zwd s 2 pp)))], [.inl ((zdg s 2 : Nat) : Int), .inl (pp : Int), .inr (.inr (some 3)), .inl (h A (Int.toNat (h 20 (zwd s 2 pp)))), .inl m_53], (zs h hl)) _
              refine zH_call (M' := 52) (as := [.inr (.inr (some 3)), .inl (pp : Int), .inl ((zdg s 2 : Nat) : Int)]) (T := [.inl (h A (Int.toNat (h 20 (zwd s 2 pp)))), .inl m_53]) rfl (p_gap (a := pp) (b := zdg s 2) (by omega) (by omega)) (fun r σ' p_59 => ?_)
              obtain ⟨rfl, rfl⟩ := p_59
              show zH _ _ (67, [some (.inr (.inr (some 49))), some (.inr (.inr (some (A)))), some (.inl (s : Int)), some (.inl (pp : Int)), some (.inl m_53), some (.inl 2), some (.inl (h 20 (zwd s 2 pp)))], [.inl (h (12 + pp) (zdg s 2)), .inl (h A (Int.toNat (h 20 (zwd s 2 pp)))), .inl m_53], (zs h hl)) _
              refine zH_go 1 (c' := (68, [some (.inr (.inr (some 49))), some (.inr (.inr (some (A)))), some (.inl (s : Int)), some (.inl (pp : Int)), some (.inl m_53), some (.inl 2), some (.inl (h 20 (zwd s 2 pp)))], [.inl ((h A (Int.toNat (h 20 (zwd s 2 pp)))) + (h (12 + pp) (zdg s 2))), .inl m_53], (zs h hl))) rfl ?_
              refine zH_np (P := zr m_53 ∧ zr ((h A (Int.toNat (h 20 (zwd s 2 pp)))) + (h (12 + pp) (zdg s 2)))) (c' := (71, [some (.inr (.inr (some 49))), some (.inr (.inr (some (A)))), some (.inl (s : Int)), some (.inl (pp : Int)), some (.inl m_53), some (.inl 2), some (.inl (h 20 (zwd s 2 pp)))], [.inl (if ((h A (Int.toNat (h 20 (zwd s 2 pp)))) + (h (12 + pp) (zdg s 2))) < m_53 then ((h A (Int.toNat (h 20 (zwd s 2 pp)))) + (h (12 + pp) (zdg s 2))) else m_53)], (zs h hl))) rfl ⟨(by first | assumption | (unfold zr; omega)), (by first | assumption | (unfold zr; omega))⟩ ?_
              obtain ⟨m_60, em_60, fm_60⟩ := zmin_spec m_53 ((h A (Int.toNat (h 20 (zwd s 2 pp)))) + (h (12 + pp) (zdg s 2)))
              rw [em_60]
              refine zH_go 7 (c' := (16, [some (.inr (.inr (some 49))), some (.inr (.inr (some (A)))), some (.inl (s : Int)), some (.inl (pp : Int)), some (.inl m_60), some (.inl 3), some (.inl (h 20 (zwd s 2 pp)))], [.inl (h 18 1), .inl 3], (zs h hl))) rfl ?_
              rw [hL]
              refine zH_bt (x := 3) (y := 3) (k := .ge) (c1 := (79, [some (.inr (.inr (some 49))), some (.inr (.inr (some (A)))), some (.inl (s : Int)), some (.inl (pp : Int)), some (.inl m_60), some (.inl 3), some (.inl (h 20 (zwd s 2 pp)))], [], (zs h hl))) (c2 := (19, [some (.inr (.inr (some 49))), some (.inr (.inr (some (A)))), some (.inl (s : Int)), some (.inl (pp : Int)), some (.inl m_60), some (.inl 3), some (.inl (h 20 (zwd s 2 pp)))], [], (zs h hl))) rfl ⟨by decide, by decide⟩ ⟨by decide, by decide⟩ (by show ¬ 3 < 3; decide) ?_
              refine zH_go 1 (c' := (81, [some (.inr (.inr (some 49))), some (.inr (.inr (some (A)))), some (.inl (s : Int)), some (.inl (pp : Int)), some (.inl m_60), some (.inl 3), some (.inl (h 20 (zwd s 2 pp)))], [.inl m_60], (zs h hl))) rfl ?_
              refine zH_ret (v := some (.inl m_60)) rfl (fun q => absurd q (by decide)) ?_
              refine ⟨congrArg (fun z => some (Sum.inl z)) ?_, rfl⟩
              unfold zAf
              rw [if_neg (by decide), if_neg (by decide)]
              omega
    · refine zH_go 3 (c' := (52, [some (.inr (.inr (some 49))), some (.inr (.inr (some (A)))), some (.inl (s : Int)), some (.inl (pp : Int)), some (.inl 1000000), some (.inl 0), some (.inl (h 20 (zwd s 0 pp)))], [.inl (h 20 (zwd s 0 pp)), .inr (.inr (some (A))), .inl 1000000], (zs h hl))) rfl ?_
      refine zH_ial rfl (n := 56) hsh (by omega) (by omega) ?_
      show zH _ _ (53, [some (.inr (.inr (some 49))), some (.inr (.inr (some (A)))), some (.inl (s : Int)), some (.inl (pp : Int)), some (.inl 1000000), some (.inl 0), some (.inl (h 20 (zwd s 0 pp)))], [.inl (h A (Int.toNat (h 20 (zwd s 0 pp)))), .inl 1000000], (zs h hl)) _
      refine zH_go 5 (c' := (61, [some (.inr (.inr (some 49))), some (.inr (.inr (some (A)))), some (.inl (s : Int)), some (.inl (pp : Int)), some (.inl 1000000), some (.inl 0), some (.inl (h 20 (zwd s 0 pp)))], [.inl 0, .inl (s : Int), .inl (pp : Int), .inr (.inr (some 3)), .inl (h A (Int.toNat (h 20 (zwd s 0 pp)))), .inl 1000000], (zs h hl))) rfl ?_
      refine zH_call (M' := 100) (as := [.inl (s : Int), .inl 0]) (T := [.inl (pp : Int), .inr (.inr (some 3)), .inl (h A (Int.toNat (h 20 (zwd s 0 pp)))), .inl 1000000]) rfl (p_digit (n := s) (i := 0) (by omega) (by decide)) (fun r σ' p_61 => ?_)
      obtain ⟨rfl, rfl⟩ := p_61
      show zH _ _ (64, [some (.inr (.inr (some 49))), some (.inr (.inr (some (A)))), some (.inl (s : Int)), some (.inl (pp : Int)), some (.inl 1000000), some (.inl 0), some (.inl (h 20 (zwd s 0 pp)))], [.inl ((zdg s 0 : Nat) : Int), .inl (pp : Int), .inr (.inr (some 3)), .inl (h A (Int.toNat (h 20 (zwd s 0 pp)))), .inl 1000000], (zs h hl)) _
      refine zH_call (M' := 52) (as := [.inr (.inr (some 3)), .inl (pp : Int), .inl ((zdg s 0 : Nat) : Int)]) (T := [.inl (h A (Int.toNat (h 20 (zwd s 0 pp)))), .inl 1000000]) rfl (p_gap (a := pp) (b := zdg s 0) (by omega) (by omega)) (fun r σ' p_62 => ?_)
      obtain ⟨rfl, rfl⟩ := p_62
      show zH _ _ (67, [some (.inr (.inr (some 49))), some (.inr (.inr (some (A)))), some (.inl (s : Int)), some (.inl (pp : Int)), some (.inl 1000000), some (.inl 0), some (.inl (h 20 (zwd s 0 pp)))], [.inl (h (12 + pp) (zdg s 0)), .inl (h A (Int.toNat (h 20 (zwd s 0 pp)))), .inl 1000000], (zs h hl)) _
      refine zH_go 1 (c' := (68, [some (.inr (.inr (some 49))), some (.inr (.inr (some (A)))), some (.inl (s : Int)), some (.inl (pp : Int)), some (.inl 1000000), some (.inl 0), some (.inl (h 20 (zwd s 0 pp)))], [.inl ((h A (Int.toNat (h 20 (zwd s 0 pp)))) + (h (12 + pp) (zdg s 0))), .inl 1000000], (zs h hl))) rfl ?_
      refine zH_np (P := zr 1000000 ∧ zr ((h A (Int.toNat (h 20 (zwd s 0 pp)))) + (h (12 + pp) (zdg s 0)))) (c' := (71, [some (.inr (.inr (some 49))), some (.inr (.inr (some (A)))), some (.inl (s : Int)), some (.inl (pp : Int)), some (.inl 1000000), some (.inl 0), some (.inl (h 20 (zwd s 0 pp)))], [.inl (if ((h A (Int.toNat (h 20 (zwd s 0 pp)))) + (h (12 + pp) (zdg s 0))) < 1000000 then ((h A (Int.toNat (h 20 (zwd s 0 pp)))) + (h (12 + pp) (zdg s 0))) else 1000000)], (zs h hl))) rfl ⟨⟨by decide, by decide⟩, (by first | assumption | (unfold zr; omega))⟩ ?_
      obtain ⟨m_63, em_63, fm_63⟩ := zmin_spec 1000000 ((h A (Int.toNat (h 20 (zwd s 0 pp)))) + (h (12 + pp) (zdg s 0)))
      rw [em_63]
      refine zH_go 7 (c' := (16, [some (.inr (.inr (some 49))), some (.inr (.inr (some (A)))), some (.inl (s : Int)), some (.inl (pp : Int)), some (.inl m_63), some (.inl 1), some (.inl (h 20 (zwd s 0 pp)))], [.inl (h 18 1), .inl 1], (zs h hl))) rfl ?_
      rw [hL]
      refine zH_bf (x := 1) (y := 3) (k := .ge) (c1 := (79, [some (.inr (.inr (some 49))), some (.inr (.inr (some (A)))), some (.inl (s : Int)), some (.inl (pp : Int)), some (.inl m_63), some (.inl 1), some (.inl (h 20 (zwd s 0 pp)))], [], (zs h hl))) (c2 := (19, [some (.inr (.inr (some 49))), some (.inr (.inr (some (A)))), some (.inl (s : Int)), some (.inl (pp : Int)), some (.inl m_63), some (.inl 1), some (.inl (h 20 (zwd s 0 pp)))], [], (zs h hl))) rfl ⟨by decide, by decide⟩ ⟨by decide, by decide⟩ (by show ¬ (¬ 1 < 3); decide) ?_
      refine zH_go 5 (c' := (27, [some (.inr (.inr (some 49))), some (.inr (.inr (some (A)))), some (.inl (s : Int)), some (.inl (pp : Int)), some (.inl m_63), some (.inl 1), some (.inl (h 20 (zwd s 0 pp)))], [.inl (pp : Int), .inl 1, .inl (s : Int), .inr (.inr (some 18))], (zs h hl))) rfl ?_
      refine zH_call (M' := 101) (as := [.inl (s : Int), .inl 1, .inl (pp : Int)]) (T := [.inr (.inr (some 18))]) rfl (p_withDigit (n := s) (i := 1) (v := pp) (by omega) (by decide) (by omega)) (fun r σ' p_64 => ?_)
      obtain ⟨rfl, rfl⟩ := p_64
      show zH _ _ (30, [some (.inr (.inr (some 49))), some (.inr (.inr (some (A)))), some (.inl (s : Int)), some (.inl (pp : Int)), some (.inl m_63), some (.inl 1), some (.inl (h 20 (zwd s 0 pp)))], [.inl ((zwd s 1 pp : Nat) : Int), .inr (.inr (some 18))], (zs h hl)) _
      refine zH_call (M' := 44) (as := [.inr (.inr (some 18)), .inl ((zwd s 1 pp : Nat) : Int)]) (T := []) rfl (p_slot (n := zwd s 1 pp) (by omega)) (fun r σ' p_65 => ?_)
      obtain ⟨rfl, rfl⟩ := p_65
      show zH _ _ (33, [some (.inr (.inr (some 49))), some (.inr (.inr (some (A)))), some (.inl (s : Int)), some (.inl (pp : Int)), some (.inl m_63), some (.inl 1), some (.inl (h 20 (zwd s 0 pp)))], [.inl (h 20 (zwd s 1 pp))], (zs h hl)) _
      refine zH_go 2 (c' := (37, [some (.inr (.inr (some 49))), some (.inr (.inr (some (A)))), some (.inl (s : Int)), some (.inl (pp : Int)), some (.inl m_63), some (.inl 1), some (.inl (h 20 (zwd s 1 pp)))], [.inl (h 20 (zwd s 1 pp))], (zs h hl))) rfl ?_
      refine zH_br (x := (h 20 (zwd s 1 pp))) (y := 0) (k := .lt) (c1 := (73, [some (.inr (.inr (some 49))), some (.inr (.inr (some (A)))), some (.inl (s : Int)), some (.inl (pp : Int)), some (.inl m_63), some (.inl 1), some (.inl (h 20 (zwd s 1 pp)))], [], (zs h hl))) (c2 := (40, [some (.inr (.inr (some 49))), some (.inr (.inr (some (A)))), some (.inl (s : Int)), some (.inl (pp : Int)), some (.inl m_63), some (.inl 1), some (.inl (h 20 (zwd s 1 pp)))], [], (zs h hl))) rfl (by first | assumption | (unfold zr; omega)) ⟨by decide, by decide⟩ (fun (b_66 : (h 20 (zwd s 1 pp)) < 0) => ?_) (fun (b_66 : ¬ ((h 20 (zwd s 1 pp)) < 0)) => ?_)
      · refine zH_go 6 (c' := (16, [some (.inr (.inr (some 49))), some (.inr (.inr (some (A)))), some (.inl (s : Int)), some (.inl (pp : Int)), some (.inl m_63), some (.inl 2), some (.inl (h 20 (zwd s 1 pp)))], [.inl (h 18 1), .inl 2], (zs h hl))) rfl ?_
        rw [hL]
        refine zH_bf (x := 2) (y := 3) (k := .ge) (c1 := (79, [some (.inr (.inr (some 49))), some (.inr (.inr (some (A)))), some (.inl (s : Int)), some (.inl (pp : Int)), some (.inl m_63), some (.inl 2), some (.inl (h 20 (zwd s 1 pp)))], [], (zs h hl))) (c2 := (19, [some (.inr (.inr (some 49))), some (.inr (.inr (some (A)))), some (.inl (s : Int)), some (.inl (pp : Int)), some (.inl m_63), some (.inl 2), some (.inl (h 20 (zwd s 1 pp)))], [], (zs h hl))) rfl ⟨by decide, by decide⟩ ⟨by decide, by decide⟩ (by show ¬ (¬ 2 < 3); decide) ?_
        refine zH_go 5 (c' := (27, [some (.inr (.inr (some 49))), some (.inr (.inr (some (A)))), some (.inl (s : Int)), some (.inl (pp : Int)), some (.inl m_63), some (.inl 2), some (.inl (h 20 (zwd s 1 pp)))], [.inl (pp : Int), .inl 2, .inl (s : Int), .inr (.inr (some 18))], (zs h hl))) rfl ?_
        refine zH_call (M' := 101) (as := [.inl (s : Int), .inl 2, .inl (pp : Int)]) (T := [.inr (.inr (some 18))]) rfl (p_withDigit (n := s) (i := 2) (v := pp) (by omega) (by decide) (by omega)) (fun r σ' p_67 => ?_)
        obtain ⟨rfl, rfl⟩ := p_67
        show zH _ _ (30, [some (.inr (.inr (some 49))), some (.inr (.inr (some (A)))), some (.inl (s : Int)), some (.inl (pp : Int)), some (.inl m_63), some (.inl 2), some (.inl (h 20 (zwd s 1 pp)))], [.inl ((zwd s 2 pp : Nat) : Int), .inr (.inr (some 18))], (zs h hl)) _
        refine zH_call (M' := 44) (as := [.inr (.inr (some 18)), .inl ((zwd s 2 pp : Nat) : Int)]) (T := []) rfl (p_slot (n := zwd s 2 pp) (by omega)) (fun r σ' p_68 => ?_)
        obtain ⟨rfl, rfl⟩ := p_68
        show zH _ _ (33, [some (.inr (.inr (some 49))), some (.inr (.inr (some (A)))), some (.inl (s : Int)), some (.inl (pp : Int)), some (.inl m_63), some (.inl 2), some (.inl (h 20 (zwd s 1 pp)))], [.inl (h 20 (zwd s 2 pp))], (zs h hl)) _
        refine zH_go 2 (c' := (37, [some (.inr (.inr (some 49))), some (.inr (.inr (some (A)))), some (.inl (s : Int)), some (.inl (pp : Int)), some (.inl m_63), some (.inl 2), some (.inl (h 20 (zwd s 2 pp)))], [.inl (h 20 (zwd s 2 pp))], (zs h hl))) rfl ?_
        refine zH_br (x := (h 20 (zwd s 2 pp))) (y := 0) (k := .lt) (c1 := (73, [some (.inr (.inr (some 49))), some (.inr (.inr (some (A)))), some (.inl (s : Int)), some (.inl (pp : Int)), some (.inl m_63), some (.inl 2), some (.inl (h 20 (zwd s 2 pp)))], [], (zs h hl))) (c2 := (40, [some (.inr (.inr (some 49))), some (.inr (.inr (some (A)))), some (.inl (s : Int)), some (.inl (pp : Int)), some (.inl m_63), some (.inl 2), some (.inl (h 20 (zwd s 2 pp)))], [], (zs h hl))) rfl (by first | assumption | (unfold zr; omega)) ⟨by decide, by decide⟩ (fun (b_69 : (h 20 (zwd s 2 pp)) < 0) => ?_) (fun (b_69 : ¬ ((h 20 (zwd s 2 pp)) < 0)) => ?_)
        · refine zH_go 6 (c' := (16, [some (.inr (.inr (some 49))), some (.inr (.inr (some (A)))), some (.inl (s : Int)), some (.inl (pp : Int)), some (.inl m_63), some (.inl 3), some (.inl (h 20 (zwd s 2 pp)))], [.inl (h 18 1), .inl 3], (zs h hl))) rfl ?_
          rw [hL]
          refine zH_bt (x := 3) (y := 3) (k := .ge) (c1 := (79, [some (.inr (.inr (some 49))), some (.inr (.inr (some (A)))), some (.inl (s : Int)), some (.inl (pp : Int)), some (.inl m_63), some (.inl 3), some (.inl (h 20 (zwd s 2 pp)))], [], (zs h hl))) (c2 := (19, [some (.inr (.inr (some 49))), some (.inr (.inr (some (A)))), some (.inl (s : Int)), some (.inl (pp : Int)), some (.inl m_63), some (.inl 3), some (.inl (h 20 (zwd s 2 pp)))], [], (zs h hl))) rfl ⟨by decide, by decide⟩ ⟨by decide, by decide⟩ (by show ¬ 3 < 3; decide) ?_
          refine zH_go 1 (c' := (81, [some (.inr (.inr (some 49))), some (.inr (.inr (some (A)))), some (.inl (s : Int)), some (.inl (pp : Int)), some (.inl m_63), some (.inl 3), some (.inl (h 20 (zwd s 2 pp)))], [.inl m_63], (zs h hl))) rfl ?_
          refine zH_ret (v := some (.inl m_63)) rfl (fun q => absurd q (by decide)) ?_
          refine ⟨congrArg (fun z => some (Sum.inl z)) ?_, rfl⟩
          unfold zAf
          rw [if_neg (by decide), if_neg (by decide)]
          omega
        · refine zH_go 2 (c' := (43, [some (.inr (.inr (some 49))), some (.inr (.inr (some (A)))), some (.inl (s : Int)), some (.inl (pp : Int)), some (.inl m_63), some (.inl 2), some (.inl (h 20 (zwd s 2 pp)))], [.inr (.inr (some (A))), .inl (h 20 (zwd s 2 pp))], (zs h hl))) rfl ?_
          refine zH_aln rfl (n := 56) (t := 0) hsh (by decide) ?_
          show zH _ _ (44, [some (.inr (.inr (some 49))), some (.inr (.inr (some (A)))), some (.inl (s : Int)), some (.inl (pp : Int)), some (.inl m_63), some (.inl 2), some (.inl (h 20 (zwd s 2 pp)))], [.inl 56, .inl (h 20 (zwd s 2 pp))], (zs h hl)) _
          refine zH_br (x := (h 20 (zwd s 2 pp))) (y := 56) (k := .ge) (c1 := (73, [some (.inr (.inr (some 49))), some (.inr (.inr (some (A)))), some (.inl (s : Int)), some (.inl (pp : Int)), some (.inl m_63), some (.inl 2), some (.inl (h 20 (zwd s 2 pp)))], [], (zs h hl))) (c2 := (47, [some (.inr (.inr (some 49))), some (.inr (.inr (some (A)))), some (.inl (s : Int)), some (.inl (pp : Int)), some (.inl m_63), some (.inl 2), some (.inl (h 20 (zwd s 2 pp)))], [], (zs h hl))) rfl (by first | assumption | (unfold zr; omega)) ⟨by decide, by decide⟩ (fun (b_70 : ¬ (h 20 (zwd s 2 pp)) < 56) => ?_) (fun (b_70 : ¬ (¬ (h 20 (zwd s 2 pp)) < 56)) => ?_)
          · refine zH_go 6 (c' := (16, [some (.inr (.inr (some 49))), some (.inr (.inr (some (A)))), some (.inl (s : Int)), some (.inl (pp : Int)), some (.inl m_63), some (.inl 3), some (.inl (h 20 (zwd s 2 pp)))], [.inl (h 18 1), .inl 3], (zs h hl))) rfl ?_
            rw [hL]
            refine zH_bt (x := 3) (y := 3) (k := .ge) (c1 := (79, [some (.inr (.inr (some 49))), some (.inr (.inr (some (A)))), some (.inl (s : Int)), some (.inl (pp : Int)), some (.inl m_63), some (.inl 3), some (.inl (h 20 (zwd s 2 pp)))], [], (zs h hl))) (c2 := (19, [some (.inr (.inr (some 49))), some (.inr (.inr (some (A)))), some (.inl (s : Int)), some (.inl (pp : Int)), some (.inl m_63), some (.inl 3), some (.inl (h 20 (zwd s 2 pp)))], [], (zs h hl))) rfl ⟨by decide, by decide⟩ ⟨by decide, by decide⟩ (by show ¬ 3 < 3; decide) ?_
            refine zH_go 1 (c' := (81, [some (.inr (.inr (some 49))), some (.inr (.inr (some (A)))), some (.inl (s : Int)), some (.inl (pp : Int)), some (.inl m_63), some (.inl 3), some (.inl (h 20 (zwd s 2 pp)))], [.inl m_63], (zs h hl))) rfl ?_
            refine zH_ret (v := some (.inl m_63)) rfl (fun q => absurd q (by decide)) ?_
            refine ⟨congrArg (fun z => some (Sum.inl z)) ?_, rfl⟩
            unfold zAf
            rw [if_neg (by decide), if_neg (by decide)]
            omega
          · refine zH_go 3 (c' := (52, [some (.inr (.inr (some 49))), some (.inr (.inr (some (A)))), some (.inl (s : Int)), some (.inl (pp : Int)), some (.inl m_63), some (.inl 2), some (.inl (h 20 (zwd s 2 pp)))], [.inl (h 20 (zwd s 2 pp)), .inr (.inr (some (A))), .inl m_63], (zs h hl))) rfl ?_
            refine zH_ial rfl (n := 56) hsh (by omega) (by omega) ?_
            show zH _ _ (53, [some (.inr (.inr (some 49))), some (.inr (.inr (some (A)))), some (.inl (s : Int)), some (.inl (pp : Int)), some (.inl m_63), some (.inl 2), some (.inl (h 20 (zwd s 2 pp)))], [.inl (h A (Int.toNat (h 20 (zwd s 2 pp)))), .inl m_63], (zs h hl)) _
            refine zH_go 5 (c' := (61, [some (.inr (.inr (some 49))), some (.inr (.inr (some (A)))), some (.inl (s : Int)), some (.inl (pp : Int)), some (.inl m_63), some (.inl 2), some (.inl (h 20 (zwd s 2 pp)))], [.inl 2, .inl (s : Int), .inl (pp : Int), .inr (.inr (some 3)), .inl (h A (Int.toNat (h 20 (zwd s 2 pp)))), .inl m_63], (zs h hl))) rfl ?_
            refine zH_call (M' := 100) (as := [.inl (s : Int), .inl 2]) (T := [.inl (pp : Int), .inr (.inr (some 3)), .inl (h A (Int.toNat (h 20 (zwd s 2 pp)))), .inl m_63]) rfl (p_digit (n := s) (i := 2) (by omega) (by decide)) (fun r σ' p_71 => ?_)
            obtain ⟨rfl, rfl⟩ := p_71
            show zH _ _ (64, [some (.inr (.inr (some 49))), some (.inr (.inr (some (A)))), some (.inl (s : Int)), some (.inl (pp : Int)), some (.inl m_63), some (.inl 2), some (.inl (h 20 (zwd s 2 pp)))], [.inl ((zdg s 2 : Nat) : Int), .inl (pp : Int), .inr (.inr (some 3)), .inl (h A (Int.toNat (h 20 (zwd s 2 pp)))), .inl m_63], (zs h hl)) _
            refine zH_call (M' := 52) (as := [.inr (.inr (some 3)), .inl (pp : Int), .inl ((zdg s 2 : Nat) : Int)]) (T := [.inl (h A (Int.toNat (h 20 (zwd s 2 pp)))), .inl m_63]) rfl (p_gap (a := pp) (b := zdg s 2) (by omega) (by omega)) (fun r σ' p_72 => ?_)
            obtain ⟨rfl, rfl⟩ := p_72
            show zH _ _ (67, [some (.inr (.inr (some 49))), some (.inr (.inr (some (A)))), some (.inl (s : Int)), some (.inl (pp : Int)), some (.inl m_63), some (.inl 2), some (.inl (h 20 (zwd s 2 pp)))], [.inl (h (12 + pp) (zdg s 2)), .inl (h A (Int.toNat (h 20 (zwd s 2 pp)))), .inl m_63], (zs h hl)) _
            refine zH_go 1 (c' := (68, [some (.inr (.inr (some 49))), some (.inr (.inr (some (A)))), some (.inl (s : Int)), some (.inl (pp : Int)), some (.inl m_63), some (.inl 2), some (.inl (h 20 (zwd s 2 pp)))], [.inl ((h A (Int.toNat (h 20 (zwd s 2 pp)))) + (h (12 + pp) (zdg s 2))), .inl m_63], (zs h hl))) rfl ?_
            refine zH_np (P := zr m_63 ∧ zr ((h A (Int.toNat (h 20 (zwd s 2 pp)))) + (h (12 + pp) (zdg s 2)))) (c' := (71, [some (.inr (.inr (some 49))), some (.inr (.inr (some (A)))), some (.inl (s : Int)), some (.inl (pp : Int)), some (.inl m_63), some (.inl 2), some (.inl (h 20 (zwd s 2 pp)))], [.inl (if ((h A (Int.toNat (h 20 (zwd s 2 pp)))) + (h (12 + pp) (zdg s 2))) < m_63 then ((h A (Int.toNat (h 20 (zwd s 2 pp)))) + (h (12 + pp) (zdg s 2))) else m_63)], (zs h hl))) rfl ⟨(by first | assumption | (unfold zr; omega)), (by first | assumption | (unfold zr; omega))⟩ ?_
            obtain ⟨m_73, em_73, fm_73⟩ := zmin_spec m_63 ((h A (Int.toNat (h 20 (zwd s 2 pp)))) + (h (12 + pp) (zdg s 2)))
            rw [em_73]
            refine zH_go 7 (c' := (16, [some (.inr (.inr (some 49))), some (.inr (.inr (some (A)))), some (.inl (s : Int)), some (.inl (pp : Int)), some (.inl m_73), some (.inl 3), some (.inl (h 20 (zwd s 2 pp)))], [.inl (h 18 1), .inl 3], (zs h hl))) rfl ?_
            rw [hL]
            refine zH_bt (x := 3) (y := 3) (k := .ge) (c1 := (79, [some (.inr (.inr (some 49))), some (.inr (.inr (some (A)))), some (.inl (s : Int)), some (.inl (pp : Int)), some (.inl m_73), some (.inl 3), some (.inl (h 20 (zwd s 2 pp)))], [], (zs h hl))) (c2 := (19, [some (.inr (.inr (some 49))), some (.inr (.inr (some (A)))), some (.inl (s : Int)), some (.inl (pp : Int)), some (.inl m_73), some (.inl 3), some (.inl (h 20 (zwd s 2 pp)))], [], (zs h hl))) rfl ⟨by decide, by decide⟩ ⟨by decide, by decide⟩ (by show ¬ 3 < 3; decide) ?_
            refine zH_go 1 (c' := (81, [some (.inr (.inr (some 49))), some (.inr (.inr (some (A)))), some (.inl (s : Int)), some (.inl (pp : Int)), some (.inl m_73), some (.inl 3), some (.inl (h 20 (zwd s 2 pp)))], [.inl m_73], (zs h hl))) rfl ?_
            refine zH_ret (v := some (.inl m_73)) rfl (fun q => absurd q (by decide)) ?_
            refine ⟨congrArg (fun z => some (Sum.inl z)) ?_, rfl⟩
            unfold zAf
            rw [if_neg (by decide), if_neg (by decide)]
            omega
      · refine zH_go 2 (c' := (43, [some (.inr (.inr (some 49))), some (.inr (.inr (some (A)))), some (.inl (s : Int)), some (.inl (pp : Int)), some (.inl m_63), some (.inl 1), some (.inl (h 20 (zwd s 1 pp)))], [.inr (.inr (some (A))), .inl (h 20 (zwd s 1 pp))], (zs h hl))) rfl ?_
        refine zH_aln rfl (n := 56) (t := 0) hsh (by decide) ?_
        show zH _ _ (44, [some (.inr (.inr (some 49))), some (.inr (.inr (some (A)))), some (.inl (s : Int)), some (.inl (pp : Int)), some (.inl m_63), some (.inl 1), some (.inl (h 20 (zwd s 1 pp)))], [.inl 56, .inl (h 20 (zwd s 1 pp))], (zs h hl)) _
        refine zH_br (x := (h 20 (zwd s 1 pp))) (y := 56) (k := .ge) (c1 := (73, [some (.inr (.inr (some 49))), some (.inr (.inr (some (A)))), some (.inl (s : Int)), some (.inl (pp : Int)), some (.inl m_63), some (.inl 1), some (.inl (h 20 (zwd s 1 pp)))], [], (zs h hl))) (c2 := (47, [some (.inr (.inr (some 49))), some (.inr (.inr (some (A)))), some (.inl (s : Int)), some (.inl (pp : Int)), some (.inl m_63), some (.inl 1), some (.inl (h 20 (zwd s 1 pp)))], [], (zs h hl))) rfl (by first | assumption | (unfold zr; omega)) ⟨by decide, by decide⟩ (fun (b_74 : ¬ (h 20 (zwd s 1 pp)) < 56) => ?_) (fun (b_74 : ¬ (¬ (h 20 (zwd s 1 pp)) < 56)) => ?_)
        · refine zH_go 6 (c' := (16, [some (.inr (.inr (some 49))), some (.inr (.inr (some (A)))), some (.inl (s : Int)), some (.inl (pp : Int)), some (.inl m_63), some (.inl 2), some (.inl (h 20 (zwd s 1 pp)))], [.inl (h 18 1), .inl 2], (zs h hl))) rfl ?_
          rw [hL]
          refine zH_bf (x := 2) (y := 3) (k := .ge) (c1 := (79, [some (.inr (.inr (some 49))), some (.inr (.inr (some (A)))), some (.inl (s : Int)), some (.inl (pp : Int)), some (.inl m_63), some (.inl 2), some (.inl (h 20 (zwd s 1 pp)))], [], (zs h hl))) (c2 := (19, [some (.inr (.inr (some 49))), some (.inr (.inr (some (A)))), some (.inl (s : Int)), some (.inl (pp : Int)), some (.inl m_63), some (.inl 2), some (.inl (h 20 (zwd s 1 pp)))], [], (zs h hl))) rfl ⟨by decide, by decide⟩ ⟨by decide, by decide⟩ (by show ¬ (¬ 2 < 3); decide) ?_
          refine zH_go 5 (c' := (27, [some (.inr (.inr (some 49))), some (.inr (.inr (some (A)))), some (.inl (s : Int)), some (.inl (pp : Int)), some (.inl m_63), some (.inl 2), some (.inl (h 20 (zwd s 1 pp)))], [.inl (pp : Int), .inl 2, .inl (s : Int), .inr (.inr (some 18))], (zs h hl))) rfl ?_
          refine zH_call (M' := 101) (as := [.inl (s : Int), .inl 2, .inl (pp : Int)]) (T := [.inr (.inr (some 18))]) rfl (p_withDigit (n := s) (i := 2) (v := pp) (by omega) (by decide) (by omega)) (fun r σ' p_75 => ?_)
          obtain ⟨rfl, rfl⟩ := p_75
          show zH _ _ (30, [some (.inr (.inr (some 49))), some (.inr (.inr (some (A)))), some (.inl (s : Int)), some (.inl (pp : Int)), some (.inl m_63), some (.inl 2), some (.inl (h 20 (zwd s 1 pp)))], [.inl ((zwd s 2 pp : Nat) : Int), .inr (.inr (some 18))], (zs h hl)) _
          refine zH_call (M' := 44) (as := [.inr (.inr (some 18)), .inl ((zwd s 2 pp : Nat) : Int)]) (T := []) rfl (p_slot (n := zwd s 2 pp) (by omega)) (fun r σ' p_76 => ?_)
          obtain ⟨rfl, rfl⟩ := p_76
          show zH _ _ (33, [some (.inr (.inr (some 49))), some (.inr (.inr (some (A)))), some (.inl (s : Int)), some (.inl (pp : Int)), some (.inl m_63), some (.inl 2), some (.inl (h 20 (zwd s 1 pp)))], [.inl (h 20 (zwd s 2 pp))], (zs h hl)) _
          refine zH_go 2 (c' := (37, [some (.inr (.inr (some 49))), some (.inr (.inr (some (A)))), some (.inl (s : Int)), some (.inl (pp : Int)), some (.inl m_63), some (.inl 2), some (.inl (h 20 (zwd s 2 pp)))], [.inl (h 20 (zwd s 2 pp))], (zs h hl))) rfl ?_
          refine zH_br (x := (h 20 (zwd s 2 pp))) (y := 0) (k := .lt) (c1 := (73, [some (.inr (.inr (some 49))), some (.inr (.inr (some (A)))), some (.inl (s : Int)), some (.inl (pp : Int)), some (.inl m_63), some (.inl 2), some (.inl (h 20 (zwd s 2 pp)))], [], (zs h hl))) (c2 := (40, [some (.inr (.inr (some 49))), some (.inr (.inr (some (A)))), some (.inl (s : Int)), some (.inl (pp : Int)), some (.inl m_63), some (.inl 2), some (.inl (h 20 (zwd s 2 pp)))], [], (zs h hl))) rfl (by first | assumption | (unfold zr; omega)) ⟨by decide, by decide⟩ (fun (b_77 : (h 20 (zwd s 2 pp)) < 0) => ?_) (fun (b_77 : ¬ ((h 20 (zwd s 2 pp)) < 0)) => ?_)
          · refine zH_go 6 (c' := (16, [some (.inr (.inr (some 49))), some (.inr (.inr (some (A)))), some (.inl (s : Int)), some (.inl (pp : Int)), some (.inl m_63), some (.inl 3), some (.inl (h 20 (zwd s 2 pp)))], [.inl (h 18 1), .inl 3], (zs h hl))) rfl ?_
            rw [hL]
            refine zH_bt (x := 3) (y := 3) (k := .ge) (c1 := (79, [some (.inr (.inr (some 49))), some (.inr (.inr (some (A)))), some (.inl (s : Int)), some (.inl (pp : Int)), some (.inl m_63), some (.inl 3), some (.inl (h 20 (zwd s 2 pp)))], [], (zs h hl))) (c2 := (19, [some (.inr (.inr (some 49))), some (.inr (.inr (some (A)))), some (.inl (s : Int)), some (.inl (pp : Int)), some (.inl m_63), some (.inl 3), some (.inl (h 20 (zwd s 2 pp)))], [], (zs h hl))) rfl ⟨by decide, by decide⟩ ⟨by decide, by decide⟩ (by show ¬ 3 < 3; decide) ?_
            refine zH_go 1 (c' := (81, [some (.inr (.inr (some 49))), some (.inr (.inr (some (A)))), some (.inl (s : Int)), some (.inl (pp : Int)), some (.inl m_63), some (.inl 3), some (.inl (h 20 (zwd s 2 pp)))], [.inl m_63], (zs h hl))) rfl ?_
            refine zH_ret (v := some (.inl m_63)) rfl (fun q => absurd q (by decide)) ?_
            refine ⟨congrArg (fun z => some (Sum.inl z)) ?_, rfl⟩
            unfold zAf
            rw [if_neg (by decide), if_neg (by decide)]
            omega
          · refine zH_go 2 (c' := (43, [some (.inr (.inr (some 49))), some (.inr (.inr (some (A)))), some (.inl (s : Int)), some (.inl (pp : Int)), some (.inl m_63), some (.inl 2), some (.inl (h 20 (zwd s 2 pp)))], [.inr (.inr (some (A))), .inl (h 20 (zwd s 2 pp))], (zs h hl))) rfl ?_
            refine zH_aln rfl (n := 56) (t := 0) hsh (by decide) ?_
            show zH _ _ (44, [some (.inr (.inr (some 49))), some (.inr (.inr (some (A)))), some (.inl (s : Int)), some (.inl (pp : Int)), some (.inl m_63), some (.inl 2), some (.inl (h 20 (zwd s 2 pp)))], [.inl 56, .inl (h 20 (zwd s 2 pp))], (zs h hl)) _
            refine zH_br (x := (h 20 (zwd s 2 pp))) (y := 56) (k := .ge) (c1 := (73, [some (.inr (.inr (some 49))), some (.inr (.inr (some (A)))), some (.inl (s : Int)), some (.inl (pp : Int)), some (.inl m_63), some (.inl 2), some (.inl (h 20 (zwd s 2 pp)))], [], (zs h hl))) (c2 := (47, [some (.inr (.inr (some 49))), some (.inr (.inr (some (A)))), some (.inl (s : Int)), some (.inl (pp : Int)), some (.inl m_63), some (.inl 2), some (.inl (h 20 (zwd s 2 pp)))], [], (zs h hl))) rfl (by first | assumption | (unfold zr; omega)) ⟨by decide, by decide⟩ (fun (b_78 : ¬ (h 20 (zwd s 2 pp)) < 56) => ?_) (fun (b_78 : ¬ (¬ (h 20 (zwd s 2 pp)) < 56)) => ?_)
            · refine zH_go 6 (c' := (16, [some (.inr (.inr (some 49))), some (.inr (.inr (some (A)))), some (.inl (s : Int)), some (.inl (pp : Int)), some (.inl m_63), some (.inl 3), some (.inl (h 20 (zwd s 2 pp)))], [.inl (h 18 1), .inl 3], (zs h hl))) rfl ?_
              rw [hL]
              refine zH_bt (x := 3) (y := 3) (k := .ge) (c1 := (79, [some (.inr (.inr (some 49))), some (.inr (.inr (some (A)))), some (.inl (s : Int)), some (.inl (pp : Int)), some (.inl m_63), some (.inl 3), some (.inl (h 20 (zwd s 2 pp)))], [], (zs h hl))) (c2 := (19, [some (.inr (.inr (some 49))), some (.inr (.inr (some (A)))), some (.inl (s : Int)), some (.inl (pp : Int)), some (.inl m_63), some (.inl 3), some (.inl (h 20 (zwd s 2 pp)))], [], (zs h hl))) rfl ⟨by decide, by decide⟩ ⟨by decide, by decide⟩ (by show ¬ 3 < 3; decide) ?_
              refine zH_go 1 (c' := (81, [some (.inr (.inr (some 49))), some (.inr (.inr (some (A)))), some (.inl (s : Int)), some (.inl (pp : Int)), some (.inl m_63), some (.inl 3), some (.inl (h 20 (zwd s 2 pp)))], [.inl m_63], (zs h hl))) rfl ?_
              refine zH_ret (v := some (.inl m_63)) rfl (fun q => absurd q (by decide)) ?_
              refine ⟨congrArg (fun z => some (Sum.inl z)) ?_, rfl⟩
              unfold zAf
              rw [if_neg (by decide), if_neg (by decide)]
              omega
            · refine zH_go 3 (c' := (52, [some (.inr (.inr (some 49))), some (.inr (.inr (some (A)))), some (.inl (s : Int)), some (.inl (pp : Int)), some (.inl m_63), some (.inl 2), some (.inl (h 20 (zwd s 2 pp)))], [.inl (h 20 (zwd s 2 pp)), .inr (.inr (some (A))), .inl m_63], (zs h hl))) rfl ?_
              refine zH_ial rfl (n := 56) hsh (by omega) (by omega) ?_
              show zH _ _ (53, [some (.inr (.inr (some 49))), some (.inr (.inr (some (A)))), some (.inl (s : Int)), some (.inl (pp : Int)), some (.inl m_63), some (.inl 2), some (.inl (h 20 (zwd s 2 pp)))], [.inl (h A (Int.toNat (h 20 (zwd s 2 pp)))), .inl m_63], (zs h hl)) _
              refine zH_go 5 (c' := (61, [some (.inr (.inr (some 49))), some (.inr (.inr (some (A)))), some (.inl (s : Int)), some (.inl (pp : Int)), some (.inl m_63), some (.inl 2), some (.inl (h 20 (zwd s 2 pp)))], [.inl 2, .inl (s : Int), .inl (pp : Int), .inr (.inr (some 3)), .inl (h A (Int.toNat (h 20 (zwd s 2 pp)))), .inl m_63], (zs h hl))) rfl ?_
              refine zH_call (M' := 100) (as := [.inl (s : Int), .inl 2]) (T := [.inl (pp : Int), .inr (.inr (some 3)), .inl (h A (Int.toNat (h 20 (zwd s 2 pp)))), .inl m_63]) rfl (p_digit (n := s) (i := 2) (by omega) (by decide)) (fun r σ' p_79 => ?_)
              obtain ⟨rfl, rfl⟩ := p_79
              show zH _ _ (64, [some (.inr (.inr (some 49))), some (.inr (.inr (some (A)))), some (.inl (s : Int)), some (.inl (pp : Int)), some (.inl m_63), some (.inl 2), some (.inl (h 20 (zwd s 2 pp)))], [.inl ((zdg s 2 : Nat) : Int), .inl (pp : Int), .inr (.inr (some 3)), .inl (h A (Int.toNat (h 20 (zwd s 2 pp)))), .inl m_63], (zs h hl)) _
              refine zH_call (M' := 52) (as := [.inr (.inr (some 3)), .inl (pp : Int), .inl ((zdg s 2 : Nat) : Int)]) (T := [.inl (h A (Int.toNat (h 20 (zwd s 2 pp)))), .inl m_63]) rfl (p_gap (a := pp) (b := zdg s 2) (by omega) (by omega)) (fun r σ' p_80 => ?_)
              obtain ⟨rfl, rfl⟩ := p_80
              show zH _ _ (67, [some (.inr (.inr (some 49))), some (.inr (.inr (some (A)))), some (.inl (s : Int)), some (.inl (pp : Int)), some (.inl m_63), some (.inl 2), some (.inl (h 20 (zwd s 2 pp)))], [.inl (h (12 + pp) (zdg s 2)), .inl (h A (Int.toNat (h 20 (zwd s 2 pp)))), .inl m_63], (zs h hl)) _
              refine zH_go 1 (c' := (68, [some (.inr (.inr (some 49))), some (.inr (.inr (some (A)))), some (.inl (s : Int)), some (.inl (pp : Int)), some (.inl m_63), some (.inl 2), some (.inl (h 20 (zwd s 2 pp)))], [.inl ((h A (Int.toNat (h 20 (zwd s 2 pp)))) + (h (12 + pp) (zdg s 2))), .inl m_63], (zs h hl))) rfl ?_
              refine zH_np (P := zr m_63 ∧ zr ((h A (Int.toNat (h 20 (zwd s 2 pp)))) + (h (12 + pp) (zdg s 2)))) (c' := (71, [some (.inr (.inr (some 49))), some (.inr (.inr (some (A)))), some (.inl (s : Int)), some (.inl (pp : Int)), some (.inl m_63), some (.inl 2), some (.inl (h 20 (zwd s 2 pp)))], [.inl (if ((h A (Int.toNat (h 20 (zwd s 2 pp)))) + (h (12 + pp) (zdg s 2))) < m_63 then ((h A (Int.toNat (h 20 (zwd s 2 pp)))) + (h (12 + pp) (zdg s 2))) else m_63)], (zs h hl))) rfl ⟨(by first | assumption | (unfold zr; omega)), (by first | assumption | (unfold zr; omega))⟩ ?_
              obtain ⟨m_81, em_81, fm_81⟩ := zmin_spec m_63 ((h A (Int.toNat (h 20 (zwd s 2 pp)))) + (h (12 + pp) (zdg s 2)))
              rw [em_81]
              refine zH_go 7 (c' := (16, [some (.inr (.inr (some 49))), some (.inr (.inr (some (A)))), some (.inl (s : Int)), some (.inl (pp : Int)), some (.inl m_81), some (.inl 3), some (.inl (h 20 (zwd s 2 pp)))], [.inl (h 18 1), .inl 3], (zs h hl))) rfl ?_
              rw [hL]
              refine zH_bt (x := 3) (y := 3) (k := .ge) (c1 := (79, [some (.inr (.inr (some 49))), some (.inr (.inr (some (A)))), some (.inl (s : Int)), some (.inl (pp : Int)), some (.inl m_81), some (.inl 3), some (.inl (h 20 (zwd s 2 pp)))], [], (zs h hl))) (c2 := (19, [some (.inr (.inr (some 49))), some (.inr (.inr (some (A)))), some (.inl (s : Int)), some (.inl (pp : Int)), some (.inl m_81), some (.inl 3), some (.inl (h 20 (zwd s 2 pp)))], [], (zs h hl))) rfl ⟨by decide, by decide⟩ ⟨by decide, by decide⟩ (by show ¬ 3 < 3; decide) ?_
              refine zH_go 1 (c' := (81, [some (.inr (.inr (some 49))), some (.inr (.inr (some (A)))), some (.inl (s : Int)), some (.inl (pp : Int)), some (.inl m_81), some (.inl 3), some (.inl (h 20 (zwd s 2 pp)))], [.inl m_81], (zs h hl))) rfl ?_
              refine zH_ret (v := some (.inl m_81)) rfl (fun q => absurd q (by decide)) ?_
              refine ⟨congrArg (fun z => some (Sum.inl z)) ?_, rfl⟩
              unfold zAf
              rw [if_neg (by decide), if_neg (by decide)]
              omega
        · refine zH_go 3 (c' := (52, [some (.inr (.inr (some 49))), some (.inr (.inr (some (A)))), some (.inl (s : Int)), some (.inl (pp : Int)), some (.inl m_63), some (.inl 1), some (.inl (h 20 (zwd s 1 pp)))], [.inl (h 20 (zwd s 1 pp)), .inr (.inr (some (A))), .inl m_63], (zs h hl))) rfl ?_
          refine zH_ial rfl (n := 56) hsh (by omega) (by omega) ?_
          show zH _ _ (53, [some (.inr (.inr (some 49))), some (.inr (.inr (some (A)))), some (.inl (s : Int)), some (.inl (pp : Int)), some (.inl m_63), some (.inl 1), some (.inl (h 20 (zwd s 1 pp)))], [.inl (h A (Int.toNat (h 20 (zwd s 1 pp)))), .inl m_63], (zs h hl)) _
          refine zH_go 5 (c' := (61, [some (.inr (.inr (some 49))), some (.inr (.inr (some (A)))), some (.inl (s : Int)), some (.inl (pp : Int)), some (.inl m_63), some (.inl 1), some (.inl (h 20 (zwd s 1 pp)))], [.inl 1, .inl (s : Int), .inl (pp : Int), .inr (.inr (some 3)), .inl (h A (Int.toNat (h 20 (zwd s 1 pp)))), .inl m_63], (zs h hl))) rfl ?_
          refine zH_call (M' := 100) (as := [.inl (s : Int), .inl 1]) (T := [.inl (pp : Int), .inr (.inr (some 3)), .inl (h A (Int.toNat (h 20 (zwd s 1 pp)))), .inl m_63]) rfl (p_digit (n := s) (i := 1) (by omega) (by decide)) (fun r σ' p_82 => ?_)
          obtain ⟨rfl, rfl⟩ := p_82
          show zH _ _ (64, [some (.inr (.inr (some 49))), some (.inr (.inr (some (A)))), some (.inl (s : Int)), some (.inl (pp : Int)), some (.inl m_63), some (.inl 1), some (.inl (h 20 (zwd s 1 pp)))], [.inl ((zdg s 1 : Nat) : Int), .inl (pp : Int), .inr (.inr (some 3)), .inl (h A (Int.toNat (h 20 (zwd s 1 pp)))), .inl m_63], (zs h hl)) _
          refine zH_call (M' := 52) (as := [.inr (.inr (some 3)), .inl (pp : Int), .inl ((zdg s 1 : Nat) : Int)]) (T := [.inl (h A (Int.toNat (h 20 (zwd s 1 pp)))), .inl m_63]) rfl (p_gap (a := pp) (b := zdg s 1) (by omega) (by omega)) (fun r σ' p_83 => ?_)
          obtain ⟨rfl, rfl⟩ := p_83
          show zH _ _ (67, [some (.inr (.inr (some 49))), some (.inr (.inr (some (A)))), some (.inl (s : Int)), some (.inl (pp : Int)), some (.inl m_63), some (.inl 1), some (.inl (h 20 (zwd s 1 pp)))], [.inl (h (12 + pp) (zdg s 1)), .inl (h A (Int.toNat (h 20 (zwd s 1 pp)))), .inl m_63], (zs h hl)) _
          refine zH_go 1 (c' := (68, [some (.inr (.inr (some 49))), some (.inr (.inr (some (A)))), some (.inl (s : Int)), some (.inl (pp : Int)), some (.inl m_63), some (.inl 1), some (.inl (h 20 (zwd s 1 pp)))], [.inl ((h A (Int.toNat (h 20 (zwd s 1 pp)))) + (h (12 + pp) (zdg s 1))), .inl m_63], (zs h hl))) rfl ?_
          refine zH_np (P := zr m_63 ∧ zr ((h A (Int.toNat (h 20 (zwd s 1 pp)))) + (h (12 + pp) (zdg s 1)))) (c' := (71, [some (.inr (.inr (some 49))), some (.inr (.inr (some (A)))), some (.inl (s : Int)), some (.inl (pp : Int)), some (.inl m_63), some (.inl 1), some (.inl (h 20 (zwd s 1 pp)))], [.inl (if ((h A (Int.toNat (h 20 (zwd s 1 pp)))) + (h (12 + pp) (zdg s 1))) < m_63 then ((h A (Int.toNat (h 20 (zwd s 1 pp)))) + (h (12 + pp) (zdg s 1))) else m_63)], (zs h hl))) rfl ⟨(by first | assumption | (unfold zr; omega)), (by first | assumption | (unfold zr; omega))⟩ ?_
          obtain ⟨m_84, em_84, fm_84⟩ := zmin_spec m_63 ((h A (Int.toNat (h 20 (zwd s 1 pp)))) + (h (12 + pp) (zdg s 1)))
          rw [em_84]
          refine zH_go 7 (c' := (16, [some (.inr (.inr (some 49))), some (.inr (.inr (some (A)))), some (.inl (s : Int)), some (.inl (pp : Int)), some (.inl m_84), some (.inl 2), some (.inl (h 20 (zwd s 1 pp)))], [.inl (h 18 1), .inl 2], (zs h hl))) rfl ?_
          rw [hL]
          refine zH_bf (x := 2) (y := 3) (k := .ge) (c1 := (79, [some (.inr (.inr (some 49))), some (.inr (.inr (some (A)))), some (.inl (s : Int)), some (.inl (pp : Int)), some (.inl m_84), some (.inl 2), some (.inl (h 20 (zwd s 1 pp)))], [], (zs h hl))) (c2 := (19, [some (.inr (.inr (some 49))), some (.inr (.inr (some (A)))), some (.inl (s : Int)), some (.inl (pp : Int)), some (.inl m_84), some (.inl 2), some (.inl (h 20 (zwd s 1 pp)))], [], (zs h hl))) rfl ⟨by decide, by decide⟩ ⟨by decide, by decide⟩ (by show ¬ (¬ 2 < 3); decide) ?_
          refine zH_go 5 (c' := (27, [some (.inr (.inr (some 49))), some (.inr (.inr (some (A)))), some (.inl (s : Int)), some (.inl (pp : Int)), some (.inl m_84), some (.inl 2), some (.inl (h 20 (zwd s 1 pp)))], [.inl (pp : Int), .inl 2, .inl (s : Int), .inr (.inr (some 18))], (zs h hl))) rfl ?_
          refine zH_call (M' := 101) (as := [.inl (s : Int), .inl 2, .inl (pp : Int)]) (T := [.inr (.inr (some 18))]) rfl (p_withDigit (n := s) (i := 2) (v := pp) (by omega) (by decide) (by omega)) (fun r σ' p_85 => ?_)
          obtain ⟨rfl, rfl⟩ := p_85
          show zH _ _ (30, [some (.inr (.inr (some 49))), some (.inr (.inr (some (A)))), some (.inl (s : Int)), some (.inl (pp : Int)), some (.inl m_84), some (.inl 2), some (.inl (h 20 (zwd s 1 pp)))], [.inl ((zwd s 2 pp : Nat) : Int), .inr (.inr (some 18))], (zs h hl)) _
          refine zH_call (M' := 44) (as := [.inr (.inr (some 18)), .inl ((zwd s 2 pp : Nat) : Int)]) (T := []) rfl (p_slot (n := zwd s 2 pp) (by omega)) (fun r σ' p_86 => ?_)
          obtain ⟨rfl, rfl⟩ := p_86
          show zH _ _ (33, [some (.inr (.inr (some 49))), some (.inr (.inr (some (A)))), some (.inl (s : Int)), some (.inl (pp : Int)), some (.inl m_84), some (.inl 2), some (.inl (h 20 (zwd s 1 pp)))], [.inl (h 20 (zwd s 2 pp))], (zs h hl)) _
          refine zH_go 2 (c' := (37, [some (.inr (.inr (some 49))), some (.inr (.inr (some (A)))), some (.inl (s : Int)), some (.inl (pp : Int)), some (.inl m_84), some (.inl 2), some (.inl (h 20 (zwd s 2 pp)))], [.inl (h 20 (zwd s 2 pp))], (zs h hl))) rfl ?_
          refine zH_br (x := (h 20 (zwd s 2 pp))) (y := 0) (k := .lt) (c1 := (73, [some (.inr (.inr (some 49))), some (.inr (.inr (some (A)))), some (.inl (s : Int)), some (.inl (pp : Int)), some (.inl m_84), some (.inl 2), some (.inl (h 20 (zwd s 2 pp)))], [], (zs h hl))) (c2 := (40, [some (.inr (.inr (some 49))), some (.inr (.inr (some (A)))), some (.inl (s : Int)), some (.inl (pp : Int)), some (.inl m_84), some (.inl 2), some (.inl (h 20 (zwd s 2 pp)))], [], (zs h hl))) rfl (by first | assumption | (unfold zr; omega)) ⟨by decide, by decide⟩ (fun (b_87 : (h 20 (zwd s 2 pp)) < 0) => ?_) (fun (b_87 : ¬ ((h 20 (zwd s 2 pp)) < 0)) => ?_)
          · refine zH_go 6 (c' := (16, [some (.inr (.inr (some 49))), some (.inr (.inr (some (A)))), some (.inl (s : Int)), some (.inl (pp : Int)), some (.inl m_84), some (.inl 3), some (.inl (h 20 (zwd s 2 pp)))], [.inl (h 18 1), .inl 3], (zs h hl))) rfl ?_
            rw [hL]
            refine zH_bt (x := 3) (y := 3) (k := .ge) (c1 := (79, [some (.inr (.inr (some 49))), some (.inr (.inr (some (A)))), some (.inl (s : Int)), some (.inl (pp : Int)), some (.inl m_84), some (.inl 3), some (.inl (h 20 (zwd s 2 pp)))], [], (zs h hl))) (c2 := (19, [some (.inr (.inr (some 49))), some (.inr (.inr (some (A)))), some (.inl (s : Int)), some (.inl (pp : Int)), some (.inl m_84), some (.inl 3), some (.inl (h 20 (zwd s 2 pp)))], [], (zs h hl))) rfl ⟨by decide, by decide⟩ ⟨by decide, by decide⟩ (by show ¬ 3 < 3; decide) ?_
            refine zH_go 1 (c' := (81, [some (.inr (.inr (some 49))), some (.inr (.inr (some (A)))), some (.inl (s : Int)), some (.inl (pp : Int)), some (.inl m_84), some (.inl 3), some (.inl (h 20 (zwd s 2 pp)))], [.inl m_84], (zs h hl))) rfl ?_
            refine zH_ret (v := some (.inl m_84)) rfl (fun q => absurd q (by decide)) ?_
            refine ⟨congrArg (fun z => some (Sum.inl z)) ?_, rfl⟩
            unfold zAf
            rw [if_neg (by decide), if_neg (by decide)]
            omega
          · refine zH_go 2 (c' := (43, [some (.inr (.inr (some 49))), some (.inr (.inr (some (A)))), some (.inl (s : Int)), some (.inl (pp : Int)), some (.inl m_84), some (.inl 2), some (.inl (h 20 (zwd s 2 pp)))], [.inr (.inr (some (A))), .inl (h 20 (zwd s 2 pp))], (zs h hl))) rfl ?_
            refine zH_aln rfl (n := 56) (t := 0) hsh (by decide) ?_
            show zH _ _ (44, [some (.inr (.inr (some 49))), some (.inr (.inr (some (A)))), some (.inl (s : Int)), some (.inl (pp : Int)), some (.inl m_84), some (.inl 2), some (.inl (h 20 (zwd s 2 pp)))], [.inl 56, .inl (h 20 (zwd s 2 pp))], (zs h hl)) _
            refine zH_br (x := (h 20 (zwd s 2 pp))) (y := 56) (k := .ge) (c1 := (73, [some (.inr (.inr (some 49))), some (.inr (.inr (some (A)))), some (.inl (s : Int)), some (.inl (pp : Int)), some (.inl m_84), some (.inl 2), some (.inl (h 20 (zwd s 2 pp)))], [], (zs h hl))) (c2 := (47, [some (.inr (.inr (some 49))), some (.inr (.inr (some (A)))), some (.inl (s : Int)), some (.inl (pp : Int)), some (.inl m_84), some (.inl 2), some (.inl (h 20 (zwd s 2 pp)))], [], (zs h hl))) rfl (by first | assumption | (unfold zr; omega)) ⟨by decide, by decide⟩ (fun (b_88 : ¬ (h 20 (zwd s 2 pp)) < 56) => ?_) (fun (b_88 : ¬ (¬ (h 20 (zwd s 2 pp)) < 56)) => ?_)
            · refine zH_go 6 (c' := (16, [some (.inr (.inr (some 49))), some (.inr (.inr (some (A)))), some (.inl (s : Int)), some (.inl (pp : Int)), some (.inl m_84), some (.inl 3), some (.inl (h 20 (zwd s 2 pp)))], [.inl (h 18 1), .inl 3], (zs h hl))) rfl ?_
              rw [hL]
              refine zH_bt (x := 3) (y := 3) (k := .ge) (c1 := (79, [some (.inr (.inr (some 49))), some (.inr (.inr (some (A)))), some (.inl (s : Int)), some (.inl (pp : Int)), some (.inl m_84), some (.inl 3), some (.inl (h 20 (zwd s 2 pp)))], [], (zs h hl))) (c2 := (19, [some (.inr (.inr (some 49))), some (.inr (.inr (some (A)))), some (.inl (s : Int)), some (.inl (pp : Int)), some (.inl m_84), some (.inl 3), some (.inl (h 20 (zwd s 2 pp)))], [], (zs h hl))) rfl ⟨by decide, by decide⟩ ⟨by decide, by decide⟩ (by show ¬ 3 < 3; decide) ?_
              refine zH_go 1 (c' := (81, [some (.inr (.inr (some 49))), some (.inr (.inr (some (A)))), some (.inl (s : Int)), some (.inl (pp : Int)), some (.inl m_84), some (.inl 3), some (.inl (h 20 (zwd s 2 pp)))], [.inl m_84], (zs h hl))) rfl ?_
              refine zH_ret (v := some (.inl m_84)) rfl (fun q => absurd q (by decide)) ?_
              refine ⟨congrArg (fun z => some (Sum.inl z)) ?_, rfl⟩
              unfold zAf
              rw [if_neg (by decide), if_neg (by decide)]
              omega
            · refine zH_go 3 (c' := (52, [some (.inr (.inr (some 49))), some (.inr (.inr (some (A)))), some (.inl (s : Int)), some (.inl (pp : Int)), some (.inl m_84), some (.inl 2), some (.inl (h 20 (zwd s 2 pp)))], [.inl (h 20 (zwd s 2 pp)), .inr (.inr (some (A))), .inl m_84], (zs h hl))) rfl ?_
              refine zH_ial rfl (n := 56) hsh (by omega) (by omega) ?_
              show zH _ _ (53, [some (.inr (.inr (some 49))), some (.inr (.inr (some (A)))), some (.inl (s : Int)), some (.inl (pp : Int)), some (.inl m_84), some (.inl 2), some (.inl (h 20 (zwd s 2 pp)))], [.inl (h A (Int.toNat (h 20 (zwd s 2 pp)))), .inl m_84], (zs h hl)) _
              refine zH_go 5 (c' := (61, [some (.inr (.inr (some 49))), some (.inr (.inr (some (A)))), some (.inl (s : Int)), some (.inl (pp : Int)), some (.inl m_84), some (.inl 2), some (.inl (h 20 (zwd s 2 pp)))], [.inl 2, .inl (s : Int), .inl (pp : Int), .inr (.inr (some 3)), .inl (h A (Int.toNat (h 20 (zwd s 2 pp)))), .inl m_84], (zs h hl))) rfl ?_
              refine zH_call (M' := 100) (as := [.inl (s : Int), .inl 2]) (T := [.inl (pp : Int), .inr (.inr (some 3)), .inl (h A (Int.toNat (h 20 (zwd s 2 pp)))), .inl m_84]) rfl (p_digit (n := s) (i := 2) (by omega) (by decide)) (fun r σ' p_89 => ?_)
              obtain ⟨rfl, rfl⟩ := p_89
              show zH _ _ (64, [some (.inr (.inr (some 49))), some (.inr (.inr (some (A)))), some (.inl (s : Int)), some (.inl (pp : Int)), some (.inl m_84), some (.inl 2), some (.inl (h 20 (zwd s 2 pp)))], [.inl ((zdg s 2 : Nat) : Int), .inl (pp : Int), .inr (.inr (some 3)), .inl (h A (Int.toNat (h 20 (zwd s 2 pp)))), .inl m_84], (zs h hl)) _
              refine zH_call (M' := 52) (as := [.inr (.inr (some 3)), .inl (pp : Int), .inl ((zdg s 2 : Nat) : Int)]) (T := [.inl (h A (Int.toNat (h 20 (zwd s 2 pp)))), .inl m_84]) rfl (p_gap (a := pp) (b := zdg s 2) (by omega) (by omega)) (fun r σ' p_90 => ?_)
              obtain ⟨rfl, rfl⟩ := p_90
              show zH _ _ (67, [some (.inr (.inr (some 49))), some (.inr (.inr (some (A)))), some (.inl (s : Int)), some (.inl (pp : Int)), some (.inl m_84), some (.inl 2), some (.inl (h 20 (zwd s 2 pp)))], [.inl (h (12 + pp) (zdg s 2)), .inl (h A (Int.toNat (h 20 (zwd s 2 pp)))), .inl m_84], (zs h hl)) _
              refine zH_go 1 (c' := (68, [some (.inr (.inr (some 49))), some (.inr (.inr (some (A)))), some (.inl (s : Int)), some (.inl (pp : Int)), some (.inl m_84), some (.inl 2), some (.inl (h 20 (zwd s 2 pp)))], [.inl ((h A (Int.toNat (h 20 (zwd s 2 pp)))) + (h (12 + pp) (zdg s 2))), .inl m_84], (zs h hl))) rfl ?_
              refine zH_np (P := zr m_84 ∧ zr ((h A (Int.toNat (h 20 (zwd s 2 pp)))) + (h (12 + pp) (zdg s 2)))) (c' := (71, [some (.inr (.inr (some 49))), some (.inr (.inr (some (A)))), some (.inl (s : Int)), some (.inl (pp : Int)), some (.inl m_84), some (.inl 2), some (.inl (h 20 (zwd s 2 pp)))], [.inl (if ((h A (Int.toNat (h 20 (zwd s 2 pp)))) + (h (12 + pp) (zdg s 2))) < m_84 then ((h A (Int.toNat (h 20 (zwd s 2 pp)))) + (h (12 + pp) (zdg s 2))) else m_84)], (zs h hl))) rfl ⟨(by first | assumption | (unfold zr; omega)), (by first | assumption | (unfold zr; omega))⟩ ?_
              obtain ⟨m_91, em_91, fm_91⟩ := zmin_spec m_84 ((h A (Int.toNat (h 20 (zwd s 2 pp)))) + (h (12 + pp) (zdg s 2)))
              rw [em_91]
              refine zH_go 7 (c' := (16, [some (.inr (.inr (some 49))), some (.inr (.inr (some (A)))), some (.inl (s : Int)), some (.inl (pp : Int)), some (.inl m_91), some (.inl 3), some (.inl (h 20 (zwd s 2 pp)))], [.inl (h 18 1), .inl 3], (zs h hl))) rfl ?_
              rw [hL]
              refine zH_bt (x := 3) (y := 3) (k := .ge) (c1 := (79, [some (.inr (.inr (some 49))), some (.inr (.inr (some (A)))), some (.inl (s : Int)), some (.inl (pp : Int)), some (.inl m_91), some (.inl 3), some (.inl (h 20 (zwd s 2 pp)))], [], (zs h hl))) (c2 := (19, [some (.inr (.inr (some 49))), some (.inr (.inr (some (A)))), some (.inl (s : Int)), some (.inl (pp : Int)), some (.inl m_91), some (.inl 3), some (.inl (h 20 (zwd s 2 pp)))], [], (zs h hl))) rfl ⟨by decide, by decide⟩ ⟨by decide, by decide⟩ (by show ¬ 3 < 3; decide) ?_
              refine zH_go 1 (c' := (81, [some (.inr (.inr (some 49))), some (.inr (.inr (some (A)))), some (.inl (s : Int)), some (.inl (pp : Int)), some (.inl m_91), some (.inl 3), some (.inl (h 20 (zwd s 2 pp)))], [.inl m_91], (zs h hl))) rfl ?_
              refine zH_ret (v := some (.inl m_91)) rfl (fun q => absurd q (by decide)) ?_
              refine ⟨congrArg (fun z => some (Sum.inl z)) ?_, rfl⟩
              unfold zAf
              rw [if_neg (by decide), if_neg (by decide)]
              omega
theorem p_afT {d : Nat} {h hl : Nat → Nat → Int} {A p s pp L : Nat} (hS : zSI h p L) (hs : zSb p L s = true) (hp : pp < p) (hsh : zSh A = .inr (0, 56) ∧ 2 ≤ A ∧ A < 127) (hA : ∀ k : Nat, (k : Int) < h 18 2 → 0 ≤ h A k ∧ h A k ≤ 100000) (hB : zTB h) (hD : ∀ i j : Nat, i < p → j < p → h (12 + i) j ≤ 1500) : zQ (d + 2) 58 [.inr (.inr (some 49)), .inr (.inr (some A)), .inl (s : Int), .inl (pp : Int)] (zs h hl) (zI1 (zAf h L A s pp) (zs h hl)) := by
  rcases (show L = 1 ∨ L = 2 ∨ L = 3 by have := hS.1; omega) with rfl | rfl | rfl
  · exact p_afT1 hS hs hp hsh hA hB hD
  · exact p_afT2 hS hs hp hsh hA hB hD
  · exact p_afT3 hS hs hp hsh hA hB hD
