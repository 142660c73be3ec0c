/-! LadderCalls: worst. -/
set_option maxRecDepth 100000 in
set_option maxHeartbeats 4000000 in
theorem p_tryRow1 {d : Nat} {h hl : Nat → Nat → Int} {g gl : Nat → Nat → Int} {p L B q k : Nat} {K t0 : Int} {sp : Nat → Nat} (hD : zDIT g p L B k sp) (hfr : ∀ c : Nat, c < 48 ∨ 65 < c → g c = h c) (hgl : gl = zup hl 81 0 (hl 81 0 + t0)) (hq : q < 512) (hqp : ∀ j : Nat, j < 1 → zrp 1 q j < p) (hK7 : h 2 7 = K) (hK : 0 ≤ K ∧ K ≤ 3) : zQ (d + 7) 85 [.inr (.inr (some 2)), .inl (q : Int), .inl 1] (zs g gl) (fun r' σ' => r' = none ∧ ∃ (s : zTS) (g' gl' : Nat → Nat → Int), σ' = zs g' gl' ∧ zRS h L B K 1 q 1 s ∧ zTL h hl g' gl' p L B 1 q 1 t0 s) := by
  have hBl := zSb_lt hD.1.1.2 hD.2.2.1
  have hB := hD.2.2.2.2.2.2.1
  refine zQ_of (Nat.le_of_ble_eq_true rfl) ?_
  show zH (d + 6) 85 (0, [some (.inr (.inr (some 2))), some (.inl (q : Int)), some (.inl 1), none], [], (zs g gl)) _
  refine zH_go 2 (c' := (4, [some (.inr (.inr (some 2))), some (.inl (q : Int)), some (.inl 1), none], [.inr (.inr (some 48))], (zs g gl))) rfl ?_
  refine zH_call (M' := 14) (as := [.inr (.inr (some 48))]) (T := []) rfl (p_rewindT hBl (by rw [hB])) (fun r' σ' pm => ?_)
  obtain ⟨rfl, g0, rfl, hg0⟩ := pm
  have hD0 := zDI_rwT hD hg0
  have f0 : ∀ c : Nat, c < 48 ∨ 65 < c → g0 c = h c := fun c hc => by rw [hg0.1 c (by omega) (by omega) (by omega)]; exact hfr c hc
  have hR0 : zRS h L B K 1 q 0 (fun i => zdg B i, fun _ => 0, -1, 0) := rfl
  have hT0 : zTL h hl g0 gl p L B 1 q 0 t0 (fun i => zdg B i, fun _ => 0, -1, 0) := zTL_0 hD0 hg0.2.2.2.2.2.2 hg0.2.2.2.1 f0 hgl
  show zH _ _ (7, [some (.inr (.inr (some 2))), some (.inl (q : Int)), some (.inl 1), none], [], (zs g0 gl)) _
  refine zH_go 5 (c' := (12, [some (.inr (.inr (some 2))), some (.inl (q : Int)), some (.inl 1), some (.inl 0)], [.inl 0], (zs g0 gl))) rfl ?_
  refine zH_bf (x := 0) (y := 0) (k := .lt) (c1 := (35, [some (.inr (.inr (some 2))), some (.inl (q : Int)), some (.inl 1), some (.inl 0)], [], (zs g0 gl))) (c2 := (15, [some (.inr (.inr (some 2))), some (.inl (q : Int)), some (.inl 1), some (.inl 0)], [], (zs g0 gl))) rfl ⟨by decide, by decide⟩ ⟨by decide, by decide⟩ (by show ¬ (0 < 0); decide) ?_
  refine zH_go 5 (c' := (22, [some (.inr (.inr (some 2))), some (.inl (q : Int)), some (.inl 1), some (.inl 0)], [.inl 0, .inl (q : Int), .inr (.inr (some 48)), .inr (.inr (some 2))], (zs g0 gl))) rfl ?_
  refine zH_call (M' := 100) (as := [.inl (q : Int), .inl 0]) (T := [.inr (.inr (some 48)), .inr (.inr (some 2))]) rfl (p_digit (n := q) (i := 0) hq (by decide)) (fun r σ' p_1 => ?_)
  obtain ⟨rfl, rfl⟩ := p_1
  show zH _ _ (25, [some (.inr (.inr (some 2))), some (.inl (q : Int)), some (.inl 1), some (.inl 0)], [.inl ((zdg q 0 : Nat) : Int), .inr (.inr (some 48)), .inr (.inr (some 2))], (zs g0 gl)) _
  refine zH_call (M' := 78) (as := [.inr (.inr (some 2)), .inr (.inr (some 48)), .inl ((zdg q 0 : Nat) : Int)]) (T := []) rfl (p_serveT (K := K) (n := 0) (pp := zrp 1 q 0) hT0.1 (by decide) (hqp 0 (by decide)) (by rw [hT0.2.2.2.2.1 2 (by decide)]; exact hK7) hK) (fun r' σ' pm => ?_)
  obtain ⟨l0, tr0, g1, gl1, hl0, rfl, rfl, hs1, hs2⟩ := pm
  obtain ⟨s1, hR1, hT1⟩ := zTL_serve hT0 hR0 hl0 hs1 hs2
  show zH _ _ (28, [some (.inr (.inr (some 2))), some (.inl (q : Int)), some (.inl 1), some (.inl 0)], [.inl (l0 : Int)], (zs g1 gl1)) _
  refine zH_go 4 (c' := (12, [some (.inr (.inr (some 2))), some (.inl (q : Int)), some (.inl 1), some (.inl (-1))], [.inl (-1)], (zs g1 gl1))) rfl ?_
  refine zH_bt (x := (-1)) (y := 0) (k := .lt) (c1 := (35, [some (.inr (.inr (some 2))), some (.inl (q : Int)), some (.inl 1), some (.inl (-1))], [], (zs g1 gl1))) (c2 := (15, [some (.inr (.inr (some 2))), some (.inl (q : Int)), some (.inl 1), some (.inl (-1))], [], (zs g1 gl1))) rfl ⟨by decide, by decide⟩ ⟨by decide, by decide⟩ (by show (-1) < 0; decide) ?_
  refine zH_ret (v := none) rfl (fun q => absurd q (by decide)) ?_
  exact ⟨rfl, s1, g1, gl1, rfl, hR1, hT1⟩
set_option maxRecDepth 100000 in
set_option maxHeartbeats 4000000 in
theorem p_tryRow2 {d : Nat} {h hl : Nat → Nat → Int} {g gl : Nat → Nat → Int} {p L B q k : Nat} {K t0 : Int} {sp : Nat → Nat} (hD : zDIT g p L B k sp) (hfr : ∀ c : Nat, c < 48 ∨ 65 < c → g c = h c) (hgl : gl = zup hl 81 0 (hl 81 0 + t0)) (hq : q < 512) (hqp : ∀ j : Nat, j < 2 → zrp 2 q j < p) (hK7 : h 2 7 = K) (hK : 0 ≤ K ∧ K ≤ 3) : zQ (d + 7) 85 [.inr (.inr (some 2)), .inl (q : Int), .inl 2] (zs g gl) (fun r' σ' => r' = none ∧ ∃ (s : zTS) (g' gl' : Nat → Nat → Int), σ' = zs g' gl' ∧ zRS h L B K 2 q 2 s ∧ zTL h hl g' gl' p L B 2 q 2 t0 s) := by
  have hBl := zSb_lt hD.1.1.2 hD.2.2.1
  have hB := hD.2.2.2.2.2.2.1
  refine zQ_of (Nat.le_of_ble_eq_true rfl) ?_
  show zH (d + 6) 85 (0, [some (.inr (.inr (some 2))), some (.inl (q : Int)), some (.inl 2), none], [], (zs g gl)) _
  refine zH_go 2 (c' := (4, [some (.inr (.inr (some 2))), some (.inl (q : Int)), some (.inl 2), none], [.inr (.inr (some 48))], (zs g gl))) rfl ?_
  refine zH_call (M' := 14) (as := [.inr (.inr (some 48))]) (T := []) rfl (p_rewindT hBl (by rw [hB])) (fun r' σ' pm => ?_)
  obtain ⟨rfl, g0, rfl, hg0⟩ := pm
  have hD0 := zDI_rwT hD hg0
  have f0 : ∀ c : Nat, c < 48 ∨ 65 < c → g0 c = h c := fun c hc => by rw [hg0.1 c (by omega) (by omega) (by omega)]; exact hfr c hc
  have hR0 : zRS h L B K 2 q 0 (fun i => zdg B i, fun _ => 0, -1, 0) := rfl
  have hT0 : zTL h hl g0 gl p L B 2 q 0 t0 (fun i => zdg B i, fun _ => 0, -1, 0) := zTL_0 hD0 hg0.2.2.2.2.2.2 hg0.2.2.2.1 f0 hgl
  show zH _ _ (7, [some (.inr (.inr (some 2))), some (.inl (q : Int)), some (.inl 2), none], [], (zs g0 gl)) _
  refine zH_go 5 (c' := (12, [some (.inr (.inr (some 2))), some (.inl (q : Int)), some (.inl 2), some (.inl 1)], [.inl 1], (zs g0 gl))) rfl ?_
  refine zH_bf (x := 1) (y := 0) (k := .lt) (c1 := (35, [some (.inr (.inr (some 2))), some (.inl (q : Int)), some (.inl 2), some (.inl 1)], [], (zs g0 gl))) (c2 := (15, [some (.inr (.inr (some 2))), some (.inl (q : Int)), some (.inl 2), some (.inl 1)], [], (zs g0 gl))) rfl ⟨by decide, by decide⟩ ⟨by decide, by decide⟩ (by show ¬ (1 < 0); decide) ?_
  refine zH_go 5 (c' := (22, [some (.inr (.inr (some 2))), some (.inl (q : Int)), some (.inl 2), some (.inl 1)], [.inl 1, .inl (q : Int), .inr (.inr (some 48)), .inr (.inr (some 2))], (zs g0 gl))) rfl ?_
  refine zH_call (M' := 100) (as := [.inl (q : Int), .inl 1]) (T := [.inr (.inr (some 48)), .inr (.inr (some 2))]) rfl (p_digit (n := q) (i := 1) hq (by decide)) (fun r σ' p_1 => ?_)
  obtain ⟨rfl, rfl⟩ := p_1
  show zH _ _ (25, [some (.inr (.inr (some 2))), some (.inl (q : Int)), some (.inl 2), some (.inl 1)], [.inl ((zdg q 1 : Nat) : Int), .inr (.inr (some 48)), .inr (.inr (some 2))], (zs g0 gl)) _
  refine zH_call (M' := 78) (as := [.inr (.inr (some 2)), .inr (.inr (some 48)), .inl ((zdg q 1 : Nat) : Int)]) (T := []) rfl (p_serveT (K := K) (n := 0) (pp := zrp 2 q 0) hT0.1 (by decide) (hqp 0 (by decide)) (by rw [hT0.2.2.2.2.1 2 (by decide)]; exact hK7) hK) (fun r' σ' pm => ?_)
  obtain ⟨l0, tr0, g1, gl1, hl0, rfl, rfl, hs1, hs2⟩ := pm
  obtain ⟨s1, hR1, hT1⟩ := zTL_serve hT0 hR0 hl0 hs1 hs2
  show zH _ _ (28, [some (.inr (.inr (some 2))), some (.inl (q : Int)), some (.inl 2), some (.inl 1)], [.inl (l0 : Int)], (zs g1 gl1)) _
  refine zH_go 4 (c' := (12, [some (.inr (.inr (some 2))), some (.inl (q : Int)), some (.inl 2), some (.inl 0)], [.inl 0], (zs g1 gl1))) rfl ?_
  refine zH_bf (x := 0) (y := 0) (k := .lt) (c1 := (35, [some (.inr (.inr (some 2))), some (.inl (q : Int)), some (.inl 2), some (.inl 0)], [], (zs g1 gl1))) (c2 := (15, [some (.inr (.inr (some 2))), some (.inl (q : Int)), some (.inl 2), some (.inl 0)], [], (zs g1 gl1))) rfl ⟨by decide, by decide⟩ ⟨by decide, by decide⟩ (by show ¬ (0 < 0); decide) ?_
  refine zH_go 5 (c' := (22, [some (.inr (.inr (some 2))), some (.inl (q : Int)), some (.inl 2), some (.inl 0)], [.inl 0, .inl (q : Int), .inr (.inr (some 48)), .inr (.inr (some 2))], (zs g1 gl1))) rfl ?_
  refine zH_call (M' := 100) (as := [.inl (q : Int), .inl 0]) (T := [.inr (.inr (some 48)), .inr (.inr (some 2))]) rfl (p_digit (n := q) (i := 0) hq (by decide)) (fun r σ' p_2 => ?_)
  obtain ⟨rfl, rfl⟩ := p_2
  show zH _ _ (25, [some (.inr (.inr (some 2))), some (.inl (q : Int)), some (.inl 2), some (.inl 0)], [.inl ((zdg q 0 : Nat) : Int), .inr (.inr (some 48)), .inr (.inr (some 2))], (zs g1 gl1)) _
  refine zH_call (M' := 78) (as := [.inr (.inr (some 2)), .inr (.inr (some 48)), .inl ((zdg q 0 : Nat) : Int)]) (T := []) rfl (p_serveT (K := K) (n := 1) (pp := zrp 2 q 1) hT1.1 (by decide) (hqp 1 (by decide)) (by rw [hT1.2.2.2.2.1 2 (by decide)]; exact hK7) hK) (fun r' σ' pm => ?_)
  obtain ⟨l1, tr1, g2, gl2, hl1, rfl, rfl, hs1, hs2⟩ := pm
  obtain ⟨s2, hR2, hT2⟩ := zTL_serve hT1 hR1 hl1 hs1 hs2
  show zH _ _ (28, [some (.inr (.inr (some 2))), some (.inl (q : Int)), some (.inl 2), some (.inl 0)], [.inl (l1 : Int)], (zs g2 gl2)) _
  refine zH_go 4 (c' := (12, [some (.inr (.inr (some 2))), some (.inl (q : Int)), some (.inl 2), some (.inl (-1))], [.inl (-1)], (zs g2 gl2))) rfl ?_
  refine zH_bt (x := (-1)) (y := 0) (k := .lt) (c1 := (35, [some (.inr (.inr (some 2))), some (.inl (q : Int)), some (.inl 2), some (.inl (-1))], [], (zs g2 gl2))) (c2 := (15, [some (.inr (.inr (some 2))), some (.inl (q : Int)), some (.inl 2), some (.inl (-1))], [], (zs g2 gl2))) rfl ⟨by decide, by decide⟩ ⟨by decide, by decide⟩ (by show (-1) < 0; decide) ?_
  refine zH_ret (v := none) rfl (fun q => absurd q (by decide)) ?_
  exact ⟨rfl, s2, g2, gl2, rfl, hR2, hT2⟩
set_option maxRecDepth 100000 in
set_option maxHeartbeats 4000000 in
theorem p_tryRow3 {d : Nat} {h hl : Nat → Nat → Int} {g gl : Nat → Nat → Int} {p L B q k : Nat} {K t0 : Int} {sp : Nat → Nat} (hD : zDIT g p L B k sp) (hfr : ∀ c : Nat, c < 48 ∨ 65 < c → g c = h c) (hgl : gl = zup hl 81 0 (hl 81 0 + t0)) (hq : q < 512) (hqp : ∀ j : Nat, j < 3 → zrp 3 q j < p) (hK7 : h 2 7 = K) (hK : 0 ≤ K ∧ K ≤ 3) : zQ (d + 7) 85 [.inr (.inr (some 2)), .inl (q : Int), .inl 3] (zs g gl) (fun r' σ' => r' = none ∧ ∃ (s : zTS) (g' gl' : Nat → Nat → Int), σ' = zs g' gl' ∧ zRS h L B K 3 q 3 s ∧ zTL h hl g' gl' p L B 3 q 3 t0 s) := by
  have hBl := zSb_lt hD.1.1.2 hD.2.2.1
  have hB := hD.2.2.2.2.2.2.1
  refine zQ_of (Nat.le_of_ble_eq_true rfl) ?_
  show zH (d + 6) 85 (0, [some (.inr (.inr (some 2))), some (.inl (q : Int)), some (.inl 3), none], [], (zs g gl)) _
  refine zH_go 2 (c' := (4, [some (.inr (.inr (some 2))), some (.inl (q : Int)), some (.inl 3), none], [.inr (.inr (some 48))], (zs g gl))) rfl ?_
  refine zH_call (M' := 14) (as := [.inr (.inr (some 48))]) (T := []) rfl (p_rewindT hBl (by rw [hB])) (fun r' σ' pm => ?_)
  obtain ⟨rfl, g0, rfl, hg0⟩ := pm
  have hD0 := zDI_rwT hD hg0
  have f0 : ∀ c : Nat, c < 48 ∨ 65 < c → g0 c = h c := fun c hc => by rw [hg0.1 c (by omega) (by omega) (by omega)]; exact hfr c hc
  have hR0 : zRS h L B K 3 q 0 (fun i => zdg B i, fun _ => 0, -1, 0) := rfl
  have hT0 : zTL h hl g0 gl p L B 3 q 0 t0 (fun i => zdg B i, fun _ => 0, -1, 0) := zTL_0 hD0 hg0.2.2.2.2.2.2 hg0.2.2.2.1 f0 hgl
  show zH _ _ (7, [some (.inr (.inr (some 2))), some (.inl (q : Int)), some (.inl 3), none], [], (zs g0 gl)) _
  refine zH_go 5 (c' := (12, [some (.inr (.inr (some 2))), some (.inl (q : Int)), some (.inl 3), some (.inl 2)], [.inl 2], (zs g0 gl))) rfl ?_
  refine zH_bf (x := 2) (y := 0) (k := .lt) (c1 := (35, [some (.inr (.inr (some 2))), some (.inl (q : Int)), some (.inl 3), some (.inl 2)], [], (zs g0 gl))) (c2 := (15, [some (.inr (.inr (some 2))), some (.inl (q : Int)), some (.inl 3), some (.inl 2)], [], (zs g0 gl))) rfl ⟨by decide, by decide⟩ ⟨by decide, by decide⟩ (by show ¬ (2 < 0); decide) ?_
  refine zH_go 5 (c' := (22, [some (.inr (.inr (some 2))), some (.inl (q : Int)), some (.inl 3), some (.inl 2)], [.inl 2, .inl (q : Int), .inr (.inr (some 48)), .inr (.inr (some 2))], (zs g0 gl))) rfl ?_
  refine zH_call (M' := 100) (as := [.inl (q : Int), .inl 2]) (T := [.inr (.inr (some 48)), .inr (.inr (some 2))]) rfl (p_digit (n := q) (i := 2) hq (by decide)) (fun r σ' p_1 => ?_)
  obtain ⟨rfl, rfl⟩ := p_1
  show zH _ _ (25, [some (.inr (.inr (some 2))), some (.inl (q : Int)), some (.inl 3), some (.inl 2)], [.inl ((zdg q 2 : Nat) : Int), .inr (.inr (some 48)), .inr (.inr (some 2))], (zs g0 gl)) _
  refine zH_call (M' := 78) (as := [.inr (.inr (some 2)), .inr (.inr (some 48)), .inl ((zdg q 2 : Nat) : Int)]) (T := []) rfl (p_serveT (K := K) (n := 0) (pp := zrp 3 q 0) hT0.1 (by decide) (hqp 0 (by decide)) (by rw [hT0.2.2.2.2.1 2 (by decide)]; exact hK7) hK) (fun r' σ' pm => ?_)
  obtain ⟨l0, tr0, g1, gl1, hl0, rfl, rfl, hs1, hs2⟩ := pm
  obtain ⟨s1, hR1, hT1⟩ := zTL_serve hT0 hR0 hl0 hs1 hs2
  show zH _ _ (28, [some (.inr (.inr (some 2))), some (.inl (q : Int)), some (.inl 3), some (.inl 2)], [.inl (l0 : Int)], (zs g1 gl1)) _
  refine zH_go 4 (c' := (12, [some (.inr (.inr (some 2))), some (.inl (q : Int)), some (.inl 3), some (.inl 1)], [.inl 1], (zs g1 gl1))) rfl ?_
  refine zH_bf (x := 1) (y := 0) (k := .lt) (c1 := (35, [some (.inr (.inr (some 2))), some (.inl (q : Int)), some (.inl 3), some (.inl 1)], [], (zs g1 gl1))) (c2 := (15, [some (.inr (.inr (some 2))), some (.inl (q : Int)), some (.inl 3), some (.inl 1)], [], (zs g1 gl1))) rfl ⟨by decide, by decide⟩ ⟨by decide, by decide⟩ (by show ¬ (1 < 0); decide) ?_
  refine zH_go 5 (c' := (22, [some (.inr (.inr (some 2))), some (.inl (q : Int)), some (.inl 3), some (.inl 1)], [.inl 1, .inl (q : Int), .inr (.inr (some 48)), .inr (.inr (some 2))], (zs g1 gl1))) rfl ?_
  refine zH_call (M' := 100) (as := [.inl (q : Int), .inl 1]) (T := [.inr (.inr (some 48)), .inr (.inr (some 2))]) rfl (p_digit (n := q) (i := 1) hq (by decide)) (fun r σ' p_2 => ?_)
  obtain ⟨rfl, rfl⟩ := p_2
  show zH _ _ (25, [some (.inr (.inr (some 2))), some (.inl (q : Int)), some (.inl 3), some (.inl 1)], [.inl ((zdg q 1 : Nat) : Int), .inr (.inr (some 48)), .inr (.inr (some 2))], (zs g1 gl1)) _
  refine zH_call (M' := 78) (as := [.inr (.inr (some 2)), .inr (.inr (some 48)), .inl ((zdg q 1 : Nat) : Int)]) (T := []) rfl (p_serveT (K := K) (n := 1) (pp := zrp 3 q 1) hT1.1 (by decide) (hqp 1 (by decide)) (by rw [hT1.2.2.2.2.1 2 (by decide)]; exact hK7) hK) (fun r' σ' pm => ?_)
  obtain ⟨l1, tr1, g2, gl2, hl1, rfl, rfl, hs1, hs2⟩ := pm
  obtain ⟨s2, hR2, hT2⟩ := zTL_serve hT1 hR1 hl1 hs1 hs2
  show zH _ _ (28, [some (.inr (.inr (some 2))), some (.inl (q : Int)), some (.inl 3), some (.inl 1)], [.inl (l1 : Int)], (zs g2 gl2)) _
  refine zH_go 4 (c' := (12, [some (.inr (.inr (some 2))), some (.inl (q : Int)), some (.inl 3), some (.inl 0)], [.inl 0], (zs g2 gl2))) rfl ?_
  refine zH_bf (x := 0) (y := 0) (k := .lt) (c1 := (35, [some (.inr (.inr (some 2))), some (.inl (q : Int)), some (.inl 3), some (.inl 0)], [], (zs g2 gl2))) (c2 := (15, [some (.inr (.inr (some 2))), some (.inl (q : Int)), some (.inl 3), some (.inl 0)], [], (zs g2 gl2))) rfl ⟨by decide, by decide⟩ ⟨by decide, by decide⟩ (by show ¬ (0 < 0); decide) ?_
  refine zH_go 5 (c' := (22, [some (.inr (.inr (some 2))), some (.inl (q : Int)), some (.inl 3), some (.inl 0)], [.inl 0, .inl (q : Int), .inr (.inr (some 48)), .inr (.inr (some 2))], (zs g2 gl2))) rfl ?_
  refine zH_call (M' := 100) (as := [.inl (q : Int), .inl 0]) (T := [.inr (.inr (some 48)), .inr (.inr (some 2))]) rfl (p_digit (n := q) (i := 0) hq (by decide)) (fun r σ' p_3 => ?_)
  obtain ⟨rfl, rfl⟩ := p_3
  show zH _ _ (25, [some (.inr (.inr (some 2))), some (.inl (q : Int)), some (.inl 3), some (.inl 0)], [.inl ((zdg q 0 : Nat) : Int), .inr (.inr (some 48)), .inr (.inr (some 2))], (zs g2 gl2)) _
  refine zH_call (M' := 78) (as := [.inr (.inr (some 2)), .inr (.inr (some 48)), .inl ((zdg q 0 : Nat) : Int)]) (T := []) rfl (p_serveT (K := K) (n := 2) (pp := zrp 3 q 2) hT2.1 (by decide) (hqp 2 (by decide)) (by rw [hT2.2.2.2.2.1 2 (by decide)]; exact hK7) hK) (fun r' σ' pm => ?_)
  obtain ⟨l2, tr2, g3, gl3, hl2, rfl, rfl, hs1, hs2⟩ := pm
  obtain ⟨s3, hR3, hT3⟩ := zTL_serve hT2 hR2 hl2 hs1 hs2
  show zH _ _ (28, [some (.inr (.inr (some 2))), some (.inl (q : Int)), some (.inl 3), some (.inl 0)], [.inl (l2 : Int)], (zs g3 gl3)) _
  refine zH_go 4 (c' := (12, [some (.inr (.inr (some 2))), some (.inl (q : Int)), some (.inl 3), some (.inl (-1))], [.inl (-1)], (zs g3 gl3))) rfl ?_
  refine zH_bt (x := (-1)) (y := 0) (k := .lt) (c1 := (35, [some (.inr (.inr (some 2))), some (.inl (q : Int)), some (.inl 3), some (.inl (-1))], [], (zs g3 gl3))) (c2 := (15, [some (.inr (.inr (some 2))), some (.inl (q : Int)), some (.inl 3), some (.inl (-1))], [], (zs g3 gl3))) rfl ⟨by decide, by decide⟩ ⟨by decide, by decide⟩ (by show (-1) < 0; decide) ?_
  refine zH_ret (v := none) rfl (fun q => absurd q (by decide)) ?_
  exact ⟨rfl, s3, g3, gl3, rfl, hR3, hT3⟩
theorem p_tryRow {d : Nat} {h hl : Nat → Nat → Int} {g gl : Nat → Nat → Int} {p L B q k n : Nat} {K t0 : Int} {sp : Nat → Nat} (hn : 1 ≤ n ∧ n ≤ 3) (hD : zDIT g p L B k sp) (hfr : ∀ c : Nat, c < 48 ∨ 65 < c → g c = h c) (hgl : gl = zup hl 81 0 (hl 81 0 + t0)) (hq : q < 512) (hqp : ∀ j : Nat, j < n → zrp n q j < p) (hK7 : h 2 7 = K) (hK : 0 ≤ K ∧ K ≤ 3) : zQ (d + 7) 85 [.inr (.inr (some 2)), .inl (q : Int), .inl (n : Int)] (zs g gl) (fun r' σ' => r' = none ∧ ∃ (s : zTS) (g' gl' : Nat → Nat → Int), σ' = zs g' gl' ∧ zRS h L B K n q n s ∧ zTL h hl g' gl' p L B n q n t0 s) := by
  rcases (show n = 1 ∨ n = 2 ∨ n = 3 by omega) with rfl | rfl | rfl
  · exact p_tryRow1 hD hfr hgl hq hqp hK7 hK
  · exact p_tryRow2 hD hfr hgl hq hqp hK7 hK
  · exact p_tryRow3 hD hfr hgl hq hqp hK7 hK
set_option maxRecDepth 100000 in
set_option maxHeartbeats 4000000 in
theorem p_worst {d : Nat} {h hl : Nat → Nat → Int} {m w : Int} (hm : zr m) (hw : zr w) (hz4 : ∀ j : Nat, j < 4 → zr (h 56 j)) (hon : zr (h 21 3)) {K : Int} (hK7 : h 2 7 = K) (hK : 0 ≤ K ∧ K ≤ 3) {p r : Nat} (hW : zTown h p r) {L B n : Nat} {sp : Nat → Nat} (hD : 0 < h 21 3 → zDID h p L B n sp) : zQ (d + 8) 84 [.inr (.inr (some 2)), .inl m, .inl w] (zs h hl) (fun r' σ' => (¬ 0 < h 21 3 ∧ r' = some (.inl (-2)) ∧ σ' = zs h hl) ∨ (0 < h 21 3 ∧ ¬ ((1 ≤ m ∧ m ≤ 3) ∧ 0 ≤ w ∧ w ≤ 2) ∧ r' = some (.inl (-1)) ∧ σ' = zs h hl) ∨ (0 < h 21 3 ∧ ∃ (n : Nat) (a : zTA), m = (n : Int) ∧ (1 ≤ n ∧ n ≤ 3) ∧ (0 ≤ w ∧ w ≤ 2) ∧ zAc h p L B K n (p ^ n) a ∧ ((w = 0 ∧ r' = some (.inl (a.1 : Int))) ∨ (w = 1 ∧ r' = some (.inl a.2.1)) ∨ (w = 2 ∧ r' = some (.inl a.2.2.1))) ∧ ∃ g gl : Nat → Nat → Int, σ' = zs g gl ∧ gl = zup hl 81 0 (hl 81 0 + a.2.2.2.2) ∧ (∀ c : Nat, c < 48 ∨ 65 < c → g c = h c) ∧ ∀ j : Nat, j < 4 → zr (g 56 j))) := by
  have hWc := hW
  obtain ⟨hp6, hr15, h30, h31, hp3, hr4, hMe, hTB, hCn, hPo, hRd, hLk, hGr⟩ := hWc
  have hP : 0 ≤ h 3 0 ∧ h 3 0 ≤ 6 := by omega
  refine zQ_of (Nat.le_of_ble_eq_true rfl) ?_
  show zH (d + 7) 84 (0, [some (.inr (.inr (some 2))), some (.inl m), some (.inl w), none, none, none, none, none, none, none], [], (zs h hl)) _
  refine zH_go 2 (c' := (4, [some (.inr (.inr (some 2))), some (.inl m), some (.inl w), none, none, none, none, none, none, none], [.inr (.inr (some 21))], (zs h hl))) rfl ?_
  refine zH_call (M' := 12) (as := [.inr (.inr (some 21))]) (T := []) rfl (p_isOnD hon) (fun r σ' p_1 => ?_)
  rcases p_1 with ⟨rfl, b_2, rfl⟩ | ⟨rfl, b_2, rfl⟩
  · show zH _ _ (7, [some (.inr (.inr (some 2))), some (.inl m), some (.inl w), none, none, none, none, none, none, none], [.inl 1], (zs h hl)) _
    refine zH_bt (x := 1) (y := 0) (k := .ne) (c1 := (13, [some (.inr (.inr (some 2))), some (.inl m), some (.inl w), none, none, none, none, none, none, none], [], (zs h hl))) (c2 := (10, [some (.inr (.inr (some 2))), some (.inl m), some (.inl w), none, none, none, none, none, none, none], [], (zs h hl))) rfl ⟨by decide, by decide⟩ ⟨by decide, by decide⟩ (by show ¬ 1 = 0; decide) ?_
    have hD9 := hD (by assumption)
    have hDc := hD9
    obtain ⟨hS, hT, hBs, hL, hn, hn2, hB, htu, hsp, hspL, hsu, hR, hWk, hnk, hHE, hHz⟩ := hDc
    have hL3 := hS.1
    have hBl := zSb_lt hL3.2 hBs
    have hp1 : 1 ≤ p := by have := hspL 0 (by omega); omega
    have hz56 : ∀ g : Nat → Nat → Int, (∃ (k' : Nat) (sp' : Nat → Nat), zDIT g p L B k' sp') → ∀ j : Nat, j < 4 → zr (g 56 j) := fun g ⟨k', sp', q⟩ j hj => q.2.2.2.2.2.2.2.2.2.2.2.2.2.2.2 j hj
    refine zH_go 2 (c' := (15, [some (.inr (.inr (some 2))), some (.inl m), some (.inl w), none, none, none, none, none, none, none], [.inl 1, .inl m], (zs h hl))) rfl ?_
    refine zH_br (x := m) (y := 1) (k := .lt) (c1 := (32, [some (.inr (.inr (some 2))), some (.inl m), some (.inl w), none, none, none, none, none, none, none], [], (zs h hl))) (c2 := (18, [some (.inr (.inr (some 2))), some (.inl m), some (.inl w), none, none, none, none, none, none, none], [], (zs h hl))) rfl (by first | assumption | (unfold zr; omega)) ⟨by decide, by decide⟩ (fun (b_3 : m < 1) => ?_) (fun (b_3 : ¬ (m < 1)) => ?_)
    · refine zH_go 1 (c' := (33, [some (.inr (.inr (some 2))), some (.inl m), some (.inl w), none, none, none, none, none, none, none], [.inl (-1)], (zs h hl))) rfl ?_
      refine zH_ret (v := some (.inl (-1))) rfl (fun q => absurd q (by decide)) ?_
      exact Or.inr (Or.inl ⟨by assumption, by omega, rfl, rfl⟩)
    · refine zH_go 2 (c' := (20, [some (.inr (.inr (some 2))), some (.inl m), some (.inl w), none, none, none, none, none, none, none], [.inl 3, .inl m], (zs h hl))) rfl ?_
      refine zH_br (x := m) (y := 3) (k := .gt) (c1 := (32, [some (.inr (.inr (some 2))), some (.inl m), some (.inl w), none, none, none, none, none, none, none], [], (zs h hl))) (c2 := (23, [some (.inr (.inr (some 2))), some (.inl m), some (.inl w), none, none, none, none, none, none, none], [], (zs h hl))) rfl (by first | assumption | (unfold zr; omega)) ⟨by decide, by decide⟩ (fun (b_4 : 3 < m) => ?_) (fun (b_4 : ¬ (3 < m)) => ?_)
      · refine zH_go 1 (c' := (33, [some (.inr (.inr (some 2))), some (.inl m), some (.inl w), none, none, none, none, none, none, none], [.inl (-1)], (zs h hl))) rfl ?_
        refine zH_ret (v := some (.inl (-1))) rfl (fun q => absurd q (by decide)) ?_
        exact Or.inr (Or.inl ⟨by assumption, by omega, rfl, rfl⟩)
      · refine zH_go 1 (c' := (24, [some (.inr (.inr (some 2))), some (.inl m), some (.inl w), none, none, none, none, none, none, none], [.inl w], (zs h hl))) rfl ?_
        refine zH_br (x := w) (y := 0) (k := .lt) (c1 := (32, [some (.inr (.inr (some 2))), some (.inl m), some (.inl w), none, none, none, none, none, none, none], [], (zs h hl))) (c2 := (27, [some (.inr (.inr (some 2))), some (.inl m), some (.inl w), none, none, none, none, none, none, none], [], (zs h hl))) rfl (by first | assumption | (unfold zr; omega)) ⟨by decide, by decide⟩ (fun (b_5 : w < 0) => ?_) (fun (b_5 : ¬ (w < 0)) => ?_)
        · refine zH_go 1 (c' := (33, [some (.inr (.inr (some 2))), some (.inl m), some (.inl w), none, none, none, none, none, none, none], [.inl (-1)], (zs h hl))) rfl ?_
          refine zH_ret (v := some (.inl (-1))) rfl (fun q => absurd q (by decide)) ?_
          exact Or.inr (Or.inl ⟨by assumption, by omega, rfl, rfl⟩)
        · refine zH_go 2 (c' := (29, [some (.inr (.inr (some 2))), some (.inl m), some (.inl w), none, none, none, none, none, none, none], [.inl 2, .inl w], (zs h hl))) rfl ?_
          refine zH_br (x := w) (y := 2) (k := .le) (c1 := (34, [some (.inr (.inr (some 2))), some (.inl m), some (.inl w), none, none, none, none, none, none, none], [], (zs h hl))) (c2 := (32, [some (.inr (.inr (some 2))), some (.inl m), some (.inl w), none, none, none, none, none, none, none], [], (zs h hl))) rfl (by first | assumption | (unfold zr; omega)) ⟨by decide, by decide⟩ (fun (b_6 : ¬ 2 < w) => ?_) (fun (b_6 : ¬ (¬ 2 < w)) => ?_)
          · obtain ⟨n, rfl⟩ := Int.eq_ofNat_of_zero_le (show 0 ≤ m by omega)
            show zH _ _ (34, [some (.inr (.inr (some 2))), some (.inl (n : Int)), some (.inl w), none, none, none, none, none, none, none], [], (zs h hl)) _
            refine zH_go 13 (c' := (56, [some (.inr (.inr (some 2))), some (.inl (n : Int)), some (.inl w), some (.inl 0), some (.inl 0), some (.inl 0), some (.inl (-1)), none, none, none], [.inl (h 21 5), .inr (.inr (some 48))], (zs h hl))) rfl ?_
            rw [hB]
            refine zH_call (M' := 13) (as := [.inr (.inr (some 48)), .inl (B : Int)]) (T := []) rfl (p_startT hS hT hBs hBl) (fun r' σ' pm => ?_)
            obtain ⟨rfl, g0, rfl, hg0⟩ := pm
            have hD0 := zDI_startT hS hT hBs hz4 hg0
            show zH _ _ (59, [some (.inr (.inr (some 2))), some (.inl (n : Int)), some (.inl w), some (.inl 0), some (.inl 0), some (.inl 0), some (.inl (-1)), none, none, none], [], (zs g0 hl)) _
            refine zH_go 2 (c' := (62, [some (.inr (.inr (some 2))), some (.inl (n : Int)), some (.inl w), some (.inl 0), some (.inl 0), some (.inl 0), some (.inl (-1)), some (.inl 0), none, none], [], (zs g0 hl))) rfl ?_
            refine zH_lp (X := (Nat → Nat → Int) × (Nat → Nat → Int) × Nat × Int × Int × Int × Int × (Option zV) × (Option zV)) (F := fun (kq : Nat) (x : (Nat → Nat → Int) × (Nat → Nat → Int) × Nat × Int × Int × Int × Int × (Option zV) × (Option zV)) => (62, [some (.inr (.inr (some 2))), some (.inl (n : Int)), some (.inl w), some (.inl ((x.2.2.1 : Nat) : Int)), some (.inl x.2.2.2.1), some (.inl x.2.2.2.2.1), some (.inl x.2.2.2.2.2.1), some (.inl (kq : Int)), x.2.2.2.2.2.2.2.1, x.2.2.2.2.2.2.2.2], [], (zs x.1 x.2.1))) (I := fun (kq : Nat) (x : (Nat → Nat → Int) × (Nat → Nat → Int) × Nat × Int × Int × Int × Int × (Option zV) × (Option zV)) => (∃ (k' : Nat) (sp' : Nat → Nat), zDIT x.1 p L B k' sp') ∧ (∀ c : Nat, c < 48 ∨ 65 < c → x.1 c = h c) ∧ zAc h p L B K n (zrk p n (kq)) (x.2.2.1, x.2.2.2.1, x.2.2.2.2.1, x.2.2.2.2.2.1, x.2.2.2.2.2.2.1) ∧ x.2.1 = zup hl 81 0 (hl 81 0 + x.2.2.2.2.2.2.1) ∧ (-1 ≤ x.2.2.2.2.2.1 ∧ x.2.2.2.2.2.1 ≤ 1000000)) (N := 512) (fun k x hk hI ih => ?_) (fun x hI => ?_) 0 (g0, hl, 0, 0, 0, (-1), 0, none, none) (by omega) ?_
            · obtain ⟨g, gl, row, cost, least, most, tr, x8, x9⟩ := x
              replace hI : (∃ (k' : Nat) (sp' : Nat → Nat), zDIT g p L B k' sp') ∧ (∀ c : Nat, c < 48 ∨ 65 < c → g c = h c) ∧ zAc h p L B K n (zrk p n (k)) (row, cost, least, most, tr) ∧ gl = zup hl 81 0 (hl 81 0 + tr) ∧ (-1 ≤ most ∧ most ≤ 1000000) := hI
              show zH _ _ (62, [some (.inr (.inr (some 2))), some (.inl (n : Int)), some (.inl w), some (.inl (row : Int)), some (.inl cost), some (.inl least), some (.inl most), some (.inl (k : Int)), x8, x9], [], (zs g gl)) _
              have h30g : g 3 0 = (p : Int) := by rw [hI.2.1 3 (by decide)]; exact h30
              have hPg : 0 ≤ g 3 0 ∧ g 3 0 ≤ 6 := by omega
              have hrkx := zrk_ok p (by omega) n (by omega) (by omega) hp1 k hk
              refine zH_go 2 (c' := (67, [some (.inr (.inr (some 2))), some (.inl (n : Int)), some (.inl w), some (.inl (row : Int)), some (.inl cost), some (.inl least), some (.inl most), some (.inl (k : Int)), x8, x9], [.inl 512, .inl (k : Int)], (zs g gl))) rfl ?_
              refine zH_bf (x := (k : Int)) (y := 512) (k := .ge) (c1 := (149, [some (.inr (.inr (some 2))), some (.inl (n : Int)), some (.inl w), some (.inl (row : Int)), some (.inl cost), some (.inl least), some (.inl most), some (.inl (k : Int)), x8, x9], [], (zs g gl))) (c2 := (70, [some (.inr (.inr (some 2))), some (.inl (n : Int)), some (.inl w), some (.inl (row : Int)), some (.inl cost), some (.inl least), some (.inl most), some (.inl (k : Int)), x8, x9], [], (zs g gl))) rfl (by first | assumption | (unfold zr; omega)) ⟨by decide, by decide⟩ (by show ¬ (¬ (k : Int) < 512); omega) ?_
              refine zH_go 4 (c' := (77, [some (.inr (.inr (some 2))), some (.inl (n : Int)), some (.inl w), some (.inl (row : Int)), some (.inl cost), some (.inl least), some (.inl most), some (.inl (k : Int)), x8, x9], [.inl (n : Int), .inl (k : Int), .inr (.inr (some 3))], (zs g gl))) rfl ?_
              refine zH_call (M' := 49) (as := [.inr (.inr (some 3)), .inl (k : Int), .inl (n : Int)]) (T := []) rfl (p_hasAll (L := n) (by omega) (show zr ((k : Nat) : Int) from ⟨by omega, by omega⟩) hPg) (fun r σ' p_7 => ?_)
              rcases p_7 with ⟨rfl, b_8, rfl⟩ | ⟨rfl, b_8, rfl⟩
              · show zH _ _ (80, [some (.inr (.inr (some 2))), some (.inl (n : Int)), some (.inl w), some (.inl (row : Int)), some (.inl cost), some (.inl least), some (.inl most), some (.inl (k : Int)), x8, x9], [.inl 1], (zs g gl)) _
                refine zH_bt (x := 1) (y := 0) (k := .ne) (c1 := (86, [some (.inr (.inr (some 2))), some (.inl (n : Int)), some (.inl w), some (.inl (row : Int)), some (.inl cost), some (.inl least), some (.inl most), some (.inl (k : Int)), x8, x9], [], (zs g gl))) (c2 := (83, [some (.inr (.inr (some 2))), some (.inl (n : Int)), some (.inl w), some (.inl (row : Int)), some (.inl cost), some (.inl least), some (.inl most), some (.inl (k : Int)), x8, x9], [], (zs g gl))) rfl ⟨by decide, by decide⟩ ⟨by decide, by decide⟩ (by show ¬ 1 = 0; decide) ?_
                have hsb : zSb p n k = true := zSb_iff.mp (by rw [← h30g]; assumption)
                have hx1 := hrkx.1 hsb
                refine zH_go 3 (c' := (90, [some (.inr (.inr (some 2))), some (.inl (n : Int)), some (.inl w), some (.inl (row : Int)), some (.inl cost), some (.inl least), some (.inl most), some (.inl (k : Int)), x8, x9], [.inl (n : Int), .inl (k : Int), .inr (.inr (some 2))], (zs g gl))) rfl ?_
                obtain ⟨⟨k', sp', hDk⟩, hIf, hIa, hIg, hIm⟩ := hI
                have hI : (∃ (k' : Nat) (sp' : Nat → Nat), zDIT g p L B k' sp') ∧ (∀ c : Nat, c < 48 ∨ 65 < c → g c = h c) ∧ zAc h p L B K n (zrk p n k) (row, cost, least, most, tr) ∧ gl = zup hl 81 0 (hl 81 0 + tr) ∧ (-1 ≤ most ∧ most ≤ 1000000) := ⟨⟨k', sp', hDk⟩, hIf, hIa, hIg, hIm⟩
                refine zH_call (M' := 85) (as := [.inr (.inr (some 2)), .inl (k : Int), .inl (n : Int)]) (T := []) rfl (p_tryRow (K := K) (q := k) (n := n) (by omega) hDk hIf hIg (by omega) (fun j hj => by unfold zrp; exact zSb_dg hsb (by omega)) hK7 hK) (fun r' σ' pm => ?_)
                obtain ⟨rfl, s, g', gl', rfl, hRS, hTL⟩ := pm
                have hTD := hTL.1
                have hsb2 := zDI_bT hTD
                obtain ⟨tS, tT, tB, tL, tn, tn2, tBB, ttu, tsp, tspL, tsu, tR, tW, tnk, tHE, tHz⟩ := hTD
                have e0 := hTL.2.1 0 (by decide)
                have e1 := hTL.2.1 1 (by decide)
                have e2 := hTL.2.1 2 (by decide)
                have b0 := hsb2 0 (by decide)
                have b1 := hsb2 1 (by decide)
                have b2 := hsb2 2 (by decide)
                show zH _ _ (93, [some (.inr (.inr (some 2))), some (.inl (n : Int)), some (.inl w), some (.inl (row : Int)), some (.inl cost), some (.inl least), some (.inl most), some (.inl (k : Int)), x8, x9], [], (zs g' gl')) _
                refine zH_go 2 (c' := (97, [some (.inr (.inr (some 2))), some (.inl (n : Int)), some (.inl w), some (.inl (row : Int)), some (.inl cost), some (.inl least), some (.inl most), some (.inl (k : Int)), x8, x9], [.inr (.inr (some 48))], (zs g' gl'))) rfl ?_
                refine zH_call (M' := 22) (as := [.inr (.inr (some 48))]) (T := []) rfl p_paidT (fun r' σ' pm => ?_)
                obtain ⟨rfl, rfl⟩ := pm
                rw [e0, e1, e2]
                rw [e0] at b0
                rw [e1] at b1
                rw [e2] at b2
                show zH _ _ (100, [some (.inr (.inr (some 2))), some (.inl (n : Int)), some (.inl w), some (.inl (row : Int)), some (.inl cost), some (.inl least), some (.inl most), some (.inl (k : Int)), x8, x9], [.inl (s.2.1 0 + s.2.1 1 + s.2.1 2)], (zs g' gl')) _
                refine zH_go 5 (c' := (110, [some (.inr (.inr (some 2))), some (.inl (n : Int)), some (.inl w), some (.inl (row : Int)), some (.inl cost), some (.inl least), some (.inl most), some (.inl (k : Int)), some (.inl (s.2.1 0 + s.2.1 1 + s.2.1 2)), x9], [.inl (n : Int), .inr (.inr (some 49))], (zs g' gl'))) rfl ?_
                have tW2 := tW
                obtain ⟨kk, w1, w2, w3, w4⟩ := tW2
                have hrow := zWI_b tS tT tB tW w1 (n := n) (by omega) (by decide)
                have hne : ∃ j : Nat, (j : Int) < g' 18 2 := ⟨Int.toNat (g' 20 B), by have := tS.2.2.2.2.1 B hBl tB; omega⟩
                refine zH_call (M' := 60) (as := [.inr (.inr (some 49)), .inl (n : Int)]) (T := []) rfl (p_wlowT (n0 := n) tS (by omega) hrow hne) (fun r' σ' pm => ?_)
                obtain ⟨v, rfl, v1, v2, rfl⟩ := pm
                have hv := zLow_T hTL (by omega) v1 v2
                have hvb : 0 ≤ v ∧ v ≤ 100000 := by obtain ⟨j, j1, j2⟩ := v2; rw [j2]; exact hrow j j1
                show zH _ _ (113, [some (.inr (.inr (some 2))), some (.inl (n : Int)), some (.inl w), some (.inl (row : Int)), some (.inl cost), some (.inl least), some (.inl most), some (.inl (k : Int)), some (.inl (s.2.1 0 + s.2.1 1 + s.2.1 2)), x9], [.inl v], (zs g' gl')) _
                refine zH_go 5 (c' := (122, [some (.inr (.inr (some 2))), some (.inl (n : Int)), some (.inl w), some (.inl (row : Int)), some (.inl cost), some (.inl least), some (.inl most), some (.inl (k : Int)), some (.inl (s.2.1 0 + s.2.1 1 + s.2.1 2)), some (.inl v)], [.inl most, .inl ((s.2.1 0 + s.2.1 1 + s.2.1 2) - v)], (zs g' gl'))) rfl ?_
                refine zH_br (x := ((s.2.1 0 + s.2.1 1 + s.2.1 2) - v)) (y := most) (k := .le) (c1 := (143, [some (.inr (.inr (some 2))), some (.inl (n : Int)), some (.inl w), some (.inl (row : Int)), some (.inl cost), some (.inl least), some (.inl most), some (.inl (k : Int)), some (.inl (s.2.1 0 + s.2.1 1 + s.2.1 2)), some (.inl v)], [], (zs g' gl'))) (c2 := (125, [some (.inr (.inr (some 2))), some (.inl (n : Int)), some (.inl w), some (.inl (row : Int)), some (.inl cost), some (.inl least), some (.inl most), some (.inl (k : Int)), some (.inl (s.2.1 0 + s.2.1 1 + s.2.1 2)), some (.inl v)], [], (zs g' gl'))) rfl (by first | assumption | (unfold zr; omega)) (by first | assumption | (unfold zr; omega)) (fun (b_9 : ¬ most < ((s.2.1 0 + s.2.1 1 + s.2.1 2) - v)) => ?_) (fun (b_9 : ¬ (¬ most < ((s.2.1 0 + s.2.1 1 + s.2.1 2) - v))) => ?_)
                · refine zH_go 2 (c' := (62, [some (.inr (.inr (some 2))), some (.inl (n : Int)), some (.inl w), some (.inl (row : Int)), some (.inl cost), some (.inl least), some (.inl most), some (.inl ((k : Int) + 1)), some (.inl (s.2.1 0 + s.2.1 1 + s.2.1 2)), some (.inl v)], [], (zs g' gl'))) rfl ?_
                  refine ih (g', gl', row, cost, least, most, (tr + s.2.2.2), (some (.inl (s.2.1 0 + s.2.1 1 + s.2.1 2))), (some (.inl v))) ?_
                  show (∃ (k' : Nat) (sp' : Nat → Nat), zDIT g' p L B k' sp') ∧ (∀ c : Nat, c < 48 ∨ 65 < c → g' c = h c) ∧ zAc h p L B K n (zrk p n ((k + 1))) (row, cost, least, most, (tr + s.2.2.2)) ∧ gl' = zup hl 81 0 (hl 81 0 + (tr + s.2.2.2)) ∧ (-1 ≤ most ∧ most ≤ 1000000)
                  refine ⟨⟨n, s.1, hTL.1⟩, hTL.2.2.2.2.1, ?_, hTL.2.2.2.2.2, by omega⟩
                  rw [hx1.2]
                  refine ⟨_, _, _, _, hI.2.2.1, (by rw [hx1.1]; exact ⟨s, hRS, rfl, rfl, hv⟩), ?_⟩
                  rw [hx1.1]
                  rw [if_neg (by dsimp only; omega)]
                · refine zH_go 12 (c' := (62, [some (.inr (.inr (some 2))), some (.inl (n : Int)), some (.inl w), some (.inl (k : Int)), some (.inl (s.2.1 0 + s.2.1 1 + s.2.1 2)), some (.inl v), some (.inl ((s.2.1 0 + s.2.1 1 + s.2.1 2) - v)), some (.inl ((k : Int) + 1)), some (.inl (s.2.1 0 + s.2.1 1 + s.2.1 2)), some (.inl v)], [], (zs g' gl'))) rfl ?_
                  refine ih (g', gl', k, (s.2.1 0 + s.2.1 1 + s.2.1 2), v, ((s.2.1 0 + s.2.1 1 + s.2.1 2) - v), (tr + s.2.2.2), (some (.inl (s.2.1 0 + s.2.1 1 + s.2.1 2))), (some (.inl v))) ?_
                  show (∃ (k' : Nat) (sp' : Nat → Nat), zDIT g' p L B k' sp') ∧ (∀ c : Nat, c < 48 ∨ 65 < c → g' c = h c) ∧ zAc h p L B K n (zrk p n ((k + 1))) (k, (s.2.1 0 + s.2.1 1 + s.2.1 2), v, ((s.2.1 0 + s.2.1 1 + s.2.1 2) - v), (tr + s.2.2.2)) ∧ gl' = zup hl 81 0 (hl 81 0 + (tr + s.2.2.2)) ∧ (-1 ≤ ((s.2.1 0 + s.2.1 1 + s.2.1 2) - v) ∧ ((s.2.1 0 + s.2.1 1 + s.2.1 2) - v) ≤ 1000000)
                  refine ⟨⟨n, s.1, hTL.1⟩, hTL.2.2.2.2.1, ?_, hTL.2.2.2.2.2, by omega⟩
                  rw [hx1.2]
                  refine ⟨_, _, _, _, hI.2.2.1, (by rw [hx1.1]; exact ⟨s, hRS, rfl, rfl, hv⟩), ?_⟩
                  rw [hx1.1]
                  rw [if_pos (by dsimp only; omega)]
              · show zH _ _ (80, [some (.inr (.inr (some 2))), some (.inl (n : Int)), some (.inl w), some (.inl (row : Int)), some (.inl cost), some (.inl least), some (.inl most), some (.inl (k : Int)), x8, x9], [.inl 0], (zs g gl)) _
                refine zH_bf (x := 0) (y := 0) (k := .ne) (c1 := (86, [some (.inr (.inr (some 2))), some (.inl (n : Int)), some (.inl w), some (.inl (row : Int)), some (.inl cost), some (.inl least), some (.inl most), some (.inl (k : Int)), x8, x9], [], (zs g gl))) (c2 := (83, [some (.inr (.inr (some 2))), some (.inl (n : Int)), some (.inl w), some (.inl (row : Int)), some (.inl cost), some (.inl least), some (.inl most), some (.inl (k : Int)), x8, x9], [], (zs g gl))) rfl ⟨by decide, by decide⟩ ⟨by decide, by decide⟩ (by show ¬ (¬ 0 = 0); decide) ?_
                refine zH_go 3 (c' := (62, [some (.inr (.inr (some 2))), some (.inl (n : Int)), some (.inl w), some (.inl (row : Int)), some (.inl cost), some (.inl least), some (.inl most), some (.inl ((k : Int) + 1)), x8, x9], [], (zs g gl))) rfl ?_
                refine ih (g, gl, row, cost, least, most, tr, x8, x9) ?_
                show (∃ (k' : Nat) (sp' : Nat → Nat), zDIT g p L B k' sp') ∧ (∀ c : Nat, c < 48 ∨ 65 < c → g c = h c) ∧ zAc h p L B K n (zrk p n ((k + 1))) (row, cost, least, most, tr) ∧ gl = zup hl 81 0 (hl 81 0 + tr) ∧ (-1 ≤ most ∧ most ≤ 1000000)
                refine ⟨hI.1, hI.2.1, ?_, hI.2.2.2⟩
                rw [hrkx.2 (by cases e : zSb p n k with | true => exact absurd (zSb_iff.mpr e) (by rw [← h30g]; assumption) | false => rfl)]
                exact hI.2.2.1
            · obtain ⟨g, gl, row, cost, least, most, tr, x8, x9⟩ := x
              replace hI : (∃ (k' : Nat) (sp' : Nat → Nat), zDIT g p L B k' sp') ∧ (∀ c : Nat, c < 48 ∨ 65 < c → g c = h c) ∧ zAc h p L B K n (zrk p n (512)) (row, cost, least, most, tr) ∧ gl = zup hl 81 0 (hl 81 0 + tr) ∧ (-1 ≤ most ∧ most ≤ 1000000) := hI
              show zH _ _ (62, [some (.inr (.inr (some 2))), some (.inl (n : Int)), some (.inl w), some (.inl (row : Int)), some (.inl cost), some (.inl least), some (.inl most), some (.inl 512), x8, x9], [], (zs g gl)) _
              refine zH_go 2 (c' := (67, [some (.inr (.inr (some 2))), some (.inl (n : Int)), some (.inl w), some (.inl (row : Int)), some (.inl cost), some (.inl least), some (.inl most), some (.inl 512), x8, x9], [.inl 512, .inl 512], (zs g gl))) rfl ?_
              refine zH_bt (x := 512) (y := 512) (k := .ge) (c1 := (149, [some (.inr (.inr (some 2))), some (.inl (n : Int)), some (.inl w), some (.inl (row : Int)), some (.inl cost), some (.inl least), some (.inl most), some (.inl 512), x8, x9], [], (zs g gl))) (c2 := (70, [some (.inr (.inr (some 2))), some (.inl (n : Int)), some (.inl w), some (.inl (row : Int)), some (.inl cost), some (.inl least), some (.inl most), some (.inl 512), x8, x9], [], (zs g gl))) rfl ⟨by decide, by decide⟩ ⟨by decide, by decide⟩ (by show ¬ 512 < 512; decide) ?_
              refine zH_go 1 (c' := (150, [some (.inr (.inr (some 2))), some (.inl (n : Int)), some (.inl w), some (.inl (row : Int)), some (.inl cost), some (.inl least), some (.inl most), some (.inl 512), x8, x9], [.inl w], (zs g gl))) rfl ?_
              refine zH_br (x := w) (y := 0) (k := .ne) (c1 := (157, [some (.inr (.inr (some 2))), some (.inl (n : Int)), some (.inl w), some (.inl (row : Int)), some (.inl cost), some (.inl least), some (.inl most), some (.inl 512), x8, x9], [], (zs g gl))) (c2 := (153, [some (.inr (.inr (some 2))), some (.inl (n : Int)), some (.inl w), some (.inl (row : Int)), some (.inl cost), some (.inl least), some (.inl most), some (.inl 512), x8, x9], [], (zs g gl))) rfl (by first | assumption | (unfold zr; omega)) ⟨by decide, by decide⟩ (fun (b_10 : ¬ w = 0) => ?_) (fun (b_10 : ¬ (¬ w = 0)) => ?_)
              · refine zH_go 2 (c' := (159, [some (.inr (.inr (some 2))), some (.inl (n : Int)), some (.inl w), some (.inl (row : Int)), some (.inl cost), some (.inl least), some (.inl most), some (.inl 512), x8, x9], [.inl 1, .inl w], (zs g gl))) rfl ?_
                refine zH_br (x := w) (y := 1) (k := .ne) (c1 := (167, [some (.inr (.inr (some 2))), some (.inl (n : Int)), some (.inl w), some (.inl (row : Int)), some (.inl cost), some (.inl least), some (.inl most), some (.inl 512), x8, x9], [], (zs g gl))) (c2 := (162, [some (.inr (.inr (some 2))), some (.inl (n : Int)), some (.inl w), some (.inl (row : Int)), some (.inl cost), some (.inl least), some (.inl most), some (.inl 512), x8, x9], [], (zs g gl))) rfl (by first | assumption | (unfold zr; omega)) ⟨by decide, by decide⟩ (fun (b_11 : ¬ w = 1) => ?_) (fun (b_11 : ¬ (¬ w = 1)) => ?_)
                · refine zH_go 1 (c' := (169, [some (.inr (.inr (some 2))), some (.inl (n : Int)), some (.inl w), some (.inl (row : Int)), some (.inl cost), some (.inl least), some (.inl most), some (.inl 512), x8, x9], [.inl least], (zs g gl))) rfl ?_
                  refine zH_ret (v := some (.inl least)) rfl (fun q => absurd q (by decide)) ?_
                  refine Or.inr (Or.inr ⟨by assumption, n, (row, cost, least, most, tr), rfl, by omega, by omega, by rw [← (zrk_ends p (by omega) n (by omega) (by omega) hp1).2]; exact hI.2.2.1, ?_, g, _, rfl, hI.2.2.2.1, hI.2.1, fun j hj => hz56 g hI.1 j hj⟩)
                  first
                  | exact Or.inl ⟨by omega, rfl⟩
                  | exact Or.inr (Or.inl ⟨by omega, rfl⟩)
                  | exact Or.inr (Or.inr ⟨by omega, rfl⟩)
                · refine zH_go 2 (c' := (169, [some (.inr (.inr (some 2))), some (.inl (n : Int)), some (.inl w), some (.inl (row : Int)), some (.inl cost), some (.inl least), some (.inl most), some (.inl 512), x8, x9], [.inl cost], (zs g gl))) rfl ?_
                  refine zH_ret (v := some (.inl cost)) rfl (fun q => absurd q (by decide)) ?_
                  refine Or.inr (Or.inr ⟨by assumption, n, (row, cost, least, most, tr), rfl, by omega, by omega, by rw [← (zrk_ends p (by omega) n (by omega) (by omega) hp1).2]; exact hI.2.2.1, ?_, g, _, rfl, hI.2.2.2.1, hI.2.1, fun j hj => hz56 g hI.1 j hj⟩)
                  first
                  | exact Or.inl ⟨by omega, rfl⟩
                  | exact Or.inr (Or.inl ⟨by omega, rfl⟩)
                  | exact Or.inr (Or.inr ⟨by omega, rfl⟩)
              · refine zH_go 2 (c' := (169, [some (.inr (.inr (some 2))), some (.inl (n : Int)), some (.inl w), some (.inl (row : Int)), some (.inl cost), some (.inl least), some (.inl most), some (.inl 512), x8, x9], [.inl (row : Int)], (zs g gl))) rfl ?_
                refine zH_ret (v := some (.inl (row : Int))) rfl (fun q => absurd q (by decide)) ?_
                refine Or.inr (Or.inr ⟨by assumption, n, (row, cost, least, most, tr), rfl, by omega, by omega, by rw [← (zrk_ends p (by omega) n (by omega) (by omega) hp1).2]; exact hI.2.2.1, ?_, g, _, rfl, hI.2.2.2.1, hI.2.1, fun j hj => hz56 g hI.1 j hj⟩)
                first
                | exact Or.inl ⟨by omega, rfl⟩
                | exact Or.inr (Or.inl ⟨by omega, rfl⟩)
                | exact Or.inr (Or.inr ⟨by omega, rfl⟩)
            · show (∃ (k' : Nat) (sp' : Nat → Nat), zDIT g0 p L B k' sp') ∧ (∀ c : Nat, c < 48 ∨ 65 < c → g0 c = h c) ∧ zAc h p L B K n (zrk p n (0)) (0, 0, 0, (-1), 0) ∧ hl = zup hl 81 0 (hl 81 0 + 0) ∧ (-1 ≤ (-1) ∧ (-1) ≤ 1000000)
              refine ⟨⟨0, _, hD0⟩, fun c hc => hg0.1 c (by omega) (by omega) (by omega) (by omega) (by omega), ?_, ?_, by omega⟩
              · rw [(zrk_ends p (by omega) n (by omega) (by omega) hp1).1]; rfl
              · rw [Int.add_zero]; funext a b; rw [zup_at]; by_cases q : a = 81 ∧ b = 0 <;> simp [q]
          · refine zH_go 1 (c' := (33, [some (.inr (.inr (some 2))), some (.inl m), some (.inl w), none, none, none, none, none, none, none], [.inl (-1)], (zs h hl))) rfl ?_
            refine zH_ret (v := some (.inl (-1))) rfl (fun q => absurd q (by decide)) ?_
            exact Or.inr (Or.inl ⟨by assumption, by omega, rfl, rfl⟩)
  · show zH _ _ (7, [some (.inr (.inr (some 2))), some (.inl m), some (.inl w), none, none, none, none, none, none, none], [.inl 0], (zs h hl)) _
    refine zH_bf (x := 0) (y := 0) (k := .ne) (c1 := (13, [some (.inr (.inr (some 2))), some (.inl m), some (.inl w), none, none, none, none, none, none, none], [], (zs h hl))) (c2 := (10, [some (.inr (.inr (some 2))), some (.inl m), some (.inl w), none, none, none, none, none, none, none], [], (zs h hl))) rfl ⟨by decide, by decide⟩ ⟨by decide, by decide⟩ (by show ¬ (¬ 0 = 0); decide) ?_
    refine zH_go 1 (c' := (12, [some (.inr (.inr (some 2))), some (.inl m), some (.inl w), none, none, none, none, none, none, none], [.inl (-2)], (zs h hl))) rfl ?_
    refine zH_ret (v := some (.inl (-2))) rfl (fun q => absurd q (by decide)) ?_
    exact Or.inl ⟨by assumption, rfl, rfl⟩
