/-! Call by call: both objects answer alike (2). -/
set_option maxRecDepth 100000 in
set_option maxHeartbeats 4000000 in
theorem p_begin2 {d : Nat} {h hl : Nat → Nat → Int} {n stand : Int} (hn : zr n) (hst : zr stand) (hO : zOr h) (hz : ∀ j : Nat, j < 13 → zr (h 38 j)) {p r : Nat} (hW : zTown h p r) : zQ (d + 5) 67 [.inr (.inr (some 2)), .inl n, .inl stand] (zs h hl) (fun r' σ' => (¬ (1 ≤ n ∧ n ≤ 3 ∧ zStd (h 3 0) (Int.toNat n) stand) ∧ r' = some (.inl (-1)) ∧ σ' = zs h hl) ∨ ((1 ≤ n ∧ n ≤ 3 ∧ zStd (h 3 0) (Int.toNat n) stand) ∧ zTorn h ∧ r' = some (.inl (-2)) ∧ σ' = zs h hl) ∨ ((1 ≤ n ∧ n ≤ 3 ∧ zStd (h 3 0) (Int.toNat n) stand) ∧ ¬ zTorn h ∧ r' = some (.inl 1) ∧ ∃ (L B : Nat) (g : Nat → Nat → Int), n = (L : Int) ∧ stand = (B : Int) ∧ σ' = zs g hl ∧ zDID g p L B 0 (fun i => zdg B i) ∧ g 21 6 = -1 ∧ ∀ c : Nat, c < 18 ∨ 47 < c → g c = h c)) := by
  have hWc := hW
  obtain ⟨hp6, hr15, h30, h31, hp3, hr4, hMe, hTB, hCn, hPo, hRd, hLk, hGr⟩ := hWc
  have hP : 0 ≤ h 3 0 ∧ h 3 0 ≤ 6 := by omega
  refine zQ_of (Nat.le_of_ble_eq_true rfl) ?_
  show zH (d + 4) 67 (0, [some (.inr (.inr (some 2))), some (.inl n), some (.inl stand)], [], (zs h hl)) _
  refine zH_go 2 (c' := (2, [some (.inr (.inr (some 2))), some (.inl n), some (.inl stand)], [.inl 1, .inl n], (zs h hl))) rfl ?_
  refine zH_br (x := n) (y := 1) (k := .lt) (c1 := (22, [some (.inr (.inr (some 2))), some (.inl n), some (.inl stand)], [], (zs h hl))) (c2 := (5, [some (.inr (.inr (some 2))), some (.inl n), some (.inl stand)], [], (zs h hl))) rfl (by first | assumption | (unfold zr; omega)) ⟨by decide, by decide⟩ (fun (b_1 : n < 1) => ?_) (fun (b_1 : ¬ (n < 1)) => ?_)
  · refine zH_go 1 (c' := (23, [some (.inr (.inr (some 2))), some (.inl n), some (.inl stand)], [.inl (-1)], (zs h hl))) rfl ?_
    refine zH_ret (v := some (.inl (-1))) rfl (fun q => absurd q (by decide)) ?_
    exact Or.inl ⟨fun q => by have := q.1; have := q.2.1; omega, rfl, rfl⟩
  · refine zH_go 2 (c' := (7, [some (.inr (.inr (some 2))), some (.inl n), some (.inl stand)], [.inl 3, .inl n], (zs h hl))) rfl ?_
    refine zH_br (x := n) (y := 3) (k := .gt) (c1 := (22, [some (.inr (.inr (some 2))), some (.inl n), some (.inl stand)], [], (zs h hl))) (c2 := (10, [some (.inr (.inr (some 2))), some (.inl n), some (.inl stand)], [], (zs h hl))) rfl (by first | assumption | (unfold zr; omega)) ⟨by decide, by decide⟩ (fun (b_2 : 3 < n) => ?_) (fun (b_2 : ¬ (3 < n)) => ?_)
    · refine zH_go 1 (c' := (23, [some (.inr (.inr (some 2))), some (.inl n), some (.inl stand)], [.inl (-1)], (zs h hl))) rfl ?_
      refine zH_ret (v := some (.inl (-1))) rfl (fun q => absurd q (by decide)) ?_
      exact Or.inl ⟨fun q => by have := q.1; have := q.2.1; omega, rfl, rfl⟩
    · obtain ⟨L, rfl⟩ := Int.eq_ofNat_of_zero_le (show 0 ≤ n by omega)
      show zH _ _ (10, [some (.inr (.inr (some 2))), some (.inl (L : Int)), some (.inl stand)], [], (zs h hl)) _
      refine zH_go 4 (c' := (16, [some (.inr (.inr (some 2))), some (.inl (L : Int)), some (.inl stand)], [.inl (L : Int), .inl stand, .inr (.inr (some 3))], (zs h hl))) rfl ?_
      refine zH_call (M' := 49) (as := [.inr (.inr (some 3)), .inl stand, .inl (L : Int)]) (T := []) rfl (p_hasAll (L := L) (by omega) hst hP) (fun r σ' p_3 => ?_)
      rcases p_3 with ⟨rfl, b_4, rfl⟩ | ⟨rfl, b_4, rfl⟩
      · show zH _ _ (19, [some (.inr (.inr (some 2))), some (.inl (L : Int)), some (.inl stand)], [.inl 1], (zs h hl)) _
        refine zH_bt (x := 1) (y := 0) (k := .ne) (c1 := (24, [some (.inr (.inr (some 2))), some (.inl (L : Int)), some (.inl stand)], [], (zs h hl))) (c2 := (22, [some (.inr (.inr (some 2))), some (.inl (L : Int)), some (.inl stand)], [], (zs h hl))) rfl ⟨by decide, by decide⟩ ⟨by decide, by decide⟩ (by show ¬ 1 = 0; decide) ?_
        refine zH_go 2 (c' := (28, [some (.inr (.inr (some 2))), some (.inl (L : Int)), some (.inl stand)], [.inr (.inr (some 3))], (zs h hl))) rfl ?_
        refine zH_call (M' := 54) (as := [.inr (.inr (some 3))]) (T := []) rfl (p_isTorn hP hTB) (fun r σ' p_5 => ?_)
        rcases p_5 with ⟨rfl, b_6, rfl⟩ | ⟨rfl, b_6, rfl⟩
        · show zH _ _ (31, [some (.inr (.inr (some 2))), some (.inl (L : Int)), some (.inl stand)], [.inl 1], (zs h hl)) _
          refine zH_bf (x := 1) (y := 0) (k := .eq) (c1 := (37, [some (.inr (.inr (some 2))), some (.inl (L : Int)), some (.inl stand)], [], (zs h hl))) (c2 := (34, [some (.inr (.inr (some 2))), some (.inl (L : Int)), some (.inl stand)], [], (zs h hl))) rfl ⟨by decide, by decide⟩ ⟨by decide, by decide⟩ (by show ¬ (1 = 0); decide) ?_
          refine zH_go 1 (c' := (36, [some (.inr (.inr (some 2))), some (.inl (L : Int)), some (.inl stand)], [.inl (-2)], (zs h hl))) rfl ?_
          refine zH_ret (v := some (.inl (-2))) rfl (fun q => absurd q (by decide)) ?_
          exact Or.inr (Or.inl ⟨⟨by omega, by omega, by rw [Int.toNat_natCast]; assumption⟩, by assumption, rfl, rfl⟩)
        · show zH _ _ (31, [some (.inr (.inr (some 2))), some (.inl (L : Int)), some (.inl stand)], [.inl 0], (zs h hl)) _
          refine zH_bt (x := 0) (y := 0) (k := .eq) (c1 := (37, [some (.inr (.inr (some 2))), some (.inl (L : Int)), some (.inl stand)], [], (zs h hl))) (c2 := (34, [some (.inr (.inr (some 2))), some (.inl (L : Int)), some (.inl stand)], [], (zs h hl))) rfl ⟨by decide, by decide⟩ ⟨by decide, by decide⟩ (by show 0 = 0; decide) ?_
          refine zH_go 3 (c' := (42, [some (.inr (.inr (some 2))), some (.inl (L : Int)), some (.inl stand)], [.inl (L : Int), .inr (.inr (some 18))], (zs h hl))) rfl ?_
          have hsd := (by assumption : zStd (h 3 0) L stand)
          have hsd0 := hsd.1
          refine zH_call (M' := 41) (as := [.inr (.inr (some 18)), .inl (L : Int)]) (T := []) rfl (p_layOut (p := p) (by omega) hp6 h30) (fun r' σ' pm => ?_)
          obtain ⟨rfl, g, hLI, rfl⟩ := pm
          obtain ⟨B, rfl⟩ := Int.eq_ofNat_of_zero_le hsd0
          have hL3 : 1 ≤ L ∧ L ≤ 3 := by omega
          have hSg := zSI_of hL3 hp6 hLI
          have fg := hLI.2.2.2.2.2
          have hBs : zSb p L B = true := zSb_iff.mp (by rw [← h30]; exact hsd)
          have hBl := zSb_lt hL3.2 hBs
          have hTg : zTD g p := zTD_same (h := h) hp6 ⟨hTB, fun i j hi hj => zFin hW (by assumption) hi hj, hO⟩ (fun c hc => fg c (by omega) (by omega) (by omega))
          show zH _ _ (45, [some (.inr (.inr (some 2))), some (.inl (L : Int)), some (.inl (B : Int))], [], (zs g hl)) _
          refine zH_go 3 (c' := (50, [some (.inr (.inr (some 2))), some (.inl (L : Int)), some (.inl (B : Int))], [.inl (B : Int), .inr (.inr (some 21))], (zs g hl))) rfl ?_
          refine zH_call (M' := 13) (as := [.inr (.inr (some 21)), .inl (B : Int)]) (T := []) rfl (p_startD hSg hTg hBs hBl) (fun r' σ' pm => ?_)
          obtain ⟨rfl, g2, rfl, hg2⟩ := pm
          have hD := zDI_startD (h := h) hSg hTg hBs (fun j hj => by rw [fg 38 (by decide) (by decide) (by decide)]; exact hz j hj) hg2
          show zH _ _ (53, [some (.inr (.inr (some 2))), some (.inl (L : Int)), some (.inl (B : Int))], [], (zs g2 hl)) _
          refine zH_go 1 (c' := (54, [some (.inr (.inr (some 2))), some (.inl (L : Int)), some (.inl (B : Int))], [.inl 1], (zs g2 hl))) rfl ?_
          refine zH_ret (v := some (.inl 1)) rfl (fun q => absurd q (by decide)) ?_
          exact Or.inr (Or.inr ⟨⟨by omega, by omega, by rw [Int.toNat_natCast]; assumption⟩, by assumption, rfl, L, B, g2, rfl, rfl, rfl, hD, hg2.2.2.2.2.2.1, fun c hc => by rw [hg2.1 c (by omega) (by omega) (by omega) (by omega) (by omega), fg c (by omega) (by omega) (by omega)]⟩)
      · show zH _ _ (19, [some (.inr (.inr (some 2))), some (.inl (L : Int)), some (.inl stand)], [.inl 0], (zs h hl)) _
        refine zH_bf (x := 0) (y := 0) (k := .ne) (c1 := (24, [some (.inr (.inr (some 2))), some (.inl (L : Int)), some (.inl stand)], [], (zs h hl))) (c2 := (22, [some (.inr (.inr (some 2))), some (.inl (L : Int)), some (.inl stand)], [], (zs h hl))) rfl ⟨by decide, by decide⟩ ⟨by decide, by decide⟩ (by show ¬ (¬ 0 = 0); decide) ?_
        refine zH_go 1 (c' := (23, [some (.inr (.inr (some 2))), some (.inl (L : Int)), some (.inl stand)], [.inl (-1)], (zs h hl))) rfl ?_
        refine zH_ret (v := some (.inl (-1))) rfl (fun q => absurd q (by decide)) ?_
        exact Or.inl ⟨fun q => (by assumption : ¬ zStd (h 3 0) L stand) (by have := q.2.2; rw [Int.toNat_natCast] at this; exact this), rfl, rfl⟩
theorem zTown_place2 {h g : Nat → Nat → Int} {p r : Nat} (hW : zTown h p r) (hp : p < 6) (h1 : ∀ c : Nat, 4 ≤ c ∧ c < 18 → g c = h c) (h30 : g 3 0 = (p : Int) + 1) (h31 : g 3 1 = h 3 1) (h2 : g 104 3 = (p : Int) + 1 ∧ g 104 4 = h 104 4) (h3 : g 105 = h 105 ∧ g 106 = h 106 ∧ g 107 = h 107) : zTown g (p + 1) r := by
  obtain ⟨a1, a2, a3, a4, a5, a6, a7, a8, a9, a10, a11, a12, a13⟩ := hW
  obtain ⟨e1, e2, e3⟩ := h3
  have hg : ∀ i j : Nat, i < 6 → g (12 + i) j = h (12 + i) j := fun i j hi => by rw [h1 _ (by omega)]
  have hk : ∀ i j : Nat, i < 6 → g (5 + i) j = h (5 + i) j := fun i j hi => by rw [h1 _ (by omega)]
  have hw : ∀ i c : Nat, i < 6 → zw1 g i c = zw1 h i c := fun i c hi => by unfold zw1; rw [hg i c hi]
  refine ⟨by omega, a2, by rw [h30]; rfl, by rw [h31]; exact a4, by rw [h2.1]; rfl, by rw [h2.2]; exact a6, ⟨fun i hi => ?_, fun i j hi hj => ?_, fun i j k hi hj hk => ?_⟩, fun i j hi hj => ?_, fun i j hi hj hq => ?_, fun i j hi hj hq => ?_, fun k hk => ?_, ⟨fun k hr a b ha hb ea eb => ?_, fun i j hi hj hq => ?_⟩, fun D d1 d2 d3 d4 i j hi hj => ?_⟩
  · rw [hg i i hi]; exact a7.1 i hi
  · rw [hg i j hi, hg j i hj]; exact a7.2.1 i j hi hj
  · rw [hg i k hi, hg i j hi, hg j k hj]; exact a7.2.2 i j k hi hj hk
  · rw [hg i j hi, hk i j hi]; exact a8 i j hi hj
  · rw [hg i j hi] at hq ⊢
    have := a9 i j hi hj hq
    unfold zct at this ⊢
    rw [hw i 0 hi, hw i 1 hi, hw i 2 hi, hw i 3 hi, hw i 4 hi, hw i 5 hi]
    exact this
  · rw [hg i j hi]; exact a10 i j hi hj hq
  · rw [e1, e2, e3]
    obtain ⟨a, b, b1, b2, b3⟩ := a11 k hk
    exact ⟨a, b, by omega, by omega, b3⟩
  · rw [e1] at ea
    rw [e2] at eb
    rw [e3, hk a b ha, hk b a hb, hg a b ha]
    exact a12.1 k hr a b ha hb ea eb
  · rw [hk i j hi] at hq ⊢
    rw [e1, e2, e3]
    exact a12.2 i j hi hj hq
  · rw [hg i j hi]
    refine a13 D d1 d2 d3 (fun k hr a b ha hb ea eb => ?_) i j hi hj
    have := d4 k hr a b ha hb (by rw [e1]; exact ea) (by rw [e2]; exact eb)
    rw [e3] at this
    exact this
section ZTW2
variable {X XL : Nat → Int} {t p r : Nat} {h hl g gl : Nat → Nat → Int}
theorem zLi_day {t' : Nat} (hI : zLi X XL t p r h hl) (h1 : ∀ c : Nat, (c < 18 ∧ c ≠ 2) ∨ (81 ≤ c ∧ c < 104) ∨ (105 ≤ c ∧ c < 108) ∨ (119 ≤ c ∧ c < 124) → g c = h c) (h27 : 0 ≤ g 2 7 ∧ g 2 7 ≤ 3) (hst : zr (g 2 8) ∧ g 104 1 = g 2 8) (h38 : ∀ j : Nat, j < 13 → zr (g 38 j)) (h56 : ∀ j : Nat, j < 4 → zr (g 56 j)) (h104 : g 104 3 = h 104 3 ∧ g 104 4 = h 104 4 ∧ g 104 11 = g 2 7) (hl1 : ∀ c : Nat, c ≠ 81 → c ≠ 104 → gl c = hl c) (htr : 0 ≤ gl 81 0 ∧ gl 81 0 ≤ 700000 * (t' : Int)) (htr2 : gl 104 2 = gl 81 0) (hdy : zDay g gl p) : zLi X XL t' p r g gl := by
  obtain ⟨x1, x2, tw, od, z38, z56, kd, kd2, st, st2, tr, tr2, b0, b1, b2, dy⟩ := hI
  have e119 : ∀ c : Nat, 119 ≤ c → c ≤ 122 → g c = h c := fun c c1 c2 => h1 c (by omega)
  exact ⟨by rw [h1 1 (by decide)]; exact x1, by rw [hl1 1 (by decide) (by decide)]; exact x2, zTown_same2 tw (fun c hc => h1 c (by omega)) ⟨h104.1, h104.2.1⟩ ⟨h1 105 (by decide), h1 106 (by decide), h1 107 (by decide)⟩, fun k hk => by rw [h1 0 (by decide)]; exact od k hk, h38, h56, h27, h104.2.2, hst.1, hst.2, htr, htr2, zBkR_same (h1 83 (by decide)) (h1 84 (by decide)) e119 (hl1 123 (by decide) (by decide)) (fun q hq => hl1 _ (by omega) (by omega)) b0, zBkR_same (h1 90 (by decide)) (h1 91 (by decide)) e119 (hl1 123 (by decide) (by decide)) (fun q hq => hl1 _ (by omega) (by omega)) b1, zBkR_same (h1 97 (by decide)) (h1 98 (by decide)) e119 (hl1 123 (by decide) (by decide)) (fun q hq => hl1 _ (by omega) (by omega)) b2, hdy⟩
theorem zPkS_of {L B n pp l : Nat} {K tr : Int} {s : zDS} (hD : zDc g gl p L B n s) (hl : l < L) (hpp : pp < p) (e1 : zPkR K L (zCov L s.1 pp) (fun l => g (12 + s.1 l) pp) (fun l => g 41 l + g (12 + s.1 l) pp) (fun l => zWf g L B (zPl g 42 n pp) (n + 1) (zwd (zStn L s.1) l pp) + g (12 + s.1 l) pp) (g 21 6) l tr) : zPkS g L B K n pp s l tr := by
  obtain ⟨d1, d2, d3, d4, d5⟩ := hD
  have hL3 := d1.1.1
  have hp6 := d1.1.2.1
  have hR := d1.2.2.2.2.2.2.2.2.2.2.2.1
  refine ⟨hl, ?_⟩
  have p2 := zPkR_imp e1 (gn := fun l => g (12 + s.1 l) pp) (ge := fun l => s.2.1 l + g (12 + s.1 l) pp) (ga := fun l => zWf g L B (zpl2 s n pp) (n + 1) (zwd (zStn L s.1) l pp) + g (12 + s.1 l) pp) (fun l hl => rfl) (fun l hl => by rw [d2 l (by omega)]) (fun l hl => by
    congr 1
    refine zWf_same (fun c c1 c2 => rfl) (n + 1) (fun j hj => ?_) _
    unfold zPl zpl2
    by_cases w : j = n
    · rw [if_pos w, if_pos w]; exact ⟨rfl, by omega⟩
    · have e := d4 0 j (by decide) (by omega)
      have r := (hR j (by omega)).1
      rw [if_neg w, if_neg w, ← e]
      exact ⟨rfl, by omega⟩)
  rw [d3] at p2
  exact p2
/-- the model's heap when the class has gone ahead -/
theorem zHM_of {m ml : Nat → Nat → Int} {L B n : Nat} {s : zDS} (tw : zTown h p r) (hj : zJ h hl p L B n s) (h1 : ∀ c : Nat, c < 18 ∧ c ≠ 2 → m c = h c) (h2 : ∀ c : Nat, (12 ≤ c ∧ c < 20) ∨ (109 ≤ c ∧ c ≤ 117) → m c = h c) (h108 : m 108 = h 108) (h3 : ∀ j : Nat, j ≠ 0 → j ≠ 1 → m 104 j = h 104 j) (h4 : ml 104 2 = hl 104 2) : zMH m p L B n s ∧ zDm m ml p L B n s := by
  have hH := zMH_of tw hj
  obtain ⟨n12, dc, dm⟩ := hj
  have hb := zDc_b dc
  have hp6 := tw.1
  refine ⟨?_, zDm_same dm h2 (fun i j _ _ => by rw [h108]) ⟨h3 9 (by decide) (by decide), h3 10 (by decide) (by decide), h3 14 (by decide) (by decide), h3 15 (by decide) (by decide)⟩ h4 (fun j hj => by have := hb.2 j hj; omega)⟩
  obtain ⟨hL3, hp6, h3', hT, hF, hBs, hn12, hs6, hsp, hsu, htu, hpl, hdg, hpo⟩ := hH
  have hT2 : zTD m p := by
    obtain ⟨t1, t2, t3⟩ := hT
    exact ⟨fun i j hi hj => by rw [h1 (12 + i) (by omega), h1 (5 + i) (by omega)]; exact t1 i j hi hj, fun i j hi hj => by rw [h1 (12 + i) (by omega)]; exact t2 i j hi hj, fun k hk => by rw [h1 0 (by decide)]; exact t3 k hk⟩
  exact ⟨hL3, hp6, (h3 3 (by decide) (by decide)).trans h3', hT2, fun i j hi hj => by rw [h108, h1 (12 + i) (by omega)]; exact hF i j hi hj, hBs, hn12, hs6, hsp, hsu, htu, hpl, fun i hi => by rw [h1 (12 + i) (by omega)]; exact hdg i hi, fun i j hi hj hij => by rw [h1 (12 + i) (by omega)]; exact hpo i j hi hj hij⟩
theorem zDc_up {g2 gl2 : Nat → Nat → Int} {L B n : Nat} {s : zDS} (hs : ∀ c : Nat, 3 ≤ c ∧ c < 48 → g2 c = g c) (h0 : g2 0 = g 0) (ht : gl2 81 0 = gl 81 0) (hD : zDc g gl p L B n s) : zDc g2 gl2 p L B n s := by
  have a := zDc_same (gl := gl2) (δ := 0) hs h0 (by rw [ht, Int.add_zero]) hD
  rw [Int.add_zero] at a
  exact a
theorem zT_place (hI : zLi X XL t p r h hl) : zTw 62 [.inr (.inr (some 2))] 107 [.inr (.inr (some 104))] X XL t h hl := by
  have hIc := hI
  obtain ⟨x1, x2, tw, od, z38, z56, kd, kd2, st, st2, tr, tr2, b0, b1, b2, dy⟩ := hIc
  have twc := tw
  obtain ⟨hp6, hr15, h30, h31, hp3, hr4, hMe, hTB, hCn, hPo, hRd, hLk, hGr⟩ := twc
  have hdb := zDay_b dy
  have hP : 0 ≤ h 3 0 ∧ h 3 0 ≤ 6 := by omega
  have hon : zr (h 21 3) := ⟨by omega, by omega⟩
  obtain ⟨L, B, n, s, hJ⟩ := zDay_on dy
  obtain ⟨m, em⟩ : ∃ m, zup h 104 0 0 = m := ⟨_, rfl⟩
  obtain ⟨mo, mj, hIm⟩ := zLi_m hI em
  have twm := hIm.2.2.1
  have m3 := mj 3 (by decide)
  have m4 := mj 4 (by decide)
  have m9 := mj 9 (by decide)
  have m15 := mj 15 (by decide)
  have m11 := mj 11 (by decide)
  have hPm : 0 ≤ m 104 3 ∧ m 104 3 ≤ 6 := by omega
  have h9m : 0 ≤ m 104 9 ∧ m 104 9 ≤ 3 := by omega
  have h15m : 0 ≤ m 104 15 ∧ m 104 15 ≤ 12 := by omega
  have hJm : 0 < h 21 3 → zJ m hl p L B n s := fun q => zJ_same hp6 (hJ q) (fun c hc => mo c (by omega)) (fun j h0 _ => mj j h0)
  have hDm : 0 < m 104 9 → zMH m p L B n s ∧ zDm m hl p L B n s := fun q => ⟨zMH_of twm (hJm (by omega)), (hJm (by omega)).2.2⟩
  refine zQ_imp (p_place (d := 7) hP hon) (fun ρ σ' pc => ?_)
  have hmo := p_placeO (hl := hl) (d := 8) em hPm (show zr (m 104 9) from ⟨by omega, by omega⟩)
  rcases pc with ⟨q, rfl, rfl⟩ | ⟨q, q2, rfl, rfl⟩ | ⟨q, q2, rfl, rfl⟩
  · refine ⟨_, h, hl, rfl, ⟨by decide, by decide⟩, rfl, x1, x2, zQ_imp hmo (fun r2 σ2 pm => ?_)⟩
    rcases pm with ⟨w, rfl, rfl⟩ | ⟨w, w2, rfl, rfl⟩ | ⟨w, w2, rfl, rfl⟩
    · exact ⟨p, r, m, hl, rfl, rfl, zLi_up hIm⟩
    · exfalso; omega
    · exfalso; omega
  · refine ⟨_, h, hl, rfl, ⟨by decide, by decide⟩, rfl, x1, x2, zQ_imp hmo (fun r2 σ2 pm => ?_)⟩
    rcases pm with ⟨w, rfl, rfl⟩ | ⟨w, w2, rfl, rfl⟩ | ⟨w, w2, rfl, rfl⟩
    · exfalso; omega
    · exact ⟨p, r, m, hl, rfl, rfl, zLi_up hIm⟩
    · exfalso; omega
  · have hgo : ∀ c : Nat, c ≠ 3 → zup h 3 0 (h 3 0 + 1) c = h c := fun c hc => by funext q; exact zup_ne hc
    obtain ⟨g, eg⟩ : ∃ g, zup h 3 0 (h 3 0 + 1) = g := ⟨_, rfl⟩
    rw [eg] at hgo ⊢
    have g30 : g 3 0 = h 3 0 + 1 := by rw [← eg]; exact zup_eq
    have g31 : g 3 1 = h 3 1 := by rw [← eg]; exact zup_k (by decide)
    obtain ⟨k, ek⟩ : ∃ k, zup g 104 0 0 = k := ⟨_, rfl⟩
    have ko : ∀ c : Nat, c ≠ 104 → k c = g c := fun c hc => by rw [← ek]; funext q; exact zup_ne hc
    have kj : ∀ j : Nat, j ≠ 0 → k 104 j = g 104 j := fun j hj => by rw [← ek]; exact zup_k hj
    have k3 := kj 3 (by decide)
    have k4 := kj 4 (by decide)
    have k9 := kj 9 (by decide)
    have k15 := kj 15 (by decide)
    have e104 := hgo 104 (by decide)
    rw [e104] at k3 k4 k9 k15
    refine ⟨_, g, hl, rfl, ⟨by omega, by omega⟩, rfl, by rw [hgo 1 (by decide)]; exact x1, x2, zQ_imp (p_placeO (hl := hl) (d := 8) ek (by omega) (show zr (k 104 9) from ⟨by omega, by omega⟩)) (fun r2 σ2 pm => ?_)⟩
    rcases pm with ⟨w, rfl, rfl⟩ | ⟨w, w2, rfl, rfl⟩ | ⟨w, w2, rfl, rfl⟩
    · exfalso; omega
    · exfalso; omega
    · rw [show k 104 3 = h 3 0 by omega]
      refine ⟨p + 1, r, _, hl, rfl, rfl, ?_⟩
      have fo : ∀ c : Nat, c ≠ 3 → c ≠ 104 → zup k 104 3 (h 3 0 + 1) c = h c := fun c h1 h2 => by rw [← hgo c h1, ← ko c h2]; funext q; exact zup_ne h2
      have fj : ∀ j : Nat, j ≠ 0 → j ≠ 3 → zup k 104 3 (h 3 0 + 1) 104 j = h 104 j := fun j h1 h2 => by rw [zup_k h2, kj j h1, e104]
      have f3 : zup k 104 3 (h 3 0 + 1) 3 = g 3 := by rw [← ko 3 (by decide)]; funext q; exact zup_ne (by decide)
      have e119 : ∀ c : Nat, 119 ≤ c → c ≤ 122 → zup k 104 3 (h 3 0 + 1) c = h c := fun c c1 c2 => fo c (by omega) (by omega)
      refine ⟨by rw [fo 1 (by decide) (by decide)]; exact x1, x2, zTown_place2 tw (by omega) (fun c hc => fo c (by omega) (by omega)) (by rw [f3]; omega) (by rw [f3]; exact g31) ⟨by rw [zup_eq]; omega, fj 4 (by decide) (by decide)⟩ ⟨fo 105 (by decide) (by decide), fo 106 (by decide) (by decide), fo 107 (by decide) (by decide)⟩, fun j hj => by rw [fo 0 (by decide) (by decide)]; exact od j hj, fun j hj => by rw [fo 38 (by decide) (by decide)]; exact z38 j hj, fun j hj => by rw [fo 56 (by decide) (by decide)]; exact z56 j hj, by rw [fo 2 (by decide) (by decide)]; exact kd, by rw [fj 11 (by decide) (by decide), fo 2 (by decide) (by decide)]; exact kd2, by rw [fo 2 (by decide) (by decide)]; exact st, by rw [fj 1 (by decide) (by decide), fo 2 (by decide) (by decide)]; exact st2, by omega, tr2, zBkR_same (fo 83 (by decide) (by decide)) (fo 84 (by decide) (by decide)) e119 rfl (fun _ _ => rfl) b0, zBkR_same (fo 90 (by decide) (by decide)) (fo 91 (by decide) (by decide)) e119 rfl (fun _ _ => rfl) b1, zBkR_same (fo 97 (by decide) (by decide)) (fo 98 (by decide) (by decide)) e119 rfl (fun _ _ => rfl) b2, Or.inl ⟨by rw [fo 21 (by decide) (by decide)]; omega, ?_, by rw [fj 9 (by decide) (by decide)]; omega, ?_⟩⟩
      · rw [fo 21 (by decide) (by decide)]; omega
      · rw [fj 15 (by decide) (by decide)]; omega
theorem zT_road (hI : zLi X XL t p r h hl) {a b len : Int} (ha : zr a) (hb : zr b) (hlen : zr len) : zTw 63 [.inr (.inr (some 2)), .inl a, .inl b, .inl len] 109 [.inr (.inr (some 104)), .inl a, .inl b, .inl len] X XL t h hl := by
  have hIc := hI
  obtain ⟨x1, x2, tw, od, z38, z56, kd, kd2, st, st2, tr, tr2, b0, b1, b2, dy⟩ := hIc
  have twc := tw
  obtain ⟨hp6, hr15, h30, h31, hp3, hr4, hMe, hTB, hCn, hPo, hRd, hLk, hGr⟩ := twc
  have hdb := zDay_b dy
  have hP : 0 ≤ h 3 0 ∧ h 3 0 ≤ 6 := by omega
  have hon : zr (h 21 3) := ⟨by omega, by omega⟩
  obtain ⟨L, B, n, s, hJ⟩ := zDay_on dy
  obtain ⟨m, em⟩ : ∃ m, zup h 104 0 0 = m := ⟨_, rfl⟩
  obtain ⟨mo, mj, hIm⟩ := zLi_m hI em
  have twm := hIm.2.2.1
  have m3 := mj 3 (by decide)
  have m4 := mj 4 (by decide)
  have m9 := mj 9 (by decide)
  have m15 := mj 15 (by decide)
  have m11 := mj 11 (by decide)
  have hPm : 0 ≤ m 104 3 ∧ m 104 3 ≤ 6 := by omega
  have h9m : 0 ≤ m 104 9 ∧ m 104 9 ≤ 3 := by omega
  have h15m : 0 ≤ m 104 15 ∧ m 104 15 ≤ 12 := by omega
  have hJm : 0 < h 21 3 → zJ m hl p L B n s := fun q => zJ_same hp6 (hJ q) (fun c hc => mo c (by omega)) (fun j h0 _ => mj j h0)
  have hDm : 0 < m 104 9 → zMH m p L B n s ∧ zDm m hl p L B n s := fun q => ⟨zMH_of twm (hJm (by omega)), (hJm (by omega)).2.2⟩
  have honm : zr (m 104 9) := ⟨by omega, by omega⟩
  refine zQ_imp (p_road (d := 6) ha hb hlen hon tw) (fun ρ σ' pc => ?_)
  rcases pc with ⟨x, q0, q, rfl, rfl⟩ | ⟨q, q1, g, rfl, r1, r2, r3, r4, r5⟩
  · have hxb := zNoRd_b q
    refine ⟨_, h, hl, rfl, ⟨by omega, by omega⟩, rfl, x1, x2, zQ_imp (p_roadO (hl := hl) (d := 6) em ha hb hlen hr15 (by omega) hPm honm) (fun r2 σ2 pm => ?_)⟩
    unfold zNoRd zRdOk zPl2 at q
    rcases pm with ⟨w, rfl, rfl⟩ | ⟨w, w2, rfl, rfl⟩ | ⟨w, w2, w3, rfl, rfl⟩ | ⟨w, w2, w3, rfl, rfl⟩
    · obtain rfl : x = -1 := by omega
      exact ⟨p, r, m, hl, rfl, rfl, zLi_up hIm⟩
    · obtain rfl : x = -2 := by omega
      exact ⟨p, r, m, hl, rfl, rfl, zLi_up hIm⟩
    · obtain rfl : x = -3 := by omega
      exact ⟨p, r, m, hl, rfl, rfl, zLi_up hIm⟩
    · exfalso; omega
  · unfold zNoRd zRdOk zPl2 at q
    obtain ⟨k, ek⟩ : ∃ k, zup g 104 0 0 = k := ⟨_, rfl⟩
    have ko : ∀ c : Nat, c ≠ 104 → k c = g c := fun c hc => by rw [← ek]; funext q; exact zup_ne hc
    have kj : ∀ j : Nat, j ≠ 0 → k 104 j = g 104 j := fun j hj => by rw [← ek]; exact zup_k hj
    have e104 := r5 104 (by omega)
    have k3 := kj 3 (by decide)
    have k4 := kj 4 (by decide)
    have k9 := kj 9 (by decide)
    rw [e104] at k3 k4 k9
    obtain ⟨u, rfl⟩ := Int.eq_ofNat_of_zero_le (show 0 ≤ a by omega)
    obtain ⟨v, rfl⟩ := Int.eq_ofNat_of_zero_le (show 0 ≤ b by omega)
    rw [Int.toNat_natCast, Int.toNat_natCast] at r1 r2
    refine ⟨_, g, hl, q1, ⟨by omega, by omega⟩, rfl, by rw [r5 1 (by omega)]; exact x1, x2, zQ_imp (p_roadO (hl := hl) (d := 6) ek ha hb hlen hr15 (by omega) (by omega) (show zr (k 104 9) from ⟨by omega, by omega⟩)) (fun r2' σ2 pm => ?_)⟩
    rcases pm with ⟨w, rfl, rfl⟩ | ⟨w, w2, rfl, rfl⟩ | ⟨w, w2, w3, rfl, rfl⟩ | ⟨w, w2, w3, rfl, rfl⟩
    · exfalso; omega
    · exfalso; omega
    · exfalso; omega
    · obtain ⟨f, ef⟩ : ∃ f, f = zup (zup (zup (zup k 105 r (u : Int)) 106 r (v : Int)) 107 r len) 104 4 ((r : Int) + 1) := ⟨_, rfl⟩
      rw [← ef]
      have fo : ∀ c : Nat, c ≠ 104 → c ≠ 105 → c ≠ 106 → c ≠ 107 → f c = g c := fun c h1 h2 h3 h4 => by rw [← ko c h1, ef]; funext q; rw [zup_ne h1, zup_ne h4, zup_ne h3, zup_ne h2]
      have fh : ∀ c : Nat, (c < 3 ∨ (18 ≤ c ∧ c < 104) ∨ 108 ≤ c) → f c = h c := fun c hc => by rw [fo c (by omega) (by omega) (by omega) (by omega)]; exact r5 c (by omega)
      have fj : ∀ j : Nat, j ≠ 0 → j ≠ 4 → f 104 j = h 104 j := fun j h1 h2 => by rw [ef, zup_k h2, zup_ne (by decide), zup_ne (by decide), zup_ne (by decide), kj j h1, e104]
      have f3 : ∀ c : Nat, 3 ≤ c → c < 18 → f c = g c := fun c c1 c2 => fo c (by omega) (by omega) (by omega) (by omega)
      have e119 : ∀ c : Nat, 119 ≤ c → c ≤ 122 → f c = h c := fun c c1 c2 => fh c (by omega)
      have hgA : ∀ j : Nat, f 105 j = (if j = r then (u : Int) else h 105 j) ∧ f 106 j = (if j = r then (v : Int) else h 106 j) ∧ f 107 j = (if j = r then len else h 107 j) := fun j => by
        rw [ef, ← r5 105 (by omega), ← r5 106 (by omega), ← r5 107 (by omega), ← ko 105 (by decide), ← ko 106 (by decide), ← ko 107 (by decide)]
        by_cases w : j = r <;> simp [zup_at, w]
      refine ⟨p, r + 1, f, hl, by rw [show h 3 1 + 1 = (r : Int) + 1 by omega], rfl, ?_⟩
      refine ⟨by rw [fh 1 (by omega)]; exact x1, x2, zTown_road (len := len) tw w3 (show u < p by omega) (show v < p by omega) (by omega) (by omega) (fun i j hi hj => by rw [f3 (12 + i) (by omega) (by omega)]; exact r1 i j hi hj) (fun i j hi hj => by rw [f3 (5 + i) (by omega) (by omega)]; exact r2 i j hi hj) (by rw [f3 3 (by decide) (by decide)]; exact r3) (by rw [f3 3 (by decide) (by decide)]; exact r4) (fj 3 (by decide) (by decide)) (by rw [ef]; exact zup_eq) (by have := hgA r; rw [if_pos rfl, if_pos rfl, if_pos rfl] at this; exact this) (fun j hj => by have := hgA j; rw [if_neg hj, if_neg hj, if_neg hj] at this; exact this), fun j hj => by rw [fh 0 (by omega)]; exact od j hj, fun j hj => by rw [fh 38 (by omega)]; exact z38 j hj, fun j hj => by rw [fh 56 (by omega)]; exact z56 j hj, by rw [fh 2 (by omega)]; exact kd, by rw [fj 11 (by decide) (by decide), fh 2 (by omega)]; exact kd2, by rw [fh 2 (by omega)]; exact st, by rw [fj 1 (by decide) (by decide), fh 2 (by omega)]; exact st2, by omega, tr2, zBkR_same (fh 83 (by omega)) (fh 84 (by omega)) e119 rfl (fun _ _ => rfl) b0, zBkR_same (fh 90 (by omega)) (fh 91 (by omega)) e119 rfl (fun _ _ => rfl) b1, zBkR_same (fh 97 (by omega)) (fh 98 (by omega)) e119 rfl (fun _ _ => rfl) b2, Or.inl ⟨by rw [fh 21 (by omega)]; omega, by rw [fh 21 (by omega)]; omega, by rw [fj 9 (by decide) (by decide)]; omega, by rw [fj 15 (by decide) (by decide)]; omega⟩⟩
theorem zT_begin (hI : zLi X XL t p r h hl) {a b : Int} (ha : zr a) (hb : zr b) : zTw 67 [.inr (.inr (some 2)), .inl a, .inl b] 124 [.inr (.inr (some 104)), .inl a, .inl b] X XL t h hl := by
  have hIc := hI
  obtain ⟨x1, x2, tw, od, z38, z56, kd, kd2, st, st2, tr, tr2, b0, b1, b2, dy⟩ := hIc
  have twc := tw
  obtain ⟨hp6, hr15, h30, h31, hp3, hr4, hMe, hTB, hCn, hPo, hRd, hLk, hGr⟩ := twc
  have hdb := zDay_b dy
  have hP : 0 ≤ h 3 0 ∧ h 3 0 ≤ 6 := by omega
  have hon : zr (h 21 3) := ⟨by omega, by omega⟩
  obtain ⟨L, B, n, s, hJ⟩ := zDay_on dy
  obtain ⟨m, em⟩ : ∃ m, zup h 104 0 0 = m := ⟨_, rfl⟩
  obtain ⟨mo, mj, hIm⟩ := zLi_m hI em
  have twm := hIm.2.2.1
  have m3 := mj 3 (by decide)
  have m4 := mj 4 (by decide)
  have m9 := mj 9 (by decide)
  have m15 := mj 15 (by decide)
  have m11 := mj 11 (by decide)
  have hPm : 0 ≤ m 104 3 ∧ m 104 3 ≤ 6 := by omega
  have h9m : 0 ≤ m 104 9 ∧ m 104 9 ≤ 3 := by omega
  have h15m : 0 ≤ m 104 15 ∧ m 104 15 ≤ 12 := by omega
  have hJm : 0 < h 21 3 → zJ m hl p L B n s := fun q => zJ_same hp6 (hJ q) (fun c hc => mo c (by omega)) (fun j h0 _ => mj j h0)
  have hDm : 0 < m 104 9 → zMH m p L B n s ∧ zDm m hl p L B n s := fun q => ⟨zMH_of twm (hJm (by omega)), (hJm (by omega)).2.2⟩
  refine zQ_imp (p_begin2 (d := 4) ha hb od z38 tw) (fun ρ σ' pc => ?_)
  have etn : zTorn m ↔ zTorn h := zTorn_m (mo 3 (by decide)) (mo 12 (by decide))
  have e33 : m 104 3 = h 3 0 := by omega
  rcases pc with ⟨q, rfl, rfl⟩ | ⟨q, q2, rfl, rfl⟩ | ⟨q, q2, rfl, L0, B0, g, q3, q4, rfl, q5, q6, q7⟩
  · refine ⟨_, h, hl, rfl, ⟨by decide, by decide⟩, rfl, x1, x2, zQ_imp (p_beginO (hl := hl) (d := 5) em ha hb twm) (fun r2 σ2 pm => ?_)⟩
    rcases pm with ⟨w, rfl, rfl⟩ | ⟨w, w2, rfl, g2, rfl, w3, w4⟩ | ⟨w, w2, rfl, L1, B1, g2, w3, w4, rfl, w5⟩
    · exact ⟨p, r, m, hl, rfl, rfl, zLi_up hIm⟩
    · exact absurd (by rw [← e33]; exact w) q
    · exact absurd (by rw [← e33]; exact w) q
  · refine ⟨_, h, hl, rfl, ⟨by decide, by decide⟩, rfl, x1, x2, zQ_imp (p_beginO (hl := hl) (d := 5) em ha hb twm) (fun r2 σ2 pm => ?_)⟩
    rcases pm with ⟨w, rfl, rfl⟩ | ⟨w, w2, rfl, g2, rfl, w3, w4⟩ | ⟨w, w2, rfl, L1, B1, g2, w3, w4, rfl, w5⟩
    · exact absurd (by rw [e33]; exact q) w
    · exact ⟨p, r, g2, hl, rfl, rfl, zLi_108 hIm (Or.inr ⟨w3, w4⟩)⟩
    · exact absurd (etn.mpr q2) w2
  · have q6 : g 21 6 = -1 := q6
    obtain ⟨k, ek⟩ : ∃ k, zup g 104 0 0 = k := ⟨_, rfl⟩
    have ko : ∀ c : Nat, c ≠ 104 → k c = g c := fun c hc => by rw [← ek]; funext q; exact zup_ne hc
    have kj : ∀ j : Nat, j ≠ 0 → k 104 j = g 104 j := fun j hj => by rw [← ek]; exact zup_k hj
    have e104 := q7 104 (by omega)
    have kh : ∀ c : Nat, c < 18 ∨ (47 < c ∧ c ≠ 104) → k c = h c := fun c hc => by rw [ko c (by omega)]; exact q7 c (by omega)
    have kjh : ∀ j : Nat, j ≠ 0 → k 104 j = h 104 j := fun j hj => by rw [kj j hj, e104]
    have twk : zTown k p r := zTown_same2 tw (fun c hc => kh c (by omega)) ⟨kjh 3 (by decide), kjh 4 (by decide)⟩ ⟨kh 105 (by omega), kh 106 (by omega), kh 107 (by omega)⟩
    have ek3 : k 104 3 = h 3 0 := by have := kjh 3 (by decide); omega
    have etk : zTorn k ↔ zTorn h := zTorn_m (kh 3 (by omega)) (kh 12 (by omega))
    refine ⟨_, g, hl, rfl, ⟨by decide, by decide⟩, rfl, by rw [q7 1 (by omega)]; exact x1, x2, zQ_imp (p_beginO (hl := hl) (d := 5) ek ha hb twk) (fun r2 σ2 pm => ?_)⟩
    rcases pm with ⟨w, rfl, rfl⟩ | ⟨w, w2, rfl, g2, rfl, w3, w4⟩ | ⟨w, w2, rfl, L1, B1, g2, w3, w4, rfl, w5, ⟨w6a, w6b, w6c, w6d⟩, w7, w8, w9, w10, w11⟩
    · exact absurd (by rw [ek3]; exact q) w
    · exact absurd (etk.mp w2) q2
    · obtain rfl : L0 = L1 := by omega
      obtain rfl : B0 = B1 := by omega
      refine ⟨p, r, g2, hl, rfl, rfl, ?_⟩
      have f1 : ∀ c : Nat, (c < 18 ∧ c ≠ 2) ∨ (81 ≤ c ∧ c < 104) ∨ (105 ≤ c ∧ c < 108) ∨ (119 ≤ c ∧ c < 124) → g2 c = h c := fun c hc => by rw [w7 c (by omega)]; exact kh c (by omega)
      have f2 : g2 2 = h 2 := by rw [w7 2 (by omega)]; exact kh 2 (by omega)
      have fg : ∀ c : Nat, c < 48 → g2 c = g c := fun c hc => by rw [w7 c (by omega)]; exact ko c (by omega)
      have fj : ∀ j : Nat, j ≠ 0 → j ≠ 9 → j ≠ 10 → j ≠ 15 → j ≠ 14 → g2 104 j = h 104 j := fun j h0 h1 h2 h3 h4 => by rw [w8 j h1 h2 h3 h4]; exact kjh j h0
      have hS := q5.1
      have hp6 := hS.2.1
      have hBl := zSb_lt hS.1.2 q5.2.2.1
      have hsum : ∀ i : Nat, i < 3 → g 41 i = 0 := fun i hi => q5.2.2.2.2.2.2.2.2.2.2.1 i hi
      have dc0 : zDc g hl p L0 B0 0 (fun i => zdg B0 i, fun _ => 0, -1, hl 81 0, fun _ _ => 0) := ⟨q5, hsum, q6, fun c j _ hj => absurd hj (Nat.not_lt_zero j), rfl⟩
      have dc : zDc g2 hl p L0 B0 0 (fun i => zdg B0 i, fun _ => 0, -1, hl 81 0, fun _ _ => 0) := zDc_up (fun c hc => fg c hc.2) (fg 0 (by decide)) rfl dc0
      refine zLi_day hI f1 (by rw [f2]; exact kd) ⟨by rw [f2]; exact st, by rw [f2, fj 1 (by decide) (by decide) (by decide) (by decide) (by decide)]; exact st2⟩ (fun j hj => by rw [fg 38 (by decide)]; exact q5.2.2.2.2.2.2.2.2.2.2.2.2.2.2.2 j hj) (fun j hj => by rw [w7 56 (by omega), kh 56 (by omega)]; exact z56 j hj) ⟨fj 3 (by decide) (by decide) (by decide) (by decide) (by decide), fj 4 (by decide) (by decide) (by decide) (by decide) (by decide), by rw [f2, fj 11 (by decide) (by decide) (by decide) (by decide) (by decide)]; exact kd2⟩ (fun c _ _ => rfl) (by omega) tr2 (Or.inr ⟨L0, B0, 0, _, by decide, dc, w6a, w6b, w6d, w6c, fun i hi => ⟨(w9 i hi).1, (w9 i hi).2⟩, fun c j _ hj => absurd hj (Nat.not_lt_zero j), fun i j hi hj => ?_, fun i hi => ?_, tr2⟩)
      · rw [w10 i j hi hj]
        unfold zFa
        rw [w7 (12 + i) (by omega)]
      · obtain rfl : i = 0 := by omega
        refine zRk_0 hS.1 q5.2.2.1 (fun s hs => ?_)
        show g2 117 (512 * 0 + s) = _
        rw [show 512 * 0 + s = s by omega]
        exact w11 s hs
theorem zT_end (hI : zLi X XL t p r h hl) : zTw 68 [.inr (.inr (some 2))] 125 [.inr (.inr (some 104))] X XL t h hl := by
  have hIc := hI
  obtain ⟨x1, x2, tw, od, z38, z56, kd, kd2, st, st2, tr, tr2, b0, b1, b2, dy⟩ := hIc
  have twc := tw
  obtain ⟨hp6, hr15, h30, h31, hp3, hr4, hMe, hTB, hCn, hPo, hRd, hLk, hGr⟩ := twc
  have hdb := zDay_b dy
  have hP : 0 ≤ h 3 0 ∧ h 3 0 ≤ 6 := by omega
  have hon : zr (h 21 3) := ⟨by omega, by omega⟩
  obtain ⟨L, B, n, s, hJ⟩ := zDay_on dy
  obtain ⟨m, em⟩ : ∃ m, zup h 104 0 0 = m := ⟨_, rfl⟩
  obtain ⟨mo, mj, hIm⟩ := zLi_m hI em
  have twm := hIm.2.2.1
  have m3 := mj 3 (by decide)
  have m4 := mj 4 (by decide)
  have m9 := mj 9 (by decide)
  have m15 := mj 15 (by decide)
  have m11 := mj 11 (by decide)
  have hPm : 0 ≤ m 104 3 ∧ m 104 3 ≤ 6 := by omega
  have h9m : 0 ≤ m 104 9 ∧ m 104 9 ≤ 3 := by omega
  have h15m : 0 ≤ m 104 15 ∧ m 104 15 ≤ 12 := by omega
  have hJm : 0 < h 21 3 → zJ m hl p L B n s := fun q => zJ_same hp6 (hJ q) (fun c hc => mo c (by omega)) (fun j h0 _ => mj j h0)
  have hDm : 0 < m 104 9 → zMH m p L B n s ∧ zDm m hl p L B n s := fun q => ⟨zMH_of twm (hJm (by omega)), (hJm (by omega)).2.2⟩
  refine zQ_imp (p_end (d := 5) hon) (fun ρ σ' pc => ?_)
  rcases pc with ⟨q, rfl, rfl⟩ | ⟨q, rfl, g, rfl, f1, f3, f5, f4, f7, f6, fs, fu⟩
  · refine ⟨_, h, hl, rfl, ⟨by decide, by decide⟩, rfl, x1, x2, zQ_imp (p_endO (hl := hl) (d := 8) em h9m) (fun r2 σ2 pm => ?_)⟩
    rcases pm with ⟨w, rfl, rfl⟩ | ⟨w, rfl, rfl⟩
    · exact ⟨p, r, m, hl, rfl, rfl, zLi_up hIm⟩
    · exfalso; omega
  · skip
    obtain ⟨k, ek⟩ : ∃ k, zup g 104 0 0 = k := ⟨_, rfl⟩
    have ko : ∀ c : Nat, c ≠ 104 → k c = g c := fun c hc => by rw [← ek]; funext q; exact zup_ne hc
    have kj : ∀ j : Nat, j ≠ 0 → k 104 j = g 104 j := fun j hj => by rw [← ek]; exact zup_k hj
    have e104 := f1 104 (by decide) (by decide) (by decide)
    have kjh : ∀ j : Nat, j ≠ 0 → k 104 j = h 104 j := fun j hj => by rw [kj j hj, e104]
    have k9 := kjh 9 (by decide)
    have k15 := kjh 15 (by decide)
    refine ⟨_, g, hl, rfl, ⟨by omega, by omega⟩, rfl, by rw [f1 1 (by decide) (by decide) (by decide)]; exact x1, x2, zQ_imp (p_endO (hl := hl) (d := 8) ek (by omega)) (fun r2 σ2 pm => ?_)⟩
    rcases pm with ⟨w, rfl, rfl⟩ | ⟨w, rfl, rfl⟩
    · exfalso; omega
    · refine ⟨p, r, _, hl, by rw [show k 104 15 = h 21 4 by omega], rfl, ?_⟩
      have u1 : ∀ c : Nat, c ≠ 104 → c ≠ 21 → c ≠ 40 → c ≠ 41 → zup (zup k 104 9 0) 104 15 0 c = h c := fun c h1 h2 h3 h4 => by rw [← f1 c h2 h3 h4, ← ko c h1]; funext q; rw [zup_ne h1, zup_ne h1]
      have u21 : zup (zup k 104 9 0) 104 15 0 21 = g 21 := by rw [← ko 21 (by decide)]; funext q; rw [zup_ne (by decide), zup_ne (by decide)]
      have uj : ∀ j : Nat, j ≠ 0 → j ≠ 9 → j ≠ 15 → zup (zup k 104 9 0) 104 15 0 104 j = h 104 j := fun j h1 h2 h3 => by rw [zup_k h3, zup_k h2]; exact kjh j h1
      exact zLi_day hI (fun c hc => u1 c (by omega) (by omega) (by omega) (by omega)) (by rw [u1 2 (by decide) (by decide) (by decide) (by decide)]; exact kd) ⟨by rw [u1 2 (by decide) (by decide) (by decide) (by decide)]; exact st, by rw [u1 2 (by decide) (by decide) (by decide) (by decide), uj 1 (by decide) (by decide) (by decide)]; exact st2⟩ (fun j hj => by rw [u1 38 (by decide) (by decide) (by decide) (by decide)]; exact z38 j hj) (fun j hj => by rw [u1 56 (by decide) (by decide) (by decide) (by decide)]; exact z56 j hj) ⟨uj 3 (by decide) (by decide) (by decide), uj 4 (by decide) (by decide) (by decide), by rw [u1 2 (by decide) (by decide) (by decide) (by decide), uj 11 (by decide) (by decide) (by decide)]; exact kd2⟩ (fun c _ _ => rfl) (by omega) tr2 (Or.inl ⟨by rw [u21]; exact f3, by rw [u21]; exact f4, by rw [zup_k (by decide), zup_eq], zup_eq⟩)
theorem zT_rule (hI : zLi X XL t p r h hl) {a : Int} (ha : zr a) : zTw 69 [.inr (.inr (some 2)), .inl a] 126 [.inr (.inr (some 104)), .inl a] X XL t h hl := by
  have hIc := hI
  obtain ⟨x1, x2, tw, od, z38, z56, kd, kd2, st, st2, tr, tr2, b0, b1, b2, dy⟩ := hIc
  have twc := tw
  obtain ⟨hp6, hr15, h30, h31, hp3, hr4, hMe, hTB, hCn, hPo, hRd, hLk, hGr⟩ := twc
  have hdb := zDay_b dy
  have hP : 0 ≤ h 3 0 ∧ h 3 0 ≤ 6 := by omega
  have hon : zr (h 21 3) := ⟨by omega, by omega⟩
  obtain ⟨L, B, n, s, hJ⟩ := zDay_on dy
  obtain ⟨m, em⟩ : ∃ m, zup h 104 0 0 = m := ⟨_, rfl⟩
  obtain ⟨mo, mj, hIm⟩ := zLi_m hI em
  have twm := hIm.2.2.1
  have m3 := mj 3 (by decide)
  have m4 := mj 4 (by decide)
  have m9 := mj 9 (by decide)
  have m15 := mj 15 (by decide)
  have m11 := mj 11 (by decide)
  have hPm : 0 ≤ m 104 3 ∧ m 104 3 ≤ 6 := by omega
  have h9m : 0 ≤ m 104 9 ∧ m 104 9 ≤ 3 := by omega
  have h15m : 0 ≤ m 104 15 ∧ m 104 15 ≤ 12 := by omega
  have hJm : 0 < h 21 3 → zJ m hl p L B n s := fun q => zJ_same hp6 (hJ q) (fun c hc => mo c (by omega)) (fun j h0 _ => mj j h0)
  have hDm : 0 < m 104 9 → zMH m p L B n s ∧ zDm m hl p L B n s := fun q => ⟨zMH_of twm (hJm (by omega)), (hJm (by omega)).2.2⟩
  refine zQ_imp (p_rule (d := 8) ha) (fun ρ σ' pc => ?_)
  rcases pc with ⟨q, rfl, rfl⟩ | ⟨q, rfl, rfl⟩
  · refine ⟨_, h, hl, rfl, ⟨by decide, by decide⟩, rfl, x1, x2, zQ_imp (p_ruleO (hl := hl) (d := 7) em ha) (fun r2 σ2 pm => ?_)⟩
    rcases pm with ⟨w, rfl, rfl⟩ | ⟨w, rfl, rfl⟩
    · exact ⟨p, r, m, hl, rfl, rfl, zLi_up hIm⟩
    · exact absurd w q
  · obtain ⟨g, eg⟩ : ∃ g, zup h 2 7 a = g := ⟨_, rfl⟩
    have go : ∀ c : Nat, c ≠ 2 → g c = h c := fun c hc => by rw [← eg]; funext q; exact zup_ne hc
    have g2 : ∀ j : Nat, j ≠ 7 → g 2 j = h 2 j := fun j hj => by rw [← eg]; exact zup_k hj
    have g27 : g 2 7 = a := by rw [← eg]; exact zup_eq
    rw [eg]
    obtain ⟨k, ek⟩ : ∃ k, zup g 104 0 0 = k := ⟨_, rfl⟩
    have ko : ∀ c : Nat, c ≠ 104 → k c = g c := fun c hc => by rw [← ek]; funext q; exact zup_ne hc
    have kj : ∀ j : Nat, j ≠ 0 → k 104 j = g 104 j := fun j hj => by rw [← ek]; exact zup_k hj
    have e104 := go 104 (by decide)
    refine ⟨_, g, hl, rfl, ⟨by omega, by omega⟩, rfl, by rw [go 1 (by decide)]; exact x1, x2, zQ_imp (p_ruleO (hl := hl) (d := 7) ek ha) (fun r2 σ2 pm => ?_)⟩
    rcases pm with ⟨w, rfl, rfl⟩ | ⟨w, rfl, rfl⟩
    · exact absurd q w
    · refine ⟨p, r, _, hl, by rw [kj 11 (by decide), e104, kd2], rfl, ?_⟩
      have u1 : ∀ c : Nat, c ≠ 104 → c ≠ 2 → zup k 104 11 a c = h c := fun c h1 h2 => by rw [← go c h2, ← ko c h1]; funext q; rw [zup_ne h1]
      have u2 : zup k 104 11 a 2 = g 2 := by rw [← ko 2 (by decide)]; funext q; rw [zup_ne (by decide)]
      have uj : ∀ j : Nat, j ≠ 0 → j ≠ 11 → zup k 104 11 a 104 j = h 104 j := fun j h1 h2 => by rw [zup_k h2, kj j h1, e104]
      have hst : zr (g 2 8) := by rw [g2 8 (by decide)]; exact st
      refine zLi_day hI (fun c hc => u1 c (by omega) (by omega)) (by rw [u2, g27]; exact q) ⟨by rw [u2]; exact hst, by rw [u2, g2 8 (by decide), uj 1 (by decide) (by decide)]; exact st2⟩ (fun j hj => by rw [u1 38 (by decide) (by decide)]; exact z38 j hj) (fun j hj => by rw [u1 56 (by decide) (by decide)]; exact z56 j hj) ⟨uj 3 (by decide) (by decide), uj 4 (by decide) (by decide), by rw [u2, g27, zup_eq]⟩ (fun c _ _ => rfl) (by omega) tr2 ?_
      rcases dy with ⟨a1, a2, a3, a4⟩ | ⟨L', B', n', s', n12, dc, dm⟩
      · exact Or.inl ⟨by rw [u1 21 (by decide) (by decide)]; exact a1, by rw [u1 21 (by decide) (by decide)]; exact a2, by rw [uj 9 (by decide) (by decide)]; exact a3, by rw [uj 15 (by decide) (by decide)]; exact a4⟩
      · refine Or.inr ⟨L', B', n', s', n12, zDc_up (fun c hc => u1 c (by omega) (by omega)) (u1 0 (by decide) (by decide)) rfl dc, zDm_same dm (fun c hc => u1 c (by omega) (by omega)) (fun i j _ _ => by rw [u1 108 (by decide) (by decide)]) ⟨uj 9 (by decide) (by decide), uj 10 (by decide) (by decide), uj 14 (by decide) (by decide), uj 15 (by decide) (by decide)⟩ rfl (fun j hj => by have := (zDc_b dc).2 j hj; omega)⟩
end ZTW2
