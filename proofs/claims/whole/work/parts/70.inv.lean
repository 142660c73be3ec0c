/-! What stands between the calls of a script: both objects say the same. -/
theorem zTown_same2 {h g : Nat → Nat → Int} {p r : Nat} (hW : zTown h p r) (h1 : ∀ c : Nat, 3 ≤ c ∧ c < 18 → g c = h c) (h2 : g 104 3 = h 104 3 ∧ g 104 4 = h 104 4) (h3 : g 105 = h 105 ∧ g 106 = h 106 ∧ g 107 = h 107) : zTown g p r := by
  obtain ⟨a1, a2, a3, a4, a5, a6, a7, a8, a9, a10, a11, a12, a13⟩ := hW
  obtain ⟨e1, e2, e3⟩ := h3
  have hg : ∀ i j : Nat, i < 6 → g (12 + i) j = h (12 + i) j := fun i j hi => by rw [h1 _ (by omega)]
  have hk : ∀ i j : Nat, i < 6 → g (5 + i) j = h (5 + i) j := fun i j hi => by rw [h1 _ (by omega)]
  have hw : ∀ i c : Nat, i < 6 → zw1 g i c = zw1 h i c := fun i c hi => by unfold zw1; rw [hg i c hi]
  refine ⟨a1, a2, by rw [h1 3 (by decide)]; exact a3, by rw [h1 3 (by decide)]; exact a4, by rw [h2.1]; exact a5, by rw [h2.2]; exact a6, ⟨fun i hi => ?_, fun i j hi hj => ?_, fun i j k hi hj hk => ?_⟩, fun i j hi hj => ?_, fun i j hi hj hq => ?_, fun i j hi hj hq => ?_, fun k hk => ?_, ⟨fun k hr a b ha hb ea eb => ?_, fun i j hi hj hq => ?_⟩, fun D d1 d2 d3 d4 i j hi hj => ?_⟩
  · rw [hg i i hi]; exact a7.1 i hi
  · rw [hg i j hi, hg j i hj]; exact a7.2.1 i j hi hj
  · rw [hg i k hi, hg i j hi, hg j k hj]; exact a7.2.2 i j k hi hj hk
  · rw [hg i j hi, hk i j hi]; exact a8 i j hi hj
  · rw [hg i j hi] at hq ⊢
    have := a9 i j hi hj hq
    unfold zct at this ⊢
    rw [hw i 0 hi, hw i 1 hi, hw i 2 hi, hw i 3 hi, hw i 4 hi, hw i 5 hi]
    exact this
  · rw [hg i j hi]; exact a10 i j hi hj hq
  · rw [e1, e2, e3]; exact a11 k hk
  · rw [e1] at ea
    rw [e2] at eb
    rw [e3, hk a b ha, hk b a hb, hg a b ha]
    exact a12.1 k hr a b ha hb ea eb
  · rw [hk i j hi] at hq ⊢
    rw [e1, e2, e3]
    exact a12.2 i j hi hj hq
  · rw [hg i j hi]
    refine a13 D d1 d2 d3 (fun k hr a b ha hb ea eb => ?_) i j hi hj
    have := d4 k hr a b ha hb (by rw [e1]; exact ea) (by rw [e2]; exact eb)
    rw [e3] at this
    exact this
def zBkR (h hl : Nat → Nat → Int) (b B Z N : Nat) : Prop := (h 119 b = 0 ∨ h 119 b = 1) ∧ (h 119 b = 0 ↔ h B 1 < 0) ∧ (-1 ≤ h B 1 ∧ h B 1 ≤ 4) ∧ (0 ≤ h B 0 ∧ h B 0 ≤ 3) ∧ (0 ≤ h 121 b ∧ h 121 b ≤ 4) ∧ (0 ≤ h 120 b ∧ h 120 b ≤ 3) ∧ (0 ≤ h B 1 → h 121 b = h B 1 ∧ h 120 b = h B 0) ∧ (∀ q : Nat, q < 4 → (h Z q = -1 ∧ h 122 (4 * b + q) = -9) ∨ (0 ≤ h Z q ∧ h Z q ≤ 8 ∧ h 122 (4 * b + q) = h Z q)) ∧ ∀ q i : Nat, q < 4 → i < 8 → hl 123 (32 * b + 8 * q + i) = hl (N + q) i ∧ zrl (hl (N + q) i)
def zDay (h hl : Nat → Nat → Int) (p : Nat) : Prop := (h 21 3 = 0 ∧ h 21 4 = 0 ∧ h 104 9 = 0 ∧ h 104 15 = 0) ∨ ∃ (L B n : Nat) (s : zDS), zJ h hl p L B n s
def zLi (X XL : Nat → Int) (t p r : Nat) (h hl : Nat → Nat → Int) : Prop := h 1 = X ∧ hl 1 = XL ∧ zTown h p r ∧ zOr h ∧ (∀ j : Nat, j < 13 → zr (h 38 j)) ∧ (∀ j : Nat, j < 4 → zr (h 56 j)) ∧ (0 ≤ h 2 7 ∧ h 2 7 ≤ 3) ∧ h 104 11 = h 2 7 ∧ zr (h 2 8) ∧ h 104 1 = h 2 8 ∧ (0 ≤ hl 81 0 ∧ hl 81 0 ≤ 700000 * (t : Int)) ∧ hl 104 2 = hl 81 0 ∧ zBkR h hl 0 83 84 86 ∧ zBkR h hl 1 90 91 93 ∧ zBkR h hl 2 97 98 100 ∧ zDay h hl p
theorem zBkR_M {h hl : Nat → Nat → Int} {b B Z N : Nat} (hb : zBkR h hl b B Z N) : zMbk h hl b := by
  obtain ⟨b1, b2, b3, b4, b5, b6, b7, b8, b9⟩ := hb
  exact ⟨b1, b5, b6, fun q hq => by rcases b8 q hq with w | w <;> omega, fun q i hq hi => by rw [(b9 q i hq hi).1]; exact (b9 q i hq hi).2⟩
theorem zMbk_same {h hl g gl : Nat → Nat → Int} {b : Nat} (h1 : ∀ c : Nat, 119 ≤ c → c ≤ 122 → g c = h c) (h2 : gl 123 = hl 123) (hb : zMbk h hl b) : zMbk g gl b := by
  obtain ⟨b1, b2, b3, b4, b5⟩ := hb
  unfold zMbk
  rw [h1 119 (by decide) (by decide), h1 120 (by decide) (by decide), h1 121 (by decide) (by decide), h1 122 (by decide) (by decide), h2]
  exact ⟨b1, b2, b3, b4, b5⟩
theorem zBkR_same {h hl g gl : Nat → Nat → Int} {b B Z N : Nat} (h1 : g B = h B) (h2 : g Z = h Z) (h3 : ∀ c : Nat, 119 ≤ c → c ≤ 122 → g c = h c) (h4 : gl 123 = hl 123) (h5 : ∀ q : Nat, q < 4 → gl (N + q) = hl (N + q)) (hb : zBkR h hl b B Z N) : zBkR g gl b B Z N := by
  unfold zBkR at hb ⊢
  rw [h1, h2, h3 119 (by decide) (by decide), h3 120 (by decide) (by decide), h3 121 (by decide) (by decide), h3 122 (by decide) (by decide), h4]
  obtain ⟨b1, b2, b3, b4, b5, b6, b7, b8, b9⟩ := hb
  exact ⟨b1, b2, b3, b4, b5, b6, b7, b8, fun q i hq hi => by rw [h5 q hq]; exact b9 q i hq hi⟩
theorem zDI_same {h g : Nat → Nat → Int} {p L B n : Nat} {sp : Nat → Nat} (hs : ∀ c : Nat, 3 ≤ c ∧ c < 48 → g c = h c) (h0 : g 0 = h 0) (hD : zDID h p L B n sp) : zDID g p L B n sp := by
  obtain ⟨hS, hT, hBs, hL, hn, hn2, hB, htu, hsp, hspL, hsu, hR, hW, hnk, hHE, hHz⟩ := hD
  have e21 := hs 21 (by decide)
  have e22 := hs 22 (by decide)
  have e38 := hs 38 (by decide)
  have e40 := hs 40 (by decide)
  have e41 := hs 41 (by decide)
  have e42 := hs 42 (by decide)
  have e43 := hs 43 (by decide)
  have e44 := hs 44 (by decide)
  have e45 := hs 45 (by decide)
  have e46 := hs 46 (by decide)
  have e47 := hs 47 (by decide)
  have hT2 : zTD g p := by
    obtain ⟨t1, t2, t3⟩ := hT
    have hp6 := hS.2.1
    exact ⟨fun i j hi hj => by rw [hs (12 + i) (by omega), hs (5 + i) (by omega)]; exact t1 i j hi hj, fun i j hi hj => by rw [hs (12 + i) (by omega)]; exact t2 i j hi hj, fun k hk => by rw [h0]; exact t3 k hk⟩
  refine ⟨zSI_same hS (hs 18 (by decide)) (hs 19 (by decide)) (hs 20 (by decide)), hT2, hBs, by rw [e21]; exact hL, by rw [e21]; exact hn, hn2, by rw [e21]; exact hB, by rw [e21]; exact htu, fun i hi => by rw [e40]; exact hsp i hi, hspL, fun l hl => ?_, zDR_same (fun j _ => by rw [e42, e43, e44, e45, e46, e47]; exact ⟨rfl, rfl, rfl, rfl, rfl, rfl⟩) hR, zWI_same e22 e38 (fun i hi => hs (24 + i) (by omega)) (fun c h1 h2 => hs c (by omega)) hS.2.1 hW, by rw [e22]; exact hnk, fun j hj => by rw [e38, e42]; exact hHE j hj, fun j hj => by rw [e38]; exact hHz j hj⟩
  rw [e41, hsu l hl]
  exact (zSum_same n (fun j _ => by rw [e43, e44]; exact ⟨rfl, rfl⟩)).symm
theorem zDc_same {h hl g gl : Nat → Nat → Int} {p L B n : Nat} {s : zDS} {δ : Int} (hs : ∀ c : Nat, 3 ≤ c ∧ c < 48 → g c = h c) (h0 : g 0 = h 0) (ht : gl 81 0 = hl 81 0 + δ) (hD : zDc h hl p L B n s) : zDc g gl p L B n (s.1, s.2.1, s.2.2.1, s.2.2.2.1 + δ, s.2.2.2.2) := by
  obtain ⟨d1, d2, d3, d4, d5⟩ := hD
  exact ⟨zDI_same hs h0 d1, fun i hi => by rw [hs 41 (by decide)]; exact d2 i hi, by rw [hs 21 (by decide)]; exact d3, fun c j hc hj => by rw [hs (42 + c) (by omega)]; exact d4 c j hc hj, by rw [ht, d5]⟩
theorem zDm_same2 {m ml g gl : Nat → Nat → Int} {p L B n : Nat} {s : zDS} {δ : Int} (hM : zDm m ml p L B n s) (h1 : ∀ c : Nat, (12 ≤ c ∧ c < 20) ∨ (109 ≤ c ∧ c ≤ 117) → g c = m c) (h108 : ∀ i j : Nat, i < 6 → j < 6 → g 108 (6 * i + j) = m 108 (6 * i + j)) (h2 : g 104 9 = m 104 9 ∧ g 104 10 = m 104 10 ∧ g 104 14 = m 104 14 ∧ g 104 15 = m 104 15) (h3 : gl 104 2 = ml 104 2 + δ) (hr : ∀ j : Nat, j < n → Int.toNat (s.2.2.2.2 0 j) < 8) : zDm g gl p L B n (s.1, s.2.1, s.2.2.1, s.2.2.2.1 + δ, s.2.2.2.2) := by
  obtain ⟨m9, m10, m14, m15, mas, mrec, mfa, mrow, mtr⟩ := hM
  refine ⟨h2.1.trans m9, h2.2.1.trans m10, h2.2.2.1.trans m14, h2.2.2.2.trans m15, fun i hi => by rw [h1 109 (Or.inr (by decide)), h1 110 (Or.inr (by decide))]; exact mas i hi, fun c j hc hj => by rw [h1 (111 + c) (Or.inr (by omega))]; exact mrec c j hc hj, fun i j hi hj => by
    rw [h108 i j hi hj, mfa i j hi hj]
    unfold zFa
    rw [h1 (12 + i) (Or.inl (by omega))], fun i hi => ?_, by rw [h3, mtr]⟩
  exact zRk_same (fun c c1 c2 => h1 c (Or.inl ⟨c1, c2⟩)) (fun j hj => ⟨rfl, hr j (by omega)⟩) (fun q hq => by rw [h1 117 (Or.inr (by decide))]) (mrow i hi)
/-- the invariant stands where nothing it speaks of has changed, THE TRACE and STATUS apart -/
theorem zLi_same {X XL : Nat → Int} {t t' p r : Nat} {h hl g gl : Nat → Nat → Int} {δ : Int} (hI : zLi X XL t p r h hl) (hδ : 0 ≤ δ) (ht : 700000 * (t : Int) + δ ≤ 700000 * (t' : Int)) (h1 : ∀ c : Nat, (c < 48 ∧ c ≠ 2) ∨ (81 ≤ c ∧ c < 104) ∨ (105 ≤ c ∧ c < 108) ∨ (109 ≤ c ∧ c < 118) ∨ (119 ≤ c ∧ c < 124) → g c = h c) (h27 : g 2 7 = h 2 7) (hst : zr (g 2 8) ∧ g 104 1 = g 2 8) (h56 : ∀ j : Nat, j < 4 → zr (g 56 j)) (h104 : ∀ j : Nat, j ≠ 0 → j ≠ 1 → g 104 j = h 104 j) (h108 : g 108 = h 108 ∨ ∀ i j : Nat, i < 6 → j < 6 → g 108 (6 * i + j) = zFa h i j) (hl1 : ∀ c : Nat, c ≠ 81 → c ≠ 104 → gl c = hl c) (hl2 : gl 81 0 = hl 81 0 + δ) (hl3 : gl 104 2 = hl 104 2 + δ) : zLi X XL t' p r g gl := by
  obtain ⟨x1, x2, tw, od, z38, z56, kd, kd2, st, st2, tr, tr2, b0, b1, b2, dy⟩ := hI
  have e119 : ∀ c : Nat, 119 ≤ c → c ≤ 122 → g c = h c := fun c c1 c2 => h1 c (by omega)
  refine ⟨by rw [h1 1 (by decide)]; exact x1, by rw [hl1 1 (by decide) (by decide)]; exact x2, zTown_same2 tw (fun c hc => h1 c (by omega)) ⟨h104 3 (by decide) (by decide), h104 4 (by decide) (by decide)⟩ ⟨h1 105 (by decide), h1 106 (by decide), h1 107 (by decide)⟩, fun k hk => by rw [h1 0 (by decide)]; exact od k hk, fun j hj => by rw [h1 38 (by decide)]; exact z38 j hj, h56, by rw [h27]; exact kd, by rw [h104 11 (by decide) (by decide), h27]; exact kd2, hst.1, hst.2, by omega, by omega, zBkR_same (h1 83 (by decide)) (h1 84 (by decide)) e119 (hl1 123 (by decide) (by decide)) (fun q hq => hl1 _ (by omega) (by omega)) b0, zBkR_same (h1 90 (by decide)) (h1 91 (by decide)) e119 (hl1 123 (by decide) (by decide)) (fun q hq => hl1 _ (by omega) (by omega)) b1, zBkR_same (h1 97 (by decide)) (h1 98 (by decide)) e119 (hl1 123 (by decide) (by decide)) (fun q hq => hl1 _ (by omega) (by omega)) b2, ?_⟩
  rcases dy with ⟨q1, q2, q3, q4⟩ | ⟨L, B, n, s, n12, dc, dm⟩
  · exact Or.inl ⟨by rw [h1 21 (by decide)]; exact q1, by rw [h1 21 (by decide)]; exact q2, by rw [h104 9 (by decide) (by decide)]; exact q3, by rw [h104 15 (by decide) (by decide)]; exact q4⟩
  · have hb := zDc_b dc
    have hp6 := tw.1
    refine Or.inr ⟨L, B, n, _, n12, zDc_same (fun c hc => h1 c (by omega)) (h1 0 (by decide)) hl2 dc, zDm_same2 dm (fun c hc => h1 c (by omega)) (fun i j hi hj => ?_) ⟨h104 9 (by decide) (by decide), h104 10 (by decide) (by decide), h104 14 (by decide) (by decide), h104 15 (by decide) (by decide)⟩ hl3 (fun j hj => by have := hb.2 j hj; omega)⟩
    rcases h108 with e | e
    · rw [e]
    · rw [e i j hi hj, dm.2.2.2.2.2.2.1 i j hi hj]
theorem zMH_of {h hl : Nat → Nat → Int} {p r L B n : Nat} {s : zDS} (tw : zTown h p r) (hJ : zJ h hl p L B n s) : zMH h p L B n s := by
  obtain ⟨n12, dc, dm⟩ := hJ
  have hb := zDc_b dc
  obtain ⟨d1, d2, d3, d4, d5⟩ := dc
  have hbD := zDI_bD d1
  obtain ⟨hS, hT, hBs, hL, hn, hn2, hB, htu, hsp, hspL, hsu, hR, hW, hnk, hHE, hHz⟩ := d1
  obtain ⟨hp6, hr15, h30, h31, hp3, hr4, hMe, hTB, hCn, hPo, hRd, hLk, hGr⟩ := tw
  refine ⟨hS.1, hp6, hp3, hT, fun i j hi hj => ?_, hBs, n12, hb.1, hspL, fun i hi => ?_, by rw [← d3]; exact htu, hb.2, hMe.1, hPo⟩
  · rw [dm.2.2.2.2.2.2.1 i j (by omega) (by omega)]
    unfold zFa
    rw [if_pos (by have := hT.2.1 i j hi hj; omega)]
  · rw [← d2 i hi]
    have := hbD i hi
    omega
