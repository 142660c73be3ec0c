/-! Both towns: what the model's roads say of the distances. -/
def zRd (h : Nat → Nat → Int) (p r : Nat) : Prop := ∀ k : Nat, k < r → ∃ a b : Nat, a < p ∧ b < p ∧ a ≠ b ∧ h 105 k = (a : Int) ∧ h 106 k = (b : Int) ∧ 1 ≤ h 107 k ∧ h 107 k ≤ 100
/-- nothing greater is a distance below the roads -/
def zGr (h : Nat → Nat → Int) (r : Nat) : Prop := ∀ D : Nat → Nat → Int, (∀ i j k : Nat, i < 6 → j < 6 → k < 6 → D i k ≤ D i j + D j k) → (∀ i : Nat, i < 6 → D i i ≤ 0) → (∀ i j : Nat, i < 6 → j < 6 → D i j ≤ 1000000) → (∀ k : Nat, k < r → ∀ a b : Nat, a < 6 → b < 6 → h 105 k = (a : Int) → h 106 k = (b : Int) → D a b ≤ h 107 k ∧ D b a ≤ h 107 k) → ∀ i j : Nat, i < 6 → j < 6 → D i j ≤ h (12 + i) j
def zw1 (h : Nat → Nat → Int) (i c : Nat) : Int := if h (12 + i) c < 1000000 then 1 else 0
/-- how many have a way from i -/
def zct (h : Nat → Nat → Int) (i : Nat) : Int := zw1 h i 0 + zw1 h i 1 + zw1 h i 2 + zw1 h i 3 + zw1 h i 4 + zw1 h i 5
def zCn (h : Nat → Nat → Int) : Prop := ∀ i j : Nat, i < 6 → j < 6 → h (12 + i) j < 1000000 → h (12 + i) j ≤ 100 * (zct h i - 1)
def zLk (h : Nat → Nat → Int) (r : Nat) : Prop := (∀ k : Nat, k < r → ∀ a b : Nat, a < 6 → b < 6 → h 105 k = (a : Int) → h 106 k = (b : Int) → h (5 + a) b ≤ h 107 k ∧ h (5 + b) a ≤ h 107 k ∧ h (12 + a) b ≤ h 107 k) ∧ ∀ i j : Nat, i < 6 → j < 6 → h (5 + i) j < 1000000 → ∃ k : Nat, k < r ∧ ((h 105 k = (i : Int) ∧ h 106 k = (j : Int)) ∨ (h 105 k = (j : Int) ∧ h 106 k = (i : Int))) ∧ h 107 k = h (5 + i) j
def zTown (h : Nat → Nat → Int) (p r : Nat) : Prop := p ≤ 6 ∧ r ≤ 15 ∧ h 3 0 = (p : Int) ∧ h 3 1 = (r : Int) ∧ h 104 3 = (p : Int) ∧ h 104 4 = (r : Int) ∧ zMe h ∧ zTB h ∧ zCn h ∧ (∀ i j : Nat, i < 6 → j < 6 → i ≠ j → 1 ≤ h (12 + i) j) ∧ zRd h p r ∧ zLk h r ∧ zGr h r
theorem zw1_b (h : Nat → Nat → Int) (i c : Nat) : 0 ≤ zw1 h i c ∧ zw1 h i c ≤ 1 := by
  unfold zw1
  by_cases q : h (12 + i) c < 1000000
  · rw [if_pos q]; omega
  · rw [if_neg q]; omega
theorem zct_b (h : Nat → Nat → Int) (i : Nat) : 0 ≤ zct h i ∧ zct h i ≤ 6 := by
  have a0 := zw1_b h i 0
  have a1 := zw1_b h i 1
  have a2 := zw1_b h i 2
  have a3 := zw1_b h i 3
  have a4 := zw1_b h i 4
  have a5 := zw1_b h i 5
  unfold zct
  omega
theorem zCn_b {h : Nat → Nat → Int} (hC : zCn h) {i j : Nat} (hi : i < 6) (hj : j < 6) (hf : h (12 + i) j < 1000000) : h (12 + i) j ≤ 500 := by
  have a := hC i j hi hj hf
  have b := zct_b h i
  omega
theorem zTown_same {h g : Nat → Nat → Int} {p r : Nat} (hW : zTown h p r) (h1 : ∀ c : Nat, c < 18 → g c = h c) (h2 : g 104 3 = h 104 3 ∧ g 104 4 = h 104 4) (h3 : g 105 = h 105 ∧ g 106 = h 106 ∧ g 107 = h 107) : zTown g p r := by
  obtain ⟨a1, a2, a3, a4, a5, a6, a7, a8, a9, a10, a11, a12, a13⟩ := hW
  obtain ⟨e1, e2, e3⟩ := h3
  have hg : ∀ i j : Nat, i < 6 → g (12 + i) j = h (12 + i) j := fun i j hi => by rw [h1 _ (by omega)]
  have hk : ∀ i j : Nat, i < 6 → g (5 + i) j = h (5 + i) j := fun i j hi => by rw [h1 _ (by omega)]
  have hw : ∀ i c : Nat, i < 6 → zw1 g i c = zw1 h i c := fun i c hi => by unfold zw1; rw [hg i c hi]
  refine ⟨a1, a2, by rw [h1 3 (by decide)]; exact a3, by rw [h1 3 (by decide)]; exact a4, by rw [h2.1]; exact a5, by rw [h2.2]; exact a6, ⟨fun i hi => ?_, fun i j hi hj => ?_, fun i j k hi hj hk => ?_⟩, fun i j hi hj => ?_, fun i j hi hj hq => ?_, fun i j hi hj hq => ?_, fun k hk => ?_, ⟨fun k hr a b ha hb ea eb => ?_, fun i j hi hj hq => ?_⟩, fun D d1 d2 d3 d4 i j hi hj => ?_⟩
  · rw [hg i i hi]; exact a7.1 i hi
  · rw [hg i j hi, hg j i hj]; exact a7.2.1 i j hi hj
  · rw [hg i k hi, hg i j hi, hg j k hj]; exact a7.2.2 i j k hi hj hk
  · rw [hg i j hi, hk i j hi]; exact a8 i j hi hj
  · rw [hg i j hi] at hq ⊢
    have := a9 i j hi hj hq
    unfold zct at this ⊢
    rw [hw i 0 hi, hw i 1 hi, hw i 2 hi, hw i 3 hi, hw i 4 hi, hw i 5 hi]
    exact this
  · rw [hg i j hi]; exact a10 i j hi hj hq
  · rw [e1, e2, e3]; exact a11 k hk
  · rw [e1] at ea
    rw [e2] at eb
    rw [e3, hk a b ha, hk b a hb, hg a b ha]
    exact a12.1 k hr a b ha hb ea eb
  · rw [hk i j hi] at hq ⊢
    rw [e1, e2, e3]
    exact a12.2 i j hi hj hq
  · rw [hg i j hi]
    refine a13 D d1 d2 d3 (fun k hr a b ha hb ea eb => ?_) i j hi hj
    have := d4 k hr a b ha hb (by rw [e1]; exact ea) (by rw [e2]; exact eb)
    rw [e3] at this
    exact this
theorem zTown_place {h g : Nat → Nat → Int} {p r : Nat} (hW : zTown h p r) (hp : p < 6) (h1 : ∀ c : Nat, c < 18 → c ≠ 3 → g c = h c) (h30 : g 3 0 = (p : Int) + 1) (h31 : g 3 1 = h 3 1) (h2 : g 104 3 = (p : Int) + 1 ∧ g 104 4 = h 104 4) (h3 : g 105 = h 105 ∧ g 106 = h 106 ∧ g 107 = h 107) : zTown g (p + 1) r := by
  obtain ⟨a1, a2, a3, a4, a5, a6, a7, a8, a9, a10, a11, a12, a13⟩ := hW
  obtain ⟨e1, e2, e3⟩ := h3
  have hg : ∀ i j : Nat, i < 6 → g (12 + i) j = h (12 + i) j := fun i j hi => by rw [h1 _ (by omega) (by omega)]
  have hk : ∀ i j : Nat, i < 6 → g (5 + i) j = h (5 + i) j := fun i j hi => by rw [h1 _ (by omega) (by omega)]
  have hw : ∀ i c : Nat, i < 6 → zw1 g i c = zw1 h i c := fun i c hi => by unfold zw1; rw [hg i c hi]
  refine ⟨by omega, a2, by rw [h30]; rfl, by rw [h31]; exact a4, by rw [h2.1]; rfl, by rw [h2.2]; exact a6, ⟨fun i hi => ?_, fun i j hi hj => ?_, fun i j k hi hj hk => ?_⟩, fun i j hi hj => ?_, fun i j hi hj hq => ?_, fun i j hi hj hq => ?_, fun k hk => ?_, ⟨fun k hr a b ha hb ea eb => ?_, fun i j hi hj hq => ?_⟩, fun D d1 d2 d3 d4 i j hi hj => ?_⟩
  · rw [hg i i hi]; exact a7.1 i hi
  · rw [hg i j hi, hg j i hj]; exact a7.2.1 i j hi hj
  · rw [hg i k hi, hg i j hi, hg j k hj]; exact a7.2.2 i j k hi hj hk
  · rw [hg i j hi, hk i j hi]; exact a8 i j hi hj
  · rw [hg i j hi] at hq ⊢
    have := a9 i j hi hj hq
    unfold zct at this ⊢
    rw [hw i 0 hi, hw i 1 hi, hw i 2 hi, hw i 3 hi, hw i 4 hi, hw i 5 hi]
    exact this
  · rw [hg i j hi]; exact a10 i j hi hj hq
  · rw [e1, e2, e3]
    obtain ⟨a, b, b1, b2, b3⟩ := a11 k hk
    exact ⟨a, b, by omega, by omega, b3⟩
  · rw [e1] at ea
    rw [e2] at eb
    rw [e3, hk a b ha, hk b a hb, hg a b ha]
    exact a12.1 k hr a b ha hb ea eb
  · rw [hk i j hi] at hq ⊢
    rw [e1, e2, e3]
    exact a12.2 i j hi hj hq
  · rw [hg i j hi]
    refine a13 D d1 d2 d3 (fun k hr a b ha hb ea eb => ?_) i j hi hj
    have := d4 k hr a b ha hb (by rw [e1]; exact ea) (by rw [e2]; exact eb)
    rw [e3] at this
    exact this
/-- the model's table of distances -/
def zFa (h : Nat → Nat → Int) (i j : Nat) : Int := if h (12 + i) j < 1000000 then h (12 + i) j else 100000000
theorem zFa_spec {h : Nat → Nat → Int} {p r : Nat} (hW : zTown h p r) {i j : Nat} (hi : i < 6) (hj : j < 6) : (h (12 + i) j < 1000000 ∧ zFa h i j = h (12 + i) j ∧ 0 ≤ zFa h i j ∧ zFa h i j ≤ 500) ∨ (h (12 + i) j = 1000000 ∧ zFa h i j = 100000000) := by
  obtain ⟨a1, a2, a3, a4, a5, a6, a7, a8, a9, a10, a11, a12, a13⟩ := hW
  have b := a8 i j hi hj
  unfold zFa
  by_cases q : h (12 + i) j < 1000000
  · have c := zCn_b a9 hi hj q
    rw [if_pos q]
    exact Or.inl ⟨q, rfl, b.1, c⟩
  · rw [if_neg q]
    exact Or.inr ⟨by omega, rfl⟩
def zFI (h : Nat → Nat → Int) (g : Nat → Nat → Int) (kk c : Nat) : Prop := (∀ i : Nat, i < 6 → g 108 (6 * i + i) = 0) ∧ (∀ i j : Nat, i < 6 → j < 6 → (0 ≤ g 108 (6 * i + j) ∧ g 108 (6 * i + j) ≤ 100000000) ∧ zFa h i j ≤ g 108 (6 * i + j) ∧ g 108 (6 * i + j) = g 108 (6 * j + i)) ∧ (∀ k : Nat, k < kk → ∀ a b : Nat, a < 6 → b < 6 → h 105 k = (a : Int) → h 106 k = (b : Int) → g 108 (6 * a + b) ≤ h 107 k ∧ g 108 (6 * b + a) ≤ h 107 k) ∧ ∀ m : Nat, m < c → ∀ i j : Nat, i < 6 → j < 6 → g 108 (6 * i + j) ≤ g 108 (6 * i + m) + g 108 (6 * m + j)
theorem zFI_0 {h g : Nat → Nat → Int} {p r : Nat} (hW : zTown h p r) (hg : ∀ i j : Nat, i < 6 → j < 6 → g 108 (6 * i + j) = if i = j then 0 else 100000000) : zFI h g 0 0 := by
  refine ⟨fun i hi => by rw [hg i i hi hi, if_pos rfl], fun i j hi hj => ?_, fun k hk => absurd hk (Nat.not_lt_zero k), fun m hm => absurd hm (Nat.not_lt_zero m)⟩
  rw [hg i j hi hj, hg j i hj hi]
  have z := zFa_spec hW hi hj
  by_cases q : i = j
  · have d := hW.2.2.2.2.2.2.1.1 i hi
    rw [if_pos q, if_pos q.symm]
    rw [q] at z d ⊢
    omega
  · rw [if_neg q, if_neg (fun w => q w.symm)]
    omega
theorem zFI_no {h g : Nat → Nat → Int} {k a b : Nat} (hI : zFI h g k 0) (ha : a < 6) (hb : b < 6) (ea : h 105 k = (a : Int)) (eb : h 106 k = (b : Int)) (hn : ¬ h 107 k < g 108 (6 * a + b)) : zFI h g (k + 1) 0 := by
  obtain ⟨i1, i2, i3, i4⟩ := hI
  refine ⟨i1, i2, fun k' hk a' b' ha' hb' e1 e2 => ?_, i4⟩
  by_cases q : k' = k
  · rw [q] at e1 e2 ⊢
    obtain rfl : a' = a := by omega
    obtain rfl : b' = b := by omega
    have := (i2 a' b' ha' hb').2.2
    omega
  · exact i3 k' (by omega) a' b' ha' hb' e1 e2
theorem zFI_yes {h g : Nat → Nat → Int} {p r k a b : Nat} (hW : zTown h p r) (hk : k < r) (hI : zFI h g k 0) (ha : a < 6) (hb : b < 6) (hab : a ≠ b) (ea : h 105 k = (a : Int)) (eb : h 106 k = (b : Int)) (hn : h 107 k < g 108 (6 * a + b)) (hlen : 1 ≤ h 107 k) : zFI h (zup (zup g 108 (6 * a + b) (h 107 k)) 108 (6 * b + a) (h 107 k)) (k + 1) 0 := by
  obtain ⟨i1, i2, i3, i4⟩ := hI
  have e : ∀ i j : Nat, i < 6 → j < 6 → zup (zup g 108 (6 * a + b) (h 107 k)) 108 (6 * b + a) (h 107 k) 108 (6 * i + j) = if (i = a ∧ j = b) ∨ (i = b ∧ j = a) then h 107 k else g 108 (6 * i + j) := fun i j hi hj => by
    by_cases q1 : i = b ∧ j = a
    · rw [if_pos (Or.inr q1), q1.1, q1.2, zup_eq]
    · rw [zup_k (by omega)]
      by_cases q2 : i = a ∧ j = b
      · rw [if_pos (Or.inl q2), q2.1, q2.2, zup_eq]
      · rw [zup_k (by omega), if_neg (by omega)]
  have hgab : zFa h a b ≤ h 107 k ∧ zFa h b a ≤ h 107 k := by
    have u := (hW.2.2.2.2.2.2.2.2.2.2.2.1.1 k hk a b ha hb ea eb).2.2
    have v := hW.2.2.2.2.2.2.1.2.1 a b ha hb
    have x := (hW.2.2.2.2.2.2.2.2.2.2.1 k hk)
    obtain ⟨a', b', -, -, -, -, -, -, x⟩ := x
    have z1 := zFa_spec hW ha hb
    have z2 := zFa_spec hW hb ha
    omega
  refine ⟨fun i hi => ?_, fun i j hi hj => ?_, fun k' hk' a' b' ha' hb' e1 e2 => ?_, fun m hm => absurd hm (Nat.not_lt_zero m)⟩
  · rw [e i i hi hi, if_neg (by omega)]; exact i1 i hi
  · rw [e i j hi hj, e j i hj hi]
    have u := i2 i j hi hj
    have v := i2 a b ha hb
    by_cases q : (i = a ∧ j = b) ∨ (i = b ∧ j = a)
    · rw [if_pos q, if_pos (by omega)]
      refine ⟨by omega, ?_, rfl⟩
      rcases q with ⟨rfl, rfl⟩ | ⟨rfl, rfl⟩
      · exact hgab.1
      · exact hgab.2
    · rw [if_neg q, if_neg (by omega)]; exact u
  · rw [e a' b' ha' hb', e b' a' hb' ha']
    by_cases q : k' = k
    · rw [q] at e1 e2 ⊢
      rw [if_pos (by omega), if_pos (by omega)]
      exact ⟨Int.le_refl _, Int.le_refl _⟩
    · have u := i3 k' (by omega) a' b' ha' hb' e1 e2
      have v := i2 a b ha hb
      by_cases w : (a' = a ∧ b' = b) ∨ (a' = b ∧ b' = a)
      · rw [if_pos w, if_pos (by omega)]
        rcases w with ⟨rfl, rfl⟩ | ⟨rfl, rfl⟩ <;> omega
      · rw [if_neg w, if_neg (by omega)]; exact u
theorem zFI_round {h g g2 : Nat → Nat → Int} {p r k : Nat} (hW : zTown h p r) (hk : k < 6) (hI : zFI h g r k) (he : ∀ i j : Nat, i < 6 → j < 6 → g2 108 (6 * i + j) = min (g 108 (6 * i + j)) (g 108 (6 * i + k) + g 108 (6 * k + j))) : zFI h g2 r (k + 1) := by
  obtain ⟨i1, i2, i3, i4⟩ := hI
  have kk := i1 k hk
  have hz : ∀ i j : Nat, i < 6 → j < 6 → zFa h i j ≤ zFa h i k + zFa h k j := fun i j hi hj => by
    have t := hW.2.2.2.2.2.2.1.2.2 i k j hi hk hj
    have z1 := zFa_spec hW hi hj
    have z2 := zFa_spec hW hi hk
    have z3 := zFa_spec hW hk hj
    omega
  refine ⟨fun i hi => ?_, fun i j hi hj => ?_, fun k' hk' a' b' ha' hb' e1 e2 => ?_, fun m hm i j hi hj => ?_⟩
  · have u := i1 i hi
    have v := i2 i k hi hk
    have w := i2 k i hk hi
    rw [he i i hi hi]
    omega
  · have u := i2 i j hi hj
    have v := i2 i k hi hk
    have w := i2 k j hk hj
    have z := hz i j hi hj
    rw [he i j hi hj, he j i hj hi]
    omega
  · have u := i3 k' hk' a' b' ha' hb' e1 e2
    rw [he a' b' ha' hb', he b' a' hb' ha']
    omega
  · rw [he i j hi hj, he i m hi (by omega), he m j (by omega) hj]
    have c1 := (i2 i k hi hk).1
    have c2 := (i2 k j hk hj).1
    by_cases q : m = k
    · rw [q]
      omega
    · have hm2 : m < k := by omega
      have t1 := i4 m hm2 i j hi hj
      have t2 := i4 m hm2 k j hk hj
      have t3 := i4 m hm2 i k hi hk
      have t4 := (i2 k m hk (by omega)).1
      have t5 := (i2 m k (by omega) hk).1
      omega
theorem zFI_end {h g : Nat → Nat → Int} {p r : Nat} (hW : zTown h p r) (hI : zFI h g r 6) {i j : Nat} (hi : i < 6) (hj : j < 6) : g 108 (6 * i + j) = zFa h i j := by
  obtain ⟨i1, i2, i3, i4⟩ := hI
  have u := hW.2.2.2.2.2.2.2.2.2.2.2.2 (fun i j => min (g 108 (6 * i + j)) 1000000) (fun i j k hi hj hk => by
    have t := i4 j hj i k hi hk
    have a := (i2 i j hi hj).1
    have b := (i2 j k hj hk).1
    omega) (fun i hi => by have := i1 i hi; omega) (fun i j hi hj => by omega) (fun k hk a b ha hb ea eb => by
    have t := i3 k hk a b ha hb ea eb
    omega) i j hi hj
  have a := i2 i j hi hj
  have z := zFa_spec hW hi hj
  omega
theorem zMe_road {h g : Nat → Nat → Int} {a b : Nat} {len : Int} (hM : zMe h) (hB : zTB h) (ha : a < 6) (hb : b < 6) (hl : 1 ≤ len) (hg : ∀ i j : Nat, i < 6 → j < 6 → g (12 + i) j = zGn h a b len i j) : zMe g := by
  obtain ⟨m1, m2, m3⟩ := hM
  have p0 : ∀ i j : Nat, i < 6 → j < 6 → 0 ≤ h (12 + i) j := fun i j hi hj => (hB i j hi hj).1
  refine ⟨fun i hi => ?_, fun i j hi hj => ?_, fun i j k hi hj hk => ?_⟩
  · rw [hg i i hi hi]
    have := m1 i hi
    have := p0 i a hi ha
    have := p0 i b hi hb
    have := p0 b i hb hi
    have := p0 a i ha hi
    unfold zGn
    omega
  · rw [hg i j hi hj, hg j i hj hi]
    have := m2 i j hi hj
    have := m2 i a hi ha
    have := m2 i b hi hb
    have := m2 j a hj ha
    have := m2 j b hj hb
    unfold zGn
    omega
  · rw [hg i k hi hk, hg i j hi hj, hg j k hj hk]
    have t1 := m3 i j k hi hj hk
    have t2 := m3 i j a hi hj ha
    have t3 := m3 i j b hi hj hb
    have t4 := m3 a j k ha hj hk
    have t5 := m3 b j k hb hj hk
    have t6 := m3 i a k hi ha hk
    have t7 := m3 i b k hi hb hk
    have s1 := p0 j a hj ha
    have s2 := p0 j b hj hb
    have s3 := p0 a j ha hj
    have s4 := p0 b j hb hj
    unfold zGn
    rcases (show min (h (12 + i) j) (min (h (12 + i) a + len + h (12 + b) j) (h (12 + i) b + len + h (12 + a) j)) = h (12 + i) j ∨ min (h (12 + i) j) (min (h (12 + i) a + len + h (12 + b) j) (h (12 + i) b + len + h (12 + a) j)) = h (12 + i) a + len + h (12 + b) j ∨ min (h (12 + i) j) (min (h (12 + i) a + len + h (12 + b) j) (h (12 + i) b + len + h (12 + a) j)) = h (12 + i) b + len + h (12 + a) j by omega) with q | q | q <;>
    rcases (show min (h (12 + j) k) (min (h (12 + j) a + len + h (12 + b) k) (h (12 + j) b + len + h (12 + a) k)) = h (12 + j) k ∨ min (h (12 + j) k) (min (h (12 + j) a + len + h (12 + b) k) (h (12 + j) b + len + h (12 + a) k)) = h (12 + j) a + len + h (12 + b) k ∨ min (h (12 + j) k) (min (h (12 + j) a + len + h (12 + b) k) (h (12 + j) b + len + h (12 + a) k)) = h (12 + j) b + len + h (12 + a) k by omega) with w | w | w <;> rw [q, w] <;> omega
theorem zCn_road {h g : Nat → Nat → Int} {a b : Nat} {len : Int} (hM : zMe h) (hB : zTB h) (hC : zCn h) (ha : a < 6) (hb : b < 6) (hl : 1 ≤ len ∧ len ≤ 100) (hg : ∀ i j : Nat, i < 6 → j < 6 → g (12 + i) j = zGn h a b len i j) : zCn g := by
  have p0 : ∀ i j : Nat, i < 6 → j < 6 → 0 ≤ h (12 + i) j := fun i j hi hj => (hB i j hi hj).1
  have hle : ∀ i c : Nat, i < 6 → c < 6 → zw1 h i c ≤ zw1 g i c := fun i c hi hc => by
    have b1 := zw1_b g i c
    unfold zw1 at b1 ⊢
    have e := hg i c hi hc
    unfold zGn at e
    by_cases q : h (12 + i) c < 1000000
    · rw [if_pos q, if_pos (by omega)]; omega
    · rw [if_neg q]; omega
  have key : ∀ x y i j : Nat, x < 6 → y < 6 → i < 6 → j < 6 → (∀ i j : Nat, i < 6 → j < 6 → g (12 + i) j ≤ h (12 + i) x + len + h (12 + y) j) → ¬ h (12 + i) j < 1000000 → h (12 + i) x + len + h (12 + y) j < 1000000 → h (12 + i) x + len + h (12 + y) j ≤ 100 * (zct g i - 1) := fun x y i j hx hy hi hj hle2 hn hf => by
    have c1 := p0 i x hi hx
    have c2 := p0 y j hy hj
    have f1 := hC i x hi hx (by omega)
    have f2 := hC y j hy hj (by omega)
    have g1 := zCn_b hC hi hx (by omega)
    have g2 := zCn_b hC hy hj (by omega)
    have w : ∀ c : Nat, c < 6 → zw1 h i c + zw1 h y c ≤ zw1 g i c := fun c hc => by
      have l2 := hle2 i c hi hc
      unfold zw1
      by_cases q1 : h (12 + i) c < 1000000
      · have q2 : ¬ h (12 + y) c < 1000000 := fun q2 => by
          have d1 := zCn_b hC hi hc q1
          have d2 := zCn_b hC hy hc q2
          have t1 := hM.2.2 i c j hi hc hj
          have t2 := hM.2.2 c y j hc hy hj
          have t3 := hM.2.1 c y hc hy
          omega
        have := hg i c hi hc
        unfold zGn at this
        rw [if_pos q1, if_neg q2, if_pos (by omega)]
        omega
      · rw [if_neg q1]
        by_cases q2 : h (12 + y) c < 1000000
        · have d2 := zCn_b hC hy hc q2
          rw [if_pos q2, if_pos (by omega)]
          omega
        · rw [if_neg q2]
          by_cases q3 : g (12 + i) c < 1000000
          · rw [if_pos q3]; omega
          · rw [if_neg q3]; omega
    have w0 := w 0 (by decide)
    have w1 := w 1 (by decide)
    have w2 := w 2 (by decide)
    have w3 := w 3 (by decide)
    have w4 := w 4 (by decide)
    have w5 := w 5 (by decide)
    unfold zct at f1 f2 ⊢
    omega
  intro i j hi hj hf
  have e := hg i j hi hj
  by_cases q : h (12 + i) j < 1000000
  · have f := hC i j hi hj q
    have w0 := hle i 0 hi (by decide)
    have w1 := hle i 1 hi (by decide)
    have w2 := hle i 2 hi (by decide)
    have w3 := hle i 3 hi (by decide)
    have w4 := hle i 4 hi (by decide)
    have w5 := hle i 5 hi (by decide)
    unfold zGn at e
    unfold zct at f ⊢
    omega
  · have k1 := key a b i j ha hb hi hj (fun i j hi hj => by have := hg i j hi hj; unfold zGn at this; omega) q
    have k2 := key b a i j hb ha hi hj (fun i j hi hj => by have := hg i j hi hj; unfold zGn at this; omega) q
    unfold zGn at e
    rcases (show g (12 + i) j = h (12 + i) a + len + h (12 + b) j ∨ g (12 + i) j = h (12 + i) b + len + h (12 + a) j by omega) with w | w
    · rw [w]; exact k1 (by omega)
    · rw [w]; exact k2 (by omega)
theorem zTown_road {h g : Nat → Nat → Int} {p r a b : Nat} {len : Int} (hW : zTown h p r) (hr : r < 15) (ha : a < p) (hb : b < p) (hab : a ≠ b) (hl : 1 ≤ len ∧ len ≤ 100) (hg : ∀ i j : Nat, i < 6 → j < 6 → g (12 + i) j = zGn h a b len i j) (hk : ∀ i j : Nat, i < 6 → j < 6 → g (5 + i) j = if (i = a ∧ j = b) ∨ (i = b ∧ j = a) then min (h (5 + a) b) len else h (5 + i) j) (g30 : g 3 0 = h 3 0) (g31 : g 3 1 = h 3 1 + 1) (g3 : g 104 3 = h 104 3) (g4 : g 104 4 = (r : Int) + 1) (gA : g 105 r = (a : Int) ∧ g 106 r = (b : Int) ∧ g 107 r = len) (gO : ∀ k : Nat, k ≠ r → g 105 k = h 105 k ∧ g 106 k = h 106 k ∧ g 107 k = h 107 k) : zTown g p (r + 1) := by
  obtain ⟨a1, a2, a3, a4, a5, a6, a7, a8, a9, a10, a11, a12, a13⟩ := hW
  obtain ⟨gA1, gA2, gA3⟩ := gA
  have hab6 := a8 a b (by omega) (by omega)
  refine ⟨a1, by omega, by rw [g30]; exact a3, by rw [g31, a4]; rfl, by rw [g3]; exact a5, by rw [g4]; rfl, zMe_road a7 a8 (by omega) (by omega) hl.1 hg, fun i j hi hj => ?_, zCn_road a7 a8 a9 (by omega) (by omega) hl hg, fun i j hi hj hq => ?_, fun k hk2 => ?_, ⟨fun k hk2 x y hx hy ex ey => ?_, fun i j hi hj hq => ?_⟩, fun D d1 d2 d3 d4 i j hi hj => ?_⟩
  · have u := zGn_b a8 (show a < 6 by omega) (show b < 6 by omega) hl.1 hi hj
    have v := a8 i j hi hj
    rw [hg i j hi hj, hk i j hi hj]
    by_cases q : (i = a ∧ j = b) ∨ (i = b ∧ j = a)
    · rw [if_pos q]; omega
    · rw [if_neg q]; omega
  · have u := a10 i j hi hj hq
    have v1 := (a8 i a hi (by omega)).1
    have v2 := (a8 b j (by omega) hj).1
    have v3 := (a8 i b hi (by omega)).1
    have v4 := (a8 a j (by omega) hj).1
    rw [hg i j hi hj]
    unfold zGn
    omega
  · by_cases q : k = r
    · rw [q, gA1, gA2, gA3]
      exact ⟨a, b, ha, hb, hab, rfl, rfl, hl.1, hl.2⟩
    · obtain ⟨e1, e2, e3⟩ := gO k q
      rw [e1, e2, e3]
      exact a11 k (by omega)
  · have kxy := hk x y hx hy
    have kyx := hk y x hy hx
    have gxy := hg x y hx hy
    by_cases q : k = r
    · rw [q] at ex ey ⊢
      obtain rfl : x = a := by omega
      obtain rfl : y = b := by omega
      rw [if_pos (Or.inl ⟨rfl, rfl⟩)] at kxy
      rw [if_pos (Or.inr ⟨rfl, rfl⟩)] at kyx
      have z1 := a7.1 x hx
      have z2 := a7.1 y hy
      unfold zGn at gxy
      omega
    · obtain ⟨e1, e2, e3⟩ := gO k q
      rw [e1] at ex
      rw [e2] at ey
      rw [e3]
      have u := a12.1 k (by omega) x y hx hy ex ey
      have gle := zGn_b a8 (show a < 6 by omega) (show b < 6 by omega) hl.1 hx hy
      by_cases w : (x = a ∧ y = b) ∨ (x = b ∧ y = a)
      · rw [if_pos w] at kxy
        rw [if_pos (by omega)] at kyx
        rcases w with ⟨rfl, rfl⟩ | ⟨rfl, rfl⟩ <;> omega
      · rw [if_neg w] at kxy
        rw [if_neg (by omega)] at kyx
        omega
  · have kij := hk i j hi hj
    rw [kij] at hq ⊢
    by_cases w : (i = a ∧ j = b) ∨ (i = b ∧ j = a)
    · rw [if_pos w] at hq ⊢
      by_cases m : h (5 + a) b ≤ len
      · obtain ⟨k, k1, k2, k3⟩ := a12.2 a b (by omega) (by omega) (by omega)
        obtain ⟨e1, e2, e3⟩ := gO k (by omega)
        refine ⟨k, by omega, ?_, by rw [e3]; omega⟩
        rw [e1, e2]
        omega
      · refine ⟨r, by omega, ?_, by rw [gA3]; omega⟩
        rw [gA1, gA2]
        omega
    · rw [if_neg w] at hq ⊢
      obtain ⟨k, k1, k2, k3⟩ := a12.2 i j hi hj hq
      obtain ⟨e1, e2, e3⟩ := gO k (by omega)
      exact ⟨k, by omega, by rw [e1, e2]; exact k2, by rw [e3]; exact k3⟩
  · have ih := a13 D d1 d2 d3 (fun k hk2 x y hx hy ex ey => by
      obtain ⟨e1, e2, e3⟩ := gO k (by omega)
      have := d4 k (by omega) x y hx hy (by rw [e1]; exact ex) (by rw [e2]; exact ey)
      rw [e3] at this
      exact this)
    have n := d4 r (by omega) a b (by omega) (by omega) gA1 gA2
    rw [gA3] at n
    have i1 := ih i j hi hj
    have i2 := ih i a hi (by omega)
    have i3 := ih b j (by omega) hj
    have i4 := ih i b hi (by omega)
    have i5 := ih a j (by omega) hj
    have t1 := d1 i a j hi (by omega) hj
    have t2 := d1 a b j (by omega) (by omega) hj
    have t3 := d1 i b j hi (by omega) hj
    have t4 := d1 b a j (by omega) (by omega) hj
    rw [hg i j hi hj]
    unfold zGn
    omega
