/-! Town: one ROAD more. -/
/-- APART is a distance: 0 of one with itself, the same both ways, never more by way of a third -/
def zMe (h : Nat → Nat → Int) : Prop := (∀ i : Nat, i < 6 → h (12 + i) i = 0) ∧ (∀ i j : Nat, i < 6 → j < 6 → h (12 + i) j = h (12 + j) i) ∧ ∀ i j k : Nat, i < 6 → j < 6 → k < 6 → h (12 + i) k ≤ h (12 + i) j + h (12 + j) k
/-- the distances with one ROAD more -/
def zGn (h : Nat → Nat → Int) (a b : Nat) (len : Int) (i j : Nat) : Int := min (h (12 + i) j) (min (h (12 + i) a + len + h (12 + b) j) (h (12 + i) b + len + h (12 + a) j))
theorem zGn_a {h : Nat → Nat → Int} {a b : Nat} {len : Int} (hM : zMe h) (ha : a < 6) (hb : b < 6) (hl : 1 ≤ len) {i j : Nat} (hi : i < 6) (hj : j < 6) : zGn h a b len i j ≤ zGn h a b len i a + len + zGn h a b len b j ∧ zGn h a b len i j ≤ zGn h a b len i b + len + zGn h a b len a j := by
  obtain ⟨m1, m2, m3⟩ := hM
  have a1 := m1 a ha
  have a2 := m1 b hb
  have a3 := m2 a b ha hb
  have a4 := m3 i a j hi ha hj
  have a5 := m3 i b j hi hb hj
  have a6 := m3 a b a ha hb ha
  have a7 := m3 i a b hi ha hb
  have a8 := m3 i b a hi hb ha
  have a9 := m3 a b j ha hb hj
  have a10 := m3 b a j hb ha hj
  unfold zGn
  omega
theorem zGn_b {h : Nat → Nat → Int} {a b : Nat} {len : Int} (hB : zTB h) (ha : a < 6) (hb : b < 6) (hl : 1 ≤ len) {i j : Nat} (hi : i < 6) (hj : j < 6) : 0 ≤ zGn h a b len i j ∧ zGn h a b len i j ≤ h (12 + i) j := by
  have b1 := hB i j hi hj
  have b2 := hB i a hi ha
  have b3 := hB b j hb hj
  have b4 := hB i b hi hb
  have b5 := hB a j ha hj
  unfold zGn
  omega
/-- midway: all between the new and the old, the first ones new -/
def zIv (h g : Nat → Nat → Int) (a b : Nat) (len : Int) (i j : Nat) : Prop := (∀ i' j' : Nat, i' < 6 → j' < 6 → zGn h a b len i' j' ≤ g (12 + i') j' ∧ g (12 + i') j' ≤ h (12 + i') j') ∧ (∀ i' j' : Nat, i' < 6 → j' < 6 → (i' < i ∨ (i' = i ∧ j' < j)) → g (12 + i') j' = zGn h a b len i' j') ∧ ∀ c : Nat, (c < 12 ∨ 18 ≤ c) → g c = h c
theorem zup_ne2 {h : Nat → Nat → Int} {a k : Nat} {v : Int} {b j : Nat} (hb : ¬ (b = a ∧ j = k)) : zup h a k v b j = h b j := by
  unfold zup
  by_cases h1 : b = a
  · rw [if_pos h1]
    by_cases h2 : j = k
    · exact absurd ⟨h1, h2⟩ hb
    · rw [if_neg h2]
  · rw [if_neg h1]
theorem zIv_step {h g : Nat → Nat → Int} {a b : Nat} {len : Int} {i j : Nat} {x y m1 m2 : Int} (hM : zMe h) (ha : a < 6) (hb : b < 6) (hl : 1 ≤ len) (hi : i < 6) (hj : j < 6) (hI : zIv h g a b len i j)
    (ex : x = g (12 + i) a + len + g (12 + b) j) (ey : y = g (12 + i) b + len + g (12 + a) j) (f1 : m1 ≤ x ∧ m1 ≤ y ∧ (m1 = x ∨ m1 = y)) (f2 : m2 ≤ g (12 + i) j ∧ m2 ≤ m1 ∧ (m2 = g (12 + i) j ∨ m2 = m1)) : zIv h (zup g (12 + i) j m2) a b len i (j + 1) := by
  obtain ⟨h1, h2, h3⟩ := hI
  have t := zGn_a (len := len) hM ha hb hl hi hj
  have c1 := h1 i j hi hj
  have c2 := h1 i a hi ha
  have c3 := h1 b j hb hj
  have c4 := h1 i b hi hb
  have c5 := h1 a j ha hj
  have hm : m2 = zGn h a b len i j := by
    have e : zGn h a b len i j = min (h (12 + i) j) (min (h (12 + i) a + len + h (12 + b) j) (h (12 + i) b + len + h (12 + a) j)) := rfl
    omega
  refine ⟨fun i' j' hi' hj' => ?_, fun i' j' hi' hj' hlt => ?_, fun c hc => ?_⟩
  · by_cases hz : 12 + i' = 12 + i ∧ j' = j
    · obtain ⟨z1, rfl⟩ := hz
      obtain rfl : i' = i := by omega
      rw [zup_eq, hm]
      have := h1 i' j' hi' hj'
      exact ⟨Int.le_refl _, by omega⟩
    · rw [zup_ne2 hz]
      exact h1 i' j' hi' hj'
  · by_cases hz : 12 + i' = 12 + i ∧ j' = j
    · obtain ⟨z1, rfl⟩ := hz
      obtain rfl : i' = i := by omega
      rw [zup_eq, hm]
    · rw [zup_ne2 hz]
      exact h2 i' j' hi' hj' (by omega)
  · rw [← h3 c hc]
    funext k
    exact zup_ne (by omega)
set_option maxRecDepth 100000 in
set_option maxHeartbeats 4000000 in
theorem ar_in {d : Nat} {h hl : Nat → Nat → Int} {a b i : Nat} {len : Int} {Post : Option zV → zS → Prop} (hM : zMe h) (hB : zTB h) (ha : a < 6) (hb : b < 6) (hi : i < 6) (hlen : 1 ≤ len ∧ len ≤ 100)
    (hex : ∀ (g : Nat → Nat → Int) (x5 x6 x7 : Option zV), zIv h g a b len (i + 1) 0 → zH d 51 (159, [some (.inr (.inr (some 3))), some (.inl (a : Int)), some (.inl (b : Int)), some (.inl len), some (.inl (i : Int)), x5, x6, x7], [], (zs g hl)) Post) : ∀ (k j : Nat), j ≤ 6 → 7 ≤ j + k → ∀ (g : Nat → Nat → Int) (x6 x7 : Option zV), zIv h g a b len i j → zH d 51 (70, [some (.inr (.inr (some 3))), some (.inl (a : Int)), some (.inl (b : Int)), some (.inl len), some (.inl (i : Int)), some (.inl (j : Int)), x6, x7], [], (zs g hl)) Post := by
  intro k
  induction k with
  | zero => intro j h1 h2; exact absurd h2 (by omega)
  | succ k ih =>
    intro j hj6 hk g x6 x7 hI
    refine zH_go 2 (c' := (74, [some (.inr (.inr (some 3))), some (.inl (a : Int)), some (.inl (b : Int)), some (.inl len), some (.inl (i : Int)), some (.inl (j : Int)), x6, x7], [.inl 6, .inl (j : Int)], (zs g hl))) rfl ?_
    refine zH_br (x := (j : Int)) (y := 6) (k := .ge) (c1 := (159, [some (.inr (.inr (some 3))), some (.inl (a : Int)), some (.inl (b : Int)), some (.inl len), some (.inl (i : Int)), some (.inl (j : Int)), x6, x7], [], (zs g hl))) (c2 := (77, [some (.inr (.inr (some 3))), some (.inl (a : Int)), some (.inl (b : Int)), some (.inl len), some (.inl (i : Int)), some (.inl (j : Int)), x6, x7], [], (zs g hl))) rfl (by first | assumption | (unfold zr; omega)) ⟨by decide, by decide⟩ (fun (b_1 : ¬ (j : Int) < 6) => ?_) (fun (b_1 : ¬ (¬ (j : Int) < 6)) => ?_)
    · exact hex g _ _ _ ⟨hI.1, fun i' j' hi' hj' hlt => hI.2.1 i' j' hi' hj' (by omega), hI.2.2⟩
    · have hj : j < 6 := by omega
      have c_ia := hI.1 i a hi ha
      have d_ia := (zGn_b (len := len) hB ha hb hlen.1 hi ha : 0 ≤ zGn h a b len i a ∧ _)
      have e_ia := hB i a hi ha
      have c_bj := hI.1 b j hb hj
      have d_bj := (zGn_b (len := len) hB ha hb hlen.1 hb hj : 0 ≤ zGn h a b len b j ∧ _)
      have e_bj := hB b j hb hj
      have c_ib := hI.1 i b hi hb
      have d_ib := (zGn_b (len := len) hB ha hb hlen.1 hi hb : 0 ≤ zGn h a b len i b ∧ _)
      have e_ib := hB i b hi hb
      have c_aj := hI.1 a j ha hj
      have d_aj := (zGn_b (len := len) hB ha hb hlen.1 ha hj : 0 ≤ zGn h a b len a j ∧ _)
      have e_aj := hB a j ha hj
      have c_ij := hI.1 i j hi hj
      have d_ij := (zGn_b (len := len) hB ha hb hlen.1 hi hj : 0 ≤ zGn h a b len i j ∧ _)
      have e_ij := hB i j hi hj
      refine zH_go 3 (c' := (83, [some (.inr (.inr (some 3))), some (.inl (a : Int)), some (.inl (b : Int)), some (.inl len), some (.inl (i : Int)), some (.inl (j : Int)), x6, x7], [.inl (i : Int), .inr (.inr (some 11))], (zs g hl))) rfl ?_
      refine zH_aal (A := 11) (n := 6) (b := 12 + i) rfl rfl (by omega) (by omega) (zhr_11 (by omega)) ?_
      show zH _ _ (84, [some (.inr (.inr (some 3))), some (.inl (a : Int)), some (.inl (b : Int)), some (.inl len), some (.inl (i : Int)), some (.inl (j : Int)), x6, x7], [.inr (.inr (some (12 + i)))], (zs g hl)) _
      refine zH_go 1 (c' := (85, [some (.inr (.inr (some 3))), some (.inl (a : Int)), some (.inl (b : Int)), some (.inl len), some (.inl (i : Int)), some (.inl (j : Int)), x6, x7], [.inl (a : Int), .inr (.inr (some (12 + i)))], (zs g hl))) rfl ?_
      refine zH_ial rfl (n := 6) (zsh_11 (by omega)) (by omega) (by omega) ?_
      show zH _ _ (86, [some (.inr (.inr (some 3))), some (.inl (a : Int)), some (.inl (b : Int)), some (.inl len), some (.inl (i : Int)), some (.inl (j : Int)), x6, x7], [.inl (g (12 + i) a)], (zs g hl)) _
      refine zH_go 5 (c' := (93, [some (.inr (.inr (some 3))), some (.inl (a : Int)), some (.inl (b : Int)), some (.inl len), some (.inl (i : Int)), some (.inl (j : Int)), x6, x7], [.inl (b : Int), .inr (.inr (some 11)), .inl ((g (12 + i) a) + len)], (zs g hl))) rfl ?_
      refine zH_aal (A := 11) (n := 6) (b := 12 + b) rfl rfl (by omega) (by omega) (zhr_11 (by omega)) ?_
      show zH _ _ (94, [some (.inr (.inr (some 3))), some (.inl (a : Int)), some (.inl (b : Int)), some (.inl len), some (.inl (i : Int)), some (.inl (j : Int)), x6, x7], [.inr (.inr (some (12 + b))), .inl ((g (12 + i) a) + len)], (zs g hl)) _
      refine zH_go 1 (c' := (96, [some (.inr (.inr (some 3))), some (.inl (a : Int)), some (.inl (b : Int)), some (.inl len), some (.inl (i : Int)), some (.inl (j : Int)), x6, x7], [.inl (j : Int), .inr (.inr (some (12 + b))), .inl ((g (12 + i) a) + len)], (zs g hl))) rfl ?_
      refine zH_ial rfl (n := 6) (zsh_11 (by omega)) (by omega) (by omega) ?_
      show zH _ _ (97, [some (.inr (.inr (some 3))), some (.inl (a : Int)), some (.inl (b : Int)), some (.inl len), some (.inl (i : Int)), some (.inl (j : Int)), x6, x7], [.inl (g (12 + b) j), .inl ((g (12 + i) a) + len)], (zs g hl)) _
      refine zH_go 5 (c' := (106, [some (.inr (.inr (some 3))), some (.inl (a : Int)), some (.inl (b : Int)), some (.inl len), some (.inl (i : Int)), some (.inl (j : Int)), some (.inl (((g (12 + i) a) + len) + (g (12 + b) j))), x7], [.inl (i : Int), .inr (.inr (some 11))], (zs g hl))) rfl ?_
      refine zH_aal (A := 11) (n := 6) (b := 12 + i) rfl rfl (by omega) (by omega) (zhr_11 (by omega)) ?_
      show zH _ _ (107, [some (.inr (.inr (some 3))), some (.inl (a : Int)), some (.inl (b : Int)), some (.inl len), some (.inl (i : Int)), some (.inl (j : Int)), some (.inl (((g (12 + i) a) + len) + (g (12 + b) j))), x7], [.inr (.inr (some (12 + i)))], (zs g hl)) _
      refine zH_go 1 (c' := (108, [some (.inr (.inr (some 3))), some (.inl (a : Int)), some (.inl (b : Int)), some (.inl len), some (.inl (i : Int)), some (.inl (j : Int)), some (.inl (((g (12 + i) a) + len) + (g (12 + b) j))), x7], [.inl (b : Int), .inr (.inr (some (12 + i)))], (zs g hl))) rfl ?_
      refine zH_ial rfl (n := 6) (zsh_11 (by omega)) (by omega) (by omega) ?_
      show zH _ _ (109, [some (.inr (.inr (some 3))), some (.inl (a : Int)), some (.inl (b : Int)), some (.inl len), some (.inl (i : Int)), some (.inl (j : Int)), some (.inl (((g (12 + i) a) + len) + (g (12 + b) j))), x7], [.inl (g (12 + i) b)], (zs g hl)) _
      refine zH_go 5 (c' := (116, [some (.inr (.inr (some 3))), some (.inl (a : Int)), some (.inl (b : Int)), some (.inl len), some (.inl (i : Int)), some (.inl (j : Int)), some (.inl (((g (12 + i) a) + len) + (g (12 + b) j))), x7], [.inl (a : Int), .inr (.inr (some 11)), .inl ((g (12 + i) b) + len)], (zs g hl))) rfl ?_
      refine zH_aal (A := 11) (n := 6) (b := 12 + a) rfl rfl (by omega) (by omega) (zhr_11 (by omega)) ?_
      show zH _ _ (117, [some (.inr (.inr (some 3))), some (.inl (a : Int)), some (.inl (b : Int)), some (.inl len), some (.inl (i : Int)), some (.inl (j : Int)), some (.inl (((g (12 + i) a) + len) + (g (12 + b) j))), x7], [.inr (.inr (some (12 + a))), .inl ((g (12 + i) b) + len)], (zs g hl)) _
      refine zH_go 1 (c' := (119, [some (.inr (.inr (some 3))), some (.inl (a : Int)), some (.inl (b : Int)), some (.inl len), some (.inl (i : Int)), some (.inl (j : Int)), some (.inl (((g (12 + i) a) + len) + (g (12 + b) j))), x7], [.inl (j : Int), .inr (.inr (some (12 + a))), .inl ((g (12 + i) b) + len)], (zs g hl))) rfl ?_
      refine zH_ial rfl (n := 6) (zsh_11 (by omega)) (by omega) (by omega) ?_
      show zH _ _ (120, [some (.inr (.inr (some 3))), some (.inl (a : Int)), some (.inl (b : Int)), some (.inl len), some (.inl (i : Int)), some (.inl (j : Int)), some (.inl (((g (12 + i) a) + len) + (g (12 + b) j))), x7], [.inl (g (12 + a) j), .inl ((g (12 + i) b) + len)], (zs g hl)) _
      refine zH_go 5 (c' := (129, [some (.inr (.inr (some 3))), some (.inl (a : Int)), some (.inl (b : Int)), some (.inl len), some (.inl (i : Int)), some (.inl (j : Int)), some (.inl (((g (12 + i) a) + len) + (g (12 + b) j))), some (.inl (((g (12 + i) b) + len) + (g (12 + a) j)))], [.inl (i : Int), .inr (.inr (some 11))], (zs g hl))) rfl ?_
      refine zH_aal (A := 11) (n := 6) (b := 12 + i) rfl rfl (by omega) (by omega) (zhr_11 (by omega)) ?_
      show zH _ _ (130, [some (.inr (.inr (some 3))), some (.inl (a : Int)), some (.inl (b : Int)), some (.inl len), some (.inl (i : Int)), some (.inl (j : Int)), some (.inl (((g (12 + i) a) + len) + (g (12 + b) j))), some (.inl (((g (12 + i) b) + len) + (g (12 + a) j)))], [.inr (.inr (some (12 + i)))], (zs g hl)) _
      refine zH_go 4 (c' := (138, [some (.inr (.inr (some 3))), some (.inl (a : Int)), some (.inl (b : Int)), some (.inl len), some (.inl (i : Int)), some (.inl (j : Int)), some (.inl (((g (12 + i) a) + len) + (g (12 + b) j))), some (.inl (((g (12 + i) b) + len) + (g (12 + a) j)))], [.inl (i : Int), .inr (.inr (some 11)), .inl (j : Int), .inr (.inr (some (12 + i)))], (zs g hl))) rfl ?_
      refine zH_aal (A := 11) (n := 6) (b := 12 + i) rfl rfl (by omega) (by omega) (zhr_11 (by omega)) ?_
      show zH _ _ (139, [some (.inr (.inr (some 3))), some (.inl (a : Int)), some (.inl (b : Int)), some (.inl len), some (.inl (i : Int)), some (.inl (j : Int)), some (.inl (((g (12 + i) a) + len) + (g (12 + b) j))), some (.inl (((g (12 + i) b) + len) + (g (12 + a) j)))], [.inr (.inr (some (12 + i))), .inl (j : Int), .inr (.inr (some (12 + i)))], (zs g hl)) _
      refine zH_go 1 (c' := (141, [some (.inr (.inr (some 3))), some (.inl (a : Int)), some (.inl (b : Int)), some (.inl len), some (.inl (i : Int)), some (.inl (j : Int)), some (.inl (((g (12 + i) a) + len) + (g (12 + b) j))), some (.inl (((g (12 + i) b) + len) + (g (12 + a) j)))], [.inl (j : Int), .inr (.inr (some (12 + i))), .inl (j : Int), .inr (.inr (some (12 + i)))], (zs g hl))) rfl ?_
      refine zH_ial rfl (n := 6) (zsh_11 (by omega)) (by omega) (by omega) ?_
      show zH _ _ (142, [some (.inr (.inr (some 3))), some (.inl (a : Int)), some (.inl (b : Int)), some (.inl len), some (.inl (i : Int)), some (.inl (j : Int)), some (.inl (((g (12 + i) a) + len) + (g (12 + b) j))), some (.inl (((g (12 + i) b) + len) + (g (12 + a) j)))], [.inl (g (12 + i) j), .inl (j : Int), .inr (.inr (some (12 + i)))], (zs g hl)) _
      refine zH_go 2 (c' := (146, [some (.inr (.inr (some 3))), some (.inl (a : Int)), some (.inl (b : Int)), some (.inl len), some (.inl (i : Int)), some (.inl (j : Int)), some (.inl (((g (12 + i) a) + len) + (g (12 + b) j))), some (.inl (((g (12 + i) b) + len) + (g (12 + a) j)))], [.inl (((g (12 + i) b) + len) + (g (12 + a) j)), .inl (((g (12 + i) a) + len) + (g (12 + b) j)), .inl (g (12 + i) j), .inl (j : Int), .inr (.inr (some (12 + i)))], (zs g hl))) rfl ?_
      refine zH_np (P := zr (((g (12 + i) a) + len) + (g (12 + b) j)) ∧ zr (((g (12 + i) b) + len) + (g (12 + a) j))) (c' := (149, [some (.inr (.inr (some 3))), some (.inl (a : Int)), some (.inl (b : Int)), some (.inl len), some (.inl (i : Int)), some (.inl (j : Int)), some (.inl (((g (12 + i) a) + len) + (g (12 + b) j))), some (.inl (((g (12 + i) b) + len) + (g (12 + a) j)))], [.inl (if (((g (12 + i) b) + len) + (g (12 + a) j)) < (((g (12 + i) a) + len) + (g (12 + b) j)) then (((g (12 + i) b) + len) + (g (12 + a) j)) else (((g (12 + i) a) + len) + (g (12 + b) j))), .inl (g (12 + i) j), .inl (j : Int), .inr (.inr (some (12 + i)))], (zs g hl))) rfl ⟨(by first | assumption | (unfold zr; omega)), (by first | assumption | (unfold zr; omega))⟩ ?_
      obtain ⟨m_2, em_2, fm_2⟩ := zmin_spec (((g (12 + i) a) + len) + (g (12 + b) j)) (((g (12 + i) b) + len) + (g (12 + a) j))
      rw [em_2]
      refine zH_np (P := zr (g (12 + i) j) ∧ zr m_2) (c' := (152, [some (.inr (.inr (some 3))), some (.inl (a : Int)), some (.inl (b : Int)), some (.inl len), some (.inl (i : Int)), some (.inl (j : Int)), some (.inl (((g (12 + i) a) + len) + (g (12 + b) j))), some (.inl (((g (12 + i) b) + len) + (g (12 + a) j)))], [.inl (if m_2 < (g (12 + i) j) then m_2 else (g (12 + i) j)), .inl (j : Int), .inr (.inr (some (12 + i)))], (zs g hl))) rfl ⟨(by first | assumption | (unfold zr; omega)), (by first | assumption | (unfold zr; omega))⟩ ?_
      obtain ⟨m_3, em_3, fm_3⟩ := zmin_spec (g (12 + i) j) m_2
      rw [em_3]
      refine zH_ias rfl (n := 6) (zsh_11 (by omega)) (by omega) (by omega) ?_
      show zH _ _ (153, [some (.inr (.inr (some 3))), some (.inl (a : Int)), some (.inl (b : Int)), some (.inl len), some (.inl (i : Int)), some (.inl (j : Int)), some (.inl (((g (12 + i) a) + len) + (g (12 + b) j))), some (.inl (((g (12 + i) b) + len) + (g (12 + a) j)))], [], (zs (zup g (12 + i) j m_3) hl)) _
      refine zH_go 2 (c' := (70, [some (.inr (.inr (some 3))), some (.inl (a : Int)), some (.inl (b : Int)), some (.inl len), some (.inl (i : Int)), some (.inl ((j : Int) + 1)), some (.inl (((g (12 + i) a) + len) + (g (12 + b) j))), some (.inl (((g (12 + i) b) + len) + (g (12 + a) j)))], [], (zs (zup g (12 + i) j m_3) hl))) rfl ?_
      exact ih (j + 1) (by omega) (by omega) _ _ _ (zIv_step hM ha hb hlen.1 hi (by omega) hI rfl rfl fm_2 fm_3)
set_option maxRecDepth 100000 in
set_option maxHeartbeats 4000000 in
theorem ar_out {d : Nat} {h hl : Nat → Nat → Int} {a b : Nat} {len : Int} {Post : Option zV → zS → Prop} (hM : zMe h) (hB : zTB h) (ha : a < 6) (hb : b < 6) (hlen : 1 ≤ len ∧ len ≤ 100)
    (hex : ∀ (g : Nat → Nat → Int) (x4 x5 x6 x7 : Option zV), (∀ i j : Nat, i < 6 → j < 6 → g (12 + i) j = zGn h a b len i j) → (∀ c : Nat, (c < 12 ∨ 18 ≤ c) → g c = h c) → zH d 51 (165, [some (.inr (.inr (some 3))), some (.inl (a : Int)), some (.inl (b : Int)), some (.inl len), x4, x5, x6, x7], [], (zs g hl)) Post) : ∀ (k i : Nat), i ≤ 6 → 7 ≤ i + k → ∀ (g : Nat → Nat → Int) (x5 x6 x7 : Option zV), zIv h g a b len i 0 → zH d 51 (60, [some (.inr (.inr (some 3))), some (.inl (a : Int)), some (.inl (b : Int)), some (.inl len), some (.inl (i : Int)), x5, x6, x7], [], (zs g hl)) Post := by
  intro k
  induction k with
  | zero => intro i h1 h2; exact absurd h2 (by omega)
  | succ k ih =>
    intro i hi6 hk g x5 x6 x7 hI
    refine zH_go 2 (c' := (64, [some (.inr (.inr (some 3))), some (.inl (a : Int)), some (.inl (b : Int)), some (.inl len), some (.inl (i : Int)), x5, x6, x7], [.inl 6, .inl (i : Int)], (zs g hl))) rfl ?_
    refine zH_br (x := (i : Int)) (y := 6) (k := .ge) (c1 := (165, [some (.inr (.inr (some 3))), some (.inl (a : Int)), some (.inl (b : Int)), some (.inl len), some (.inl (i : Int)), x5, x6, x7], [], (zs g hl))) (c2 := (67, [some (.inr (.inr (some 3))), some (.inl (a : Int)), some (.inl (b : Int)), some (.inl len), some (.inl (i : Int)), x5, x6, x7], [], (zs g hl))) rfl (by first | assumption | (unfold zr; omega)) ⟨by decide, by decide⟩ (fun (b_1 : ¬ (i : Int) < 6) => ?_) (fun (b_1 : ¬ (¬ (i : Int) < 6)) => ?_)
    · exact hex g _ _ _ _ (fun i' j' hi' hj' => hI.2.1 i' j' hi' hj' (by omega)) hI.2.2
    · refine zH_go 2 (c' := (70, [some (.inr (.inr (some 3))), some (.inl (a : Int)), some (.inl (b : Int)), some (.inl len), some (.inl (i : Int)), some (.inl 0), x6, x7], [], (zs g hl))) rfl ?_
      refine ar_in hM hB ha hb (by omega : i < 6) hlen (fun g x5 x6 x7 hI2 => ?_) 7 0 (by omega) (by omega) g _ _ hI
      show zH _ _ (159, [some (.inr (.inr (some 3))), some (.inl (a : Int)), some (.inl (b : Int)), some (.inl len), some (.inl (i : Int)), x5, x6, x7], [], (zs g hl)) _
      refine zH_go 2 (c' := (60, [some (.inr (.inr (some 3))), some (.inl (a : Int)), some (.inl (b : Int)), some (.inl len), some (.inl ((i : Int) + 1)), x5, x6, x7], [], (zs g hl))) rfl ?_
      exact ih (i + 1) (by omega) (by omega) _ _ _ _ hI2
def zRoadP (h hl : Nat → Nat → Int) (a b : Nat) (len : Int) : Option zV → zS → Prop := fun r σ' => r = some (.inl (h 3 1 + 1)) ∧ ∃ g : Nat → Nat → Int, σ' = zs g hl ∧ (∀ i j : Nat, i < 6 → j < 6 → g (12 + i) j = zGn h a b len i j) ∧ (∀ i j : Nat, i < 6 → j < 6 → g (5 + i) j = if (i = a ∧ j = b) ∨ (i = b ∧ j = a) then min (h (5 + a) b) len else h (5 + i) j) ∧ g 3 0 = h 3 0 ∧ g 3 1 = h 3 1 + 1 ∧ (∀ c : Nat, (c < 3 ∨ 18 ≤ c) → g c = h c)
set_option maxRecDepth 100000 in
set_option maxHeartbeats 4000000 in
theorem p_addRoad {d : Nat} {h hl : Nat → Nat → Int} {a b : Nat} {len : Int} (ha : a < 6) (hb : b < 6) (ha2 : (a : Int) < h 3 0) (hb2 : (b : Int) < h 3 0) (hlen : 1 ≤ len ∧ len ≤ 100) (hP : 0 ≤ h 3 0 ∧ h 3 0 ≤ 6) (hM : zMe h) (hB : zTB h) : zQ (d + 2) 51 [.inr (.inr (some 3)), .inl (a : Int), .inl (b : Int), .inl len] (zs h hl) (zRoadP h hl a b len) := by
  have c_ab := hB a b ha hb
  refine zQ_of (Nat.le_of_ble_eq_true rfl) ?_
  show zH (d + 1) 51 (0, [some (.inr (.inr (some 3))), some (.inl (a : Int)), some (.inl (b : Int)), some (.inl len), none, none, none, none], [], (zs h hl)) _
  refine zH_go 2 (c' := (2, [some (.inr (.inr (some 3))), some (.inl (a : Int)), some (.inl (b : Int)), some (.inl len), none, none, none, none], [.inl (a : Int), .inr (.inr (some 3))], (zs h hl))) rfl ?_
  refine zH_call (M' := 48) (as := [.inr (.inr (some 3)), .inl (a : Int)]) (T := []) rfl (p_has (by first | assumption | (unfold zr; omega)) hP) (fun r σ' p_1 => ?_)
  rcases p_1 with ⟨rfl, b_2, rfl⟩ | ⟨rfl, b_2, rfl⟩
  · show zH _ _ (5, [some (.inr (.inr (some 3))), some (.inl (a : Int)), some (.inl (b : Int)), some (.inl len), none, none, none, none], [.inl 1], (zs h hl)) _
    refine zH_bf (x := 1) (y := 0) (k := .eq) (c1 := (16, [some (.inr (.inr (some 3))), some (.inl (a : Int)), some (.inl (b : Int)), some (.inl len), none, none, none, none], [], (zs h hl))) (c2 := (8, [some (.inr (.inr (some 3))), some (.inl (a : Int)), some (.inl (b : Int)), some (.inl len), none, none, none, none], [], (zs h hl))) rfl ⟨by decide, by decide⟩ ⟨by decide, by decide⟩ (by show ¬ (1 = 0); decide) ?_
    refine zH_go 2 (c' := (10, [some (.inr (.inr (some 3))), some (.inl (a : Int)), some (.inl (b : Int)), some (.inl len), none, none, none, none], [.inl (b : Int), .inr (.inr (some 3))], (zs h hl))) rfl ?_
    refine zH_call (M' := 48) (as := [.inr (.inr (some 3)), .inl (b : Int)]) (T := []) rfl (p_has (by first | assumption | (unfold zr; omega)) hP) (fun r σ' p_3 => ?_)
    rcases p_3 with ⟨rfl, b_4, rfl⟩ | ⟨rfl, b_4, rfl⟩
    · show zH _ _ (13, [some (.inr (.inr (some 3))), some (.inl (a : Int)), some (.inl (b : Int)), some (.inl len), none, none, none, none], [.inl 1], (zs h hl)) _
      refine zH_bt (x := 1) (y := 0) (k := .ne) (c1 := (21, [some (.inr (.inr (some 3))), some (.inl (a : Int)), some (.inl (b : Int)), some (.inl len), none, none, none, none], [], (zs h hl))) (c2 := (16, [some (.inr (.inr (some 3))), some (.inl (a : Int)), some (.inl (b : Int)), some (.inl len), none, none, none, none], [], (zs h hl))) rfl ⟨by decide, by decide⟩ ⟨by decide, by decide⟩ (by show ¬ 1 = 0; decide) ?_
      refine zH_go 3 (c' := (26, [some (.inr (.inr (some 3))), some (.inl (a : Int)), some (.inl (b : Int)), some (.inl len), none, none, none, none], [.inl (a : Int), .inr (.inr (some 4))], (zs h hl))) rfl ?_
      refine zH_aal (A := 4) (n := 6) (b := 5 + a) rfl rfl (by omega) (by omega) (zhr_4 (by omega)) ?_
      show zH _ _ (27, [some (.inr (.inr (some 3))), some (.inl (a : Int)), some (.inl (b : Int)), some (.inl len), none, none, none, none], [.inr (.inr (some (5 + a)))], (zs h hl)) _
      refine zH_go 4 (c' := (33, [some (.inr (.inr (some 3))), some (.inl (a : Int)), some (.inl (b : Int)), some (.inl len), none, none, none, none], [.inl (a : Int), .inr (.inr (some 4)), .inl (b : Int), .inr (.inr (some (5 + a)))], (zs h hl))) rfl ?_
      refine zH_aal (A := 4) (n := 6) (b := 5 + a) rfl rfl (by omega) (by omega) (zhr_4 (by omega)) ?_
      show zH _ _ (34, [some (.inr (.inr (some 3))), some (.inl (a : Int)), some (.inl (b : Int)), some (.inl len), none, none, none, none], [.inr (.inr (some (5 + a))), .inl (b : Int), .inr (.inr (some (5 + a)))], (zs h hl)) _
      refine zH_go 1 (c' := (35, [some (.inr (.inr (some 3))), some (.inl (a : Int)), some (.inl (b : Int)), some (.inl len), none, none, none, none], [.inl (b : Int), .inr (.inr (some (5 + a))), .inl (b : Int), .inr (.inr (some (5 + a)))], (zs h hl))) rfl ?_
      refine zH_ial rfl (n := 6) (zsh_4 (by omega)) (by omega) (by omega) ?_
      show zH _ _ (36, [some (.inr (.inr (some 3))), some (.inl (a : Int)), some (.inl (b : Int)), some (.inl len), none, none, none, none], [.inl (h (5 + a) b), .inl (b : Int), .inr (.inr (some (5 + a)))], (zs h hl)) _
      refine zH_go 1 (c' := (37, [some (.inr (.inr (some 3))), some (.inl (a : Int)), some (.inl (b : Int)), some (.inl len), none, none, none, none], [.inl len, .inl (h (5 + a) b), .inl (b : Int), .inr (.inr (some (5 + a)))], (zs h hl))) rfl ?_
      refine zH_np (P := zr (h (5 + a) b) ∧ zr len) (c' := (40, [some (.inr (.inr (some 3))), some (.inl (a : Int)), some (.inl (b : Int)), some (.inl len), none, none, none, none], [.inl (if len < (h (5 + a) b) then len else (h (5 + a) b)), .inl (b : Int), .inr (.inr (some (5 + a)))], (zs h hl))) rfl ⟨(by first | assumption | (unfold zr; omega)), (by first | assumption | (unfold zr; omega))⟩ ?_
      obtain ⟨m_5, em_5, fm_5⟩ := zmin_spec (h (5 + a) b) len
      rw [em_5]
      refine zH_ias rfl (n := 6) (zsh_4 (by omega)) (by omega) (by omega) ?_
      show zH _ _ (41, [some (.inr (.inr (some 3))), some (.inl (a : Int)), some (.inl (b : Int)), some (.inl len), none, none, none, none], [], (zs (zup h (5 + a) b m_5) hl)) _
      refine zH_go 3 (c' := (46, [some (.inr (.inr (some 3))), some (.inl (a : Int)), some (.inl (b : Int)), some (.inl len), none, none, none, none], [.inl (b : Int), .inr (.inr (some 4))], (zs (zup h (5 + a) b m_5) hl))) rfl ?_
      refine zH_aal (A := 4) (n := 6) (b := 5 + b) rfl rfl (by omega) (by omega) (zhr_4 (by omega)) ?_
      show zH _ _ (47, [some (.inr (.inr (some 3))), some (.inl (a : Int)), some (.inl (b : Int)), some (.inl len), none, none, none, none], [.inr (.inr (some (5 + b)))], (zs (zup h (5 + a) b m_5) hl)) _
      refine zH_go 4 (c' := (53, [some (.inr (.inr (some 3))), some (.inl (a : Int)), some (.inl (b : Int)), some (.inl len), none, none, none, none], [.inl (a : Int), .inr (.inr (some 4)), .inl (a : Int), .inr (.inr (some (5 + b)))], (zs (zup h (5 + a) b m_5) hl))) rfl ?_
      refine zH_aal (A := 4) (n := 6) (b := 5 + a) rfl rfl (by omega) (by omega) (zhr_4 (by omega)) ?_
      show zH _ _ (54, [some (.inr (.inr (some 3))), some (.inl (a : Int)), some (.inl (b : Int)), some (.inl len), none, none, none, none], [.inr (.inr (some (5 + a))), .inl (a : Int), .inr (.inr (some (5 + b)))], (zs (zup h (5 + a) b m_5) hl)) _
      refine zH_go 1 (c' := (55, [some (.inr (.inr (some 3))), some (.inl (a : Int)), some (.inl (b : Int)), some (.inl len), none, none, none, none], [.inl (b : Int), .inr (.inr (some (5 + a))), .inl (a : Int), .inr (.inr (some (5 + b)))], (zs (zup h (5 + a) b m_5) hl))) rfl ?_
      refine zH_ial rfl (n := 6) (zsh_4 (by omega)) (by omega) (by omega) ?_
      show zH _ _ (56, [some (.inr (.inr (some 3))), some (.inl (a : Int)), some (.inl (b : Int)), some (.inl len), none, none, none, none], [.inl ((zup h (5 + a) b m_5) (5 + a) b), .inl (a : Int), .inr (.inr (some (5 + b)))], (zs (zup h (5 + a) b m_5) hl)) _
      rw [show ((zup h (5 + a) b m_5) (5 + a) b) = m_5 from zup_eq]
      refine zH_ias rfl (n := 6) (zsh_4 (by omega)) (by omega) (by omega) ?_
      show zH _ _ (57, [some (.inr (.inr (some 3))), some (.inl (a : Int)), some (.inl (b : Int)), some (.inl len), none, none, none, none], [], (zs (zup (zup h (5 + a) b m_5) (5 + b) a m_5) hl)) _
      refine zH_go 2 (c' := (60, [some (.inr (.inr (some 3))), some (.inl (a : Int)), some (.inl (b : Int)), some (.inl len), some (.inl 0), none, none, none], [], (zs (zup (zup h (5 + a) b m_5) (5 + b) a m_5) hl))) rfl ?_
      obtain ⟨g, hg⟩ : ∃ g, g = (zup (zup h (5 + a) b m_5) (5 + b) a m_5) := ⟨_, rfl⟩
      have hg1 : ∀ i j : Nat, i < 6 → g (12 + i) j = h (12 + i) j := fun i j hi => by rw [hg, zup_ne (by omega), zup_ne (by omega)]
      have hg3 : g 3 = h 3 := by rw [hg]; funext k; rw [zup_ne (by omega), zup_ne (by omega)]
      have hg4 : ∀ c : Nat, (c < 5 ∨ 11 ≤ c) → g c = h c := fun c hc => by rw [hg]; funext k; rw [zup_ne (by omega), zup_ne (by omega)]
      have hg2 : ∀ i j : Nat, i < 6 → j < 6 → g (5 + i) j = if (i = a ∧ j = b) ∨ (i = b ∧ j = a) then min (h (5 + a) b) len else h (5 + i) j := fun i j hi hj => by
        have hmin : m_5 = min (h (5 + a) b) len := by omega
        rw [hg, hmin]
        by_cases z1 : i = b ∧ j = a
        · rw [z1.1, z1.2, zup_eq, if_pos (Or.inr ⟨rfl, rfl⟩)]
        · rw [zup_ne2 (by omega)]
          by_cases z2 : i = a ∧ j = b
          · rw [z2.1, z2.2, zup_eq, if_pos (Or.inl ⟨rfl, rfl⟩)]
          · rw [zup_ne2 (by omega), if_neg (by omega)]
      have hMg : zMe g := ⟨fun i hi => (hg1 i i hi).trans (hM.1 i hi), fun i j hi hj => by rw [hg1 i j hi, hg1 j i hj]; exact hM.2.1 i j hi hj, fun i j k hi hj hk => by rw [hg1 i k hi, hg1 i j hi, hg1 j k hj]; exact hM.2.2 i j k hi hj hk⟩
      have hBg : zTB g := fun i j hi hj => by
        have q := hB i j hi hj
        have q2 := hB a b ha hb
        have q3 := hg2 i j hi hj
        rw [hg1 i j hi]
        by_cases z1 : (i = a ∧ j = b) ∨ (i = b ∧ j = a)
        · rw [if_pos z1] at q3; omega
        · rw [if_neg z1] at q3; omega
      rw [← hg]
      refine ar_out hMg hBg ha hb hlen (fun g2 x4 x5 x6 x7 q1 q2 => ?_) 7 0 (by omega) (by omega) g _ _ _ ⟨fun i j hi hj => ⟨(zGn_b hBg ha hb hlen.1 hi hj).2, Int.le_refl _⟩, fun i j hi hj hlt => by omega, fun c hc => rfl⟩
      show zH _ _ (165, [some (.inr (.inr (some 3))), some (.inl (a : Int)), some (.inl (b : Int)), some (.inl len), x4, x5, x6, x7], [], (zs g2 hl)) _
      refine zH_go 8 (c' := (179, [some (.inr (.inr (some 3))), some (.inl (a : Int)), some (.inl (b : Int)), some (.inl len), x4, x5, x6, x7], [.inl ((g2 3 1) + 1)], (zs (zup g2 3 1 ((g2 3 1) + 1)) hl))) rfl ?_
      refine zH_ret (v := some (.inl ((g2 3 1) + 1))) rfl (fun q => absurd q (by decide)) ?_
      refine ⟨congrArg (fun z => some (Sum.inl z)) ?_, _, rfl, fun i j hi hj => ?_, fun i j hi hj => ?_, ?_, ?_, fun c hc => ?_⟩
      · rw [q2 3 (by omega), hg3]
      · rw [zup_ne (by omega), q1 i j hi hj]
        unfold zGn
        rw [hg1 i j hi, hg1 i a hi, hg1 b j hb, hg1 i b hi, hg1 a j ha]
      · rw [zup_ne (by omega), q2 (5 + i) (by omega)]
        exact hg2 i j hi hj
      · rw [zup_k (by decide), q2 3 (by omega), hg3]
      · rw [zup_eq, q2 3 (by omega), hg3]
      · rw [← hg4 c (by omega), ← q2 c (by omega)]
        funext k
        exact zup_ne (by omega)
    · show zH _ _ (13, [some (.inr (.inr (some 3))), some (.inl (a : Int)), some (.inl (b : Int)), some (.inl len), none, none, none, none], [.inl 0], (zs h hl)) _
      refine zH_bf (x := 0) (y := 0) (k := .ne) (c1 := (21, [some (.inr (.inr (some 3))), some (.inl (a : Int)), some (.inl (b : Int)), some (.inl len), none, none, none, none], [], (zs h hl))) (c2 := (16, [some (.inr (.inr (some 3))), some (.inl (a : Int)), some (.inl (b : Int)), some (.inl len), none, none, none, none], [], (zs h hl))) rfl ⟨by decide, by decide⟩ ⟨by decide, by decide⟩ (by show ¬ (¬ 0 = 0); decide) ?_
      refine zH_go 2 (c' := (20, [some (.inr (.inr (some 3))), some (.inl (a : Int)), some (.inl (b : Int)), some (.inl len), none, none, none, none], [.inl (h 3 1)], (zs h hl))) rfl ?_
      exfalso
      omega
  · show zH _ _ (5, [some (.inr (.inr (some 3))), some (.inl (a : Int)), some (.inl (b : Int)), some (.inl len), none, none, none, none], [.inl 0], (zs h hl)) _
    refine zH_bt (x := 0) (y := 0) (k := .eq) (c1 := (16, [some (.inr (.inr (some 3))), some (.inl (a : Int)), some (.inl (b : Int)), some (.inl len), none, none, none, none], [], (zs h hl))) (c2 := (8, [some (.inr (.inr (some 3))), some (.inl (a : Int)), some (.inl (b : Int)), some (.inl len), none, none, none, none], [], (zs h hl))) rfl ⟨by decide, by decide⟩ ⟨by decide, by decide⟩ (by show 0 = 0; decide) ?_
    refine zH_go 2 (c' := (20, [some (.inr (.inr (some 3))), some (.inl (a : Int)), some (.inl (b : Int)), some (.inl len), none, none, none, none], [.inl (h 3 1)], (zs h hl))) rfl ?_
    exfalso
    omega
