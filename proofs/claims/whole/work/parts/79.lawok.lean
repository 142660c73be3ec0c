/-! The law holds for every script. -/
theorem zLi_init {h hl : Nat → Nat → Int} (f : ∀ q : Nat × Nat × Int, q ∈ zkI → h q.1 q.2.1 = q.2.2) (g1 : ∀ i : Nat, i < 6 → ∀ j : Nat, j < 6 → h (12 + i) j = if i = j then 0 else 1000000) (g2 : ∀ i : Nat, i < 6 → ∀ j : Nat, j < 6 → h (5 + i) j = 1000000) (g38 : ∀ j : Nat, j < 13 → h 38 j = 0) (g56 : ∀ j : Nat, j < 4 → h 56 j = 0) (z84 : ∀ j : Nat, j < 4 → h 84 j = 0) (z91 : ∀ j : Nat, j < 4 → h 91 j = 0) (z98 : ∀ j : Nat, j < 4 → h 98 j = 0) (b119 : ∀ j : Nat, j < 12 → h 119 j = 0) (b120 : ∀ j : Nat, j < 12 → h 120 j = 0) (b121 : ∀ j : Nat, j < 12 → h 121 j = 0) (b122 : ∀ j : Nat, j < 12 → h 122 j = 0) (t81 : hl 81 0 = 0) (t104 : hl 104 2 = 0) (c123 : ∀ j : Nat, j < 96 → hl 123 j = 0) (n86 : ∀ q : Nat, q < 4 → ∀ i : Nat, i < 8 → hl (86 + q) i = 0) (n93 : ∀ q : Nat, q < 4 → ∀ i : Nat, i < 8 → hl (93 + q) i = 0) (n100 : ∀ q : Nat, q < 4 → ∀ i : Nat, i < 8 → hl (100 + q) i = 0) (od : zOr h) : zLi (h 1) (hl 1) 0 0 0 h hl := by
  have f30 : h 3 0 = 0 := f (3, 0, 0) (by decide)
  have f31 : h 3 1 = 0 := f (3, 1, 0) (by decide)
  have m3 : h 104 3 = 0 := f (104, 3, 0) (by decide)
  have m4 : h 104 4 = 0 := f (104, 4, 0) (by decide)
  have f27 : h 2 7 = 0 := f (2, 7, 0) (by decide)
  have m11 : h 104 11 = 0 := f (104, 11, 0) (by decide)
  have f28 : h 2 8 = 0 := f (2, 8, 0) (by decide)
  have m1 : h 104 1 = 0 := f (104, 1, 0) (by decide)
  have f213 : h 21 3 = 0 := f (21, 3, 0) (by decide)
  have f214 : h 21 4 = 0 := f (21, 4, 0) (by decide)
  have m9 : h 104 9 = 0 := f (104, 9, 0) (by decide)
  have m15 : h 104 15 = 0 := f (104, 15, 0) (by decide)
  have gd : ∀ i : Nat, i < 6 → h (12 + i) i = 0 := fun i hi => by rw [g1 i hi i hi, if_pos rfl]
  have go : ∀ i j : Nat, i < 6 → j < 6 → i ≠ j → h (12 + i) j = 1000000 := fun i j hi hj q => by rw [g1 i hi j hj, if_neg q]
  have gb : ∀ i j : Nat, i < 6 → j < 6 → 0 ≤ h (12 + i) j ∧ h (12 + i) j ≤ 1000000 ∧ (h (12 + i) j < 1000000 → i = j) := fun i j hi hj => by
    by_cases q : i = j
    · subst q; rw [gd i hi]; exact ⟨by decide, by decide, fun _ => rfl⟩
    · rw [go i j hi hj q]; exact ⟨by decide, by decide, fun z => absurd z (by decide)⟩
  have tw : zTown h 0 0 := by
    refine ⟨by decide, by decide, f30, f31, m3, m4, ⟨gd, fun i j hi hj => ?_, fun i j k hi hj hk => ?_⟩, fun i j hi hj => ?_, fun i j hi hj hq => ?_, fun i j hi hj q => by rw [go i j hi hj q]; decide, fun k hk => absurd hk (Nat.not_lt_zero k), ⟨fun k hk => absurd hk (Nat.not_lt_zero k), fun i j hi hj hq => by rw [g2 i hi j hj] at hq; exact absurd hq (by decide)⟩, fun D t d b e i j hi hj => ?_⟩
    · by_cases q : i = j
      · rw [q]
      · rw [go i j hi hj q, go j i hj hi (fun z => q z.symm)]
    · by_cases q : i = k
      · have := (gb i j hi hj).1
        have := (gb j k hj hk).1
        rw [q, gd k hk] at *
        omega
      · rw [go i k hi hk q]
        by_cases q2 : i = j
        · have : h (12 + j) k = 1000000 := go j k hj hk (fun z => q (q2.trans z))
          have := (gb i j hi hj).1
          omega
        · have := go i j hi hj q2
          have := (gb j k hj hk).1
          omega
    · have := gb i j hi hj
      rw [g2 i hi j hj]
      exact ⟨this.1, this.2.1, by decide, by decide⟩
    · have e := (gb i j hi hj).2.2 hq
      subst e
      rw [gd i hi]
      have w : zw1 h i i = 1 := by unfold zw1; rw [if_pos hq]
      have b0 := (zw1_b h i 0).1
      have b1 := (zw1_b h i 1).1
      have b2 := (zw1_b h i 2).1
      have b3 := (zw1_b h i 3).1
      have b4 := (zw1_b h i 4).1
      have b5 := (zw1_b h i 5).1
      unfold zct
      rcases (show i = 0 ∨ i = 1 ∨ i = 2 ∨ i = 3 ∨ i = 4 ∨ i = 5 by omega) with rfl | rfl | rfl | rfl | rfl | rfl <;> omega
    · by_cases q : i = j
      · subst q; rw [gd i hi]; exact d i hi
      · rw [go i j hi hj q]; exact b i j hi hj
  have bk : ∀ b B Z N : Nat, b < 3 → h B 0 = 0 → h B 1 = -1 → (∀ j : Nat, j < 4 → h Z j = 0) → (∀ q : Nat, q < 4 → ∀ i : Nat, i < 8 → hl (N + q) i = 0) → zBkR h hl b B Z N := fun b B Z N hb e0 e1 ez en => by
    have c119 := b119 b (by omega)
    have c120 := b120 b (by omega)
    have c121 := b121 b (by omega)
    refine ⟨Or.inl c119, ⟨fun _ => by omega, fun _ => c119⟩, by omega, by omega, by omega, by omega, fun q => by omega, fun q hq => Or.inr ?_, fun q i hq hi => ?_⟩
    · rw [ez q hq, b122 _ (by omega)]; exact ⟨by decide, by decide, rfl⟩
    · rw [c123 _ (by omega), en q hq i hi]; exact ⟨rfl, by decide, by decide⟩
  exact ⟨rfl, rfl, tw, od, fun j hj => by rw [g38 j hj]; exact ⟨by decide, by decide⟩, fun j hj => by rw [g56 j hj]; exact ⟨by decide, by decide⟩, by omega, by omega, by rw [f28]; exact ⟨by decide, by decide⟩, by omega, by omega, by omega, bk 0 83 84 86 (by decide) (f (83, 0, 0) (by decide)) (f (83, 1, -1) (by decide)) z84 n86, bk 1 90 91 93 (by decide) (f (90, 0, 0) (by decide)) (f (90, 1, -1) (by decide)) z91 n93, bk 2 97 98 100 (by decide) (f (97, 0, 0) (by decide)) (f (97, 1, -1) (by decide)) z98 n100, Or.inl ⟨f213, f214, m9, m15⟩⟩
theorem zRng_ok {n : Nat} {f : Nat → Bool} (h : zRng n f = true) : ∀ j : Nat, j < n → f j = true := fun j hj => List.all_eq_true.mp h j (List.mem_range.mpr hj)
theorem zRng_d {n : Nat} {P : Nat → Prop} [∀ j, Decidable (P j)] (h : zRng n (fun j => decide (P j)) = true) : ∀ j : Nat, j < n → P j := fun j hj => of_decide_eq_true (zRng_ok h j hj)
theorem zRng_d2 {n m : Nat} {P : Nat → Nat → Prop} [∀ i j, Decidable (P i j)] (h : zRng n (fun i => zRng m (fun j => decide (P i j))) = true) : ∀ i : Nat, i < n → ∀ j : Nat, j < m → P i j := fun i hi j hj => of_decide_eq_true (zRng_ok (zRng_ok h i hi) j hj)
theorem zf3_ok {h : Nat → Nat → Int} : ∀ l : List (Nat × Nat × Int), zf3 h l = true → ∀ q : Nat × Nat × Int, q ∈ l → h q.1 q.2.1 = q.2.2 := by
  intro l
  induction l with
  | nil => intro _ q hq; cases hq
  | cons a l ih =>
    intro e q hq
    have e2 := (Bool.and_eq_true _ _).mp e
    rcases List.mem_cons.mp hq with rfl | hq
    · exact of_decide_eq_true e2.1
    · exact ih e2.2 q hq
theorem zgo0_get : ∃ c : zC, zxp (zxD 9) 153 16 100 zc00 = some c ∧ zckAll c = true := by
  have h := zgo0_ok
  unfold zgo0 at h
  split at h
  · rename_i c e
    exact ⟨c, e, h⟩
  · cases h
theorem zlaw_ok : zLawOk := by
  intro xs L hL hx
  obtain ⟨c, e, k⟩ := zgo0_get
  obtain ⟨pc, Lo, S, σ⟩ := c
  unfold zckAll at k
  dsimp only at k
  obtain ⟨k1, k⟩ := (Bool.and_eq_true _ _).mp k
  obtain ⟨k2, k⟩ := (Bool.and_eq_true _ _).mp k
  obtain ⟨k3, k⟩ := (Bool.and_eq_true _ _).mp k
  obtain ⟨k4, k⟩ := (Bool.and_eq_true _ _).mp k
  obtain ⟨k5, k⟩ := (Bool.and_eq_true _ _).mp k
  obtain ⟨k6, k⟩ := (Bool.and_eq_true _ _).mp k
  obtain ⟨k7, k⟩ := (Bool.and_eq_true _ _).mp k
  obtain ⟨k8, k⟩ := (Bool.and_eq_true _ _).mp k
  obtain ⟨k9, k⟩ := (Bool.and_eq_true _ _).mp k
  obtain ⟨k10, k⟩ := (Bool.and_eq_true _ _).mp k
  obtain ⟨k11, k⟩ := (Bool.and_eq_true _ _).mp k
  obtain ⟨k12, k⟩ := (Bool.and_eq_true _ _).mp k
  obtain ⟨k13, k⟩ := (Bool.and_eq_true _ _).mp k
  obtain ⟨k14, k⟩ := (Bool.and_eq_true _ _).mp k
  obtain ⟨k15, k⟩ := (Bool.and_eq_true _ _).mp k
  obtain ⟨k16, k⟩ := (Bool.and_eq_true _ _).mp k
  obtain ⟨k17, k⟩ := (Bool.and_eq_true _ _).mp k
  obtain ⟨k18, k⟩ := (Bool.and_eq_true _ _).mp k
  obtain ⟨k19, k⟩ := (Bool.and_eq_true _ _).mp k
  obtain ⟨k20, k⟩ := (Bool.and_eq_true _ _).mp k
  obtain ⟨k21, k⟩ := (Bool.and_eq_true _ _).mp k
  obtain ⟨k22, k⟩ := (Bool.and_eq_true _ _).mp k
  obtain ⟨k23, k24⟩ := (Bool.and_eq_true _ _).mp k
  have j1 : pc = 16 := of_decide_eq_true k1
  have j2 : Lo = [some (.inr (.inr (some 1))), some (.inr (.inr (some 2))), some (.inr (.inr (some 104))), none] := of_decide_eq_true k2
  have j3 : S = [] := of_decide_eq_true k3
  have j4 : σ.1 = 127 := of_decide_eq_true k4
  have j5 : σ.2.1 = zZ := of_decide_eq_true k5
  subst j1
  subst j2
  subst j3
  have hI0 : zRfs zc00.2.2.2 := fun a k _ => rfl
  have hp := zxp_ok (F := zExt xs) (G := fun a k => if a = 1 then (if k = 0 then (L : Int) else 0) else 0) (fun M as σ r σ' => zxD_ok 9 M as σ r σ') 100 zc00 _ e hI0
  have hrf : zRfs σ := hp.2
  have hhr : σ.2.2.2.2 = zHR := by
    funext a k
    by_cases q : a < 127 ∧ k < 64
    · exact zRng_d2 k6 a q.1 k q.2
    · rw [hrf a k (by omega)]
      by_cases q2 : a < 127
      · exact (zHR_k a k (by omega)).symm
      · exact (zHR_a a k (by omega)).symm
  have emix : zmix (zExt xs) (fun a k => if a = 1 then (if k = 0 then (L : Int) else 0) else 0) σ = zs (fun a => if a < 2 then zExt xs a else σ.2.2.1 a) (fun a => if a < 2 then (fun k => if a = 1 then (if k = 0 then (L : Int) else 0) else 0) else σ.2.2.2.1 a) := by
    unfold zmix zs
    rw [j4, j5, hhr]
  have hm : ∀ a : Nat, 2 ≤ a → (fun a => if a < 2 then zExt xs a else σ.2.2.1 a) a = σ.2.2.1 a := fun a ha => if_neg (by omega)
  have hml : ∀ a : Nat, 2 ≤ a → (fun a => if a < 2 then (fun k => if a = 1 then (if k = 0 then (L : Int) else 0) else 0) else σ.2.2.2.1 a) a = σ.2.2.2.1 a := fun a ha => if_neg (by omega)
  obtain ⟨h0, eh0⟩ : ∃ h0 : Nat → Nat → Int, h0 = (fun a => if a < 2 then zExt xs a else σ.2.2.1 a) := ⟨_, rfl⟩
  obtain ⟨hl0, ehl0⟩ : ∃ hl0 : Nat → Nat → Int, hl0 = (fun a => if a < 2 then (fun k => if a = 1 then (if k = 0 then (L : Int) else 0) else 0) else σ.2.2.2.1 a) := ⟨_, rfl⟩
  rw [← eh0, ← ehl0] at emix
  rw [← eh0] at hm
  rw [← ehl0] at hml
  have hli : zLi (h0 1) (hl0 1) 0 0 0 h0 hl0 := zLi_init (fun q hq => by
      have a := zf3_ok zkI k7 q hq
      have b : 2 ≤ q.1 := (by decide : ∀ q ∈ zkI, 2 ≤ q.1) q hq
      rw [hm q.1 b]
      exact a) (fun i hi j hj => by rw [hm _ (by omega)]; exact zRng_d2 k8 i hi j hj) (fun i hi j hj => by rw [hm _ (by omega)]; exact zRng_d2 k9 i hi j hj) (fun j hj => by rw [hm _ (by decide)]; exact zRng_d k10 j hj) (fun j hj => by rw [hm _ (by decide)]; exact zRng_d k11 j hj) (fun j hj => by rw [hm _ (by decide)]; exact zRng_d k12 j hj) (fun j hj => by rw [hm _ (by decide)]; exact zRng_d k13 j hj) (fun j hj => by rw [hm _ (by decide)]; exact zRng_d k14 j hj) (fun j hj => by rw [hm _ (by decide)]; exact zRng_d k15 j hj) (fun j hj => by rw [hm _ (by decide)]; exact zRng_d k16 j hj) (fun j hj => by rw [hm _ (by decide)]; exact zRng_d k17 j hj) (fun j hj => by rw [hm _ (by decide)]; exact zRng_d k18 j hj) (by rw [hml _ (by decide)]; exact of_decide_eq_true k19) (by rw [hml _ (by decide)]; exact of_decide_eq_true k20) (fun j hj => by rw [hml _ (by decide)]; exact zRng_d k21 j hj) (fun q hq i hi => by rw [hml _ (by omega)]; exact zRng_d2 k22 q hq i hi) (fun q hq i hi => by rw [hml _ (by omega)]; exact zRng_d2 k23 q hq i hi) (fun q hq i hi => by rw [hml _ (by omega)]; exact zRng_d2 k24 q hq i hi) (fun k hk => by rw [eh0]; rfl)
  have hloop := p_lawloop (X := h0 1) (XL := hl0 1) (Ls := L) hL (fun i => by rw [eh0]; exact hx i) (by rw [ehl0]; rfl) hli
  obtain ⟨n, ρ, τ, h1, rfl, h3, h4⟩ := hloop
  rw [← emix] at h1
  obtain ⟨m2, q⟩ := hp.1 n _ τ h1
  have ez : zmc (zExt xs) (fun a k => if a = 1 then (if k = 0 then (L : Int) else 0) else 0) zc00 = (0, zent 153 [.inr (.inr (some 1))], [], zS0 xs L) := by
    have e1 : (fun a => if a < 2 then zExt xs a else zExt (fun _ => 0) a) = zExt xs := by
      funext a k
      by_cases w : a < 2
      · rw [if_pos w]
      · rw [if_neg w]
        unfold zExt
        rw [if_neg (by omega), if_neg (by omega), if_neg (by omega), if_neg (by omega)]
    have e2 : (fun a => if a < 2 then (fun k => if a = 1 then (if k = 0 then (L : Int) else 0) else 0) else (fun k => if a = 1 then (if k = 0 then ((0 : Nat) : Int) else 0) else 0)) = (fun a k => if a = 1 then (if k = 0 then (L : Int) else 0) else 0) := by
      funext a k
      by_cases w : a < 2
      · rw [if_pos w]
      · rw [if_neg w]
        rw [if_neg (by omega), if_neg (by omega)]
    show (0, _, [], (2, 0, (fun a => if a < 2 then zExt xs a else zExt (fun _ => 0) a), (fun a => if a < 2 then (fun k => if a = 1 then (if k = 0 then (L : Int) else 0) else 0) else (fun k => if a = 1 then (if k = 0 then ((0 : Nat) : Int) else 0) else 0)), fun _ _ => none)) = _
    rw [e1, e2]
    rfl
  rw [ez] at q
  exact ⟨m2, τ, q, by omega, by rw [h4]; decide⟩
