/-! The model: the next place of a way. -/
/-- a ROAD from a to y that lies on a way to b -/
def zMt (h : Nat → Nat → Int) (a b k y : Nat) : Prop := ((h 105 k = (a : Int) ∧ h 106 k = (y : Int)) ∨ (h 106 k = (a : Int) ∧ h 105 k = (y : Int))) ∧ h 107 k + zFa h y b = zFa h a b
def zWy (h : Nat → Nat → Int) (a b k : Nat) (f : Int) : Prop := (f = -9 ∧ ∀ k' : Nat, k' < k → ∀ y : Nat, y < 6 → ¬ zMt h a b k' y) ∨ ∃ y : Nat, y < 6 ∧ f = (y : Int) ∧ (∃ k' : Nat, k' < k ∧ zMt h a b k' y) ∧ ∀ k' : Nat, k' < k → ∀ y' : Nat, y' < 6 → zMt h a b k' y' → y ≤ y'
def zSd1 (f x y len a d e m : Int) : Prop := ((x = a ∧ len + d = e) ∧ (f = -9 ∨ y < f) ∧ m = y) ∨ (¬ ((x = a ∧ len + d = e) ∧ (f = -9 ∨ y < f)) ∧ m = f)
theorem zWy_hit {h : Nat → Nat → Int} {a b k Y : Nat} {f m : Int} (hI : zWy h a b k f) (hY : Y < 6) (h1 : zMt h a b k Y) (h2 : ∀ y : Nat, zMt h a b k y → y = Y) (hm : ((f = -9 ∨ (Y : Int) < f) ∧ m = (Y : Int)) ∨ (¬ (f = -9 ∨ (Y : Int) < f) ∧ m = f)) : zWy h a b (k + 1) m := by
  rcases hI with ⟨q1, q2⟩ | ⟨y, q1, q2, ⟨k0, q3, q4⟩, q5⟩
  · refine Or.inr ⟨Y, hY, by omega, ⟨k, by omega, h1⟩, fun k' hk y' hy' w => ?_⟩
    by_cases z : k' = k
    · rw [z] at w
      have := h2 y' w
      omega
    · exact absurd w (q2 k' (by omega) y' hy')
  · by_cases z : (Y : Int) < f
    · refine Or.inr ⟨Y, hY, by omega, ⟨k, by omega, h1⟩, fun k' hk y' hy' w => ?_⟩
      by_cases z2 : k' = k
      · rw [z2] at w
        have := h2 y' w
        omega
      · have := q5 k' (by omega) y' hy' w
        omega
    · refine Or.inr ⟨y, q1, by omega, ⟨k0, by omega, q4⟩, fun k' hk y' hy' w => ?_⟩
      by_cases z2 : k' = k
      · rw [z2] at w
        have := h2 y' w
        omega
      · exact q5 k' (by omega) y' hy' w
theorem zWy_miss {h : Nat → Nat → Int} {a b k : Nat} {f : Int} (hI : zWy h a b k f) (h2 : ∀ y : Nat, ¬ zMt h a b k y) : zWy h a b (k + 1) f := by
  rcases hI with ⟨q1, q2⟩ | ⟨y, q1, q2, ⟨k0, q3, q4⟩, q5⟩
  · refine Or.inl ⟨q1, fun k' hk y' hy' w => ?_⟩
    by_cases z : k' = k
    · rw [z] at w
      exact h2 y' w
    · exact absurd w (q2 k' (by omega) y' hy')
  · refine Or.inr ⟨y, q1, q2, ⟨k0, by omega, q4⟩, fun k' hk y' hy' w => ?_⟩
    by_cases z2 : k' = k
    · rw [z2] at w
      exact absurd w (h2 y')
    · exact q5 k' (by omega) y' hy' w
theorem zWy_step {h : Nat → Nat → Int} {a b k A B : Nat} {f m1 m2 : Int} (hA : h 105 k = (A : Int)) (hB : h 106 k = (B : Int)) (hA6 : A < 6) (hB6 : B < 6) (hAB : A ≠ B) (hI : zWy h a b k f) (h1 : zSd1 f (A : Int) (B : Int) (h 107 k) (a : Int) (zFa h B b) (zFa h a b) m1) (h2 : zSd1 m1 (B : Int) (A : Int) (h 107 k) (a : Int) (zFa h A b) (zFa h a b) m2) : zWy h a b (k + 1) m2 := by
  unfold zSd1 at h1 h2
  by_cases c0 : (A : Int) = (a : Int) ∧ h 107 k + zFa h B b = zFa h a b
  · refine zWy_hit hI hB6 ⟨Or.inl ⟨by omega, hB⟩, c0.2⟩ (fun y w => ?_) (by omega)
    unfold zMt at w
    omega
  · by_cases c1 : (B : Int) = (a : Int) ∧ h 107 k + zFa h A b = zFa h a b
    · refine zWy_hit hI hA6 ⟨Or.inr ⟨by omega, hA⟩, c1.2⟩ (fun y w => ?_) (by omega)
      unfold zMt at w
      omega
    · obtain rfl : m2 = f := by omega
      refine zWy_miss hI (fun y w => ?_)
      unfold zMt at w
      obtain ⟨w1, w2⟩ := w
      rcases w1 with ⟨u1, u2⟩ | ⟨u1, u2⟩
      · obtain rfl : y = B := by omega
        exact c0 ⟨by omega, w2⟩
      · obtain rfl : y = A := by omega
        exact c1 ⟨by omega, w2⟩
theorem zWy_end {h : Nat → Nat → Int} {p r a b : Nat} {f : Int} (hW : zTown h p r) (ha : a < p) (hb : b < p) (hab : a ≠ b) (hf : h (12 + a) b < 1000000) (hI : zWy h a b r f) : zNext h a b f := by
  have hWc := hW
  obtain ⟨hp6, hr15, h30, h31, hp3, hr4, hMe, hTB, hCn, hPo, hRd, hLk, hGr⟩ := hWc
  have za := zFa_spec hW (show a < 6 by omega) (show b < 6 by omega)
  have key : ∀ y : Nat, y < 6 → ((∃ k : Nat, k < r ∧ zMt h a b k y) ↔ h (5 + a) y + h (12 + y) b = h (12 + a) b) := fun y hy => by
    have zy := zFa_spec hW hy (show b < 6 by omega)
    have t := hMe.2.2 a y b (by omega) hy (by omega)
    have tb := hTB y b hy (by omega)
    have tb2 := hTB a y (by omega) hy
    constructor
    · rintro ⟨k, hk, w1, w2⟩
      obtain ⟨A, B, -, -, -, -, -, l1, l2⟩ := hRd k hk
      have u : h (5 + a) y ≤ h 107 k ∧ h (12 + a) y ≤ h 107 k := by
        rcases w1 with ⟨e1, e2⟩ | ⟨e1, e2⟩
        · have := hLk.1 k hk a y (by omega) hy e1 e2
          exact ⟨this.1, this.2.2⟩
        · have := hLk.1 k hk y a hy (by omega) e2 e1
          have s := hMe.2.1 a y (by omega) hy
          exact ⟨this.2.1, by omega⟩
      have v : h (12 + a) y ≤ h (5 + a) y := by
        obtain ⟨k2, k3, k4, k5⟩ := hLk.2 a y (by omega) hy (by omega)
        rcases k4 with ⟨e1, e2⟩ | ⟨e1, e2⟩
        · have := (hLk.1 k2 k3 a y (by omega) hy e1 e2).2.2
          omega
        · have := (hLk.1 k2 k3 y a hy (by omega) e1 e2).2.2
          have s := hMe.2.1 a y (by omega) hy
          omega
      omega
    · intro e
      obtain ⟨k2, k3, k4, k5⟩ := hLk.2 a y (by omega) hy (by omega)
      refine ⟨k2, k3, ?_, by omega⟩
      rcases k4 with q | q
      · exact Or.inl q
      · exact Or.inr ⟨q.2, q.1⟩
  refine Or.inr (Or.inr ⟨hab, hf, ?_⟩)
  rcases hI with ⟨q1, q2⟩ | ⟨y, q1, q2, ⟨k0, q3, q4⟩, q5⟩
  · refine Or.inr ⟨q1, fun c hc w => ?_⟩
    obtain ⟨k, k1, k2⟩ := (key c hc).mpr w
    exact q2 k k1 c hc k2
  · refine Or.inl ⟨y, q1, q2, (key y q1).mp ⟨k0, q3, q4⟩, fun c hc w => ?_⟩
    obtain ⟨k, k1, k2⟩ := (key c (by omega)).mpr w
    have := q5 k k1 c (by omega) k2
    omega
theorem zNext_eq {h : Nat → Nat → Int} {a b : Nat} {x y : Int} (hx : zNext h a b x) (hy : zNext h a b y) : x = y := by
  rcases hx with ⟨a1, a2⟩ | ⟨a1, a2, a3⟩ | ⟨a1, a2, ⟨c, c1, c2, c3, c4⟩ | ⟨c1, c2⟩⟩ <;> rcases hy with ⟨b1, b2⟩ | ⟨b1, b2, b3⟩ | ⟨b1, b2, ⟨d, d1, d2, d3, d4⟩ | ⟨d1, d2⟩⟩ <;> first
    | omega
    | (rcases (show c < d ∨ c = d ∨ d < c by omega) with q | q | q
       · exact absurd c3 (d4 c q)
       · omega
       · exact absurd d3 (c4 d q))
    | exact absurd c3 (d2 c c1)
    | exact absurd d3 (c2 d d1)
set_option maxRecDepth 100000 in
set_option maxHeartbeats 4000000 in
theorem p_wayO {d : Nat} {h0 h hl : Nat → Nat → Int} (e0 : zup h0 104 0 0 = h) {ia ib : Int} (ha : zr ia) (hb : zr ib) {p r : Nat} (hW : zTown h p r) : zQ (d + 3) 111 [.inr (.inr (some 104)), .inl ia, .inl ib] (zs h0 hl) (fun r' σ' => ∃ g : Nat → Nat → Int, ((¬ ((0 ≤ ia ∧ ia < h 104 3) ∧ 0 ≤ ib ∧ ib < h 104 3) ∧ r' = some (.inl (-1)) ∧ σ' = zs g hl) ∨ (((0 ≤ ia ∧ ia < h 104 3) ∧ 0 ≤ ib ∧ ib < h 104 3) ∧ ∃ x : Int, zNext h (Int.toNat ia) (Int.toNat ib) x ∧ r' = some (.inl x) ∧ σ' = zs g hl)) ∧ (g = h ∨ ((∀ c : Nat, c ≠ 108 → g c = h c) ∧ (∀ i j : Nat, i < 6 → j < 6 → g 108 (6 * i + j) = zFa h i j)))) := by
  have hWc := hW
  obtain ⟨hp6, hr15, h30, h31, hp3, hr4, hMe, hTB, hCn, hPo, hRd, hLk, hGr⟩ := hWc
  have hP : 0 ≤ h 104 3 ∧ h 104 3 ≤ 6 := by omega
  refine zQ_of (Nat.le_of_ble_eq_true rfl) ?_
  show zH (d + 2) 111 (0, [some (.inr (.inr (some 104))), some (.inl ia), some (.inl ib), none, none, none, none, none, none], [], (zs h0 hl)) _
  refine zH_go 3 (c' := (5, [some (.inr (.inr (some 104))), some (.inl ia), some (.inl ib), none, none, none, none, none, none], [], (zs (zup h0 104 0 0) hl))) rfl ?_
  rw [e0]
  refine zH_go 2 (c' := (7, [some (.inr (.inr (some 104))), some (.inl ia), some (.inl ib), none, none, none, none, none, none], [.inl ia, .inr (.inr (some 104))], (zs h hl))) rfl ?_
  refine zH_call (M' := 104) (as := [.inr (.inr (some 104)), .inl ia]) (T := []) rfl (p_isPl (by first | assumption | (unfold zr; omega)) hP) (fun r σ' p_1 => ?_)
  rcases p_1 with ⟨rfl, b_2, rfl⟩ | ⟨rfl, b_2, rfl⟩
  · show zH _ _ (10, [some (.inr (.inr (some 104))), some (.inl ia), some (.inl ib), none, none, none, none, none, none], [.inl 1], (zs h hl)) _
    refine zH_bf (x := 1) (y := 0) (k := .eq) (c1 := (21, [some (.inr (.inr (some 104))), some (.inl ia), some (.inl ib), none, none, none, none, none, none], [], (zs h hl))) (c2 := (13, [some (.inr (.inr (some 104))), some (.inl ia), some (.inl ib), none, none, none, none, none, none], [], (zs h hl))) rfl ⟨by decide, by decide⟩ ⟨by decide, by decide⟩ (by show ¬ (1 = 0); decide) ?_
    refine zH_go 2 (c' := (15, [some (.inr (.inr (some 104))), some (.inl ia), some (.inl ib), none, none, none, none, none, none], [.inl ib, .inr (.inr (some 104))], (zs h hl))) rfl ?_
    refine zH_call (M' := 104) (as := [.inr (.inr (some 104)), .inl ib]) (T := []) rfl (p_isPl (by first | assumption | (unfold zr; omega)) hP) (fun r σ' p_3 => ?_)
    rcases p_3 with ⟨rfl, b_4, rfl⟩ | ⟨rfl, b_4, rfl⟩
    · show zH _ _ (18, [some (.inr (.inr (some 104))), some (.inl ia), some (.inl ib), none, none, none, none, none, none], [.inl 1], (zs h hl)) _
      refine zH_bt (x := 1) (y := 0) (k := .ne) (c1 := (23, [some (.inr (.inr (some 104))), some (.inl ia), some (.inl ib), none, none, none, none, none, none], [], (zs h hl))) (c2 := (21, [some (.inr (.inr (some 104))), some (.inl ia), some (.inl ib), none, none, none, none, none, none], [], (zs h hl))) rfl ⟨by decide, by decide⟩ ⟨by decide, by decide⟩ (by show ¬ 1 = 0; decide) ?_
      obtain ⟨a, rfl⟩ := Int.eq_ofNat_of_zero_le (show 0 ≤ ia by omega)
      obtain ⟨b, rfl⟩ := Int.eq_ofNat_of_zero_le (show 0 ≤ ib by omega)
      show zH _ _ (23, [some (.inr (.inr (some 104))), some (.inl (a : Int)), some (.inl (b : Int)), none, none, none, none, none, none], [], (zs h hl)) _
      refine zH_go 1 (c' := (24, [some (.inr (.inr (some 104))), some (.inl (a : Int)), some (.inl (b : Int)), none, none, none, none, none, none], [.inr (.inr (some 104))], (zs h hl))) rfl ?_
      refine zH_call (M' := 105) (as := [.inr (.inr (some 104))]) (T := []) rfl (p_meas hW) (fun r' σ' pm => ?_)
      obtain ⟨rfl, g, rfl, f1, f2⟩ := pm
      have eab := f2 a b (by omega) (by omega)
      have zab := zFa_spec hW (show a < 6 by omega) (show b < 6 by omega)
      have g4 : g 104 4 = (r : Int) := by rw [f1 104 (by decide)]; exact hr4
      show zH _ _ (27, [some (.inr (.inr (some 104))), some (.inl (a : Int)), some (.inl (b : Int)), none, none, none, none, none, none], [], (zs g hl)) _
      refine zH_go 2 (c' := (29, [some (.inr (.inr (some 104))), some (.inl (a : Int)), some (.inl (b : Int)), none, none, none, none, none, none], [.inl (b : Int), .inl (a : Int)], (zs g hl))) rfl ?_
      refine zH_br (x := (a : Int)) (y := (b : Int)) (k := .ne) (c1 := (34, [some (.inr (.inr (some 104))), some (.inl (a : Int)), some (.inl (b : Int)), none, none, none, none, none, none], [], (zs g hl))) (c2 := (32, [some (.inr (.inr (some 104))), some (.inl (a : Int)), some (.inl (b : Int)), none, none, none, none, none, none], [], (zs g hl))) rfl (by first | assumption | (unfold zr; omega)) (by first | assumption | (unfold zr; omega)) (fun (b_5 : ¬ (a : Int) = (b : Int)) => ?_) (fun (b_5 : ¬ (¬ (a : Int) = (b : Int))) => ?_)
      · refine zH_go 4 (c' := (40, [some (.inr (.inr (some 104))), some (.inl (a : Int)), some (.inl (b : Int)), some (.inl (-9)), some (.inl 0), none, none, none, none], [], (zs g hl))) rfl ?_
        by_cases hfar : zFa h a b < 100000000
        · refine zH_lp (X := Int × (Option zV) × (Option zV) × (Option zV) × (Option zV)) (F := fun (kq : Nat) (x : Int × (Option zV) × (Option zV) × (Option zV) × (Option zV)) => (40, [some (.inr (.inr (some 104))), some (.inl (a : Int)), some (.inl (b : Int)), some (.inl x.1), some (.inl (kq : Int)), x.2.1, x.2.2.1, x.2.2.2.1, x.2.2.2.2], [], (zs g hl))) (I := fun (kq : Nat) (x : Int × (Option zV) × (Option zV) × (Option zV) × (Option zV)) => zWy h a b kq x.1) (N := r) (fun k x hk hI ih => ?_) (fun x hI => ?_) 0 ((-9), none, none, none, none) (by omega) ?_
          · obtain ⟨f, x5, x6, x7, x8⟩ := x
            replace hI : zWy h a b k f := hI
            show zH _ _ (40, [some (.inr (.inr (some 104))), some (.inl (a : Int)), some (.inl (b : Int)), some (.inl f), some (.inl (k : Int)), x5, x6, x7, x8], [], (zs g hl)) _
            obtain ⟨A, B, hA, hB, hAB, rA, rB, rl⟩ := hRd k hk
            have gA : g 105 k = (A : Int) := by rw [f1 105 (by decide)]; exact rA
            have gB : g 106 k = (B : Int) := by rw [f1 106 (by decide)]; exact rB
            have gl : g 107 k = h 107 k := by rw [f1 107 (by decide)]
            have eBb := f2 B b (by omega) (by omega)
            have eAb := f2 A b (by omega) (by omega)
            have zB := zFa_spec hW (show B < 6 by omega) (show b < 6 by omega)
            have zA := zFa_spec hW (show A < 6 by omega) (show b < 6 by omega)
            have hf9 : -9 ≤ f ∧ f < 6 := by rcases hI with q | ⟨y, q1, q2, -⟩ <;> omega
            refine zH_go 3 (c' := (46, [some (.inr (.inr (some 104))), some (.inl (a : Int)), some (.inl (b : Int)), some (.inl f), some (.inl (k : Int)), x5, x6, x7, x8], [.inl (g 104 4), .inl (k : Int)], (zs g hl))) rfl ?_
            rw [g4]
            refine zH_bf (x := (k : Int)) (y := (r : Int)) (k := .ge) (c1 := (205, [some (.inr (.inr (some 104))), some (.inl (a : Int)), some (.inl (b : Int)), some (.inl f), some (.inl (k : Int)), x5, x6, x7, x8], [], (zs g hl))) (c2 := (49, [some (.inr (.inr (some 104))), some (.inl (a : Int)), some (.inl (b : Int)), some (.inl f), some (.inl (k : Int)), x5, x6, x7, x8], [], (zs g hl))) rfl (by first | assumption | (unfold zr; omega)) (by first | assumption | (unfold zr; omega)) (by show ¬ (¬ (k : Int) < (r : Int)); omega) ?_
            refine zH_go 7 (c' := (59, [some (.inr (.inr (some 104))), some (.inl (a : Int)), some (.inl (b : Int)), some (.inl f), some (.inl (k : Int)), x5, x6, x7, x8], [.inl ((6 * (a : Int)) + (b : Int)), .inr (.inr (some 108))], (zs g hl))) rfl ?_
            refine zH_np (P := 0 ≤ ((6 * (a : Int)) + (b : Int)) ∧ ((6 * (a : Int)) + (b : Int)) < ((36 : Nat) : Int)) (c' := (60, [some (.inr (.inr (some 104))), some (.inl (a : Int)), some (.inl (b : Int)), some (.inl f), some (.inl (k : Int)), x5, x6, x7, x8], [.inl (g 108 ((6 * a) + b))], (zs g hl))) rfl ⟨by omega, by omega⟩ ?_
            rw [eab]
            refine zH_go 1 (c' := (62, [some (.inr (.inr (some 104))), some (.inl (a : Int)), some (.inl (b : Int)), some (.inl f), some (.inl (k : Int)), x5, x6, x7, x8], [.inl 100000000, .inl (zFa h a b)], (zs g hl))) rfl ?_
            refine zH_bf (x := (zFa h a b)) (y := 100000000) (k := .ge) (c1 := (205, [some (.inr (.inr (some 104))), some (.inl (a : Int)), some (.inl (b : Int)), some (.inl f), some (.inl (k : Int)), x5, x6, x7, x8], [], (zs g hl))) (c2 := (65, [some (.inr (.inr (some 104))), some (.inl (a : Int)), some (.inl (b : Int)), some (.inl f), some (.inl (k : Int)), x5, x6, x7, x8], [], (zs g hl))) rfl (by first | assumption | (unfold zr; omega)) ⟨by decide, by decide⟩ (by show ¬ (¬ (zFa h a b) < 100000000); omega) ?_
            refine zH_go 4 (c' := (71, [some (.inr (.inr (some 104))), some (.inl (a : Int)), some (.inl (b : Int)), some (.inl f), some (.inl (k : Int)), some (.inl 0), x6, x7, x8], [.inl 2, .inl 0], (zs g hl))) rfl ?_
            refine zH_bf (x := 0) (y := 2) (k := .ge) (c1 := (199, [some (.inr (.inr (some 104))), some (.inl (a : Int)), some (.inl (b : Int)), some (.inl f), some (.inl (k : Int)), some (.inl 0), x6, x7, x8], [], (zs g hl))) (c2 := (74, [some (.inr (.inr (some 104))), some (.inl (a : Int)), some (.inl (b : Int)), some (.inl f), some (.inl (k : Int)), some (.inl 0), x6, x7, x8], [], (zs g hl))) rfl ⟨by decide, by decide⟩ ⟨by decide, by decide⟩ (by show ¬ (¬ 0 < 2); decide) ?_
            refine zH_go 1 (c' := (76, [some (.inr (.inr (some 104))), some (.inl (a : Int)), some (.inl (b : Int)), some (.inl f), some (.inl (k : Int)), some (.inl 0), x6, x7, x8], [.inl 0], (zs g hl))) rfl ?_
            refine zH_bf (x := 0) (y := 0) (k := .ne) (c1 := (89, [some (.inr (.inr (some 104))), some (.inl (a : Int)), some (.inl (b : Int)), some (.inl f), some (.inl (k : Int)), some (.inl 0), x6, x7, x8], [], (zs g hl))) (c2 := (79, [some (.inr (.inr (some 104))), some (.inl (a : Int)), some (.inl (b : Int)), some (.inl f), some (.inl (k : Int)), some (.inl 0), x6, x7, x8], [], (zs g hl))) rfl ⟨by decide, by decide⟩ ⟨by decide, by decide⟩ (by show ¬ (¬ 0 = 0); decide) ?_
            refine zH_go 3 (c' := (85, [some (.inr (.inr (some 104))), some (.inl (a : Int)), some (.inl (b : Int)), some (.inl f), some (.inl (k : Int)), some (.inl 0), x6, x7, x8], [.inl (k : Int), .inr (.inr (some 105))], (zs g hl))) rfl ?_
            refine zH_np (P := 0 ≤ (k : Int) ∧ (k : Int) < ((15 : Nat) : Int)) (c' := (86, [some (.inr (.inr (some 104))), some (.inl (a : Int)), some (.inl (b : Int)), some (.inl f), some (.inl (k : Int)), some (.inl 0), x6, x7, x8], [.inl (g 105 k)], (zs g hl))) rfl ⟨by omega, by omega⟩ ?_
            rw [gA]
            refine zH_go 3 (c' := (100, [some (.inr (.inr (some 104))), some (.inl (a : Int)), some (.inl (b : Int)), some (.inl f), some (.inl (k : Int)), some (.inl 0), some (.inl (A : Int)), x7, x8], [.inl 0], (zs g hl))) rfl ?_
            refine zH_bf (x := 0) (y := 0) (k := .ne) (c1 := (113, [some (.inr (.inr (some 104))), some (.inl (a : Int)), some (.inl (b : Int)), some (.inl f), some (.inl (k : Int)), some (.inl 0), some (.inl (A : Int)), x7, x8], [], (zs g hl))) (c2 := (103, [some (.inr (.inr (some 104))), some (.inl (a : Int)), some (.inl (b : Int)), some (.inl f), some (.inl (k : Int)), some (.inl 0), some (.inl (A : Int)), x7, x8], [], (zs g hl))) rfl ⟨by decide, by decide⟩ ⟨by decide, by decide⟩ (by show ¬ (¬ 0 = 0); decide) ?_
            refine zH_go 3 (c' := (109, [some (.inr (.inr (some 104))), some (.inl (a : Int)), some (.inl (b : Int)), some (.inl f), some (.inl (k : Int)), some (.inl 0), some (.inl (A : Int)), x7, x8], [.inl (k : Int), .inr (.inr (some 106))], (zs g hl))) rfl ?_
            refine zH_np (P := 0 ≤ (k : Int) ∧ (k : Int) < ((15 : Nat) : Int)) (c' := (110, [some (.inr (.inr (some 104))), some (.inl (a : Int)), some (.inl (b : Int)), some (.inl f), some (.inl (k : Int)), some (.inl 0), some (.inl (A : Int)), x7, x8], [.inl (g 106 k)], (zs g hl))) rfl ⟨by omega, by omega⟩ ?_
            rw [gB]
            refine zH_go 2 (c' := (122, [some (.inr (.inr (some 104))), some (.inl (a : Int)), some (.inl (b : Int)), some (.inl f), some (.inl (k : Int)), some (.inl 0), some (.inl (A : Int)), some (.inl (B : Int)), x8], [], (zs g hl))) rfl ?_
            refine zH_mg2 (X := Int × Option zV) (F := fun m => (192, [some (.inr (.inr (some 104))), some (.inl (a : Int)), some (.inl (b : Int)), some (.inl f), some (.inl (k : Int)), some (.inl 0), some (.inl (A : Int)), some (.inl (B : Int)), m.2], [.inl m.1], (zs g hl))) (R := fun m => zSd1 f (A : Int) (B : Int) (h 107 k) (a : Int) (zFa h B b) (zFa h a b) m.1) (fun mm fm_6 => ?_) (fun kk => ?_)
            · obtain ⟨m_6, jm_6⟩ := mm
              replace fm_6 : zSd1 f (A : Int) (B : Int) (h 107 k) (a : Int) (zFa h B b) (zFa h a b) m_6 := fm_6
              have bm_6 : -9 ≤ m_6 ∧ m_6 < 6 := by unfold zSd1 at fm_6; omega
              show zH _ _ (192, [some (.inr (.inr (some 104))), some (.inl (a : Int)), some (.inl (b : Int)), some (.inl f), some (.inl (k : Int)), some (.inl 0), some (.inl (A : Int)), some (.inl (B : Int)), jm_6], [.inl m_6], (zs g hl)) _
              refine zH_go 5 (c' := (71, [some (.inr (.inr (some 104))), some (.inl (a : Int)), some (.inl (b : Int)), some (.inl m_6), some (.inl (k : Int)), some (.inl 1), some (.inl (A : Int)), some (.inl (B : Int)), jm_6], [.inl 2, .inl 1], (zs g hl))) rfl ?_
              refine zH_bf (x := 1) (y := 2) (k := .ge) (c1 := (199, [some (.inr (.inr (some 104))), some (.inl (a : Int)), some (.inl (b : Int)), some (.inl m_6), some (.inl (k : Int)), some (.inl 1), some (.inl (A : Int)), some (.inl (B : Int)), jm_6], [], (zs g hl))) (c2 := (74, [some (.inr (.inr (some 104))), some (.inl (a : Int)), some (.inl (b : Int)), some (.inl m_6), some (.inl (k : Int)), some (.inl 1), some (.inl (A : Int)), some (.inl (B : Int)), jm_6], [], (zs g hl))) rfl ⟨by decide, by decide⟩ ⟨by decide, by decide⟩ (by show ¬ (¬ 1 < 2); decide) ?_
              refine zH_go 1 (c' := (76, [some (.inr (.inr (some 104))), some (.inl (a : Int)), some (.inl (b : Int)), some (.inl m_6), some (.inl (k : Int)), some (.inl 1), some (.inl (A : Int)), some (.inl (B : Int)), jm_6], [.inl 1], (zs g hl))) rfl ?_
              refine zH_bt (x := 1) (y := 0) (k := .ne) (c1 := (89, [some (.inr (.inr (some 104))), some (.inl (a : Int)), some (.inl (b : Int)), some (.inl m_6), some (.inl (k : Int)), some (.inl 1), some (.inl (A : Int)), some (.inl (B : Int)), jm_6], [], (zs g hl))) (c2 := (79, [some (.inr (.inr (some 104))), some (.inl (a : Int)), some (.inl (b : Int)), some (.inl m_6), some (.inl (k : Int)), some (.inl 1), some (.inl (A : Int)), some (.inl (B : Int)), jm_6], [], (zs g hl))) rfl ⟨by decide, by decide⟩ ⟨by decide, by decide⟩ (by show ¬ 1 = 0; decide) ?_
              refine zH_go 3 (c' := (95, [some (.inr (.inr (some 104))), some (.inl (a : Int)), some (.inl (b : Int)), some (.inl m_6), some (.inl (k : Int)), some (.inl 1), some (.inl (A : Int)), some (.inl (B : Int)), jm_6], [.inl (k : Int), .inr (.inr (some 106))], (zs g hl))) rfl ?_
              refine zH_np (P := 0 ≤ (k : Int) ∧ (k : Int) < ((15 : Nat) : Int)) (c' := (96, [some (.inr (.inr (some 104))), some (.inl (a : Int)), some (.inl (b : Int)), some (.inl m_6), some (.inl (k : Int)), some (.inl 1), some (.inl (A : Int)), some (.inl (B : Int)), jm_6], [.inl (g 106 k)], (zs g hl))) rfl ⟨by omega, by omega⟩ ?_
              rw [gB]
              refine zH_go 2 (c' := (100, [some (.inr (.inr (some 104))), some (.inl (a : Int)), some (.inl (b : Int)), some (.inl m_6), some (.inl (k : Int)), some (.inl 1), some (.inl (B : Int)), some (.inl (B : Int)), jm_6], [.inl 1], (zs g hl))) rfl ?_
              refine zH_bt (x := 1) (y := 0) (k := .ne) (c1 := (113, [some (.inr (.inr (some 104))), some (.inl (a : Int)), some (.inl (b : Int)), some (.inl m_6), some (.inl (k : Int)), some (.inl 1), some (.inl (B : Int)), some (.inl (B : Int)), jm_6], [], (zs g hl))) (c2 := (103, [some (.inr (.inr (some 104))), some (.inl (a : Int)), some (.inl (b : Int)), some (.inl m_6), some (.inl (k : Int)), some (.inl 1), some (.inl (B : Int)), some (.inl (B : Int)), jm_6], [], (zs g hl))) rfl ⟨by decide, by decide⟩ ⟨by decide, by decide⟩ (by show ¬ 1 = 0; decide) ?_
              refine zH_go 3 (c' := (119, [some (.inr (.inr (some 104))), some (.inl (a : Int)), some (.inl (b : Int)), some (.inl m_6), some (.inl (k : Int)), some (.inl 1), some (.inl (B : Int)), some (.inl (B : Int)), jm_6], [.inl (k : Int), .inr (.inr (some 105))], (zs g hl))) rfl ?_
              refine zH_np (P := 0 ≤ (k : Int) ∧ (k : Int) < ((15 : Nat) : Int)) (c' := (120, [some (.inr (.inr (some 104))), some (.inl (a : Int)), some (.inl (b : Int)), some (.inl m_6), some (.inl (k : Int)), some (.inl 1), some (.inl (B : Int)), some (.inl (B : Int)), jm_6], [.inl (g 105 k)], (zs g hl))) rfl ⟨by omega, by omega⟩ ?_
              rw [gA]
              refine zH_go 1 (c' := (122, [some (.inr (.inr (some 104))), some (.inl (a : Int)), some (.inl (b : Int)), some (.inl m_6), some (.inl (k : Int)), some (.inl 1), some (.inl (B : Int)), some (.inl (A : Int)), jm_6], [], (zs g hl))) rfl ?_
              refine zH_mg2 (X := Int × Option zV) (F := fun m => (192, [some (.inr (.inr (some 104))), some (.inl (a : Int)), some (.inl (b : Int)), some (.inl m_6), some (.inl (k : Int)), some (.inl 1), some (.inl (B : Int)), some (.inl (A : Int)), m.2], [.inl m.1], (zs g hl))) (R := fun m => zSd1 m_6 (B : Int) (A : Int) (h 107 k) (a : Int) (zFa h A b) (zFa h a b) m.1) (fun mm fm_7 => ?_) (fun kk => ?_)
              · obtain ⟨m_7, jm_7⟩ := mm
                replace fm_7 : zSd1 m_6 (B : Int) (A : Int) (h 107 k) (a : Int) (zFa h A b) (zFa h a b) m_7 := fm_7
                have bm_7 : -9 ≤ m_7 ∧ m_7 < 6 := by unfold zSd1 at fm_7; omega
                show zH _ _ (192, [some (.inr (.inr (some 104))), some (.inl (a : Int)), some (.inl (b : Int)), some (.inl m_6), some (.inl (k : Int)), some (.inl 1), some (.inl (B : Int)), some (.inl (A : Int)), jm_7], [.inl m_7], (zs g hl)) _
                refine zH_go 5 (c' := (71, [some (.inr (.inr (some 104))), some (.inl (a : Int)), some (.inl (b : Int)), some (.inl m_7), some (.inl (k : Int)), some (.inl 2), some (.inl (B : Int)), some (.inl (A : Int)), jm_7], [.inl 2, .inl 2], (zs g hl))) rfl ?_
                refine zH_bt (x := 2) (y := 2) (k := .ge) (c1 := (199, [some (.inr (.inr (some 104))), some (.inl (a : Int)), some (.inl (b : Int)), some (.inl m_7), some (.inl (k : Int)), some (.inl 2), some (.inl (B : Int)), some (.inl (A : Int)), jm_7], [], (zs g hl))) (c2 := (74, [some (.inr (.inr (some 104))), some (.inl (a : Int)), some (.inl (b : Int)), some (.inl m_7), some (.inl (k : Int)), some (.inl 2), some (.inl (B : Int)), some (.inl (A : Int)), jm_7], [], (zs g hl))) rfl ⟨by decide, by decide⟩ ⟨by decide, by decide⟩ (by show ¬ 2 < 2; decide) ?_
                refine zH_go 2 (c' := (40, [some (.inr (.inr (some 104))), some (.inl (a : Int)), some (.inl (b : Int)), some (.inl m_7), some (.inl ((k : Int) + 1)), some (.inl 2), some (.inl (B : Int)), some (.inl (A : Int)), jm_7], [], (zs g hl))) rfl ?_
                refine ih (m_7, (some (.inl 2)), (some (.inl (B : Int))), (some (.inl (A : Int))), jm_7) ?_
                show zWy h a b (k + 1) m_7
                exact zWy_step rA rB (by omega) (by omega) hAB hI fm_6 fm_7
              · refine zH_go 2 (c' := (125, [some (.inr (.inr (some 104))), some (.inl (a : Int)), some (.inl (b : Int)), some (.inl m_6), some (.inl (k : Int)), some (.inl 1), some (.inl (B : Int)), some (.inl (A : Int)), jm_6], [.inl (a : Int), .inl (B : Int)], (zs g hl))) rfl ?_
                refine zH_br (x := (B : Int)) (y := (a : Int)) (k := .ne) (c1 := (166, [some (.inr (.inr (some 104))), some (.inl (a : Int)), some (.inl (b : Int)), some (.inl m_6), some (.inl (k : Int)), some (.inl 1), some (.inl (B : Int)), some (.inl (A : Int)), jm_6], [], (zs g hl))) (c2 := (128, [some (.inr (.inr (some 104))), some (.inl (a : Int)), some (.inl (b : Int)), some (.inl m_6), some (.inl (k : Int)), some (.inl 1), some (.inl (B : Int)), some (.inl (A : Int)), jm_6], [], (zs g hl))) rfl (by first | assumption | (unfold zr; omega)) (by first | assumption | (unfold zr; omega)) (fun (b_8 : ¬ (B : Int) = (a : Int)) => ?_) (fun (b_8 : ¬ (¬ (B : Int) = (a : Int))) => ?_)
                · refine zH_go 3 (c' := (171, [some (.inr (.inr (some 104))), some (.inl (a : Int)), some (.inl (b : Int)), some (.inl m_6), some (.inl (k : Int)), some (.inl 1), some (.inl (B : Int)), some (.inl (A : Int)), some (.inl 0)], [.inl 0], (zs g hl))) rfl ?_
                  refine zH_bt (x := 0) (y := 0) (k := .eq) (c1 := (191, [some (.inr (.inr (some 104))), some (.inl (a : Int)), some (.inl (b : Int)), some (.inl m_6), some (.inl (k : Int)), some (.inl 1), some (.inl (B : Int)), some (.inl (A : Int)), some (.inl 0)], [], (zs g hl))) (c2 := (174, [some (.inr (.inr (some 104))), some (.inl (a : Int)), some (.inl (b : Int)), some (.inl m_6), some (.inl (k : Int)), some (.inl 1), some (.inl (B : Int)), some (.inl (A : Int)), some (.inl 0)], [], (zs g hl))) rfl ⟨by decide, by decide⟩ ⟨by decide, by decide⟩ (by show 0 = 0; decide) ?_
                  refine zH_go 1 (c' := (192, [some (.inr (.inr (some 104))), some (.inl (a : Int)), some (.inl (b : Int)), some (.inl m_6), some (.inl (k : Int)), some (.inl 1), some (.inl (B : Int)), some (.inl (A : Int)), some (.inl 0)], [.inl m_6], (zs g hl))) rfl ?_
                  refine kk (m_6, (some (.inl 0))) ?_
                  show zSd1 m_6 (B : Int) (A : Int) (h 107 k) (a : Int) (zFa h A b) (zFa h a b) m_6
                  unfold zSd1
                  omega
                · refine zH_go 3 (c' := (134, [some (.inr (.inr (some 104))), some (.inl (a : Int)), some (.inl (b : Int)), some (.inl m_6), some (.inl (k : Int)), some (.inl 1), some (.inl (B : Int)), some (.inl (A : Int)), jm_6], [.inl (k : Int), .inr (.inr (some 107))], (zs g hl))) rfl ?_
                  refine zH_np (P := 0 ≤ (k : Int) ∧ (k : Int) < ((15 : Nat) : Int)) (c' := (135, [some (.inr (.inr (some 104))), some (.inl (a : Int)), some (.inl (b : Int)), some (.inl m_6), some (.inl (k : Int)), some (.inl 1), some (.inl (B : Int)), some (.inl (A : Int)), jm_6], [.inl (g 107 k)], (zs g hl))) rfl ⟨by omega, by omega⟩ ?_
                  rw [gl]
                  refine zH_go 7 (c' := (146, [some (.inr (.inr (some 104))), some (.inl (a : Int)), some (.inl (b : Int)), some (.inl m_6), some (.inl (k : Int)), some (.inl 1), some (.inl (B : Int)), some (.inl (A : Int)), jm_6], [.inl ((6 * (A : Int)) + (b : Int)), .inr (.inr (some 108)), .inl (h 107 k)], (zs g hl))) rfl ?_
                  refine zH_np (P := 0 ≤ ((6 * (A : Int)) + (b : Int)) ∧ ((6 * (A : Int)) + (b : Int)) < ((36 : Nat) : Int)) (c' := (147, [some (.inr (.inr (some 104))), some (.inl (a : Int)), some (.inl (b : Int)), some (.inl m_6), some (.inl (k : Int)), some (.inl 1), some (.inl (B : Int)), some (.inl (A : Int)), jm_6], [.inl (g 108 ((6 * A) + b)), .inl (h 107 k)], (zs g hl))) rfl ⟨by omega, by omega⟩ ?_
                  rw [eAb]
                  refine zH_go 8 (c' := (158, [some (.inr (.inr (some 104))), some (.inl (a : Int)), some (.inl (b : Int)), some (.inl m_6), some (.inl (k : Int)), some (.inl 1), some (.inl (B : Int)), some (.inl (A : Int)), jm_6], [.inl ((6 * (a : Int)) + (b : Int)), .inr (.inr (some 108)), .inl ((h 107 k) + (zFa h A b))], (zs g hl))) rfl ?_
                  refine zH_np (P := 0 ≤ ((6 * (a : Int)) + (b : Int)) ∧ ((6 * (a : Int)) + (b : Int)) < ((36 : Nat) : Int)) (c' := (159, [some (.inr (.inr (some 104))), some (.inl (a : Int)), some (.inl (b : Int)), some (.inl m_6), some (.inl (k : Int)), some (.inl 1), some (.inl (B : Int)), some (.inl (A : Int)), jm_6], [.inl (g 108 ((6 * a) + b)), .inl ((h 107 k) + (zFa h A b))], (zs g hl))) rfl ⟨by omega, by omega⟩ ?_
                  rw [eab]
                  refine zH_br (x := ((h 107 k) + (zFa h A b))) (y := (zFa h a b)) (k := .ne) (c1 := (166, [some (.inr (.inr (some 104))), some (.inl (a : Int)), some (.inl (b : Int)), some (.inl m_6), some (.inl (k : Int)), some (.inl 1), some (.inl (B : Int)), some (.inl (A : Int)), jm_6], [], (zs g hl))) (c2 := (162, [some (.inr (.inr (some 104))), some (.inl (a : Int)), some (.inl (b : Int)), some (.inl m_6), some (.inl (k : Int)), some (.inl 1), some (.inl (B : Int)), some (.inl (A : Int)), jm_6], [], (zs g hl))) rfl (by first | assumption | (unfold zr; omega)) (by first | assumption | (unfold zr; omega)) (fun (b_9 : ¬ ((h 107 k) + (zFa h A b)) = (zFa h a b)) => ?_) (fun (b_9 : ¬ (¬ ((h 107 k) + (zFa h A b)) = (zFa h a b))) => ?_)
                  · refine zH_go 3 (c' := (171, [some (.inr (.inr (some 104))), some (.inl (a : Int)), some (.inl (b : Int)), some (.inl m_6), some (.inl (k : Int)), some (.inl 1), some (.inl (B : Int)), some (.inl (A : Int)), some (.inl 0)], [.inl 0], (zs g hl))) rfl ?_
                    refine zH_bt (x := 0) (y := 0) (k := .eq) (c1 := (191, [some (.inr (.inr (some 104))), some (.inl (a : Int)), some (.inl (b : Int)), some (.inl m_6), some (.inl (k : Int)), some (.inl 1), some (.inl (B : Int)), some (.inl (A : Int)), some (.inl 0)], [], (zs g hl))) (c2 := (174, [some (.inr (.inr (some 104))), some (.inl (a : Int)), some (.inl (b : Int)), some (.inl m_6), some (.inl (k : Int)), some (.inl 1), some (.inl (B : Int)), some (.inl (A : Int)), some (.inl 0)], [], (zs g hl))) rfl ⟨by decide, by decide⟩ ⟨by decide, by decide⟩ (by show 0 = 0; decide) ?_
                    refine zH_go 1 (c' := (192, [some (.inr (.inr (some 104))), some (.inl (a : Int)), some (.inl (b : Int)), some (.inl m_6), some (.inl (k : Int)), some (.inl 1), some (.inl (B : Int)), some (.inl (A : Int)), some (.inl 0)], [.inl m_6], (zs g hl))) rfl ?_
                    refine kk (m_6, (some (.inl 0))) ?_
                    show zSd1 m_6 (B : Int) (A : Int) (h 107 k) (a : Int) (zFa h A b) (zFa h a b) m_6
                    unfold zSd1
                    omega
                  · refine zH_go 4 (c' := (171, [some (.inr (.inr (some 104))), some (.inl (a : Int)), some (.inl (b : Int)), some (.inl m_6), some (.inl (k : Int)), some (.inl 1), some (.inl (B : Int)), some (.inl (A : Int)), some (.inl 1)], [.inl 1], (zs g hl))) rfl ?_
                    refine zH_bf (x := 1) (y := 0) (k := .eq) (c1 := (191, [some (.inr (.inr (some 104))), some (.inl (a : Int)), some (.inl (b : Int)), some (.inl m_6), some (.inl (k : Int)), some (.inl 1), some (.inl (B : Int)), some (.inl (A : Int)), some (.inl 1)], [], (zs g hl))) (c2 := (174, [some (.inr (.inr (some 104))), some (.inl (a : Int)), some (.inl (b : Int)), some (.inl m_6), some (.inl (k : Int)), some (.inl 1), some (.inl (B : Int)), some (.inl (A : Int)), some (.inl 1)], [], (zs g hl))) rfl ⟨by decide, by decide⟩ ⟨by decide, by decide⟩ (by show ¬ (1 = 0); decide) ?_
                    refine zH_go 2 (c' := (177, [some (.inr (.inr (some 104))), some (.inl (a : Int)), some (.inl (b : Int)), some (.inl m_6), some (.inl (k : Int)), some (.inl 1), some (.inl (B : Int)), some (.inl (A : Int)), some (.inl 1)], [.inl (-9), .inl m_6], (zs g hl))) rfl ?_
                    refine zH_br (x := m_6) (y := (-9)) (k := .eq) (c1 := (186, [some (.inr (.inr (some 104))), some (.inl (a : Int)), some (.inl (b : Int)), some (.inl m_6), some (.inl (k : Int)), some (.inl 1), some (.inl (B : Int)), some (.inl (A : Int)), some (.inl 1)], [], (zs g hl))) (c2 := (180, [some (.inr (.inr (some 104))), some (.inl (a : Int)), some (.inl (b : Int)), some (.inl m_6), some (.inl (k : Int)), some (.inl 1), some (.inl (B : Int)), some (.inl (A : Int)), some (.inl 1)], [], (zs g hl))) rfl (by first | assumption | (unfold zr; omega)) ⟨by decide, by decide⟩ (fun (b_10 : m_6 = (-9)) => ?_) (fun (b_10 : ¬ (m_6 = (-9))) => ?_)
                    · refine zH_go 2 (c' := (192, [some (.inr (.inr (some 104))), some (.inl (a : Int)), some (.inl (b : Int)), some (.inl m_6), some (.inl (k : Int)), some (.inl 1), some (.inl (B : Int)), some (.inl (A : Int)), some (.inl 1)], [.inl (A : Int)], (zs g hl))) rfl ?_
                      refine kk ((A : Int), (some (.inl 1))) ?_
                      show zSd1 m_6 (B : Int) (A : Int) (h 107 k) (a : Int) (zFa h A b) (zFa h a b) (A : Int)
                      unfold zSd1
                      omega
                    · refine zH_go 2 (c' := (183, [some (.inr (.inr (some 104))), some (.inl (a : Int)), some (.inl (b : Int)), some (.inl m_6), some (.inl (k : Int)), some (.inl 1), some (.inl (B : Int)), some (.inl (A : Int)), some (.inl 1)], [.inl m_6, .inl (A : Int)], (zs g hl))) rfl ?_
                      refine zH_br (x := (A : Int)) (y := m_6) (k := .ge) (c1 := (191, [some (.inr (.inr (some 104))), some (.inl (a : Int)), some (.inl (b : Int)), some (.inl m_6), some (.inl (k : Int)), some (.inl 1), some (.inl (B : Int)), some (.inl (A : Int)), some (.inl 1)], [], (zs g hl))) (c2 := (186, [some (.inr (.inr (some 104))), some (.inl (a : Int)), some (.inl (b : Int)), some (.inl m_6), some (.inl (k : Int)), some (.inl 1), some (.inl (B : Int)), some (.inl (A : Int)), some (.inl 1)], [], (zs g hl))) rfl (by first | assumption | (unfold zr; omega)) (by first | assumption | (unfold zr; omega)) (fun (b_11 : ¬ (A : Int) < m_6) => ?_) (fun (b_11 : ¬ (¬ (A : Int) < m_6)) => ?_)
                      · refine zH_go 1 (c' := (192, [some (.inr (.inr (some 104))), some (.inl (a : Int)), some (.inl (b : Int)), some (.inl m_6), some (.inl (k : Int)), some (.inl 1), some (.inl (B : Int)), some (.inl (A : Int)), some (.inl 1)], [.inl m_6], (zs g hl))) rfl ?_
                        refine kk (m_6, (some (.inl 1))) ?_
                        show zSd1 m_6 (B : Int) (A : Int) (h 107 k) (a : Int) (zFa h A b) (zFa h a b) m_6
                        unfold zSd1
                        omega
                      · refine zH_go 2 (c' := (192, [some (.inr (.inr (some 104))), some (.inl (a : Int)), some (.inl (b : Int)), some (.inl m_6), some (.inl (k : Int)), some (.inl 1), some (.inl (B : Int)), some (.inl (A : Int)), some (.inl 1)], [.inl (A : Int)], (zs g hl))) rfl ?_
                        refine kk ((A : Int), (some (.inl 1))) ?_
                        show zSd1 m_6 (B : Int) (A : Int) (h 107 k) (a : Int) (zFa h A b) (zFa h a b) (A : Int)
                        unfold zSd1
                        omega
            · refine zH_go 2 (c' := (125, [some (.inr (.inr (some 104))), some (.inl (a : Int)), some (.inl (b : Int)), some (.inl f), some (.inl (k : Int)), some (.inl 0), some (.inl (A : Int)), some (.inl (B : Int)), x8], [.inl (a : Int), .inl (A : Int)], (zs g hl))) rfl ?_
              refine zH_br (x := (A : Int)) (y := (a : Int)) (k := .ne) (c1 := (166, [some (.inr (.inr (some 104))), some (.inl (a : Int)), some (.inl (b : Int)), some (.inl f), some (.inl (k : Int)), some (.inl 0), some (.inl (A : Int)), some (.inl (B : Int)), x8], [], (zs g hl))) (c2 := (128, [some (.inr (.inr (some 104))), some (.inl (a : Int)), some (.inl (b : Int)), some (.inl f), some (.inl (k : Int)), some (.inl 0), some (.inl (A : Int)), some (.inl (B : Int)), x8], [], (zs g hl))) rfl (by first | assumption | (unfold zr; omega)) (by first | assumption | (unfold zr; omega)) (fun (b_12 : ¬ (A : Int) = (a : Int)) => ?_) (fun (b_12 : ¬ (¬ (A : Int) = (a : Int))) => ?_)
              · refine zH_go 3 (c' := (171, [some (.inr (.inr (some 104))), some (.inl (a : Int)), some (.inl (b : Int)), some (.inl f), some (.inl (k : Int)), some (.inl 0), some (.inl (A : Int)), some (.inl (B : Int)), some (.inl 0)], [.inl 0], (zs g hl))) rfl ?_
                refine zH_bt (x := 0) (y := 0) (k := .eq) (c1 := (191, [some (.inr (.inr (some 104))), some (.inl (a : Int)), some (.inl (b : Int)), some (.inl f), some (.inl (k : Int)), some (.inl 0), some (.inl (A : Int)), some (.inl (B : Int)), some (.inl 0)], [], (zs g hl))) (c2 := (174, [some (.inr (.inr (some 104))), some (.inl (a : Int)), some (.inl (b : Int)), some (.inl f), some (.inl (k : Int)), some (.inl 0), some (.inl (A : Int)), some (.inl (B : Int)), some (.inl 0)], [], (zs g hl))) rfl ⟨by decide, by decide⟩ ⟨by decide, by decide⟩ (by show 0 = 0; decide) ?_
                refine zH_go 1 (c' := (192, [some (.inr (.inr (some 104))), some (.inl (a : Int)), some (.inl (b : Int)), some (.inl f), some (.inl (k : Int)), some (.inl 0), some (.inl (A : Int)), some (.inl (B : Int)), some (.inl 0)], [.inl f], (zs g hl))) rfl ?_
                refine kk (f, (some (.inl 0))) ?_
                show zSd1 f (A : Int) (B : Int) (h 107 k) (a : Int) (zFa h B b) (zFa h a b) f
                unfold zSd1
                omega
              · refine zH_go 3 (c' := (134, [some (.inr (.inr (some 104))), some (.inl (a : Int)), some (.inl (b : Int)), some (.inl f), some (.inl (k : Int)), some (.inl 0), some (.inl (A : Int)), some (.inl (B : Int)), x8], [.inl (k : Int), .inr (.inr (some 107))], (zs g hl))) rfl ?_
                refine zH_np (P := 0 ≤ (k : Int) ∧ (k : Int) < ((15 : Nat) : Int)) (c' := (135, [some (.inr (.inr (some 104))), some (.inl (a : Int)), some (.inl (b : Int)), some (.inl f), some (.inl (k : Int)), some (.inl 0), some (.inl (A : Int)), some (.inl (B : Int)), x8], [.inl (g 107 k)], (zs g hl))) rfl ⟨by omega, by omega⟩ ?_
                rw [gl]
                refine zH_go 7 (c' := (146, [some (.inr (.inr (some 104))), some (.inl (a : Int)), some (.inl (b : Int)), some (.inl f), some (.inl (k : Int)), some (.inl 0), some (.inl (A : Int)), some (.inl (B : Int)), x8], [.inl ((6 * (B : Int)) + (b : Int)), .inr (.inr (some 108)), .inl (h 107 k)], (zs g hl))) rfl ?_
                refine zH_np (P := 0 ≤ ((6 * (B : Int)) + (b : Int)) ∧ ((6 * (B : Int)) + (b : Int)) < ((36 : Nat) : Int)) (c' := (147, [some (.inr (.inr (some 104))), some (.inl (a : Int)), some (.inl (b : Int)), some (.inl f), some (.inl (k : Int)), some (.inl 0), some (.inl (A : Int)), some (.inl (B : Int)), x8], [.inl (g 108 ((6 * B) + b)), .inl (h 107 k)], (zs g hl))) rfl ⟨by omega, by omega⟩ ?_
                rw [eBb]
                refine zH_go 8 (c' := (158, [some (.inr (.inr (some 104))), some (.inl (a : Int)), some (.inl (b : Int)), some (.inl f), some (.inl (k : Int)), some (.inl 0), some (.inl (A : Int)), some (.inl (B : Int)), x8], [.inl ((6 * (a : Int)) + (b : Int)), .inr (.inr (some 108)), .inl ((h 107 k) + (zFa h B b))], (zs g hl))) rfl ?_
                refine zH_np (P := 0 ≤ ((6 * (a : Int)) + (b : Int)) ∧ ((6 * (a : Int)) + (b : Int)) < ((36 : Nat) : Int)) (c' := (159, [some (.inr (.inr (some 104))), some (.inl (a : Int)), some (.inl (b : Int)), some (.inl f), some (.inl (k : Int)), some (.inl 0), some (.inl (A : Int)), some (.inl (B : Int)), x8], [.inl (g 108 ((6 * a) + b)), .inl ((h 107 k) + (zFa h B b))], (zs g hl))) rfl ⟨by omega, by omega⟩ ?_
                rw [eab]
                refine zH_br (x := ((h 107 k) + (zFa h B b))) (y := (zFa h a b)) (k := .ne) (c1 := (166, [some (.inr (.inr (some 104))), some (.inl (a : Int)), some (.inl (b : Int)), some (.inl f), some (.inl (k : Int)), some (.inl 0), some (.inl (A : Int)), some (.inl (B : Int)), x8], [], (zs g hl))) (c2 := (162, [some (.inr (.inr (some 104))), some (.inl (a : Int)), some (.inl (b : Int)), some (.inl f), some (.inl (k : Int)), some (.inl 0), some (.inl (A : Int)), some (.inl (B : Int)), x8], [], (zs g hl))) rfl (by first | assumption | (unfold zr; omega)) (by first | assumption | (unfold zr; omega)) (fun (b_13 : ¬ ((h 107 k) + (zFa h B b)) = (zFa h a b)) => ?_) (fun (b_13 : ¬ (¬ ((h 107 k) + (zFa h B b)) = (zFa h a b))) => ?_)
                · refine zH_go 3 (c' := (171, [some (.inr (.inr (some 104))), some (.inl (a : Int)), some (.inl (b : Int)), some (.inl f), some (.inl (k : Int)), some (.inl 0), some (.inl (A : Int)), some (.inl (B : Int)), some (.inl 0)], [.inl 0], (zs g hl))) rfl ?_
                  refine zH_bt (x := 0) (y := 0) (k := .eq) (c1 := (191, [some (.inr (.inr (some 104))), some (.inl (a : Int)), some (.inl (b : Int)), some (.inl f), some (.inl (k : Int)), some (.inl 0), some (.inl (A : Int)), some (.inl (B : Int)), some (.inl 0)], [], (zs g hl))) (c2 := (174, [some (.inr (.inr (some 104))), some (.inl (a : Int)), some (.inl (b : Int)), some (.inl f), some (.inl (k : Int)), some (.inl 0), some (.inl (A : Int)), some (.inl (B : Int)), some (.inl 0)], [], (zs g hl))) rfl ⟨by decide, by decide⟩ ⟨by decide, by decide⟩ (by show 0 = 0; decide) ?_
                  refine zH_go 1 (c' := (192, [some (.inr (.inr (some 104))), some (.inl (a : Int)), some (.inl (b : Int)), some (.inl f), some (.inl (k : Int)), some (.inl 0), some (.inl (A : Int)), some (.inl (B : Int)), some (.inl 0)], [.inl f], (zs g hl))) rfl ?_
                  refine kk (f, (some (.inl 0))) ?_
                  show zSd1 f (A : Int) (B : Int) (h 107 k) (a : Int) (zFa h B b) (zFa h a b) f
                  unfold zSd1
                  omega
                · refine zH_go 4 (c' := (171, [some (.inr (.inr (some 104))), some (.inl (a : Int)), some (.inl (b : Int)), some (.inl f), some (.inl (k : Int)), some (.inl 0), some (.inl (A : Int)), some (.inl (B : Int)), some (.inl 1)], [.inl 1], (zs g hl))) rfl ?_
                  refine zH_bf (x := 1) (y := 0) (k := .eq) (c1 := (191, [some (.inr (.inr (some 104))), some (.inl (a : Int)), some (.inl (b : Int)), some (.inl f), some (.inl (k : Int)), some (.inl 0), some (.inl (A : Int)), some (.inl (B : Int)), some (.inl 1)], [], (zs g hl))) (c2 := (174, [some (.inr (.inr (some 104))), some (.inl (a : Int)), some (.inl (b : Int)), some (.inl f), some (.inl (k : Int)), some (.inl 0), some (.inl (A : Int)), some (.inl (B : Int)), some (.inl 1)], [], (zs g hl))) rfl ⟨by decide, by decide⟩ ⟨by decide, by decide⟩ (by show ¬ (1 = 0); decide) ?_
                  refine zH_go 2 (c' := (177, [some (.inr (.inr (some 104))), some (.inl (a : Int)), some (.inl (b : Int)), some (.inl f), some (.inl (k : Int)), some (.inl 0), some (.inl (A : Int)), some (.inl (B : Int)), some (.inl 1)], [.inl (-9), .inl f], (zs g hl))) rfl ?_
                  refine zH_br (x := f) (y := (-9)) (k := .eq) (c1 := (186, [some (.inr (.inr (some 104))), some (.inl (a : Int)), some (.inl (b : Int)), some (.inl f), some (.inl (k : Int)), some (.inl 0), some (.inl (A : Int)), some (.inl (B : Int)), some (.inl 1)], [], (zs g hl))) (c2 := (180, [some (.inr (.inr (some 104))), some (.inl (a : Int)), some (.inl (b : Int)), some (.inl f), some (.inl (k : Int)), some (.inl 0), some (.inl (A : Int)), some (.inl (B : Int)), some (.inl 1)], [], (zs g hl))) rfl (by first | assumption | (unfold zr; omega)) ⟨by decide, by decide⟩ (fun (b_14 : f = (-9)) => ?_) (fun (b_14 : ¬ (f = (-9))) => ?_)
                  · refine zH_go 2 (c' := (192, [some (.inr (.inr (some 104))), some (.inl (a : Int)), some (.inl (b : Int)), some (.inl f), some (.inl (k : Int)), some (.inl 0), some (.inl (A : Int)), some (.inl (B : Int)), some (.inl 1)], [.inl (B : Int)], (zs g hl))) rfl ?_
                    refine kk ((B : Int), (some (.inl 1))) ?_
                    show zSd1 f (A : Int) (B : Int) (h 107 k) (a : Int) (zFa h B b) (zFa h a b) (B : Int)
                    unfold zSd1
                    omega
                  · refine zH_go 2 (c' := (183, [some (.inr (.inr (some 104))), some (.inl (a : Int)), some (.inl (b : Int)), some (.inl f), some (.inl (k : Int)), some (.inl 0), some (.inl (A : Int)), some (.inl (B : Int)), some (.inl 1)], [.inl f, .inl (B : Int)], (zs g hl))) rfl ?_
                    refine zH_br (x := (B : Int)) (y := f) (k := .ge) (c1 := (191, [some (.inr (.inr (some 104))), some (.inl (a : Int)), some (.inl (b : Int)), some (.inl f), some (.inl (k : Int)), some (.inl 0), some (.inl (A : Int)), some (.inl (B : Int)), some (.inl 1)], [], (zs g hl))) (c2 := (186, [some (.inr (.inr (some 104))), some (.inl (a : Int)), some (.inl (b : Int)), some (.inl f), some (.inl (k : Int)), some (.inl 0), some (.inl (A : Int)), some (.inl (B : Int)), some (.inl 1)], [], (zs g hl))) rfl (by first | assumption | (unfold zr; omega)) (by first | assumption | (unfold zr; omega)) (fun (b_15 : ¬ (B : Int) < f) => ?_) (fun (b_15 : ¬ (¬ (B : Int) < f)) => ?_)
                    · refine zH_go 1 (c' := (192, [some (.inr (.inr (some 104))), some (.inl (a : Int)), some (.inl (b : Int)), some (.inl f), some (.inl (k : Int)), some (.inl 0), some (.inl (A : Int)), some (.inl (B : Int)), some (.inl 1)], [.inl f], (zs g hl))) rfl ?_
                      refine kk (f, (some (.inl 1))) ?_
                      show zSd1 f (A : Int) (B : Int) (h 107 k) (a : Int) (zFa h B b) (zFa h a b) f
                      unfold zSd1
                      omega
                    · refine zH_go 2 (c' := (192, [some (.inr (.inr (some 104))), some (.inl (a : Int)), some (.inl (b : Int)), some (.inl f), some (.inl (k : Int)), some (.inl 0), some (.inl (A : Int)), some (.inl (B : Int)), some (.inl 1)], [.inl (B : Int)], (zs g hl))) rfl ?_
                      refine kk ((B : Int), (some (.inl 1))) ?_
                      show zSd1 f (A : Int) (B : Int) (h 107 k) (a : Int) (zFa h B b) (zFa h a b) (B : Int)
                      unfold zSd1
                      omega
          · obtain ⟨f, x5, x6, x7, x8⟩ := x
            replace hI : zWy h a b r f := hI
            show zH _ _ (40, [some (.inr (.inr (some 104))), some (.inl (a : Int)), some (.inl (b : Int)), some (.inl f), some (.inl (r : Int)), x5, x6, x7, x8], [], (zs g hl)) _
            refine zH_go 3 (c' := (46, [some (.inr (.inr (some 104))), some (.inl (a : Int)), some (.inl (b : Int)), some (.inl f), some (.inl (r : Int)), x5, x6, x7, x8], [.inl (g 104 4), .inl (r : Int)], (zs g hl))) rfl ?_
            rw [g4]
            refine zH_bt (x := (r : Int)) (y := (r : Int)) (k := .ge) (c1 := (205, [some (.inr (.inr (some 104))), some (.inl (a : Int)), some (.inl (b : Int)), some (.inl f), some (.inl (r : Int)), x5, x6, x7, x8], [], (zs g hl))) (c2 := (49, [some (.inr (.inr (some 104))), some (.inl (a : Int)), some (.inl (b : Int)), some (.inl f), some (.inl (r : Int)), x5, x6, x7, x8], [], (zs g hl))) rfl (by first | assumption | (unfold zr; omega)) (by first | assumption | (unfold zr; omega)) (by show ¬ (r : Int) < (r : Int); omega) ?_
            refine zH_go 1 (c' := (206, [some (.inr (.inr (some 104))), some (.inl (a : Int)), some (.inl (b : Int)), some (.inl f), some (.inl (r : Int)), x5, x6, x7, x8], [.inl f], (zs g hl))) rfl ?_
            refine zH_ret (v := some (.inl f)) rfl (fun q => absurd q (by decide)) ?_
            exact ⟨g, Or.inr ⟨by omega, _, by rw [Int.toNat_natCast, Int.toNat_natCast]; exact zWy_end hW (by omega) (by omega) (by omega) (by omega) hI, rfl, rfl⟩, Or.inr ⟨f1, f2⟩⟩
          · show zWy h a b 0 (-9)
            exact Or.inl ⟨rfl, fun k hk => absurd hk (Nat.not_lt_zero k)⟩
        · refine zH_go 3 (c' := (46, [some (.inr (.inr (some 104))), some (.inl (a : Int)), some (.inl (b : Int)), some (.inl (-9)), some (.inl 0), none, none, none, none], [.inl (g 104 4), .inl 0], (zs g hl))) rfl ?_
          rw [g4]
          refine zH_br (x := 0) (y := (r : Int)) (k := .ge) (c1 := (205, [some (.inr (.inr (some 104))), some (.inl (a : Int)), some (.inl (b : Int)), some (.inl (-9)), some (.inl 0), none, none, none, none], [], (zs g hl))) (c2 := (49, [some (.inr (.inr (some 104))), some (.inl (a : Int)), some (.inl (b : Int)), some (.inl (-9)), some (.inl 0), none, none, none, none], [], (zs g hl))) rfl ⟨by decide, by decide⟩ (by first | assumption | (unfold zr; omega)) (fun (b_16 : ¬ 0 < (r : Int)) => ?_) (fun (b_16 : ¬ (¬ 0 < (r : Int))) => ?_)
          · refine zH_go 1 (c' := (206, [some (.inr (.inr (some 104))), some (.inl (a : Int)), some (.inl (b : Int)), some (.inl (-9)), some (.inl 0), none, none, none, none], [.inl (-9)], (zs g hl))) rfl ?_
            refine zH_ret (v := some (.inl (-9))) rfl (fun q => absurd q (by decide)) ?_
            exact ⟨g, Or.inr ⟨by omega, _, Or.inr (Or.inl ⟨by rw [Int.toNat_natCast, Int.toNat_natCast]; omega, by rw [Int.toNat_natCast, Int.toNat_natCast]; omega, rfl⟩), rfl, rfl⟩, Or.inr ⟨f1, f2⟩⟩
          · refine zH_go 7 (c' := (59, [some (.inr (.inr (some 104))), some (.inl (a : Int)), some (.inl (b : Int)), some (.inl (-9)), some (.inl 0), none, none, none, none], [.inl ((6 * (a : Int)) + (b : Int)), .inr (.inr (some 108))], (zs g hl))) rfl ?_
            refine zH_np (P := 0 ≤ ((6 * (a : Int)) + (b : Int)) ∧ ((6 * (a : Int)) + (b : Int)) < ((36 : Nat) : Int)) (c' := (60, [some (.inr (.inr (some 104))), some (.inl (a : Int)), some (.inl (b : Int)), some (.inl (-9)), some (.inl 0), none, none, none, none], [.inl (g 108 ((6 * a) + b))], (zs g hl))) rfl ⟨by omega, by omega⟩ ?_
            rw [eab]
            refine zH_go 1 (c' := (62, [some (.inr (.inr (some 104))), some (.inl (a : Int)), some (.inl (b : Int)), some (.inl (-9)), some (.inl 0), none, none, none, none], [.inl 100000000, .inl (zFa h a b)], (zs g hl))) rfl ?_
            refine zH_br (x := (zFa h a b)) (y := 100000000) (k := .ge) (c1 := (205, [some (.inr (.inr (some 104))), some (.inl (a : Int)), some (.inl (b : Int)), some (.inl (-9)), some (.inl 0), none, none, none, none], [], (zs g hl))) (c2 := (65, [some (.inr (.inr (some 104))), some (.inl (a : Int)), some (.inl (b : Int)), some (.inl (-9)), some (.inl 0), none, none, none, none], [], (zs g hl))) rfl (by first | assumption | (unfold zr; omega)) ⟨by decide, by decide⟩ (fun (b_17 : ¬ (zFa h a b) < 100000000) => ?_) (fun (b_17 : ¬ (¬ (zFa h a b) < 100000000)) => ?_)
            · refine zH_go 1 (c' := (206, [some (.inr (.inr (some 104))), some (.inl (a : Int)), some (.inl (b : Int)), some (.inl (-9)), some (.inl 0), none, none, none, none], [.inl (-9)], (zs g hl))) rfl ?_
              refine zH_ret (v := some (.inl (-9))) rfl (fun q => absurd q (by decide)) ?_
              exact ⟨g, Or.inr ⟨by omega, _, Or.inr (Or.inl ⟨by rw [Int.toNat_natCast, Int.toNat_natCast]; omega, by rw [Int.toNat_natCast, Int.toNat_natCast]; omega, rfl⟩), rfl, rfl⟩, Or.inr ⟨f1, f2⟩⟩
            · exfalso
              omega
      · refine zH_go 1 (c' := (33, [some (.inr (.inr (some 104))), some (.inl (a : Int)), some (.inl (b : Int)), none, none, none, none, none, none], [.inl (b : Int)], (zs g hl))) rfl ?_
        refine zH_ret (v := some (.inl (b : Int))) rfl (fun q => absurd q (by decide)) ?_
        exact ⟨g, Or.inr ⟨by omega, _, Or.inl ⟨by rw [Int.toNat_natCast, Int.toNat_natCast]; omega, by rw [Int.toNat_natCast]⟩, rfl, rfl⟩, Or.inr ⟨f1, f2⟩⟩
    · show zH _ _ (18, [some (.inr (.inr (some 104))), some (.inl ia), some (.inl ib), none, none, none, none, none, none], [.inl 0], (zs h hl)) _
      refine zH_bf (x := 0) (y := 0) (k := .ne) (c1 := (23, [some (.inr (.inr (some 104))), some (.inl ia), some (.inl ib), none, none, none, none, none, none], [], (zs h hl))) (c2 := (21, [some (.inr (.inr (some 104))), some (.inl ia), some (.inl ib), none, none, none, none, none, none], [], (zs h hl))) rfl ⟨by decide, by decide⟩ ⟨by decide, by decide⟩ (by show ¬ (¬ 0 = 0); decide) ?_
      refine zH_go 1 (c' := (22, [some (.inr (.inr (some 104))), some (.inl ia), some (.inl ib), none, none, none, none, none, none], [.inl (-1)], (zs h hl))) rfl ?_
      refine zH_ret (v := some (.inl (-1))) rfl (fun q => absurd q (by decide)) ?_
      exact ⟨h, Or.inl ⟨by omega, rfl, rfl⟩, Or.inl rfl⟩
  · show zH _ _ (10, [some (.inr (.inr (some 104))), some (.inl ia), some (.inl ib), none, none, none, none, none, none], [.inl 0], (zs h hl)) _
    refine zH_bt (x := 0) (y := 0) (k := .eq) (c1 := (21, [some (.inr (.inr (some 104))), some (.inl ia), some (.inl ib), none, none, none, none, none, none], [], (zs h hl))) (c2 := (13, [some (.inr (.inr (some 104))), some (.inl ia), some (.inl ib), none, none, none, none, none, none], [], (zs h hl))) rfl ⟨by decide, by decide⟩ ⟨by decide, by decide⟩ (by show 0 = 0; decide) ?_
    refine zH_go 1 (c' := (22, [some (.inr (.inr (some 104))), some (.inl ia), some (.inl ib), none, none, none, none, none, none], [.inl (-1)], (zs h hl))) rfl ?_
    refine zH_ret (v := some (.inl (-1))) rfl (fun q => absurd q (by decide)) ?_
    exact ⟨h, Or.inl ⟨by omega, rfl, rfl⟩, Or.inl rfl⟩
