/-! THE PLAN. -/
def zPf (h : Nat → Nat → Int) (L : Nat) (pl : Nat → Nat) : Nat → Nat → Nat → Int
  | 0, _, _ => 0
  | j + 1, i, s => zm3 L (fun l => h (12 + zdg s l) (pl i) + zPf h L pl j (i + 1) (zwd s l (pl i)))
theorem zPf_sym {h : Nat → Nat → Int} {p L : Nat} {pl : Nat → Nat} (hp : p ≤ 6) (hL : 1 ≤ L ∧ L ≤ 3) : ∀ j i : Nat, (∀ q : Nat, i ≤ q → q < i + j → pl q < p) → zSym p L (zPf h L pl j i) := by
  intro j
  induction j with
  | zero => intro i _ X hX; exact ⟨fun _ => rfl, fun _ => rfl⟩
  | succ j ih =>
    intro i hpl X hX
    have hf := ih (i + 1) (fun q h1 h2 => hpl q (by omega) (by omega))
    have hv := hpl i (by omega) (by omega)
    have hXl := zSb_lt hL.2 hX
    have d := zsw_dg X hXl
    have w := zsw_wd X hXl (pl i) (by omega)
    constructor
    · intro h2
      have e0 := (hf _ (zSb_wd hp hL.2 hX (show 0 < L by omega) hv)).1 h2
      have e1 := (hf _ (zSb_wd hp hL.2 hX (show 1 < L by omega) hv)).1 h2
      show zm3 L _ = zm3 L _
      unfold zm3
      dsimp only
      rw [d.1.1, d.1.2.1, d.1.2.2, w.1.1, w.1.2.1, w.1.2.2, e0, e1]
      by_cases q : L = 2
      · rw [if_neg (by omega), if_pos q, if_neg (by omega), if_pos q]
        omega
      · rw [if_neg (by omega), if_neg q, if_neg (by omega), if_neg q]
        have e2 := (hf _ (zSb_wd hp hL.2 hX (show 2 < L by omega) hv)).1 h2
        rw [e2]
        omega
    · intro h3
      have e0 := (hf _ (zSb_wd hp hL.2 hX (show 0 < L by omega) hv)).2 h3
      have e1 := (hf _ (zSb_wd hp hL.2 hX (show 1 < L by omega) hv)).2 h3
      have e2 := (hf _ (zSb_wd hp hL.2 hX (show 2 < L by omega) hv)).2 h3
      show zm3 L _ = zm3 L _
      unfold zm3
      dsimp only
      rw [d.2.1, d.2.2.1, d.2.2.2, w.2.1, w.2.2.1, w.2.2.2, e0, e1, e2]
      rw [if_neg (by omega), if_neg (by omega), if_neg (by omega), if_neg (by omega)]
      omega
theorem zPf_b {h : Nat → Nat → Int} {p L : Nat} {pl : Nat → Nat} (hp : p ≤ 6) (hL : 1 ≤ L ∧ L ≤ 3) (hT : zTD h p) : ∀ j i : Nat, (∀ q : Nat, i ≤ q → q < i + j → pl q < p) → ∀ X : Nat, zSb p L X = true → 0 ≤ zPf h L pl j i X ∧ zPf h L pl j i X ≤ 1500 * (j : Int) := by
  intro j
  induction j with
  | zero => intro i _ X hX; exact ⟨Int.le_refl 0, Int.le_refl 0⟩
  | succ j ih =>
    intro i hpl X hX
    have hv := hpl i (by omega) (by omega)
    refine zm3_b hL (fun l hl => ?_)
    have a := ih (i + 1) (fun q h1 h2 => hpl q (by omega) (by omega)) _ (zSb_wd hp hL.2 hX hl hv)
    have b := hT.2.1 _ _ (zSb_dg hX hl) hv
    have c := (hT.1 (zdg X l) (pl i) (by have := zSb_dg hX hl; omega) (by omega)).1
    omega
theorem zPf_same {h g : Nat → Nat → Int} {L : Nat} {pl ql : Nat → Nat} (hs : ∀ c : Nat, 12 ≤ c → c < 20 → g c = h c) : ∀ j i : Nat, (∀ q : Nat, i ≤ q → q < i + j → pl q = ql q) → ∀ X : Nat, zPf g L pl j i X = zPf h L ql j i X := by
  intro j
  induction j with
  | zero => intro i _ X; rfl
  | succ j ih =>
    intro i hq X
    show zm3 L _ = zm3 L _
    congr 1
    funext l
    rw [ih (i + 1) (fun q h1 h2 => hq q (by omega) (by omega)), hq i (by omega) (by omega), hs _ (by omega) (by have := zdg_lt X l; omega)]
/-- what the first LADDERS of THE PLAN are -/
def zPc (h : Nat → Nat → Int) (L : Nat) (pl : Nat → Nat) (n i s l : Nat) : Int := h (12 + zdg s l) (pl i) + zPf h L pl (n - (i + 1)) (i + 1) (zwd s l (pl i))
def zFg (h : Nat → Nat → Int) (L : Nat) (pl : Nat → Nat) (n i s : Nat) : Nat := if zPc h L pl n i s 0 = zPf h L pl (n - i) i s then 0 else if zPc h L pl n i s 1 = zPf h L pl (n - i) i s then 1 else 2
def zPS (h : Nat → Nat → Int) (L B : Nat) (pl : Nat → Nat) (n : Nat) : Nat → Nat
  | 0 => B
  | i + 1 => zwd (zPS h L B pl n i) (zFg h L pl n i (zPS h L B pl n i)) (pl i)
def zPG (h : Nat → Nat → Int) (L B : Nat) (pl : Nat → Nat) (n i : Nat) : Nat := zFg h L pl n i (zPS h L B pl n i)
theorem zPf_c {h : Nat → Nat → Int} {L : Nat} {pl : Nat → Nat} {n i s : Nat} (hi : i < n) : zPf h L pl (n - i) i s = zm3 L (fun l => zPc h L pl n i s l) := by
  rw [show n - i = (n - (i + 1)) + 1 by omega]
  rfl
theorem zFg_eq {h : Nat → Nat → Int} {L : Nat} {pl : Nat → Nat} {n i s l : Nat} (hL : L ≤ 3) (hl : l < L) (h1 : zPc h L pl n i s l = zPf h L pl (n - i) i s) (h2 : ∀ j : Nat, j < l → ¬ zPc h L pl n i s j = zPf h L pl (n - i) i s) : l = zFg h L pl n i s := by
  unfold zFg
  rcases (show l = 0 ∨ l = 1 ∨ l = 2 by omega) with rfl | rfl | rfl
  · rw [if_pos h1]
  · rw [if_neg (h2 0 (by decide)), if_pos h1]
  · rw [if_neg (h2 0 (by decide)), if_neg (h2 1 (by decide))]
theorem zFg_lt {h : Nat → Nat → Int} {L : Nat} {pl : Nat → Nat} {n i s : Nat} (hL : 1 ≤ L ∧ L ≤ 3) (hi : i < n) : zFg h L pl n i s < L := by
  obtain ⟨l, l1, l2⟩ := zm3_at (fun l => zPc h L pl n i s l) hL
  rw [← zPf_c hi] at l2
  unfold zFg
  by_cases q0 : zPc h L pl n i s 0 = zPf h L pl (n - i) i s
  · rw [if_pos q0]; omega
  · rw [if_neg q0]
    by_cases q1 : zPc h L pl n i s 1 = zPf h L pl (n - i) i s
    · rw [if_pos q1]
      rcases (show l = 0 ∨ 0 < l by omega) with rfl | q
      · exact absurd l2.symm q0
      · omega
    · rw [if_neg q1]
      rcases (show l = 0 ∨ l = 1 ∨ 1 < l by omega) with rfl | rfl | q
      · exact absurd l2.symm q0
      · exact absurd l2.symm q1
      · omega
theorem zPS_sb {h : Nat → Nat → Int} {p L B : Nat} {pl : Nat → Nat} {n : Nat} (hp : p ≤ 6) (hL : 1 ≤ L ∧ L ≤ 3) (hB : zSb p L B = true) : ∀ i : Nat, i ≤ n → (∀ q : Nat, q < i → pl q < p) → zSb p L (zPS h L B pl n i) = true := by
  intro i
  induction i with
  | zero => intro _ _; exact hB
  | succ i ih => intro hi hpl; exact zSb_wd hp hL.2 (ih (by omega) (fun q hq => hpl q (by omega))) (zFg_lt hL (by omega)) (hpl i (by omega))
def zpr : Nat → Int
  | 0 => -1
  | k + 1 => (k : Int)
theorem zpr_eq (k : Nat) : (k : Int) + (-1) = zpr k := by
  cases k with
  | zero => rfl
  | succ k => show ((k + 1 : Nat) : Int) + (-1) = (k : Int); omega
/-- a row of what is still to pay -/
def zStl (h g : Nat → Nat → Int) (L : Nat) (pl : Nat → Nat) (n q : Nat) : Prop := ∀ s : Nat, (s : Int) < h 18 2 → g (68 + q) s = zPf h L pl (n - q) q (Int.toNat (h 19 s))
theorem zStl_at {h g : Nat → Nat → Int} {p L : Nat} {pl : Nat → Nat} {n q X : Nat} (hS : zSI h p L) (hpl : ∀ j : Nat, j < n → pl j < p) (hI : zStl h g L pl n q) (hX : zSb p L X = true) : g (68 + q) (Int.toNat (h 20 X)) = zPf h L pl (n - q) q X := by
  obtain ⟨hL3, hp6, s1, s2, s3, s4, s5⟩ := hS
  have a := s3 X (zSb_lt hL3.2 hX) hX
  rw [hI _ (by omega), a.2.2, Int.toNat_natCast]
  exact zSym_LL hL3 (zPf_sym hp6 hL3 (n - q) q (fun j h1 h2 => hpl j (by omega))) hX
theorem zStl_sd {h g : Nat → Nat → Int} {p L : Nat} {pl : Nat → Nat} {n i X l : Nat} (hS : zSI h p L) (hpl : ∀ j : Nat, j < n → pl j < p) (hi : i < n) (hg : ∀ c : Nat, c < 68 → g c = h c) (hI : zStl h g L pl n (i + 1)) (hX : zSb p L X = true) (hl : l < L) : zSd g i X l (pl i) = zPc h L pl n i X l := by
  have hp6 := hS.2.1
  have hL3 := hS.1
  unfold zSd zPc
  rw [hg _ (by have := zdg_lt X l; omega), hg 20 (by decide), zStl_at hS hpl hI (zSb_wd hp6 hL3.2 hX hl (hpl i hi))]
theorem zm3_c {L : Nat} {c e : Nat → Int} (hL : 1 ≤ L ∧ L ≤ 3) (h : ∀ l : Nat, l < L → c l = e l) : zm3 L c = zm3 L e := by
  unfold zm3
  rcases (show L = 1 ∨ L = 2 ∨ L = 3 by omega) with rfl | rfl | rfl
  · rw [if_pos rfl, if_pos rfl]; exact h 0 (by decide)
  · rw [if_neg (by decide), if_pos rfl, if_neg (by decide), if_pos rfl, h 0 (by decide), h 1 (by decide)]
  · rw [if_neg (by decide), if_neg (by decide), if_neg (by decide), if_neg (by decide), h 0 (by decide), h 1 (by decide), h 2 (by decide)]
set_option maxRecDepth 100000 in
set_option maxHeartbeats 4000000 in
theorem p_look {d : Nat} {h hl : Nat → Nat → Int} {p L B n m : Nat} {sp : Nat → Nat} (hD : zDID h p L B n sp) (hm : m ≤ n) (hn12 : n ≤ 12) : zQ (d + 5) 28 [.inr (.inr (some 66)), .inr (.inr (some 21)), .inl (m : Int)] (zs h hl) (fun r' σ' => r' = none ∧ ∃ g : Nat → Nat → Int, σ' = zs g hl ∧ (∀ c : Nat, c < 68 ∨ 80 < c → g c = h c) ∧ ∀ q : Nat, q ≤ m → zStl h g L (zpl h) m q) := by
  have hDc := hD
  obtain ⟨hS, hT, hBs, hL, hn, hn2, hB, htu, hsp, hspL, hsu, hR, hWk, hnk, hHE, hHz⟩ := hDc
  have hL3 := hS.1
  have hp6 := hS.2.1
  have hs2 := hS.2.2.2.1
  have hpl : ∀ j : Nat, j < m → zpl h j < p := fun j hj => (zpl_lt hD (by omega)).1
  refine zQ_of (Nat.le_of_ble_eq_true rfl) ?_
  show zH (d + 4) 28 (0, [some (.inr (.inr (some 66))), some (.inr (.inr (some 21))), some (.inl (m : Int)), none, none], [], (zs h hl)) _
  refine zH_go 2 (c' := (3, [some (.inr (.inr (some 66))), some (.inr (.inr (some 21))), some (.inl (m : Int)), none, none], [.inl 12, .inl (m : Int)], (zs h hl))) rfl ?_
  refine zH_np (P := zr (m : Int) ∧ zr 12) (c' := (6, [some (.inr (.inr (some 66))), some (.inr (.inr (some 21))), some (.inl (m : Int)), none, none], [.inl (if 12 < (m : Int) then 12 else (m : Int))], (zs h hl))) rfl ⟨(by first | assumption | (unfold zr; omega)), ⟨by decide, by decide⟩⟩ ?_
  obtain ⟨m_1, em_1, fm_1⟩ := zmin_spec (m : Int) 12
  rw [em_1]
  refine zH_go 1 (c' := (7, [some (.inr (.inr (some 66))), some (.inr (.inr (some 21))), some (.inl (m : Int)), some (.inl m_1), none], [], (zs h hl))) rfl ?_
  obtain rfl : m_1 = (m : Int) := by omega
  refine zH_dn (X := (Nat → Nat → Int) × (Option zV)) (F := fun (kq : Nat) (x : (Nat → Nat → Int) × (Option zV)) => (7, [some (.inr (.inr (some 66))), some (.inr (.inr (some 21))), some (.inl (m : Int)), some (.inl (zpr kq)), x.2], [], (zs x.1 hl))) (I := fun (kq : Nat) (x : (Nat → Nat → Int) × (Option zV)) => kq ≤ m + 1 ∧ (∀ c : Nat, c < 68 ∨ 80 < c → x.1 c = h c) ∧ ∀ q : Nat, kq ≤ q → q ≤ m → zStl h x.1 L (zpl h) m q) (fun k x hI ih => ?_) (fun x hI => ?_) (m + 1) (h, none) ?_
  · obtain ⟨g, x4⟩ := x
    replace hI : k + 1 ≤ m + 1 ∧ (∀ c : Nat, c < 68 ∨ 80 < c → g c = h c) ∧ ∀ q : Nat, (k + 1) ≤ q → q ≤ m → zStl h g L (zpl h) m q := hI
    show zH _ _ (7, [some (.inr (.inr (some 66))), some (.inr (.inr (some 21))), some (.inl (m : Int)), some (.inl (k : Int)), x4], [], (zs g hl)) _
    obtain ⟨hkm, hI1, hI2⟩ := hI
    have hSg := zSI_same (g := g) hS (hI1 18 (by decide)) (hI1 19 (by decide)) (hI1 20 (by decide))
    have g18 : g 18 = h 18 := hI1 18 (by decide)
    obtain ⟨cc, hcc⟩ := Int.eq_ofNat_of_zero_le hs2.1
    refine zH_go 1 (c' := (8, [some (.inr (.inr (some 66))), some (.inr (.inr (some 21))), some (.inl (m : Int)), some (.inl (k : Int)), x4], [.inl (k : Int)], (zs g hl))) rfl ?_
    refine zH_bf (x := (k : Int)) (y := 0) (k := .lt) (c1 := (78, [some (.inr (.inr (some 66))), some (.inr (.inr (some 21))), some (.inl (m : Int)), some (.inl (k : Int)), x4], [], (zs g hl))) (c2 := (11, [some (.inr (.inr (some 66))), some (.inr (.inr (some 21))), some (.inl (m : Int)), some (.inl (k : Int)), x4], [], (zs g hl))) rfl (by first | assumption | (unfold zr; omega)) ⟨by decide, by decide⟩ (by show ¬ ((k : Int) < 0); omega) ?_
    refine zH_go 2 (c' := (14, [some (.inr (.inr (some 66))), some (.inr (.inr (some 21))), some (.inl (m : Int)), some (.inl (k : Int)), some (.inl 0)], [], (zs g hl))) rfl ?_
    refine zH_lp (X := (Nat → Nat → Int)) (F := fun (kq : Nat) (x : (Nat → Nat → Int)) => (14, [some (.inr (.inr (some 66))), some (.inr (.inr (some 21))), some (.inl (m : Int)), some (.inl (k : Int)), some (.inl (kq : Int))], [], (zs x hl))) (I := fun (kq : Nat) (x : (Nat → Nat → Int)) => (∀ c : Nat, c ≠ 68 + k → x c = g c) ∧ ∀ s : Nat, s < kq → (s : Int) < h 18 2 → x (68 + k) s = zPf h L (zpl h) (m - k) k (Int.toNat (h 19 s))) (N := cc) (fun t g2 hkt hJ ih2 => ?_) (fun g2 hJ => ?_) 0 g (by omega) ?_
    · skip
      replace hJ : (∀ c : Nat, c ≠ 68 + k → g2 c = g c) ∧ ∀ s : Nat, s < t → (s : Int) < h 18 2 → g2 (68 + k) s = zPf h L (zpl h) (m - k) k (Int.toNat (h 19 s)) := hJ
      show zH _ _ (14, [some (.inr (.inr (some 66))), some (.inr (.inr (some 21))), some (.inl (m : Int)), some (.inl (k : Int)), some (.inl (t : Int))], [], (zs g2 hl)) _
      have f2 : ∀ c : Nat, c < 68 → g2 c = h c := fun c hc => by rw [hJ.1 c (by omega)]; exact hI1 c (by omega)
      have g2c : g2 18 2 = (cc : Int) := by rw [f2 18 (by decide)]; exact hcc
      obtain ⟨X, x1, x2, x3, x4, x5⟩ := hS.2.2.2.2.2.2 t (by omega)
      have eX : g2 19 t = (X : Int) := by rw [f2 19 (by decide)]; exact x4
      refine zH_go 4 (c' := (23, [some (.inr (.inr (some 66))), some (.inr (.inr (some 21))), some (.inl (m : Int)), some (.inl (k : Int)), some (.inl (t : Int))], [.inl (g2 18 2), .inl (t : Int)], (zs g2 hl))) rfl ?_
      rw [g2c]
      refine zH_bf (x := (t : Int)) (y := (cc : Int)) (k := .ge) (c1 := (72, [some (.inr (.inr (some 66))), some (.inr (.inr (some 21))), some (.inl (m : Int)), some (.inl (k : Int)), some (.inl (t : Int))], [], (zs g2 hl))) (c2 := (26, [some (.inr (.inr (some 66))), some (.inr (.inr (some 21))), some (.inl (m : Int)), some (.inl (k : Int)), some (.inl (t : Int))], [], (zs g2 hl))) rfl (by first | assumption | (unfold zr; omega)) (by first | assumption | (unfold zr; omega)) (by show ¬ (¬ (t : Int) < (cc : Int)); omega) ?_
      refine zH_go 2 (c' := (30, [some (.inr (.inr (some 66))), some (.inr (.inr (some 21))), some (.inl (m : Int)), some (.inl (k : Int)), some (.inl (t : Int))], [.inl 56, .inl (t : Int)], (zs g2 hl))) rfl ?_
      refine zH_bf (x := (t : Int)) (y := 56) (k := .ge) (c1 := (72, [some (.inr (.inr (some 66))), some (.inr (.inr (some 21))), some (.inl (m : Int)), some (.inl (k : Int)), some (.inl (t : Int))], [], (zs g2 hl))) (c2 := (33, [some (.inr (.inr (some 66))), some (.inr (.inr (some 21))), some (.inl (m : Int)), some (.inl (k : Int)), some (.inl (t : Int))], [], (zs g2 hl))) rfl (by first | assumption | (unfold zr; omega)) ⟨by decide, by decide⟩ (by show ¬ (¬ (t : Int) < 56); omega) ?_
      refine zH_go 3 (c' := (38, [some (.inr (.inr (some 66))), some (.inr (.inr (some 21))), some (.inl (m : Int)), some (.inl (k : Int)), some (.inl (t : Int))], [.inl (k : Int), .inr (.inr (some 67))], (zs g2 hl))) rfl ?_
      refine zH_aal (A := 67) (n := 13) (b := 68 + k) rfl rfl (by omega) (by omega) (zhr_67 (by omega)) ?_
      show zH _ _ (39, [some (.inr (.inr (some 66))), some (.inr (.inr (some 21))), some (.inl (m : Int)), some (.inl (k : Int)), some (.inl (t : Int))], [.inr (.inr (some (68 + k)))], (zs g2 hl)) _
      refine zH_go 3 (c' := (43, [some (.inr (.inr (some 66))), some (.inr (.inr (some 21))), some (.inl (m : Int)), some (.inl (k : Int)), some (.inl (t : Int))], [.inl (m : Int), .inl (k : Int), .inl (t : Int), .inr (.inr (some (68 + k)))], (zs g2 hl))) rfl ?_
      refine zH_mg (F := fun mq => (65, [some (.inr (.inr (some 66))), some (.inr (.inr (some 21))), some (.inl (m : Int)), some (.inl (k : Int)), some (.inl (t : Int))], [.inl mq, .inl (t : Int), .inr (.inr (some (68 + k)))], (zs g2 hl))) (R := fun mq => mq = zPf h L (zpl h) (m - k) k X) (fun m_2 fm_2 => ?_) (fun kk => ?_)
      · replace fm_2 : m_2 = zPf h L (zpl h) (m - k) k X := fm_2
        show zH _ _ (65, [some (.inr (.inr (some 66))), some (.inr (.inr (some 21))), some (.inl (m : Int)), some (.inl (k : Int)), some (.inl (t : Int))], [.inl m_2, .inl (t : Int), .inr (.inr (some (68 + k)))], (zs g2 hl)) _
        refine zH_ias rfl (n := 56) (zsh_67 (by omega)) (by omega) (by omega) ?_
        show zH _ _ (66, [some (.inr (.inr (some 66))), some (.inr (.inr (some 21))), some (.inl (m : Int)), some (.inl (k : Int)), some (.inl (t : Int))], [], (zs (zup g2 (68 + k) t m_2) hl)) _
        refine zH_go 2 (c' := (14, [some (.inr (.inr (some 66))), some (.inr (.inr (some 21))), some (.inl (m : Int)), some (.inl (k : Int)), some (.inl ((t : Int) + 1))], [], (zs (zup g2 (68 + k) t m_2) hl))) rfl ?_
        refine ih2 (zup g2 (68 + k) t m_2) ?_
        show (∀ c : Nat, c ≠ 68 + k → (zup g2 (68 + k) t m_2) c = g c) ∧ ∀ s : Nat, s < (t + 1) → (s : Int) < h 18 2 → (zup g2 (68 + k) t m_2) (68 + k) s = zPf h L (zpl h) (m - k) k (Int.toNat (h 19 s))
        refine ⟨fun c hc => ?_, fun s hs hs2 => ?_⟩
        · rw [← hJ.1 c hc]; funext q; exact zup_ne hc
        · by_cases q : s = t
          · rw [q, zup_eq, x4, Int.toNat_natCast]; exact fm_2
          · rw [zup_k q]; exact hJ.2 s (by omega) hs2
      · refine zH_br (x := (k : Int)) (y := (m : Int)) (k := .ne) (c1 := (50, [some (.inr (.inr (some 66))), some (.inr (.inr (some 21))), some (.inl (m : Int)), some (.inl (k : Int)), some (.inl (t : Int))], [.inl (t : Int), .inr (.inr (some (68 + k)))], (zs g2 hl))) (c2 := (46, [some (.inr (.inr (some 66))), some (.inr (.inr (some 21))), some (.inl (m : Int)), some (.inl (k : Int)), some (.inl (t : Int))], [.inl (t : Int), .inr (.inr (some (68 + k)))], (zs g2 hl))) rfl (by first | assumption | (unfold zr; omega)) (by first | assumption | (unfold zr; omega)) (fun (b_3 : ¬ (k : Int) = (m : Int)) => ?_) (fun (b_3 : ¬ (¬ (k : Int) = (m : Int))) => ?_)
        · refine zH_go 6 (c' := (59, [some (.inr (.inr (some 66))), some (.inr (.inr (some 21))), some (.inl (m : Int)), some (.inl (k : Int)), some (.inl (t : Int))], [.inl (t : Int), .inr (.inr (some 18)), .inl (k : Int), .inr (.inr (some 21)), .inr (.inr (some 66)), .inl (t : Int), .inr (.inr (some (68 + k)))], (zs g2 hl))) rfl ?_
          refine zH_call (M' := 45) (as := [.inr (.inr (some 18)), .inl (t : Int)]) (T := [.inl (k : Int), .inr (.inr (some 21)), .inr (.inr (some 66)), .inl (t : Int), .inr (.inr (some (68 + k)))]) rfl (p_number (s := t) (by omega) (by rw [g2c]; omega) (by omega)) (fun r σ' p_4 => ?_)
          obtain ⟨rfl, rfl⟩ := p_4
          rw [eX]
          show zH _ _ (62, [some (.inr (.inr (some 66))), some (.inr (.inr (some 21))), some (.inl (m : Int)), some (.inl (k : Int)), some (.inl (t : Int))], [.inl (X : Int), .inl (k : Int), .inr (.inr (some 21)), .inr (.inr (some 66)), .inl (t : Int), .inr (.inr (some (68 + k)))], (zs g2 hl)) _
          have hkm2 : k < m := by omega
          have hS2 := zSI_same (g := g2) hS (f2 18 (by decide)) (f2 19 (by decide)) (f2 20 (by decide))
          have hT2 := zTD_same (g := g2) hp6 hT (fun c hc => f2 c (by omega))
          have hPh : zPh g2 p L k (zpl h k) := ⟨hS2, hT2.1, by rw [f2 42 (by decide)]; exact (zpl_lt hD (by omega)).2, hpl k hkm2, by rw [f2 21 (by decide)]; omega, by rw [f2 21 (by decide)]; omega⟩
          have hst : zStl h g2 L (zpl h) m (k + 1) := fun s hs => by rw [hJ.1 (68 + (k + 1)) (by omega)]; exact hI2 (k + 1) (Nat.le_refl _) (by omega) s hs
          have hsd : ∀ l : Nat, l < L → zSd g2 k X l (zpl h k) = zPc h L (zpl h) m k X l := fun l hl => zStl_sd hS hpl hkm2 f2 hst x2 hl
          have hcb : ∀ l : Nat, l < L → 0 ≤ zPc h L (zpl h) m k X l ∧ zPc h L (zpl h) m k X l ≤ 1000000 := fun l hl => by
            have a := zPf_b (h := h) (pl := zpl h) hp6 hL3 hT (m - (k + 1)) (k + 1) (fun q h1 h2 => hpl q (by omega)) _ (zSb_wd hp6 hL3.2 x2 hl (hpl k hkm2))
            have b := hT.2.1 _ _ (zSb_dg x2 hl) (hpl k hkm2)
            have c := (hT.1 (zdg X l) (zpl h k) (by have := zSb_dg x2 hl; omega) (by have := hpl k hkm2; omega)).1
            unfold zPc
            omega
          refine zH_call (M' := 29) (as := [.inr (.inr (some 66)), .inr (.inr (some 21)), .inl (k : Int), .inl (X : Int)]) (T := [.inl (t : Int), .inr (.inr (some (68 + k)))]) rfl (p_cheap (p := p) (L := L) (i := k) (s := X) (pq := zpl h k) hPh x2 (fun l hl => by rw [hsd l hl]; exact hcb l hl)) (fun r σ' p_5 => ?_)
          obtain ⟨rfl, rfl⟩ := p_5
          have evm : zm3 L (fun l => zSd g2 k X l (zpl h k)) = zPf h L (zpl h) (m - k) k X := by
            rw [zPf_c hkm2]
            exact zm3_c hL3 (fun l hl => hsd l hl)
          rw [evm]
          show zH _ _ (65, [some (.inr (.inr (some 66))), some (.inr (.inr (some 21))), some (.inl (m : Int)), some (.inl (k : Int)), some (.inl (t : Int))], [.inl (zPf h L (zpl h) (m - k) k X), .inl (t : Int), .inr (.inr (some (68 + k)))], (zs g2 hl)) _
          refine kk (zPf h L (zpl h) (m - k) k X) ?_
          show (zPf h L (zpl h) (m - k) k X) = zPf h L (zpl h) (m - k) k X
          rfl
        · refine zH_go 2 (c' := (65, [some (.inr (.inr (some 66))), some (.inr (.inr (some 21))), some (.inl (m : Int)), some (.inl (k : Int)), some (.inl (t : Int))], [.inl 0, .inl (t : Int), .inr (.inr (some (68 + k)))], (zs g2 hl))) rfl ?_
          refine kk 0 ?_
          show 0 = zPf h L (zpl h) (m - k) k X
          have ekm : k = m := by omega
          rw [ekm, Nat.sub_self]
          rfl
    · skip
      replace hJ : (∀ c : Nat, c ≠ 68 + k → g2 c = g c) ∧ ∀ s : Nat, s < cc → (s : Int) < h 18 2 → g2 (68 + k) s = zPf h L (zpl h) (m - k) k (Int.toNat (h 19 s)) := hJ
      show zH _ _ (14, [some (.inr (.inr (some 66))), some (.inr (.inr (some 21))), some (.inl (m : Int)), some (.inl (k : Int)), some (.inl (cc : Int))], [], (zs g2 hl)) _
      have f2 : ∀ c : Nat, c < 68 → g2 c = h c := fun c hc => by rw [hJ.1 c (by omega)]; exact hI1 c (by omega)
      have g2c : g2 18 2 = (cc : Int) := by rw [f2 18 (by decide)]; exact hcc
      refine zH_go 4 (c' := (23, [some (.inr (.inr (some 66))), some (.inr (.inr (some 21))), some (.inl (m : Int)), some (.inl (k : Int)), some (.inl (cc : Int))], [.inl (g2 18 2), .inl (cc : Int)], (zs g2 hl))) rfl ?_
      rw [g2c]
      refine zH_bt (x := (cc : Int)) (y := (cc : Int)) (k := .ge) (c1 := (72, [some (.inr (.inr (some 66))), some (.inr (.inr (some 21))), some (.inl (m : Int)), some (.inl (k : Int)), some (.inl (cc : Int))], [], (zs g2 hl))) (c2 := (26, [some (.inr (.inr (some 66))), some (.inr (.inr (some 21))), some (.inl (m : Int)), some (.inl (k : Int)), some (.inl (cc : Int))], [], (zs g2 hl))) rfl (by first | assumption | (unfold zr; omega)) (by first | assumption | (unfold zr; omega)) (by show ¬ (cc : Int) < (cc : Int); omega) ?_
      refine zH_go 2 (c' := (7, [some (.inr (.inr (some 66))), some (.inr (.inr (some 21))), some (.inl (m : Int)), some (.inl ((k : Int) + (-1))), some (.inl (cc : Int))], [], (zs g2 hl))) rfl ?_
      rw [zpr_eq k]
      refine ih (g2, (some (.inl (cc : Int)))) ?_
      show k ≤ m + 1 ∧ (∀ c : Nat, c < 68 ∨ 80 < c → g2 c = h c) ∧ ∀ q : Nat, k ≤ q → q ≤ m → zStl h g2 L (zpl h) m q
      refine ⟨by omega, fun c hc => by rw [hJ.1 c (by omega)]; exact hI1 c hc, fun q h1 h2 => ?_⟩
      by_cases w : q = k
      · rw [w]; exact fun s hs => hJ.2 s (by omega) hs
      · intro s hs
        rw [hJ.1 (68 + q) (by omega)]
        exact hI2 q (by omega) h2 s hs
    · show (∀ c : Nat, c ≠ 68 + k → g c = g c) ∧ ∀ s : Nat, s < 0 → (s : Int) < h 18 2 → g (68 + k) s = zPf h L (zpl h) (m - k) k (Int.toNat (h 19 s))
      exact ⟨fun c hc => rfl, fun s hs => absurd hs (Nat.not_lt_zero s)⟩
  · obtain ⟨g, x4⟩ := x
    replace hI : 0 ≤ m + 1 ∧ (∀ c : Nat, c < 68 ∨ 80 < c → g c = h c) ∧ ∀ q : Nat, 0 ≤ q → q ≤ m → zStl h g L (zpl h) m q := hI
    show zH _ _ (7, [some (.inr (.inr (some 66))), some (.inr (.inr (some 21))), some (.inl (m : Int)), some (.inl (-1)), x4], [], (zs g hl)) _
    refine zH_go 1 (c' := (8, [some (.inr (.inr (some 66))), some (.inr (.inr (some 21))), some (.inl (m : Int)), some (.inl (-1)), x4], [.inl (-1)], (zs g hl))) rfl ?_
    refine zH_bt (x := (-1)) (y := 0) (k := .lt) (c1 := (78, [some (.inr (.inr (some 66))), some (.inr (.inr (some 21))), some (.inl (m : Int)), some (.inl (-1)), x4], [], (zs g hl))) (c2 := (11, [some (.inr (.inr (some 66))), some (.inr (.inr (some 21))), some (.inl (m : Int)), some (.inl (-1)), x4], [], (zs g hl))) rfl ⟨by decide, by decide⟩ ⟨by decide, by decide⟩ (by show (-1) < 0; decide) ?_
    refine zH_ret (v := none) rfl (fun q => absurd q (by decide)) ?_
    exact ⟨rfl, g, rfl, hI.2.1, fun q hq => hI.2.2 q (Nat.zero_le q) hq⟩
  · show m + 1 ≤ m + 1 ∧ (∀ c : Nat, c < 68 ∨ 80 < c → h c = h c) ∧ ∀ q : Nat, (m + 1) ≤ q → q ≤ m → zStl h h L (zpl h) m q
    exact ⟨Nat.le_refl _, fun c hc => rfl, fun q h1 h2 => absurd h1 (by omega)⟩
set_option maxRecDepth 100000 in
set_option maxHeartbeats 4000000 in
theorem p_goer {d : Nat} {h hl : Nat → Nat → Int} {g : Nat → Nat → Int} {p L B n m i : Nat} {sp : Nat → Nat} (hD : zDID h p L B n sp) (hm : m ≤ n) (hn12 : n ≤ 12) (hi : i < m) (hg : ∀ c : Nat, c < 68 ∨ 80 < c → g c = h c) (hq : ∀ q : Nat, q ≤ m → zStl h g L (zpl h) m q) : zQ (d + 5) 32 [.inr (.inr (some 66)), .inr (.inr (some 21)), .inl (i : Int)] (zs g hl) (zI1 ((zPG h L B (zpl h) m i : Nat) : Int) (zs g hl)) := by
  have hDc := hD
  obtain ⟨hS, hT, hBs, hL, hn, hn2, hB, htu, hsp, hspL, hsu, hR, hWk, hnk, hHE, hHz⟩ := hDc
  have hL3 := hS.1
  have hp6 := hS.2.1
  have hs2 := hS.2.2.2.1
  have hpl : ∀ j : Nat, j < m → zpl h j < p := fun j hj => (zpl_lt hD (by omega)).1
  have gB : g 21 5 = (B : Int) := by rw [hg 21 (by decide)]; exact hB
  have hSg := zSI_same (g := g) hS (hg 18 (by decide)) (hg 19 (by decide)) (hg 20 (by decide))
  have hTg := zTD_same (g := g) hp6 hT (fun c hc => hg c (by omega))
  refine zQ_of (Nat.le_of_ble_eq_true rfl) ?_
  show zH (d + 4) 32 (0, [some (.inr (.inr (some 66))), some (.inr (.inr (some 21))), some (.inl (i : Int)), none, none, none], [], (zs g hl)) _
  refine zH_go 2 (c' := (4, [some (.inr (.inr (some 66))), some (.inr (.inr (some 21))), some (.inl (i : Int)), none, none, none], [.inl (g 21 5)], (zs g hl))) rfl ?_
  rw [gB]
  refine zH_go 5 (c' := (11, [some (.inr (.inr (some 66))), some (.inr (.inr (some 21))), some (.inl (i : Int)), some (.inl (B : Int)), some (.inl 0), some (.inl 0)], [], (zs g hl))) rfl ?_
  refine zH_lp (X := Int × Int) (F := fun (kq : Nat) (x : Int × Int) => (11, [some (.inr (.inr (some 66))), some (.inr (.inr (some 21))), some (.inl (i : Int)), some (.inl x.1), some (.inl x.2), some (.inl (kq : Int))], [], (zs g hl))) (I := fun (kq : Nat) (x : Int × Int) => x.1 = ((zPS h L B (zpl h) m (kq) : Nat) : Int) ∧ ((kq = 0 ∧ x.2 = 0) ∨ ∃ j : Nat, kq = j + 1 ∧ x.2 = ((zPG h L B (zpl h) m j : Nat) : Int))) (N := (i + 1)) (fun k x hk hI ih => ?_) (fun x hI => ?_) 0 ((B : Int), 0) (by omega) ?_
  · obtain ⟨sd, go⟩ := x
    replace hI : sd = ((zPS h L B (zpl h) m (k) : Nat) : Int) ∧ ((k = 0 ∧ go = 0) ∨ ∃ j : Nat, k = j + 1 ∧ go = ((zPG h L B (zpl h) m j : Nat) : Int)) := hI
    show zH _ _ (11, [some (.inr (.inr (some 66))), some (.inr (.inr (some 21))), some (.inl (i : Int)), some (.inl sd), some (.inl go), some (.inl (k : Int))], [], (zs g hl)) _
    obtain ⟨rfl, hJ⟩ := hI
    have hX := zPS_sb (h := h) (pl := zpl h) (n := m) hp6 hL3 hBs k (by omega) (fun q hq => hpl q (by omega))
    have hkm2 : k < m := by omega
    have hXl := zSb_lt hL3.2 hX
    have hst : zStl h g L (zpl h) m (k + 1) := hq (k + 1) (by omega)
    have hsd : ∀ l : Nat, l < L → zSd g k (zPS h L B (zpl h) m k) l (zpl h k) = zPc h L (zpl h) m k (zPS h L B (zpl h) m k) l := fun l hl => zStl_sd hS hpl hkm2 (fun c hc => hg c (Or.inl hc)) hst hX hl
    have hrow : g (68 + k) (Int.toNat (g 20 (zPS h L B (zpl h) m k))) = zPf h L (zpl h) (m - k) k (zPS h L B (zpl h) m k) := by rw [hg 20 (by decide)]; exact zStl_at hS hpl (hq k (by omega)) hX
    have hcb : ∀ l : Nat, l < L → 0 ≤ zPc h L (zpl h) m k (zPS h L B (zpl h) m k) l ∧ zPc h L (zpl h) m k (zPS h L B (zpl h) m k) l ≤ 1000000 := fun l hl => by
      have a := zPf_b (h := h) (pl := zpl h) hp6 hL3 hT (m - (k + 1)) (k + 1) (fun q h1 h2 => hpl q (by omega)) _ (zSb_wd hp6 hL3.2 hX hl (hpl k hkm2))
      have b := hT.2.1 _ _ (zSb_dg hX hl) (hpl k hkm2)
      have c := (hT.1 (zdg (zPS h L B (zpl h) m k) l) (zpl h k) (by have := zSb_dg hX hl; omega) (by have := hpl k hkm2; omega)).1
      unfold zPc
      omega
    have hfb := zPf_b (h := h) (pl := zpl h) hp6 hL3 hT (m - k) k (fun q h1 h2 => hpl q (by omega)) _ hX
    have hPh : zPh g p L k (zpl h k) := ⟨hSg, hTg.1, by rw [hg 42 (by decide)]; exact (zpl_lt hD (by omega)).2, hpl k hkm2, by rw [hg 21 (by decide)]; omega, by rw [hg 21 (by decide)]; omega⟩
    show zH _ _ (11, [some (.inr (.inr (some 66))), some (.inr (.inr (some 21))), some (.inl (i : Int)), some (.inl ((zPS h L B (zpl h) m k : Nat) : Int)), some (.inl go), some (.inl (k : Int))], [], (zs g hl)) _
    refine zH_go 2 (c' := (14, [some (.inr (.inr (some 66))), some (.inr (.inr (some 21))), some (.inl (i : Int)), some (.inl ((zPS h L B (zpl h) m k : Nat) : Int)), some (.inl go), some (.inl (k : Int))], [.inl (i : Int), .inl (k : Int)], (zs g hl))) rfl ?_
    refine zH_bf (x := (k : Int)) (y := (i : Int)) (k := .gt) (c1 := (53, [some (.inr (.inr (some 66))), some (.inr (.inr (some 21))), some (.inl (i : Int)), some (.inl ((zPS h L B (zpl h) m k : Nat) : Int)), some (.inl go), some (.inl (k : Int))], [], (zs g hl))) (c2 := (17, [some (.inr (.inr (some 66))), some (.inr (.inr (some 21))), some (.inl (i : Int)), some (.inl ((zPS h L B (zpl h) m k : Nat) : Int)), some (.inl go), some (.inl (k : Int))], [], (zs g hl))) rfl (by first | assumption | (unfold zr; omega)) (by first | assumption | (unfold zr; omega)) (by show ¬ ((i : Int) < (k : Int)); omega) ?_
    refine zH_go 2 (c' := (21, [some (.inr (.inr (some 66))), some (.inr (.inr (some 21))), some (.inl (i : Int)), some (.inl ((zPS h L B (zpl h) m k : Nat) : Int)), some (.inl go), some (.inl (k : Int))], [.inl 12, .inl (k : Int)], (zs g hl))) rfl ?_
    refine zH_bf (x := (k : Int)) (y := 12) (k := .ge) (c1 := (53, [some (.inr (.inr (some 66))), some (.inr (.inr (some 21))), some (.inl (i : Int)), some (.inl ((zPS h L B (zpl h) m k : Nat) : Int)), some (.inl go), some (.inl (k : Int))], [], (zs g hl))) (c2 := (24, [some (.inr (.inr (some 66))), some (.inr (.inr (some 21))), some (.inl (i : Int)), some (.inl ((zPS h L B (zpl h) m k : Nat) : Int)), some (.inl go), some (.inl (k : Int))], [], (zs g hl))) rfl (by first | assumption | (unfold zr; omega)) ⟨by decide, by decide⟩ (by show ¬ (¬ (k : Int) < 12); omega) ?_
    refine zH_go 4 (c' := (29, [some (.inr (.inr (some 66))), some (.inr (.inr (some 21))), some (.inl (i : Int)), some (.inl ((zPS h L B (zpl h) m k : Nat) : Int)), some (.inl go), some (.inl (k : Int))], [.inl ((zPS h L B (zpl h) m k : Nat) : Int), .inl (k : Int), .inr (.inr (some 21)), .inr (.inr (some 66))], (zs g hl))) rfl ?_
    refine zH_call (M' := 33) (as := [.inr (.inr (some 66)), .inr (.inr (some 21)), .inl (k : Int), .inl ((zPS h L B (zpl h) m k : Nat) : Int)]) (T := []) rfl (p_first (p := p) (L := L) (i := k) (s := zPS h L B (zpl h) m k) (pq := zpl h k) hPh hX (fun l hl => by rw [hsd l hl]; exact hcb l hl) (by rw [hrow]; exact ⟨by omega, by omega⟩) (by rw [hrow, zPf_c hkm2]; obtain ⟨l, l1, l2⟩ := zm3_at (fun l => zPc h L (zpl h) m k (zPS h L B (zpl h) m k) l) hL3; exact ⟨l, l1, by rw [hsd l l1]; exact l2.symm⟩)) (fun r σ' p_1 => ?_)
    obtain ⟨l, l1, l2, l3, rfl, rfl⟩ := p_1
    rw [hsd l l1, hrow] at l2
    have efl : l = zFg h L (zpl h) m k (zPS h L B (zpl h) m k) := zFg_eq hL3.2 l1 l2 (fun j hj => by have := l3 j hj; rw [hsd j (by omega), hrow] at this; exact this)
    show zH _ _ (32, [some (.inr (.inr (some 66))), some (.inr (.inr (some 21))), some (.inl (i : Int)), some (.inl ((zPS h L B (zpl h) m k : Nat) : Int)), some (.inl go), some (.inl (k : Int))], [.inl (l : Int)], (zs g hl)) _
    refine zH_go 5 (c' := (40, [some (.inr (.inr (some 66))), some (.inr (.inr (some 21))), some (.inl (i : Int)), some (.inl ((zPS h L B (zpl h) m k : Nat) : Int)), some (.inl (l : Int)), some (.inl (k : Int))], [.inl (k : Int), .inr (.inr (some 21)), .inl (l : Int), .inl ((zPS h L B (zpl h) m k : Nat) : Int)], (zs g hl))) rfl ?_
    refine zH_call (M' := 23) (as := [.inr (.inr (some 21)), .inl (k : Int)]) (T := [.inl (l : Int), .inl ((zPS h L B (zpl h) m k : Nat) : Int)]) rfl (p_placeOfD (i := k) (by omega) (by rw [hg 21 (by decide)]; omega) (by rw [hg 21 (by decide)]; omega)) (fun r σ' p_2 => ?_)
    obtain ⟨rfl, rfl⟩ := p_2
    rw [show g 42 k = ((zpl h k : Nat) : Int) by rw [hg 42 (by decide)]; exact (zpl_lt hD (by omega)).2]
    show zH _ _ (43, [some (.inr (.inr (some 66))), some (.inr (.inr (some 21))), some (.inl (i : Int)), some (.inl ((zPS h L B (zpl h) m k : Nat) : Int)), some (.inl (l : Int)), some (.inl (k : Int))], [.inl ((zpl h k : Nat) : Int), .inl (l : Int), .inl ((zPS h L B (zpl h) m k : Nat) : Int)], (zs g hl)) _
    refine zH_call (M' := 101) (as := [.inl ((zPS h L B (zpl h) m k : Nat) : Int), .inl (l : Int), .inl ((zpl h k : Nat) : Int)]) (T := []) rfl (p_withDigit (n := zPS h L B (zpl h) m k) (i := l) (v := zpl h k) hXl (by omega) (by have := hpl k hkm2; omega)) (fun r σ' p_3 => ?_)
    obtain ⟨rfl, rfl⟩ := p_3
    show zH _ _ (46, [some (.inr (.inr (some 66))), some (.inr (.inr (some 21))), some (.inl (i : Int)), some (.inl ((zPS h L B (zpl h) m k : Nat) : Int)), some (.inl (l : Int)), some (.inl (k : Int))], [.inl ((zwd (zPS h L B (zpl h) m k) l (zpl h k) : Nat) : Int)], (zs g hl)) _
    refine zH_go 3 (c' := (11, [some (.inr (.inr (some 66))), some (.inr (.inr (some 21))), some (.inl (i : Int)), some (.inl ((zwd (zPS h L B (zpl h) m k) l (zpl h k) : Nat) : Int)), some (.inl (l : Int)), some (.inl ((k : Int) + 1))], [], (zs g hl))) rfl ?_
    refine ih (((zwd (zPS h L B (zpl h) m k) l (zpl h k) : Nat) : Int), (l : Int)) ?_
    show ((zwd (zPS h L B (zpl h) m k) l (zpl h k) : Nat) : Int) = ((zPS h L B (zpl h) m ((k + 1)) : Nat) : Int) ∧ (((k + 1) = 0 ∧ (l : Int) = 0) ∨ ∃ j : Nat, (k + 1) = j + 1 ∧ (l : Int) = ((zPG h L B (zpl h) m j : Nat) : Int))
    refine ⟨?_, Or.inr ⟨k, rfl, ?_⟩⟩
    · rw [efl]; rfl
    · rw [efl]; rfl
  · obtain ⟨sd, go⟩ := x
    replace hI : sd = ((zPS h L B (zpl h) m ((i + 1)) : Nat) : Int) ∧ (((i + 1) = 0 ∧ go = 0) ∨ ∃ j : Nat, (i + 1) = j + 1 ∧ go = ((zPG h L B (zpl h) m j : Nat) : Int)) := hI
    show zH _ _ (11, [some (.inr (.inr (some 66))), some (.inr (.inr (some 21))), some (.inl (i : Int)), some (.inl sd), some (.inl go), some (.inl (((i + 1) : Nat) : Int))], [], (zs g hl)) _
    refine zH_go 2 (c' := (14, [some (.inr (.inr (some 66))), some (.inr (.inr (some 21))), some (.inl (i : Int)), some (.inl sd), some (.inl go), some (.inl (((i + 1) : Nat) : Int))], [.inl (i : Int), .inl (((i + 1) : Nat) : Int)], (zs g hl))) rfl ?_
    refine zH_bt (x := (((i + 1) : Nat) : Int)) (y := (i : Int)) (k := .gt) (c1 := (53, [some (.inr (.inr (some 66))), some (.inr (.inr (some 21))), some (.inl (i : Int)), some (.inl sd), some (.inl go), some (.inl (((i + 1) : Nat) : Int))], [], (zs g hl))) (c2 := (17, [some (.inr (.inr (some 66))), some (.inr (.inr (some 21))), some (.inl (i : Int)), some (.inl sd), some (.inl go), some (.inl (((i + 1) : Nat) : Int))], [], (zs g hl))) rfl (by first | assumption | (unfold zr; omega)) (by first | assumption | (unfold zr; omega)) (by show (i : Int) < (((i + 1) : Nat) : Int); omega) ?_
    refine zH_go 1 (c' := (55, [some (.inr (.inr (some 66))), some (.inr (.inr (some 21))), some (.inl (i : Int)), some (.inl sd), some (.inl go), some (.inl (((i + 1) : Nat) : Int))], [.inl go], (zs g hl))) rfl ?_
    refine zH_ret (v := some (.inl go)) rfl (fun q => absurd q (by decide)) ?_
    rcases hI.2 with ⟨q, -⟩ | ⟨j, q1, q2⟩
    · omega
    · obtain rfl : j = i := by omega
      exact ⟨by rw [q2], rfl⟩
  · show (B : Int) = ((zPS h L B (zpl h) m (0) : Nat) : Int) ∧ ((0 = 0 ∧ 0 = 0) ∨ ∃ j : Nat, 0 = j + 1 ∧ 0 = ((zPG h L B (zpl h) m j : Nat) : Int))
    exact ⟨rfl, Or.inl ⟨rfl, rfl⟩⟩
set_option maxRecDepth 100000 in
set_option maxHeartbeats 4000000 in
theorem p_plan {d : Nat} {h hl : Nat → Nat → Int} {m i : Int} (hm : zr m) (hi : zr i) (h4 : 0 ≤ h 21 4 ∧ h 21 4 ≤ 12) (hon : zr (h 21 3)) {p r : Nat} (hW : zTown h p r) {L B n : Nat} {sp : Nat → Nat} (hD : 0 < h 21 3 → zDID h p L B n sp) : zQ (d + 6) 82 [.inr (.inr (some 2)), .inl m, .inl i] (zs h hl) (fun r' σ' => (¬ 0 < h 21 3 ∧ r' = some (.inl (-2)) ∧ σ' = zs h hl) ∨ (0 < h 21 3 ∧ ¬ (0 ≤ i ∧ i < m ∧ m ≤ h 21 4) ∧ r' = some (.inl (-1)) ∧ σ' = zs h hl) ∨ (0 < h 21 3 ∧ ∃ u v : Nat, i = (u : Int) ∧ m = (v : Int) ∧ u < v ∧ v ≤ n ∧ r' = some (.inl ((zPG h L B (zpl h) v u : Nat) : Int)) ∧ ∃ g : Nat → Nat → Int, σ' = zs g hl ∧ ∀ c : Nat, c < 68 ∨ 80 < c → g c = h c)) := by
  have hWc := hW
  obtain ⟨hp6, hr15, h30, h31, hp3, hr4, hMe, hTB, hCn, hPo, hRd, hLk, hGr⟩ := hWc
  have hP : 0 ≤ h 3 0 ∧ h 3 0 ≤ 6 := by omega
  refine zQ_of (Nat.le_of_ble_eq_true rfl) ?_
  show zH (d + 5) 82 (0, [some (.inr (.inr (some 2))), some (.inl m), some (.inl i)], [], (zs h hl)) _
  refine zH_go 2 (c' := (4, [some (.inr (.inr (some 2))), some (.inl m), some (.inl i)], [.inr (.inr (some 21))], (zs h hl))) rfl ?_
  refine zH_call (M' := 12) (as := [.inr (.inr (some 21))]) (T := []) rfl (p_isOnD hon) (fun r σ' p_1 => ?_)
  rcases p_1 with ⟨rfl, b_2, rfl⟩ | ⟨rfl, b_2, rfl⟩
  · show zH _ _ (7, [some (.inr (.inr (some 2))), some (.inl m), some (.inl i)], [.inl 1], (zs h hl)) _
    refine zH_bt (x := 1) (y := 0) (k := .ne) (c1 := (13, [some (.inr (.inr (some 2))), some (.inl m), some (.inl i)], [], (zs h hl))) (c2 := (10, [some (.inr (.inr (some 2))), some (.inl m), some (.inl i)], [], (zs h hl))) rfl ⟨by decide, by decide⟩ ⟨by decide, by decide⟩ (by show ¬ 1 = 0; decide) ?_
    have hD9 := hD (by assumption)
    have hDc := hD9
    obtain ⟨hS, hT, hBs, hL, hn, hn2, hB, htu, hsp, hspL, hsu, hR, hWk, hnk, hHE, hHz⟩ := hDc
    have hL3 := hS.1
    refine zH_go 4 (c' := (21, [some (.inr (.inr (some 2))), some (.inl m), some (.inl i)], [.inl (h 21 4), .inl m], (zs h hl))) rfl ?_
    refine zH_br (x := m) (y := (h 21 4)) (k := .gt) (c1 := (33, [some (.inr (.inr (some 2))), some (.inl m), some (.inl i)], [], (zs h hl))) (c2 := (24, [some (.inr (.inr (some 2))), some (.inl m), some (.inl i)], [], (zs h hl))) rfl (by first | assumption | (unfold zr; omega)) (by first | assumption | (unfold zr; omega)) (fun (b_3 : (h 21 4) < m) => ?_) (fun (b_3 : ¬ ((h 21 4) < m)) => ?_)
    · refine zH_go 1 (c' := (34, [some (.inr (.inr (some 2))), some (.inl m), some (.inl i)], [.inl (-1)], (zs h hl))) rfl ?_
      refine zH_ret (v := some (.inl (-1))) rfl (fun q => absurd q (by decide)) ?_
      exact Or.inr (Or.inl ⟨by assumption, by omega, rfl, rfl⟩)
    · refine zH_go 1 (c' := (25, [some (.inr (.inr (some 2))), some (.inl m), some (.inl i)], [.inl i], (zs h hl))) rfl ?_
      refine zH_br (x := i) (y := 0) (k := .lt) (c1 := (33, [some (.inr (.inr (some 2))), some (.inl m), some (.inl i)], [], (zs h hl))) (c2 := (28, [some (.inr (.inr (some 2))), some (.inl m), some (.inl i)], [], (zs h hl))) rfl (by first | assumption | (unfold zr; omega)) ⟨by decide, by decide⟩ (fun (b_4 : i < 0) => ?_) (fun (b_4 : ¬ (i < 0)) => ?_)
      · refine zH_go 1 (c' := (34, [some (.inr (.inr (some 2))), some (.inl m), some (.inl i)], [.inl (-1)], (zs h hl))) rfl ?_
        refine zH_ret (v := some (.inl (-1))) rfl (fun q => absurd q (by decide)) ?_
        exact Or.inr (Or.inl ⟨by assumption, by omega, rfl, rfl⟩)
      · refine zH_go 2 (c' := (30, [some (.inr (.inr (some 2))), some (.inl m), some (.inl i)], [.inl m, .inl i], (zs h hl))) rfl ?_
        refine zH_br (x := i) (y := m) (k := .lt) (c1 := (35, [some (.inr (.inr (some 2))), some (.inl m), some (.inl i)], [], (zs h hl))) (c2 := (33, [some (.inr (.inr (some 2))), some (.inl m), some (.inl i)], [], (zs h hl))) rfl (by first | assumption | (unfold zr; omega)) (by first | assumption | (unfold zr; omega)) (fun (b_5 : i < m) => ?_) (fun (b_5 : ¬ (i < m)) => ?_)
        · obtain ⟨u, rfl⟩ := Int.eq_ofNat_of_zero_le (show 0 ≤ i by omega)
          obtain ⟨v, rfl⟩ := Int.eq_ofNat_of_zero_le (show 0 ≤ m by omega)
          show zH _ _ (35, [some (.inr (.inr (some 2))), some (.inl (v : Int)), some (.inl (u : Int))], [], (zs h hl)) _
          refine zH_go 5 (c' := (44, [some (.inr (.inr (some 2))), some (.inl (v : Int)), some (.inl (u : Int))], [.inl (v : Int), .inr (.inr (some 21)), .inr (.inr (some 66))], (zs h hl))) rfl ?_
          refine zH_call (M' := 28) (as := [.inr (.inr (some 66)), .inr (.inr (some 21)), .inl (v : Int)]) (T := []) rfl (p_look (m := v) hD9 (by omega) (by omega)) (fun r' σ' pm => ?_)
          obtain ⟨rfl, g, rfl, hg, hq⟩ := pm
          show zH _ _ (47, [some (.inr (.inr (some 2))), some (.inl (v : Int)), some (.inl (u : Int))], [], (zs g hl)) _
          refine zH_go 5 (c' := (56, [some (.inr (.inr (some 2))), some (.inl (v : Int)), some (.inl (u : Int))], [.inl (u : Int), .inr (.inr (some 21)), .inr (.inr (some 66))], (zs g hl))) rfl ?_
          refine zH_call (M' := 32) (as := [.inr (.inr (some 66)), .inr (.inr (some 21)), .inl (u : Int)]) (T := []) rfl (p_goer (m := v) (i := u) hD9 (by omega) (by omega) (by omega) hg hq) (fun r σ' p_6 => ?_)
          obtain ⟨rfl, rfl⟩ := p_6
          show zH _ _ (59, [some (.inr (.inr (some 2))), some (.inl (v : Int)), some (.inl (u : Int))], [.inl ((zPG h L B (zpl h) v u : Nat) : Int)], (zs g hl)) _
          refine zH_ret (v := some (.inl ((zPG h L B (zpl h) v u : Nat) : Int))) rfl (fun q => absurd q (by decide)) ?_
          exact Or.inr (Or.inr ⟨by assumption, u, v, rfl, rfl, by omega, by omega, rfl, g, rfl, hg⟩)
        · refine zH_go 1 (c' := (34, [some (.inr (.inr (some 2))), some (.inl m), some (.inl i)], [.inl (-1)], (zs h hl))) rfl ?_
          refine zH_ret (v := some (.inl (-1))) rfl (fun q => absurd q (by decide)) ?_
          exact Or.inr (Or.inl ⟨by assumption, by omega, rfl, rfl⟩)
  · show zH _ _ (7, [some (.inr (.inr (some 2))), some (.inl m), some (.inl i)], [.inl 0], (zs h hl)) _
    refine zH_bf (x := 0) (y := 0) (k := .ne) (c1 := (13, [some (.inr (.inr (some 2))), some (.inl m), some (.inl i)], [], (zs h hl))) (c2 := (10, [some (.inr (.inr (some 2))), some (.inl m), some (.inl i)], [], (zs h hl))) rfl ⟨by decide, by decide⟩ ⟨by decide, by decide⟩ (by show ¬ (¬ 0 = 0); decide) ?_
    refine zH_go 1 (c' := (12, [some (.inr (.inr (some 2))), some (.inl m), some (.inl i)], [.inl (-2)], (zs h hl))) rfl ?_
    refine zH_ret (v := some (.inl (-2))) rfl (fun q => absurd q (by decide)) ?_
    exact Or.inl ⟨by assumption, rfl, rfl⟩
