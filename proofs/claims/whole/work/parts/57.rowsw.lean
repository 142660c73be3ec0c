/-! The row of CALLS that makes a RULE pay most: rows, what they cost, the first of the worst. -/
def zrp (n q : Nat) : Nat → Nat := fun j => zdg q (n - 1 - j)
abbrev zTS : Type := (Nat → Nat) × (Nat → Int) × Int × Int
/-- a day of a row's CALLS: LADDERS, sums, TURN, what THE TRACE got -/
def zRS (h : Nat → Nat → Int) (L B : Nat) (K : Int) (n q : Nat) : Nat → zTS → Prop
  | 0, s => s = (fun i => zdg B i, fun _ => 0, -1, 0)
  | k + 1, s => ∃ (s0 : zTS) (l : Nat) (t : Int), zRS h L B K n q k s0 ∧ l < L ∧ zPkR K L (zCov L s0.1 (zrp n q k)) (fun l => h (12 + s0.1 l) (zrp n q k)) (fun l => s0.2.1 l + h (12 + s0.1 l) (zrp n q k)) (fun l => zWf h L B (zrp n q) (k + 1) (zwd (zStn L s0.1) l (zrp n q k)) + h (12 + s0.1 l) (zrp n q k)) s0.2.2.1 l t ∧ s = (fun i => if i = l then zrp n q k else s0.1 i, fun i => if i = l then s0.2.1 i + h (12 + s0.1 l) (zrp n q k) else s0.2.1 i, if K = 2 ∧ 0 < h (12 + s0.1 l) (zrp n q k) then (l : Int) else s0.2.2.1, s0.2.2.2 + t)
theorem zRS_eq {h : Nat → Nat → Int} {L B : Nat} {K : Int} {n q : Nat} : ∀ (k : Nat) (s s' : zTS), zRS h L B K n q k s → zRS h L B K n q k s' → s = s' := by
  intro k
  induction k with
  | zero => intro s s' h1 h2; rw [show s = _ from h1, show s' = _ from h2]
  | succ k ih =>
    intro s s' h1 h2
    obtain ⟨a, l, t, a1, a2, a3, a4⟩ := h1
    obtain ⟨b, l', t', b1, b2, b3, b4⟩ := h2
    obtain rfl := ih a b a1 b1
    obtain ⟨rfl, rfl⟩ := zPkR_eq a3 b3
    rw [a4, b4]
theorem zPkR_tr {k : Int} {L : Nat} {cov : Prop} {fn fe fa : Nat → Int} {t : Int} {l : Nat} {tr : Int} (h : zPkR k L cov fn fe fa t l tr) : 1 ≤ tr ∧ tr ≤ 1010 := by
  rcases h with ⟨h1, h2, h3⟩ | ⟨h1, h2, h3, h4⟩ | ⟨h1, h2, h3, h4⟩ | ⟨h1, h2, h3, h4⟩ | ⟨h1, h2, h3, h4⟩ | ⟨h1, h2, h3, h4⟩ | ⟨h1, h2, h3, h4, h5⟩ | ⟨h1, h2, h3, h4, h5⟩ <;> omega
theorem zRS_tr {h : Nat → Nat → Int} {L B : Nat} {K : Int} {n q : Nat} : ∀ (k : Nat) (s : zTS), zRS h L B K n q k s → 0 ≤ s.2.2.2 ∧ s.2.2.2 ≤ 1010 * (k : Int) := by
  intro k
  induction k with
  | zero => intro s h1; rw [show s = _ from h1]; exact ⟨Int.le_refl 0, Int.le_refl 0⟩
  | succ k ih =>
    intro s h1
    obtain ⟨a, l, t, a1, a2, a3, a4⟩ := h1
    have i := ih a a1
    have j := zPkR_tr a3
    rw [a4]
    dsimp only
    omega
def zLwP (h : Nat → Nat → Int) (p L B : Nat) (pl : Nat → Nat) (i : Nat) (v : Int) : Prop := (∀ X : Nat, zSb p L X = true → zLL X = X → v ≤ zWf h L B pl i X) ∧ ∃ X : Nat, zSb p L X = true ∧ v = zWf h L B pl i X
theorem zLwP_eq {h : Nat → Nat → Int} {p L B i : Nat} {pl : Nat → Nat} {v w : Int} (hp : p ≤ 6) (hL : 1 ≤ L ∧ L ≤ 3) (hpl : ∀ j : Nat, j < i → pl j < p) (hv : zLwP h p L B pl i v) (hw : zLwP h p L B pl i w) : v = w := by
  have key : ∀ a b : Int, zLwP h p L B pl i a → zLwP h p L B pl i b → a ≤ b := fun a b ha hb => by
    obtain ⟨X, x1, x2⟩ := hb.2
    have hXl := zSb_lt hL.2 x1
    have z := zLL_ok X hXl
    have e := zSym_LL hL (zWf_sym (h := h) (B := B) hp hL i hpl) x1
    have k := ha.1 (zLL X) (zLL_sb p (by omega) L (by omega) X hXl x1) z.2
    rw [e] at k
    omega
  have a := key v w hv hw
  have b := key w v hw hv
  omega
/-- what a row comes to: cost, LEAST, THE TRACE's part -/
def zOut (h : Nat → Nat → Int) (p L B : Nat) (K : Int) (n q : Nat) (c m t : Int) : Prop := ∃ s : zTS, zRS h L B K n q n s ∧ c = s.2.1 0 + s.2.1 1 + s.2.1 2 ∧ t = s.2.2.2 ∧ zLwP h p L B (zrp n q) n m
theorem zOut_eq {h : Nat → Nat → Int} {p L B : Nat} {K : Int} {n q : Nat} {c m t c' m' t' : Int} (hp : p ≤ 6) (hL : 1 ≤ L ∧ L ≤ 3) (hpl : ∀ j : Nat, j < n → zrp n q j < p) (h1 : zOut h p L B K n q c m t) (h2 : zOut h p L B K n q c' m' t') : c = c' ∧ m = m' ∧ t = t' := by
  obtain ⟨s, a1, a2, a3, a4⟩ := h1
  obtain ⟨s', b1, b2, b3, b4⟩ := h2
  obtain rfl := zRS_eq n s s' a1 b1
  exact ⟨by rw [a2, b2], zLwP_eq hp hL hpl a4 b4, by rw [a3, b3]⟩
/-- rows in order -/
def znum (p n r : Nat) : Nat := if n = 1 then r else if n = 2 then r / p * 8 + r % p else r / (p * p) * 64 + r / p % p * 8 + r % p
def zrk (p n x : Nat) : Nat := if n = 1 then min x p else if n = 2 then (if p ≤ x / 8 then p * p else x / 8 * p + min (x % 8) p) else (if p ≤ x / 64 then p * p * p else x / 64 * (p * p) + (if p ≤ x / 8 % 8 then p * p else x / 8 % 8 * p + min (x % 8) p))
def zrkB (p n x : Nat) : Bool := bif zSb p n x then decide (znum p n (zrk p n x) = x) && decide (zrk p n (x + 1) = zrk p n x + 1) else decide (zrk p n (x + 1) = zrk p n x)
theorem zrkB_ok : ∀ p : Nat, p < 7 → ∀ n : Nat, n < 4 → ∀ x : Nat, x < 512 → (1 ≤ n ∧ 1 ≤ p) → zrkB p n x = true := by decide +kernel
theorem zrk_ok (p : Nat) (hp : p < 7) (n : Nat) (hn : n < 4) (hn1 : 1 ≤ n) (hp1 : 1 ≤ p) (x : Nat) (hx : x < 512) : (zSb p n x = true → znum p n (zrk p n x) = x ∧ zrk p n (x + 1) = zrk p n x + 1) ∧ (zSb p n x = false → zrk p n (x + 1) = zrk p n x) := by
  have k := zrkB_ok p hp n hn x hx ⟨hn1, hp1⟩
  unfold zrkB at k
  constructor
  · intro e
    rw [e] at k
    have k2 := (Bool.and_eq_true _ _).mp k
    exact ⟨of_decide_eq_true k2.1, of_decide_eq_true k2.2⟩
  · intro e
    rw [e] at k
    exact of_decide_eq_true k
theorem zrk_ends : ∀ p : Nat, p < 7 → ∀ n : Nat, n < 4 → 1 ≤ n → 1 ≤ p → zrk p n 0 = 0 ∧ zrk p n 512 = p ^ n := by decide +kernel
abbrev zTA : Type := Nat × Int × Int × Int × Int
/-- the first of the worst, of the first r rows: its number, cost, LEAST, the difference, THE TRACE's part of all -/
def zAc (h : Nat → Nat → Int) (p L B : Nat) (K : Int) (n : Nat) : Nat → zTA → Prop
  | 0, a => a = (0, 0, 0, -1, 0)
  | r + 1, a => ∃ (a0 : zTA) (c m t : Int), zAc h p L B K n r a0 ∧ zOut h p L B K n (znum p n r) c m t ∧ a = (if a0.2.2.2.1 < c - m then (znum p n r, c, m, c - m, a0.2.2.2.2 + t) else (a0.1, a0.2.1, a0.2.2.1, a0.2.2.2.1, a0.2.2.2.2 + t))
def znumB (p n r k : Nat) : Bool := bif decide (1 ≤ n) && (decide (r < p ^ n) && decide (k < n)) then decide (zdg (znum p n r) (n - 1 - k) = r / p ^ (n - 1 - k) % p) && (decide (zdg (znum p n r) (n - 1 - k) < p) && decide (znum p n r < 512)) else true
theorem znumB_ok : ∀ p : Nat, p < 7 → ∀ n : Nat, n < 4 → ∀ r : Nat, r < 216 → ∀ k : Nat, k < 3 → znumB p n r k = true := by decide +kernel
theorem znum_pl (p : Nat) (hp : p < 7) (n : Nat) (hn : n < 4) (hn1 : 1 ≤ n) (r : Nat) (hr : r < 216) (hr2 : r < p ^ n) (k : Nat) (hk : k < 3) (hkn : k < n) : zdg (znum p n r) (n - 1 - k) = r / p ^ (n - 1 - k) % p ∧ zdg (znum p n r) (n - 1 - k) < p ∧ znum p n r < 512 := by
  have u := znumB_ok p hp n hn r hr k hk
  unfold znumB at u
  rw [decide_eq_true hn1, decide_eq_true hr2, decide_eq_true hkn] at u
  have u2 := (Bool.and_eq_true _ _).mp u
  have u3 := (Bool.and_eq_true _ _).mp u2.2
  exact ⟨of_decide_eq_true u2.1, of_decide_eq_true u3.1, of_decide_eq_true u3.2⟩
theorem zpw_le : ∀ p : Nat, p < 7 → ∀ n : Nat, n < 4 → p ^ n ≤ 216 := by decide +kernel
theorem zAc_eq {h : Nat → Nat → Int} {p L B : Nat} {K : Int} {n : Nat} (hp : p ≤ 6) (hL : 1 ≤ L ∧ L ≤ 3) (hn : 1 ≤ n ∧ n ≤ 3) : ∀ (r : Nat), r ≤ p ^ n → ∀ a a' : zTA, zAc h p L B K n r a → zAc h p L B K n r a' → a = a' := by
  intro r
  induction r with
  | zero => intro _ a a' h1 h2; rw [show a = _ from h1, show a' = _ from h2]
  | succ r ih =>
    intro hr a a' h1 h2
    obtain ⟨x, c, m, t, a1, a2, a3⟩ := h1
    obtain ⟨y, c', m', t', b1, b2, b3⟩ := h2
    obtain rfl := ih (by omega) x y a1 b1
    have h9 := zpw_le p (by omega) n (by omega)
    obtain ⟨rfl, rfl, rfl⟩ := zOut_eq hp hL (fun j hj => (znum_pl p (by omega) n (by omega) hn.1 r (by omega) (by omega) j (by omega) hj).2.1) a2 b2
    rw [a3, b3]
theorem zAc_tr {h : Nat → Nat → Int} {p L B : Nat} {K : Int} {n : Nat} (hn : n ≤ 3) : ∀ (r : Nat) (a : zTA), zAc h p L B K n r a → 0 ≤ a.2.2.2.2 ∧ a.2.2.2.2 ≤ 3030 * (r : Int) := by
  intro r
  induction r with
  | zero => intro a h1; rw [show a = _ from h1]; exact ⟨Int.le_refl 0, Int.le_refl 0⟩
  | succ r ih =>
    intro a h1
    obtain ⟨x, c, m, t, a1, ⟨s, s1, s2, s3, s4⟩, a3⟩ := h1
    have i := ih x a1
    have j := zRS_tr n s s1
    rw [a3]
    by_cases q : x.2.2.2.1 < c - m
    · rw [if_pos q]; dsimp only; omega
    · rw [if_neg q]; dsimp only; omega
/-- the trial day in the midst of a row -/
def zTL (h hl g gl : Nat → Nat → Int) (p L B n q k : Nat) (t0 : Int) (s : zTS) : Prop := zDIT g p L B k s.1 ∧ (∀ i : Nat, i < 3 → g 59 i = s.2.1 i) ∧ g 48 6 = s.2.2.1 ∧ (∀ j : Nat, j < k → g 60 j = ((zrp n q j : Nat) : Int)) ∧ (∀ c : Nat, c < 48 ∨ 65 < c → g c = h c) ∧ gl = zup hl 81 0 (hl 81 0 + (t0 + s.2.2.2))
theorem zTL_serve {h hl g gl g' gl' : Nat → Nat → Int} {p L B n q k l : Nat} {K t0 tr : Int} {s : zTS} (hS : zTL h hl g gl p L B n q k t0 s) (hR : zRS h L B K n q k s) (hl1 : l < L) (h1 : zServeP g gl g' gl' L B k (zrp n q k) s.1 K l tr 48 58 59 60 61 62 63 64 65 48 65) (h2 : zDIT g' p L B (k + 1) (fun i => if i = l then zrp n q k else s.1 i)) : ∃ s' : zTS, zRS h L B K n q (k + 1) s' ∧ zTL h hl g' gl' p L B n q (k + 1) t0 s' := by
  obtain ⟨d1, d2, d3, d4, d5, d6⟩ := hS
  obtain ⟨e1, e2, e3, e4, e5, e6, e7, e8⟩ := h1
  have hgap : ∀ i j : Nat, i < 6 → g (12 + i) j = h (12 + i) j := fun i j hi => by rw [d5 _ (by omega)]
  have hs6 : ∀ i : Nat, i < 3 → s.1 i < 6 := fun i hi => (d1.2.2.2.2.2.2.2.2.1 i hi).2
  have hL3 := d1.1.1
  have el := hgap (s.1 l) (zrp n q k) (hs6 l (by omega))
  rw [el] at e4 e6 e7
  refine ⟨_, ⟨s, l, tr, hR, hl1, ?_, rfl⟩, h2, fun i hi => ?_, ?_, fun j hj => ?_, fun c hc => by rw [e3 c hc]; exact d5 c hc, ?_⟩
  · have p2 := zPkR_imp e1 (gn := fun l => h (12 + s.1 l) (zrp n q k)) (ge := fun l => s.2.1 l + h (12 + s.1 l) (zrp n q k)) (ga := fun l => zWf h L B (zrp n q) (k + 1) (zwd (zStn L s.1) l (zrp n q k)) + h (12 + s.1 l) (zrp n q k)) (fun l hl => hgap _ _ (hs6 l (by omega))) (fun l hl => by rw [d2 l (by omega), hgap _ _ (hs6 l (by omega))]) (fun l hl => by
      rw [hgap _ _ (hs6 l (by omega))]
      congr 1
      refine zWf_same (fun c c1 c2 => d5 c (by omega)) (k + 1) (fun j hj => ?_) _
      unfold zPl
      by_cases w : j = k
      · rw [if_pos w, w]
        exact ⟨rfl, zdg_lt _ _⟩
      · rw [if_neg w, d4 j (by omega), Int.toNat_natCast]
        exact ⟨rfl, zdg_lt _ _⟩)
    rw [d3] at p2
    exact p2
  · dsimp only
    by_cases w : i = l
    · subst w
      rw [e7.1, if_pos rfl, d2 i hi]
    · rw [(e8 i w).1, if_neg w, d2 i hi]
  · dsimp only
    rw [e6, d3]
  · by_cases w : j = k
    · rw [w]; exact e4.1
    · rw [(e5 j (by omega)).1]; exact d4 j (by omega)
  · dsimp only
    rw [e2, d6]
    exact zupl_add (by omega)
theorem zTL_0 {h hl g gl : Nat → Nat → Int} {p L B n q : Nat} {t0 : Int} (hD : zDIT g p L B 0 (fun i => zdg B i)) (h1 : ∀ i : Nat, i < 3 → g 59 i = 0) (h2 : g 48 6 = -1) (h3 : ∀ c : Nat, c < 48 ∨ 65 < c → g c = h c) (h4 : gl = zup hl 81 0 (hl 81 0 + t0)) : zTL h hl g gl p L B n q 0 t0 (fun i => zdg B i, fun _ => 0, -1, 0) := ⟨hD, h1, h2, fun j hj => absurd hj (Nat.not_lt_zero j), h3, by rw [h4]; dsimp only; rw [Int.add_zero]⟩
theorem zDI_rwT {h g : Nat → Nat → Int} {p L B k : Nat} {sp : Nat → Nat} (hD : zDIT h p L B k sp) (hg : zRwP h g 48 58 59 B) : zDIT g p L B 0 (fun i => zdg B i) := by
  obtain ⟨hS, hT, hBs, hL, hn, hn2, hB, htu, hsp, hspL, hsu, hR, hW, hnk, hHE, hHz⟩ := hD
  obtain ⟨f1, f4, f7, f6, fj, fs, fu⟩ := hg
  have hL3 := hS.1
  have hp6 := hS.2.1
  have hBl := zSb_lt hL3.2 hBs
  have hd : ∀ i : Nat, i < 3 → zdg B i < 6 := fun i hi => by
    by_cases q : i < L
    · have := zSb_dg hBs q; omega
    · have a := (zdg_hi B hBl L (by omega)).mp (by
        unfold zSb at hBs
        rw [Bool.and_eq_true, decide_eq_true_eq] at hBs
        exact hBs.1) i hi (by omega)
      omega
  exact ⟨zSI_same hS (f1 18 (by decide) (by decide) (by decide)) (f1 19 (by decide) (by decide) (by decide)) (f1 20 (by decide) (by decide) (by decide)), zTD_same hp6 hT (fun c hc => f1 c (by omega) (by omega) (by omega)), hBs, by rw [fj 3 (by decide) (by decide) (by decide)]; exact hL, f4, by decide, by rw [fj 5 (by decide) (by decide) (by decide)]; exact hB, by rw [f6]; omega, fun i hi => ⟨fs i hi, hd i hi⟩, fun i hi => zSb_dg hBs hi, fun l hl => fu l hl, fun j hj => absurd hj (Nat.not_lt_zero j), zWI_same (f1 49 (by decide) (by decide) (by decide)) (f1 56 (by decide) (by decide) (by decide)) (fun i hi => f1 (51 + i) (by omega) (by omega) (by omega)) (fun c h1 h2 => f1 c (by omega) (by omega) (by omega)) hp6 hW, by rw [f1 49 (by decide) (by decide) (by decide)]; omega, fun j hj => absurd hj (Nat.not_lt_zero j), fun j hj => by rw [f1 56 (by decide) (by decide) (by decide)]; exact hHz j hj⟩
theorem zDI_startT {g g2 : Nat → Nat → Int} {p L B : Nat} (hS : zSI g p L) (hT : zTD g p) (hBs : zSb p L B = true) (hz : ∀ j : Nat, j < 4 → zr (g 56 j)) (hg : zStartP g g2 L B 48 58 59 49 51) : zDIT g2 p L B 0 (fun i => zdg B i) := by
  obtain ⟨f1, f3, f5, f4, f7, f6, fs, fu, fW, fR⟩ := hg
  have hL3 := hS.1
  have hp6 := hS.2.1
  have hBl := zSb_lt hL3.2 hBs
  have hd : ∀ i : Nat, i < 3 → zdg B i < 6 := fun i hi => by
    by_cases q : i < L
    · have := zSb_dg hBs q; omega
    · have a := (zdg_hi B hBl L (by omega)).mp (by
        unfold zSb at hBs
        rw [Bool.and_eq_true, decide_eq_true_eq] at hBs
        exact hBs.1) i hi (by omega)
      omega
  have fr : ∀ c : Nat, c ≠ 48 → c ≠ 58 → c ≠ 59 → c ≠ 49 → c ≠ 51 → g2 c = g c := f1
  have e18 := fr 18 (by decide) (by decide) (by decide) (by decide) (by decide)
  have e19 := fr 19 (by decide) (by decide) (by decide) (by decide) (by decide)
  have e38 := fr 56 (by decide) (by decide) (by decide) (by decide) (by decide)
  refine ⟨zSI_same hS e18 e19 (fr 20 (by decide) (by decide) (by decide) (by decide) (by decide)), zTD_same hp6 hT (fun c hc => fr c (by omega) (by omega) (by omega) (by omega) (by omega)), hBs, f3, f4, by decide, f5, by rw [f6]; omega, fun i hi => ⟨fs i hi, hd i hi⟩, fun i hi => zSb_dg hBs hi, fun l hl => fu l hl, fun j hj => absurd hj (Nat.not_lt_zero j), ⟨0, fW, by decide, fun i hi => absurd hi (Nat.not_lt_zero i), fun i hi s hs => ?_⟩, by rw [fW]; exact Int.le_refl 0, fun j hj => absurd hj (Nat.not_lt_zero j), fun j hj => by rw [e38]; exact hz j hj⟩
  obtain rfl : i = 0 := by omega
  rw [e18] at hs
  rw [e19]
  show g2 51 s = zMv g2 L B _
  rw [fR s hs]
  exact (zMv_same (fun c h1 h2 => fr c (by omega) (by omega) (by omega) (by omega) (by omega))).symm
theorem zLow_T {h g hl gl : Nat → Nat → Int} {p L B n q k : Nat} {t0 : Int} {s : zTS} {v : Int} (hS : zTL h hl g gl p L B n q k t0 s) (hk : k ≤ 3) (h1 : ∀ j : Nat, (j : Int) < g 18 2 → v ≤ g (51 + k) j) (h2 : ∃ j : Nat, (j : Int) < g 18 2 ∧ v = g (51 + k) j) : zLwP h p L B (zrp n q) k v := by
  obtain ⟨d1, d2, d3, d4, d5, d6⟩ := hS
  obtain ⟨hS, hT, hBs, hL, hn, hn2, hB, htu, hsp, hspL, hsu, hR, hW, hnk, hHE, hHz⟩ := d1
  have hS0 := hS
  obtain ⟨hL3, hp6, s1, s2, s3, s4, s5⟩ := hS
  obtain ⟨kk, k1, k2, k3, k4⟩ := hW
  have ew : ∀ X : Nat, zSb p L X = true → g (51 + k) (Int.toNat (g 20 X)) = zWf h L B (zrp n q) k X := fun X hX => by
    rw [zWI_at hS0 ⟨kk, k1, k2, k3, k4⟩ k1 (by omega) hX]
    refine zWf_same (fun c c1 c2 => d5 c (by omega)) k (fun j hj => ?_) X
    rw [hHE j hj, d4 j hj, Int.toNat_natCast]
    exact ⟨rfl, zdg_lt _ _⟩
  refine ⟨fun X hX hl => ?_, ?_⟩
  · have a := s3 X (zSb_lt hL3.2 hX) hX
    have b := h1 (Int.toNat (g 20 X)) (by omega)
    rw [ew X hX] at b
    exact b
  · obtain ⟨j, j1, j2⟩ := h2
    obtain ⟨X, x1, x2, x3, x4, x5⟩ := s5 j j1
    have := ew X x2
    rw [x5, Int.toNat_natCast] at this
    exact ⟨X, x2, by rw [j2, this]⟩
