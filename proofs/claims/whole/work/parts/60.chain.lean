/-! A day told as one thing: LADDERS, sums, TURN, THE TRACE, what is told of CALLS; chains of CALLS. -/
abbrev zDS : Type := (Nat → Nat) × (Nat → Int) × Int × Int × (Nat → Nat → Int)
def zUp (h : Nat → Nat → Int) (K : Int) (n pp l : Nat) (t : Int) (s : zDS) : zDS := (fun i => if i = l then pp else s.1 i, fun i => if i = l then s.2.1 i + h (12 + s.1 l) pp else s.2.1 i, if K = 2 ∧ 0 < h (12 + s.1 l) pp then (l : Int) else s.2.2.1, s.2.2.2.1 + t, fun c j => if j = n then (if c = 0 then (pp : Int) else if c = 1 then (l : Int) else if c = 2 then h (12 + s.1 l) pp else if c = 3 then K else if c = 4 then ((s.1 l : Nat) : Int) else s.2.2.1) else s.2.2.2.2 c j)
/-- the PLACES of CALLS, and of one more -/
def zpl2 (s : zDS) (n pp : Nat) : Nat → Nat := fun j => if j = n then pp else Int.toNat (s.2.2.2.2 0 j)
def zPkS (h : Nat → Nat → Int) (L B : Nat) (K : Int) (n pp : Nat) (s : zDS) (l : Nat) (t : Int) : Prop := l < L ∧ zPkR K L (zCov L s.1 pp) (fun l => h (12 + s.1 l) pp) (fun l => s.2.1 l + h (12 + s.1 l) pp) (fun l => zWf h L B (zpl2 s n pp) (n + 1) (zwd (zStn L s.1) l pp) + h (12 + s.1 l) pp) s.2.2.1 l t
theorem zPkS_eq {h : Nat → Nat → Int} {L B : Nat} {K : Int} {n pp : Nat} {s : zDS} {l l' : Nat} {t t' : Int} (h1 : zPkS h L B K n pp s l t) (h2 : zPkS h L B K n pp s l' t') : l = l' ∧ t = t' := zPkR_eq h1.2 h2.2
/-- CALLS one behind the other -/
def zCh (h : Nat → Nat → Int) (L B : Nat) (K : Int) (P : Nat → Nat) (n : Nat) (s0 : zDS) : Nat → zDS → Prop
  | 0, s => s = s0
  | k + 1, s => ∃ (s1 : zDS) (l : Nat) (t : Int), zCh h L B K P n s0 k s1 ∧ zPkS h L B K (n + k) (P k) s1 l t ∧ s = zUp h K (n + k) (P k) l t s1
theorem zCh_eq {h : Nat → Nat → Int} {L B : Nat} {K : Int} {P : Nat → Nat} {n : Nat} {s0 : zDS} : ∀ (k : Nat) (s s' : zDS), zCh h L B K P n s0 k s → zCh h L B K P n s0 k s' → s = s' := by
  intro k
  induction k with
  | zero => intro s s' h1 h2; rw [show s = _ from h1, show s' = _ from h2]
  | succ k ih =>
    intro s s' h1 h2
    obtain ⟨a, l, t, a1, a2, a3⟩ := h1
    obtain ⟨b, l', t', b1, b2, b3⟩ := h2
    obtain rfl := ih a b a1 b1
    obtain ⟨rfl, rfl⟩ := zPkS_eq a2 b2
    rw [a3, b3]
theorem zCh_tr {h : Nat → Nat → Int} {L B : Nat} {K : Int} {P : Nat → Nat} {n : Nat} {s0 : zDS} : ∀ (k : Nat) (s : zDS), zCh h L B K P n s0 k s → s0.2.2.2.1 ≤ s.2.2.2.1 ∧ s.2.2.2.1 ≤ s0.2.2.2.1 + 1010 * (k : Int) := by
  intro k
  induction k with
  | zero => intro s h1; rw [show s = _ from h1]; exact ⟨Int.le_refl _, by omega⟩
  | succ k ih =>
    intro s h1
    obtain ⟨a, l, t, a1, a2, a3⟩ := h1
    have i := ih a a1
    have j := zPkR_tr a2.2
    rw [a3]
    unfold zUp
    dsimp only
    omega
/-- the day of the developers' object -/
def zDc (g gl : Nat → Nat → Int) (p L B n : Nat) (s : zDS) : Prop := zDID g p L B n s.1 ∧ (∀ i : Nat, i < 3 → g 41 i = s.2.1 i) ∧ g 21 6 = s.2.2.1 ∧ (∀ c j : Nat, c < 6 → j < n → g (42 + c) j = s.2.2.2.2 c j) ∧ gl 81 0 = s.2.2.2.1
/-- the day of the model -/
def zDm (m ml : Nat → Nat → Int) (p L B n : Nat) (s : zDS) : Prop := m 104 9 = (L : Int) ∧ m 104 10 = (B : Int) ∧ m 104 14 = s.2.2.1 ∧ m 104 15 = (n : Int) ∧ (∀ i : Nat, i < 3 → m 109 i = ((s.1 i : Nat) : Int) ∧ m 110 i = s.2.1 i) ∧ (∀ c j : Nat, c < 6 → j < n → m (111 + c) j = s.2.2.2.2 c j) ∧ (∀ i j : Nat, i < 6 → j < 6 → m 108 (6 * i + j) = zFa m i j) ∧ (∀ i : Nat, i ≤ n → zRk m p L B (fun j => Int.toNat (s.2.2.2.2 0 j)) i (fun q => m 117 (512 * i + q))) ∧ ml 104 2 = s.2.2.2.1
def zJ (h hl : Nat → Nat → Int) (p L B n : Nat) (s : zDS) : Prop := n ≤ 12 ∧ zDc h hl p L B n s ∧ zDm h hl p L B n s
theorem zPkS_same {h g : Nat → Nat → Int} {L B : Nat} {K : Int} {n pp : Nat} {s : zDS} {l : Nat} {t : Int} (hc : ∀ c : Nat, 12 ≤ c → c < 20 → g c = h c) (hL : L ≤ 3) (hs : ∀ i : Nat, i < 3 → s.1 i < 6) (hpp : pp < 8) (hr : ∀ j : Nat, j < n → Int.toNat (s.2.2.2.2 0 j) < 8) (h1 : zPkS g L B K n pp s l t) : zPkS h L B K n pp s l t := by
  refine ⟨h1.1, zPkR_imp h1.2 (fun l hl => ?_) (fun l hl => ?_) (fun l hl => ?_)⟩
  · have := hs l (by omega)
    rw [hc _ (by omega) (by omega)]
  · have := hs l (by omega)
    rw [hc _ (by omega) (by omega)]
  · have := hs l (by omega)
    rw [hc (12 + s.1 l) (by omega) (by omega)]
    congr 1
    refine zWf_same hc (n + 1) (fun j hj => ⟨rfl, ?_⟩) _
    unfold zpl2
    by_cases q : j = n
    · rw [if_pos q]; exact hpp
    · rw [if_neg q]; exact hr j (by omega)
theorem zUp_same {h g : Nat → Nat → Int} {K : Int} {n pp l : Nat} {t : Int} {s : zDS} (hc : ∀ c : Nat, 12 ≤ c → c < 20 → g c = h c) (hs : s.1 l < 6) : zUp g K n pp l t s = zUp h K n pp l t s := by
  unfold zUp
  rw [hc (12 + s.1 l) (by omega) (by omega)]
theorem zDc_serve {g gl g' gl' : Nat → Nat → Int} {p L B n pp l : Nat} {K tr : Int} {s : zDS} (hD : zDc g gl p L B n s) (hl : l < L) (hpp : pp < p) (h1 : zServeP g gl g' gl' L B n pp s.1 K l tr 21 40 41 42 43 44 45 46 47 21 47) (h2 : zDID g' p L B (n + 1) (fun i => if i = l then pp else s.1 i)) : zPkS g L B K n pp s l tr ∧ zDc g' gl' p L B (n + 1) (zUp g K n pp l tr s) := by
  obtain ⟨d1, d2, d3, d4, d5⟩ := hD
  obtain ⟨e1, e2, e3, e4, e5, e6, e7, e8⟩ := h1
  have hL3 := d1.1.1
  have hp6 := d1.1.2.1
  have hR := d1.2.2.2.2.2.2.2.2.2.2.2.1
  refine ⟨⟨hl, ?_⟩, h2, fun i hi => ?_, ?_, fun c j hc hj => ?_, ?_⟩
  · have p2 := zPkR_imp e1 (gn := fun l => g (12 + s.1 l) pp) (ge := fun l => s.2.1 l + g (12 + s.1 l) pp) (ga := fun l => zWf g L B (zpl2 s n pp) (n + 1) (zwd (zStn L s.1) l pp) + g (12 + s.1 l) pp) (fun l hl => rfl) (fun l hl => by rw [d2 l (by omega)]) (fun l hl => by
      congr 1
      refine zWf_same (fun c c1 c2 => rfl) (n + 1) (fun j hj => ?_) _
      unfold zPl zpl2
      by_cases w : j = n
      · rw [if_pos w, if_pos w]; exact ⟨rfl, by omega⟩
      · have e := d4 0 j (by decide) (by omega)
        have r := (hR j (by omega)).1
        rw [if_neg w, if_neg w, ← e]
        exact ⟨rfl, by omega⟩)
    rw [d3] at p2
    exact p2
  · unfold zUp
    dsimp only
    by_cases w : i = l
    · subst w
      rw [e7.1, if_pos rfl, d2 i hi]
    · rw [(e8 i w).1, if_neg w, d2 i hi]
  · unfold zUp
    dsimp only
    rw [e6, d3]
  · unfold zUp
    dsimp only
    by_cases w : j = n
    · rw [if_pos w, w]
      rcases (show c = 0 ∨ c = 1 ∨ c = 2 ∨ c = 3 ∨ c = 4 ∨ c = 5 by omega) with rfl | rfl | rfl | rfl | rfl | rfl
      · rw [if_pos rfl]; exact e4.1
      · rw [if_neg (by decide), if_pos rfl]; exact e4.2.1
      · rw [if_neg (by decide), if_neg (by decide), if_pos rfl]; exact e4.2.2.1
      · rw [if_neg (by decide), if_neg (by decide), if_neg (by decide), if_pos rfl]; exact e4.2.2.2.1
      · rw [if_neg (by decide), if_neg (by decide), if_neg (by decide), if_neg (by decide), if_pos rfl]; exact e4.2.2.2.2.1
      · rw [if_neg (by decide), if_neg (by decide), if_neg (by decide), if_neg (by decide), if_neg (by decide)]
        rw [show g' (42 + 5) n = g' 47 n from rfl, e4.2.2.2.2.2, d3]
    · rw [if_neg w, ← d4 c j hc (by omega)]
      have o := e5 j (by omega)
      rcases (show c = 0 ∨ c = 1 ∨ c = 2 ∨ c = 3 ∨ c = 4 ∨ c = 5 by omega) with rfl | rfl | rfl | rfl | rfl | rfl
      · exact o.1
      · exact o.2.1
      · exact o.2.2.1
      · exact o.2.2.2.1
      · exact o.2.2.2.2.1
      · exact o.2.2.2.2.2
  · unfold zUp
    dsimp only
    rw [e2, zup_eq, d5]
theorem zDc_b {g gl : Nat → Nat → Int} {p L B n : Nat} {s : zDS} (hD : zDc g gl p L B n s) : (∀ i : Nat, i < 3 → s.1 i < 6) ∧ ∀ j : Nat, j < n → Int.toNat (s.2.2.2.2 0 j) < p := by
  obtain ⟨d1, d2, d3, d4, d5⟩ := hD
  have hR := d1.2.2.2.2.2.2.2.2.2.2.2.1
  refine ⟨fun i hi => (d1.2.2.2.2.2.2.2.2.1 i hi).2, fun j hj => ?_⟩
  have e := d4 0 j (by decide) hj
  have r := (hR j hj).1
  rw [← e]
  show Int.toNat (g 42 j) < p
  omega
/-- the numbers of a ROW as CALLS: the finding; 0: it comes -/
def zCDec (p on cnt v x : Int) : Prop := (¬ (0 ≤ v ∧ v < p) ∧ x = -1) ∨ ((0 ≤ v ∧ v < p) ∧ ¬ 0 < on ∧ x = -2) ∨ ((0 ≤ v ∧ v < p) ∧ 0 < on ∧ 12 ≤ cnt ∧ x = -3) ∨ ((0 ≤ v ∧ v < p) ∧ 0 < on ∧ cnt < 12 ∧ x = 0)
theorem zCDec_eq {p on cnt v x y : Int} (h1 : zCDec p on cnt v x) (h2 : zCDec p on cnt v y) : x = y := by
  unfold zCDec at h1 h2
  omega
/-- the model with roads more -/
def zAR (h : Nat → Nat → Int) (V : Nat → Nat → Int) (r : Nat) : Nat → Nat → Nat → Int
  | 0 => h
  | j + 1 => zup (zup (zup (zup (zAR h V r j) 105 (r + j) (V j 0)) 106 (r + j) (V j 1)) 107 (r + j) (V j 2)) 104 4 (((r + (j + 1) : Nat) : Int))
def zov (g m : Nat → Nat → Int) : Nat → Nat → Int := fun c => if c < 104 then g c else m c
theorem zov_l {g m : Nat → Nat → Int} {c : Nat} (h : c < 104) : zov g m c = g c := if_pos h
theorem zov_r {g m : Nat → Nat → Int} {c : Nat} (h : 104 ≤ c) : zov g m c = m c := if_neg (by omega)
theorem zAR_o {h : Nat → Nat → Int} {V : Nat → Nat → Int} {r : Nat} : ∀ j : Nat, (∀ c : Nat, c ≠ 104 → c ≠ 105 → c ≠ 106 → c ≠ 107 → zAR h V r j c = h c) ∧ (∀ k : Nat, k ≠ 4 → zAR h V r j 104 k = h 104 k) := by
  intro j
  induction j with
  | zero => exact ⟨fun c _ _ _ _ => rfl, fun k _ => rfl⟩
  | succ j ih =>
    refine ⟨fun c h1 h2 h3 h4 => ?_, fun k hk => ?_⟩
    · rw [← ih.1 c h1 h2 h3 h4]
      funext q
      show zup (zup (zup (zup (zAR h V r j) 105 (r + j) (V j 0)) 106 (r + j) (V j 1)) 107 (r + j) (V j 2)) 104 4 _ c q = _
      rw [zup_ne h1, zup_ne h4, zup_ne h3, zup_ne h2]
    · rw [← ih.2 k hk]
      show zup (zup (zup (zup (zAR h V r j) 105 (r + j) (V j 0)) 106 (r + j) (V j 1)) 107 (r + j) (V j 2)) 104 4 _ 104 k = _
      rw [zup_k hk, zup_ne (by decide), zup_ne (by decide), zup_ne (by decide)]
theorem zAR_4 {h : Nat → Nat → Int} {V : Nat → Nat → Int} {r : Nat} (h4 : h 104 4 = (r : Int)) (j : Nat) : zAR h V r j 104 4 = ((r + j : Nat) : Int) := by
  cases j with
  | zero => exact h4
  | succ j => exact zup_eq
theorem zTown_AR {h g g' : Nat → Nat → Int} {V : Nat → Nat → Int} {p r j a b : Nat} {len : Int} (hW : zTown (zov g (zAR h V r j)) p (r + j)) (h4 : h 104 4 = (r : Int)) (hr : r + j < 15) (ha : a < p) (hb : b < p) (hab : a ≠ b) (hl1 : 1 ≤ len ∧ len ≤ 100) (e0 : V j 0 = (a : Int)) (e1 : V j 1 = (b : Int)) (e2 : V j 2 = len) (hR : (∀ i j : Nat, i < 6 → j < 6 → g' (12 + i) j = zGn g a b len i j) ∧ (∀ i j : Nat, i < 6 → j < 6 → g' (5 + i) j = if (i = a ∧ j = b) ∨ (i = b ∧ j = a) then min (g (5 + a) b) len else g (5 + i) j) ∧ g' 3 0 = g 3 0 ∧ g' 3 1 = g 3 1 + 1) : zTown (zov g' (zAR h V r (j + 1))) p (r + (j + 1)) := by
  have hgn : ∀ i q : Nat, i < 6 → q < 6 → zGn (zov g (zAR h V r j)) a b len i q = zGn g a b len i q := fun i q hi hq => by
    unfold zGn
    have hp6 := hW.1
    rw [zov_l (show 12 + i < 104 by omega), zov_l (show 12 + b < 104 by omega), zov_l (show 12 + a < 104 by omega)]
  have hp6 := hW.1
  refine zTown_road (h := zov g (zAR h V r j)) hW hr ha hb hab hl1 (fun i q hi hq => ?_) (fun i q hi hq => ?_) ?_ ?_ ?_ ?_ ⟨?_, ?_, ?_⟩ (fun k hk => ?_)
  · rw [hgn i q hi hq, zov_l (show 12 + i < 104 by omega)]; exact hR.1 i q hi hq
  · rw [zov_l (show 5 + i < 104 by omega), zov_l (show 5 + a < 104 by omega), zov_l (show 5 + i < 104 by omega)]; exact hR.2.1 i q hi hq
  · rw [zov_l (show 3 < 104 by decide), zov_l (show 3 < 104 by decide)]; exact hR.2.2.1
  · rw [zov_l (show 3 < 104 by decide), zov_l (show 3 < 104 by decide)]; exact hR.2.2.2
  · rw [zov_r (Nat.le_refl 104), zov_r (Nat.le_refl 104), (zAR_o (j + 1)).2 3 (by decide), (zAR_o j).2 3 (by decide)]
  · rw [zov_r (Nat.le_refl 104), zAR_4 h4]; rfl
  · rw [zov_r (by decide)]
    show zup (zup (zup (zup (zAR h V r j) 105 (r + j) (V j 0)) 106 (r + j) (V j 1)) 107 (r + j) (V j 2)) 104 4 _ 105 (r + j) = _
    rw [zup_ne (by decide), zup_ne (by decide), zup_ne (by decide), zup_eq, e0]
  · rw [zov_r (by decide)]
    show zup (zup (zup (zup (zAR h V r j) 105 (r + j) (V j 0)) 106 (r + j) (V j 1)) 107 (r + j) (V j 2)) 104 4 _ 106 (r + j) = _
    rw [zup_ne (by decide), zup_ne (by decide), zup_eq, e1]
  · rw [zov_r (by decide)]
    show zup (zup (zup (zup (zAR h V r j) 105 (r + j) (V j 0)) 106 (r + j) (V j 1)) 107 (r + j) (V j 2)) 104 4 _ 107 (r + j) = _
    rw [zup_ne (by decide), zup_eq, e2]
  · rw [zov_r (show 104 ≤ 105 by decide), zov_r (show 104 ≤ 106 by decide), zov_r (show 104 ≤ 107 by decide), zov_r (show 104 ≤ 105 by decide), zov_r (show 104 ≤ 106 by decide), zov_r (show 104 ≤ 107 by decide)]
    show zup (zup (zup (zup (zAR h V r j) 105 (r + j) (V j 0)) 106 (r + j) (V j 1)) 107 (r + j) (V j 2)) 104 4 _ 105 k = _ ∧ zup (zup (zup (zup (zAR h V r j) 105 (r + j) (V j 0)) 106 (r + j) (V j 1)) 107 (r + j) (V j 2)) 104 4 _ 106 k = _ ∧ zup (zup (zup (zup (zAR h V r j) 105 (r + j) (V j 0)) 106 (r + j) (V j 1)) 107 (r + j) (V j 2)) 104 4 _ 107 k = _
    have hk2 : k ≠ r + j := hk
    refine ⟨?_, ?_, ?_⟩
    · rw [zup_ne (by decide), zup_ne (by decide), zup_ne (by decide), zup_k hk2]
    · rw [zup_ne (by decide), zup_ne (by decide), zup_k hk2, zup_ne (by decide)]
    · rw [zup_ne (by decide), zup_k hk2, zup_ne (by decide), zup_ne (by decide)]
