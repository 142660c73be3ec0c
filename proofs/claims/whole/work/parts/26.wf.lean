/-! WORK as a function; what is LIKE counts alike. -/
def zsw (X i j : Nat) : Nat := zwd (zwd X i (zdg X j)) j (zdg X i)
theorem zsw_lt : ∀ X : Nat, X < 512 → zsw X 0 1 < 512 ∧ zsw X 1 2 < 512 := by decide +kernel
theorem zsw_dg : ∀ X : Nat, X < 512 → (zdg (zsw X 0 1) 0 = zdg X 1 ∧ zdg (zsw X 0 1) 1 = zdg X 0 ∧ zdg (zsw X 0 1) 2 = zdg X 2) ∧ (zdg (zsw X 1 2) 0 = zdg X 0 ∧ zdg (zsw X 1 2) 1 = zdg X 2 ∧ zdg (zsw X 1 2) 2 = zdg X 1) := by decide +kernel
theorem zsw_wd : ∀ X : Nat, X < 512 → ∀ v : Nat, v < 8 → (zwd (zsw X 0 1) 0 v = zsw (zwd X 1 v) 0 1 ∧ zwd (zsw X 0 1) 1 v = zsw (zwd X 0 v) 0 1 ∧ zwd (zsw X 0 1) 2 v = zsw (zwd X 2 v) 0 1) ∧ (zwd (zsw X 1 2) 0 v = zsw (zwd X 0 v) 1 2 ∧ zwd (zsw X 1 2) 1 v = zsw (zwd X 2 v) 1 2 ∧ zwd (zsw X 1 2) 2 v = zsw (zwd X 1 v) 1 2) := by decide +kernel
def zb1s (X : Nat) : Nat := if zdg X 0 < zdg X 1 then zsw X 0 1 else X
def zb2s (X : Nat) : Nat := if zdg X 1 < zdg X 2 then zsw X 1 2 else X
theorem zLL_b3 : ∀ X : Nat, X < 512 → zLL X = zb1s (zb2s (zb1s X)) := by decide +kernel
theorem zLL_b2 : ∀ X : Nat, X < 64 → zLL X = zb1s X := by decide +kernel
theorem zLL_b1 : ∀ X : Nat, X < 8 → zLL X = X := by decide +kernel
theorem zsw_sb {p L X : Nat} (hL : L ≤ 3) (h : zSb p L X = true) : (2 ≤ L → zSb p L (zsw X 0 1) = true) ∧ (3 ≤ L → zSb p L (zsw X 1 2) = true) := by
  have hX := zSb_lt hL h
  have h1 := h
  unfold zSb at h1
  rw [Bool.and_eq_true, decide_eq_true_eq] at h1
  have hh := (zdg_hi X hX L (by omega)).mp h1.1
  have d := zsw_dg X hX
  have l := zsw_lt X hX
  constructor
  · intro h2
    unfold zSb
    rw [Bool.and_eq_true, decide_eq_true_eq, List.all_eq_true]
    refine ⟨(zdg_hi _ l.1 L (by omega)).mpr (fun i hi hLi => ?_), fun i hi => decide_eq_true ?_⟩
    · obtain rfl : i = 2 := by omega
      rw [d.1.2.2]
      exact hh 2 hi hLi
    · have hi := List.mem_range.mp hi
      rcases (show i = 0 ∨ i = 1 ∨ i = 2 by omega) with rfl | rfl | rfl
      · rw [d.1.1]; exact zSb_dg h (by omega)
      · rw [d.1.2.1]; exact zSb_dg h (by omega)
      · rw [d.1.2.2]; exact zSb_dg h hi
  · intro h2
    unfold zSb
    rw [Bool.and_eq_true, decide_eq_true_eq, List.all_eq_true]
    refine ⟨(zdg_hi _ l.2 L (by omega)).mpr (fun i hi hLi => ?_), fun i hi => decide_eq_true ?_⟩
    · omega
    · have hi := List.mem_range.mp hi
      rcases (show i = 0 ∨ i = 1 ∨ i = 2 by omega) with rfl | rfl | rfl
      · rw [d.2.1]; exact zSb_dg h (by omega)
      · rw [d.2.2.1]; exact zSb_dg h (by omega)
      · rw [d.2.2.2]; exact zSb_dg h (by omega)
/-- f is the same for all that are LIKE -/
def zSym (p L : Nat) (f : Nat → Int) : Prop := ∀ X : Nat, zSb p L X = true → (2 ≤ L → f (zsw X 0 1) = f X) ∧ (3 ≤ L → f (zsw X 1 2) = f X)
theorem zSym_LL {p L : Nat} {f : Nat → Int} (hL : 1 ≤ L ∧ L ≤ 3) (hf : zSym p L f) {X : Nat} (h : zSb p L X = true) : f (zLL X) = f X := by
  have hX := zSb_lt hL.2 h
  have h1 := h
  unfold zSb at h1
  rw [Bool.and_eq_true, decide_eq_true_eq] at h1
  have b1 : ∀ X : Nat, zSb p L X = true → 2 ≤ L → f (zb1s X) = f X ∧ zSb p L (zb1s X) = true := fun X hX h2 => by
    unfold zb1s
    by_cases q : zdg X 0 < zdg X 1
    · rw [if_pos q]; exact ⟨(hf X hX).1 h2, (zsw_sb hL.2 hX).1 h2⟩
    · rw [if_neg q]; exact ⟨rfl, hX⟩
  have b2 : ∀ X : Nat, zSb p L X = true → 3 ≤ L → f (zb2s X) = f X ∧ zSb p L (zb2s X) = true := fun X hX h2 => by
    unfold zb2s
    by_cases q : zdg X 1 < zdg X 2
    · rw [if_pos q]; exact ⟨(hf X hX).2 h2, (zsw_sb hL.2 hX).2 h2⟩
    · rw [if_neg q]; exact ⟨rfl, hX⟩
  rcases (show L = 1 ∨ L = 2 ∨ L = 3 by omega) with rfl | rfl | rfl
  · rw [zLL_b1 X h1.1]
  · rw [zLL_b2 X h1.1]
    exact (b1 X h (by decide)).1
  · rw [zLL_b3 X hX]
    have c1 := b1 X h (by decide)
    have c2 := b2 _ c1.2 (by decide)
    have c3 := b1 _ c2.2 (by decide)
    rw [c3.1, c2.1, c1.1]
/-- the least of all LADDERS -/
def zm3 (L : Nat) (c : Nat → Int) : Int := if L = 1 then c 0 else if L = 2 then min (c 0) (c 1) else min (c 0) (min (c 1) (c 2))
def zWf (h : Nat → Nat → Int) (L B : Nat) (pl : Nat → Nat) : Nat → Nat → Int
  | 0, X => zMv h L B X
  | n + 1, X => zm3 L (fun l => zWf h L B pl n (zwd X l (pl n)) + h (12 + pl n) (zdg X l))
theorem zMv_sym {h : Nat → Nat → Int} {p L B : Nat} (hL : 1 ≤ L ∧ L ≤ 3) : zSym p L (zMv h L B) := by
  intro X hX
  have d := zsw_dg X (zSb_lt hL.2 hX)
  constructor
  · intro h2
    unfold zMv
    rw [d.1.1, d.1.2.1, d.1.2.2]
    by_cases q : L = 2
    · rw [if_neg (by omega), if_pos q, if_neg (by omega), if_pos q]
      omega
    · rw [if_neg (by omega), if_neg q, if_neg (by omega), if_neg q]
      omega
  · intro h3
    unfold zMv
    rw [d.2.1, d.2.2.1, d.2.2.2]
    rw [if_neg (by omega), if_neg (by omega), if_neg (by omega), if_neg (by omega)]
    omega
theorem zWf_sym {h : Nat → Nat → Int} {p L B : Nat} {pl : Nat → Nat} (hp : p ≤ 6) (hL : 1 ≤ L ∧ L ≤ 3) : ∀ n : Nat, (∀ i : Nat, i < n → pl i < p) → zSym p L (zWf h L B pl n) := by
  intro n
  induction n with
  | zero => intro _; exact zMv_sym hL
  | succ n ih =>
    intro hpl X hX
    have hf := ih (fun i hi => hpl i (by omega))
    have hv := hpl n (by omega)
    have hXl := zSb_lt hL.2 hX
    have d := zsw_dg X hXl
    have w := zsw_wd X hXl (pl n) (by omega)
    constructor
    · intro h2
      have e0 := (hf _ (zSb_wd hp hL.2 hX (show 0 < L by omega) hv)).1 h2
      have e1 := (hf _ (zSb_wd hp hL.2 hX (show 1 < L by omega) hv)).1 h2
      show zm3 L _ = zm3 L _
      unfold zm3
      dsimp only
      rw [d.1.1, d.1.2.1, d.1.2.2, w.1.1, w.1.2.1, w.1.2.2, e0, e1]
      by_cases q : L = 2
      · rw [if_neg (by omega), if_pos q, if_neg (by omega), if_pos q]
        omega
      · rw [if_neg (by omega), if_neg q, if_neg (by omega), if_neg q]
        have e2 := (hf _ (zSb_wd hp hL.2 hX (show 2 < L by omega) hv)).1 h2
        rw [e2]
        omega
    · intro h3
      have e0 := (hf _ (zSb_wd hp hL.2 hX (show 0 < L by omega) hv)).2 h3
      have e1 := (hf _ (zSb_wd hp hL.2 hX (show 1 < L by omega) hv)).2 h3
      have e2 := (hf _ (zSb_wd hp hL.2 hX (show 2 < L by omega) hv)).2 h3
      show zm3 L _ = zm3 L _
      unfold zm3
      dsimp only
      rw [d.2.1, d.2.2.1, d.2.2.2, w.2.1, w.2.2.1, w.2.2.2, e0, e1, e2]
      rw [if_neg (by omega), if_neg (by omega), if_neg (by omega), if_neg (by omega)]
      omega
theorem zm3_b {L : Nat} {c : Nat → Int} {a b : Int} (hL : 1 ≤ L ∧ L ≤ 3) (h : ∀ l : Nat, l < L → a ≤ c l ∧ c l ≤ b) : a ≤ zm3 L c ∧ zm3 L c ≤ b := by
  unfold zm3
  rcases (show L = 1 ∨ L = 2 ∨ L = 3 by omega) with rfl | rfl | rfl
  · rw [if_pos rfl]; exact h 0 (by decide)
  · rw [if_neg (by decide), if_pos rfl]
    have h0 := h 0 (by decide)
    have h1 := h 1 (by decide)
    omega
  · rw [if_neg (by decide), if_neg (by decide)]
    have h0 := h 0 (by decide)
    have h1 := h 1 (by decide)
    have h2 := h 2 (by decide)
    omega
theorem zMv_b {h : Nat → Nat → Int} {p L B X : Nat} (hp : p ≤ 6) (hL : 1 ≤ L ∧ L ≤ 3) (hT : zTD h p) (hB : zSb p L B = true) (hX : zSb p L X = true) : 0 ≤ zMv h L B X ∧ zMv h L B X ≤ 4500 := by
  have k : ∀ i j : Nat, i < L → j < L → 0 ≤ h (12 + zdg B i) (zdg X j) ∧ h (12 + zdg B i) (zdg X j) ≤ 1500 := fun i j hi hj => by
    have a := zSb_dg hB hi
    have b := zSb_dg hX hj
    exact ⟨(hT.1 _ _ (by omega) (by omega)).1, hT.2.1 _ _ a b⟩
  unfold zMv
  rcases (show L = 1 ∨ L = 2 ∨ L = 3 by omega) with rfl | rfl | rfl
  · rw [if_pos rfl]
    have := k 0 0 (by decide) (by decide)
    omega
  · rw [if_neg (by decide), if_pos rfl]
    have a := k 0 0 (by decide) (by decide)
    have b := k 0 1 (by decide) (by decide)
    have c := k 1 0 (by decide) (by decide)
    have d := k 1 1 (by decide) (by decide)
    omega
  · rw [if_neg (by decide), if_neg (by decide)]
    have a0 := k 0 0 (by decide) (by decide)
    have a1 := k 0 1 (by decide) (by decide)
    have a2 := k 0 2 (by decide) (by decide)
    have b0 := k 1 0 (by decide) (by decide)
    have b1 := k 1 1 (by decide) (by decide)
    have b2 := k 1 2 (by decide) (by decide)
    have c0 := k 2 0 (by decide) (by decide)
    have c1 := k 2 1 (by decide) (by decide)
    have c2 := k 2 2 (by decide) (by decide)
    omega
theorem zWf_b {h : Nat → Nat → Int} {p L B : Nat} {pl : Nat → Nat} (hp : p ≤ 6) (hL : 1 ≤ L ∧ L ≤ 3) (hT : zTD h p) (hB : zSb p L B = true) : ∀ n : Nat, (∀ i : Nat, i < n → pl i < p) → ∀ X : Nat, zSb p L X = true → 0 ≤ zWf h L B pl n X ∧ zWf h L B pl n X ≤ 4500 + 1500 * (n : Int) := by
  intro n
  induction n with
  | zero =>
    intro _ X hX
    have := zMv_b hp hL hT hB hX
    exact ⟨this.1, by show zMv h L B X ≤ _; omega⟩
  | succ n ih =>
    intro hpl X hX
    have hv := hpl n (by omega)
    refine zm3_b hL (fun l hl => ?_)
    have a := ih (fun i hi => hpl i (by omega)) _ (zSb_wd hp hL.2 hX hl hv)
    have b := zSb_dg hX hl
    have c := hT.1 (pl n) (zdg X l) (by omega) (by omega)
    have d := hT.2.1 (pl n) (zdg X l) hv b
    omega
theorem zWf_same {h g : Nat → Nat → Int} {L B : Nat} {pl ql : Nat → Nat} (hs : ∀ c : Nat, 12 ≤ c → c < 20 → g c = h c) : ∀ n : Nat, (∀ i : Nat, i < n → pl i = ql i ∧ pl i < 8) → ∀ X : Nat, zWf g L B pl n X = zWf h L B ql n X := by
  intro n
  induction n with
  | zero => intro _ X; exact zMv_same hs
  | succ n ih =>
    intro hq X
    have e := ih (fun i hi => hq i (by omega))
    have e2 := hq n (by omega)
    show zm3 L _ = zm3 L _
    congr 1
    funext l
    rw [e, e2.1, hs (12 + ql n) (by omega) (by omega)]
/-- the rows of a day's WORK: known ones are WORK of the CALLS heard -/
def zWI (h : Nat → Nat → Int) (p L B W HE R n : Nat) : Prop := ∃ k : Nat, h W 4 = (k : Int) ∧ k ≤ n ∧ (∀ i : Nat, i < k → 0 ≤ h HE i ∧ h HE i < (p : Int)) ∧ ∀ i : Nat, i ≤ k → ∀ s : Nat, (s : Int) < h 18 2 → h (R + i) s = zWf h L B (fun j => Int.toNat (h HE j)) i (Int.toNat (h 19 s))
/-- WORK of any STAND, by its slot -/
theorem zWI_at {h : Nat → Nat → Int} {p L B W HE R n k i X : Nat} (hS : zSI h p L) (hW : zWI h p L B W HE R n) (hk : h W 4 = (k : Int)) (hi : i ≤ k) (hX : zSb p L X = true) : h (R + i) (Int.toNat (h 20 X)) = zWf h L B (fun j => Int.toNat (h HE j)) i X := by
  obtain ⟨k', e1, e2, e3, e4⟩ := hW
  obtain rfl : k' = k := by omega
  have hXl := zSb_lt hS.1.2 hX
  have s := hS.2.2.2.2.1 X hXl hX
  have e := e4 i hi (Int.toNat (h 20 X)) (by omega)
  rw [s.2.2, Int.toNat_natCast] at e
  rw [e]
  exact zSym_LL hS.1 (zWf_sym hS.2.1 hS.1 i (fun j hj => by have := e3 j (by omega); omega)) hX
theorem zAf_W {h : Nat → Nat → Int} {p L B W HE R n k i X pp : Nat} (hS : zSI h p L) (hW : zWI h p L B W HE R n) (hk : h W 4 = (k : Int)) (hi : i ≤ k) (hX : zSb p L X = true) (hpp : pp < p) : zAf h L (R + i) X pp = zm3 L (fun l => zWf h L B (fun j => Int.toNat (h HE j)) i (zwd X l pp) + h (12 + pp) (zdg X l)) := by
  have w : ∀ l : Nat, l < L → h (R + i) (Int.toNat (h 20 (zwd X l pp))) = zWf h L B (fun j => Int.toNat (h HE j)) i (zwd X l pp) := fun l hl => zWI_at hS hW hk hi (zSb_wd hS.2.1 hS.1.2 hX hl hpp)
  unfold zAf zm3
  rcases (show L = 1 ∨ L = 2 ∨ L = 3 by have := hS.1; omega) with rfl | rfl | rfl
  · rw [if_pos rfl, if_pos rfl, w 0 (by decide)]
  · rw [if_neg (by decide), if_pos rfl, if_neg (by decide), if_pos rfl, w 0 (by decide), w 1 (by decide)]
  · rw [if_neg (by decide), if_neg (by decide), if_neg (by decide), if_neg (by decide), w 0 (by decide), w 1 (by decide), w 2 (by decide)]
