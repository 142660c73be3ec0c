/-! Least costs from row to row and WORK: the one is the other. -/
theorem zMv_le1 (h : Nat → Nat → Int) (s X : Nat) : zMv h 1 s X ≤ h (12 + zdg s 0) (zdg X 0) := by
  unfold zMv
  rw [if_pos rfl]
  exact Int.le_refl _
theorem zMv_at1 (h : Nat → Nat → Int) (s X : Nat) : zMv h 1 s X = h (12 + zdg s 0) (zdg X 0) := by
  unfold zMv
  rw [if_pos rfl]
theorem zMv_le2 (h : Nat → Nat → Int) (s X : Nat) : zMv h 2 s X ≤ h (12 + zdg s 0) (zdg X 0) + h (12 + zdg s 1) (zdg X 1) ∧ zMv h 2 s X ≤ h (12 + zdg s 0) (zdg X 1) + h (12 + zdg s 1) (zdg X 0) := by
  unfold zMv
  rw [if_neg (by decide), if_pos rfl]
  omega
theorem zMv_at2 (h : Nat → Nat → Int) (s X : Nat) : zMv h 2 s X = h (12 + zdg s 0) (zdg X 0) + h (12 + zdg s 1) (zdg X 1) ∨ zMv h 2 s X = h (12 + zdg s 0) (zdg X 1) + h (12 + zdg s 1) (zdg X 0) := by
  unfold zMv
  rw [if_neg (by decide), if_pos rfl]
  omega
theorem zMv_le3 (h : Nat → Nat → Int) (s X : Nat) : zMv h 3 s X ≤ h (12 + zdg s 0) (zdg X 0) + h (12 + zdg s 1) (zdg X 1) + h (12 + zdg s 2) (zdg X 2) ∧ zMv h 3 s X ≤ h (12 + zdg s 0) (zdg X 1) + h (12 + zdg s 1) (zdg X 0) + h (12 + zdg s 2) (zdg X 2) ∧ zMv h 3 s X ≤ h (12 + zdg s 0) (zdg X 0) + h (12 + zdg s 1) (zdg X 2) + h (12 + zdg s 2) (zdg X 1) ∧ zMv h 3 s X ≤ h (12 + zdg s 0) (zdg X 1) + h (12 + zdg s 1) (zdg X 2) + h (12 + zdg s 2) (zdg X 0) ∧ zMv h 3 s X ≤ h (12 + zdg s 0) (zdg X 2) + h (12 + zdg s 1) (zdg X 0) + h (12 + zdg s 2) (zdg X 1) ∧ zMv h 3 s X ≤ h (12 + zdg s 0) (zdg X 2) + h (12 + zdg s 1) (zdg X 1) + h (12 + zdg s 2) (zdg X 0) := by
  unfold zMv
  rw [if_neg (by decide), if_neg (by decide)]
  omega
theorem zMv_at3 (h : Nat → Nat → Int) (s X : Nat) : zMv h 3 s X = h (12 + zdg s 0) (zdg X 0) + h (12 + zdg s 1) (zdg X 1) + h (12 + zdg s 2) (zdg X 2) ∨ zMv h 3 s X = h (12 + zdg s 0) (zdg X 1) + h (12 + zdg s 1) (zdg X 0) + h (12 + zdg s 2) (zdg X 2) ∨ zMv h 3 s X = h (12 + zdg s 0) (zdg X 0) + h (12 + zdg s 1) (zdg X 2) + h (12 + zdg s 2) (zdg X 1) ∨ zMv h 3 s X = h (12 + zdg s 0) (zdg X 1) + h (12 + zdg s 1) (zdg X 2) + h (12 + zdg s 2) (zdg X 0) ∨ zMv h 3 s X = h (12 + zdg s 0) (zdg X 2) + h (12 + zdg s 1) (zdg X 0) + h (12 + zdg s 2) (zdg X 1) ∨ zMv h 3 s X = h (12 + zdg s 0) (zdg X 2) + h (12 + zdg s 1) (zdg X 1) + h (12 + zdg s 2) (zdg X 0) := by
  unfold zMv
  rw [if_neg (by decide), if_neg (by decide)]
  omega
theorem zMB10 {h : Nat → Nat → Int} {s X p : Nat} (hs : s < 512) (hX : X < 512) (hp : p < 8) : ∃ l : Nat, l < 1 ∧ zMv h 1 s (zwd X l p) + h (12 + p) (zdg X l) ≤ h (12 + zdg s 0) p + zMv h 1 (zwd s 0 p) X := by
  have q := zMv_at1 h (zwd s 0 p) X
  have e0 := zdg_wd s hs 0 (by decide) p hp 0 (by decide)
  rw [if_pos rfl] at e0
  rw [e0] at q
  skip
  · have u := (zMv_le1 h s (zwd X 0 p))
    have f0 := zdg_wd X hX 0 (by decide) p hp 0 (by decide)
    rw [if_pos rfl] at f0
    rw [f0] at u
    exact ⟨0, by decide, by omega⟩
theorem zMC10 {h : Nat → Nat → Int} {s X p : Nat} (hs : s < 512) (hX : X < 512) (hp : p < 8) : ∃ l : Nat, l < 1 ∧ h (12 + zdg s l) p + zMv h 1 (zwd s l p) X ≤ zMv h 1 s (zwd X 0 p) + h (12 + p) (zdg X 0) := by
  have q := zMv_at1 h s (zwd X 0 p)
  have e0 := zdg_wd X hX 0 (by decide) p hp 0 (by decide)
  rw [if_pos rfl] at e0
  rw [e0] at q
  skip
  · have u := (zMv_le1 h (zwd s 0 p) X)
    have f0 := zdg_wd s hs 0 (by decide) p hp 0 (by decide)
    rw [if_pos rfl] at f0
    rw [f0] at u
    exact ⟨0, by decide, by omega⟩
theorem zMB20 {h : Nat → Nat → Int} {s X p : Nat} (hs : s < 512) (hX : X < 512) (hp : p < 8) : ∃ l : Nat, l < 2 ∧ zMv h 2 s (zwd X l p) + h (12 + p) (zdg X l) ≤ h (12 + zdg s 0) p + zMv h 2 (zwd s 0 p) X := by
  have q := zMv_at2 h (zwd s 0 p) X
  have e0 := zdg_wd s hs 0 (by decide) p hp 0 (by decide)
  have e1 := zdg_wd s hs 0 (by decide) p hp 1 (by decide)
  rw [if_pos rfl] at e0
  rw [if_neg (by decide)] at e1
  rw [e0, e1] at q
  rcases q with q | q
  · have u := (zMv_le2 h s (zwd X 0 p)).1
    have f0 := zdg_wd X hX 0 (by decide) p hp 0 (by decide)
    have f1 := zdg_wd X hX 0 (by decide) p hp 1 (by decide)
    rw [if_pos rfl] at f0
    rw [if_neg (by decide)] at f1
    rw [f0, f1] at u
    exact ⟨0, by decide, by omega⟩
  · have u := (zMv_le2 h s (zwd X 1 p)).2
    have f0 := zdg_wd X hX 1 (by decide) p hp 0 (by decide)
    have f1 := zdg_wd X hX 1 (by decide) p hp 1 (by decide)
    rw [if_neg (by decide)] at f0
    rw [if_pos rfl] at f1
    rw [f0, f1] at u
    exact ⟨1, by decide, by omega⟩
theorem zMC20 {h : Nat → Nat → Int} {s X p : Nat} (hs : s < 512) (hX : X < 512) (hp : p < 8) : ∃ l : Nat, l < 2 ∧ h (12 + zdg s l) p + zMv h 2 (zwd s l p) X ≤ zMv h 2 s (zwd X 0 p) + h (12 + p) (zdg X 0) := by
  have q := zMv_at2 h s (zwd X 0 p)
  have e0 := zdg_wd X hX 0 (by decide) p hp 0 (by decide)
  have e1 := zdg_wd X hX 0 (by decide) p hp 1 (by decide)
  rw [if_pos rfl] at e0
  rw [if_neg (by decide)] at e1
  rw [e0, e1] at q
  rcases q with q | q
  · have u := (zMv_le2 h (zwd s 0 p) X).1
    have f0 := zdg_wd s hs 0 (by decide) p hp 0 (by decide)
    have f1 := zdg_wd s hs 0 (by decide) p hp 1 (by decide)
    rw [if_pos rfl] at f0
    rw [if_neg (by decide)] at f1
    rw [f0, f1] at u
    exact ⟨0, by decide, by omega⟩
  · have u := (zMv_le2 h (zwd s 1 p) X).2
    have f0 := zdg_wd s hs 1 (by decide) p hp 0 (by decide)
    have f1 := zdg_wd s hs 1 (by decide) p hp 1 (by decide)
    rw [if_neg (by decide)] at f0
    rw [if_pos rfl] at f1
    rw [f0, f1] at u
    exact ⟨1, by decide, by omega⟩
theorem zMB21 {h : Nat → Nat → Int} {s X p : Nat} (hs : s < 512) (hX : X < 512) (hp : p < 8) : ∃ l : Nat, l < 2 ∧ zMv h 2 s (zwd X l p) + h (12 + p) (zdg X l) ≤ h (12 + zdg s 1) p + zMv h 2 (zwd s 1 p) X := by
  have q := zMv_at2 h (zwd s 1 p) X
  have e0 := zdg_wd s hs 1 (by decide) p hp 0 (by decide)
  have e1 := zdg_wd s hs 1 (by decide) p hp 1 (by decide)
  rw [if_neg (by decide)] at e0
  rw [if_pos rfl] at e1
  rw [e0, e1] at q
  rcases q with q | q
  · have u := (zMv_le2 h s (zwd X 1 p)).1
    have f0 := zdg_wd X hX 1 (by decide) p hp 0 (by decide)
    have f1 := zdg_wd X hX 1 (by decide) p hp 1 (by decide)
    rw [if_neg (by decide)] at f0
    rw [if_pos rfl] at f1
    rw [f0, f1] at u
    exact ⟨1, by decide, by omega⟩
  · have u := (zMv_le2 h s (zwd X 0 p)).2
    have f0 := zdg_wd X hX 0 (by decide) p hp 0 (by decide)
    have f1 := zdg_wd X hX 0 (by decide) p hp 1 (by decide)
    rw [if_pos rfl] at f0
    rw [if_neg (by decide)] at f1
    rw [f0, f1] at u
    exact ⟨0, by decide, by omega⟩
theorem zMC21 {h : Nat → Nat → Int} {s X p : Nat} (hs : s < 512) (hX : X < 512) (hp : p < 8) : ∃ l : Nat, l < 2 ∧ h (12 + zdg s l) p + zMv h 2 (zwd s l p) X ≤ zMv h 2 s (zwd X 1 p) + h (12 + p) (zdg X 1) := by
  have q := zMv_at2 h s (zwd X 1 p)
  have e0 := zdg_wd X hX 1 (by decide) p hp 0 (by decide)
  have e1 := zdg_wd X hX 1 (by decide) p hp 1 (by decide)
  rw [if_neg (by decide)] at e0
  rw [if_pos rfl] at e1
  rw [e0, e1] at q
  rcases q with q | q
  · have u := (zMv_le2 h (zwd s 1 p) X).1
    have f0 := zdg_wd s hs 1 (by decide) p hp 0 (by decide)
    have f1 := zdg_wd s hs 1 (by decide) p hp 1 (by decide)
    rw [if_neg (by decide)] at f0
    rw [if_pos rfl] at f1
    rw [f0, f1] at u
    exact ⟨1, by decide, by omega⟩
  · have u := (zMv_le2 h (zwd s 0 p) X).2
    have f0 := zdg_wd s hs 0 (by decide) p hp 0 (by decide)
    have f1 := zdg_wd s hs 0 (by decide) p hp 1 (by decide)
    rw [if_pos rfl] at f0
    rw [if_neg (by decide)] at f1
    rw [f0, f1] at u
    exact ⟨0, by decide, by omega⟩
theorem zMB30 {h : Nat → Nat → Int} {s X p : Nat} (hs : s < 512) (hX : X < 512) (hp : p < 8) : ∃ l : Nat, l < 3 ∧ zMv h 3 s (zwd X l p) + h (12 + p) (zdg X l) ≤ h (12 + zdg s 0) p + zMv h 3 (zwd s 0 p) X := by
  have q := zMv_at3 h (zwd s 0 p) X
  have e0 := zdg_wd s hs 0 (by decide) p hp 0 (by decide)
  have e1 := zdg_wd s hs 0 (by decide) p hp 1 (by decide)
  have e2 := zdg_wd s hs 0 (by decide) p hp 2 (by decide)
  rw [if_pos rfl] at e0
  rw [if_neg (by decide)] at e1
  rw [if_neg (by decide)] at e2
  rw [e0, e1, e2] at q
  rcases q with q | q | q | q | q | q
  · have u := (zMv_le3 h s (zwd X 0 p)).1
    have f0 := zdg_wd X hX 0 (by decide) p hp 0 (by decide)
    have f1 := zdg_wd X hX 0 (by decide) p hp 1 (by decide)
    have f2 := zdg_wd X hX 0 (by decide) p hp 2 (by decide)
    rw [if_pos rfl] at f0
    rw [if_neg (by decide)] at f1
    rw [if_neg (by decide)] at f2
    rw [f0, f1, f2] at u
    exact ⟨0, by decide, by omega⟩
  · have u := (zMv_le3 h s (zwd X 1 p)).2.1
    have f0 := zdg_wd X hX 1 (by decide) p hp 0 (by decide)
    have f1 := zdg_wd X hX 1 (by decide) p hp 1 (by decide)
    have f2 := zdg_wd X hX 1 (by decide) p hp 2 (by decide)
    rw [if_neg (by decide)] at f0
    rw [if_pos rfl] at f1
    rw [if_neg (by decide)] at f2
    rw [f0, f1, f2] at u
    exact ⟨1, by decide, by omega⟩
  · have u := (zMv_le3 h s (zwd X 0 p)).2.2.1
    have f0 := zdg_wd X hX 0 (by decide) p hp 0 (by decide)
    have f1 := zdg_wd X hX 0 (by decide) p hp 1 (by decide)
    have f2 := zdg_wd X hX 0 (by decide) p hp 2 (by decide)
    rw [if_pos rfl] at f0
    rw [if_neg (by decide)] at f1
    rw [if_neg (by decide)] at f2
    rw [f0, f1, f2] at u
    exact ⟨0, by decide, by omega⟩
  · have u := (zMv_le3 h s (zwd X 1 p)).2.2.2.1
    have f0 := zdg_wd X hX 1 (by decide) p hp 0 (by decide)
    have f1 := zdg_wd X hX 1 (by decide) p hp 1 (by decide)
    have f2 := zdg_wd X hX 1 (by decide) p hp 2 (by decide)
    rw [if_neg (by decide)] at f0
    rw [if_pos rfl] at f1
    rw [if_neg (by decide)] at f2
    rw [f0, f1, f2] at u
    exact ⟨1, by decide, by omega⟩
  · have u := (zMv_le3 h s (zwd X 2 p)).2.2.2.2.1
    have f0 := zdg_wd X hX 2 (by decide) p hp 0 (by decide)
    have f1 := zdg_wd X hX 2 (by decide) p hp 1 (by decide)
    have f2 := zdg_wd X hX 2 (by decide) p hp 2 (by decide)
    rw [if_neg (by decide)] at f0
    rw [if_neg (by decide)] at f1
    rw [if_pos rfl] at f2
    rw [f0, f1, f2] at u
    exact ⟨2, by decide, by omega⟩
  · have u := (zMv_le3 h s (zwd X 2 p)).2.2.2.2.2
    have f0 := zdg_wd X hX 2 (by decide) p hp 0 (by decide)
    have f1 := zdg_wd X hX 2 (by decide) p hp 1 (by decide)
    have f2 := zdg_wd X hX 2 (by decide) p hp 2 (by decide)
    rw [if_neg (by decide)] at f0
    rw [if_neg (by decide)] at f1
    rw [if_pos rfl] at f2
    rw [f0, f1, f2] at u
    exact ⟨2, by decide, by omega⟩
theorem zMC30 {h : Nat → Nat → Int} {s X p : Nat} (hs : s < 512) (hX : X < 512) (hp : p < 8) : ∃ l : Nat, l < 3 ∧ h (12 + zdg s l) p + zMv h 3 (zwd s l p) X ≤ zMv h 3 s (zwd X 0 p) + h (12 + p) (zdg X 0) := by
  have q := zMv_at3 h s (zwd X 0 p)
  have e0 := zdg_wd X hX 0 (by decide) p hp 0 (by decide)
  have e1 := zdg_wd X hX 0 (by decide) p hp 1 (by decide)
  have e2 := zdg_wd X hX 0 (by decide) p hp 2 (by decide)
  rw [if_pos rfl] at e0
  rw [if_neg (by decide)] at e1
  rw [if_neg (by decide)] at e2
  rw [e0, e1, e2] at q
  rcases q with q | q | q | q | q | q
  · have u := (zMv_le3 h (zwd s 0 p) X).1
    have f0 := zdg_wd s hs 0 (by decide) p hp 0 (by decide)
    have f1 := zdg_wd s hs 0 (by decide) p hp 1 (by decide)
    have f2 := zdg_wd s hs 0 (by decide) p hp 2 (by decide)
    rw [if_pos rfl] at f0
    rw [if_neg (by decide)] at f1
    rw [if_neg (by decide)] at f2
    rw [f0, f1, f2] at u
    exact ⟨0, by decide, by omega⟩
  · have u := (zMv_le3 h (zwd s 1 p) X).2.1
    have f0 := zdg_wd s hs 1 (by decide) p hp 0 (by decide)
    have f1 := zdg_wd s hs 1 (by decide) p hp 1 (by decide)
    have f2 := zdg_wd s hs 1 (by decide) p hp 2 (by decide)
    rw [if_neg (by decide)] at f0
    rw [if_pos rfl] at f1
    rw [if_neg (by decide)] at f2
    rw [f0, f1, f2] at u
    exact ⟨1, by decide, by omega⟩
  · have u := (zMv_le3 h (zwd s 0 p) X).2.2.1
    have f0 := zdg_wd s hs 0 (by decide) p hp 0 (by decide)
    have f1 := zdg_wd s hs 0 (by decide) p hp 1 (by decide)
    have f2 := zdg_wd s hs 0 (by decide) p hp 2 (by decide)
    rw [if_pos rfl] at f0
    rw [if_neg (by decide)] at f1
    rw [if_neg (by decide)] at f2
    rw [f0, f1, f2] at u
    exact ⟨0, by decide, by omega⟩
  · have u := (zMv_le3 h (zwd s 2 p) X).2.2.2.1
    have f0 := zdg_wd s hs 2 (by decide) p hp 0 (by decide)
    have f1 := zdg_wd s hs 2 (by decide) p hp 1 (by decide)
    have f2 := zdg_wd s hs 2 (by decide) p hp 2 (by decide)
    rw [if_neg (by decide)] at f0
    rw [if_neg (by decide)] at f1
    rw [if_pos rfl] at f2
    rw [f0, f1, f2] at u
    exact ⟨2, by decide, by omega⟩
  · have u := (zMv_le3 h (zwd s 1 p) X).2.2.2.2.1
    have f0 := zdg_wd s hs 1 (by decide) p hp 0 (by decide)
    have f1 := zdg_wd s hs 1 (by decide) p hp 1 (by decide)
    have f2 := zdg_wd s hs 1 (by decide) p hp 2 (by decide)
    rw [if_neg (by decide)] at f0
    rw [if_pos rfl] at f1
    rw [if_neg (by decide)] at f2
    rw [f0, f1, f2] at u
    exact ⟨1, by decide, by omega⟩
  · have u := (zMv_le3 h (zwd s 2 p) X).2.2.2.2.2
    have f0 := zdg_wd s hs 2 (by decide) p hp 0 (by decide)
    have f1 := zdg_wd s hs 2 (by decide) p hp 1 (by decide)
    have f2 := zdg_wd s hs 2 (by decide) p hp 2 (by decide)
    rw [if_neg (by decide)] at f0
    rw [if_neg (by decide)] at f1
    rw [if_pos rfl] at f2
    rw [f0, f1, f2] at u
    exact ⟨2, by decide, by omega⟩
theorem zMB31 {h : Nat → Nat → Int} {s X p : Nat} (hs : s < 512) (hX : X < 512) (hp : p < 8) : ∃ l : Nat, l < 3 ∧ zMv h 3 s (zwd X l p) + h (12 + p) (zdg X l) ≤ h (12 + zdg s 1) p + zMv h 3 (zwd s 1 p) X := by
  have q := zMv_at3 h (zwd s 1 p) X
  have e0 := zdg_wd s hs 1 (by decide) p hp 0 (by decide)
  have e1 := zdg_wd s hs 1 (by decide) p hp 1 (by decide)
  have e2 := zdg_wd s hs 1 (by decide) p hp 2 (by decide)
  rw [if_neg (by decide)] at e0
  rw [if_pos rfl] at e1
  rw [if_neg (by decide)] at e2
  rw [e0, e1, e2] at q
  rcases q with q | q | q | q | q | q
  · have u := (zMv_le3 h s (zwd X 1 p)).1
    have f0 := zdg_wd X hX 1 (by decide) p hp 0 (by decide)
    have f1 := zdg_wd X hX 1 (by decide) p hp 1 (by decide)
    have f2 := zdg_wd X hX 1 (by decide) p hp 2 (by decide)
    rw [if_neg (by decide)] at f0
    rw [if_pos rfl] at f1
    rw [if_neg (by decide)] at f2
    rw [f0, f1, f2] at u
    exact ⟨1, by decide, by omega⟩
  · have u := (zMv_le3 h s (zwd X 0 p)).2.1
    have f0 := zdg_wd X hX 0 (by decide) p hp 0 (by decide)
    have f1 := zdg_wd X hX 0 (by decide) p hp 1 (by decide)
    have f2 := zdg_wd X hX 0 (by decide) p hp 2 (by decide)
    rw [if_pos rfl] at f0
    rw [if_neg (by decide)] at f1
    rw [if_neg (by decide)] at f2
    rw [f0, f1, f2] at u
    exact ⟨0, by decide, by omega⟩
  · have u := (zMv_le3 h s (zwd X 2 p)).2.2.1
    have f0 := zdg_wd X hX 2 (by decide) p hp 0 (by decide)
    have f1 := zdg_wd X hX 2 (by decide) p hp 1 (by decide)
    have f2 := zdg_wd X hX 2 (by decide) p hp 2 (by decide)
    rw [if_neg (by decide)] at f0
    rw [if_neg (by decide)] at f1
    rw [if_pos rfl] at f2
    rw [f0, f1, f2] at u
    exact ⟨2, by decide, by omega⟩
  · have u := (zMv_le3 h s (zwd X 2 p)).2.2.2.1
    have f0 := zdg_wd X hX 2 (by decide) p hp 0 (by decide)
    have f1 := zdg_wd X hX 2 (by decide) p hp 1 (by decide)
    have f2 := zdg_wd X hX 2 (by decide) p hp 2 (by decide)
    rw [if_neg (by decide)] at f0
    rw [if_neg (by decide)] at f1
    rw [if_pos rfl] at f2
    rw [f0, f1, f2] at u
    exact ⟨2, by decide, by omega⟩
  · have u := (zMv_le3 h s (zwd X 0 p)).2.2.2.2.1
    have f0 := zdg_wd X hX 0 (by decide) p hp 0 (by decide)
    have f1 := zdg_wd X hX 0 (by decide) p hp 1 (by decide)
    have f2 := zdg_wd X hX 0 (by decide) p hp 2 (by decide)
    rw [if_pos rfl] at f0
    rw [if_neg (by decide)] at f1
    rw [if_neg (by decide)] at f2
    rw [f0, f1, f2] at u
    exact ⟨0, by decide, by omega⟩
  · have u := (zMv_le3 h s (zwd X 1 p)).2.2.2.2.2
    have f0 := zdg_wd X hX 1 (by decide) p hp 0 (by decide)
    have f1 := zdg_wd X hX 1 (by decide) p hp 1 (by decide)
    have f2 := zdg_wd X hX 1 (by decide) p hp 2 (by decide)
    rw [if_neg (by decide)] at f0
    rw [if_pos rfl] at f1
    rw [if_neg (by decide)] at f2
    rw [f0, f1, f2] at u
    exact ⟨1, by decide, by omega⟩
theorem zMC31 {h : Nat → Nat → Int} {s X p : Nat} (hs : s < 512) (hX : X < 512) (hp : p < 8) : ∃ l : Nat, l < 3 ∧ h (12 + zdg s l) p + zMv h 3 (zwd s l p) X ≤ zMv h 3 s (zwd X 1 p) + h (12 + p) (zdg X 1) := by
  have q := zMv_at3 h s (zwd X 1 p)
  have e0 := zdg_wd X hX 1 (by decide) p hp 0 (by decide)
  have e1 := zdg_wd X hX 1 (by decide) p hp 1 (by decide)
  have e2 := zdg_wd X hX 1 (by decide) p hp 2 (by decide)
  rw [if_neg (by decide)] at e0
  rw [if_pos rfl] at e1
  rw [if_neg (by decide)] at e2
  rw [e0, e1, e2] at q
  rcases q with q | q | q | q | q | q
  · have u := (zMv_le3 h (zwd s 1 p) X).1
    have f0 := zdg_wd s hs 1 (by decide) p hp 0 (by decide)
    have f1 := zdg_wd s hs 1 (by decide) p hp 1 (by decide)
    have f2 := zdg_wd s hs 1 (by decide) p hp 2 (by decide)
    rw [if_neg (by decide)] at f0
    rw [if_pos rfl] at f1
    rw [if_neg (by decide)] at f2
    rw [f0, f1, f2] at u
    exact ⟨1, by decide, by omega⟩
  · have u := (zMv_le3 h (zwd s 0 p) X).2.1
    have f0 := zdg_wd s hs 0 (by decide) p hp 0 (by decide)
    have f1 := zdg_wd s hs 0 (by decide) p hp 1 (by decide)
    have f2 := zdg_wd s hs 0 (by decide) p hp 2 (by decide)
    rw [if_pos rfl] at f0
    rw [if_neg (by decide)] at f1
    rw [if_neg (by decide)] at f2
    rw [f0, f1, f2] at u
    exact ⟨0, by decide, by omega⟩
  · have u := (zMv_le3 h (zwd s 2 p) X).2.2.1
    have f0 := zdg_wd s hs 2 (by decide) p hp 0 (by decide)
    have f1 := zdg_wd s hs 2 (by decide) p hp 1 (by decide)
    have f2 := zdg_wd s hs 2 (by decide) p hp 2 (by decide)
    rw [if_neg (by decide)] at f0
    rw [if_neg (by decide)] at f1
    rw [if_pos rfl] at f2
    rw [f0, f1, f2] at u
    exact ⟨2, by decide, by omega⟩
  · have u := (zMv_le3 h (zwd s 0 p) X).2.2.2.1
    have f0 := zdg_wd s hs 0 (by decide) p hp 0 (by decide)
    have f1 := zdg_wd s hs 0 (by decide) p hp 1 (by decide)
    have f2 := zdg_wd s hs 0 (by decide) p hp 2 (by decide)
    rw [if_pos rfl] at f0
    rw [if_neg (by decide)] at f1
    rw [if_neg (by decide)] at f2
    rw [f0, f1, f2] at u
    exact ⟨0, by decide, by omega⟩
  · have u := (zMv_le3 h (zwd s 2 p) X).2.2.2.2.1
    have f0 := zdg_wd s hs 2 (by decide) p hp 0 (by decide)
    have f1 := zdg_wd s hs 2 (by decide) p hp 1 (by decide)
    have f2 := zdg_wd s hs 2 (by decide) p hp 2 (by decide)
    rw [if_neg (by decide)] at f0
    rw [if_neg (by decide)] at f1
    rw [if_pos rfl] at f2
    rw [f0, f1, f2] at u
    exact ⟨2, by decide, by omega⟩
  · have u := (zMv_le3 h (zwd s 1 p) X).2.2.2.2.2
    have f0 := zdg_wd s hs 1 (by decide) p hp 0 (by decide)
    have f1 := zdg_wd s hs 1 (by decide) p hp 1 (by decide)
    have f2 := zdg_wd s hs 1 (by decide) p hp 2 (by decide)
    rw [if_neg (by decide)] at f0
    rw [if_pos rfl] at f1
    rw [if_neg (by decide)] at f2
    rw [f0, f1, f2] at u
    exact ⟨1, by decide, by omega⟩
theorem zMB32 {h : Nat → Nat → Int} {s X p : Nat} (hs : s < 512) (hX : X < 512) (hp : p < 8) : ∃ l : Nat, l < 3 ∧ zMv h 3 s (zwd X l p) + h (12 + p) (zdg X l) ≤ h (12 + zdg s 2) p + zMv h 3 (zwd s 2 p) X := by
  have q := zMv_at3 h (zwd s 2 p) X
  have e0 := zdg_wd s hs 2 (by decide) p hp 0 (by decide)
  have e1 := zdg_wd s hs 2 (by decide) p hp 1 (by decide)
  have e2 := zdg_wd s hs 2 (by decide) p hp 2 (by decide)
  rw [if_neg (by decide)] at e0
  rw [if_neg (by decide)] at e1
  rw [if_pos rfl] at e2
  rw [e0, e1, e2] at q
  rcases q with q | q | q | q | q | q
  · have u := (zMv_le3 h s (zwd X 2 p)).1
    have f0 := zdg_wd X hX 2 (by decide) p hp 0 (by decide)
    have f1 := zdg_wd X hX 2 (by decide) p hp 1 (by decide)
    have f2 := zdg_wd X hX 2 (by decide) p hp 2 (by decide)
    rw [if_neg (by decide)] at f0
    rw [if_neg (by decide)] at f1
    rw [if_pos rfl] at f2
    rw [f0, f1, f2] at u
    exact ⟨2, by decide, by omega⟩
  · have u := (zMv_le3 h s (zwd X 2 p)).2.1
    have f0 := zdg_wd X hX 2 (by decide) p hp 0 (by decide)
    have f1 := zdg_wd X hX 2 (by decide) p hp 1 (by decide)
    have f2 := zdg_wd X hX 2 (by decide) p hp 2 (by decide)
    rw [if_neg (by decide)] at f0
    rw [if_neg (by decide)] at f1
    rw [if_pos rfl] at f2
    rw [f0, f1, f2] at u
    exact ⟨2, by decide, by omega⟩
  · have u := (zMv_le3 h s (zwd X 1 p)).2.2.1
    have f0 := zdg_wd X hX 1 (by decide) p hp 0 (by decide)
    have f1 := zdg_wd X hX 1 (by decide) p hp 1 (by decide)
    have f2 := zdg_wd X hX 1 (by decide) p hp 2 (by decide)
    rw [if_neg (by decide)] at f0
    rw [if_pos rfl] at f1
    rw [if_neg (by decide)] at f2
    rw [f0, f1, f2] at u
    exact ⟨1, by decide, by omega⟩
  · have u := (zMv_le3 h s (zwd X 0 p)).2.2.2.1
    have f0 := zdg_wd X hX 0 (by decide) p hp 0 (by decide)
    have f1 := zdg_wd X hX 0 (by decide) p hp 1 (by decide)
    have f2 := zdg_wd X hX 0 (by decide) p hp 2 (by decide)
    rw [if_pos rfl] at f0
    rw [if_neg (by decide)] at f1
    rw [if_neg (by decide)] at f2
    rw [f0, f1, f2] at u
    exact ⟨0, by decide, by omega⟩
  · have u := (zMv_le3 h s (zwd X 1 p)).2.2.2.2.1
    have f0 := zdg_wd X hX 1 (by decide) p hp 0 (by decide)
    have f1 := zdg_wd X hX 1 (by decide) p hp 1 (by decide)
    have f2 := zdg_wd X hX 1 (by decide) p hp 2 (by decide)
    rw [if_neg (by decide)] at f0
    rw [if_pos rfl] at f1
    rw [if_neg (by decide)] at f2
    rw [f0, f1, f2] at u
    exact ⟨1, by decide, by omega⟩
  · have u := (zMv_le3 h s (zwd X 0 p)).2.2.2.2.2
    have f0 := zdg_wd X hX 0 (by decide) p hp 0 (by decide)
    have f1 := zdg_wd X hX 0 (by decide) p hp 1 (by decide)
    have f2 := zdg_wd X hX 0 (by decide) p hp 2 (by decide)
    rw [if_pos rfl] at f0
    rw [if_neg (by decide)] at f1
    rw [if_neg (by decide)] at f2
    rw [f0, f1, f2] at u
    exact ⟨0, by decide, by omega⟩
theorem zMC32 {h : Nat → Nat → Int} {s X p : Nat} (hs : s < 512) (hX : X < 512) (hp : p < 8) : ∃ l : Nat, l < 3 ∧ h (12 + zdg s l) p + zMv h 3 (zwd s l p) X ≤ zMv h 3 s (zwd X 2 p) + h (12 + p) (zdg X 2) := by
  have q := zMv_at3 h s (zwd X 2 p)
  have e0 := zdg_wd X hX 2 (by decide) p hp 0 (by decide)
  have e1 := zdg_wd X hX 2 (by decide) p hp 1 (by decide)
  have e2 := zdg_wd X hX 2 (by decide) p hp 2 (by decide)
  rw [if_neg (by decide)] at e0
  rw [if_neg (by decide)] at e1
  rw [if_pos rfl] at e2
  rw [e0, e1, e2] at q
  rcases q with q | q | q | q | q | q
  · have u := (zMv_le3 h (zwd s 2 p) X).1
    have f0 := zdg_wd s hs 2 (by decide) p hp 0 (by decide)
    have f1 := zdg_wd s hs 2 (by decide) p hp 1 (by decide)
    have f2 := zdg_wd s hs 2 (by decide) p hp 2 (by decide)
    rw [if_neg (by decide)] at f0
    rw [if_neg (by decide)] at f1
    rw [if_pos rfl] at f2
    rw [f0, f1, f2] at u
    exact ⟨2, by decide, by omega⟩
  · have u := (zMv_le3 h (zwd s 2 p) X).2.1
    have f0 := zdg_wd s hs 2 (by decide) p hp 0 (by decide)
    have f1 := zdg_wd s hs 2 (by decide) p hp 1 (by decide)
    have f2 := zdg_wd s hs 2 (by decide) p hp 2 (by decide)
    rw [if_neg (by decide)] at f0
    rw [if_neg (by decide)] at f1
    rw [if_pos rfl] at f2
    rw [f0, f1, f2] at u
    exact ⟨2, by decide, by omega⟩
  · have u := (zMv_le3 h (zwd s 1 p) X).2.2.1
    have f0 := zdg_wd s hs 1 (by decide) p hp 0 (by decide)
    have f1 := zdg_wd s hs 1 (by decide) p hp 1 (by decide)
    have f2 := zdg_wd s hs 1 (by decide) p hp 2 (by decide)
    rw [if_neg (by decide)] at f0
    rw [if_pos rfl] at f1
    rw [if_neg (by decide)] at f2
    rw [f0, f1, f2] at u
    exact ⟨1, by decide, by omega⟩
  · have u := (zMv_le3 h (zwd s 1 p) X).2.2.2.1
    have f0 := zdg_wd s hs 1 (by decide) p hp 0 (by decide)
    have f1 := zdg_wd s hs 1 (by decide) p hp 1 (by decide)
    have f2 := zdg_wd s hs 1 (by decide) p hp 2 (by decide)
    rw [if_neg (by decide)] at f0
    rw [if_pos rfl] at f1
    rw [if_neg (by decide)] at f2
    rw [f0, f1, f2] at u
    exact ⟨1, by decide, by omega⟩
  · have u := (zMv_le3 h (zwd s 0 p) X).2.2.2.2.1
    have f0 := zdg_wd s hs 0 (by decide) p hp 0 (by decide)
    have f1 := zdg_wd s hs 0 (by decide) p hp 1 (by decide)
    have f2 := zdg_wd s hs 0 (by decide) p hp 2 (by decide)
    rw [if_pos rfl] at f0
    rw [if_neg (by decide)] at f1
    rw [if_neg (by decide)] at f2
    rw [f0, f1, f2] at u
    exact ⟨0, by decide, by omega⟩
  · have u := (zMv_le3 h (zwd s 0 p) X).2.2.2.2.2
    have f0 := zdg_wd s hs 0 (by decide) p hp 0 (by decide)
    have f1 := zdg_wd s hs 0 (by decide) p hp 1 (by decide)
    have f2 := zdg_wd s hs 0 (by decide) p hp 2 (by decide)
    rw [if_pos rfl] at f0
    rw [if_neg (by decide)] at f1
    rw [if_neg (by decide)] at f2
    rw [f0, f1, f2] at u
    exact ⟨0, by decide, by omega⟩
theorem zMB {h : Nat → Nat → Int} {L s X p l : Nat} (hL : 1 ≤ L ∧ L ≤ 3) (hl : l < L) (hs : s < 512) (hX : X < 512) (hp : p < 8) : ∃ l2 : Nat, l2 < L ∧ zMv h L s (zwd X l2 p) + h (12 + p) (zdg X l2) ≤ h (12 + zdg s l) p + zMv h L (zwd s l p) X := by
  rcases (show L = 1 ∨ L = 2 ∨ L = 3 by omega) with rfl | rfl | rfl
  · obtain rfl : l = 0 := by omega
    exact zMB10 hs hX hp
  · rcases (show l = 0 ∨ l = 1 by omega) with rfl | rfl
    · exact zMB20 hs hX hp
    · exact zMB21 hs hX hp
  · rcases (show l = 0 ∨ l = 1 ∨ l = 2 by omega) with rfl | rfl | rfl
    · exact zMB30 hs hX hp
    · exact zMB31 hs hX hp
    · exact zMB32 hs hX hp
theorem zMC {h : Nat → Nat → Int} {L s X p l : Nat} (hL : 1 ≤ L ∧ L ≤ 3) (hl : l < L) (hs : s < 512) (hX : X < 512) (hp : p < 8) : ∃ l2 : Nat, l2 < L ∧ h (12 + zdg s l2) p + zMv h L (zwd s l2 p) X ≤ zMv h L s (zwd X l p) + h (12 + p) (zdg X l) := by
  rcases (show L = 1 ∨ L = 2 ∨ L = 3 by omega) with rfl | rfl | rfl
  · obtain rfl : l = 0 := by omega
    exact zMC10 hs hX hp
  · rcases (show l = 0 ∨ l = 1 by omega) with rfl | rfl
    · exact zMC20 hs hX hp
    · exact zMC21 hs hX hp
  · rcases (show l = 0 ∨ l = 1 ∨ l = 2 by omega) with rfl | rfl | rfl
    · exact zMC30 hs hX hp
    · exact zMC31 hs hX hp
    · exact zMC32 hs hX hp
theorem zMv_self {h : Nat → Nat → Int} {p L s : Nat} (hL : 1 ≤ L ∧ L ≤ 3) (hp : p ≤ 6) (hM : ∀ i : Nat, i < 6 → h (12 + i) i = 0) (hT : zTD h p) (hs : zSb p L s = true) : zMv h L s s = 0 := by
  have b := (zMv_b hp hL hT hs hs).1
  have d : ∀ i : Nat, i < L → h (12 + zdg s i) (zdg s i) = 0 := fun i hi => hM _ (by have := zSb_dg hs hi; omega)
  rcases (show L = 1 ∨ L = 2 ∨ L = 3 by omega) with rfl | rfl | rfl
  · have u := zMv_le1 h s s
    have d0 := d 0 (by decide)
    omega
  · have u := (zMv_le2 h s s).1
    have d0 := d 0 (by decide)
    have d1 := d 1 (by decide)
    omega
  · have u := (zMv_le3 h s s).1
    have d0 := d 0 (by decide)
    have d1 := d 1 (by decide)
    have d2 := d 2 (by decide)
    omega
theorem zm3_le {L : Nat} (c : Nat → Int) {l : Nat} (hL : 1 ≤ L ∧ L ≤ 3) (hl : l < L) : zm3 L c ≤ c l := by
  unfold zm3
  rcases (show L = 1 ∨ L = 2 ∨ L = 3 by omega) with rfl | rfl | rfl
  · obtain rfl : l = 0 := by omega
    rw [if_pos rfl]; exact Int.le_refl _
  · rw [if_neg (by decide), if_pos rfl]
    rcases (show l = 0 ∨ l = 1 by omega) with rfl | rfl <;> omega
  · rw [if_neg (by decide), if_neg (by decide)]
    rcases (show l = 0 ∨ l = 1 ∨ l = 2 by omega) with rfl | rfl | rfl <;> omega
theorem zm3_at {L : Nat} (c : Nat → Int) (hL : 1 ≤ L ∧ L ≤ 3) : ∃ l : Nat, l < L ∧ zm3 L c = c l := by
  unfold zm3
  rcases (show L = 1 ∨ L = 2 ∨ L = 3 by omega) with rfl | rfl | rfl
  · exact ⟨0, by decide, by rw [if_pos rfl]⟩
  · rw [if_neg (by decide), if_pos rfl]
    rcases (show min (c 0) (c 1) = c 0 ∨ min (c 0) (c 1) = c 1 by omega) with q | q
    · exact ⟨0, by decide, q⟩
    · exact ⟨1, by decide, q⟩
  · rw [if_neg (by decide), if_neg (by decide)]
    rcases (show min (c 0) (min (c 1) (c 2)) = c 0 ∨ min (c 0) (min (c 1) (c 2)) = c 1 ∨ min (c 0) (min (c 1) (c 2)) = c 2 by omega) with q | q | q
    · exact ⟨0, by decide, q⟩
    · exact ⟨1, by decide, q⟩
    · exact ⟨2, by decide, q⟩
/-- a row of least costs, and WORK out of it -/
def zRk (h : Nat → Nat → Int) (p L B : Nat) (pl : Nat → Nat) (n : Nat) (ρ : Nat → Int) : Prop := (∀ s : Nat, s < 512 → 0 ≤ ρ s ∧ ρ s ≤ 100000000) ∧ (∀ s : Nat, s < 512 → ρ s < 100000000 → zSb p L s = true ∧ ρ s ≤ 1500 * (n : Int)) ∧ ∀ X : Nat, zSb p L X = true → (∀ s : Nat, s < 512 → ρ s < 100000000 → zWf h L B pl n X ≤ ρ s + zMv h L s X) ∧ ∃ s : Nat, s < 512 ∧ ρ s < 100000000 ∧ zWf h L B pl n X = ρ s + zMv h L s X
theorem zRk_0 {h : Nat → Nat → Int} {p L B : Nat} {pl : Nat → Nat} {ρ : Nat → Int} (hL : 1 ≤ L ∧ L ≤ 3) (hB : zSb p L B = true) (hρ : ∀ s : Nat, s < 512 → ρ s = if s = B then 0 else 100000000) : zRk h p L B pl 0 ρ := by
  have hBl := zSb_lt hL.2 hB
  have e0 := hρ B hBl
  rw [if_pos rfl] at e0
  refine ⟨fun s hs => ?_, fun s hs hr => ?_, fun X hX => ⟨fun s hs hr => ?_, B, hBl, by omega, ?_⟩⟩
  · rw [hρ s hs]
    by_cases q : s = B
    · rw [if_pos q]; omega
    · rw [if_neg q]; omega
  · rw [hρ s hs] at hr ⊢
    by_cases q : s = B
    · rw [if_pos q, q]; exact ⟨hB, by omega⟩
    · rw [if_neg q] at hr; omega
  · rw [hρ s hs] at hr ⊢
    by_cases q : s = B
    · rw [if_pos q, q]; show zMv h L B X ≤ _; omega
    · rw [if_neg q] at hr; omega
  · rw [e0]; show zMv h L B X = _; omega
theorem zRk_step {h : Nat → Nat → Int} {p L B n : Nat} {pl : Nat → Nat} {ρ ρ' : Nat → Int} (hL : 1 ≤ L ∧ L ≤ 3) (hp : p ≤ 6) (hT : zTD h p) (hn : n ≤ 13) (hpp : pl n < p) (hR : zRk h p L B pl n ρ) (hN : zNx h L (pl n) ρ ρ') : zRk h p L B pl (n + 1) ρ' := by
  obtain ⟨r1, r2, r3⟩ := hR
  obtain ⟨n1, n2⟩ := hN
  have hd : ∀ s l : Nat, s < 512 → l < L → ρ s < 100000000 → zSb p L (zwd s l (pl n)) = true ∧ zwd s l (pl n) < 512 ∧ (0 ≤ h (12 + zdg s l) (pl n) ∧ h (12 + zdg s l) (pl n) ≤ 1500) := fun s l hs hl hr => by
    have hb := (r2 s hs hr).1
    have hg := zSb_dg hb hl
    exact ⟨zSb_wd hp hL.2 hb hl hpp, zwd_lt s hs l (by omega) (pl n) (by omega), (hT.1 _ _ (by omega) (by omega)).1, hT.2.1 _ _ hg hpp⟩
  have hlow : ∀ X : Nat, zSb p L X = true → ∀ s : Nat, s < 512 → ρ' s < 100000000 → zWf h L B pl (n + 1) X ≤ ρ' s + zMv h L s X := fun X hX s hs hr => by
    rcases n2 s hs with q | ⟨s0, l, a1, a2, a3, a4, a5⟩
    · omega
    · obtain ⟨l2, b1, b2⟩ := zMB (h := h) (X := X) hL a2 a1 (zSb_lt hL.2 hX) (by omega : pl n < 8)
      have b3 := zm3_le (fun l => zWf h L B pl n (zwd X l (pl n)) + h (12 + pl n) (zdg X l)) hL b1
      have b4 := (r3 _ (zSb_wd hp hL.2 hX b1 hpp)).1 s0 a1 a3
      rw [a4] at b2
      show zm3 L (fun l => zWf h L B pl n (zwd X l (pl n)) + h (12 + pl n) (zdg X l)) ≤ _
      omega
  refine ⟨fun s hs => ?_, fun s hs hr => ?_, fun X hX => ⟨hlow X hX, ?_⟩⟩
  · rcases n2 s hs with q | ⟨s0, l, a1, a2, a3, a4, a5⟩
    · omega
    · have c1 := hd s0 l a1 a2 a3
      have c2 := (r2 s0 a1 a3).2
      have c3 := (r1 s0 a1).1
      omega
  · rcases n2 s hs with q | ⟨s0, l, a1, a2, a3, a4, a5⟩
    · omega
    · have c1 := hd s0 l a1 a2 a3
      have c2 := (r2 s0 a1 a3).2
      rw [a4] at c1
      exact ⟨c1.1, by omega⟩
  · obtain ⟨l2, b1, b2⟩ := zm3_at (fun l => zWf h L B pl n (zwd X l (pl n)) + h (12 + pl n) (zdg X l)) hL
    obtain ⟨s0, a1, a2, a3⟩ := (r3 _ (zSb_wd hp hL.2 hX b1 hpp)).2
    obtain ⟨l, c1, c2⟩ := zMC (h := h) (X := X) hL b1 a1 (zSb_lt hL.2 hX) (by omega : pl n < 8)
    have d1 := hd s0 l a1 c1 a2
    have d2 := (r2 s0 a1 a2).2
    have d3 := n1 s0 l a1 c1 (Or.inl a1) a2
    have d4 := hlow X hX (zwd s0 l (pl n)) d1.2.1 (by omega)
    refine ⟨zwd s0 l (pl n), d1.2.1, by omega, ?_⟩
    have e : zWf h L B pl (n + 1) X = zm3 L (fun l => zWf h L B pl n (zwd X l (pl n)) + h (12 + pl n) (zdg X l)) := rfl
    omega
theorem zRk_work {h : Nat → Nat → Int} {p L B n X : Nat} {pl : Nat → Nat} {ρ : Nat → Int} {v : Int} (hL : 1 ≤ L ∧ L ≤ 3) (hp : p ≤ 6) (hT : zTD h p) (hn : n ≤ 13) (hR : zRk h p L B pl n ρ) (hX : zSb p L X = true) (h1 : ∀ j : Nat, j < 512 → ρ j < 100000000 → v ≤ ρ j + zMv h L j X) (h2 : v = 100000000 ∨ ∃ j : Nat, j < 512 ∧ ρ j < 100000000 ∧ v = ρ j + zMv h L j X) : v = zWf h L B pl n X := by
  obtain ⟨r1, r2, r3⟩ := hR
  obtain ⟨q1, s, q2, q3, q4⟩ := r3 X hX
  have a1 := h1 s q2 q3
  have a2 := r2 s q2 q3
  have a3 := zMv_b hp hL hT a2.1 hX
  rcases h2 with w | ⟨j, w1, w2, w3⟩
  · omega
  · have := q1 j w1 w2
    omega
theorem zRk_least {h : Nat → Nat → Int} {p L B n : Nat} {pl : Nat → Nat} {ρ : Nat → Int} {v w : Int} (hL : 1 ≤ L ∧ L ≤ 3) (hp : p ≤ 6) (hT : zTD h p) (hM : ∀ i : Nat, i < 6 → h (12 + i) i = 0) (hn : n ≤ 13) (hp0 : ∃ X : Nat, zSb p L X = true) (hpl : ∀ i : Nat, i < n → pl i < p) (hR : zRk h p L B pl n ρ) (h1 : ∀ j : Nat, j < 512 → v ≤ ρ j) (h2 : v = 100000000 ∨ ∃ j : Nat, j < 512 ∧ v = ρ j) (k1 : ∀ X : Nat, zSb p L X = true → zLL X = X → w ≤ zWf h L B pl n X) (k2 : ∃ X : Nat, zSb p L X = true ∧ w = zWf h L B pl n X) : v = w := by
  obtain ⟨r1, r2, r3⟩ := hR
  have hw : ∀ s : Nat, s < 512 → ρ s < 100000000 → w ≤ ρ s := fun s hs hr => by
    have b := r2 s hs hr
    have c := (r3 s b.1).1 s hs hr
    rw [zMv_self hL hp hM hT b.1] at c
    have z := zLL_ok s hs
    have e := zSym_LL hL (zWf_sym (h := h) (B := B) hp hL n hpl) b.1
    have k := k1 (zLL s) (zLL_sb p (by omega) L (by omega) s hs b.1) z.2
    rw [e] at k
    omega
  obtain ⟨X, x1, x2⟩ := k2
  obtain ⟨-, s, s1, s2, s3⟩ := r3 X x1
  have b := r2 s s1 s2
  have m := zMv_b hp hL hT b.1 x1
  have a := h1 s s1
  rcases h2 with q | ⟨j, q1, q2⟩
  · omega
  · by_cases q3 : ρ j < 100000000
    · have := hw j q1 q3
      omega
    · omega
