/-! Loops with a counter; two ways that meet; small words for the model. -/
section ZLP
variable {d M : Nat} {Post : Option zV → zS → Prop}
theorem zH_lp {X : Type} {F : Nat → X → zC} {I : Nat → X → Prop} {N : Nat} (hs : ∀ (k : Nat) (x : X), k < N → I k x → (∀ x' : X, I (k + 1) x' → zH d M (F (k + 1) x') Post) → zH d M (F k x) Post) (he : ∀ x : X, I N x → zH d M (F N x) Post) : ∀ (k : Nat) (x : X), k ≤ N → I k x → zH d M (F k x) Post := by
  have key : ∀ (q k : Nat) (x : X), k + q = N → I k x → zH d M (F k x) Post := by
    intro q
    induction q with
    | zero =>
      intro k x h hI
      obtain rfl : k = N := by omega
      exact he x hI
    | succ q ih => intro k x h hI; exact hs k x (by omega) hI (fun x' h' => ih (k + 1) x' (by omega) h')
  intro k x h hI
  exact key (N - k) k x (by omega) hI
theorem zH_dn {X : Type} {F : Nat → X → zC} {I : Nat → X → Prop} (hs : ∀ (k : Nat) (x : X), I (k + 1) x → (∀ x' : X, I k x' → zH d M (F k x') Post) → zH d M (F (k + 1) x) Post) (he : ∀ x : X, I 0 x → zH d M (F 0 x) Post) : ∀ (k : Nat) (x : X), I k x → zH d M (F k x) Post := by
  intro k
  induction k with
  | zero => intro x hI; exact he x hI
  | succ k ih => intro x hI; exact hs k x hI ih
theorem zH_mg {c : zC} {F : Int → zC} {R : Int → Prop} (k1 : ∀ m : Int, R m → zH d M (F m) Post) (k2 : (∀ m : Int, R m → zH d M (F m) Post) → zH d M c Post) : zH d M c Post := k2 k1
end ZLP
theorem zlcmp_spec (x y : Int) : ∃ m : Int, (if x < y then -1 else if x = y then 0 else 1) = m ∧ ((m = -1 ∧ x < y) ∨ (m = 0 ∧ x = y) ∨ (m = 1 ∧ y < x)) := by
  by_cases q : x < y
  · exact ⟨-1, if_pos q, Or.inl ⟨rfl, q⟩⟩
  · by_cases r : x = y
    · exact ⟨0, by rw [if_neg q, if_pos r], Or.inr (Or.inl ⟨rfl, r⟩)⟩
    · exact ⟨1, by rw [if_neg q, if_neg r], Or.inr (Or.inr ⟨rfl, by omega⟩)⟩
theorem zr_l {x : Int} (h : zr x) : zrl x := ⟨by have := h.1; omega, by have := h.2; omega⟩
/-! One CALL more, from row to row: what the model's rows are. -/
/-- how far, in the model's table -/
def zFE (h : Nat → Nat → Int) (p : Nat) : Prop := ∀ i j : Nat, i < p → j < p → h 108 (6 * i + j) = h (12 + i) j
def zNxI (h : Nat → Nat → Int) (L pp : Nat) (ρ ρ' : Nat → Int) (s l : Nat) : Prop := (∀ s' l' : Nat, s' < 512 → l' < L → (s' < s ∨ (s' = s ∧ l' < l)) → ρ s' < 100000000 → ρ' (zwd s' l' pp) ≤ ρ s' + h (12 + zdg s' l') pp) ∧ ∀ t : Nat, t < 512 → ρ' t = 100000000 ∨ ∃ s' l' : Nat, s' < 512 ∧ l' < L ∧ ρ s' < 100000000 ∧ zwd s' l' pp = t ∧ ρ' t = ρ s' + h (12 + zdg s' l') pp
def zNx (h : Nat → Nat → Int) (L pp : Nat) (ρ ρ' : Nat → Int) : Prop := zNxI h L pp ρ ρ' 512 0
theorem zNxI_step {h : Nat → Nat → Int} {L pp s l : Nat} {ρ ρ' ρ2 : Nat → Int} {m : Int} (hI : zNxI h L pp ρ ρ' s l) (hs : s < 512) (hl : l < L) (hρ : ρ s < 100000000) (hm : m ≤ ρ s + h (12 + zdg s l) pp ∧ m ≤ ρ' (zwd s l pp) ∧ (m = ρ s + h (12 + zdg s l) pp ∨ m = ρ' (zwd s l pp))) (hT : zwd s l pp < 512) (h2 : ρ2 (zwd s l pp) = m) (h3 : ∀ t : Nat, t < 512 → t ≠ zwd s l pp → ρ2 t = ρ' t) (hw : ∀ s' l' : Nat, s' < 512 → l' < L → zwd s' l' pp < 512) : zNxI h L pp ρ ρ2 s (l + 1) := by
  obtain ⟨i1, i2⟩ := hI
  obtain ⟨m1, m2, m3⟩ := hm
  refine ⟨fun s' l' hs' hl' hc hr => ?_, fun t ht => ?_⟩
  · by_cases q : zwd s' l' pp = zwd s l pp
    · rw [q, h2]
      by_cases w : s' = s ∧ l' = l
      · rw [w.1, w.2]; exact m1
      · have := i1 s' l' hs' hl' (by omega) hr
        rw [q] at this
        omega
    · rw [h3 _ (hw s' l' hs' hl') q]
      refine i1 s' l' hs' hl' ?_ hr
      have : ¬ (s' = s ∧ l' = l) := fun w => q (by rw [w.1, w.2])
      omega
  · by_cases q : t = zwd s l pp
    · rw [q, h2]
      rcases m3 with e | e
      · exact Or.inr ⟨s, l, hs, hl, hρ, rfl, e⟩
      · rw [e]
        exact i2 _ hT
    · rw [h3 t ht q]
      exact i2 t ht
theorem zNxI_skip {h : Nat → Nat → Int} {L pp s : Nat} {ρ ρ' : Nat → Int} (hI : zNxI h L pp ρ ρ' s 0) (hρ : 100000000 ≤ ρ s) : zNxI h L pp ρ ρ' (s + 1) 0 := by
  refine ⟨fun s' l' hs' hl' hc hr => ?_, hI.2⟩
  by_cases q : s' = s
  · rw [q] at hr; omega
  · exact hI.1 s' l' hs' hl' (by omega) hr
theorem zNxI_full {h : Nat → Nat → Int} {L pp s : Nat} {ρ ρ' : Nat → Int} (hI : zNxI h L pp ρ ρ' s L) : zNxI h L pp ρ ρ' (s + 1) 0 := ⟨fun s' l' hs' hl' hc hr => hI.1 s' l' hs' hl' (by omega) hr, hI.2⟩
theorem zNxI_same {h g : Nat → Nat → Int} {L pp s l : Nat} {ρ ρ' ρ2 ρ3 : Nat → Int} (hc : ∀ c : Nat, 12 ≤ c → c < 20 → g c = h c) (h1 : ∀ t : Nat, t < 512 → ρ2 t = ρ t) (h2 : ∀ t : Nat, t < 512 → ρ3 t = ρ' t) (hw : ∀ s' l' : Nat, s' < 512 → l' < L → zwd s' l' pp < 512) (hI : zNxI h L pp ρ ρ' s l) : zNxI g L pp ρ2 ρ3 s l := by
  have e : ∀ s' l' : Nat, g (12 + zdg s' l') pp = h (12 + zdg s' l') pp := fun s' l' => by rw [hc _ (by omega) (by have := zdg_lt s' l'; omega)]
  refine ⟨fun s' l' hs' hl' hq hr => ?_, fun t ht => ?_⟩
  · rw [h1 s' hs'] at hr ⊢
    rw [h2 _ (hw s' l' hs' hl'), e]
    exact hI.1 s' l' hs' hl' hq hr
  · rw [h2 t ht]
    rcases hI.2 t ht with q | ⟨s', l', a1, a2, a3, a4, a5⟩
    · exact Or.inl q
    · exact Or.inr ⟨s', l', a1, a2, by rw [h1 s' a1]; exact a3, a4, by rw [h1 s' a1, e]; exact a5⟩
