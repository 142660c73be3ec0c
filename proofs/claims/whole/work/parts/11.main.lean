/-! A run of the small machine is a run of the real one. -/
theorem zif {α : Type} {p : Prop} [Decidable p] {a : Option α} {q : α} (h : (if p then a else none) = some q) : p ∧ a = some q := by
  split at h
  · exact ⟨by assumption, h⟩
  · cases h
theorem zstep_mono {i : zI} {pc : Nat} {L : List (Option zV)} {S : List zV} {σ : zS} {P : Prop} {c' : zC} (h : zstep i (pc, L, S, σ) = some (P, c')) : σ.1 ≤ c'.2.2.2.1 ∧ σ.2.1 ≤ c'.2.2.2.2.1 := by
  obtain ⟨ins, ln, e1, e2⟩ := i
  cases ins
  case bipush n =>
    obtain ⟨-, h⟩ := zif h
    cases h; exact ⟨Nat.le_refl _, Nat.le_refl _⟩
  case sipush n =>
    obtain ⟨-, h⟩ := zif h
    cases h; exact ⟨Nat.le_refl _, Nat.le_refl _⟩
  case dup =>
    rcases S with _ | ⟨v, T⟩
    · cases h
    · obtain ⟨-, h⟩ := zif h
      cases h; exact ⟨Nat.le_refl _, Nat.le_refl _⟩
  case dup2 =>
    rcases S with _ | ⟨v, _ | ⟨w, T⟩⟩
    · cases h
    · cases h
    · obtain ⟨-, h⟩ := zif h
      cases h; exact ⟨Nat.le_refl _, Nat.le_refl _⟩
  case pop =>
    rcases S with _ | ⟨v, T⟩
    · cases h
    · obtain ⟨-, h⟩ := zif h
      cases h; exact ⟨Nat.le_refl _, Nat.le_refl _⟩
  case getfield x =>
    obtain ⟨a, T, rfl, h⟩ := zq1_inv h
    obtain ⟨-, h⟩ := zif h
    cases h; exact ⟨Nat.le_refl _, Nat.le_refl _⟩
  case putfield x =>
    obtain ⟨a, v, T, rfl, h⟩ := zqv_inv h
    obtain ⟨-, h⟩ := zif h
    split at h <;> cases h <;> exact ⟨Nat.le_refl _, Nat.le_refl _⟩
  case arraylength =>
    obtain ⟨a, T, rfl, h⟩ := zq1_inv h
    replace h : zaln pc L σ a T = some (P, c') := h
    unfold zaln at h
    split at h
    · obtain ⟨-, h⟩ := zif h
      cases h; exact ⟨Nat.le_refl _, Nat.le_refl _⟩
    · cases h
  case iaload =>
    obtain ⟨a, j, T, rfl, h⟩ := zqi_inv h
    obtain ⟨n, -, -, h⟩ := zarr_inv h
    cases h; exact ⟨Nat.le_refl _, Nat.le_refl _⟩
  case baload =>
    obtain ⟨a, j, T, rfl, h⟩ := zqi_inv h
    obtain ⟨n, -, -, h⟩ := zarr_inv h
    cases h; exact ⟨Nat.le_refl _, Nat.le_refl _⟩
  case laload =>
    obtain ⟨a, j, T, rfl, h⟩ := zqi_inv h
    obtain ⟨n, -, -, h⟩ := zarr_inv h
    cases h; exact ⟨Nat.le_refl _, Nat.le_refl _⟩
  case aaload =>
    obtain ⟨a, j, T, rfl, h⟩ := zqi_inv h
    replace h : zaal pc L σ a j T = some (P, c') := h
    unfold zaal at h
    split at h
    · obtain ⟨-, h⟩ := zif h
      cases h; exact ⟨Nat.le_refl _, Nat.le_refl _⟩
    · cases h
  case iastore =>
    obtain ⟨a, j, v, T, rfl, h⟩ := zqiv_inv h
    rcases v with x | x | x
    · obtain ⟨n, -, -, h⟩ := zarr_inv h
      obtain ⟨-, h⟩ := zif h
      cases h; exact ⟨Nat.le_refl _, Nat.le_refl _⟩
    · cases h
    · cases h
  case bastore =>
    obtain ⟨a, j, v, T, rfl, h⟩ := zqiv_inv h
    rcases v with x | x | x
    · obtain ⟨n, -, -, h⟩ := zarr_inv h
      obtain ⟨-, h⟩ := zif h
      cases h; exact ⟨Nat.le_refl _, Nat.le_refl _⟩
    · cases h
    · cases h
  case lastore =>
    obtain ⟨a, j, v, T, rfl, h⟩ := zqiv_inv h
    rcases v with x | x | x
    · cases h
    · obtain ⟨n, -, -, h⟩ := zarr_inv h
      obtain ⟨-, h⟩ := zif h
      cases h; exact ⟨Nat.le_refl _, Nat.le_refl _⟩
    · cases h
  case aastore =>
    obtain ⟨a, j, v, T, rfl, h⟩ := zqiv_inv h
    rcases v with x | x | _ | x
    · cases h
    · cases h
    · cases h
    · obtain ⟨n, -, -, h⟩ := zarr_inv h
      obtain ⟨-, h⟩ := zif h
      cases h; exact ⟨Nat.le_refl _, Nat.le_refl _⟩
  case new x =>
    obtain ⟨-, h⟩ := zif (show znew pc L S σ e1 = some (P, c') from h)
    cases h; exact ⟨Nat.le_add_right _ _, Nat.le_add_right _ _⟩
  case newarray x =>
    obtain ⟨n, T, rfl, h⟩ := zb1_inv h
    obtain ⟨-, h⟩ := zif h
    obtain ⟨-, h⟩ := zif (show znar _ _ _ _ _ _ _ = some (P, c') from h)
    cases h; exact ⟨Nat.le_add_right _ _, Nat.le_add_right _ _⟩
  case anewarray x =>
    obtain ⟨n, T, rfl, h⟩ := zb1_inv h
    obtain ⟨-, h⟩ := zif h
    obtain ⟨-, h⟩ := zif (show znar _ _ _ _ _ _ _ = some (P, c') from h)
    cases h; exact ⟨Nat.le_add_right _ _, Nat.le_add_right _ _⟩
  case multianewarray x y =>
    obtain ⟨n, k, T, rfl, h⟩ := zb2_inv h
    obtain ⟨-, h⟩ := zif (show zmna _ _ _ _ _ _ _ = some (P, c') from h)
    cases h; exact ⟨by show σ.1 ≤ σ.1 + 1 + n.toNat; omega, by show σ.2.1 ≤ σ.2.1 + n.toNat + n.toNat * k.toNat; omega⟩
  case invokestatic x =>
    match e2, h with
    | 0, h => cases h
    | 1, h => cases h
    | 2, h =>
      obtain ⟨x1, y1, T, rfl, h7⟩ := zb2_inv h
      obtain ⟨-, h7⟩ := zif h7
      cases h7; exact ⟨Nat.le_refl _, Nat.le_refl _⟩
    | 3, h =>
      obtain ⟨x1, y1, T, rfl, h7⟩ := zb2_inv h
      obtain ⟨-, h7⟩ := zif h7
      cases h7; exact ⟨Nat.le_refl _, Nat.le_refl _⟩
    | n + 4, h => cases h
  case invokespecial x =>
    match e2, h with
    | 0, h => cases h
    | 1, h =>
      obtain ⟨a, T, rfl, h7⟩ := zq1_inv h
      obtain ⟨-, h7⟩ := zif h7
      cases h7; exact ⟨Nat.le_refl _, Nat.le_refl _⟩
    | n + 2, h => cases h
  all_goals first
    | (cases h; exact ⟨Nat.le_refl _, Nat.le_refl _⟩)
    | (exact absurd h (by intro q; cases q))
    | (obtain ⟨x, hl, h⟩ := zldi_inv h; cases h; exact ⟨Nat.le_refl _, Nat.le_refl _⟩)
    | (obtain ⟨x, hl, h⟩ := zldl_inv h; cases h; exact ⟨Nat.le_refl _, Nat.le_refl _⟩)
    | (obtain ⟨x, hl, h⟩ := zldq_inv h; cases h; exact ⟨Nat.le_refl _, Nat.le_refl _⟩)
    | (obtain ⟨x, T, rfl, h⟩ := zb1_inv h; cases h; exact ⟨Nat.le_refl _, Nat.le_refl _⟩)
    | (obtain ⟨x, T, rfl, h⟩ := zl1_inv h; cases h; exact ⟨Nat.le_refl _, Nat.le_refl _⟩)
    | (obtain ⟨x, T, rfl, h⟩ := zq1_inv h; cases h; exact ⟨Nat.le_refl _, Nat.le_refl _⟩)
    | (obtain ⟨x, y, T, rfl, h⟩ := zb2_inv h; cases h; exact ⟨Nat.le_refl _, Nat.le_refl _⟩)
    | (obtain ⟨x, y, T, rfl, h⟩ := zl2_inv h; cases h; exact ⟨Nat.le_refl _, Nat.le_refl _⟩)
    | (obtain ⟨x, y, T, rfl, h⟩ := zli_inv h; cases h; exact ⟨Nat.le_refl _, Nat.le_refl _⟩)
/-- a run only grows the cells, if its calls do -/
theorem zR_mono {K : Nat → List zV → zS → Option zV → zS → Prop} (hK : ∀ M as σ r σ', K M as σ r σ' → σ.1 ≤ σ'.1 ∧ σ.2.1 ≤ σ'.2.1) {M : Nat} : ∀ (n pc : Nat) (L : List (Option zV)) (S : List zV) (σ : zS) (r : Option zV) (σ' : zS), zR K M n (pc, L, S, σ) r σ' → σ.1 ≤ σ'.1 ∧ σ.2.1 ≤ σ'.2.1 := by
  intro n
  induction n with
  | zero => intro pc L S σ r σ' h; exact absurd h (fun q => q)
  | succ n ih =>
    intro pc L S σ r σ' h
    unfold zR at h
    split at h
    · exact h.elim
    · split at h
      · obtain ⟨⟨-, rfl⟩, -⟩ := h
        exact ⟨Nat.le_refl _, Nat.le_refl _⟩
      · split at h
        · rename_i x y k off T _
          obtain ⟨-, h1, h2⟩ := h
          by_cases hz : zrel k x y
          · exact ih _ _ _ _ _ _ (h1 hz)
          · exact ih _ _ _ _ _ _ (h2 hz)
        · split at h
          · obtain ⟨r1, σ1, h1, h2⟩ := h
            have a := hK _ _ _ _ _ h1
            have b := ih _ _ _ _ _ _ h2
            exact ⟨Nat.le_trans a.1 b.1, Nat.le_trans a.2 b.2⟩
          · split at h
            · rename_i P c' hst
              obtain ⟨pc', L', S', σ2⟩ := c'
              have a := zstep_mono hst
              have b := ih _ _ _ _ _ _ h.2
              exact ⟨Nat.le_trans a.1 b.1, Nat.le_trans a.2 b.2⟩
            · exact h.elim
theorem zRun_mono : ∀ (d M : Nat) (as : List zV) (σ : zS) (r : Option zV) (σ' : zS), zRun d M as σ r σ' → σ.1 ≤ σ'.1 ∧ σ.2.1 ≤ σ'.2.1 := by
  intro d
  induction d with
  | zero => intro M as σ r σ' h; exact absurd h (fun q => q)
  | succ d ih =>
    intro M as σ r σ' h
    obtain ⟨-, n, h⟩ := h
    exact zR_mono ih n _ _ _ _ _ _ h
