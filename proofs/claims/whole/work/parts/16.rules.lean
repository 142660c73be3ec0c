/-! Rules for runs of the small machine: ends, straight stretches, branches, calls. -/
def zH (d M : Nat) (c : zC) (Post : Option zV → zS → Prop) : Prop := ∃ (n : Nat) (r : Option zV) (σ' : zS), zR (zRun d) M n c r σ' ∧ Post r σ'
def zQ (d M : Nat) (as : List zV) (σ : zS) (Post : Option zV → zS → Prop) : Prop := ∃ (r : Option zV) (σ' : zS), zRun d M as σ r σ' ∧ Post r σ'
/-- instructions without a side condition -/
def zpu (i : zI) : Bool := match i.1 with
  | .idiv => false
  | .irem => false
  | .i2l => false
  | .lcmp => false
  | .tableswitch _ _ _ _ => false
  | .iaload => false
  | .baload => false
  | .laload => false
  | .aaload => false
  | .iastore => false
  | .bastore => false
  | .lastore => false
  | .aastore => false
  | .invokestatic _ => false
  | _ => true
def zone (M : Nat) (c : zC) : Option (zI × Prop × zC) := match zTab M c.1 with
  | none => none
  | some i => match zret i c.2.2.1 with
    | some _ => none
    | none => match zcmp i c.2.2.1 with
      | some _ => none
      | none => match zcall i c.2.2.1 c.2.2.2 with
        | some _ => none
        | none => match zstep i c with
          | some q => some (i, q)
          | none => none
def zgo (M : Nat) : Nat → zC → Option zC
  | 0, c => some c
  | k + 1, c => match zone M c with
    | some q => bif zpu q.1 then zgo M k q.2.2 else none
    | none => none
def znp (M : Nat) (c : zC) : Option (Prop × zC) := match zone M c with
  | some q => some q.2
  | none => none
def zbr (M : Nat) (c : zC) : Option (Int × Int × Jvm.ClassFile.Cond × zC × zC) := match zTab M c.1 with
  | none => none
  | some i => match zret i c.2.2.1 with
    | some _ => none
    | none => match zcmp i c.2.2.1 with
      | some q => some (q.1, q.2.1, q.2.2.1, (((c.1 : Int) + q.2.2.2.1).toNat, c.2.1, q.2.2.2.2, c.2.2.2), (c.1 + 3, c.2.1, q.2.2.2.2, c.2.2.2))
      | none => none
def zcl (M : Nat) (c : zC) : Option (Nat × List zV × List zV) := match zTab M c.1 with
  | none => none
  | some i => match zret i c.2.2.1 with
    | some _ => none
    | none => match zcmp i c.2.2.1 with
      | some _ => none
      | none => zcall i c.2.2.1 c.2.2.2
def zre (M : Nat) (c : zC) : Option (Option zV) := match zTab M c.1 with
  | none => none
  | some i => zret i c.2.2.1
theorem zone_R {d M n : Nat} {c : zC} {q : zI × Prop × zC} {r : Option zV} {σ' : zS} (h : zone M c = some q) (hP : q.2.1) (k : zR (zRun d) M n q.2.2 r σ') : zR (zRun d) M (n + 1) c r σ' := by
  obtain ⟨pc, L, S, σ⟩ := c
  unfold zone at h
  unfold zR
  dsimp only at h ⊢
  split at h
  · cases h
  · rename_i i hT
    rw [hT]
    dsimp only
    split at h
    · cases h
    · rename_i h1
      rw [h1]
      dsimp only
      split at h
      · cases h
      · rename_i h2
        rw [h2]
        dsimp only
        split at h
        · cases h
        · rename_i h3
          rw [h3]
          dsimp only
          split at h
          · rename_i q' h4
            cases h
            rw [h4]
            exact ⟨hP, k⟩
          · cases h
theorem zpu_P {i : zI} {c : zC} {q : Prop × zC} (hp : zpu i = true) (h : zstep i c = some q) : q.1 := by
  obtain ⟨pc, L, S, σ⟩ := c
  obtain ⟨P, c'⟩ := q
  obtain ⟨ins, ln, e1, e2⟩ := i
  cases ins
  case dup =>
    rcases S with _ | ⟨v, T⟩
    · cases h
    · obtain ⟨-, h⟩ := zif h
      cases h; trivial
  case dup2 =>
    rcases S with _ | ⟨v, _ | ⟨w, T⟩⟩
    · cases h
    · cases h
    · obtain ⟨-, h⟩ := zif h
      cases h; trivial
  case pop =>
    rcases S with _ | ⟨v, T⟩
    · cases h
    · obtain ⟨-, h⟩ := zif h
      cases h; trivial
  case getfield x =>
    obtain ⟨a, T, rfl, h⟩ := zq1_inv h
    obtain ⟨-, h⟩ := zif h
    cases h; trivial
  case putfield x =>
    obtain ⟨a, v, T, rfl, h⟩ := zqv_inv h
    obtain ⟨-, h⟩ := zif h
    split at h <;> cases h <;> trivial
  case arraylength =>
    obtain ⟨a, T, rfl, h⟩ := zq1_inv h
    replace h : zaln pc L σ a T = some (P, c') := h
    unfold zaln at h
    split at h
    · obtain ⟨-, h⟩ := zif h
      cases h; trivial
    · cases h
  case new x =>
    obtain ⟨-, h⟩ := zif (show znew pc L S σ e1 = some (P, c') from h)
    cases h; trivial
  case newarray x =>
    obtain ⟨n, T, rfl, h⟩ := zb1_inv h
    obtain ⟨-, h⟩ := zif h
    obtain ⟨-, h⟩ := zif (show znar _ _ _ _ _ _ _ = some (P, c') from h)
    cases h; trivial
  case anewarray x =>
    obtain ⟨n, T, rfl, h⟩ := zb1_inv h
    obtain ⟨-, h⟩ := zif h
    obtain ⟨-, h⟩ := zif (show znar _ _ _ _ _ _ _ = some (P, c') from h)
    cases h; trivial
  case multianewarray x y =>
    obtain ⟨n, k, T, rfl, h⟩ := zb2_inv h
    obtain ⟨-, h⟩ := zif (show zmna _ _ _ _ _ _ _ = some (P, c') from h)
    cases h; trivial
  case invokespecial x =>
    match e2, h with
    | 0, h => cases h
    | 1, h =>
      obtain ⟨a, T, rfl, h7⟩ := zq1_inv h
      obtain ⟨-, h7⟩ := zif h7
      cases h7; trivial
    | n + 2, h => cases h
  case bipush n =>
    obtain ⟨-, h⟩ := zif h
    cases h; trivial
  case sipush n =>
    obtain ⟨-, h⟩ := zif h
    cases h; trivial
  all_goals first
    | exact absurd (show false = true from hp) (by decide)
    | (cases h; trivial)
    | (exact absurd h (by intro q; cases q))
    | (obtain ⟨x, hl, h⟩ := zldi_inv h; cases h; trivial)
    | (obtain ⟨x, hl, h⟩ := zldl_inv h; cases h; trivial)
    | (obtain ⟨x, hl, h⟩ := zldq_inv h; cases h; trivial)
    | (obtain ⟨x, T, rfl, h⟩ := zb1_inv h; cases h; trivial)
    | (obtain ⟨x, T, rfl, h⟩ := zl1_inv h; cases h; trivial)
    | (obtain ⟨x, T, rfl, h⟩ := zq1_inv h; cases h; trivial)
    | (obtain ⟨x, y, T, rfl, h⟩ := zb2_inv h; cases h; trivial)
    | (obtain ⟨x, y, T, rfl, h⟩ := zl2_inv h; cases h; trivial)
    | (obtain ⟨x, y, T, rfl, h⟩ := zli_inv h; cases h; trivial)
theorem zone_i {M : Nat} {c : zC} {q : zI × Prop × zC} (h : zone M c = some q) : zstep q.1 c = some q.2 := by
  unfold zone at h
  split at h
  · cases h
  · split at h
    · cases h
    · split at h
      · cases h
      · split at h
        · cases h
        · split at h
          · rename_i q' h4
            cases h
            exact h4
          · cases h
section ZHR
variable {d M : Nat} {c : zC} {Post : Option zV → zS → Prop}
theorem zH_go (k : Nat) {c' : zC} (h : zgo M k c = some c') (kk : zH d M c' Post) : zH d M c Post := by
  induction k generalizing c with
  | zero => cases h; exact kk
  | succ k ih =>
    unfold zgo at h
    split at h
    · rename_i q hq
      cases hp : zpu q.1 with
      | false => rw [hp] at h; cases h
      | true =>
        rw [hp] at h
        obtain ⟨n, r, σ', h1, h2⟩ := ih h
        exact ⟨n + 1, r, σ', zone_R hq (zpu_P hp (zone_i hq)) h1, h2⟩
    · cases h
theorem zH_np {P : Prop} {c' : zC} (h : znp M c = some (P, c')) (hP : P) (kk : zH d M c' Post) : zH d M c Post := by
  unfold znp at h
  split at h
  · rename_i q hq
    obtain ⟨n, r, σ', h1, h2⟩ := kk
    obtain ⟨i, P', c2⟩ := q
    cases h
    exact ⟨n + 1, r, σ', zone_R hq hP h1, h2⟩
  · cases h
theorem zH_ret {v : Option zV} (h : zre M c = some v) (hok : zrok M v) (hp : Post v c.2.2.2) : zH d M c Post := by
  obtain ⟨pc, L, S, σ⟩ := c
  refine ⟨1, v, σ, ?_, hp⟩
  unfold zre at h
  unfold zR
  dsimp only at h ⊢
  split at h
  · cases h
  · rename_i i hT
    rw [hT]
    dsimp only
    rw [h]
    exact ⟨⟨rfl, rfl⟩, hok⟩
theorem zH_br {x y : Int} {k : Jvm.ClassFile.Cond} {c1 c2 : zC} (h : zbr M c = some (x, y, k, c1, c2)) (hx : zr x) (hy : zr y) (k1 : zrel k x y → zH d M c1 Post) (k2 : ¬ zrel k x y → zH d M c2 Post) : zH d M c Post := by
  obtain ⟨pc, L, S, σ⟩ := c
  unfold zbr at h
  dsimp only at h
  split at h
  · cases h
  · rename_i i hT
    split at h
    · cases h
    · rename_i hr
      split at h
      · rename_i q hq
        obtain ⟨x', y', k', off, T⟩ := q
        cases h
        by_cases hz : zrel k' x' y'
        · obtain ⟨n, r, σ', h1, h2⟩ := k1 hz
          refine ⟨n + 1, r, σ', ?_, h2⟩
          unfold zR
          rw [hT]
          dsimp only
          rw [hr]
          dsimp only
          rw [hq]
          exact ⟨⟨hx, hy⟩, fun _ => h1, fun z => absurd hz z⟩
        · obtain ⟨n, r, σ', h1, h2⟩ := k2 hz
          refine ⟨n + 1, r, σ', ?_, h2⟩
          unfold zR
          rw [hT]
          dsimp only
          rw [hr]
          dsimp only
          rw [hq]
          exact ⟨⟨hx, hy⟩, fun z => absurd z hz, fun _ => h1⟩
      · cases h
theorem zH_call {M' : Nat} {as T : List zV} {P1 : Option zV → zS → Prop} (h : zcl M c = some (M', as, T)) (hc : zQ d M' as c.2.2.2 P1) (kk : ∀ (r : Option zV) (σ' : zS), P1 r σ' → zH d M (c.1 + 3, c.2.1, r.toList ++ T, σ') Post) : zH d M c Post := by
  obtain ⟨pc, L, S, σ⟩ := c
  obtain ⟨r1, σ1, h1, h2⟩ := hc
  obtain ⟨n, r, σ', h3, h4⟩ := kk r1 σ1 h2
  refine ⟨n + 1, r, σ', ?_, h4⟩
  unfold zcl at h
  unfold zR
  dsimp only at h h1 h3 ⊢
  split at h
  · cases h
  · rename_i i hT
    rw [hT]
    dsimp only
    split at h
    · cases h
    · rename_i hr
      rw [hr]
      dsimp only
      split at h
      · cases h
      · rename_i hq
        rw [hq]
        dsimp only
        rw [h]
        exact ⟨r1, σ1, h1, h3⟩
end ZHR
theorem zQ_of {d M : Nat} {as : List zV} {σ : zS} {Post : Option zV → zS → Prop} (hl : (zlay as).length ≤ zMx M) (h : zH d M (0, zent M as, [], σ) Post) : zQ (d + 1) M as σ Post := by
  obtain ⟨n, r, σ', h1, h2⟩ := h
  exact ⟨r, σ', ⟨hl, n, h1⟩, h2⟩
theorem zQ_imp {d M : Nat} {as : List zV} {σ : zS} {P1 P2 : Option zV → zS → Prop} (h : zQ d M as σ P1) (hi : ∀ r σ', P1 r σ' → P2 r σ') : zQ d M as σ P2 := by
  obtain ⟨r, σ', h1, h2⟩ := h
  exact ⟨r, σ', h1, hi r σ' h2⟩
theorem zH_imp {d M : Nat} {c : zC} {P1 P2 : Option zV → zS → Prop} (h : zH d M c P1) (hi : ∀ r σ', P1 r σ' → P2 r σ') : zH d M c P2 := by
  obtain ⟨n, r, σ', h1, h2⟩ := h
  exact ⟨n, r, σ', h1, hi r σ' h2⟩
