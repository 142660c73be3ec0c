/-! The constructors, run; what stands behind them; the law.  -/
def zrB (x : Int) : Bool := decide (-2147483648 ≤ x) && decide (x ≤ 2147483647)
theorem zrB_ok {x : Int} (h : zrB x = true) : zr x := by
  have h2 := (Bool.and_eq_true _ _).mp h
  exact ⟨of_decide_eq_true h2.1, of_decide_eq_true h2.2⟩
def zrelB (k : Jvm.ClassFile.Cond) (x y : Int) : Bool := match k with
  | .eq => decide (x = y)
  | .ne => decide (¬ x = y)
  | .lt => decide (x < y)
  | .ge => decide (¬ x < y)
  | .gt => decide (y < x)
  | .le => decide (¬ y < x)
theorem zrelB_ok (k : Jvm.ClassFile.Cond) (x y : Int) : zrelB k x y = true ↔ zrel k x y := by
  cases k <;> exact decide_eq_true_iff
/-- one step: instructions, branches, calls -/
def zxc (K : Nat → List zV → zS → Option (Option zV × zS)) (M : Nat) (c : zC) : Option zC := match zTab M c.1 with
  | none => none
  | some i => match zret i c.2.2.1 with
    | some _ => none
    | none => match zcmp i c.2.2.1 with
      | some (x, y, k, off, T) => bif zrB x && zrB y then some (bif zrelB k x y then (((c.1 : Int) + off).toNat, c.2.1, T, c.2.2.2) else (c.1 + 3, c.2.1, T, c.2.2.2)) else none
      | none => match zcall i c.2.2.1 c.2.2.2 with
        | some (M', as, T) => match K M' as c.2.2.2 with
          | some (r1, σ1) => some (c.1 + 3, c.2.1, r1.toList ++ T, σ1)
          | none => none
        | none => bif zokc i c.2.2.1 then (match zstep i c with
          | some (_, c') => some c'
          | none => none) else none
def zxr (K : Nat → List zV → zS → Option (Option zV × zS)) (M : Nat) : Nat → zC → Option (Option zV × zS)
  | 0, _ => none
  | n + 1, c => match zTab M c.1 with
    | none => none
    | some i => match zret i c.2.2.1 with
      | some v => bif zBo M then none else some (v, c.2.2.2)
      | none => match zxc K M c with
        | some c' => zxr K M n c'
        | none => none
def zxp (K : Nat → List zV → zS → Option (Option zV × zS)) (M stop : Nat) : Nat → zC → Option zC
  | 0, _ => none
  | n + 1, c => bif Nat.beq c.1 stop then some c else match zxc K M c with
    | some c' => zxp K M stop n c'
    | none => none
def zxD : Nat → Nat → List zV → zS → Option (Option zV × zS)
  | 0, _, _, _ => none
  | d + 1, M, as, σ => bif Nat.ble (zlay as).length (zMx M) then zxr (zxD d) M 3000 (0, zent M as, [], σ) else none
section ZX
variable {F G : Nat → Nat → Int}
def zmc (F G : Nat → Nat → Int) (c : zC) : zC := (c.1, c.2.1, c.2.2.1, zmix F G c.2.2.2)
theorem zxc_ok {K : Nat → List zV → zS → Option (Option zV × zS)} {Kp : Nat → List zV → zS → Option zV → zS → Prop} {M : Nat} {c c' : zC} (hK : ∀ M as σ r σ', K M as σ = some (r, σ') → zRfs σ → Kp M as (zmix F G σ) r (zmix F G σ') ∧ zRfs σ') (h : zxc K M c = some c') (hI : zRfs c.2.2.2) : (∀ (n : Nat) (r : Option zV) (τ : zS), zR Kp M n (zmc F G c') r τ → zR Kp M (n + 1) (zmc F G c) r τ) ∧ zRfs c'.2.2.2 := by
  obtain ⟨pc, L, S, σ⟩ := c
  unfold zxc at h
  dsimp only at h hI
  split at h
  · cases h
  · rename_i i hT
    split at h
    · cases h
    · rename_i hr
      split at h
      · rename_i x y k off T hc
        cases hb : (zrB x && zrB y) with
        | false => rw [hb] at h; cases h
        | true =>
          rw [hb] at h
          have hb2 := (Bool.and_eq_true _ _).mp hb
          cases hz : zrelB k x y with
          | true =>
            rw [hz] at h
            cases h
            refine ⟨fun n r τ hR => ?_, hI⟩
            show zR Kp M (n + 1) (pc, L, S, zmix F G σ) r τ
            unfold zR
            rw [hT]
            dsimp only
            rw [hr]
            dsimp only
            rw [hc]
            exact ⟨⟨zrB_ok hb2.1, zrB_ok hb2.2⟩, fun _ => hR, fun q => absurd ((zrelB_ok k x y).mp hz) q⟩
          | false =>
            rw [hz] at h
            cases h
            refine ⟨fun n r τ hR => ?_, hI⟩
            show zR Kp M (n + 1) (pc, L, S, zmix F G σ) r τ
            unfold zR
            rw [hT]
            dsimp only
            rw [hr]
            dsimp only
            rw [hc]
            exact ⟨⟨zrB_ok hb2.1, zrB_ok hb2.2⟩, fun q => absurd ((zrelB_ok k x y).mpr q) (by rw [hz]; decide), fun _ => hR⟩
      · rename_i hc
        split at h
        · rename_i M' as T hcl
          split at h
          · rename_i r1 σ1 hk
            cases h
            have q := hK _ _ _ _ _ hk hI
            refine ⟨fun n r τ hR => ?_, q.2⟩
            show zR Kp M (n + 1) (pc, L, S, zmix F G σ) r τ
            unfold zR
            rw [hT]
            dsimp only
            rw [hr]
            dsimp only
            rw [hc]
            dsimp only
            rw [show zcall i S (zmix F G σ) = some (M', as, T) from hcl]
            exact ⟨r1, _, q.1, hR⟩
          · cases h
        · rename_i hcl
          cases hz : zokc i S with
          | false => rw [hz] at h; cases h
          | true =>
            rw [hz] at h
            dsimp only [cond_true] at h
            split at h
            · rename_i P c2 hs
              cases h
              obtain ⟨pc', L', S', σ'⟩ := c'
              obtain ⟨P', e1, e2, e3⟩ := zmx_step (F := F) (G := G) hz hs hI
              refine ⟨fun n r τ hR => ?_, e3⟩
              show zR Kp M (n + 1) (pc, L, S, zmix F G σ) r τ
              unfold zR
              rw [hT]
              dsimp only
              rw [hr]
              dsimp only
              rw [hc]
              dsimp only
              rw [show zcall i S (zmix F G σ) = none from hcl]
              dsimp only
              rw [e1]
              exact ⟨e2, hR⟩
            · cases h
theorem zxr_ok {K : Nat → List zV → zS → Option (Option zV × zS)} {Kp : Nat → List zV → zS → Option zV → zS → Prop} {M : Nat} (hK : ∀ M as σ r σ', K M as σ = some (r, σ') → zRfs σ → Kp M as (zmix F G σ) r (zmix F G σ') ∧ zRfs σ') : ∀ (n : Nat) (c : zC) (r : Option zV) (σ' : zS), zxr K M n c = some (r, σ') → zRfs c.2.2.2 → (∃ m : Nat, zR Kp M m (zmc F G c) r (zmix F G σ')) ∧ zRfs σ' := by
  intro n
  induction n with
  | zero => intro c r σ' h; cases h
  | succ n ih =>
    intro c r σ' h hI
    unfold zxr at h
    split at h
    · cases h
    · rename_i i hT
      split at h
      · rename_i v hr
        cases hb : zBo M with
        | true => rw [hb] at h; cases h
        | false =>
          rw [hb] at h
          cases h
          refine ⟨⟨1, ?_⟩, hI⟩
          obtain ⟨pc, L, S, σ⟩ := c
          show zR Kp M 1 (pc, L, S, zmix F G σ) _ _
          unfold zR
          rw [hT]
          dsimp only at hr ⊢
          rw [hr]
          exact ⟨⟨rfl, rfl⟩, fun q => absurd q (by rw [hb]; decide)⟩
      · split at h
        · rename_i c' hs
          have a := zxc_ok hK hs hI
          obtain ⟨⟨m, h1⟩, h2⟩ := ih c' r σ' h a.2
          exact ⟨⟨m + 1, a.1 m r _ h1⟩, h2⟩
        · cases h
theorem zxp_ok {K : Nat → List zV → zS → Option (Option zV × zS)} {Kp : Nat → List zV → zS → Option zV → zS → Prop} {M stop : Nat} (hK : ∀ M as σ r σ', K M as σ = some (r, σ') → zRfs σ → Kp M as (zmix F G σ) r (zmix F G σ') ∧ zRfs σ') : ∀ (n : Nat) (c c' : zC), zxp K M stop n c = some c' → zRfs c.2.2.2 → (∀ (m : Nat) (r : Option zV) (τ : zS), zR Kp M m (zmc F G c') r τ → ∃ m2 : Nat, zR Kp M m2 (zmc F G c) r τ) ∧ zRfs c'.2.2.2 := by
  intro n
  induction n with
  | zero => intro c c' h; cases h
  | succ n ih =>
    intro c c' h hI
    unfold zxp at h
    cases hb : Nat.beq c.1 stop with
    | true =>
      rw [hb] at h
      cases h
      exact ⟨fun m r τ q => ⟨m, q⟩, hI⟩
    | false =>
      rw [hb] at h
      dsimp only [cond_false] at h
      split at h
      · rename_i c2 hs
        have a := zxc_ok hK hs hI
        have b := ih c2 c' h a.2
        refine ⟨fun m r τ q => ?_, b.2⟩
        obtain ⟨m2, q2⟩ := b.1 m r τ q
        exact ⟨m2 + 1, a.1 m2 r τ q2⟩
      · cases h
theorem zxD_ok : ∀ (d M : Nat) (as : List zV) (σ : zS) (r : Option zV) (σ' : zS), zxD d M as σ = some (r, σ') → zRfs σ → zRun d M as (zmix F G σ) r (zmix F G σ') ∧ zRfs σ' := by
  intro d
  induction d with
  | zero => intro M as σ r σ' h; cases h
  | succ d ih =>
    intro M as σ r σ' h hI
    unfold zxD at h
    cases hb : Nat.ble (zlay as).length (zMx M) with
    | false => rw [hb] at h; cases h
    | true =>
      rw [hb] at h
      have a := zxr_ok (F := F) (G := G) ih 3000 _ r σ' h hI
      exact ⟨⟨Nat.le_of_ble_eq_true hb, a.1⟩, a.2⟩
end ZX
def zc00 : zC := (0, zent 153 [.inr (.inr (some 1))], [], zS0 (fun _ => 0) 0)
def zf3 (h : Nat → Nat → Int) : List (Nat × Nat × Int) → Bool
  | [] => true
  | q :: l => decide (h q.1 q.2.1 = q.2.2) && zf3 h l
def zRng (n : Nat) (f : Nat → Bool) : Bool := (List.range n).all f
def zkI : List (Nat × Nat × Int) := [(3, 0, 0), (3, 1, 0), (104, 3, 0), (104, 4, 0), (2, 7, 0), (104, 11, 0), (2, 8, 0), (104, 1, 0), (21, 3, 0), (21, 4, 0), (104, 9, 0), (104, 15, 0), (83, 0, 0), (83, 1, -1), (90, 0, 0), (90, 1, -1), (97, 0, 0), (97, 1, -1)]
def zckAll (c : zC) : Bool := (decide (c.1 = 16)) && ((decide (c.2.1 = [some (.inr (.inr (some 1))), some (.inr (.inr (some 2))), some (.inr (.inr (some 104))), none])) && ((decide (c.2.2.1 = [])) && ((decide (c.2.2.2.1 = 127)) && ((decide (c.2.2.2.2.1 = zZ)) && ((zRng 127 (fun a => zRng 64 (fun k => decide (c.2.2.2.2.2.2.2 a k = zHR a k)))) && ((zf3 c.2.2.2.2.2.1 zkI) && ((zRng 6 (fun i => zRng 6 (fun j => decide (c.2.2.2.2.2.1 (12 + i) j = if i = j then 0 else 1000000)))) && ((zRng 6 (fun i => zRng 6 (fun j => decide (c.2.2.2.2.2.1 (5 + i) j = 1000000)))) && ((zRng 13 (fun j => decide (c.2.2.2.2.2.1 38 j = 0))) && ((zRng 4 (fun j => decide (c.2.2.2.2.2.1 56 j = 0))) && ((zRng 4 (fun j => decide (c.2.2.2.2.2.1 84 j = 0))) && ((zRng 4 (fun j => decide (c.2.2.2.2.2.1 91 j = 0))) && ((zRng 4 (fun j => decide (c.2.2.2.2.2.1 98 j = 0))) && ((zRng 12 (fun j => decide (c.2.2.2.2.2.1 119 j = 0))) && ((zRng 12 (fun j => decide (c.2.2.2.2.2.1 120 j = 0))) && ((zRng 12 (fun j => decide (c.2.2.2.2.2.1 121 j = 0))) && ((zRng 12 (fun j => decide (c.2.2.2.2.2.1 122 j = 0))) && ((decide (c.2.2.2.2.2.2.1 81 0 = 0)) && ((decide (c.2.2.2.2.2.2.1 104 2 = 0)) && ((zRng 96 (fun j => decide (c.2.2.2.2.2.2.1 123 j = 0))) && ((zRng 4 (fun q => zRng 8 (fun i => decide (c.2.2.2.2.2.2.1 (86 + q) i = 0)))) && ((zRng 4 (fun q => zRng 8 (fun i => decide (c.2.2.2.2.2.2.1 (93 + q) i = 0)))) && (zRng 4 (fun q => zRng 8 (fun i => decide (c.2.2.2.2.2.2.1 (100 + q) i = 0))))))))))))))))))))))))))
def zgo0 : Bool := match zxp (zxD 9) 153 16 100 zc00 with
  | some c => zckAll c
  | none => false
theorem zgo0_ok : zgo0 = true := by decide +kernel
