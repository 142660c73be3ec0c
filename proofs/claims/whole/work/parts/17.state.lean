/-! The cells behind the constructors: which cell each reference is; rules for rows that are told by a number. -/
def zHR (a k : Nat) : Option Nat := (bif Nat.blt a 50 then (bif Nat.blt a 21 then (bif Nat.blt a 4 then (bif Nat.blt a 3 then (bif Nat.beq a 2 then (bif Nat.blt k 3 then (bif Nat.blt k 1 then (bif Nat.beq k 0 then some 3 else none) else (bif Nat.blt k 2 then (bif Nat.beq k 1 then some 18 else none) else (bif Nat.beq k 2 then some 21 else none))) else (bif Nat.blt k 5 then (bif Nat.blt k 4 then (bif Nat.beq k 3 then some 48 else none) else (bif Nat.beq k 4 then some 66 else none)) else (bif Nat.blt k 6 then (bif Nat.beq k 5 then some 81 else none) else (bif Nat.beq k 6 then some 82 else none)))) else none) else (bif Nat.beq a 3 then (bif Nat.blt k 3 then (bif Nat.beq k 2 then some 4 else none) else (bif Nat.beq k 3 then some 11 else none)) else none)) else (bif Nat.blt a 11 then (bif Nat.beq a 4 then (bif Nat.blt k 3 then (bif Nat.blt k 1 then (bif Nat.beq k 0 then some 5 else none) else (bif Nat.blt k 2 then (bif Nat.beq k 1 then some 6 else none) else (bif Nat.beq k 2 then some 7 else none))) else (bif Nat.blt k 4 then (bif Nat.beq k 3 then some 8 else none) else (bif Nat.blt k 5 then (bif Nat.beq k 4 then some 9 else none) else (bif Nat.beq k 5 then some 10 else none)))) else none) else (bif Nat.blt a 18 then (bif Nat.beq a 11 then (bif Nat.blt k 3 then (bif Nat.blt k 1 then (bif Nat.beq k 0 then some 12 else none) else (bif Nat.blt k 2 then (bif Nat.beq k 1 then some 13 else none) else (bif Nat.beq k 2 then some 14 else none))) else (bif Nat.blt k 4 then (bif Nat.beq k 3 then some 15 else none) else (bif Nat.blt k 5 then (bif Nat.beq k 4 then some 16 else none) else (bif Nat.beq k 5 then some 17 else none)))) else none) else (bif Nat.beq a 18 then (bif Nat.blt k 3 then (bif Nat.beq k 0 then some 3 else none) else (bif Nat.blt k 4 then (bif Nat.beq k 3 then some 19 else none) else (bif Nat.beq k 4 then some 20 else none))) else none)))) else (bif Nat.blt a 23 then (bif Nat.blt a 22 then (bif Nat.beq a 21 then (bif Nat.blt k 11 then (bif Nat.blt k 8 then (bif Nat.blt k 1 then (bif Nat.beq k 0 then some 3 else none) else (bif Nat.blt k 2 then (bif Nat.beq k 1 then some 18 else none) else (bif Nat.beq k 2 then some 22 else none))) else (bif Nat.blt k 9 then (bif Nat.beq k 8 then some 39 else none) else (bif Nat.blt k 10 then (bif Nat.beq k 9 then some 40 else none) else (bif Nat.beq k 10 then some 41 else none)))) else (bif Nat.blt k 14 then (bif Nat.blt k 12 then (bif Nat.beq k 11 then some 42 else none) else (bif Nat.blt k 13 then (bif Nat.beq k 12 then some 43 else none) else (bif Nat.beq k 13 then some 44 else none))) else (bif Nat.blt k 15 then (bif Nat.beq k 14 then some 45 else none) else (bif Nat.blt k 16 then (bif Nat.beq k 15 then some 46 else none) else (bif Nat.beq k 16 then some 47 else none))))) else none) else (bif Nat.beq a 22 then (bif Nat.blt k 2 then (bif Nat.blt k 1 then (bif Nat.beq k 0 then some 3 else none) else (bif Nat.beq k 1 then some 18 else none)) else (bif Nat.blt k 3 then (bif Nat.beq k 2 then some 23 else none) else (bif Nat.beq k 3 then some 38 else none))) else none)) else (bif Nat.blt a 48 then (bif Nat.beq a 23 then (bif Nat.blt k 7 then (bif Nat.blt k 3 then (bif Nat.blt k 1 then (bif Nat.beq k 0 then some 24 else none) else (bif Nat.blt k 2 then (bif Nat.beq k 1 then some 25 else none) else (bif Nat.beq k 2 then some 26 else none))) else (bif Nat.blt k 5 then (bif Nat.blt k 4 then (bif Nat.beq k 3 then some 27 else none) else (bif Nat.beq k 4 then some 28 else none)) else (bif Nat.blt k 6 then (bif Nat.beq k 5 then some 29 else none) else (bif Nat.beq k 6 then some 30 else none)))) else (bif Nat.blt k 10 then (bif Nat.blt k 8 then (bif Nat.beq k 7 then some 31 else none) else (bif Nat.blt k 9 then (bif Nat.beq k 8 then some 32 else none) else (bif Nat.beq k 9 then some 33 else none))) else (bif Nat.blt k 12 then (bif Nat.blt k 11 then (bif Nat.beq k 10 then some 34 else none) else (bif Nat.beq k 11 then some 35 else none)) else (bif Nat.blt k 13 then (bif Nat.beq k 12 then some 36 else none) else (bif Nat.beq k 13 then some 37 else none))))) else none) else (bif Nat.blt a 49 then (bif Nat.beq a 48 then (bif Nat.blt k 11 then (bif Nat.blt k 8 then (bif Nat.blt k 1 then (bif Nat.beq k 0 then some 3 else none) else (bif Nat.blt k 2 then (bif Nat.beq k 1 then some 18 else none) else (bif Nat.beq k 2 then some 49 else none))) else (bif Nat.blt k 9 then (bif Nat.beq k 8 then some 57 else none) else (bif Nat.blt k 10 then (bif Nat.beq k 9 then some 58 else none) else (bif Nat.beq k 10 then some 59 else none)))) else (bif Nat.blt k 14 then (bif Nat.blt k 12 then (bif Nat.beq k 11 then some 60 else none) else (bif Nat.blt k 13 then (bif Nat.beq k 12 then some 61 else none) else (bif Nat.beq k 13 then some 62 else none))) else (bif Nat.blt k 15 then (bif Nat.beq k 14 then some 63 else none) else (bif Nat.blt k 16 then (bif Nat.beq k 15 then some 64 else none) else (bif Nat.beq k 16 then some 65 else none))))) else none) else (bif Nat.beq a 49 then (bif Nat.blt k 2 then (bif Nat.blt k 1 then (bif Nat.beq k 0 then some 3 else none) else (bif Nat.beq k 1 then some 18 else none)) else (bif Nat.blt k 3 then (bif Nat.beq k 2 then some 50 else none) else (bif Nat.beq k 3 then some 56 else none))) else none))))) else (bif Nat.blt a 85 then (bif Nat.blt a 67 then (bif Nat.blt a 66 then (bif Nat.beq a 50 then (bif Nat.blt k 2 then (bif Nat.blt k 1 then (bif Nat.beq k 0 then some 51 else none) else (bif Nat.beq k 1 then some 52 else none)) else (bif Nat.blt k 3 then (bif Nat.beq k 2 then some 53 else none) else (bif Nat.blt k 4 then (bif Nat.beq k 3 then some 54 else none) else (bif Nat.beq k 4 then some 55 else none)))) else none) else (bif Nat.beq a 66 then (bif Nat.blt k 1 then (bif Nat.beq k 0 then some 3 else none) else (bif Nat.blt k 2 then (bif Nat.beq k 1 then some 18 else none) else (bif Nat.beq k 2 then some 67 else none))) else none)) else (bif Nat.blt a 82 then (bif Nat.beq a 67 then (bif Nat.blt k 6 then (bif Nat.blt k 3 then (bif Nat.blt k 1 then (bif Nat.beq k 0 then some 68 else none) else (bif Nat.blt k 2 then (bif Nat.beq k 1 then some 69 else none) else (bif Nat.beq k 2 then some 70 else none))) else (bif Nat.blt k 4 then (bif Nat.beq k 3 then some 71 else none) else (bif Nat.blt k 5 then (bif Nat.beq k 4 then some 72 else none) else (bif Nat.beq k 5 then some 73 else none)))) else (bif Nat.blt k 9 then (bif Nat.blt k 7 then (bif Nat.beq k 6 then some 74 else none) else (bif Nat.blt k 8 then (bif Nat.beq k 7 then some 75 else none) else (bif Nat.beq k 8 then some 76 else none))) else (bif Nat.blt k 11 then (bif Nat.blt k 10 then (bif Nat.beq k 9 then some 77 else none) else (bif Nat.beq k 10 then some 78 else none)) else (bif Nat.blt k 12 then (bif Nat.beq k 11 then some 79 else none) else (bif Nat.beq k 12 then some 80 else none))))) else none) else (bif Nat.blt a 83 then (bif Nat.beq a 82 then (bif Nat.blt k 1 then (bif Nat.beq k 0 then some 83 else none) else (bif Nat.blt k 2 then (bif Nat.beq k 1 then some 90 else none) else (bif Nat.beq k 2 then some 97 else none))) else none) else (bif Nat.beq a 83 then (bif Nat.blt k 3 then (bif Nat.beq k 2 then some 84 else none) else (bif Nat.beq k 3 then some 85 else none)) else none)))) else (bif Nat.blt a 97 then (bif Nat.blt a 90 then (bif Nat.beq a 85 then (bif Nat.blt k 2 then (bif Nat.blt k 1 then (bif Nat.beq k 0 then some 86 else none) else (bif Nat.beq k 1 then some 87 else none)) else (bif Nat.blt k 3 then (bif Nat.beq k 2 then some 88 else none) else (bif Nat.beq k 3 then some 89 else none))) else none) else (bif Nat.blt a 92 then (bif Nat.beq a 90 then (bif Nat.blt k 3 then (bif Nat.beq k 2 then some 91 else none) else (bif Nat.beq k 3 then some 92 else none)) else none) else (bif Nat.beq a 92 then (bif Nat.blt k 2 then (bif Nat.blt k 1 then (bif Nat.beq k 0 then some 93 else none) else (bif Nat.beq k 1 then some 94 else none)) else (bif Nat.blt k 3 then (bif Nat.beq k 2 then some 95 else none) else (bif Nat.beq k 3 then some 96 else none))) else none))) else (bif Nat.blt a 99 then (bif Nat.beq a 97 then (bif Nat.blt k 3 then (bif Nat.beq k 2 then some 98 else none) else (bif Nat.beq k 3 then some 99 else none)) else none) else (bif Nat.blt a 104 then (bif Nat.beq a 99 then (bif Nat.blt k 2 then (bif Nat.blt k 1 then (bif Nat.beq k 0 then some 100 else none) else (bif Nat.beq k 1 then some 101 else none)) else (bif Nat.blt k 3 then (bif Nat.beq k 2 then some 102 else none) else (bif Nat.beq k 3 then some 103 else none))) else none) else (bif Nat.beq a 104 then (bif Nat.blt k 21 then (bif Nat.blt k 13 then (bif Nat.blt k 7 then (bif Nat.blt k 6 then (bif Nat.beq k 5 then some 105 else none) else (bif Nat.beq k 6 then some 106 else none)) else (bif Nat.blt k 8 then (bif Nat.beq k 7 then some 107 else none) else (bif Nat.blt k 12 then (bif Nat.beq k 8 then some 108 else none) else (bif Nat.beq k 12 then some 109 else none)))) else (bif Nat.blt k 18 then (bif Nat.blt k 16 then (bif Nat.beq k 13 then some 110 else none) else (bif Nat.blt k 17 then (bif Nat.beq k 16 then some 111 else none) else (bif Nat.beq k 17 then some 112 else none))) else (bif Nat.blt k 19 then (bif Nat.beq k 18 then some 113 else none) else (bif Nat.blt k 20 then (bif Nat.beq k 19 then some 114 else none) else (bif Nat.beq k 20 then some 115 else none))))) else (bif Nat.blt k 26 then (bif Nat.blt k 23 then (bif Nat.blt k 22 then (bif Nat.beq k 21 then some 116 else none) else (bif Nat.beq k 22 then some 117 else none)) else (bif Nat.blt k 24 then (bif Nat.beq k 23 then some 118 else none) else (bif Nat.blt k 25 then (bif Nat.beq k 24 then some 119 else none) else (bif Nat.beq k 25 then some 120 else none)))) else (bif Nat.blt k 29 then (bif Nat.blt k 27 then (bif Nat.beq k 26 then some 121 else none) else (bif Nat.blt k 28 then (bif Nat.beq k 27 then some 122 else none) else (bif Nat.beq k 28 then some 123 else none))) else (bif Nat.blt k 30 then (bif Nat.beq k 29 then some 124 else none) else (bif Nat.blt k 31 then (bif Nat.beq k 30 then some 125 else none) else (bif Nat.beq k 31 then some 126 else none)))))) else none))))))
def zZ : Nat := 18476
abbrev zs (h hl : Nat → Nat → Int) : zS := (127, zZ, h, hl, zHR)
theorem zhr_4 {k : Nat} (h : k < 6) : zHR 4 k = some (5 + k) := (by decide +kernel : ∀ k, k < 6 → zHR 4 k = some (5 + k)) k h
theorem zsh_4 {k : Nat} (h : k < 6) : zSh (5 + k) = .inr (0, 6) ∧ 2 ≤ 5 + k ∧ 5 + k < 127 := (by decide +kernel : ∀ k, k < 6 → (zSh (5 + k) = .inr (0, 6) ∧ 2 ≤ 5 + k ∧ 5 + k < 127)) k h
theorem zhr_11 {k : Nat} (h : k < 6) : zHR 11 k = some (12 + k) := (by decide +kernel : ∀ k, k < 6 → zHR 11 k = some (12 + k)) k h
theorem zsh_11 {k : Nat} (h : k < 6) : zSh (12 + k) = .inr (0, 6) ∧ 2 ≤ 12 + k ∧ 12 + k < 127 := (by decide +kernel : ∀ k, k < 6 → (zSh (12 + k) = .inr (0, 6) ∧ 2 ≤ 12 + k ∧ 12 + k < 127)) k h
theorem zhr_23 {k : Nat} (h : k < 14) : zHR 23 k = some (24 + k) := (by decide +kernel : ∀ k, k < 14 → zHR 23 k = some (24 + k)) k h
theorem zsh_23 {k : Nat} (h : k < 14) : zSh (24 + k) = .inr (0, 56) ∧ 2 ≤ 24 + k ∧ 24 + k < 127 := (by decide +kernel : ∀ k, k < 14 → (zSh (24 + k) = .inr (0, 56) ∧ 2 ≤ 24 + k ∧ 24 + k < 127)) k h
theorem zhr_50 {k : Nat} (h : k < 5) : zHR 50 k = some (51 + k) := (by decide +kernel : ∀ k, k < 5 → zHR 50 k = some (51 + k)) k h
theorem zsh_50 {k : Nat} (h : k < 5) : zSh (51 + k) = .inr (0, 56) ∧ 2 ≤ 51 + k ∧ 51 + k < 127 := (by decide +kernel : ∀ k, k < 5 → (zSh (51 + k) = .inr (0, 56) ∧ 2 ≤ 51 + k ∧ 51 + k < 127)) k h
theorem zhr_67 {k : Nat} (h : k < 13) : zHR 67 k = some (68 + k) := (by decide +kernel : ∀ k, k < 13 → zHR 67 k = some (68 + k)) k h
theorem zsh_67 {k : Nat} (h : k < 13) : zSh (68 + k) = .inr (0, 56) ∧ 2 ≤ 68 + k ∧ 68 + k < 127 := (by decide +kernel : ∀ k, k < 13 → (zSh (68 + k) = .inr (0, 56) ∧ 2 ≤ 68 + k ∧ 68 + k < 127)) k h
theorem zhr_85 {k : Nat} (h : k < 4) : zHR 85 k = some (86 + k) := (by decide +kernel : ∀ k, k < 4 → zHR 85 k = some (86 + k)) k h
theorem zsh_85 {k : Nat} (h : k < 4) : zSh (86 + k) = .inr (1, 8) ∧ 2 ≤ 86 + k ∧ 86 + k < 127 := (by decide +kernel : ∀ k, k < 4 → (zSh (86 + k) = .inr (1, 8) ∧ 2 ≤ 86 + k ∧ 86 + k < 127)) k h
theorem zhr_92 {k : Nat} (h : k < 4) : zHR 92 k = some (93 + k) := (by decide +kernel : ∀ k, k < 4 → zHR 92 k = some (93 + k)) k h
theorem zsh_92 {k : Nat} (h : k < 4) : zSh (93 + k) = .inr (1, 8) ∧ 2 ≤ 93 + k ∧ 93 + k < 127 := (by decide +kernel : ∀ k, k < 4 → (zSh (93 + k) = .inr (1, 8) ∧ 2 ≤ 93 + k ∧ 93 + k < 127)) k h
theorem zhr_99 {k : Nat} (h : k < 4) : zHR 99 k = some (100 + k) := (by decide +kernel : ∀ k, k < 4 → zHR 99 k = some (100 + k)) k h
theorem zsh_99 {k : Nat} (h : k < 4) : zSh (100 + k) = .inr (1, 8) ∧ 2 ≤ 100 + k ∧ 100 + k < 127 := (by decide +kernel : ∀ k, k < 4 → (zSh (100 + k) = .inr (1, 8) ∧ 2 ≤ 100 + k ∧ 100 + k < 127)) k h
theorem znp_of {M : Nat} {c : zC} {i : zI} {q : Prop × zC} (hT : zTab M c.1 = some i) (h1 : zret i c.2.2.1 = none) (h2 : zcmp i c.2.2.1 = none) (h3 : zcall i c.2.2.1 c.2.2.2 = none) (h4 : zstep i c = some q) : znp M c = some q := by
  unfold znp zone
  rw [hT]
  dsimp only
  rw [h1]
  dsimp only
  rw [h2]
  dsimp only
  rw [h3]
  dsimp only
  rw [h4]
section ZHM
variable {d M pc : Nat} {L : List (Option zV)} {T : List zV} {h hl : Nat → Nat → Int} {Post : Option zV → zS → Prop}
theorem zH_aal {A n b : Nat} {j : Int} (hT : zTab M pc = some (.aaload, 1, 0, 0)) (hs : (match zSh A with | .inr (t, n') => decide (3 ≤ t ∧ t ≤ 5 ∧ 2 ≤ A ∧ A < 127 ∧ n' = n) | .inl _ => false) = true) (h0 : 0 ≤ j) (h1 : j < (n : Int)) (hb : zHR A j.toNat = some b)
    (kk : zH d M (pc + 1, L, .inr (.inr (some b)) :: T, zs h hl) Post) : zH d M (pc, L, .inl j :: .inr (.inr (some A)) :: T, zs h hl) Post := by
  refine zH_np (P := 0 ≤ j ∧ j < (n : Int)) (c' := (pc + 1, L, .inr (.inr (zHR A j.toNat)) :: T, zs h hl)) (znp_of hT rfl rfl rfl ?_) ⟨h0, h1⟩ (by rw [hb]; exact kk)
  show zaal pc L (zs h hl) A j T = _
  unfold zaal
  split at hs
  · rename_i t n' e
    have h9 := of_decide_eq_true hs
    rw [e]
    dsimp only
    rw [if_pos ⟨h9.1, h9.2.1, h9.2.2.1, h9.2.2.2.1⟩, h9.2.2.2.2]
  · cases hs
theorem zarr_of {σ : zS} {a t n : Nat} {k : Nat → Option (Prop × zC)} (h : zSh a = .inr (t, n)) (ha : a < σ.1) : zarr σ a t k = k n := by
  unfold zarr
  rw [h]
  dsimp only
  rw [if_pos ⟨rfl, ha⟩]
theorem zLen_n {σ : zS} {a n : Nat} (h : 2 ≤ a) : zLen σ a n = (n : Int) := by
  unfold zLen
  rw [if_neg (by omega)]
theorem zH_ial {a n : Nat} {j : Int} (hT : zTab M pc = some (.iaload, 1, 0, 0)) (hs : zSh a = .inr (0, n) ∧ 2 ≤ a ∧ a < 127) (h0 : 0 ≤ j) (h1 : j < (n : Int))
    (kk : zH d M (pc + 1, L, .inl (h a j.toNat) :: T, zs h hl) Post) : zH d M (pc, L, .inl j :: .inr (.inr (some a)) :: T, zs h hl) Post := by
  refine zH_np (P := 0 ≤ j ∧ j < zLen (zs h hl) a n) (znp_of hT rfl rfl rfl ?_) ⟨h0, by rw [zLen_n hs.2.1]; exact h1⟩ kk
  exact zarr_of (σ := zs h hl) (t := 0) hs.1 hs.2.2
theorem zH_lal {a n : Nat} {j : Int} (hT : zTab M pc = some (.laload, 1, 0, 0)) (hs : zSh a = .inr (1, n) ∧ 2 ≤ a ∧ a < 127) (h0 : 0 ≤ j) (h1 : j < (n : Int))
    (kk : zH d M (pc + 1, L, .inr (.inl (hl a j.toNat)) :: T, zs h hl) Post) : zH d M (pc, L, .inl j :: .inr (.inr (some a)) :: T, zs h hl) Post := by
  refine zH_np (P := 0 ≤ j ∧ j < zLen (zs h hl) a n) (znp_of hT rfl rfl rfl ?_) ⟨h0, by rw [zLen_n hs.2.1]; exact h1⟩ kk
  exact zarr_of (σ := zs h hl) (t := 1) hs.1 hs.2.2
theorem zH_ias {a n : Nat} {j x : Int} (hT : zTab M pc = some (.iastore, 1, 0, 0)) (hs : zSh a = .inr (0, n) ∧ 2 ≤ a ∧ a < 127) (h0 : 0 ≤ j) (h1 : j < (n : Int))
    (kk : zH d M (pc + 1, L, T, zs (zup h a j.toNat x) hl) Post) : zH d M (pc, L, .inl x :: .inl j :: .inr (.inr (some a)) :: T, zs h hl) Post := by
  refine zH_np (P := 0 ≤ j ∧ j < (n : Int)) (znp_of hT rfl rfl rfl ?_) ⟨h0, h1⟩ kk
  refine (zarr_of (σ := zs h hl) (t := 0) hs.1 hs.2.2).trans ?_
  rw [if_pos hs.2.1]
theorem zH_las {a n : Nat} {j x : Int} (hT : zTab M pc = some (.lastore, 1, 0, 0)) (hs : zSh a = .inr (1, n) ∧ 2 ≤ a ∧ a < 127) (h0 : 0 ≤ j) (h1 : j < (n : Int))
    (kk : zH d M (pc + 1, L, T, zs h (zup hl a j.toNat x)) Post) : zH d M (pc, L, .inr (.inl x) :: .inl j :: .inr (.inr (some a)) :: T, zs h hl) Post := by
  refine zH_np (P := 0 ≤ j ∧ j < (n : Int)) (znp_of hT rfl rfl rfl ?_) ⟨h0, h1⟩ kk
  refine (zarr_of (σ := zs h hl) (t := 1) hs.1 hs.2.2).trans ?_
  rw [if_pos hs.2.1]
theorem zH_aln {a n t : Nat} (hT : zTab M pc = some (.arraylength, 1, 0, 0)) (hs : zSh a = .inr (t, n) ∧ 2 ≤ a ∧ a < 127) (ht : t ≤ 5)
    (kk : zH d M (pc + 1, L, .inl (n : Int) :: T, zs h hl) Post) : zH d M (pc, L, .inr (.inr (some a)) :: T, zs h hl) Post := by
  refine zH_np (P := True) (znp_of hT rfl rfl rfl ?_) trivial kk
  show zaln pc L (zs h hl) a T = _
  unfold zaln
  rw [hs.1]
  dsimp only
  rw [if_pos ⟨ht, hs.2.2⟩, zLen_n hs.2.1]
theorem zH_sw {dd lo hi : Int} {offs : Array Int} {ln e1 e2 : Nat} {x : Int} {σ : zS} (hT : zTab M pc = some (.tableswitch dd lo hi offs, ln, e1, e2)) (hx : zr x) {tgt : Nat} (ht : ((pc : Int) + (if x < lo ∨ hi < x then dd else offs.getD (x - lo).toNat dd)).toNat = tgt)
    (kk : zH d M (tgt, L, T, σ) Post) : zH d M (pc, L, .inl x :: T, σ) Post := by
  subst ht
  exact zH_np (P := zr x) (znp_of hT rfl rfl rfl rfl) hx kk
theorem zH_bt {c c1 c2 : zC} {x y : Int} {k : Jvm.ClassFile.Cond} (hz : zbr M c = some (x, y, k, c1, c2)) (hx : zr x) (hy : zr y) (hk : zrel k x y) (kk : zH d M c1 Post) : zH d M c Post := zH_br hz hx hy (fun _ => kk) (fun q => absurd hk q)
theorem zH_bf {c c1 c2 : zC} {x y : Int} {k : Jvm.ClassFile.Cond} (hz : zbr M c = some (x, y, k, c1, c2)) (hx : zr x) (hy : zr y) (hk : ¬ zrel k x y) (kk : zH d M c2 Post) : zH d M c Post := zH_br hz hx hy (fun q => absurd q hk) (fun _ => kk)
end ZHM
theorem zmin_spec (x y : Int) : ∃ m : Int, (if y < x then y else x) = m ∧ (m ≤ x ∧ m ≤ y ∧ (m = x ∨ m = y)) := by
  by_cases q : y < x
  · exact ⟨y, if_pos q, by omega, by omega, Or.inr rfl⟩
  · exact ⟨x, if_neg q, by omega, by omega, Or.inl rfl⟩
theorem zmax_spec (x y : Int) : ∃ m : Int, (if x < y then y else x) = m ∧ (x ≤ m ∧ y ≤ m ∧ (m = x ∨ m = y)) := by
  by_cases q : x < y
  · exact ⟨y, if_pos q, by omega, by omega, Or.inr rfl⟩
  · exact ⟨x, if_neg q, by omega, by omega, Or.inl rfl⟩
/-- what a yes-or-no method answers, nothing changed -/
def zB (C : Prop) (σ : zS) : Option zV → zS → Prop := fun r σ' => (r = some (.inl 1) ∧ C ∧ σ' = σ) ∨ (r = some (.inl 0) ∧ ¬ C ∧ σ' = σ)
/-- an answer, nothing changed -/
def zI1 (x : Int) (σ : zS) : Option zV → zS → Prop := fun r σ' => r = some (.inl x) ∧ σ' = σ
