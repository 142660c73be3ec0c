/-! The model: which LADDER goes. -/
def zPkM (f : Nat → Prop) (h hl : Nat → Nat → Int) (t : Int) : Option zV → zS → Prop := fun r σ' => ∃ l : Nat, f l ∧ r = some (.inl (l : Int)) ∧ σ' = zs h (zup hl 104 2 (hl 104 2 + t))
theorem zupl_add {hl : Nat → Nat → Int} {a k : Nat} {x y z : Int} (hz : x + y = z) : zup (zup hl a k (hl a k + x)) a k (zup hl a k (hl a k + x) a k + y) = zup hl a k (hl a k + z) := by
  rw [zup_id, zup_eq, Int.add_assoc, hz]
theorem zrem_ok : ∀ L : Nat, L < 4 → ∀ t : Nat, t < 4 → 1 ≤ L → t ≤ L → zrem (t : Int) (L : Int) = if t < L then (t : Int) else 0 := by decide +kernel
theorem zor_st1 : ∀ a : Nat, a < 8 → zor 0 (zshl (a : Int) 0) = ((zwd 0 0 a : Nat) : Int) := by decide +kernel
theorem zor_st2 : ∀ a : Nat, a < 8 → ∀ b : Nat, b < 8 → zor (zor 0 (zshl (a : Int) 0)) (zshl (b : Int) 3) = ((zwd (zwd 0 0 a) 1 b : Nat) : Int) := by decide +kernel
theorem zor_st3 : ∀ a : Nat, a < 8 → ∀ b : Nat, b < 8 → ∀ c : Nat, c < 8 → zor (zor (zor 0 (zshl (a : Int) 0)) (zshl (b : Int) 3)) (zshl (c : Int) 6) = ((zwd (zwd (zwd 0 0 a) 1 b) 2 c : Nat) : Int) := by decide +kernel
set_option maxRecDepth 100000 in
set_option maxHeartbeats 4000000 in
theorem p_nrO1091 {d : Nat} {h hl : Nat → Nat → Int} {p pp : Nat} {sp : Nat → Nat} (hpp : pp < p) (hp : p ≤ 6) (hL : h 104 9 = 1) (hsp : ∀ i : Nat, i < 1 → h 109 i = ((sp i : Nat) : Int)) (hs6 : ∀ i : Nat, i < 1 → sp i < p) (hF : zFE h p) (hB : zTB h) : zQ (d + 1) 120 [.inr (.inr (some 104)), .inr (.inr (some 109)), .inl (pp : Int)] (zs h hl) (zPkM (zIs 1 (fun l => h (12 + sp l) pp)) h hl 1) := by
  have s0 := hsp 0 (by decide)
  have t0 := hs6 0 (by decide)
  have F0 : h 108 (6 * sp 0 + pp) = h (12 + sp 0) pp := hF (sp 0) pp t0 hpp
  have d0 := hB (sp 0) pp (by omega) (by omega)
  refine zQ_of (Nat.le_of_ble_eq_true rfl) ?_
  show zH d 120 (0, [some (.inr (.inr (some 104))), some (.inr (.inr (some 109))), some (.inl (pp : Int)), none, none], [], (zs h hl)) _
  refine zH_go 13 (c' := (21, [some (.inr (.inr (some 104))), some (.inr (.inr (some 109))), some (.inl (pp : Int)), some (.inl 0), some (.inl 1)], [.inl (h 104 9), .inl 1], (zs h (zup hl 104 2 ((hl 104 2) + 1))))) rfl ?_
  rw [hL]
  refine zH_bt (x := 1) (y := 1) (k := .ge) (c1 := (67, [some (.inr (.inr (some 104))), some (.inr (.inr (some 109))), some (.inl (pp : Int)), some (.inl 0), some (.inl 1)], [], (zs h (zup hl 104 2 ((hl 104 2) + 1))))) (c2 := (24, [some (.inr (.inr (some 104))), some (.inr (.inr (some 109))), some (.inl (pp : Int)), some (.inl 0), some (.inl 1)], [], (zs h (zup hl 104 2 ((hl 104 2) + 1))))) rfl ⟨by decide, by decide⟩ ⟨by decide, by decide⟩ (by show ¬ 1 < 1; decide) ?_
  refine zH_go 1 (c' := (68, [some (.inr (.inr (some 104))), some (.inr (.inr (some 109))), some (.inl (pp : Int)), some (.inl 0), some (.inl 1)], [.inl 0], (zs h (zup hl 104 2 ((hl 104 2) + 1))))) rfl ?_
  refine zH_ret (v := some (.inl 0)) rfl (fun q => absurd q (by decide)) ?_
  refine ⟨0, ?_, rfl, rfl⟩
  unfold zIs
  dsimp only
  omega
set_option maxRecDepth 100000 in
set_option maxHeartbeats 4000000 in
theorem p_thO1091 {d : Nat} {h hl : Nat → Nat → Int} {p pp : Nat} {sp : Nat → Nat} (hpp : pp < p) (hp : p ≤ 6) (hL : h 104 9 = 1) (hsp : ∀ i : Nat, i < 1 → h 109 i = ((sp i : Nat) : Int)) (hs6 : ∀ i : Nat, i < 1 → sp i < p) (hF : zFE h p) (hB : zTB h) : zQ (d + 1) 121 [.inr (.inr (some 104)), .inr (.inr (some 109)), .inl (pp : Int)] (zs h hl) (zB (zCov 1 sp pp) (zs h hl)) := by
  have s0 := hsp 0 (by decide)
  have t0 := hs6 0 (by decide)
  have F0 : h 108 (6 * sp 0 + pp) = h (12 + sp 0) pp := hF (sp 0) pp t0 hpp
  have d0 := hB (sp 0) pp (by omega) (by omega)
  refine zQ_of (Nat.le_of_ble_eq_true rfl) ?_
  show zH d 121 (0, [some (.inr (.inr (some 104))), some (.inr (.inr (some 109))), some (.inl (pp : Int)), none, none], [], (zs h hl)) _
  refine zH_go 7 (c' := (11, [some (.inr (.inr (some 104))), some (.inr (.inr (some 109))), some (.inl (pp : Int)), some (.inl 0), some (.inl 0)], [.inl (h 104 9), .inl 0], (zs h hl))) rfl ?_
  rw [hL]
  refine zH_bf (x := 0) (y := 1) (k := .ge) (c1 := (36, [some (.inr (.inr (some 104))), some (.inr (.inr (some 109))), some (.inl (pp : Int)), some (.inl 0), some (.inl 0)], [], (zs h hl))) (c2 := (14, [some (.inr (.inr (some 104))), some (.inr (.inr (some 109))), some (.inl (pp : Int)), some (.inl 0), some (.inl 0)], [], (zs h hl))) rfl ⟨by decide, by decide⟩ ⟨by decide, by decide⟩ (by show ¬ (¬ 0 < 1); decide) ?_
  refine zH_go 3 (c' := (18, [some (.inr (.inr (some 104))), some (.inr (.inr (some 109))), some (.inl (pp : Int)), some (.inl 0), some (.inl 0)], [.inl 0, .inr (.inr (some 109)), .inl 0], (zs h hl))) rfl ?_
  refine zH_np (P := 0 ≤ 0 ∧ 0 < ((3 : Nat) : Int)) (c' := (19, [some (.inr (.inr (some 104))), some (.inr (.inr (some 109))), some (.inl (pp : Int)), some (.inl 0), some (.inl 0)], [.inl (h 109 0), .inl 0], (zs h hl))) rfl ⟨by decide, by decide⟩ ?_
  rw [s0]
  refine zH_go 1 (c' := (20, [some (.inr (.inr (some 104))), some (.inr (.inr (some 109))), some (.inl (pp : Int)), some (.inl 0), some (.inl 0)], [.inl (pp : Int), .inl ((sp 0 : Nat) : Int), .inl 0], (zs h hl))) rfl ?_
  refine zH_br (x := ((sp 0 : Nat) : Int)) (y := (pp : Int)) (k := .ne) (c1 := (27, [some (.inr (.inr (some 104))), some (.inr (.inr (some 109))), some (.inl (pp : Int)), some (.inl 0), some (.inl 0)], [.inl 0], (zs h hl))) (c2 := (23, [some (.inr (.inr (some 104))), some (.inr (.inr (some 109))), some (.inl (pp : Int)), some (.inl 0), some (.inl 0)], [.inl 0], (zs h hl))) rfl (by first | assumption | (unfold zr; omega)) (by first | assumption | (unfold zr; omega)) (fun (b_1 : ¬ ((sp 0 : Nat) : Int) = (pp : Int)) => ?_) (fun (b_1 : ¬ (¬ ((sp 0 : Nat) : Int) = (pp : Int))) => ?_)
  · refine zH_go 8 (c' := (11, [some (.inr (.inr (some 104))), some (.inr (.inr (some 109))), some (.inl (pp : Int)), some (.inl 0), some (.inl 1)], [.inl (h 104 9), .inl 1], (zs h hl))) rfl ?_
    rw [hL]
    refine zH_bt (x := 1) (y := 1) (k := .ge) (c1 := (36, [some (.inr (.inr (some 104))), some (.inr (.inr (some 109))), some (.inl (pp : Int)), some (.inl 0), some (.inl 1)], [], (zs h hl))) (c2 := (14, [some (.inr (.inr (some 104))), some (.inr (.inr (some 109))), some (.inl (pp : Int)), some (.inl 0), some (.inl 1)], [], (zs h hl))) rfl ⟨by decide, by decide⟩ ⟨by decide, by decide⟩ (by show ¬ 1 < 1; decide) ?_
    refine zH_go 1 (c' := (37, [some (.inr (.inr (some 104))), some (.inr (.inr (some 109))), some (.inl (pp : Int)), some (.inl 0), some (.inl 1)], [.inl 0], (zs h hl))) rfl ?_
    refine zH_ret (v := some (.inl 0)) rfl (fun _ => by first | exact Or.inl rfl | exact Or.inr rfl) ?_
    refine Or.inr ⟨rfl, fun ⟨i, q1, q2⟩ => ?_, rfl⟩
    rcases (show i = 0 by omega) with rfl <;> omega
  · refine zH_go 9 (c' := (11, [some (.inr (.inr (some 104))), some (.inr (.inr (some 109))), some (.inl (pp : Int)), some (.inl 1), some (.inl 1)], [.inl (h 104 9), .inl 1], (zs h hl))) rfl ?_
    rw [hL]
    refine zH_bt (x := 1) (y := 1) (k := .ge) (c1 := (36, [some (.inr (.inr (some 104))), some (.inr (.inr (some 109))), some (.inl (pp : Int)), some (.inl 1), some (.inl 1)], [], (zs h hl))) (c2 := (14, [some (.inr (.inr (some 104))), some (.inr (.inr (some 109))), some (.inl (pp : Int)), some (.inl 1), some (.inl 1)], [], (zs h hl))) rfl ⟨by decide, by decide⟩ ⟨by decide, by decide⟩ (by show ¬ 1 < 1; decide) ?_
    refine zH_go 1 (c' := (37, [some (.inr (.inr (some 104))), some (.inr (.inr (some 109))), some (.inl (pp : Int)), some (.inl 1), some (.inl 1)], [.inl 1], (zs h hl))) rfl ?_
    refine zH_ret (v := some (.inl 1)) rfl (fun _ => by first | exact Or.inl rfl | exact Or.inr rfl) ?_
    exact Or.inl ⟨rfl, by first | exact ⟨0, by decide, by omega⟩ | exact ⟨1, by decide, by omega⟩ | exact ⟨2, by decide, by omega⟩, rfl⟩
set_option maxRecDepth 100000 in
set_option maxHeartbeats 4000000 in
theorem p_nrO1092 {d : Nat} {h hl : Nat → Nat → Int} {p pp : Nat} {sp : Nat → Nat} (hpp : pp < p) (hp : p ≤ 6) (hL : h 104 9 = 2) (hsp : ∀ i : Nat, i < 2 → h 109 i = ((sp i : Nat) : Int)) (hs6 : ∀ i : Nat, i < 2 → sp i < p) (hF : zFE h p) (hB : zTB h) : zQ (d + 1) 120 [.inr (.inr (some 104)), .inr (.inr (some 109)), .inl (pp : Int)] (zs h hl) (zPkM (zIs 2 (fun l => h (12 + sp l) pp)) h hl 1) := by
  have s0 := hsp 0 (by decide)
  have s1 := hsp 1 (by decide)
  have t0 := hs6 0 (by decide)
  have t1 := hs6 1 (by decide)
  have F0 : h 108 (6 * sp 0 + pp) = h (12 + sp 0) pp := hF (sp 0) pp t0 hpp
  have F1 : h 108 (6 * sp 1 + pp) = h (12 + sp 1) pp := hF (sp 1) pp t1 hpp
  have d0 := hB (sp 0) pp (by omega) (by omega)
  have d1 := hB (sp 1) pp (by omega) (by omega)
  refine zQ_of (Nat.le_of_ble_eq_true rfl) ?_
  show zH d 120 (0, [some (.inr (.inr (some 104))), some (.inr (.inr (some 109))), some (.inl (pp : Int)), none, none], [], (zs h hl)) _
  refine zH_go 13 (c' := (21, [some (.inr (.inr (some 104))), some (.inr (.inr (some 109))), some (.inl (pp : Int)), some (.inl 0), some (.inl 1)], [.inl (h 104 9), .inl 1], (zs h (zup hl 104 2 ((hl 104 2) + 1))))) rfl ?_
  rw [hL]
  refine zH_bf (x := 1) (y := 2) (k := .ge) (c1 := (67, [some (.inr (.inr (some 104))), some (.inr (.inr (some 109))), some (.inl (pp : Int)), some (.inl 0), some (.inl 1)], [], (zs h (zup hl 104 2 ((hl 104 2) + 1))))) (c2 := (24, [some (.inr (.inr (some 104))), some (.inr (.inr (some 109))), some (.inl (pp : Int)), some (.inl 0), some (.inl 1)], [], (zs h (zup hl 104 2 ((hl 104 2) + 1))))) rfl ⟨by decide, by decide⟩ ⟨by decide, by decide⟩ (by show ¬ (¬ 1 < 2); decide) ?_
  refine zH_go 5 (c' := (33, [some (.inr (.inr (some 104))), some (.inr (.inr (some 109))), some (.inl (pp : Int)), some (.inl 0), some (.inl 1)], [.inl 1, .inr (.inr (some 109)), .inl 6, .inr (.inr (some 108))], (zs h (zup hl 104 2 ((hl 104 2) + 1))))) rfl ?_
  refine zH_np (P := 0 ≤ 1 ∧ 1 < ((3 : Nat) : Int)) (c' := (34, [some (.inr (.inr (some 104))), some (.inr (.inr (some 109))), some (.inl (pp : Int)), some (.inl 0), some (.inl 1)], [.inl (h 109 1), .inl 6, .inr (.inr (some 108))], (zs h (zup hl 104 2 ((hl 104 2) + 1))))) rfl ⟨by decide, by decide⟩ ?_
  rw [s1]
  refine zH_go 3 (c' := (37, [some (.inr (.inr (some 104))), some (.inr (.inr (some 109))), some (.inl (pp : Int)), some (.inl 0), some (.inl 1)], [.inl ((6 * ((sp 1 : Nat) : Int)) + (pp : Int)), .inr (.inr (some 108))], (zs h (zup hl 104 2 ((hl 104 2) + 1))))) rfl ?_
  refine zH_np (P := 0 ≤ ((6 * ((sp 1 : Nat) : Int)) + (pp : Int)) ∧ ((6 * ((sp 1 : Nat) : Int)) + (pp : Int)) < ((36 : Nat) : Int)) (c' := (38, [some (.inr (.inr (some 104))), some (.inr (.inr (some 109))), some (.inl (pp : Int)), some (.inl 0), some (.inl 1)], [.inl (h 108 ((6 * (sp 1)) + pp))], (zs h (zup hl 104 2 ((hl 104 2) + 1))))) rfl ⟨by omega, by omega⟩ ?_
  rw [F1]
  refine zH_go 5 (c' := (46, [some (.inr (.inr (some 104))), some (.inr (.inr (some 109))), some (.inl (pp : Int)), some (.inl 0), some (.inl 1)], [.inl 0, .inr (.inr (some 109)), .inl 6, .inr (.inr (some 108)), .inl (h (12 + sp 1) pp)], (zs h (zup hl 104 2 ((hl 104 2) + 1))))) rfl ?_
  refine zH_np (P := 0 ≤ 0 ∧ 0 < ((3 : Nat) : Int)) (c' := (47, [some (.inr (.inr (some 104))), some (.inr (.inr (some 109))), some (.inl (pp : Int)), some (.inl 0), some (.inl 1)], [.inl (h 109 0), .inl 6, .inr (.inr (some 108)), .inl (h (12 + sp 1) pp)], (zs h (zup hl 104 2 ((hl 104 2) + 1))))) rfl ⟨by decide, by decide⟩ ?_
  rw [s0]
  refine zH_go 3 (c' := (50, [some (.inr (.inr (some 104))), some (.inr (.inr (some 109))), some (.inl (pp : Int)), some (.inl 0), some (.inl 1)], [.inl ((6 * ((sp 0 : Nat) : Int)) + (pp : Int)), .inr (.inr (some 108)), .inl (h (12 + sp 1) pp)], (zs h (zup hl 104 2 ((hl 104 2) + 1))))) rfl ?_
  refine zH_np (P := 0 ≤ ((6 * ((sp 0 : Nat) : Int)) + (pp : Int)) ∧ ((6 * ((sp 0 : Nat) : Int)) + (pp : Int)) < ((36 : Nat) : Int)) (c' := (51, [some (.inr (.inr (some 104))), some (.inr (.inr (some 109))), some (.inl (pp : Int)), some (.inl 0), some (.inl 1)], [.inl (h 108 ((6 * (sp 0)) + pp)), .inl (h (12 + sp 1) pp)], (zs h (zup hl 104 2 ((hl 104 2) + 1))))) rfl ⟨by omega, by omega⟩ ?_
  rw [F0]
  refine zH_br (x := (h (12 + sp 1) pp)) (y := (h (12 + sp 0) pp)) (k := .ge) (c1 := (59, [some (.inr (.inr (some 104))), some (.inr (.inr (some 109))), some (.inl (pp : Int)), some (.inl 0), some (.inl 1)], [], (zs h (zup hl 104 2 ((hl 104 2) + 1))))) (c2 := (54, [some (.inr (.inr (some 104))), some (.inr (.inr (some 109))), some (.inl (pp : Int)), some (.inl 0), some (.inl 1)], [], (zs h (zup hl 104 2 ((hl 104 2) + 1))))) rfl (by first | assumption | (unfold zr; omega)) (by first | assumption | (unfold zr; omega)) (fun (b_1 : ¬ (h (12 + sp 1) pp) < (h (12 + sp 0) pp)) => ?_) (fun (b_1 : ¬ (¬ (h (12 + sp 1) pp) < (h (12 + sp 0) pp))) => ?_)
  · refine zH_go 7 (c' := (21, [some (.inr (.inr (some 104))), some (.inr (.inr (some 109))), some (.inl (pp : Int)), some (.inl 0), some (.inl 2)], [.inl (h 104 9), .inl 2], (zs h (zup hl 104 2 ((hl 104 2) + 1))))) rfl ?_
    rw [hL]
    refine zH_bt (x := 2) (y := 2) (k := .ge) (c1 := (67, [some (.inr (.inr (some 104))), some (.inr (.inr (some 109))), some (.inl (pp : Int)), some (.inl 0), some (.inl 2)], [], (zs h (zup hl 104 2 ((hl 104 2) + 1))))) (c2 := (24, [some (.inr (.inr (some 104))), some (.inr (.inr (some 109))), some (.inl (pp : Int)), some (.inl 0), some (.inl 2)], [], (zs h (zup hl 104 2 ((hl 104 2) + 1))))) rfl ⟨by decide, by decide⟩ ⟨by decide, by decide⟩ (by show ¬ 2 < 2; decide) ?_
    refine zH_go 1 (c' := (68, [some (.inr (.inr (some 104))), some (.inr (.inr (some 109))), some (.inl (pp : Int)), some (.inl 0), some (.inl 2)], [.inl 0], (zs h (zup hl 104 2 ((hl 104 2) + 1))))) rfl ?_
    refine zH_ret (v := some (.inl 0)) rfl (fun q => absurd q (by decide)) ?_
    refine ⟨0, ?_, rfl, rfl⟩
    unfold zIs
    dsimp only
    omega
  · refine zH_go 8 (c' := (21, [some (.inr (.inr (some 104))), some (.inr (.inr (some 109))), some (.inl (pp : Int)), some (.inl 1), some (.inl 2)], [.inl (h 104 9), .inl 2], (zs h (zup hl 104 2 ((hl 104 2) + 1))))) rfl ?_
    rw [hL]
    refine zH_bt (x := 2) (y := 2) (k := .ge) (c1 := (67, [some (.inr (.inr (some 104))), some (.inr (.inr (some 109))), some (.inl (pp : Int)), some (.inl 1), some (.inl 2)], [], (zs h (zup hl 104 2 ((hl 104 2) + 1))))) (c2 := (24, [some (.inr (.inr (some 104))), some (.inr (.inr (some 109))), some (.inl (pp : Int)), some (.inl 1), some (.inl 2)], [], (zs h (zup hl 104 2 ((hl 104 2) + 1))))) rfl ⟨by decide, by decide⟩ ⟨by decide, by decide⟩ (by show ¬ 2 < 2; decide) ?_
    refine zH_go 1 (c' := (68, [some (.inr (.inr (some 104))), some (.inr (.inr (some 109))), some (.inl (pp : Int)), some (.inl 1), some (.inl 2)], [.inl 1], (zs h (zup hl 104 2 ((hl 104 2) + 1))))) rfl ?_
    refine zH_ret (v := some (.inl 1)) rfl (fun q => absurd q (by decide)) ?_
    refine ⟨1, ?_, rfl, rfl⟩
    unfold zIs
    dsimp only
    omega
set_option maxRecDepth 100000 in
set_option maxHeartbeats 4000000 in
theorem p_thO1092 {d : Nat} {h hl : Nat → Nat → Int} {p pp : Nat} {sp : Nat → Nat} (hpp : pp < p) (hp : p ≤ 6) (hL : h 104 9 = 2) (hsp : ∀ i : Nat, i < 2 → h 109 i = ((sp i : Nat) : Int)) (hs6 : ∀ i : Nat, i < 2 → sp i < p) (hF : zFE h p) (hB : zTB h) : zQ (d + 1) 121 [.inr (.inr (some 104)), .inr (.inr (some 109)), .inl (pp : Int)] (zs h hl) (zB (zCov 2 sp pp) (zs h hl)) := by
  have s0 := hsp 0 (by decide)
  have s1 := hsp 1 (by decide)
  have t0 := hs6 0 (by decide)
  have t1 := hs6 1 (by decide)
  have F0 : h 108 (6 * sp 0 + pp) = h (12 + sp 0) pp := hF (sp 0) pp t0 hpp
  have F1 : h 108 (6 * sp 1 + pp) = h (12 + sp 1) pp := hF (sp 1) pp t1 hpp
  have d0 := hB (sp 0) pp (by omega) (by omega)
  have d1 := hB (sp 1) pp (by omega) (by omega)
  refine zQ_of (Nat.le_of_ble_eq_true rfl) ?_
  show zH d 121 (0, [some (.inr (.inr (some 104))), some (.inr (.inr (some 109))), some (.inl (pp : Int)), none, none], [], (zs h hl)) _
  refine zH_go 7 (c' := (11, [some (.inr (.inr (some 104))), some (.inr (.inr (some 109))), some (.inl (pp : Int)), some (.inl 0), some (.inl 0)], [.inl (h 104 9), .inl 0], (zs h hl))) rfl ?_
  rw [hL]
  refine zH_bf (x := 0) (y := 2) (k := .ge) (c1 := (36, [some (.inr (.inr (some 104))), some (.inr (.inr (some 109))), some (.inl (pp : Int)), some (.inl 0), some (.inl 0)], [], (zs h hl))) (c2 := (14, [some (.inr (.inr (some 104))), some (.inr (.inr (some 109))), some (.inl (pp : Int)), some (.inl 0), some (.inl 0)], [], (zs h hl))) rfl ⟨by decide, by decide⟩ ⟨by decide, by decide⟩ (by show ¬ (¬ 0 < 2); decide) ?_
  refine zH_go 3 (c' := (18, [some (.inr (.inr (some 104))), some (.inr (.inr (some 109))), some (.inl (pp : Int)), some (.inl 0), some (.inl 0)], [.inl 0, .inr (.inr (some 109)), .inl 0], (zs h hl))) rfl ?_
  refine zH_np (P := 0 ≤ 0 ∧ 0 < ((3 : Nat) : Int)) (c' := (19, [some (.inr (.inr (some 104))), some (.inr (.inr (some 109))), some (.inl (pp : Int)), some (.inl 0), some (.inl 0)], [.inl (h 109 0), .inl 0], (zs h hl))) rfl ⟨by decide, by decide⟩ ?_
  rw [s0]
  refine zH_go 1 (c' := (20, [some (.inr (.inr (some 104))), some (.inr (.inr (some 109))), some (.inl (pp : Int)), some (.inl 0), some (.inl 0)], [.inl (pp : Int), .inl ((sp 0 : Nat) : Int), .inl 0], (zs h hl))) rfl ?_
  refine zH_br (x := ((sp 0 : Nat) : Int)) (y := (pp : Int)) (k := .ne) (c1 := (27, [some (.inr (.inr (some 104))), some (.inr (.inr (some 109))), some (.inl (pp : Int)), some (.inl 0), some (.inl 0)], [.inl 0], (zs h hl))) (c2 := (23, [some (.inr (.inr (some 104))), some (.inr (.inr (some 109))), some (.inl (pp : Int)), some (.inl 0), some (.inl 0)], [.inl 0], (zs h hl))) rfl (by first | assumption | (unfold zr; omega)) (by first | assumption | (unfold zr; omega)) (fun (b_1 : ¬ ((sp 0 : Nat) : Int) = (pp : Int)) => ?_) (fun (b_1 : ¬ (¬ ((sp 0 : Nat) : Int) = (pp : Int))) => ?_)
  · refine zH_go 8 (c' := (11, [some (.inr (.inr (some 104))), some (.inr (.inr (some 109))), some (.inl (pp : Int)), some (.inl 0), some (.inl 1)], [.inl (h 104 9), .inl 1], (zs h hl))) rfl ?_
    rw [hL]
    refine zH_bf (x := 1) (y := 2) (k := .ge) (c1 := (36, [some (.inr (.inr (some 104))), some (.inr (.inr (some 109))), some (.inl (pp : Int)), some (.inl 0), some (.inl 1)], [], (zs h hl))) (c2 := (14, [some (.inr (.inr (some 104))), some (.inr (.inr (some 109))), some (.inl (pp : Int)), some (.inl 0), some (.inl 1)], [], (zs h hl))) rfl ⟨by decide, by decide⟩ ⟨by decide, by decide⟩ (by show ¬ (¬ 1 < 2); decide) ?_
    refine zH_go 3 (c' := (18, [some (.inr (.inr (some 104))), some (.inr (.inr (some 109))), some (.inl (pp : Int)), some (.inl 0), some (.inl 1)], [.inl 1, .inr (.inr (some 109)), .inl 0], (zs h hl))) rfl ?_
    refine zH_np (P := 0 ≤ 1 ∧ 1 < ((3 : Nat) : Int)) (c' := (19, [some (.inr (.inr (some 104))), some (.inr (.inr (some 109))), some (.inl (pp : Int)), some (.inl 0), some (.inl 1)], [.inl (h 109 1), .inl 0], (zs h hl))) rfl ⟨by decide, by decide⟩ ?_
    rw [s1]
    refine zH_go 1 (c' := (20, [some (.inr (.inr (some 104))), some (.inr (.inr (some 109))), some (.inl (pp : Int)), some (.inl 0), some (.inl 1)], [.inl (pp : Int), .inl ((sp 1 : Nat) : Int), .inl 0], (zs h hl))) rfl ?_
    refine zH_br (x := ((sp 1 : Nat) : Int)) (y := (pp : Int)) (k := .ne) (c1 := (27, [some (.inr (.inr (some 104))), some (.inr (.inr (some 109))), some (.inl (pp : Int)), some (.inl 0), some (.inl 1)], [.inl 0], (zs h hl))) (c2 := (23, [some (.inr (.inr (some 104))), some (.inr (.inr (some 109))), some (.inl (pp : Int)), some (.inl 0), some (.inl 1)], [.inl 0], (zs h hl))) rfl (by first | assumption | (unfold zr; omega)) (by first | assumption | (unfold zr; omega)) (fun (b_2 : ¬ ((sp 1 : Nat) : Int) = (pp : Int)) => ?_) (fun (b_2 : ¬ (¬ ((sp 1 : Nat) : Int) = (pp : Int))) => ?_)
    · refine zH_go 8 (c' := (11, [some (.inr (.inr (some 104))), some (.inr (.inr (some 109))), some (.inl (pp : Int)), some (.inl 0), some (.inl 2)], [.inl (h 104 9), .inl 2], (zs h hl))) rfl ?_
      rw [hL]
      refine zH_bt (x := 2) (y := 2) (k := .ge) (c1 := (36, [some (.inr (.inr (some 104))), some (.inr (.inr (some 109))), some (.inl (pp : Int)), some (.inl 0), some (.inl 2)], [], (zs h hl))) (c2 := (14, [some (.inr (.inr (some 104))), some (.inr (.inr (some 109))), some (.inl (pp : Int)), some (.inl 0), some (.inl 2)], [], (zs h hl))) rfl ⟨by decide, by decide⟩ ⟨by decide, by decide⟩ (by show ¬ 2 < 2; decide) ?_
      refine zH_go 1 (c' := (37, [some (.inr (.inr (some 104))), some (.inr (.inr (some 109))), some (.inl (pp : Int)), some (.inl 0), some (.inl 2)], [.inl 0], (zs h hl))) rfl ?_
      refine zH_ret (v := some (.inl 0)) rfl (fun _ => by first | exact Or.inl rfl | exact Or.inr rfl) ?_
      refine Or.inr ⟨rfl, fun ⟨i, q1, q2⟩ => ?_, rfl⟩
      rcases (show i = 0 ∨ i = 1 by omega) with rfl | rfl <;> omega
    · refine zH_go 9 (c' := (11, [some (.inr (.inr (some 104))), some (.inr (.inr (some 109))), some (.inl (pp : Int)), some (.inl 1), some (.inl 2)], [.inl (h 104 9), .inl 2], (zs h hl))) rfl ?_
      rw [hL]
      refine zH_bt (x := 2) (y := 2) (k := .ge) (c1 := (36, [some (.inr (.inr (some 104))), some (.inr (.inr (some 109))), some (.inl (pp : Int)), some (.inl 1), some (.inl 2)], [], (zs h hl))) (c2 := (14, [some (.inr (.inr (some 104))), some (.inr (.inr (some 109))), some (.inl (pp : Int)), some (.inl 1), some (.inl 2)], [], (zs h hl))) rfl ⟨by decide, by decide⟩ ⟨by decide, by decide⟩ (by show ¬ 2 < 2; decide) ?_
      refine zH_go 1 (c' := (37, [some (.inr (.inr (some 104))), some (.inr (.inr (some 109))), some (.inl (pp : Int)), some (.inl 1), some (.inl 2)], [.inl 1], (zs h hl))) rfl ?_
      refine zH_ret (v := some (.inl 1)) rfl (fun _ => by first | exact Or.inl rfl | exact Or.inr rfl) ?_
      exact Or.inl ⟨rfl, by first | exact ⟨0, by decide, by omega⟩ | exact ⟨1, by decide, by omega⟩ | exact ⟨2, by decide, by omega⟩, rfl⟩
  · refine zH_go 9 (c' := (11, [some (.inr (.inr (some 104))), some (.inr (.inr (some 109))), some (.inl (pp : Int)), some (.inl 1), some (.inl 1)], [.inl (h 104 9), .inl 1], (zs h hl))) rfl ?_
    rw [hL]
    refine zH_bf (x := 1) (y := 2) (k := .ge) (c1 := (36, [some (.inr (.inr (some 104))), some (.inr (.inr (some 109))), some (.inl (pp : Int)), some (.inl 1), some (.inl 1)], [], (zs h hl))) (c2 := (14, [some (.inr (.inr (some 104))), some (.inr (.inr (some 109))), some (.inl (pp : Int)), some (.inl 1), some (.inl 1)], [], (zs h hl))) rfl ⟨by decide, by decide⟩ ⟨by decide, by decide⟩ (by show ¬ (¬ 1 < 2); decide) ?_
    refine zH_go 3 (c' := (18, [some (.inr (.inr (some 104))), some (.inr (.inr (some 109))), some (.inl (pp : Int)), some (.inl 1), some (.inl 1)], [.inl 1, .inr (.inr (some 109)), .inl 1], (zs h hl))) rfl ?_
    refine zH_np (P := 0 ≤ 1 ∧ 1 < ((3 : Nat) : Int)) (c' := (19, [some (.inr (.inr (some 104))), some (.inr (.inr (some 109))), some (.inl (pp : Int)), some (.inl 1), some (.inl 1)], [.inl (h 109 1), .inl 1], (zs h hl))) rfl ⟨by decide, by decide⟩ ?_
    rw [s1]
    refine zH_go 1 (c' := (20, [some (.inr (.inr (some 104))), some (.inr (.inr (some 109))), some (.inl (pp : Int)), some (.inl 1), some (.inl 1)], [.inl (pp : Int), .inl ((sp 1 : Nat) : Int), .inl 1], (zs h hl))) rfl ?_
    refine zH_br (x := ((sp 1 : Nat) : Int)) (y := (pp : Int)) (k := .ne) (c1 := (27, [some (.inr (.inr (some 104))), some (.inr (.inr (some 109))), some (.inl (pp : Int)), some (.inl 1), some (.inl 1)], [.inl 1], (zs h hl))) (c2 := (23, [some (.inr (.inr (some 104))), some (.inr (.inr (some 109))), some (.inl (pp : Int)), some (.inl 1), some (.inl 1)], [.inl 1], (zs h hl))) rfl (by first | assumption | (unfold zr; omega)) (by first | assumption | (unfold zr; omega)) (fun (b_3 : ¬ ((sp 1 : Nat) : Int) = (pp : Int)) => ?_) (fun (b_3 : ¬ (¬ ((sp 1 : Nat) : Int) = (pp : Int))) => ?_)
    · refine zH_go 8 (c' := (11, [some (.inr (.inr (some 104))), some (.inr (.inr (some 109))), some (.inl (pp : Int)), some (.inl 1), some (.inl 2)], [.inl (h 104 9), .inl 2], (zs h hl))) rfl ?_
      rw [hL]
      refine zH_bt (x := 2) (y := 2) (k := .ge) (c1 := (36, [some (.inr (.inr (some 104))), some (.inr (.inr (some 109))), some (.inl (pp : Int)), some (.inl 1), some (.inl 2)], [], (zs h hl))) (c2 := (14, [some (.inr (.inr (some 104))), some (.inr (.inr (some 109))), some (.inl (pp : Int)), some (.inl 1), some (.inl 2)], [], (zs h hl))) rfl ⟨by decide, by decide⟩ ⟨by decide, by decide⟩ (by show ¬ 2 < 2; decide) ?_
      refine zH_go 1 (c' := (37, [some (.inr (.inr (some 104))), some (.inr (.inr (some 109))), some (.inl (pp : Int)), some (.inl 1), some (.inl 2)], [.inl 1], (zs h hl))) rfl ?_
      refine zH_ret (v := some (.inl 1)) rfl (fun _ => by first | exact Or.inl rfl | exact Or.inr rfl) ?_
      exact Or.inl ⟨rfl, by first | exact ⟨0, by decide, by omega⟩ | exact ⟨1, by decide, by omega⟩ | exact ⟨2, by decide, by omega⟩, rfl⟩
    · refine zH_go 9 (c' := (11, [some (.inr (.inr (some 104))), some (.inr (.inr (some 109))), some (.inl (pp : Int)), some (.inl 1), some (.inl 2)], [.inl (h 104 9), .inl 2], (zs h hl))) rfl ?_
      rw [hL]
      refine zH_bt (x := 2) (y := 2) (k := .ge) (c1 := (36, [some (.inr (.inr (some 104))), some (.inr (.inr (some 109))), some (.inl (pp : Int)), some (.inl 1), some (.inl 2)], [], (zs h hl))) (c2 := (14, [some (.inr (.inr (some 104))), some (.inr (.inr (some 109))), some (.inl (pp : Int)), some (.inl 1), some (.inl 2)], [], (zs h hl))) rfl ⟨by decide, by decide⟩ ⟨by decide, by decide⟩ (by show ¬ 2 < 2; decide) ?_
      refine zH_go 1 (c' := (37, [some (.inr (.inr (some 104))), some (.inr (.inr (some 109))), some (.inl (pp : Int)), some (.inl 1), some (.inl 2)], [.inl 1], (zs h hl))) rfl ?_
      refine zH_ret (v := some (.inl 1)) rfl (fun _ => by first | exact Or.inl rfl | exact Or.inr rfl) ?_
      exact Or.inl ⟨rfl, by first | exact ⟨0, by decide, by omega⟩ | exact ⟨1, by decide, by omega⟩ | exact ⟨2, by decide, by omega⟩, rfl⟩
set_option maxRecDepth 100000 in
set_option maxHeartbeats 4000000 in
theorem p_nrO1093 {d : Nat} {h hl : Nat → Nat → Int} {p pp : Nat} {sp : Nat → Nat} (hpp : pp < p) (hp : p ≤ 6) (hL : h 104 9 = 3) (hsp : ∀ i : Nat, i < 3 → h 109 i = ((sp i : Nat) : Int)) (hs6 : ∀ i : Nat, i < 3 → sp i < p) (hF : zFE h p) (hB : zTB h) : zQ (d + 1) 120 [.inr (.inr (some 104)), .inr (.inr (some 109)), .inl (pp : Int)] (zs h hl) (zPkM (zIs 3 (fun l => h (12 + sp l) pp)) h hl 1) := by
  have s0 := hsp 0 (by decide)
  have s1 := hsp 1 (by decide)
  have s2 := hsp 2 (by decide)
  have t0 := hs6 0 (by decide)
  have t1 := hs6 1 (by decide)
  have t2 := hs6 2 (by decide)
  have F0 : h 108 (6 * sp 0 + pp) = h (12 + sp 0) pp := hF (sp 0) pp t0 hpp
  have F1 : h 108 (6 * sp 1 + pp) = h (12 + sp 1) pp := hF (sp 1) pp t1 hpp
  have F2 : h 108 (6 * sp 2 + pp) = h (12 + sp 2) pp := hF (sp 2) pp t2 hpp
  have d0 := hB (sp 0) pp (by omega) (by omega)
  have d1 := hB (sp 1) pp (by omega) (by omega)
  have d2 := hB (sp 2) pp (by omega) (by omega)
  refine zQ_of (Nat.le_of_ble_eq_true rfl) ?_
  show zH d 120 (0, [some (.inr (.inr (some 104))), some (.inr (.inr (some 109))), some (.inl (pp : Int)), none, none], [], (zs h hl)) _
  refine zH_go 13 (c' := (21, [some (.inr (.inr (some 104))), some (.inr (.inr (some 109))), some (.inl (pp : Int)), some (.inl 0), some (.inl 1)], [.inl (h 104 9), .inl 1], (zs h (zup hl 104 2 ((hl 104 2) + 1))))) rfl ?_
  rw [hL]
  refine zH_bf (x := 1) (y := 3) (k := .ge) (c1 := (67, [some (.inr (.inr (some 104))), some (.inr (.inr (some 109))), some (.inl (pp : Int)), some (.inl 0), some (.inl 1)], [], (zs h (zup hl 104 2 ((hl 104 2) + 1))))) (c2 := (24, [some (.inr (.inr (some 104))), some (.inr (.inr (some 109))), some (.inl (pp : Int)), some (.inl 0), some (.inl 1)], [], (zs h (zup hl 104 2 ((hl 104 2) + 1))))) rfl ⟨by decide, by decide⟩ ⟨by decide, by decide⟩ (by show ¬ (¬ 1 < 3); decide) ?_
  refine zH_go 5 (c' := (33, [some (.inr (.inr (some 104))), some (.inr (.inr (some 109))), some (.inl (pp : Int)), some (.inl 0), some (.inl 1)], [.inl 1, .inr (.inr (some 109)), .inl 6, .inr (.inr (some 108))], (zs h (zup hl 104 2 ((hl 104 2) + 1))))) rfl ?_
  refine zH_np (P := 0 ≤ 1 ∧ 1 < ((3 : Nat) : Int)) (c' := (34, [some (.inr (.inr (some 104))), some (.inr (.inr (some 109))), some (.inl (pp : Int)), some (.inl 0), some (.inl 1)], [.inl (h 109 1), .inl 6, .inr (.inr (some 108))], (zs h (zup hl 104 2 ((hl 104 2) + 1))))) rfl ⟨by decide, by decide⟩ ?_
  rw [s1]
  refine zH_go 3 (c' := (37, [some (.inr (.inr (some 104))), some (.inr (.inr (some 109))), some (.inl (pp : Int)), some (.inl 0), some (.inl 1)], [.inl ((6 * ((sp 1 : Nat) : Int)) + (pp : Int)), .inr (.inr (some 108))], (zs h (zup hl 104 2 ((hl 104 2) + 1))))) rfl ?_
  refine zH_np (P := 0 ≤ ((6 * ((sp 1 : Nat) : Int)) + (pp : Int)) ∧ ((6 * ((sp 1 : Nat) : Int)) + (pp : Int)) < ((36 : Nat) : Int)) (c' := (38, [some (.inr (.inr (some 104))), some (.inr (.inr (some 109))), some (.inl (pp : Int)), some (.inl 0), some (.inl 1)], [.inl (h 108 ((6 * (sp 1)) + pp))], (zs h (zup hl 104 2 ((hl 104 2) + 1))))) rfl ⟨by omega, by omega⟩ ?_
  rw [F1]
  refine zH_go 5 (c' := (46, [some (.inr (.inr (some 104))), some (.inr (.inr (some 109))), some (.inl (pp : Int)), some (.inl 0), some (.inl 1)], [.inl 0, .inr (.inr (some 109)), .inl 6, .inr (.inr (some 108)), .inl (h (12 + sp 1) pp)], (zs h (zup hl 104 2 ((hl 104 2) + 1))))) rfl ?_
  refine zH_np (P := 0 ≤ 0 ∧ 0 < ((3 : Nat) : Int)) (c' := (47, [some (.inr (.inr (some 104))), some (.inr (.inr (some 109))), some (.inl (pp : Int)), some (.inl 0), some (.inl 1)], [.inl (h 109 0), .inl 6, .inr (.inr (some 108)), .inl (h (12 + sp 1) pp)], (zs h (zup hl 104 2 ((hl 104 2) + 1))))) rfl ⟨by decide, by decide⟩ ?_
  rw [s0]
  refine zH_go 3 (c' := (50, [some (.inr (.inr (some 104))), some (.inr (.inr (some 109))), some (.inl (pp : Int)), some (.inl 0), some (.inl 1)], [.inl ((6 * ((sp 0 : Nat) : Int)) + (pp : Int)), .inr (.inr (some 108)), .inl (h (12 + sp 1) pp)], (zs h (zup hl 104 2 ((hl 104 2) + 1))))) rfl ?_
  refine zH_np (P := 0 ≤ ((6 * ((sp 0 : Nat) : Int)) + (pp : Int)) ∧ ((6 * ((sp 0 : Nat) : Int)) + (pp : Int)) < ((36 : Nat) : Int)) (c' := (51, [some (.inr (.inr (some 104))), some (.inr (.inr (some 109))), some (.inl (pp : Int)), some (.inl 0), some (.inl 1)], [.inl (h 108 ((6 * (sp 0)) + pp)), .inl (h (12 + sp 1) pp)], (zs h (zup hl 104 2 ((hl 104 2) + 1))))) rfl ⟨by omega, by omega⟩ ?_
  rw [F0]
  refine zH_br (x := (h (12 + sp 1) pp)) (y := (h (12 + sp 0) pp)) (k := .ge) (c1 := (59, [some (.inr (.inr (some 104))), some (.inr (.inr (some 109))), some (.inl (pp : Int)), some (.inl 0), some (.inl 1)], [], (zs h (zup hl 104 2 ((hl 104 2) + 1))))) (c2 := (54, [some (.inr (.inr (some 104))), some (.inr (.inr (some 109))), some (.inl (pp : Int)), some (.inl 0), some (.inl 1)], [], (zs h (zup hl 104 2 ((hl 104 2) + 1))))) rfl (by first | assumption | (unfold zr; omega)) (by first | assumption | (unfold zr; omega)) (fun (b_1 : ¬ (h (12 + sp 1) pp) < (h (12 + sp 0) pp)) => ?_) (fun (b_1 : ¬ (¬ (h (12 + sp 1) pp) < (h (12 + sp 0) pp))) => ?_)
  · refine zH_go 7 (c' := (21, [some (.inr (.inr (some 104))), some (.inr (.inr (some 109))), some (.inl (pp : Int)), some (.inl 0), some (.inl 2)], [.inl (h 104 9), .inl 2], (zs h (zup hl 104 2 ((hl 104 2) + 1))))) rfl ?_
    rw [hL]
    refine zH_bf (x := 2) (y := 3) (k := .ge) (c1 := (67, [some (.inr (.inr (some 104))), some (.inr (.inr (some 109))), some (.inl (pp : Int)), some (.inl 0), some (.inl 2)], [], (zs h (zup hl 104 2 ((hl 104 2) + 1))))) (c2 := (24, [some (.inr (.inr (some 104))), some (.inr (.inr (some 109))), some (.inl (pp : Int)), some (.inl 0), some (.inl 2)], [], (zs h (zup hl 104 2 ((hl 104 2) + 1))))) rfl ⟨by decide, by decide⟩ ⟨by decide, by decide⟩ (by show ¬ (¬ 2 < 3); decide) ?_
    refine zH_go 5 (c' := (33, [some (.inr (.inr (some 104))), some (.inr (.inr (some 109))), some (.inl (pp : Int)), some (.inl 0), some (.inl 2)], [.inl 2, .inr (.inr (some 109)), .inl 6, .inr (.inr (some 108))], (zs h (zup hl 104 2 ((hl 104 2) + 1))))) rfl ?_
    refine zH_np (P := 0 ≤ 2 ∧ 2 < ((3 : Nat) : Int)) (c' := (34, [some (.inr (.inr (some 104))), some (.inr (.inr (some 109))), some (.inl (pp : Int)), some (.inl 0), some (.inl 2)], [.inl (h 109 2), .inl 6, .inr (.inr (some 108))], (zs h (zup hl 104 2 ((hl 104 2) + 1))))) rfl ⟨by decide, by decide⟩ ?_
    rw [s2]
    refine zH_go 3 (c' := (37, [some (.inr (.inr (some 104))), some (.inr (.inr (some 109))), some (.inl (pp : Int)), some (.inl 0), some (.inl 2)], [.inl ((6 * ((sp 2 : Nat) : Int)) + (pp : Int)), .inr (.inr (some 108))], (zs h (zup hl 104 2 ((hl 104 2) + 1))))) rfl ?_
    refine zH_np (P := 0 ≤ ((6 * ((sp 2 : Nat) : Int)) + (pp : Int)) ∧ ((6 * ((sp 2 : Nat) : Int)) + (pp : Int)) < ((36 : Nat) : Int)) (c' := (38, [some (.inr (.inr (some 104))), some (.inr (.inr (some 109))), some (.inl (pp : Int)), some (.inl 0), some (.inl 2)], [.inl (h 108 ((6 * (sp 2)) + pp))], (zs h (zup hl 104 2 ((hl 104 2) + 1))))) rfl ⟨by omega, by omega⟩ ?_
    rw [F2]
    refine zH_go 5 (c' := (46, [some (.inr (.inr (some 104))), some (.inr (.inr (some 109))), some (.inl (pp : Int)), some (.inl 0), some (.inl 2)], [.inl 0, .inr (.inr (some 109)), .inl 6, .inr (.inr (some 108)), .inl (h (12 + sp 2) pp)], (zs h (zup hl 104 2 ((hl 104 2) + 1))))) rfl ?_
    refine zH_np (P := 0 ≤ 0 ∧ 0 < ((3 : Nat) : Int)) (c' := (47, [some (.inr (.inr (some 104))), some (.inr (.inr (some 109))), some (.inl (pp : Int)), some (.inl 0), some (.inl 2)], [.inl (h 109 0), .inl 6, .inr (.inr (some 108)), .inl (h (12 + sp 2) pp)], (zs h (zup hl 104 2 ((hl 104 2) + 1))))) rfl ⟨by decide, by decide⟩ ?_
    rw [s0]
    refine zH_go 3 (c' := (50, [some (.inr (.inr (some 104))), some (.inr (.inr (some 109))), some (.inl (pp : Int)), some (.inl 0), some (.inl 2)], [.inl ((6 * ((sp 0 : Nat) : Int)) + (pp : Int)), .inr (.inr (some 108)), .inl (h (12 + sp 2) pp)], (zs h (zup hl 104 2 ((hl 104 2) + 1))))) rfl ?_
    refine zH_np (P := 0 ≤ ((6 * ((sp 0 : Nat) : Int)) + (pp : Int)) ∧ ((6 * ((sp 0 : Nat) : Int)) + (pp : Int)) < ((36 : Nat) : Int)) (c' := (51, [some (.inr (.inr (some 104))), some (.inr (.inr (some 109))), some (.inl (pp : Int)), some (.inl 0), some (.inl 2)], [.inl (h 108 ((6 * (sp 0)) + pp)), .inl (h (12 + sp 2) pp)], (zs h (zup hl 104 2 ((hl 104 2) + 1))))) rfl ⟨by omega, by omega⟩ ?_
    rw [F0]
    refine zH_br (x := (h (12 + sp 2) pp)) (y := (h (12 + sp 0) pp)) (k := .ge) (c1 := (59, [some (.inr (.inr (some 104))), some (.inr (.inr (some 109))), some (.inl (pp : Int)), some (.inl 0), some (.inl 2)], [], (zs h (zup hl 104 2 ((hl 104 2) + 1))))) (c2 := (54, [some (.inr (.inr (some 104))), some (.inr (.inr (some 109))), some (.inl (pp : Int)), some (.inl 0), some (.inl 2)], [], (zs h (zup hl 104 2 ((hl 104 2) + 1))))) rfl (by first | assumption | (unfold zr; omega)) (by first | assumption | (unfold zr; omega)) (fun (b_2 : ¬ (h (12 + sp 2) pp) < (h (12 + sp 0) pp)) => ?_) (fun (b_2 : ¬ (¬ (h (12 + sp 2) pp) < (h (12 + sp 0) pp))) => ?_)
    · refine zH_go 7 (c' := (21, [some (.inr (.inr (some 104))), some (.inr (.inr (some 109))), some (.inl (pp : Int)), some (.inl 0), some (.inl 3)], [.inl (h 104 9), .inl 3], (zs h (zup hl 104 2 ((hl 104 2) + 1))))) rfl ?_
      rw [hL]
      refine zH_bt (x := 3) (y := 3) (k := .ge) (c1 := (67, [some (.inr (.inr (some 104))), some (.inr (.inr (some 109))), some (.inl (pp : Int)), some (.inl 0), some (.inl 3)], [], (zs h (zup hl 104 2 ((hl 104 2) + 1))))) (c2 := (24, [some (.inr (.inr (some 104))), some (.inr (.inr (some 109))), some (.inl (pp : Int)), some (.inl 0), some (.inl 3)], [], (zs h (zup hl 104 2 ((hl 104 2) + 1))))) rfl ⟨by decide, by decide⟩ ⟨by decide, by decide⟩ (by show ¬ 3 < 3; decide) ?_
      refine zH_go 1 (c' := (68, [some (.inr (.inr (some 104))), some (.inr (.inr (some 109))), some (.inl (pp : Int)), some (.inl 0), some (.inl 3)], [.inl 0], (zs h (zup hl 104 2 ((hl 104 2) + 1))))) rfl ?_
      refine zH_ret (v := some (.inl 0)) rfl (fun q => absurd q (by decide)) ?_
      refine ⟨0, ?_, rfl, rfl⟩
      unfold zIs
      dsimp only
      omega
    · refine zH_go 8 (c' := (21, [some (.inr (.inr (some 104))), some (.inr (.inr (some 109))), some (.inl (pp : Int)), some (.inl 2), some (.inl 3)], [.inl (h 104 9), .inl 3], (zs h (zup hl 104 2 ((hl 104 2) + 1))))) rfl ?_
      rw [hL]
      refine zH_bt (x := 3) (y := 3) (k := .ge) (c1 := (67, [some (.inr (.inr (some 104))), some (.inr (.inr (some 109))), some (.inl (pp : Int)), some (.inl 2), some (.inl 3)], [], (zs h (zup hl 104 2 ((hl 104 2) + 1))))) (c2 := (24, [some (.inr (.inr (some 104))), some (.inr (.inr (some 109))), some (.inl (pp : Int)), some (.inl 2), some (.inl 3)], [], (zs h (zup hl 104 2 ((hl 104 2) + 1))))) rfl ⟨by decide, by decide⟩ ⟨by decide, by decide⟩ (by show ¬ 3 < 3; decide) ?_
      refine zH_go 1 (c' := (68, [some (.inr (.inr (some 104))), some (.inr (.inr (some 109))), some (.inl (pp : Int)), some (.inl 2), some (.inl 3)], [.inl 2], (zs h (zup hl 104 2 ((hl 104 2) + 1))))) rfl ?_
      refine zH_ret (v := some (.inl 2)) rfl (fun q => absurd q (by decide)) ?_
      refine ⟨2, ?_, rfl, rfl⟩
      unfold zIs
      dsimp only
      omega
  · refine zH_go 8 (c' := (21, [some (.inr (.inr (some 104))), some (.inr (.inr (some 109))), some (.inl (pp : Int)), some (.inl 1), some (.inl 2)], [.inl (h 104 9), .inl 2], (zs h (zup hl 104 2 ((hl 104 2) + 1))))) rfl ?_
    rw [hL]
    refine zH_bf (x := 2) (y := 3) (k := .ge) (c1 := (67, [some (.inr (.inr (some 104))), some (.inr (.inr (some 109))), some (.inl (pp : Int)), some (.inl 1), some (.inl 2)], [], (zs h (zup hl 104 2 ((hl 104 2) + 1))))) (c2 := (24, [some (.inr (.inr (some 104))), some (.inr (.inr (some 109))), some (.inl (pp : Int)), some (.inl 1), some (.inl 2)], [], (zs h (zup hl 104 2 ((hl 104 2) + 1))))) rfl ⟨by decide, by decide⟩ ⟨by decide, by decide⟩ (by show ¬ (¬ 2 < 3); decide) ?_
    refine zH_go 5 (c' := (33, [some (.inr (.inr (some 104))), some (.inr (.inr (some 109))), some (.inl (pp : Int)), some (.inl 1), some (.inl 2)], [.inl 2, .inr (.inr (some 109)), .inl 6, .inr (.inr (some 108))], (zs h (zup hl 104 2 ((hl 104 2) + 1))))) rfl ?_
    refine zH_np (P := 0 ≤ 2 ∧ 2 < ((3 : Nat) : Int)) (c' := (34, [some (.inr (.inr (some 104))), some (.inr (.inr (some 109))), some (.inl (pp : Int)), some (.inl 1), some (.inl 2)], [.inl (h 109 2), .inl 6, .inr (.inr (some 108))], (zs h (zup hl 104 2 ((hl 104 2) + 1))))) rfl ⟨by decide, by decide⟩ ?_
    rw [s2]
    refine zH_go 3 (c' := (37, [some (.inr (.inr (some 104))), some (.inr (.inr (some 109))), some (.inl (pp : Int)), some (.inl 1), some (.inl 2)], [.inl ((6 * ((sp 2 : Nat) : Int)) + (pp : Int)), .inr (.inr (some 108))], (zs h (zup hl 104 2 ((hl 104 2) + 1))))) rfl ?_
    refine zH_np (P := 0 ≤ ((6 * ((sp 2 : Nat) : Int)) + (pp : Int)) ∧ ((6 * ((sp 2 : Nat) : Int)) + (pp : Int)) < ((36 : Nat) : Int)) (c' := (38, [some (.inr (.inr (some 104))), some (.inr (.inr (some 109))), some (.inl (pp : Int)), some (.inl 1), some (.inl 2)], [.inl (h 108 ((6 * (sp 2)) + pp))], (zs h (zup hl 104 2 ((hl 104 2) + 1))))) rfl ⟨by omega, by omega⟩ ?_
    rw [F2]
    refine zH_go 5 (c' := (46, [some (.inr (.inr (some 104))), some (.inr (.inr (some 109))), some (.inl (pp : Int)), some (.inl 1), some (.inl 2)], [.inl 1, .inr (.inr (some 109)), .inl 6, .inr (.inr (some 108)), .inl (h (12 + sp 2) pp)], (zs h (zup hl 104 2 ((hl 104 2) + 1))))) rfl ?_
    refine zH_np (P := 0 ≤ 1 ∧ 1 < ((3 : Nat) : Int)) (c' := (47, [some (.inr (.inr (some 104))), some (.inr (.inr (some 109))), some (.inl (pp : Int)), some (.inl 1), some (.inl 2)], [.inl (h 109 1), .inl 6, .inr (.inr (some 108)), .inl (h (12 + sp 2) pp)], (zs h (zup hl 104 2 ((hl 104 2) + 1))))) rfl ⟨by decide, by decide⟩ ?_
    rw [s1]
    refine zH_go 3 (c' := (50, [some (.inr (.inr (some 104))), some (.inr (.inr (some 109))), some (.inl (pp : Int)), some (.inl 1), some (.inl 2)], [.inl ((6 * ((sp 1 : Nat) : Int)) + (pp : Int)), .inr (.inr (some 108)), .inl (h (12 + sp 2) pp)], (zs h (zup hl 104 2 ((hl 104 2) + 1))))) rfl ?_
    refine zH_np (P := 0 ≤ ((6 * ((sp 1 : Nat) : Int)) + (pp : Int)) ∧ ((6 * ((sp 1 : Nat) : Int)) + (pp : Int)) < ((36 : Nat) : Int)) (c' := (51, [some (.inr (.inr (some 104))), some (.inr (.inr (some 109))), some (.inl (pp : Int)), some (.inl 1), some (.inl 2)], [.inl (h 108 ((6 * (sp 1)) + pp)), .inl (h (12 + sp 2) pp)], (zs h (zup hl 104 2 ((hl 104 2) + 1))))) rfl ⟨by omega, by omega⟩ ?_
    rw [F1]
    refine zH_br (x := (h (12 + sp 2) pp)) (y := (h (12 + sp 1) pp)) (k := .ge) (c1 := (59, [some (.inr (.inr (some 104))), some (.inr (.inr (some 109))), some (.inl (pp : Int)), some (.inl 1), some (.inl 2)], [], (zs h (zup hl 104 2 ((hl 104 2) + 1))))) (c2 := (54, [some (.inr (.inr (some 104))), some (.inr (.inr (some 109))), some (.inl (pp : Int)), some (.inl 1), some (.inl 2)], [], (zs h (zup hl 104 2 ((hl 104 2) + 1))))) rfl (by first | assumption | (unfold zr; omega)) (by first | assumption | (unfold zr; omega)) (fun (b_3 : ¬ (h (12 + sp 2) pp) < (h (12 + sp 1) pp)) => ?_) (fun (b_3 : ¬ (¬ (h (12 + sp 2) pp) < (h (12 + sp 1) pp))) => ?_)
    · refine zH_go 7 (c' := (21, [some (.inr (.inr (some 104))), some (.inr (.inr (some 109))), some (.inl (pp : Int)), some (.inl 1), some (.inl 3)], [.inl (h 104 9), .inl 3], (zs h (zup hl 104 2 ((hl 104 2) + 1))))) rfl ?_
      rw [hL]
      refine zH_bt (x := 3) (y := 3) (k := .ge) (c1 := (67, [some (.inr (.inr (some 104))), some (.inr (.inr (some 109))), some (.inl (pp : Int)), some (.inl 1), some (.inl 3)], [], (zs h (zup hl 104 2 ((hl 104 2) + 1))))) (c2 := (24, [some (.inr (.inr (some 104))), some (.inr (.inr (some 109))), some (.inl (pp : Int)), some (.inl 1), some (.inl 3)], [], (zs h (zup hl 104 2 ((hl 104 2) + 1))))) rfl ⟨by decide, by decide⟩ ⟨by decide, by decide⟩ (by show ¬ 3 < 3; decide) ?_
      refine zH_go 1 (c' := (68, [some (.inr (.inr (some 104))), some (.inr (.inr (some 109))), some (.inl (pp : Int)), some (.inl 1), some (.inl 3)], [.inl 1], (zs h (zup hl 104 2 ((hl 104 2) + 1))))) rfl ?_
      refine zH_ret (v := some (.inl 1)) rfl (fun q => absurd q (by decide)) ?_
      refine ⟨1, ?_, rfl, rfl⟩
      unfold zIs
      dsimp only
      omega
    · refine zH_go 8 (c' := (21, [some (.inr (.inr (some 104))), some (.inr (.inr (some 109))), some (.inl (pp : Int)), some (.inl 2), some (.inl 3)], [.inl (h 104 9), .inl 3], (zs h (zup hl 104 2 ((hl 104 2) + 1))))) rfl ?_
      rw [hL]
      refine zH_bt (x := 3) (y := 3) (k := .ge) (c1 := (67, [some (.inr (.inr (some 104))), some (.inr (.inr (some 109))), some (.inl (pp : Int)), some (.inl 2), some (.inl 3)], [], (zs h (zup hl 104 2 ((hl 104 2) + 1))))) (c2 := (24, [some (.inr (.inr (some 104))), some (.inr (.inr (some 109))), some (.inl (pp : Int)), some (.inl 2), some (.inl 3)], [], (zs h (zup hl 104 2 ((hl 104 2) + 1))))) rfl ⟨by decide, by decide⟩ ⟨by decide, by decide⟩ (by show ¬ 3 < 3; decide) ?_
      refine zH_go 1 (c' := (68, [some (.inr (.inr (some 104))), some (.inr (.inr (some 109))), some (.inl (pp : Int)), some (.inl 2), some (.inl 3)], [.inl 2], (zs h (zup hl 104 2 ((hl 104 2) + 1))))) rfl ?_
      refine zH_ret (v := some (.inl 2)) rfl (fun q => absurd q (by decide)) ?_
      refine ⟨2, ?_, rfl, rfl⟩
      unfold zIs
      dsimp only
      omega
set_option maxRecDepth 100000 in
set_option maxHeartbeats 4000000 in
theorem p_thO1093 {d : Nat} {h hl : Nat → Nat → Int} {p pp : Nat} {sp : Nat → Nat} (hpp : pp < p) (hp : p ≤ 6) (hL : h 104 9 = 3) (hsp : ∀ i : Nat, i < 3 → h 109 i = ((sp i : Nat) : Int)) (hs6 : ∀ i : Nat, i < 3 → sp i < p) (hF : zFE h p) (hB : zTB h) : zQ (d + 1) 121 [.inr (.inr (some 104)), .inr (.inr (some 109)), .inl (pp : Int)] (zs h hl) (zB (zCov 3 sp pp) (zs h hl)) := by
  have s0 := hsp 0 (by decide)
  have s1 := hsp 1 (by decide)
  have s2 := hsp 2 (by decide)
  have t0 := hs6 0 (by decide)
  have t1 := hs6 1 (by decide)
  have t2 := hs6 2 (by decide)
  have F0 : h 108 (6 * sp 0 + pp) = h (12 + sp 0) pp := hF (sp 0) pp t0 hpp
  have F1 : h 108 (6 * sp 1 + pp) = h (12 + sp 1) pp := hF (sp 1) pp t1 hpp
  have F2 : h 108 (6 * sp 2 + pp) = h (12 + sp 2) pp := hF (sp 2) pp t2 hpp
  have d0 := hB (sp 0) pp (by omega) (by omega)
  have d1 := hB (sp 1) pp (by omega) (by omega)
  have d2 := hB (sp 2) pp (by omega) (by omega)
  refine zQ_of (Nat.le_of_ble_eq_true rfl) ?_
  show zH d 121 (0, [some (.inr (.inr (some 104))), some (.inr (.inr (some 109))), some (.inl (pp : Int)), none, none], [], (zs h hl)) _
  refine zH_go 7 (c' := (11, [some (.inr (.inr (some 104))), some (.inr (.inr (some 109))), some (.inl (pp : Int)), some (.inl 0), some (.inl 0)], [.inl (h 104 9), .inl 0], (zs h hl))) rfl ?_
  rw [hL]
  refine zH_bf (x := 0) (y := 3) (k := .ge) (c1 := (36, [some (.inr (.inr (some 104))), some (.inr (.inr (some 109))), some (.inl (pp : Int)), some (.inl 0), some (.inl 0)], [], (zs h hl))) (c2 := (14, [some (.inr (.inr (some 104))), some (.inr (.inr (some 109))), some (.inl (pp : Int)), some (.inl 0), some (.inl 0)], [], (zs h hl))) rfl ⟨by decide, by decide⟩ ⟨by decide, by decide⟩ (by show ¬ (¬ 0 < 3); decide) ?_
  refine zH_go 3 (c' := (18, [some (.inr (.inr (some 104))), some (.inr (.inr (some 109))), some (.inl (pp : Int)), some (.inl 0), some (.inl 0)], [.inl 0, .inr (.inr (some 109)), .inl 0], (zs h hl))) rfl ?_
  refine zH_np (P := 0 ≤ 0 ∧ 0 < ((3 : Nat) : Int)) (c' := (19, [some (.inr (.inr (some 104))), some (.inr (.inr (some 109))), some (.inl (pp : Int)), some (.inl 0), some (.inl 0)], [.inl (h 109 0), .inl 0], (zs h hl))) rfl ⟨by decide, by decide⟩ ?_
  rw [s0]
  refine zH_go 1 (c' := (20, [some (.inr (.inr (some 104))), some (.inr (.inr (some 109))), some (.inl (pp : Int)), some (.inl 0), some (.inl 0)], [.inl (pp : Int), .inl ((sp 0 : Nat) : Int), .inl 0], (zs h hl))) rfl ?_
  refine zH_br (x := ((sp 0 : Nat) : Int)) (y := (pp : Int)) (k := .ne) (c1 := (27, [some (.inr (.inr (some 104))), some (.inr (.inr (some 109))), some (.inl (pp : Int)), some (.inl 0), some (.inl 0)], [.inl 0], (zs h hl))) (c2 := (23, [some (.inr (.inr (some 104))), some (.inr (.inr (some 109))), some (.inl (pp : Int)), some (.inl 0), some (.inl 0)], [.inl 0], (zs h hl))) rfl (by first | assumption | (unfold zr; omega)) (by first | assumption | (unfold zr; omega)) (fun (b_1 : ¬ ((sp 0 : Nat) : Int) = (pp : Int)) => ?_) (fun (b_1 : ¬ (¬ ((sp 0 : Nat) : Int) = (pp : Int))) => ?_)
  · refine zH_go 8 (c' := (11, [some (.inr (.inr (some 104))), some (.inr (.inr (some 109))), some (.inl (pp : Int)), some (.inl 0), some (.inl 1)], [.inl (h 104 9), .inl 1], (zs h hl))) rfl ?_
    rw [hL]
    refine zH_bf (x := 1) (y := 3) (k := .ge) (c1 := (36, [some (.inr (.inr (some 104))), some (.inr (.inr (some 109))), some (.inl (pp : Int)), some (.inl 0), some (.inl 1)], [], (zs h hl))) (c2 := (14, [some (.inr (.inr (some 104))), some (.inr (.inr (some 109))), some (.inl (pp : Int)), some (.inl 0), some (.inl 1)], [], (zs h hl))) rfl ⟨by decide, by decide⟩ ⟨by decide, by decide⟩ (by show ¬ (¬ 1 < 3); decide) ?_
    refine zH_go 3 (c' := (18, [some (.inr (.inr (some 104))), some (.inr (.inr (some 109))), some (.inl (pp : Int)), some (.inl 0), some (.inl 1)], [.inl 1, .inr (.inr (some 109)), .inl 0], (zs h hl))) rfl ?_
    refine zH_np (P := 0 ≤ 1 ∧ 1 < ((3 : Nat) : Int)) (c' := (19, [some (.inr (.inr (some 104))), some (.inr (.inr (some 109))), some (.inl (pp : Int)), some (.inl 0), some (.inl 1)], [.inl (h 109 1), .inl 0], (zs h hl))) rfl ⟨by decide, by decide⟩ ?_
    rw [s1]
    refine zH_go 1 (c' := (20, [some (.inr (.inr (some 104))), some (.inr (.inr (some 109))), some (.inl (pp : Int)), some (.inl 0), some (.inl 1)], [.inl (pp : Int), .inl ((sp 1 : Nat) : Int), .inl 0], (zs h hl))) rfl ?_
    refine zH_br (x := ((sp 1 : Nat) : Int)) (y := (pp : Int)) (k := .ne) (c1 := (27, [some (.inr (.inr (some 104))), some (.inr (.inr (some 109))), some (.inl (pp : Int)), some (.inl 0), some (.inl 1)], [.inl 0], (zs h hl))) (c2 := (23, [some (.inr (.inr (some 104))), some (.inr (.inr (some 109))), some (.inl (pp : Int)), some (.inl 0), some (.inl 1)], [.inl 0], (zs h hl))) rfl (by first | assumption | (unfold zr; omega)) (by first | assumption | (unfold zr; omega)) (fun (b_2 : ¬ ((sp 1 : Nat) : Int) = (pp : Int)) => ?_) (fun (b_2 : ¬ (¬ ((sp 1 : Nat) : Int) = (pp : Int))) => ?_)
    · refine zH_go 8 (c' := (11, [some (.inr (.inr (some 104))), some (.inr (.inr (some 109))), some (.inl (pp : Int)), some (.inl 0), some (.inl 2)], [.inl (h 104 9), .inl 2], (zs h hl))) rfl ?_
      rw [hL]
      refine zH_bf (x := 2) (y := 3) (k := .ge) (c1 := (36, [some (.inr (.inr (some 104))), some (.inr (.inr (some 109))), some (.inl (pp : Int)), some (.inl 0), some (.inl 2)], [], (zs h hl))) (c2 := (14, [some (.inr (.inr (some 104))), some (.inr (.inr (some 109))), some (.inl (pp : Int)), some (.inl 0), some (.inl 2)], [], (zs h hl))) rfl ⟨by decide, by decide⟩ ⟨by decide, by decide⟩ (by show ¬ (¬ 2 < 3); decide) ?_
      refine zH_go 3 (c' := (18, [some (.inr (.inr (some 104))), some (.inr (.inr (some 109))), some (.inl (pp : Int)), some (.inl 0), some (.inl 2)], [.inl 2, .inr (.inr (some 109)), .inl 0], (zs h hl))) rfl ?_
      refine zH_np (P := 0 ≤ 2 ∧ 2 < ((3 : Nat) : Int)) (c' := (19, [some (.inr (.inr (some 104))), some (.inr (.inr (some 109))), some (.inl (pp : Int)), some (.inl 0), some (.inl 2)], [.inl (h 109 2), .inl 0], (zs h hl))) rfl ⟨by decide, by decide⟩ ?_
      rw [s2]
      refine zH_go 1 (c' := (20, [some (.inr (.inr (some 104))), some (.inr (.inr (some 109))), some (.inl (pp : Int)), some (.inl 0), some (.inl 2)], [.inl (pp : Int), .inl ((sp 2 : Nat) : Int), .inl 0], (zs h hl))) rfl ?_
      refine zH_br (x := ((sp 2 : Nat) : Int)) (y := (pp : Int)) (k := .ne) (c1 := (27, [some (.inr (.inr (some 104))), some (.inr (.inr (some 109))), some (.inl (pp : Int)), some (.inl 0), some (.inl 2)], [.inl 0], (zs h hl))) (c2 := (23, [some (.inr (.inr (some 104))), some (.inr (.inr (some 109))), some (.inl (pp : Int)), some (.inl 0), some (.inl 2)], [.inl 0], (zs h hl))) rfl (by first | assumption | (unfold zr; omega)) (by first | assumption | (unfold zr; omega)) (fun (b_3 : ¬ ((sp 2 : Nat) : Int) = (pp : Int)) => ?_) (fun (b_3 : ¬ (¬ ((sp 2 : Nat) : Int) = (pp : Int))) => ?_)
      · refine zH_go 8 (c' := (11, [some (.inr (.inr (some 104))), some (.inr (.inr (some 109))), some (.inl (pp : Int)), some (.inl 0), some (.inl 3)], [.inl (h 104 9), .inl 3], (zs h hl))) rfl ?_
        rw [hL]
        refine zH_bt (x := 3) (y := 3) (k := .ge) (c1 := (36, [some (.inr (.inr (some 104))), some (.inr (.inr (some 109))), some (.inl (pp : Int)), some (.inl 0), some (.inl 3)], [], (zs h hl))) (c2 := (14, [some (.inr (.inr (some 104))), some (.inr (.inr (some 109))), some (.inl (pp : Int)), some (.inl 0), some (.inl 3)], [], (zs h hl))) rfl ⟨by decide, by decide⟩ ⟨by decide, by decide⟩ (by show ¬ 3 < 3; decide) ?_
        refine zH_go 1 (c' := (37, [some (.inr (.inr (some 104))), some (.inr (.inr (some 109))), some (.inl (pp : Int)), some (.inl 0), some (.inl 3)], [.inl 0], (zs h hl))) rfl ?_
        refine zH_ret (v := some (.inl 0)) rfl (fun _ => by first | exact Or.inl rfl | exact Or.inr rfl) ?_
        refine Or.inr ⟨rfl, fun ⟨i, q1, q2⟩ => ?_, rfl⟩
        rcases (show i = 0 ∨ i = 1 ∨ i = 2 by omega) with rfl | rfl | rfl <;> omega
      · refine zH_go 9 (c' := (11, [some (.inr (.inr (some 104))), some (.inr (.inr (some 109))), some (.inl (pp : Int)), some (.inl 1), some (.inl 3)], [.inl (h 104 9), .inl 3], (zs h hl))) rfl ?_
        rw [hL]
        refine zH_bt (x := 3) (y := 3) (k := .ge) (c1 := (36, [some (.inr (.inr (some 104))), some (.inr (.inr (some 109))), some (.inl (pp : Int)), some (.inl 1), some (.inl 3)], [], (zs h hl))) (c2 := (14, [some (.inr (.inr (some 104))), some (.inr (.inr (some 109))), some (.inl (pp : Int)), some (.inl 1), some (.inl 3)], [], (zs h hl))) rfl ⟨by decide, by decide⟩ ⟨by decide, by decide⟩ (by show ¬ 3 < 3; decide) ?_
        refine zH_go 1 (c' := (37, [some (.inr (.inr (some 104))), some (.inr (.inr (some 109))), some (.inl (pp : Int)), some (.inl 1), some (.inl 3)], [.inl 1], (zs h hl))) rfl ?_
        refine zH_ret (v := some (.inl 1)) rfl (fun _ => by first | exact Or.inl rfl | exact Or.inr rfl) ?_
        exact Or.inl ⟨rfl, by first | exact ⟨0, by decide, by omega⟩ | exact ⟨1, by decide, by omega⟩ | exact ⟨2, by decide, by omega⟩, rfl⟩
    · refine zH_go 9 (c' := (11, [some (.inr (.inr (some 104))), some (.inr (.inr (some 109))), some (.inl (pp : Int)), some (.inl 1), some (.inl 2)], [.inl (h 104 9), .inl 2], (zs h hl))) rfl ?_
      rw [hL]
      refine zH_bf (x := 2) (y := 3) (k := .ge) (c1 := (36, [some (.inr (.inr (some 104))), some (.inr (.inr (some 109))), some (.inl (pp : Int)), some (.inl 1), some (.inl 2)], [], (zs h hl))) (c2 := (14, [some (.inr (.inr (some 104))), some (.inr (.inr (some 109))), some (.inl (pp : Int)), some (.inl 1), some (.inl 2)], [], (zs h hl))) rfl ⟨by decide, by decide⟩ ⟨by decide, by decide⟩ (by show ¬ (¬ 2 < 3); decide) ?_
      refine zH_go 3 (c' := (18, [some (.inr (.inr (some 104))), some (.inr (.inr (some 109))), some (.inl (pp : Int)), some (.inl 1), some (.inl 2)], [.inl 2, .inr (.inr (some 109)), .inl 1], (zs h hl))) rfl ?_
      refine zH_np (P := 0 ≤ 2 ∧ 2 < ((3 : Nat) : Int)) (c' := (19, [some (.inr (.inr (some 104))), some (.inr (.inr (some 109))), some (.inl (pp : Int)), some (.inl 1), some (.inl 2)], [.inl (h 109 2), .inl 1], (zs h hl))) rfl ⟨by decide, by decide⟩ ?_
      rw [s2]
      refine zH_go 1 (c' := (20, [some (.inr (.inr (some 104))), some (.inr (.inr (some 109))), some (.inl (pp : Int)), some (.inl 1), some (.inl 2)], [.inl (pp : Int), .inl ((sp 2 : Nat) : Int), .inl 1], (zs h hl))) rfl ?_
      refine zH_br (x := ((sp 2 : Nat) : Int)) (y := (pp : Int)) (k := .ne) (c1 := (27, [some (.inr (.inr (some 104))), some (.inr (.inr (some 109))), some (.inl (pp : Int)), some (.inl 1), some (.inl 2)], [.inl 1], (zs h hl))) (c2 := (23, [some (.inr (.inr (some 104))), some (.inr (.inr (some 109))), some (.inl (pp : Int)), some (.inl 1), some (.inl 2)], [.inl 1], (zs h hl))) rfl (by first | assumption | (unfold zr; omega)) (by first | assumption | (unfold zr; omega)) (fun (b_4 : ¬ ((sp 2 : Nat) : Int) = (pp : Int)) => ?_) (fun (b_4 : ¬ (¬ ((sp 2 : Nat) : Int) = (pp : Int))) => ?_)
      · refine zH_go 8 (c' := (11, [some (.inr (.inr (some 104))), some (.inr (.inr (some 109))), some (.inl (pp : Int)), some (.inl 1), some (.inl 3)], [.inl (h 104 9), .inl 3], (zs h hl))) rfl ?_
        rw [hL]
        refine zH_bt (x := 3) (y := 3) (k := .ge) (c1 := (36, [some (.inr (.inr (some 104))), some (.inr (.inr (some 109))), some (.inl (pp : Int)), some (.inl 1), some (.inl 3)], [], (zs h hl))) (c2 := (14, [some (.inr (.inr (some 104))), some (.inr (.inr (some 109))), some (.inl (pp : Int)), some (.inl 1), some (.inl 3)], [], (zs h hl))) rfl ⟨by decide, by decide⟩ ⟨by decide, by decide⟩ (by show ¬ 3 < 3; decide) ?_
        refine zH_go 1 (c' := (37, [some (.inr (.inr (some 104))), some (.inr (.inr (some 109))), some (.inl (pp : Int)), some (.inl 1), some (.inl 3)], [.inl 1], (zs h hl))) rfl ?_
        refine zH_ret (v := some (.inl 1)) rfl (fun _ => by first | exact Or.inl rfl | exact Or.inr rfl) ?_
        exact Or.inl ⟨rfl, by first | exact ⟨0, by decide, by omega⟩ | exact ⟨1, by decide, by omega⟩ | exact ⟨2, by decide, by omega⟩, rfl⟩
      · refine zH_go 9 (c' := (11, [some (.inr (.inr (some 104))), some (.inr (.inr (some 109))), some (.inl (pp : Int)), some (.inl 1), some (.inl 3)], [.inl (h 104 9), .inl 3], (zs h hl))) rfl ?_
        rw [hL]
        refine zH_bt (x := 3) (y := 3) (k := .ge) (c1 := (36, [some (.inr (.inr (some 104))), some (.inr (.inr (some 109))), some (.inl (pp : Int)), some (.inl 1), some (.inl 3)], [], (zs h hl))) (c2 := (14, [some (.inr (.inr (some 104))), some (.inr (.inr (some 109))), some (.inl (pp : Int)), some (.inl 1), some (.inl 3)], [], (zs h hl))) rfl ⟨by decide, by decide⟩ ⟨by decide, by decide⟩ (by show ¬ 3 < 3; decide) ?_
        refine zH_go 1 (c' := (37, [some (.inr (.inr (some 104))), some (.inr (.inr (some 109))), some (.inl (pp : Int)), some (.inl 1), some (.inl 3)], [.inl 1], (zs h hl))) rfl ?_
        refine zH_ret (v := some (.inl 1)) rfl (fun _ => by first | exact Or.inl rfl | exact Or.inr rfl) ?_
        exact Or.inl ⟨rfl, by first | exact ⟨0, by decide, by omega⟩ | exact ⟨1, by decide, by omega⟩ | exact ⟨2, by decide, by omega⟩, rfl⟩
  · refine zH_go 9 (c' := (11, [some (.inr (.inr (some 104))), some (.inr (.inr (some 109))), some (.inl (pp : Int)), some (.inl 1), some (.inl 1)], [.inl (h 104 9), .inl 1], (zs h hl))) rfl ?_
    rw [hL]
    refine zH_bf (x := 1) (y := 3) (k := .ge) (c1 := (36, [some (.inr (.inr (some 104))), some (.inr (.inr (some 109))), some (.inl (pp : Int)), some (.inl 1), some (.inl 1)], [], (zs h hl))) (c2 := (14, [some (.inr (.inr (some 104))), some (.inr (.inr (some 109))), some (.inl (pp : Int)), some (.inl 1), some (.inl 1)], [], (zs h hl))) rfl ⟨by decide, by decide⟩ ⟨by decide, by decide⟩ (by show ¬ (¬ 1 < 3); decide) ?_
    refine zH_go 3 (c' := (18, [some (.inr (.inr (some 104))), some (.inr (.inr (some 109))), some (.inl (pp : Int)), some (.inl 1), some (.inl 1)], [.inl 1, .inr (.inr (some 109)), .inl 1], (zs h hl))) rfl ?_
    refine zH_np (P := 0 ≤ 1 ∧ 1 < ((3 : Nat) : Int)) (c' := (19, [some (.inr (.inr (some 104))), some (.inr (.inr (some 109))), some (.inl (pp : Int)), some (.inl 1), some (.inl 1)], [.inl (h 109 1), .inl 1], (zs h hl))) rfl ⟨by decide, by decide⟩ ?_
    rw [s1]
    refine zH_go 1 (c' := (20, [some (.inr (.inr (some 104))), some (.inr (.inr (some 109))), some (.inl (pp : Int)), some (.inl 1), some (.inl 1)], [.inl (pp : Int), .inl ((sp 1 : Nat) : Int), .inl 1], (zs h hl))) rfl ?_
    refine zH_br (x := ((sp 1 : Nat) : Int)) (y := (pp : Int)) (k := .ne) (c1 := (27, [some (.inr (.inr (some 104))), some (.inr (.inr (some 109))), some (.inl (pp : Int)), some (.inl 1), some (.inl 1)], [.inl 1], (zs h hl))) (c2 := (23, [some (.inr (.inr (some 104))), some (.inr (.inr (some 109))), some (.inl (pp : Int)), some (.inl 1), some (.inl 1)], [.inl 1], (zs h hl))) rfl (by first | assumption | (unfold zr; omega)) (by first | assumption | (unfold zr; omega)) (fun (b_5 : ¬ ((sp 1 : Nat) : Int) = (pp : Int)) => ?_) (fun (b_5 : ¬ (¬ ((sp 1 : Nat) : Int) = (pp : Int))) => ?_)
    · refine zH_go 8 (c' := (11, [some (.inr (.inr (some 104))), some (.inr (.inr (some 109))), some (.inl (pp : Int)), some (.inl 1), some (.inl 2)], [.inl (h 104 9), .inl 2], (zs h hl))) rfl ?_
      rw [hL]
      refine zH_bf (x := 2) (y := 3) (k := .ge) (c1 := (36, [some (.inr (.inr (some 104))), some (.inr (.inr (some 109))), some (.inl (pp : Int)), some (.inl 1), some (.inl 2)], [], (zs h hl))) (c2 := (14, [some (.inr (.inr (some 104))), some (.inr (.inr (some 109))), some (.inl (pp : Int)), some (.inl 1), some (.inl 2)], [], (zs h hl))) rfl ⟨by decide, by decide⟩ ⟨by decide, by decide⟩ (by show ¬ (¬ 2 < 3); decide) ?_
      refine zH_go 3 (c' := (18, [some (.inr (.inr (some 104))), some (.inr (.inr (some 109))), some (.inl (pp : Int)), some (.inl 1), some (.inl 2)], [.inl 2, .inr (.inr (some 109)), .inl 1], (zs h hl))) rfl ?_
      refine zH_np (P := 0 ≤ 2 ∧ 2 < ((3 : Nat) : Int)) (c' := (19, [some (.inr (.inr (some 104))), some (.inr (.inr (some 109))), some (.inl (pp : Int)), some (.inl 1), some (.inl 2)], [.inl (h 109 2), .inl 1], (zs h hl))) rfl ⟨by decide, by decide⟩ ?_
      rw [s2]
      refine zH_go 1 (c' := (20, [some (.inr (.inr (some 104))), some (.inr (.inr (some 109))), some (.inl (pp : Int)), some (.inl 1), some (.inl 2)], [.inl (pp : Int), .inl ((sp 2 : Nat) : Int), .inl 1], (zs h hl))) rfl ?_
      refine zH_br (x := ((sp 2 : Nat) : Int)) (y := (pp : Int)) (k := .ne) (c1 := (27, [some (.inr (.inr (some 104))), some (.inr (.inr (some 109))), some (.inl (pp : Int)), some (.inl 1), some (.inl 2)], [.inl 1], (zs h hl))) (c2 := (23, [some (.inr (.inr (some 104))), some (.inr (.inr (some 109))), some (.inl (pp : Int)), some (.inl 1), some (.inl 2)], [.inl 1], (zs h hl))) rfl (by first | assumption | (unfold zr; omega)) (by first | assumption | (unfold zr; omega)) (fun (b_6 : ¬ ((sp 2 : Nat) : Int) = (pp : Int)) => ?_) (fun (b_6 : ¬ (¬ ((sp 2 : Nat) : Int) = (pp : Int))) => ?_)
      · refine zH_go 8 (c' := (11, [some (.inr (.inr (some 104))), some (.inr (.inr (some 109))), some (.inl (pp : Int)), some (.inl 1), some (.inl 3)], [.inl (h 104 9), .inl 3], (zs h hl))) rfl ?_
        rw [hL]
        refine zH_bt (x := 3) (y := 3) (k := .ge) (c1 := (36, [some (.inr (.inr (some 104))), some (.inr (.inr (some 109))), some (.inl (pp : Int)), some (.inl 1), some (.inl 3)], [], (zs h hl))) (c2 := (14, [some (.inr (.inr (some 104))), some (.inr (.inr (some 109))), some (.inl (pp : Int)), some (.inl 1), some (.inl 3)], [], (zs h hl))) rfl ⟨by decide, by decide⟩ ⟨by decide, by decide⟩ (by show ¬ 3 < 3; decide) ?_
        refine zH_go 1 (c' := (37, [some (.inr (.inr (some 104))), some (.inr (.inr (some 109))), some (.inl (pp : Int)), some (.inl 1), some (.inl 3)], [.inl 1], (zs h hl))) rfl ?_
        refine zH_ret (v := some (.inl 1)) rfl (fun _ => by first | exact Or.inl rfl | exact Or.inr rfl) ?_
        exact Or.inl ⟨rfl, by first | exact ⟨0, by decide, by omega⟩ | exact ⟨1, by decide, by omega⟩ | exact ⟨2, by decide, by omega⟩, rfl⟩
      · refine zH_go 9 (c' := (11, [some (.inr (.inr (some 104))), some (.inr (.inr (some 109))), some (.inl (pp : Int)), some (.inl 1), some (.inl 3)], [.inl (h 104 9), .inl 3], (zs h hl))) rfl ?_
        rw [hL]
        refine zH_bt (x := 3) (y := 3) (k := .ge) (c1 := (36, [some (.inr (.inr (some 104))), some (.inr (.inr (some 109))), some (.inl (pp : Int)), some (.inl 1), some (.inl 3)], [], (zs h hl))) (c2 := (14, [some (.inr (.inr (some 104))), some (.inr (.inr (some 109))), some (.inl (pp : Int)), some (.inl 1), some (.inl 3)], [], (zs h hl))) rfl ⟨by decide, by decide⟩ ⟨by decide, by decide⟩ (by show ¬ 3 < 3; decide) ?_
        refine zH_go 1 (c' := (37, [some (.inr (.inr (some 104))), some (.inr (.inr (some 109))), some (.inl (pp : Int)), some (.inl 1), some (.inl 3)], [.inl 1], (zs h hl))) rfl ?_
        refine zH_ret (v := some (.inl 1)) rfl (fun _ => by first | exact Or.inl rfl | exact Or.inr rfl) ?_
        exact Or.inl ⟨rfl, by first | exact ⟨0, by decide, by omega⟩ | exact ⟨1, by decide, by omega⟩ | exact ⟨2, by decide, by omega⟩, rfl⟩
    · refine zH_go 9 (c' := (11, [some (.inr (.inr (some 104))), some (.inr (.inr (some 109))), some (.inl (pp : Int)), some (.inl 1), some (.inl 2)], [.inl (h 104 9), .inl 2], (zs h hl))) rfl ?_
      rw [hL]
      refine zH_bf (x := 2) (y := 3) (k := .ge) (c1 := (36, [some (.inr (.inr (some 104))), some (.inr (.inr (some 109))), some (.inl (pp : Int)), some (.inl 1), some (.inl 2)], [], (zs h hl))) (c2 := (14, [some (.inr (.inr (some 104))), some (.inr (.inr (some 109))), some (.inl (pp : Int)), some (.inl 1), some (.inl 2)], [], (zs h hl))) rfl ⟨by decide, by decide⟩ ⟨by decide, by decide⟩ (by show ¬ (¬ 2 < 3); decide) ?_
      refine zH_go 3 (c' := (18, [some (.inr (.inr (some 104))), some (.inr (.inr (some 109))), some (.inl (pp : Int)), some (.inl 1), some (.inl 2)], [.inl 2, .inr (.inr (some 109)), .inl 1], (zs h hl))) rfl ?_
      refine zH_np (P := 0 ≤ 2 ∧ 2 < ((3 : Nat) : Int)) (c' := (19, [some (.inr (.inr (some 104))), some (.inr (.inr (some 109))), some (.inl (pp : Int)), some (.inl 1), some (.inl 2)], [.inl (h 109 2), .inl 1], (zs h hl))) rfl ⟨by decide, by decide⟩ ?_
      rw [s2]
      refine zH_go 1 (c' := (20, [some (.inr (.inr (some 104))), some (.inr (.inr (some 109))), some (.inl (pp : Int)), some (.inl 1), some (.inl 2)], [.inl (pp : Int), .inl ((sp 2 : Nat) : Int), .inl 1], (zs h hl))) rfl ?_
      refine zH_br (x := ((sp 2 : Nat) : Int)) (y := (pp : Int)) (k := .ne) (c1 := (27, [some (.inr (.inr (some 104))), some (.inr (.inr (some 109))), some (.inl (pp : Int)), some (.inl 1), some (.inl 2)], [.inl 1], (zs h hl))) (c2 := (23, [some (.inr (.inr (some 104))), some (.inr (.inr (some 109))), some (.inl (pp : Int)), some (.inl 1), some (.inl 2)], [.inl 1], (zs h hl))) rfl (by first | assumption | (unfold zr; omega)) (by first | assumption | (unfold zr; omega)) (fun (b_7 : ¬ ((sp 2 : Nat) : Int) = (pp : Int)) => ?_) (fun (b_7 : ¬ (¬ ((sp 2 : Nat) : Int) = (pp : Int))) => ?_)
      · refine zH_go 8 (c' := (11, [some (.inr (.inr (some 104))), some (.inr (.inr (some 109))), some (.inl (pp : Int)), some (.inl 1), some (.inl 3)], [.inl (h 104 9), .inl 3], (zs h hl))) rfl ?_
        rw [hL]
        refine zH_bt (x := 3) (y := 3) (k := .ge) (c1 := (36, [some (.inr (.inr (some 104))), some (.inr (.inr (some 109))), some (.inl (pp : Int)), some (.inl 1), some (.inl 3)], [], (zs h hl))) (c2 := (14, [some (.inr (.inr (some 104))), some (.inr (.inr (some 109))), some (.inl (pp : Int)), some (.inl 1), some (.inl 3)], [], (zs h hl))) rfl ⟨by decide, by decide⟩ ⟨by decide, by decide⟩ (by show ¬ 3 < 3; decide) ?_
        refine zH_go 1 (c' := (37, [some (.inr (.inr (some 104))), some (.inr (.inr (some 109))), some (.inl (pp : Int)), some (.inl 1), some (.inl 3)], [.inl 1], (zs h hl))) rfl ?_
        refine zH_ret (v := some (.inl 1)) rfl (fun _ => by first | exact Or.inl rfl | exact Or.inr rfl) ?_
        exact Or.inl ⟨rfl, by first | exact ⟨0, by decide, by omega⟩ | exact ⟨1, by decide, by omega⟩ | exact ⟨2, by decide, by omega⟩, rfl⟩
      · refine zH_go 9 (c' := (11, [some (.inr (.inr (some 104))), some (.inr (.inr (some 109))), some (.inl (pp : Int)), some (.inl 1), some (.inl 3)], [.inl (h 104 9), .inl 3], (zs h hl))) rfl ?_
        rw [hL]
        refine zH_bt (x := 3) (y := 3) (k := .ge) (c1 := (36, [some (.inr (.inr (some 104))), some (.inr (.inr (some 109))), some (.inl (pp : Int)), some (.inl 1), some (.inl 3)], [], (zs h hl))) (c2 := (14, [some (.inr (.inr (some 104))), some (.inr (.inr (some 109))), some (.inl (pp : Int)), some (.inl 1), some (.inl 3)], [], (zs h hl))) rfl ⟨by decide, by decide⟩ ⟨by decide, by decide⟩ (by show ¬ 3 < 3; decide) ?_
        refine zH_go 1 (c' := (37, [some (.inr (.inr (some 104))), some (.inr (.inr (some 109))), some (.inl (pp : Int)), some (.inl 1), some (.inl 3)], [.inl 1], (zs h hl))) rfl ?_
        refine zH_ret (v := some (.inl 1)) rfl (fun _ => by first | exact Or.inl rfl | exact Or.inr rfl) ?_
        exact Or.inl ⟨rfl, by first | exact ⟨0, by decide, by omega⟩ | exact ⟨1, by decide, by omega⟩ | exact ⟨2, by decide, by omega⟩, rfl⟩
theorem p_nrO109 {d : Nat} {h hl : Nat → Nat → Int} {L : Nat} (hL3 : 1 ≤ L ∧ L ≤ 3) {p pp : Nat} {sp : Nat → Nat} (hpp : pp < p) (hp : p ≤ 6) (hL : h 104 9 = (L : Int)) (hsp : ∀ i : Nat, i < L → h 109 i = ((sp i : Nat) : Int)) (hs6 : ∀ i : Nat, i < L → sp i < p) (hF : zFE h p) (hB : zTB h) : zQ (d + 1) 120 [.inr (.inr (some 104)), .inr (.inr (some 109)), .inl (pp : Int)] (zs h hl) (zPkM (zIs L (fun l => h (12 + sp l) pp)) h hl 1) := by
  rcases (show L = 1 ∨ L = 2 ∨ L = 3 by omega) with rfl | rfl | rfl
  · exact p_nrO1091 hpp hp hL hsp hs6 hF hB
  · exact p_nrO1092 hpp hp hL hsp hs6 hF hB
  · exact p_nrO1093 hpp hp hL hsp hs6 hF hB
theorem p_thO109 {d : Nat} {h hl : Nat → Nat → Int} {L : Nat} (hL3 : 1 ≤ L ∧ L ≤ 3) {p pp : Nat} {sp : Nat → Nat} (hpp : pp < p) (hp : p ≤ 6) (hL : h 104 9 = (L : Int)) (hsp : ∀ i : Nat, i < L → h 109 i = ((sp i : Nat) : Int)) (hs6 : ∀ i : Nat, i < L → sp i < p) (hF : zFE h p) (hB : zTB h) : zQ (d + 1) 121 [.inr (.inr (some 104)), .inr (.inr (some 109)), .inl (pp : Int)] (zs h hl) (zB (zCov L sp pp) (zs h hl)) := by
  rcases (show L = 1 ∨ L = 2 ∨ L = 3 by omega) with rfl | rfl | rfl
  · exact p_thO1091 hpp hp hL hsp hs6 hF hB
  · exact p_thO1092 hpp hp hL hsp hs6 hF hB
  · exact p_thO1093 hpp hp hL hsp hs6 hF hB
set_option maxRecDepth 100000 in
set_option maxHeartbeats 4000000 in
theorem p_evO1091 {d : Nat} {h hl : Nat → Nat → Int} {p pp : Nat} {sp : Nat → Nat} (hpp : pp < p) (hp : p ≤ 6) (hL : h 104 9 = 1) (hsp : ∀ i : Nat, i < 1 → h 109 i = ((sp i : Nat) : Int)) (hs6 : ∀ i : Nat, i < 1 → sp i < p) (hF : zFE h p) (hB : zTB h) (hw : ∀ l : Nat, l < 1 → 0 ≤ h 110 l ∧ h 110 l ≤ 1000000) : zQ (d + 2) 122 [.inr (.inr (some 104)), .inr (.inr (some 109)), .inr (.inr (some 110)), .inl (pp : Int)] (zs h hl) (fun r σ' => (zCov 1 sp pp ∧ zPkM (zIs 1 (fun l => h (12 + sp l) pp)) h hl 11 r σ') ∨ (¬ zCov 1 sp pp ∧ zPkM (zIs 1 (fun l => h 110 l + h (12 + sp l) pp)) h hl 10 r σ')) := by
  have s0 := hsp 0 (by decide)
  have t0 := hs6 0 (by decide)
  have F0 : h 108 (6 * sp 0 + pp) = h (12 + sp 0) pp := hF (sp 0) pp t0 hpp
  have d0 := hB (sp 0) pp (by omega) (by omega)
  have u0 := hw 0 (by decide)
  have hL3 : 1 ≤ 1 ∧ 1 ≤ 3 := by decide
  refine zQ_of (Nat.le_of_ble_eq_true rfl) ?_
  show zH (d + 1) 122 (0, [some (.inr (.inr (some 104))), some (.inr (.inr (some 109))), some (.inr (.inr (some 110))), some (.inl (pp : Int)), none, none], [], (zs h hl)) _
  refine zH_go 9 (c' := (15, [some (.inr (.inr (some 104))), some (.inr (.inr (some 109))), some (.inr (.inr (some 110))), some (.inl (pp : Int)), none, none], [.inl (pp : Int), .inr (.inr (some 109)), .inr (.inr (some 104))], (zs h (zup hl 104 2 ((hl 104 2) + 10))))) rfl ?_
  refine zH_call (M' := 121) (as := [.inr (.inr (some 104)), .inr (.inr (some 109)), .inl (pp : Int)]) (T := []) rfl (p_thO109 (L := 1) hL3 hpp hp hL hsp hs6 hF hB) (fun r σ' p_1 => ?_)
  rcases p_1 with ⟨rfl, b_2, rfl⟩ | ⟨rfl, b_2, rfl⟩
  · show zH _ _ (18, [some (.inr (.inr (some 104))), some (.inr (.inr (some 109))), some (.inr (.inr (some 110))), some (.inl (pp : Int)), none, none], [.inl 1], (zs h (zup hl 104 2 ((hl 104 2) + 10)))) _
    refine zH_bf (x := 1) (y := 0) (k := .eq) (c1 := (28, [some (.inr (.inr (some 104))), some (.inr (.inr (some 109))), some (.inr (.inr (some 110))), some (.inl (pp : Int)), none, none], [], (zs h (zup hl 104 2 ((hl 104 2) + 10))))) (c2 := (21, [some (.inr (.inr (some 104))), some (.inr (.inr (some 109))), some (.inr (.inr (some 110))), some (.inl (pp : Int)), none, none], [], (zs h (zup hl 104 2 ((hl 104 2) + 10))))) rfl ⟨by decide, by decide⟩ ⟨by decide, by decide⟩ (by show ¬ (1 = 0); decide) ?_
    refine zH_go 3 (c' := (24, [some (.inr (.inr (some 104))), some (.inr (.inr (some 109))), some (.inr (.inr (some 110))), some (.inl (pp : Int)), none, none], [.inl (pp : Int), .inr (.inr (some 109)), .inr (.inr (some 104))], (zs h (zup hl 104 2 ((hl 104 2) + 10))))) rfl ?_
    refine zH_call (M' := 120) (as := [.inr (.inr (some 104)), .inr (.inr (some 109)), .inl (pp : Int)]) (T := []) rfl (p_nrO109 (L := 1) hL3 hpp hp hL hsp hs6 hF hB) (fun r σ' p_3 => ?_)
    obtain ⟨l_4, ql_4, rfl, rfl⟩ := p_3
    rw [zupl_add (show (10 : Int) + 1 = 11 by decide)]
    show zH _ _ (27, [some (.inr (.inr (some 104))), some (.inr (.inr (some 109))), some (.inr (.inr (some 110))), some (.inl (pp : Int)), none, none], [.inl (l_4 : Int)], (zs h (zup hl 104 2 (hl 104 2 + 11)))) _
    refine zH_ret (v := some (.inl (l_4 : Int))) rfl (fun q => absurd q (by decide)) ?_
    exact Or.inl ⟨by assumption, l_4, ql_4, rfl, rfl⟩
  · show zH _ _ (18, [some (.inr (.inr (some 104))), some (.inr (.inr (some 109))), some (.inr (.inr (some 110))), some (.inl (pp : Int)), none, none], [.inl 0], (zs h (zup hl 104 2 ((hl 104 2) + 10)))) _
    refine zH_bt (x := 0) (y := 0) (k := .eq) (c1 := (28, [some (.inr (.inr (some 104))), some (.inr (.inr (some 109))), some (.inr (.inr (some 110))), some (.inl (pp : Int)), none, none], [], (zs h (zup hl 104 2 ((hl 104 2) + 10))))) (c2 := (21, [some (.inr (.inr (some 104))), some (.inr (.inr (some 109))), some (.inr (.inr (some 110))), some (.inl (pp : Int)), none, none], [], (zs h (zup hl 104 2 ((hl 104 2) + 10))))) rfl ⟨by decide, by decide⟩ ⟨by decide, by decide⟩ (by show 0 = 0; decide) ?_
    refine zH_go 7 (c' := (40, [some (.inr (.inr (some 104))), some (.inr (.inr (some 109))), some (.inr (.inr (some 110))), some (.inl (pp : Int)), some (.inl 0), some (.inl 1)], [.inl (h 104 9), .inl 1], (zs h (zup hl 104 2 ((hl 104 2) + 10))))) rfl ?_
    rw [hL]
    refine zH_bt (x := 1) (y := 1) (k := .ge) (c1 := (99, [some (.inr (.inr (some 104))), some (.inr (.inr (some 109))), some (.inr (.inr (some 110))), some (.inl (pp : Int)), some (.inl 0), some (.inl 1)], [], (zs h (zup hl 104 2 ((hl 104 2) + 10))))) (c2 := (43, [some (.inr (.inr (some 104))), some (.inr (.inr (some 109))), some (.inr (.inr (some 110))), some (.inl (pp : Int)), some (.inl 0), some (.inl 1)], [], (zs h (zup hl 104 2 ((hl 104 2) + 10))))) rfl ⟨by decide, by decide⟩ ⟨by decide, by decide⟩ (by show ¬ 1 < 1; decide) ?_
    refine zH_go 1 (c' := (101, [some (.inr (.inr (some 104))), some (.inr (.inr (some 109))), some (.inr (.inr (some 110))), some (.inl (pp : Int)), some (.inl 0), some (.inl 1)], [.inl 0], (zs h (zup hl 104 2 ((hl 104 2) + 10))))) rfl ?_
    refine zH_ret (v := some (.inl 0)) rfl (fun q => absurd q (by decide)) ?_
    refine Or.inr ⟨by assumption, 0, ?_, rfl, rfl⟩
    unfold zIs
    dsimp only
    omega
set_option maxRecDepth 100000 in
set_option maxHeartbeats 4000000 in
theorem p_evO1092 {d : Nat} {h hl : Nat → Nat → Int} {p pp : Nat} {sp : Nat → Nat} (hpp : pp < p) (hp : p ≤ 6) (hL : h 104 9 = 2) (hsp : ∀ i : Nat, i < 2 → h 109 i = ((sp i : Nat) : Int)) (hs6 : ∀ i : Nat, i < 2 → sp i < p) (hF : zFE h p) (hB : zTB h) (hw : ∀ l : Nat, l < 2 → 0 ≤ h 110 l ∧ h 110 l ≤ 1000000) : zQ (d + 2) 122 [.inr (.inr (some 104)), .inr (.inr (some 109)), .inr (.inr (some 110)), .inl (pp : Int)] (zs h hl) (fun r σ' => (zCov 2 sp pp ∧ zPkM (zIs 2 (fun l => h (12 + sp l) pp)) h hl 11 r σ') ∨ (¬ zCov 2 sp pp ∧ zPkM (zIs 2 (fun l => h 110 l + h (12 + sp l) pp)) h hl 10 r σ')) := by
  have s0 := hsp 0 (by decide)
  have s1 := hsp 1 (by decide)
  have t0 := hs6 0 (by decide)
  have t1 := hs6 1 (by decide)
  have F0 : h 108 (6 * sp 0 + pp) = h (12 + sp 0) pp := hF (sp 0) pp t0 hpp
  have F1 : h 108 (6 * sp 1 + pp) = h (12 + sp 1) pp := hF (sp 1) pp t1 hpp
  have d0 := hB (sp 0) pp (by omega) (by omega)
  have d1 := hB (sp 1) pp (by omega) (by omega)
  have u0 := hw 0 (by decide)
  have u1 := hw 1 (by decide)
  have hL3 : 1 ≤ 2 ∧ 2 ≤ 3 := by decide
  refine zQ_of (Nat.le_of_ble_eq_true rfl) ?_
  show zH (d + 1) 122 (0, [some (.inr (.inr (some 104))), some (.inr (.inr (some 109))), some (.inr (.inr (some 110))), some (.inl (pp : Int)), none, none], [], (zs h hl)) _
  refine zH_go 9 (c' := (15, [some (.inr (.inr (some 104))), some (.inr (.inr (some 109))), some (.inr (.inr (some 110))), some (.inl (pp : Int)), none, none], [.inl (pp : Int), .inr (.inr (some 109)), .inr (.inr (some 104))], (zs h (zup hl 104 2 ((hl 104 2) + 10))))) rfl ?_
  refine zH_call (M' := 121) (as := [.inr (.inr (some 104)), .inr (.inr (some 109)), .inl (pp : Int)]) (T := []) rfl (p_thO109 (L := 2) hL3 hpp hp hL hsp hs6 hF hB) (fun r σ' p_1 => ?_)
  rcases p_1 with ⟨rfl, b_2, rfl⟩ | ⟨rfl, b_2, rfl⟩
  · show zH _ _ (18, [some (.inr (.inr (some 104))), some (.inr (.inr (some 109))), some (.inr (.inr (some 110))), some (.inl (pp : Int)), none, none], [.inl 1], (zs h (zup hl 104 2 ((hl 104 2) + 10)))) _
    refine zH_bf (x := 1) (y := 0) (k := .eq) (c1 := (28, [some (.inr (.inr (some 104))), some (.inr (.inr (some 109))), some (.inr (.inr (some 110))), some (.inl (pp : Int)), none, none], [], (zs h (zup hl 104 2 ((hl 104 2) + 10))))) (c2 := (21, [some (.inr (.inr (some 104))), some (.inr (.inr (some 109))), some (.inr (.inr (some 110))), some (.inl (pp : Int)), none, none], [], (zs h (zup hl 104 2 ((hl 104 2) + 10))))) rfl ⟨by decide, by decide⟩ ⟨by decide, by decide⟩ (by show ¬ (1 = 0); decide) ?_
    refine zH_go 3 (c' := (24, [some (.inr (.inr (some 104))), some (.inr (.inr (some 109))), some (.inr (.inr (some 110))), some (.inl (pp : Int)), none, none], [.inl (pp : Int), .inr (.inr (some 109)), .inr (.inr (some 104))], (zs h (zup hl 104 2 ((hl 104 2) + 10))))) rfl ?_
    refine zH_call (M' := 120) (as := [.inr (.inr (some 104)), .inr (.inr (some 109)), .inl (pp : Int)]) (T := []) rfl (p_nrO109 (L := 2) hL3 hpp hp hL hsp hs6 hF hB) (fun r σ' p_3 => ?_)
    obtain ⟨l_4, ql_4, rfl, rfl⟩ := p_3
    rw [zupl_add (show (10 : Int) + 1 = 11 by decide)]
    show zH _ _ (27, [some (.inr (.inr (some 104))), some (.inr (.inr (some 109))), some (.inr (.inr (some 110))), some (.inl (pp : Int)), none, none], [.inl (l_4 : Int)], (zs h (zup hl 104 2 (hl 104 2 + 11)))) _
    refine zH_ret (v := some (.inl (l_4 : Int))) rfl (fun q => absurd q (by decide)) ?_
    exact Or.inl ⟨by assumption, l_4, ql_4, rfl, rfl⟩
  · show zH _ _ (18, [some (.inr (.inr (some 104))), some (.inr (.inr (some 109))), some (.inr (.inr (some 110))), some (.inl (pp : Int)), none, none], [.inl 0], (zs h (zup hl 104 2 ((hl 104 2) + 10)))) _
    refine zH_bt (x := 0) (y := 0) (k := .eq) (c1 := (28, [some (.inr (.inr (some 104))), some (.inr (.inr (some 109))), some (.inr (.inr (some 110))), some (.inl (pp : Int)), none, none], [], (zs h (zup hl 104 2 ((hl 104 2) + 10))))) (c2 := (21, [some (.inr (.inr (some 104))), some (.inr (.inr (some 109))), some (.inr (.inr (some 110))), some (.inl (pp : Int)), none, none], [], (zs h (zup hl 104 2 ((hl 104 2) + 10))))) rfl ⟨by decide, by decide⟩ ⟨by decide, by decide⟩ (by show 0 = 0; decide) ?_
    refine zH_go 7 (c' := (40, [some (.inr (.inr (some 104))), some (.inr (.inr (some 109))), some (.inr (.inr (some 110))), some (.inl (pp : Int)), some (.inl 0), some (.inl 1)], [.inl (h 104 9), .inl 1], (zs h (zup hl 104 2 ((hl 104 2) + 10))))) rfl ?_
    rw [hL]
    refine zH_bf (x := 1) (y := 2) (k := .ge) (c1 := (99, [some (.inr (.inr (some 104))), some (.inr (.inr (some 109))), some (.inr (.inr (some 110))), some (.inl (pp : Int)), some (.inl 0), some (.inl 1)], [], (zs h (zup hl 104 2 ((hl 104 2) + 10))))) (c2 := (43, [some (.inr (.inr (some 104))), some (.inr (.inr (some 109))), some (.inr (.inr (some 110))), some (.inl (pp : Int)), some (.inl 0), some (.inl 1)], [], (zs h (zup hl 104 2 ((hl 104 2) + 10))))) rfl ⟨by decide, by decide⟩ ⟨by decide, by decide⟩ (by show ¬ (¬ 1 < 2); decide) ?_
    refine zH_go 2 (c' := (46, [some (.inr (.inr (some 104))), some (.inr (.inr (some 109))), some (.inr (.inr (some 110))), some (.inl (pp : Int)), some (.inl 0), some (.inl 1)], [.inl 1, .inr (.inr (some 110))], (zs h (zup hl 104 2 ((hl 104 2) + 10))))) rfl ?_
    refine zH_np (P := 0 ≤ 1 ∧ 1 < ((3 : Nat) : Int)) (c' := (47, [some (.inr (.inr (some 104))), some (.inr (.inr (some 109))), some (.inr (.inr (some 110))), some (.inl (pp : Int)), some (.inl 0), some (.inl 1)], [.inl (h 110 1)], (zs h (zup hl 104 2 ((hl 104 2) + 10))))) rfl ⟨by decide, by decide⟩ ?_
    refine zH_go 5 (c' := (56, [some (.inr (.inr (some 104))), some (.inr (.inr (some 109))), some (.inr (.inr (some 110))), some (.inl (pp : Int)), some (.inl 0), some (.inl 1)], [.inl 1, .inr (.inr (some 109)), .inl 6, .inr (.inr (some 108)), .inl (h 110 1)], (zs h (zup hl 104 2 ((hl 104 2) + 10))))) rfl ?_
    refine zH_np (P := 0 ≤ 1 ∧ 1 < ((3 : Nat) : Int)) (c' := (57, [some (.inr (.inr (some 104))), some (.inr (.inr (some 109))), some (.inr (.inr (some 110))), some (.inl (pp : Int)), some (.inl 0), some (.inl 1)], [.inl (h 109 1), .inl 6, .inr (.inr (some 108)), .inl (h 110 1)], (zs h (zup hl 104 2 ((hl 104 2) + 10))))) rfl ⟨by decide, by decide⟩ ?_
    rw [s1]
    refine zH_go 3 (c' := (60, [some (.inr (.inr (some 104))), some (.inr (.inr (some 109))), some (.inr (.inr (some 110))), some (.inl (pp : Int)), some (.inl 0), some (.inl 1)], [.inl ((6 * ((sp 1 : Nat) : Int)) + (pp : Int)), .inr (.inr (some 108)), .inl (h 110 1)], (zs h (zup hl 104 2 ((hl 104 2) + 10))))) rfl ?_
    refine zH_np (P := 0 ≤ ((6 * ((sp 1 : Nat) : Int)) + (pp : Int)) ∧ ((6 * ((sp 1 : Nat) : Int)) + (pp : Int)) < ((36 : Nat) : Int)) (c' := (61, [some (.inr (.inr (some 104))), some (.inr (.inr (some 109))), some (.inr (.inr (some 110))), some (.inl (pp : Int)), some (.inl 0), some (.inl 1)], [.inl (h 108 ((6 * (sp 1)) + pp)), .inl (h 110 1)], (zs h (zup hl 104 2 ((hl 104 2) + 10))))) rfl ⟨by omega, by omega⟩ ?_
    rw [F1]
    refine zH_go 3 (c' := (65, [some (.inr (.inr (some 104))), some (.inr (.inr (some 109))), some (.inr (.inr (some 110))), some (.inl (pp : Int)), some (.inl 0), some (.inl 1)], [.inl 0, .inr (.inr (some 110)), .inl ((h 110 1) + (h (12 + sp 1) pp))], (zs h (zup hl 104 2 ((hl 104 2) + 10))))) rfl ?_
    refine zH_np (P := 0 ≤ 0 ∧ 0 < ((3 : Nat) : Int)) (c' := (66, [some (.inr (.inr (some 104))), some (.inr (.inr (some 109))), some (.inr (.inr (some 110))), some (.inl (pp : Int)), some (.inl 0), some (.inl 1)], [.inl (h 110 0), .inl ((h 110 1) + (h (12 + sp 1) pp))], (zs h (zup hl 104 2 ((hl 104 2) + 10))))) rfl ⟨by decide, by decide⟩ ?_
    refine zH_go 5 (c' := (75, [some (.inr (.inr (some 104))), some (.inr (.inr (some 109))), some (.inr (.inr (some 110))), some (.inl (pp : Int)), some (.inl 0), some (.inl 1)], [.inl 0, .inr (.inr (some 109)), .inl 6, .inr (.inr (some 108)), .inl (h 110 0), .inl ((h 110 1) + (h (12 + sp 1) pp))], (zs h (zup hl 104 2 ((hl 104 2) + 10))))) rfl ?_
    refine zH_np (P := 0 ≤ 0 ∧ 0 < ((3 : Nat) : Int)) (c' := (76, [some (.inr (.inr (some 104))), some (.inr (.inr (some 109))), some (.inr (.inr (some 110))), some (.inl (pp : Int)), some (.inl 0), some (.inl 1)], [.inl (h 109 0), .inl 6, .inr (.inr (some 108)), .inl (h 110 0), .inl ((h 110 1) + (h (12 + sp 1) pp))], (zs h (zup hl 104 2 ((hl 104 2) + 10))))) rfl ⟨by decide, by decide⟩ ?_
    rw [s0]
    refine zH_go 3 (c' := (79, [some (.inr (.inr (some 104))), some (.inr (.inr (some 109))), some (.inr (.inr (some 110))), some (.inl (pp : Int)), some (.inl 0), some (.inl 1)], [.inl ((6 * ((sp 0 : Nat) : Int)) + (pp : Int)), .inr (.inr (some 108)), .inl (h 110 0), .inl ((h 110 1) + (h (12 + sp 1) pp))], (zs h (zup hl 104 2 ((hl 104 2) + 10))))) rfl ?_
    refine zH_np (P := 0 ≤ ((6 * ((sp 0 : Nat) : Int)) + (pp : Int)) ∧ ((6 * ((sp 0 : Nat) : Int)) + (pp : Int)) < ((36 : Nat) : Int)) (c' := (80, [some (.inr (.inr (some 104))), some (.inr (.inr (some 109))), some (.inr (.inr (some 110))), some (.inl (pp : Int)), some (.inl 0), some (.inl 1)], [.inl (h 108 ((6 * (sp 0)) + pp)), .inl (h 110 0), .inl ((h 110 1) + (h (12 + sp 1) pp))], (zs h (zup hl 104 2 ((hl 104 2) + 10))))) rfl ⟨by omega, by omega⟩ ?_
    rw [F0]
    refine zH_go 1 (c' := (81, [some (.inr (.inr (some 104))), some (.inr (.inr (some 109))), some (.inr (.inr (some 110))), some (.inl (pp : Int)), some (.inl 0), some (.inl 1)], [.inl ((h 110 0) + (h (12 + sp 0) pp)), .inl ((h 110 1) + (h (12 + sp 1) pp))], (zs h (zup hl 104 2 ((hl 104 2) + 10))))) rfl ?_
    refine zH_br (x := ((h 110 1) + (h (12 + sp 1) pp))) (y := ((h 110 0) + (h (12 + sp 0) pp))) (k := .ge) (c1 := (89, [some (.inr (.inr (some 104))), some (.inr (.inr (some 109))), some (.inr (.inr (some 110))), some (.inl (pp : Int)), some (.inl 0), some (.inl 1)], [], (zs h (zup hl 104 2 ((hl 104 2) + 10))))) (c2 := (84, [some (.inr (.inr (some 104))), some (.inr (.inr (some 109))), some (.inr (.inr (some 110))), some (.inl (pp : Int)), some (.inl 0), some (.inl 1)], [], (zs h (zup hl 104 2 ((hl 104 2) + 10))))) rfl (by first | assumption | (unfold zr; omega)) (by first | assumption | (unfold zr; omega)) (fun (b_5 : ¬ ((h 110 1) + (h (12 + sp 1) pp)) < ((h 110 0) + (h (12 + sp 0) pp))) => ?_) (fun (b_5 : ¬ (¬ ((h 110 1) + (h (12 + sp 1) pp)) < ((h 110 0) + (h (12 + sp 0) pp)))) => ?_)
    · refine zH_go 7 (c' := (40, [some (.inr (.inr (some 104))), some (.inr (.inr (some 109))), some (.inr (.inr (some 110))), some (.inl (pp : Int)), some (.inl 0), some (.inl 2)], [.inl (h 104 9), .inl 2], (zs h (zup hl 104 2 ((hl 104 2) + 10))))) rfl ?_
      rw [hL]
      refine zH_bt (x := 2) (y := 2) (k := .ge) (c1 := (99, [some (.inr (.inr (some 104))), some (.inr (.inr (some 109))), some (.inr (.inr (some 110))), some (.inl (pp : Int)), some (.inl 0), some (.inl 2)], [], (zs h (zup hl 104 2 ((hl 104 2) + 10))))) (c2 := (43, [some (.inr (.inr (some 104))), some (.inr (.inr (some 109))), some (.inr (.inr (some 110))), some (.inl (pp : Int)), some (.inl 0), some (.inl 2)], [], (zs h (zup hl 104 2 ((hl 104 2) + 10))))) rfl ⟨by decide, by decide⟩ ⟨by decide, by decide⟩ (by show ¬ 2 < 2; decide) ?_
      refine zH_go 1 (c' := (101, [some (.inr (.inr (some 104))), some (.inr (.inr (some 109))), some (.inr (.inr (some 110))), some (.inl (pp : Int)), some (.inl 0), some (.inl 2)], [.inl 0], (zs h (zup hl 104 2 ((hl 104 2) + 10))))) rfl ?_
      refine zH_ret (v := some (.inl 0)) rfl (fun q => absurd q (by decide)) ?_
      refine Or.inr ⟨by assumption, 0, ?_, rfl, rfl⟩
      unfold zIs
      dsimp only
      omega
    · refine zH_go 8 (c' := (40, [some (.inr (.inr (some 104))), some (.inr (.inr (some 109))), some (.inr (.inr (some 110))), some (.inl (pp : Int)), some (.inl 1), some (.inl 2)], [.inl (h 104 9), .inl 2], (zs h (zup hl 104 2 ((hl 104 2) + 10))))) rfl ?_
      rw [hL]
      refine zH_bt (x := 2) (y := 2) (k := .ge) (c1 := (99, [some (.inr (.inr (some 104))), some (.inr (.inr (some 109))), some (.inr (.inr (some 110))), some (.inl (pp : Int)), some (.inl 1), some (.inl 2)], [], (zs h (zup hl 104 2 ((hl 104 2) + 10))))) (c2 := (43, [some (.inr (.inr (some 104))), some (.inr (.inr (some 109))), some (.inr (.inr (some 110))), some (.inl (pp : Int)), some (.inl 1), some (.inl 2)], [], (zs h (zup hl 104 2 ((hl 104 2) + 10))))) rfl ⟨by decide, by decide⟩ ⟨by decide, by decide⟩ (by show ¬ 2 < 2; decide) ?_
      refine zH_go 1 (c' := (101, [some (.inr (.inr (some 104))), some (.inr (.inr (some 109))), some (.inr (.inr (some 110))), some (.inl (pp : Int)), some (.inl 1), some (.inl 2)], [.inl 1], (zs h (zup hl 104 2 ((hl 104 2) + 10))))) rfl ?_
      refine zH_ret (v := some (.inl 1)) rfl (fun q => absurd q (by decide)) ?_
      refine Or.inr ⟨by assumption, 1, ?_, rfl, rfl⟩
      unfold zIs
      dsimp only
      omega
set_option maxRecDepth 100000 in
set_option maxHeartbeats 4000000 in
theorem p_evO1093 {d : Nat} {h hl : Nat → Nat → Int} {p pp : Nat} {sp : Nat → Nat} (hpp : pp < p) (hp : p ≤ 6) (hL : h 104 9 = 3) (hsp : ∀ i : Nat, i < 3 → h 109 i = ((sp i : Nat) : Int)) (hs6 : ∀ i : Nat, i < 3 → sp i < p) (hF : zFE h p) (hB : zTB h) (hw : ∀ l : Nat, l < 3 → 0 ≤ h 110 l ∧ h 110 l ≤ 1000000) : zQ (d + 2) 122 [.inr (.inr (some 104)), .inr (.inr (some 109)), .inr (.inr (some 110)), .inl (pp : Int)] (zs h hl) (fun r σ' => (zCov 3 sp pp ∧ zPkM (zIs 3 (fun l => h (12 + sp l) pp)) h hl 11 r σ') ∨ (¬ zCov 3 sp pp ∧ zPkM (zIs 3 (fun l => h 110 l + h (12 + sp l) pp)) h hl 10 r σ')) := by
  have s0 := hsp 0 (by decide)
  have s1 := hsp 1 (by decide)
  have s2 := hsp 2 (by decide)
  have t0 := hs6 0 (by decide)
  have t1 := hs6 1 (by decide)
  have t2 := hs6 2 (by decide)
  have F0 : h 108 (6 * sp 0 + pp) = h (12 + sp 0) pp := hF (sp 0) pp t0 hpp
  have F1 : h 108 (6 * sp 1 + pp) = h (12 + sp 1) pp := hF (sp 1) pp t1 hpp
  have F2 : h 108 (6 * sp 2 + pp) = h (12 + sp 2) pp := hF (sp 2) pp t2 hpp
  have d0 := hB (sp 0) pp (by omega) (by omega)
  have d1 := hB (sp 1) pp (by omega) (by omega)
  have d2 := hB (sp 2) pp (by omega) (by omega)
  have u0 := hw 0 (by decide)
  have u1 := hw 1 (by decide)
  have u2 := hw 2 (by decide)
  have hL3 : 1 ≤ 3 ∧ 3 ≤ 3 := by decide
  refine zQ_of (Nat.le_of_ble_eq_true rfl) ?_
  show zH (d + 1) 122 (0, [some (.inr (.inr (some 104))), some (.inr (.inr (some 109))), some (.inr (.inr (some 110))), some (.inl (pp : Int)), none, none], [], (zs h hl)) _
  refine zH_go 9 (c' := (15, [some (.inr (.inr (some 104))), some (.inr (.inr (some 109))), some (.inr (.inr (some 110))), some (.inl (pp : Int)), none, none], [.inl (pp : Int), .inr (.inr (some 109)), .inr (.inr (some 104))], (zs h (zup hl 104 2 ((hl 104 2) + 10))))) rfl ?_
  refine zH_call (M' := 121) (as := [.inr (.inr (some 104)), .inr (.inr (some 109)), .inl (pp : Int)]) (T := []) rfl (p_thO109 (L := 3) hL3 hpp hp hL hsp hs6 hF hB) (fun r σ' p_1 => ?_)
  rcases p_1 with ⟨rfl, b_2, rfl⟩ | ⟨rfl, b_2, rfl⟩
  · show zH _ _ (18, [some (.inr (.inr (some 104))), some (.inr (.inr (some 109))), some (.inr (.inr (some 110))), some (.inl (pp : Int)), none, none], [.inl 1], (zs h (zup hl 104 2 ((hl 104 2) + 10)))) _
    refine zH_bf (x := 1) (y := 0) (k := .eq) (c1 := (28, [some (.inr (.inr (some 104))), some (.inr (.inr (some 109))), some (.inr (.inr (some 110))), some (.inl (pp : Int)), none, none], [], (zs h (zup hl 104 2 ((hl 104 2) + 10))))) (c2 := (21, [some (.inr (.inr (some 104))), some (.inr (.inr (some 109))), some (.inr (.inr (some 110))), some (.inl (pp : Int)), none, none], [], (zs h (zup hl 104 2 ((hl 104 2) + 10))))) rfl ⟨by decide, by decide⟩ ⟨by decide, by decide⟩ (by show ¬ (1 = 0); decide) ?_
    refine zH_go 3 (c' := (24, [some (.inr (.inr (some 104))), some (.inr (.inr (some 109))), some (.inr (.inr (some 110))), some (.inl (pp : Int)), none, none], [.inl (pp : Int), .inr (.inr (some 109)), .inr (.inr (some 104))], (zs h (zup hl 104 2 ((hl 104 2) + 10))))) rfl ?_
    refine zH_call (M' := 120) (as := [.inr (.inr (some 104)), .inr (.inr (some 109)), .inl (pp : Int)]) (T := []) rfl (p_nrO109 (L := 3) hL3 hpp hp hL hsp hs6 hF hB) (fun r σ' p_3 => ?_)
    obtain ⟨l_4, ql_4, rfl, rfl⟩ := p_3
    rw [zupl_add (show (10 : Int) + 1 = 11 by decide)]
    show zH _ _ (27, [some (.inr (.inr (some 104))), some (.inr (.inr (some 109))), some (.inr (.inr (some 110))), some (.inl (pp : Int)), none, none], [.inl (l_4 : Int)], (zs h (zup hl 104 2 (hl 104 2 + 11)))) _
    refine zH_ret (v := some (.inl (l_4 : Int))) rfl (fun q => absurd q (by decide)) ?_
    exact Or.inl ⟨by assumption, l_4, ql_4, rfl, rfl⟩
  · show zH _ _ (18, [some (.inr (.inr (some 104))), some (.inr (.inr (some 109))), some (.inr (.inr (some 110))), some (.inl (pp : Int)), none, none], [.inl 0], (zs h (zup hl 104 2 ((hl 104 2) + 10)))) _
    refine zH_bt (x := 0) (y := 0) (k := .eq) (c1 := (28, [some (.inr (.inr (some 104))), some (.inr (.inr (some 109))), some (.inr (.inr (some 110))), some (.inl (pp : Int)), none, none], [], (zs h (zup hl 104 2 ((hl 104 2) + 10))))) (c2 := (21, [some (.inr (.inr (some 104))), some (.inr (.inr (some 109))), some (.inr (.inr (some 110))), some (.inl (pp : Int)), none, none], [], (zs h (zup hl 104 2 ((hl 104 2) + 10))))) rfl ⟨by decide, by decide⟩ ⟨by decide, by decide⟩ (by show 0 = 0; decide) ?_
    refine zH_go 7 (c' := (40, [some (.inr (.inr (some 104))), some (.inr (.inr (some 109))), some (.inr (.inr (some 110))), some (.inl (pp : Int)), some (.inl 0), some (.inl 1)], [.inl (h 104 9), .inl 1], (zs h (zup hl 104 2 ((hl 104 2) + 10))))) rfl ?_
    rw [hL]
    refine zH_bf (x := 1) (y := 3) (k := .ge) (c1 := (99, [some (.inr (.inr (some 104))), some (.inr (.inr (some 109))), some (.inr (.inr (some 110))), some (.inl (pp : Int)), some (.inl 0), some (.inl 1)], [], (zs h (zup hl 104 2 ((hl 104 2) + 10))))) (c2 := (43, [some (.inr (.inr (some 104))), some (.inr (.inr (some 109))), some (.inr (.inr (some 110))), some (.inl (pp : Int)), some (.inl 0), some (.inl 1)], [], (zs h (zup hl 104 2 ((hl 104 2) + 10))))) rfl ⟨by decide, by decide⟩ ⟨by decide, by decide⟩ (by show ¬ (¬ 1 < 3); decide) ?_
    refine zH_go 2 (c' := (46, [some (.inr (.inr (some 104))), some (.inr (.inr (some 109))), some (.inr (.inr (some 110))), some (.inl (pp : Int)), some (.inl 0), some (.inl 1)], [.inl 1, .inr (.inr (some 110))], (zs h (zup hl 104 2 ((hl 104 2) + 10))))) rfl ?_
    refine zH_np (P := 0 ≤ 1 ∧ 1 < ((3 : Nat) : Int)) (c' := (47, [some (.inr (.inr (some 104))), some (.inr (.inr (some 109))), some (.inr (.inr (some 110))), some (.inl (pp : Int)), some (.inl 0), some (.inl 1)], [.inl (h 110 1)], (zs h (zup hl 104 2 ((hl 104 2) + 10))))) rfl ⟨by decide, by decide⟩ ?_
    refine zH_go 5 (c' := (56, [some (.inr (.inr (some 104))), some (.inr (.inr (some 109))), some (.inr (.inr (some 110))), some (.inl (pp : Int)), some (.inl 0), some (.inl 1)], [.inl 1, .inr (.inr (some 109)), .inl 6, .inr (.inr (some 108)), .inl (h 110 1)], (zs h (zup hl 104 2 ((hl 104 2) + 10))))) rfl ?_
    refine zH_np (P := 0 ≤ 1 ∧ 1 < ((3 : Nat) : Int)) (c' := (57, [some (.inr (.inr (some 104))), some (.inr (.inr (some 109))), some (.inr (.inr (some 110))), some (.inl (pp : Int)), some (.inl 0), some (.inl 1)], [.inl (h 109 1), .inl 6, .inr (.inr (some 108)), .inl (h 110 1)], (zs h (zup hl 104 2 ((hl 104 2) + 10))))) rfl ⟨by decide, by decide⟩ ?_
    rw [s1]
    refine zH_go 3 (c' := (60, [some (.inr (.inr (some 104))), some (.inr (.inr (some 109))), some (.inr (.inr (some 110))), some (.inl (pp : Int)), some (.inl 0), some (.inl 1)], [.inl ((6 * ((sp 1 : Nat) : Int)) + (pp : Int)), .inr (.inr (some 108)), .inl (h 110 1)], (zs h (zup hl 104 2 ((hl 104 2) + 10))))) rfl ?_
    refine zH_np (P := 0 ≤ ((6 * ((sp 1 : Nat) : Int)) + (pp : Int)) ∧ ((6 * ((sp 1 : Nat) : Int)) + (pp : Int)) < ((36 : Nat) : Int)) (c' := (61, [some (.inr (.inr (some 104))), some (.inr (.inr (some 109))), some (.inr (.inr (some 110))), some (.inl (pp : Int)), some (.inl 0), some (.inl 1)], [.inl (h 108 ((6 * (sp 1)) + pp)), .inl (h 110 1)], (zs h (zup hl 104 2 ((hl 104 2) + 10))))) rfl ⟨by omega, by omega⟩ ?_
    rw [F1]
    refine zH_go 3 (c' := (65, [some (.inr (.inr (some 104))), some (.inr (.inr (some 109))), some (.inr (.inr (some 110))), some (.inl (pp : Int)), some (.inl 0), some (.inl 1)], [.inl 0, .inr (.inr (some 110)), .inl ((h 110 1) + (h (12 + sp 1) pp))], (zs h (zup hl 104 2 ((hl 104 2) + 10))))) rfl ?_
    refine zH_np (P := 0 ≤ 0 ∧ 0 < ((3 : Nat) : Int)) (c' := (66, [some (.inr (.inr (some 104))), some (.inr (.inr (some 109))), some (.inr (.inr (some 110))), some (.inl (pp : Int)), some (.inl 0), some (.inl 1)], [.inl (h 110 0), .inl ((h 110 1) + (h (12 + sp 1) pp))], (zs h (zup hl 104 2 ((hl 104 2) + 10))))) rfl ⟨by decide, by decide⟩ ?_
    refine zH_go 5 (c' := (75, [some (.inr (.inr (some 104))), some (.inr (.inr (some 109))), some (.inr (.inr (some 110))), some (.inl (pp : Int)), some (.inl 0), some (.inl 1)], [.inl 0, .inr (.inr (some 109)), .inl 6, .inr (.inr (some 108)), .inl (h 110 0), .inl ((h 110 1) + (h (12 + sp 1) pp))], (zs h (zup hl 104 2 ((hl 104 2) + 10))))) rfl ?_
    refine zH_np (P := 0 ≤ 0 ∧ 0 < ((3 : Nat) : Int)) (c' := (76, [some (.inr (.inr (some 104))), some (.inr (.inr (some 109))), some (.inr (.inr (some 110))), some (.inl (pp : Int)), some (.inl 0), some (.inl 1)], [.inl (h 109 0), .inl 6, .inr (.inr (some 108)), .inl (h 110 0), .inl ((h 110 1) + (h (12 + sp 1) pp))], (zs h (zup hl 104 2 ((hl 104 2) + 10))))) rfl ⟨by decide, by decide⟩ ?_
    rw [s0]
    refine zH_go 3 (c' := (79, [some (.inr (.inr (some 104))), some (.inr (.inr (some 109))), some (.inr (.inr (some 110))), some (.inl (pp : Int)), some (.inl 0), some (.inl 1)], [.inl ((6 * ((sp 0 : Nat) : Int)) + (pp : Int)), .inr (.inr (some 108)), .inl (h 110 0), .inl ((h 110 1) + (h (12 + sp 1) pp))], (zs h (zup hl 104 2 ((hl 104 2) + 10))))) rfl ?_
    refine zH_np (P := 0 ≤ ((6 * ((sp 0 : Nat) : Int)) + (pp : Int)) ∧ ((6 * ((sp 0 : Nat) : Int)) + (pp : Int)) < ((36 : Nat) : Int)) (c' := (80, [some (.inr (.inr (some 104))), some (.inr (.inr (some 109))), some (.inr (.inr (some 110))), some (.inl (pp : Int)), some (.inl 0), some (.inl 1)], [.inl (h 108 ((6 * (sp 0)) + pp)), .inl (h 110 0), .inl ((h 110 1) + (h (12 + sp 1) pp))], (zs h (zup hl 104 2 ((hl 104 2) + 10))))) rfl ⟨by omega, by omega⟩ ?_
    rw [F0]
    refine zH_go 1 (c' := (81, [some (.inr (.inr (some 104))), some (.inr (.inr (some 109))), some (.inr (.inr (some 110))), some (.inl (pp : Int)), some (.inl 0), some (.inl 1)], [.inl ((h 110 0) + (h (12 + sp 0) pp)), .inl ((h 110 1) + (h (12 + sp 1) pp))], (zs h (zup hl 104 2 ((hl 104 2) + 10))))) rfl ?_
    refine zH_br (x := ((h 110 1) + (h (12 + sp 1) pp))) (y := ((h 110 0) + (h (12 + sp 0) pp))) (k := .ge) (c1 := (89, [some (.inr (.inr (some 104))), some (.inr (.inr (some 109))), some (.inr (.inr (some 110))), some (.inl (pp : Int)), some (.inl 0), some (.inl 1)], [], (zs h (zup hl 104 2 ((hl 104 2) + 10))))) (c2 := (84, [some (.inr (.inr (some 104))), some (.inr (.inr (some 109))), some (.inr (.inr (some 110))), some (.inl (pp : Int)), some (.inl 0), some (.inl 1)], [], (zs h (zup hl 104 2 ((hl 104 2) + 10))))) rfl (by first | assumption | (unfold zr; omega)) (by first | assumption | (unfold zr; omega)) (fun (b_5 : ¬ ((h 110 1) + (h (12 + sp 1) pp)) < ((h 110 0) + (h (12 + sp 0) pp))) => ?_) (fun (b_5 : ¬ (¬ ((h 110 1) + (h (12 + sp 1) pp)) < ((h 110 0) + (h (12 + sp 0) pp)))) => ?_)
    · refine zH_go 7 (c' := (40, [some (.inr (.inr (some 104))), some (.inr (.inr (some 109))), some (.inr (.inr (some 110))), some (.inl (pp : Int)), some (.inl 0), some (.inl 2)], [.inl (h 104 9), .inl 2], (zs h (zup hl 104 2 ((hl 104 2) + 10))))) rfl ?_
      rw [hL]
      refine zH_bf (x := 2) (y := 3) (k := .ge) (c1 := (99, [some (.inr (.inr (some 104))), some (.inr (.inr (some 109))), some (.inr (.inr (some 110))), some (.inl (pp : Int)), some (.inl 0), some (.inl 2)], [], (zs h (zup hl 104 2 ((hl 104 2) + 10))))) (c2 := (43, [some (.inr (.inr (some 104))), some (.inr (.inr (some 109))), some (.inr (.inr (some 110))), some (.inl (pp : Int)), some (.inl 0), some (.inl 2)], [], (zs h (zup hl 104 2 ((hl 104 2) + 10))))) rfl ⟨by decide, by decide⟩ ⟨by decide, by decide⟩ (by show ¬ (¬ 2 < 3); decide) ?_
      refine zH_go 2 (c' := (46, [some (.inr (.inr (some 104))), some (.inr (.inr (some 109))), some (.inr (.inr (some 110))), some (.inl (pp : Int)), some (.inl 0), some (.inl 2)], [.inl 2, .inr (.inr (some 110))], (zs h (zup hl 104 2 ((hl 104 2) + 10))))) rfl ?_
      refine zH_np (P := 0 ≤ 2 ∧ 2 < ((3 : Nat) : Int)) (c' := (47, [some (.inr (.inr (some 104))), some (.inr (.inr (some 109))), some (.inr (.inr (some 110))), some (.inl (pp : Int)), some (.inl 0), some (.inl 2)], [.inl (h 110 2)], (zs h (zup hl 104 2 ((hl 104 2) + 10))))) rfl ⟨by decide, by decide⟩ ?_
      refine zH_go 5 (c' := (56, [some (.inr (.inr (some 104))), some (.inr (.inr (some 109))), some (.inr (.inr (some 110))), some (.inl (pp : Int)), some (.inl 0), some (.inl 2)], [.inl 2, .inr (.inr (some 109)), .inl 6, .inr (.inr (some 108)), .inl (h 110 2)], (zs h (zup hl 104 2 ((hl 104 2) + 10))))) rfl ?_
      refine zH_np (P := 0 ≤ 2 ∧ 2 < ((3 : Nat) : Int)) (c' := (57, [some (.inr (.inr (some 104))), some (.inr (.inr (some 109))), some (.inr (.inr (some 110))), some (.inl (pp : Int)), some (.inl 0), some (.inl 2)], [.inl (h 109 2), .inl 6, .inr (.inr (some 108)), .inl (h 110 2)], (zs h (zup hl 104 2 ((hl 104 2) + 10))))) rfl ⟨by decide, by decide⟩ ?_
      rw [s2]
      refine zH_go 3 (c' := (60, [some (.inr (.inr (some 104))), some (.inr (.inr (some 109))), some (.inr (.inr (some 110))), some (.inl (pp : Int)), some (.inl 0), some (.inl 2)], [.inl ((6 * ((sp 2 : Nat) : Int)) + (pp : Int)), .inr (.inr (some 108)), .inl (h 110 2)], (zs h (zup hl 104 2 ((hl 104 2) + 10))))) rfl ?_
      refine zH_np (P := 0 ≤ ((6 * ((sp 2 : Nat) : Int)) + (pp : Int)) ∧ ((6 * ((sp 2 : Nat) : Int)) + (pp : Int)) < ((36 : Nat) : Int)) (c' := (61, [some (.inr (.inr (some 104))), some (.inr (.inr (some 109))), some (.inr (.inr (some 110))), some (.inl (pp : Int)), some (.inl 0), some (.inl 2)], [.inl (h 108 ((6 * (sp 2)) + pp)), .inl (h 110 2)], (zs h (zup hl 104 2 ((hl 104 2) + 10))))) rfl ⟨by omega, by omega⟩ ?_
      rw [F2]
      refine zH_go 3 (c' := (65, [some (.inr (.inr (some 104))), some (.inr (.inr (some 109))), some (.inr (.inr (some 110))), some (.inl (pp : Int)), some (.inl 0), some (.inl 2)], [.inl 0, .inr (.inr (some 110)), .inl ((h 110 2) + (h (12 + sp 2) pp))], (zs h (zup hl 104 2 ((hl 104 2) + 10))))) rfl ?_
      refine zH_np (P := 0 ≤ 0 ∧ 0 < ((3 : Nat) : Int)) (c' := (66, [some (.inr (.inr (some 104))), some (.inr (.inr (some 109))), some (.inr (.inr (some 110))), some (.inl (pp : Int)), some (.inl 0), some (.inl 2)], [.inl (h 110 0), .inl ((h 110 2) + (h (12 + sp 2) pp))], (zs h (zup hl 104 2 ((hl 104 2) + 10))))) rfl ⟨by decide, by decide⟩ ?_
      refine zH_go 5 (c' := (75, [some (.inr (.inr (some 104))), some (.inr (.inr (some 109))), some (.inr (.inr (some 110))), some (.inl (pp : Int)), some (.inl 0), some (.inl 2)], [.inl 0, .inr (.inr (some 109)), .inl 6, .inr (.inr (some 108)), .inl (h 110 0), .inl ((h 110 2) + (h (12 + sp 2) pp))], (zs h (zup hl 104 2 ((hl 104 2) + 10))))) rfl ?_
      refine zH_np (P := 0 ≤ 0 ∧ 0 < ((3 : Nat) : Int)) (c' := (76, [some (.inr (.inr (some 104))), some (.inr (.inr (some 109))), some (.inr (.inr (some 110))), some (.inl (pp : Int)), some (.inl 0), some (.inl 2)], [.inl (h 109 0), .inl 6, .inr (.inr (some 108)), .inl (h 110 0), .inl ((h 110 2) + (h (12 + sp 2) pp))], (zs h (zup hl 104 2 ((hl 104 2) + 10))))) rfl ⟨by decide, by decide⟩ ?_
      rw [s0]
      refine zH_go 3 (c' := (79, [some (.inr (.inr (some 104))), some (.inr (.inr (some 109))), some (.inr (.inr (some 110))), some (.inl (pp : Int)), some (.inl 0), some (.inl 2)], [.inl ((6 * ((sp 0 : Nat) : Int)) + (pp : Int)), .inr (.inr (some 108)), .inl (h 110 0), .inl ((h 110 2) + (h (12 + sp 2) pp))], (zs h (zup hl 104 2 ((hl 104 2) + 10))))) rfl ?_
      refine zH_np (P := 0 ≤ ((6 * ((sp 0 : Nat) : Int)) + (pp : Int)) ∧ ((6 * ((sp 0 : Nat) : Int)) + (pp : Int)) < ((36 : Nat) : Int)) (c' := (80, [some (.inr (.inr (some 104))), some (.inr (.inr (some 109))), some (.inr (.inr (some 110))), some (.inl (pp : Int)), some (.inl 0), some (.inl 2)], [.inl (h 108 ((6 * (sp 0)) + pp)), .inl (h 110 0), .inl ((h 110 2) + (h (12 + sp 2) pp))], (zs h (zup hl 104 2 ((hl 104 2) + 10))))) rfl ⟨by omega, by omega⟩ ?_
      rw [F0]
      refine zH_go 1 (c' := (81, [some (.inr (.inr (some 104))), some (.inr (.inr (some 109))), some (.inr (.inr (some 110))), some (.inl (pp : Int)), some (.inl 0), some (.inl 2)], [.inl ((h 110 0) + (h (12 + sp 0) pp)), .inl ((h 110 2) + (h (12 + sp 2) pp))], (zs h (zup hl 104 2 ((hl 104 2) + 10))))) rfl ?_
      refine zH_br (x := ((h 110 2) + (h (12 + sp 2) pp))) (y := ((h 110 0) + (h (12 + sp 0) pp))) (k := .ge) (c1 := (89, [some (.inr (.inr (some 104))), some (.inr (.inr (some 109))), some (.inr (.inr (some 110))), some (.inl (pp : Int)), some (.inl 0), some (.inl 2)], [], (zs h (zup hl 104 2 ((hl 104 2) + 10))))) (c2 := (84, [some (.inr (.inr (some 104))), some (.inr (.inr (some 109))), some (.inr (.inr (some 110))), some (.inl (pp : Int)), some (.inl 0), some (.inl 2)], [], (zs h (zup hl 104 2 ((hl 104 2) + 10))))) rfl (by first | assumption | (unfold zr; omega)) (by first | assumption | (unfold zr; omega)) (fun (b_6 : ¬ ((h 110 2) + (h (12 + sp 2) pp)) < ((h 110 0) + (h (12 + sp 0) pp))) => ?_) (fun (b_6 : ¬ (¬ ((h 110 2) + (h (12 + sp 2) pp)) < ((h 110 0) + (h (12 + sp 0) pp)))) => ?_)
      · refine zH_go 7 (c' := (40, [some (.inr (.inr (some 104))), some (.inr (.inr (some 109))), some (.inr (.inr (some 110))), some (.inl (pp : Int)), some (.inl 0), some (.inl 3)], [.inl (h 104 9), .inl 3], (zs h (zup hl 104 2 ((hl 104 2) + 10))))) rfl ?_
        rw [hL]
        refine zH_bt (x := 3) (y := 3) (k := .ge) (c1 := (99, [some (.inr (.inr (some 104))), some (.inr (.inr (some 109))), some (.inr (.inr (some 110))), some (.inl (pp : Int)), some (.inl 0), some (.inl 3)], [], (zs h (zup hl 104 2 ((hl 104 2) + 10))))) (c2 := (43, [some (.inr (.inr (some 104))), some (.inr (.inr (some 109))), some (.inr (.inr (some 110))), some (.inl (pp : Int)), some (.inl 0), some (.inl 3)], [], (zs h (zup hl 104 2 ((hl 104 2) + 10))))) rfl ⟨by decide, by decide⟩ ⟨by decide, by decide⟩ (by show ¬ 3 < 3; decide) ?_
        refine zH_go 1 (c' := (101, [some (.inr (.inr (some 104))), some (.inr (.inr (some 109))), some (.inr (.inr (some 110))), some (.inl (pp : Int)), some (.inl 0), some (.inl 3)], [.inl 0], (zs h (zup hl 104 2 ((hl 104 2) + 10))))) rfl ?_
        refine zH_ret (v := some (.inl 0)) rfl (fun q => absurd q (by decide)) ?_
        refine Or.inr ⟨by assumption, 0, ?_, rfl, rfl⟩
        unfold zIs
        dsimp only
        omega
      · refine zH_go 8 (c' := (40, [some (.inr (.inr (some 104))), some (.inr (.inr (some 109))), some (.inr (.inr (some 110))), some (.inl (pp : Int)), some (.inl 2), some (.inl 3)], [.inl (h 104 9), .inl 3], (zs h (zup hl 104 2 ((hl 104 2) + 10))))) rfl ?_
        rw [hL]
        refine zH_bt (x := 3) (y := 3) (k := .ge) (c1 := (99, [some (.inr (.inr (some 104))), some (.inr (.inr (some 109))), some (.inr (.inr (some 110))), some (.inl (pp : Int)), some (.inl 2), some (.inl 3)], [], (zs h (zup hl 104 2 ((hl 104 2) + 10))))) (c2 := (43, [some (.inr (.inr (some 104))), some (.inr (.inr (some 109))), some (.inr (.inr (some 110))), some (.inl (pp : Int)), some (.inl 2), some (.inl 3)], [], (zs h (zup hl 104 2 ((hl 104 2) + 10))))) rfl ⟨by decide, by decide⟩ ⟨by decide, by decide⟩ (by show ¬ 3 < 3; decide) ?_
        refine zH_go 1 (c' := (101, [some (.inr (.inr (some 104))), some (.inr (.inr (some 109))), some (.inr (.inr (some 110))), some (.inl (pp : Int)), some (.inl 2), some (.inl 3)], [.inl 2], (zs h (zup hl 104 2 ((hl 104 2) + 10))))) rfl ?_
        refine zH_ret (v := some (.inl 2)) rfl (fun q => absurd q (by decide)) ?_
        refine Or.inr ⟨by assumption, 2, ?_, rfl, rfl⟩
        unfold zIs
        dsimp only
        omega
    · refine zH_go 8 (c' := (40, [some (.inr (.inr (some 104))), some (.inr (.inr (some 109))), some (.inr (.inr (some 110))), some (.inl (pp : Int)), some (.inl 1), some (.inl 2)], [.inl (h 104 9), .inl 2], (zs h (zup hl 104 2 ((hl 104 2) + 10))))) rfl ?_
      rw [hL]
      refine zH_bf (x := 2) (y := 3) (k := .ge) (c1 := (99, [some (.inr (.inr (some 104))), some (.inr (.inr (some 109))), some (.inr (.inr (some 110))), some (.inl (pp : Int)), some (.inl 1), some (.inl 2)], [], (zs h (zup hl 104 2 ((hl 104 2) + 10))))) (c2 := (43, [some (.inr (.inr (some 104))), some (.inr (.inr (some 109))), some (.inr (.inr (some 110))), some (.inl (pp : Int)), some (.inl 1), some (.inl 2)], [], (zs h (zup hl 104 2 ((hl 104 2) + 10))))) rfl ⟨by decide, by decide⟩ ⟨by decide, by decide⟩ (by show ¬ (¬ 2 < 3); decide) ?_
      refine zH_go 2 (c' := (46, [some (.inr (.inr (some 104))), some (.inr (.inr (some 109))), some (.inr (.inr (some 110))), some (.inl (pp : Int)), some (.inl 1), some (.inl 2)], [.inl 2, .inr (.inr (some 110))], (zs h (zup hl 104 2 ((hl 104 2) + 10))))) rfl ?_
      refine zH_np (P := 0 ≤ 2 ∧ 2 < ((3 : Nat) : Int)) (c' := (47, [some (.inr (.inr (some 104))), some (.inr (.inr (some 109))), some (.inr (.inr (some 110))), some (.inl (pp : Int)), some (.inl 1), some (.inl 2)], [.inl (h 110 2)], (zs h (zup hl 104 2 ((hl 104 2) + 10))))) rfl ⟨by decide, by decide⟩ ?_
      refine zH_go 5 (c' := (56, [some (.inr (.inr (some 104))), some (.inr (.inr (some 109))), some (.inr (.inr (some 110))), some (.inl (pp : Int)), some (.inl 1), some (.inl 2)], [.inl 2, .inr (.inr (some 109)), .inl 6, .inr (.inr (some 108)), .inl (h 110 2)], (zs h (zup hl 104 2 ((hl 104 2) + 10))))) rfl ?_
      refine zH_np (P := 0 ≤ 2 ∧ 2 < ((3 : Nat) : Int)) (c' := (57, [some (.inr (.inr (some 104))), some (.inr (.inr (some 109))), some (.inr (.inr (some 110))), some (.inl (pp : Int)), some (.inl 1), some (.inl 2)], [.inl (h 109 2), .inl 6, .inr (.inr (some 108)), .inl (h 110 2)], (zs h (zup hl 104 2 ((hl 104 2) + 10))))) rfl ⟨by decide, by decide⟩ ?_
      rw [s2]
      refine zH_go 3 (c' := (60, [some (.inr (.inr (some 104))), some (.inr (.inr (some 109))), some (.inr (.inr (some 110))), some (.inl (pp : Int)), some (.inl 1), some (.inl 2)], [.inl ((6 * ((sp 2 : Nat) : Int)) + (pp : Int)), .inr (.inr (some 108)), .inl (h 110 2)], (zs h (zup hl 104 2 ((hl 104 2) + 10))))) rfl ?_
      refine zH_np (P := 0 ≤ ((6 * ((sp 2 : Nat) : Int)) + (pp : Int)) ∧ ((6 * ((sp 2 : Nat) : Int)) + (pp : Int)) < ((36 : Nat) : Int)) (c' := (61, [some (.inr (.inr (some 104))), some (.inr (.inr (some 109))), some (.inr (.inr (some 110))), some (.inl (pp : Int)), some (.inl 1), some (.inl 2)], [.inl (h 108 ((6 * (sp 2)) + pp)), .inl (h 110 2)], (zs h (zup hl 104 2 ((hl 104 2) + 10))))) rfl ⟨by omega, by omega⟩ ?_
      rw [F2]
      refine zH_go 3 (c' := (65, [some (.inr (.inr (some 104))), some (.inr (.inr (some 109))), some (.inr (.inr (some 110))), some (.inl (pp : Int)), some (.inl 1), some (.inl 2)], [.inl 1, .inr (.inr (some 110)), .inl ((h 110 2) + (h (12 + sp 2) pp))], (zs h (zup hl 104 2 ((hl 104 2) + 10))))) rfl ?_
      refine zH_np (P := 0 ≤ 1 ∧ 1 < ((3 : Nat) : Int)) (c' := (66, [some (.inr (.inr (some 104))), some (.inr (.inr (some 109))), some (.inr (.inr (some 110))), some (.inl (pp : Int)), some (.inl 1), some (.inl 2)], [.inl (h 110 1), .inl ((h 110 2) + (h (12 + sp 2) pp))], (zs h (zup hl 104 2 ((hl 104 2) + 10))))) rfl ⟨by decide, by decide⟩ ?_
      refine zH_go 5 (c' := (75, [some (.inr (.inr (some 104))), some (.inr (.inr (some 109))), some (.inr (.inr (some 110))), some (.inl (pp : Int)), some (.inl 1), some (.inl 2)], [.inl 1, .inr (.inr (some 109)), .inl 6, .inr (.inr (some 108)), .inl (h 110 1), .inl ((h 110 2) + (h (12 + sp 2) pp))], (zs h (zup hl 104 2 ((hl 104 2) + 10))))) rfl ?_
      refine zH_np (P := 0 ≤ 1 ∧ 1 < ((3 : Nat) : Int)) (c' := (76, [some (.inr (.inr (some 104))), some (.inr (.inr (some 109))), some (.inr (.inr (some 110))), some (.inl (pp : Int)), some (.inl 1), some (.inl 2)], [.inl (h 109 1), .inl 6, .inr (.inr (some 108)), .inl (h 110 1), .inl ((h 110 2) + (h (12 + sp 2) pp))], (zs h (zup hl 104 2 ((hl 104 2) + 10))))) rfl ⟨by decide, by decide⟩ ?_
      rw [s1]
      refine zH_go 3 (c' := (79, [some (.inr (.inr (some 104))), some (.inr (.inr (some 109))), some (.inr (.inr (some 110))), some (.inl (pp : Int)), some (.inl 1), some (.inl 2)], [.inl ((6 * ((sp 1 : Nat) : Int)) + (pp : Int)), .inr (.inr (some 108)), .inl (h 110 1), .inl ((h 110 2) + (h (12 + sp 2) pp))], (zs h (zup hl 104 2 ((hl 104 2) + 10))))) rfl ?_
      refine zH_np (P := 0 ≤ ((6 * ((sp 1 : Nat) : Int)) + (pp : Int)) ∧ ((6 * ((sp 1 : Nat) : Int)) + (pp : Int)) < ((36 : Nat) : Int)) (c' := (80, [some (.inr (.inr (some 104))), some (.inr (.inr (some 109))), some (.inr (.inr (some 110))), some (.inl (pp : Int)), some (.inl 1), some (.inl 2)], [.inl (h 108 ((6 * (sp 1)) + pp)), .inl (h 110 1), .inl ((h 110 2) + (h (12 + sp 2) pp))], (zs h (zup hl 104 2 ((hl 104 2) + 10))))) rfl ⟨by omega, by omega⟩ ?_
      rw [F1]
      refine zH_go 1 (c' := (81, [some (.inr (.inr (some 104))), some (.inr (.inr (some 109))), some (.inr (.inr (some 110))), some (.inl (pp : Int)), some (.inl 1), some (.inl 2)], [.inl ((h 110 1) + (h (12 + sp 1) pp)), .inl ((h 110 2) + (h (12 + sp 2) pp))], (zs h (zup hl 104 2 ((hl 104 2) + 10))))) rfl ?_
      refine zH_br (x := ((h 110 2) + (h (12 + sp 2) pp))) (y := ((h 110 1) + (h (12 + sp 1) pp))) (k := .ge) (c1 := (89, [some (.inr (.inr (some 104))), some (.inr (.inr (some 109))), some (.inr (.inr (some 110))), some (.inl (pp : Int)), some (.inl 1), some (.inl 2)], [], (zs h (zup hl 104 2 ((hl 104 2) + 10))))) (c2 := (84, [some (.inr (.inr (some 104))), some (.inr (.inr (some 109))), some (.inr (.inr (some 110))), some (.inl (pp : Int)), some (.inl 1), some (.inl 2)], [], (zs h (zup hl 104 2 ((hl 104 2) + 10))))) rfl (by first | assumption | (unfold zr; omega)) (by first | assumption | (unfold zr; omega)) (fun (b_7 : ¬ ((h 110 2) + (h (12 + sp 2) pp)) < ((h 110 1) + (h (12 + sp 1) pp))) => ?_) (fun (b_7 : ¬ (¬ ((h 110 2) + (h (12 + sp 2) pp)) < ((h 110 1) + (h (12 + sp 1) pp)))) => ?_)
      · refine zH_go 7 (c' := (40, [some (.inr (.inr (some 104))), some (.inr (.inr (some 109))), some (.inr (.inr (some 110))), some (.inl (pp : Int)), some (.inl 1), some (.inl 3)], [.inl (h 104 9), .inl 3], (zs h (zup hl 104 2 ((hl 104 2) + 10))))) rfl ?_
        rw [hL]
        refine zH_bt (x := 3) (y := 3) (k := .ge) (c1 := (99, [some (.inr (.inr (some 104))), some (.inr (.inr (some 109))), some (.inr (.inr (some 110))), some (.inl (pp : Int)), some (.inl 1), some (.inl 3)], [], (zs h (zup hl 104 2 ((hl 104 2) + 10))))) (c2 := (43, [some (.inr (.inr (some 104))), some (.inr (.inr (some 109))), some (.inr (.inr (some 110))), some (.inl (pp : Int)), some (.inl 1), some (.inl 3)], [], (zs h (zup hl 104 2 ((hl 104 2) + 10))))) rfl ⟨by decide, by decide⟩ ⟨by decide, by decide⟩ (by show ¬ 3 < 3; decide) ?_
        refine zH_go 1 (c' := (101, [some (.inr (.inr (some 104))), some (.inr (.inr (some 109))), some (.inr (.inr (some 110))), some (.inl (pp : Int)), some (.inl 1), some (.inl 3)], [.inl 1], (zs h (zup hl 104 2 ((hl 104 2) + 10))))) rfl ?_
        refine zH_ret (v := some (.inl 1)) rfl (fun q => absurd q (by decide)) ?_
        refine Or.inr ⟨by assumption, 1, ?_, rfl, rfl⟩
        unfold zIs
        dsimp only
        omega
      · refine zH_go 8 (c' := (40, [some (.inr (.inr (some 104))), some (.inr (.inr (some 109))), some (.inr (.inr (some 110))), some (.inl (pp : Int)), some (.inl 2), some (.inl 3)], [.inl (h 104 9), .inl 3], (zs h (zup hl 104 2 ((hl 104 2) + 10))))) rfl ?_
        rw [hL]
        refine zH_bt (x := 3) (y := 3) (k := .ge) (c1 := (99, [some (.inr (.inr (some 104))), some (.inr (.inr (some 109))), some (.inr (.inr (some 110))), some (.inl (pp : Int)), some (.inl 2), some (.inl 3)], [], (zs h (zup hl 104 2 ((hl 104 2) + 10))))) (c2 := (43, [some (.inr (.inr (some 104))), some (.inr (.inr (some 109))), some (.inr (.inr (some 110))), some (.inl (pp : Int)), some (.inl 2), some (.inl 3)], [], (zs h (zup hl 104 2 ((hl 104 2) + 10))))) rfl ⟨by decide, by decide⟩ ⟨by decide, by decide⟩ (by show ¬ 3 < 3; decide) ?_
        refine zH_go 1 (c' := (101, [some (.inr (.inr (some 104))), some (.inr (.inr (some 109))), some (.inr (.inr (some 110))), some (.inl (pp : Int)), some (.inl 2), some (.inl 3)], [.inl 2], (zs h (zup hl 104 2 ((hl 104 2) + 10))))) rfl ?_
        refine zH_ret (v := some (.inl 2)) rfl (fun q => absurd q (by decide)) ?_
        refine Or.inr ⟨by assumption, 2, ?_, rfl, rfl⟩
        unfold zIs
        dsimp only
        omega
theorem p_evO109 {d : Nat} {h hl : Nat → Nat → Int} {L : Nat} (hL3 : 1 ≤ L ∧ L ≤ 3) {p pp : Nat} {sp : Nat → Nat} (hpp : pp < p) (hp : p ≤ 6) (hL : h 104 9 = (L : Int)) (hsp : ∀ i : Nat, i < L → h 109 i = ((sp i : Nat) : Int)) (hs6 : ∀ i : Nat, i < L → sp i < p) (hF : zFE h p) (hB : zTB h) (hw : ∀ l : Nat, l < L → 0 ≤ h 110 l ∧ h 110 l ≤ 1000000) : zQ (d + 2) 122 [.inr (.inr (some 104)), .inr (.inr (some 109)), .inr (.inr (some 110)), .inl (pp : Int)] (zs h hl) (fun r σ' => (zCov L sp pp ∧ zPkM (zIs L (fun l => h (12 + sp l) pp)) h hl 11 r σ') ∨ (¬ zCov L sp pp ∧ zPkM (zIs L (fun l => h 110 l + h (12 + sp l) pp)) h hl 10 r σ')) := by
  rcases (show L = 1 ∨ L = 2 ∨ L = 3 by omega) with rfl | rfl | rfl
  · exact p_evO1091 hpp hp hL hsp hs6 hF hB hw
  · exact p_evO1092 hpp hp hL hsp hs6 hF hB hw
  · exact p_evO1093 hpp hp hL hsp hs6 hF hB hw
