/-! BOOKS: numbers. -/
/-- a number as its SORT keeps it -/
def zNar (t v : Int) : Int := if t = 0 then Int.bmod (Int.bmod v 4294967296) 256 else if t = 1 then Int.bmod (Int.bmod v 4294967296) 65536 else if t = 2 then Int.bmod v 4294967296 else v
theorem zbm_zr (v : Int) : zr (Int.bmod v 4294967296) := by
  have h1 := Int.le_bmod (x := v) (m := 4294967296) (by decide)
  have h2 := Int.bmod_lt (x := v) (m := 4294967296) (by decide)
  exact ⟨by omega, by omega⟩
theorem zbm_zr2 (v : Int) : zr (Int.bmod v 256) ∧ zr (Int.bmod v 65536) := by
  have h1 := Int.le_bmod (x := v) (m := 256) (by decide)
  have h2 := Int.bmod_lt (x := v) (m := 256) (by decide)
  have h3 := Int.le_bmod (x := v) (m := 65536) (by decide)
  have h4 := Int.bmod_lt (x := v) (m := 65536) (by decide)
  exact ⟨⟨by omega, by omega⟩, by omega, by omega⟩
set_option maxRecDepth 100000 in
set_option maxHeartbeats 4000000 in
theorem p_bNum0 {d : Nat} {h hl : Nat → Nat → Int} {r i : Int} (hr : zr r) (hi : zr i) (hR : -1 ≤ h 83 1 ∧ h 83 1 ≤ 4) (hZ : ∀ q : Nat, q < 4 → -1 ≤ h 84 q ∧ h 84 q ≤ 8) : zQ (d + 3) 3 [.inr (.inr (some 83)), .inl r, .inl i] (zs h hl) (zB (zHasNum h 83 84 r i) (zs h hl)) := by
  refine zQ_of (Nat.le_of_ble_eq_true rfl) ?_
  show zH (d + 2) 3 (0, [some (.inr (.inr (some 83))), some (.inl r), some (.inl i)], [], (zs h hl)) _
  refine zH_go 1 (c' := (1, [some (.inr (.inr (some 83))), some (.inl r), some (.inl i)], [.inl i], (zs h hl))) rfl ?_
  refine zH_br (x := i) (y := 0) (k := .lt) (c1 := (23, [some (.inr (.inr (some 83))), some (.inl r), some (.inl i)], [], (zs h hl))) (c2 := (4, [some (.inr (.inr (some 83))), some (.inl r), some (.inl i)], [], (zs h hl))) rfl (by first | assumption | (unfold zr; omega)) ⟨by decide, by decide⟩ (fun (b_1 : i < 0) => ?_) (fun (b_1 : ¬ (i < 0)) => ?_)
  · refine zH_go 1 (c' := (24, [some (.inr (.inr (some 83))), some (.inl r), some (.inl i)], [.inl 0], (zs h hl))) rfl ?_
    refine zH_ret (v := some (.inl 0)) rfl (fun _ => by first | exact Or.inl rfl | exact Or.inr rfl) ?_
    refine Or.inr ⟨rfl, fun q => ?_, rfl⟩
    have q2 := q.2.1
    have q3 := q.2.2.1
    have q4 := q.2.2.2
    first
      | omega
      | (rcases x with ⟨w, rfl⟩ | ⟨w, rfl⟩
         · omega
         · exact w q.1)
  · refine zH_go 3 (c' := (7, [some (.inr (.inr (some 83))), some (.inl r), some (.inl i)], [.inl r, .inr (.inr (some 83)), .inl i], (zs h hl))) rfl ?_
    refine zH_call (M' := 4) (as := [.inr (.inr (some 83)), .inl r]) (T := [.inl i]) rfl (p_bSize0 hr hR hZ) (fun ρ σ' p_2 => ?_)
    obtain ⟨x, z_3, rfl, rfl⟩ := p_2
    have hx9 : -1 ≤ x ∧ x ≤ 8 := by
      rcases z_3 with ⟨q, rfl⟩ | ⟨q, rfl⟩
      · exact hZ _ (by have q1 := q.1; have q2 := q.2.2; omega)
      · omega
    show zH _ _ (10, [some (.inr (.inr (some 83))), some (.inl r), some (.inl i)], [.inl x, .inl i], (zs h hl)) _
    refine zH_br (x := i) (y := x) (k := .ge) (c1 := (23, [some (.inr (.inr (some 83))), some (.inl r), some (.inl i)], [], (zs h hl))) (c2 := (13, [some (.inr (.inr (some 83))), some (.inl r), some (.inl i)], [], (zs h hl))) rfl (by first | assumption | (unfold zr; omega)) (by first | assumption | (unfold zr; omega)) (fun (b_4 : ¬ i < x) => ?_) (fun (b_4 : ¬ (¬ i < x)) => ?_)
    · refine zH_go 1 (c' := (24, [some (.inr (.inr (some 83))), some (.inl r), some (.inl i)], [.inl 0], (zs h hl))) rfl ?_
      refine zH_ret (v := some (.inl 0)) rfl (fun _ => by first | exact Or.inl rfl | exact Or.inr rfl) ?_
      refine Or.inr ⟨rfl, fun q => ?_, rfl⟩
      have q2 := q.2.1
      have q3 := q.2.2.1
      have q4 := q.2.2.2
      first
        | omega
        | (rcases z_3 with ⟨w, rfl⟩ | ⟨w, rfl⟩
           · omega
           · exact w q.1)
    · refine zH_go 2 (c' := (16, [some (.inr (.inr (some 83))), some (.inl r), some (.inl i)], [.inl 8, .inl i], (zs h hl))) rfl ?_
      refine zH_br (x := i) (y := 8) (k := .ge) (c1 := (23, [some (.inr (.inr (some 83))), some (.inl r), some (.inl i)], [], (zs h hl))) (c2 := (19, [some (.inr (.inr (some 83))), some (.inl r), some (.inl i)], [], (zs h hl))) rfl (by first | assumption | (unfold zr; omega)) ⟨by decide, by decide⟩ (fun (b_5 : ¬ i < 8) => ?_) (fun (b_5 : ¬ (¬ i < 8)) => ?_)
      · refine zH_go 1 (c' := (24, [some (.inr (.inr (some 83))), some (.inl r), some (.inl i)], [.inl 0], (zs h hl))) rfl ?_
        refine zH_ret (v := some (.inl 0)) rfl (fun _ => by first | exact Or.inl rfl | exact Or.inr rfl) ?_
        refine Or.inr ⟨rfl, fun q => ?_, rfl⟩
        have q2 := q.2.1
        have q3 := q.2.2.1
        have q4 := q.2.2.2
        first
          | omega
          | (rcases z_3 with ⟨w, rfl⟩ | ⟨w, rfl⟩
             · omega
             · exact w q.1)
      · refine zH_go 2 (c' := (24, [some (.inr (.inr (some 83))), some (.inl r), some (.inl i)], [.inl 1], (zs h hl))) rfl ?_
        refine zH_ret (v := some (.inl 1)) rfl (fun _ => by first | exact Or.inl rfl | exact Or.inr rfl) ?_
        rcases z_3 with ⟨q, rfl⟩ | ⟨q, rfl⟩
        · exact Or.inl ⟨rfl, ⟨q, by omega, by omega, by omega⟩, rfl⟩
        · exfalso; omega
set_option maxRecDepth 100000 in
set_option maxHeartbeats 4000000 in
theorem p_bNar00 {d : Nat} {h hl : Nat → Nat → Int} {v : Int} (ht : h 83 0 = 0) : zQ (d + 1) 10 [.inr (.inr (some 83)), .inr (.inl v)] (zs h hl) (fun r σ' => r = some (.inr (.inl (zNar 0 v))) ∧ σ' = zs h hl) := by
  refine zQ_of (Nat.le_of_ble_eq_true rfl) ?_
  show zH d 10 (0, [some (.inr (.inr (some 83))), some (.inr (.inl v)), none], [], (zs h hl)) _
  refine zH_go 2 (c' := (4, [some (.inr (.inr (some 83))), some (.inr (.inl v)), none], [.inl (h 83 0)], (zs h hl))) rfl ?_
  rw [ht]
  refine zH_sw rfl ⟨by decide, by decide⟩ (tgt := 32) rfl ?_
  show zH _ _ (32, [some (.inr (.inr (some 83))), some (.inr (.inl v)), none], [], (zs h hl)) _
  refine zH_go 3 (c' := (35, [some (.inr (.inr (some 83))), some (.inr (.inl v)), none], [.inl (Int.bmod (Int.bmod v 4294967296) 256)], (zs h hl))) rfl ?_
  refine zH_np (P := zr (Int.bmod (Int.bmod v 4294967296) 256)) (c' := (36, [some (.inr (.inr (some 83))), some (.inr (.inl v)), none], [.inr (.inl (Int.bmod (Int.bmod v 4294967296) 256))], (zs h hl))) rfl (by first | assumption | exact zbm_zr _ | exact (zbm_zr2 _).1 | exact (zbm_zr2 _).2 | (unfold zr; omega)) ?_
  refine zH_ret (v := some (.inr (.inl (Int.bmod (Int.bmod v 4294967296) 256)))) rfl (fun q => absurd q (by decide)) ?_
  refine ⟨congrArg (fun z => some (Sum.inr (Sum.inl z))) ?_, rfl⟩
  unfold zNar
  rw [if_pos rfl]
set_option maxRecDepth 100000 in
set_option maxHeartbeats 4000000 in
theorem p_bNar01 {d : Nat} {h hl : Nat → Nat → Int} {v : Int} (ht : h 83 0 = 1) : zQ (d + 1) 10 [.inr (.inr (some 83)), .inr (.inl v)] (zs h hl) (fun r σ' => r = some (.inr (.inl (zNar 1 v))) ∧ σ' = zs h hl) := by
  refine zQ_of (Nat.le_of_ble_eq_true rfl) ?_
  show zH d 10 (0, [some (.inr (.inr (some 83))), some (.inr (.inl v)), none], [], (zs h hl)) _
  refine zH_go 2 (c' := (4, [some (.inr (.inr (some 83))), some (.inr (.inl v)), none], [.inl (h 83 0)], (zs h hl))) rfl ?_
  rw [ht]
  refine zH_sw rfl ⟨by decide, by decide⟩ (tgt := 37) rfl ?_
  show zH _ _ (37, [some (.inr (.inr (some 83))), some (.inr (.inl v)), none], [], (zs h hl)) _
  refine zH_go 3 (c' := (40, [some (.inr (.inr (some 83))), some (.inr (.inl v)), none], [.inl (Int.bmod (Int.bmod v 4294967296) 65536)], (zs h hl))) rfl ?_
  refine zH_np (P := zr (Int.bmod (Int.bmod v 4294967296) 65536)) (c' := (41, [some (.inr (.inr (some 83))), some (.inr (.inl v)), none], [.inr (.inl (Int.bmod (Int.bmod v 4294967296) 65536))], (zs h hl))) rfl (by first | assumption | exact zbm_zr _ | exact (zbm_zr2 _).1 | exact (zbm_zr2 _).2 | (unfold zr; omega)) ?_
  refine zH_ret (v := some (.inr (.inl (Int.bmod (Int.bmod v 4294967296) 65536)))) rfl (fun q => absurd q (by decide)) ?_
  refine ⟨congrArg (fun z => some (Sum.inr (Sum.inl z))) ?_, rfl⟩
  unfold zNar
  rw [if_neg (by decide), if_pos rfl]
set_option maxRecDepth 100000 in
set_option maxHeartbeats 4000000 in
theorem p_bNar02 {d : Nat} {h hl : Nat → Nat → Int} {v : Int} (ht : h 83 0 = 2) : zQ (d + 1) 10 [.inr (.inr (some 83)), .inr (.inl v)] (zs h hl) (fun r σ' => r = some (.inr (.inl (zNar 2 v))) ∧ σ' = zs h hl) := by
  refine zQ_of (Nat.le_of_ble_eq_true rfl) ?_
  show zH d 10 (0, [some (.inr (.inr (some 83))), some (.inr (.inl v)), none], [], (zs h hl)) _
  refine zH_go 2 (c' := (4, [some (.inr (.inr (some 83))), some (.inr (.inl v)), none], [.inl (h 83 0)], (zs h hl))) rfl ?_
  rw [ht]
  refine zH_sw rfl ⟨by decide, by decide⟩ (tgt := 42) rfl ?_
  show zH _ _ (42, [some (.inr (.inr (some 83))), some (.inr (.inl v)), none], [], (zs h hl)) _
  refine zH_go 2 (c' := (44, [some (.inr (.inr (some 83))), some (.inr (.inl v)), none], [.inl (Int.bmod v 4294967296)], (zs h hl))) rfl ?_
  refine zH_np (P := zr (Int.bmod v 4294967296)) (c' := (45, [some (.inr (.inr (some 83))), some (.inr (.inl v)), none], [.inr (.inl (Int.bmod v 4294967296))], (zs h hl))) rfl (by first | assumption | exact zbm_zr _ | exact (zbm_zr2 _).1 | exact (zbm_zr2 _).2 | (unfold zr; omega)) ?_
  refine zH_ret (v := some (.inr (.inl (Int.bmod v 4294967296)))) rfl (fun q => absurd q (by decide)) ?_
  refine ⟨congrArg (fun z => some (Sum.inr (Sum.inl z))) ?_, rfl⟩
  unfold zNar
  rw [if_neg (by decide), if_neg (by decide), if_pos rfl]
set_option maxRecDepth 100000 in
set_option maxHeartbeats 4000000 in
theorem p_bNar03 {d : Nat} {h hl : Nat → Nat → Int} {v : Int} (ht : h 83 0 = 3) : zQ (d + 1) 10 [.inr (.inr (some 83)), .inr (.inl v)] (zs h hl) (fun r σ' => r = some (.inr (.inl (zNar 3 v))) ∧ σ' = zs h hl) := by
  refine zQ_of (Nat.le_of_ble_eq_true rfl) ?_
  show zH d 10 (0, [some (.inr (.inr (some 83))), some (.inr (.inl v)), none], [], (zs h hl)) _
  refine zH_go 2 (c' := (4, [some (.inr (.inr (some 83))), some (.inr (.inl v)), none], [.inl (h 83 0)], (zs h hl))) rfl ?_
  rw [ht]
  refine zH_sw rfl ⟨by decide, by decide⟩ (tgt := 46) rfl ?_
  show zH _ _ (46, [some (.inr (.inr (some 83))), some (.inr (.inl v)), none], [], (zs h hl)) _
  refine zH_go 1 (c' := (47, [some (.inr (.inr (some 83))), some (.inr (.inl v)), none], [.inr (.inl v)], (zs h hl))) rfl ?_
  refine zH_ret (v := some (.inr (.inl v))) rfl (fun q => absurd q (by decide)) ?_
  refine ⟨congrArg (fun z => some (Sum.inr (Sum.inl z))) ?_, rfl⟩
  unfold zNar
  rw [if_neg (by decide), if_neg (by decide), if_neg (by decide)]
theorem p_bNar0 {d : Nat} {h hl : Nat → Nat → Int} {v t : Int} (ht3 : 0 ≤ t ∧ t ≤ 3) (ht : h 83 0 = t) : zQ (d + 1) 10 [.inr (.inr (some 83)), .inr (.inl v)] (zs h hl) (fun r σ' => r = some (.inr (.inl (zNar t v))) ∧ σ' = zs h hl) := by
  rcases (show t = 0 ∨ t = 1 ∨ t = 2 ∨ t = 3 by omega) with rfl | rfl | rfl | rfl
  · exact p_bNar00 ht
  · exact p_bNar01 ht
  · exact p_bNar02 ht
  · exact p_bNar03 ht
set_option maxRecDepth 100000 in
set_option maxHeartbeats 4000000 in
theorem p_bOpen0 {d : Nat} {h hl : Nat → Nat → Int} {t n : Int} : zQ (d + 1) 6 [.inr (.inr (some 83)), .inl t, .inl n] (zs h hl) (fun r σ' => r = none ∧ ∃ g : Nat → Nat → Int, σ' = zs g hl ∧ (∀ c : Nat, c ≠ 83 → c ≠ 84 → g c = h c) ∧ g 83 0 = t ∧ g 83 1 = n ∧ ∀ q : Nat, q < 4 → g 84 q = -1) := by
  refine zQ_of (Nat.le_of_ble_eq_true rfl) ?_
  show zH d 6 (0, [some (.inr (.inr (some 83))), some (.inl t), some (.inl n), none], [], (zs h hl)) _
  refine zH_go 12 (c' := (18, [some (.inr (.inr (some 83))), some (.inl t), some (.inl n), some (.inl 0)], [.inl 4, .inl 0], (zs (zup (zup h 83 0 t) 83 1 n) hl))) rfl ?_
  refine zH_bf (x := 0) (y := 4) (k := .ge) (c1 := (34, [some (.inr (.inr (some 83))), some (.inl t), some (.inl n), some (.inl 0)], [], (zs (zup (zup h 83 0 t) 83 1 n) hl))) (c2 := (21, [some (.inr (.inr (some 83))), some (.inl t), some (.inl n), some (.inl 0)], [], (zs (zup (zup h 83 0 t) 83 1 n) hl))) rfl ⟨by decide, by decide⟩ ⟨by decide, by decide⟩ (by show ¬ (¬ 0 < 4); decide) ?_
  refine zH_go 4 (c' := (27, [some (.inr (.inr (some 83))), some (.inl t), some (.inl n), some (.inl 0)], [.inl (-1), .inl 0, .inr (.inr (some 84))], (zs (zup (zup h 83 0 t) 83 1 n) hl))) rfl ?_
  refine zH_np (P := 0 ≤ 0 ∧ 0 < ((4 : Nat) : Int)) (c' := (28, [some (.inr (.inr (some 83))), some (.inl t), some (.inl n), some (.inl 0)], [], (zs (zup (zup (zup h 83 0 t) 83 1 n) 84 0 (-1)) hl))) rfl ⟨by decide, by decide⟩ ?_
  refine zH_go 6 (c' := (18, [some (.inr (.inr (some 83))), some (.inl t), some (.inl n), some (.inl 1)], [.inl 4, .inl 1], (zs (zup (zup (zup h 83 0 t) 83 1 n) 84 0 (-1)) hl))) rfl ?_
  refine zH_bf (x := 1) (y := 4) (k := .ge) (c1 := (34, [some (.inr (.inr (some 83))), some (.inl t), some (.inl n), some (.inl 1)], [], (zs (zup (zup (zup h 83 0 t) 83 1 n) 84 0 (-1)) hl))) (c2 := (21, [some (.inr (.inr (some 83))), some (.inl t), some (.inl n), some (.inl 1)], [], (zs (zup (zup (zup h 83 0 t) 83 1 n) 84 0 (-1)) hl))) rfl ⟨by decide, by decide⟩ ⟨by decide, by decide⟩ (by show ¬ (¬ 1 < 4); decide) ?_
  refine zH_go 4 (c' := (27, [some (.inr (.inr (some 83))), some (.inl t), some (.inl n), some (.inl 1)], [.inl (-1), .inl 1, .inr (.inr (some 84))], (zs (zup (zup (zup h 83 0 t) 83 1 n) 84 0 (-1)) hl))) rfl ?_
  refine zH_np (P := 0 ≤ 1 ∧ 1 < ((4 : Nat) : Int)) (c' := (28, [some (.inr (.inr (some 83))), some (.inl t), some (.inl n), some (.inl 1)], [], (zs (zup (zup (zup (zup h 83 0 t) 83 1 n) 84 0 (-1)) 84 1 (-1)) hl))) rfl ⟨by decide, by decide⟩ ?_
  refine zH_go 6 (c' := (18, [some (.inr (.inr (some 83))), some (.inl t), some (.inl n), some (.inl 2)], [.inl 4, .inl 2], (zs (zup (zup (zup (zup h 83 0 t) 83 1 n) 84 0 (-1)) 84 1 (-1)) hl))) rfl ?_
  refine zH_bf (x := 2) (y := 4) (k := .ge) (c1 := (34, [some (.inr (.inr (some 83))), some (.inl t), some (.inl n), some (.inl 2)], [], (zs (zup (zup (zup (zup h 83 0 t) 83 1 n) 84 0 (-1)) 84 1 (-1)) hl))) (c2 := (21, [some (.inr (.inr (some 83))), some (.inl t), some (.inl n), some (.inl 2)], [], (zs (zup (zup (zup (zup h 83 0 t) 83 1 n) 84 0 (-1)) 84 1 (-1)) hl))) rfl ⟨by decide, by decide⟩ ⟨by decide, by decide⟩ (by show ¬ (¬ 2 < 4); decide) ?_
  refine zH_go 4 (c' := (27, [some (.inr (.inr (some 83))), some (.inl t), some (.inl n), some (.inl 2)], [.inl (-1), .inl 2, .inr (.inr (some 84))], (zs (zup (zup (zup (zup h 83 0 t) 83 1 n) 84 0 (-1)) 84 1 (-1)) hl))) rfl ?_
  refine zH_np (P := 0 ≤ 2 ∧ 2 < ((4 : Nat) : Int)) (c' := (28, [some (.inr (.inr (some 83))), some (.inl t), some (.inl n), some (.inl 2)], [], (zs (zup (zup (zup (zup (zup h 83 0 t) 83 1 n) 84 0 (-1)) 84 1 (-1)) 84 2 (-1)) hl))) rfl ⟨by decide, by decide⟩ ?_
  refine zH_go 6 (c' := (18, [some (.inr (.inr (some 83))), some (.inl t), some (.inl n), some (.inl 3)], [.inl 4, .inl 3], (zs (zup (zup (zup (zup (zup h 83 0 t) 83 1 n) 84 0 (-1)) 84 1 (-1)) 84 2 (-1)) hl))) rfl ?_
  refine zH_bf (x := 3) (y := 4) (k := .ge) (c1 := (34, [some (.inr (.inr (some 83))), some (.inl t), some (.inl n), some (.inl 3)], [], (zs (zup (zup (zup (zup (zup h 83 0 t) 83 1 n) 84 0 (-1)) 84 1 (-1)) 84 2 (-1)) hl))) (c2 := (21, [some (.inr (.inr (some 83))), some (.inl t), some (.inl n), some (.inl 3)], [], (zs (zup (zup (zup (zup (zup h 83 0 t) 83 1 n) 84 0 (-1)) 84 1 (-1)) 84 2 (-1)) hl))) rfl ⟨by decide, by decide⟩ ⟨by decide, by decide⟩ (by show ¬ (¬ 3 < 4); decide) ?_
  refine zH_go 4 (c' := (27, [some (.inr (.inr (some 83))), some (.inl t), some (.inl n), some (.inl 3)], [.inl (-1), .inl 3, .inr (.inr (some 84))], (zs (zup (zup (zup (zup (zup h 83 0 t) 83 1 n) 84 0 (-1)) 84 1 (-1)) 84 2 (-1)) hl))) rfl ?_
  refine zH_np (P := 0 ≤ 3 ∧ 3 < ((4 : Nat) : Int)) (c' := (28, [some (.inr (.inr (some 83))), some (.inl t), some (.inl n), some (.inl 3)], [], (zs (zup (zup (zup (zup (zup (zup h 83 0 t) 83 1 n) 84 0 (-1)) 84 1 (-1)) 84 2 (-1)) 84 3 (-1)) hl))) rfl ⟨by decide, by decide⟩ ?_
  refine zH_go 6 (c' := (18, [some (.inr (.inr (some 83))), some (.inl t), some (.inl n), some (.inl 4)], [.inl 4, .inl 4], (zs (zup (zup (zup (zup (zup (zup h 83 0 t) 83 1 n) 84 0 (-1)) 84 1 (-1)) 84 2 (-1)) 84 3 (-1)) hl))) rfl ?_
  refine zH_bt (x := 4) (y := 4) (k := .ge) (c1 := (34, [some (.inr (.inr (some 83))), some (.inl t), some (.inl n), some (.inl 4)], [], (zs (zup (zup (zup (zup (zup (zup h 83 0 t) 83 1 n) 84 0 (-1)) 84 1 (-1)) 84 2 (-1)) 84 3 (-1)) hl))) (c2 := (21, [some (.inr (.inr (some 83))), some (.inl t), some (.inl n), some (.inl 4)], [], (zs (zup (zup (zup (zup (zup (zup h 83 0 t) 83 1 n) 84 0 (-1)) 84 1 (-1)) 84 2 (-1)) 84 3 (-1)) hl))) rfl ⟨by decide, by decide⟩ ⟨by decide, by decide⟩ (by show ¬ 4 < 4; decide) ?_
  refine zH_ret (v := none) rfl (fun q => absurd q (by decide)) ?_
  refine ⟨rfl, _, rfl, fun c h1 h2 => ?_, by simp [zup_at], by simp [zup_at], fun q hq => ?_⟩
  · funext j; simp [zup_at, h1, h2]
  · rcases (show q = 0 ∨ q = 1 ∨ q = 2 ∨ q = 3 by omega) with rfl | rfl | rfl | rfl <;> simp [zup_at]
set_option maxRecDepth 100000 in
set_option maxHeartbeats 4000000 in
theorem p_bNum1 {d : Nat} {h hl : Nat → Nat → Int} {r i : Int} (hr : zr r) (hi : zr i) (hR : -1 ≤ h 90 1 ∧ h 90 1 ≤ 4) (hZ : ∀ q : Nat, q < 4 → -1 ≤ h 91 q ∧ h 91 q ≤ 8) : zQ (d + 3) 3 [.inr (.inr (some 90)), .inl r, .inl i] (zs h hl) (zB (zHasNum h 90 91 r i) (zs h hl)) := by
  refine zQ_of (Nat.le_of_ble_eq_true rfl) ?_
  show zH (d + 2) 3 (0, [some (.inr (.inr (some 90))), some (.inl r), some (.inl i)], [], (zs h hl)) _
  refine zH_go 1 (c' := (1, [some (.inr (.inr (some 90))), some (.inl r), some (.inl i)], [.inl i], (zs h hl))) rfl ?_
  refine zH_br (x := i) (y := 0) (k := .lt) (c1 := (23, [some (.inr (.inr (some 90))), some (.inl r), some (.inl i)], [], (zs h hl))) (c2 := (4, [some (.inr (.inr (some 90))), some (.inl r), some (.inl i)], [], (zs h hl))) rfl (by first | assumption | (unfold zr; omega)) ⟨by decide, by decide⟩ (fun (b_1 : i < 0) => ?_) (fun (b_1 : ¬ (i < 0)) => ?_)
  · refine zH_go 1 (c' := (24, [some (.inr (.inr (some 90))), some (.inl r), some (.inl i)], [.inl 0], (zs h hl))) rfl ?_
    refine zH_ret (v := some (.inl 0)) rfl (fun _ => by first | exact Or.inl rfl | exact Or.inr rfl) ?_
    refine Or.inr ⟨rfl, fun q => ?_, rfl⟩
    have q2 := q.2.1
    have q3 := q.2.2.1
    have q4 := q.2.2.2
    first
      | omega
      | (rcases x with ⟨w, rfl⟩ | ⟨w, rfl⟩
         · omega
         · exact w q.1)
  · refine zH_go 3 (c' := (7, [some (.inr (.inr (some 90))), some (.inl r), some (.inl i)], [.inl r, .inr (.inr (some 90)), .inl i], (zs h hl))) rfl ?_
    refine zH_call (M' := 4) (as := [.inr (.inr (some 90)), .inl r]) (T := [.inl i]) rfl (p_bSize1 hr hR hZ) (fun ρ σ' p_2 => ?_)
    obtain ⟨x, z_3, rfl, rfl⟩ := p_2
    have hx9 : -1 ≤ x ∧ x ≤ 8 := by
      rcases z_3 with ⟨q, rfl⟩ | ⟨q, rfl⟩
      · exact hZ _ (by have q1 := q.1; have q2 := q.2.2; omega)
      · omega
    show zH _ _ (10, [some (.inr (.inr (some 90))), some (.inl r), some (.inl i)], [.inl x, .inl i], (zs h hl)) _
    refine zH_br (x := i) (y := x) (k := .ge) (c1 := (23, [some (.inr (.inr (some 90))), some (.inl r), some (.inl i)], [], (zs h hl))) (c2 := (13, [some (.inr (.inr (some 90))), some (.inl r), some (.inl i)], [], (zs h hl))) rfl (by first | assumption | (unfold zr; omega)) (by first | assumption | (unfold zr; omega)) (fun (b_4 : ¬ i < x) => ?_) (fun (b_4 : ¬ (¬ i < x)) => ?_)
    · refine zH_go 1 (c' := (24, [some (.inr (.inr (some 90))), some (.inl r), some (.inl i)], [.inl 0], (zs h hl))) rfl ?_
      refine zH_ret (v := some (.inl 0)) rfl (fun _ => by first | exact Or.inl rfl | exact Or.inr rfl) ?_
      refine Or.inr ⟨rfl, fun q => ?_, rfl⟩
      have q2 := q.2.1
      have q3 := q.2.2.1
      have q4 := q.2.2.2
      first
        | omega
        | (rcases z_3 with ⟨w, rfl⟩ | ⟨w, rfl⟩
           · omega
           · exact w q.1)
    · refine zH_go 2 (c' := (16, [some (.inr (.inr (some 90))), some (.inl r), some (.inl i)], [.inl 8, .inl i], (zs h hl))) rfl ?_
      refine zH_br (x := i) (y := 8) (k := .ge) (c1 := (23, [some (.inr (.inr (some 90))), some (.inl r), some (.inl i)], [], (zs h hl))) (c2 := (19, [some (.inr (.inr (some 90))), some (.inl r), some (.inl i)], [], (zs h hl))) rfl (by first | assumption | (unfold zr; omega)) ⟨by decide, by decide⟩ (fun (b_5 : ¬ i < 8) => ?_) (fun (b_5 : ¬ (¬ i < 8)) => ?_)
      · refine zH_go 1 (c' := (24, [some (.inr (.inr (some 90))), some (.inl r), some (.inl i)], [.inl 0], (zs h hl))) rfl ?_
        refine zH_ret (v := some (.inl 0)) rfl (fun _ => by first | exact Or.inl rfl | exact Or.inr rfl) ?_
        refine Or.inr ⟨rfl, fun q => ?_, rfl⟩
        have q2 := q.2.1
        have q3 := q.2.2.1
        have q4 := q.2.2.2
        first
          | omega
          | (rcases z_3 with ⟨w, rfl⟩ | ⟨w, rfl⟩
             · omega
             · exact w q.1)
      · refine zH_go 2 (c' := (24, [some (.inr (.inr (some 90))), some (.inl r), some (.inl i)], [.inl 1], (zs h hl))) rfl ?_
        refine zH_ret (v := some (.inl 1)) rfl (fun _ => by first | exact Or.inl rfl | exact Or.inr rfl) ?_
        rcases z_3 with ⟨q, rfl⟩ | ⟨q, rfl⟩
        · exact Or.inl ⟨rfl, ⟨q, by omega, by omega, by omega⟩, rfl⟩
        · exfalso; omega
set_option maxRecDepth 100000 in
set_option maxHeartbeats 4000000 in
theorem p_bNar10 {d : Nat} {h hl : Nat → Nat → Int} {v : Int} (ht : h 90 0 = 0) : zQ (d + 1) 10 [.inr (.inr (some 90)), .inr (.inl v)] (zs h hl) (fun r σ' => r = some (.inr (.inl (zNar 0 v))) ∧ σ' = zs h hl) := by
  refine zQ_of (Nat.le_of_ble_eq_true rfl) ?_
  show zH d 10 (0, [some (.inr (.inr (some 90))), some (.inr (.inl v)), none], [], (zs h hl)) _
  refine zH_go 2 (c' := (4, [some (.inr (.inr (some 90))), some (.inr (.inl v)), none], [.inl (h 90 0)], (zs h hl))) rfl ?_
  rw [ht]
  refine zH_sw rfl ⟨by decide, by decide⟩ (tgt := 32) rfl ?_
  show zH _ _ (32, [some (.inr (.inr (some 90))), some (.inr (.inl v)), none], [], (zs h hl)) _
  refine zH_go 3 (c' := (35, [some (.inr (.inr (some 90))), some (.inr (.inl v)), none], [.inl (Int.bmod (Int.bmod v 4294967296) 256)], (zs h hl))) rfl ?_
  refine zH_np (P := zr (Int.bmod (Int.bmod v 4294967296) 256)) (c' := (36, [some (.inr (.inr (some 90))), some (.inr (.inl v)), none], [.inr (.inl (Int.bmod (Int.bmod v 4294967296) 256))], (zs h hl))) rfl (by first | assumption | exact zbm_zr _ | exact (zbm_zr2 _).1 | exact (zbm_zr2 _).2 | (unfold zr; omega)) ?_
  refine zH_ret (v := some (.inr (.inl (Int.bmod (Int.bmod v 4294967296) 256)))) rfl (fun q => absurd q (by decide)) ?_
  refine ⟨congrArg (fun z => some (Sum.inr (Sum.inl z))) ?_, rfl⟩
  unfold zNar
  rw [if_pos rfl]
set_option maxRecDepth 100000 in
set_option maxHeartbeats 4000000 in
theorem p_bNar11 {d : Nat} {h hl : Nat → Nat → Int} {v : Int} (ht : h 90 0 = 1) : zQ (d + 1) 10 [.inr (.inr (some 90)), .inr (.inl v)] (zs h hl) (fun r σ' => r = some (.inr (.inl (zNar 1 v))) ∧ σ' = zs h hl) := by
  refine zQ_of (Nat.le_of_ble_eq_true rfl) ?_
  show zH d 10 (0, [some (.inr (.inr (some 90))), some (.inr (.inl v)), none], [], (zs h hl)) _
  refine zH_go 2 (c' := (4, [some (.inr (.inr (some 90))), some (.inr (.inl v)), none], [.inl (h 90 0)], (zs h hl))) rfl ?_
  rw [ht]
  refine zH_sw rfl ⟨by decide, by decide⟩ (tgt := 37) rfl ?_
  show zH _ _ (37, [some (.inr (.inr (some 90))), some (.inr (.inl v)), none], [], (zs h hl)) _
  refine zH_go 3 (c' := (40, [some (.inr (.inr (some 90))), some (.inr (.inl v)), none], [.inl (Int.bmod (Int.bmod v 4294967296) 65536)], (zs h hl))) rfl ?_
  refine zH_np (P := zr (Int.bmod (Int.bmod v 4294967296) 65536)) (c' := (41, [some (.inr (.inr (some 90))), some (.inr (.inl v)), none], [.inr (.inl (Int.bmod (Int.bmod v 4294967296) 65536))], (zs h hl))) rfl (by first | assumption | exact zbm_zr _ | exact (zbm_zr2 _).1 | exact (zbm_zr2 _).2 | (unfold zr; omega)) ?_
  refine zH_ret (v := some (.inr (.inl (Int.bmod (Int.bmod v 4294967296) 65536)))) rfl (fun q => absurd q (by decide)) ?_
  refine ⟨congrArg (fun z => some (Sum.inr (Sum.inl z))) ?_, rfl⟩
  unfold zNar
  rw [if_neg (by decide), if_pos rfl]
set_option maxRecDepth 100000 in
set_option maxHeartbeats 4000000 in
theorem p_bNar12 {d : Nat} {h hl : Nat → Nat → Int} {v : Int} (ht : h 90 0 = 2) : zQ (d + 1) 10 [.inr (.inr (some 90)), .inr (.inl v)] (zs h hl) (fun r σ' => r = some (.inr (.inl (zNar 2 v))) ∧ σ' = zs h hl) := by
  refine zQ_of (Nat.le_of_ble_eq_true rfl) ?_
  show zH d 10 (0, [some (.inr (.inr (some 90))), some (.inr (.inl v)), none], [], (zs h hl)) _
  refine zH_go 2 (c' := (4, [some (.inr (.inr (some 90))), some (.inr (.inl v)), none], [.inl (h 90 0)], (zs h hl))) rfl ?_
  rw [ht]
  refine zH_sw rfl ⟨by decide, by decide⟩ (tgt := 42) rfl ?_
  show zH _ _ (42, [some (.inr (.inr (some 90))), some (.inr (.inl v)), none], [], (zs h hl)) _
  refine zH_go 2 (c' := (44, [some (.inr (.inr (some 90))), some (.inr (.inl v)), none], [.inl (Int.bmod v 4294967296)], (zs h hl))) rfl ?_
  refine zH_np (P := zr (Int.bmod v 4294967296)) (c' := (45, [some (.inr (.inr (some 90))), some (.inr (.inl v)), none], [.inr (.inl (Int.bmod v 4294967296))], (zs h hl))) rfl (by first | assumption | exact zbm_zr _ | exact (zbm_zr2 _).1 | exact (zbm_zr2 _).2 | (unfold zr; omega)) ?_
  refine zH_ret (v := some (.inr (.inl (Int.bmod v 4294967296)))) rfl (fun q => absurd q (by decide)) ?_
  refine ⟨congrArg (fun z => some (Sum.inr (Sum.inl z))) ?_, rfl⟩
  unfold zNar
  rw [if_neg (by decide), if_neg (by decide), if_pos rfl]
set_option maxRecDepth 100000 in
set_option maxHeartbeats 4000000 in
theorem p_bNar13 {d : Nat} {h hl : Nat → Nat → Int} {v : Int} (ht : h 90 0 = 3) : zQ (d + 1) 10 [.inr (.inr (some 90)), .inr (.inl v)] (zs h hl) (fun r σ' => r = some (.inr (.inl (zNar 3 v))) ∧ σ' = zs h hl) := by
  refine zQ_of (Nat.le_of_ble_eq_true rfl) ?_
  show zH d 10 (0, [some (.inr (.inr (some 90))), some (.inr (.inl v)), none], [], (zs h hl)) _
  refine zH_go 2 (c' := (4, [some (.inr (.inr (some 90))), some (.inr (.inl v)), none], [.inl (h 90 0)], (zs h hl))) rfl ?_
  rw [ht]
  refine zH_sw rfl ⟨by decide, by decide⟩ (tgt := 46) rfl ?_
  show zH _ _ (46, [some (.inr (.inr (some 90))), some (.inr (.inl v)), none], [], (zs h hl)) _
  refine zH_go 1 (c' := (47, [some (.inr (.inr (some 90))), some (.inr (.inl v)), none], [.inr (.inl v)], (zs h hl))) rfl ?_
  refine zH_ret (v := some (.inr (.inl v))) rfl (fun q => absurd q (by decide)) ?_
  refine ⟨congrArg (fun z => some (Sum.inr (Sum.inl z))) ?_, rfl⟩
  unfold zNar
  rw [if_neg (by decide), if_neg (by decide), if_neg (by decide)]
theorem p_bNar1 {d : Nat} {h hl : Nat → Nat → Int} {v t : Int} (ht3 : 0 ≤ t ∧ t ≤ 3) (ht : h 90 0 = t) : zQ (d + 1) 10 [.inr (.inr (some 90)), .inr (.inl v)] (zs h hl) (fun r σ' => r = some (.inr (.inl (zNar t v))) ∧ σ' = zs h hl) := by
  rcases (show t = 0 ∨ t = 1 ∨ t = 2 ∨ t = 3 by omega) with rfl | rfl | rfl | rfl
  · exact p_bNar10 ht
  · exact p_bNar11 ht
  · exact p_bNar12 ht
  · exact p_bNar13 ht
set_option maxRecDepth 100000 in
set_option maxHeartbeats 4000000 in
theorem p_bOpen1 {d : Nat} {h hl : Nat → Nat → Int} {t n : Int} : zQ (d + 1) 6 [.inr (.inr (some 90)), .inl t, .inl n] (zs h hl) (fun r σ' => r = none ∧ ∃ g : Nat → Nat → Int, σ' = zs g hl ∧ (∀ c : Nat, c ≠ 90 → c ≠ 91 → g c = h c) ∧ g 90 0 = t ∧ g 90 1 = n ∧ ∀ q : Nat, q < 4 → g 91 q = -1) := by
  refine zQ_of (Nat.le_of_ble_eq_true rfl) ?_
  show zH d 6 (0, [some (.inr (.inr (some 90))), some (.inl t), some (.inl n), none], [], (zs h hl)) _
  refine zH_go 12 (c' := (18, [some (.inr (.inr (some 90))), some (.inl t), some (.inl n), some (.inl 0)], [.inl 4, .inl 0], (zs (zup (zup h 90 0 t) 90 1 n) hl))) rfl ?_
  refine zH_bf (x := 0) (y := 4) (k := .ge) (c1 := (34, [some (.inr (.inr (some 90))), some (.inl t), some (.inl n), some (.inl 0)], [], (zs (zup (zup h 90 0 t) 90 1 n) hl))) (c2 := (21, [some (.inr (.inr (some 90))), some (.inl t), some (.inl n), some (.inl 0)], [], (zs (zup (zup h 90 0 t) 90 1 n) hl))) rfl ⟨by decide, by decide⟩ ⟨by decide, by decide⟩ (by show ¬ (¬ 0 < 4); decide) ?_
  refine zH_go 4 (c' := (27, [some (.inr (.inr (some 90))), some (.inl t), some (.inl n), some (.inl 0)], [.inl (-1), .inl 0, .inr (.inr (some 91))], (zs (zup (zup h 90 0 t) 90 1 n) hl))) rfl ?_
  refine zH_np (P := 0 ≤ 0 ∧ 0 < ((4 : Nat) : Int)) (c' := (28, [some (.inr (.inr (some 90))), some (.inl t), some (.inl n), some (.inl 0)], [], (zs (zup (zup (zup h 90 0 t) 90 1 n) 91 0 (-1)) hl))) rfl ⟨by decide, by decide⟩ ?_
  refine zH_go 6 (c' := (18, [some (.inr (.inr (some 90))), some (.inl t), some (.inl n), some (.inl 1)], [.inl 4, .inl 1], (zs (zup (zup (zup h 90 0 t) 90 1 n) 91 0 (-1)) hl))) rfl ?_
  refine zH_bf (x := 1) (y := 4) (k := .ge) (c1 := (34, [some (.inr (.inr (some 90))), some (.inl t), some (.inl n), some (.inl 1)], [], (zs (zup (zup (zup h 90 0 t) 90 1 n) 91 0 (-1)) hl))) (c2 := (21, [some (.inr (.inr (some 90))), some (.inl t), some (.inl n), some (.inl 1)], [], (zs (zup (zup (zup h 90 0 t) 90 1 n) 91 0 (-1)) hl))) rfl ⟨by decide, by decide⟩ ⟨by decide, by decide⟩ (by show ¬ (¬ 1 < 4); decide) ?_
  refine zH_go 4 (c' := (27, [some (.inr (.inr (some 90))), some (.inl t), some (.inl n), some (.inl 1)], [.inl (-1), .inl 1, .inr (.inr (some 91))], (zs (zup (zup (zup h 90 0 t) 90 1 n) 91 0 (-1)) hl))) rfl ?_
  refine zH_np (P := 0 ≤ 1 ∧ 1 < ((4 : Nat) : Int)) (c' := (28, [some (.inr (.inr (some 90))), some (.inl t), some (.inl n), some (.inl 1)], [], (zs (zup (zup (zup (zup h 90 0 t) 90 1 n) 91 0 (-1)) 91 1 (-1)) hl))) rfl ⟨by decide, by decide⟩ ?_
  refine zH_go 6 (c' := (18, [some (.inr (.inr (some 90))), some (.inl t), some (.inl n), some (.inl 2)], [.inl 4, .inl 2], (zs (zup (zup (zup (zup h 90 0 t) 90 1 n) 91 0 (-1)) 91 1 (-1)) hl))) rfl ?_
  refine zH_bf (x := 2) (y := 4) (k := .ge) (c1 := (34, [some (.inr (.inr (some 90))), some (.inl t), some (.inl n), some (.inl 2)], [], (zs (zup (zup (zup (zup h 90 0 t) 90 1 n) 91 0 (-1)) 91 1 (-1)) hl))) (c2 := (21, [some (.inr (.inr (some 90))), some (.inl t), some (.inl n), some (.inl 2)], [], (zs (zup (zup (zup (zup h 90 0 t) 90 1 n) 91 0 (-1)) 91 1 (-1)) hl))) rfl ⟨by decide, by decide⟩ ⟨by decide, by decide⟩ (by show ¬ (¬ 2 < 4); decide) ?_
  refine zH_go 4 (c' := (27, [some (.inr (.inr (some 90))), some (.inl t), some (.inl n), some (.inl 2)], [.inl (-1), .inl 2, .inr (.inr (some 91))], (zs (zup (zup (zup (zup h 90 0 t) 90 1 n) 91 0 (-1)) 91 1 (-1)) hl))) rfl ?_
  refine zH_np (P := 0 ≤ 2 ∧ 2 < ((4 : Nat) : Int)) (c' := (28, [some (.inr (.inr (some 90))), some (.inl t), some (.inl n), some (.inl 2)], [], (zs (zup (zup (zup (zup (zup h 90 0 t) 90 1 n) 91 0 (-1)) 91 1 (-1)) 91 2 (-1)) hl))) rfl ⟨by decide, by decide⟩ ?_
  refine zH_go 6 (c' := (18, [some (.inr (.inr (some 90))), some (.inl t), some (.inl n), some (.inl 3)], [.inl 4, .inl 3], (zs (zup (zup (zup (zup (zup h 90 0 t) 90 1 n) 91 0 (-1)) 91 1 (-1)) 91 2 (-1)) hl))) rfl ?_
  refine zH_bf (x := 3) (y := 4) (k := .ge) (c1 := (34, [some (.inr (.inr (some 90))), some (.inl t), some (.inl n), some (.inl 3)], [], (zs (zup (zup (zup (zup (zup h 90 0 t) 90 1 n) 91 0 (-1)) 91 1 (-1)) 91 2 (-1)) hl))) (c2 := (21, [some (.inr (.inr (some 90))), some (.inl t), some (.inl n), some (.inl 3)], [], (zs (zup (zup (zup (zup (zup h 90 0 t) 90 1 n) 91 0 (-1)) 91 1 (-1)) 91 2 (-1)) hl))) rfl ⟨by decide, by decide⟩ ⟨by decide, by decide⟩ (by show ¬ (¬ 3 < 4); decide) ?_
  refine zH_go 4 (c' := (27, [some (.inr (.inr (some 90))), some (.inl t), some (.inl n), some (.inl 3)], [.inl (-1), .inl 3, .inr (.inr (some 91))], (zs (zup (zup (zup (zup (zup h 90 0 t) 90 1 n) 91 0 (-1)) 91 1 (-1)) 91 2 (-1)) hl))) rfl ?_
  refine zH_np (P := 0 ≤ 3 ∧ 3 < ((4 : Nat) : Int)) (c' := (28, [some (.inr (.inr (some 90))), some (.inl t), some (.inl n), some (.inl 3)], [], (zs (zup (zup (zup (zup (zup (zup h 90 0 t) 90 1 n) 91 0 (-1)) 91 1 (-1)) 91 2 (-1)) 91 3 (-1)) hl))) rfl ⟨by decide, by decide⟩ ?_
  refine zH_go 6 (c' := (18, [some (.inr (.inr (some 90))), some (.inl t), some (.inl n), some (.inl 4)], [.inl 4, .inl 4], (zs (zup (zup (zup (zup (zup (zup h 90 0 t) 90 1 n) 91 0 (-1)) 91 1 (-1)) 91 2 (-1)) 91 3 (-1)) hl))) rfl ?_
  refine zH_bt (x := 4) (y := 4) (k := .ge) (c1 := (34, [some (.inr (.inr (some 90))), some (.inl t), some (.inl n), some (.inl 4)], [], (zs (zup (zup (zup (zup (zup (zup h 90 0 t) 90 1 n) 91 0 (-1)) 91 1 (-1)) 91 2 (-1)) 91 3 (-1)) hl))) (c2 := (21, [some (.inr (.inr (some 90))), some (.inl t), some (.inl n), some (.inl 4)], [], (zs (zup (zup (zup (zup (zup (zup h 90 0 t) 90 1 n) 91 0 (-1)) 91 1 (-1)) 91 2 (-1)) 91 3 (-1)) hl))) rfl ⟨by decide, by decide⟩ ⟨by decide, by decide⟩ (by show ¬ 4 < 4; decide) ?_
  refine zH_ret (v := none) rfl (fun q => absurd q (by decide)) ?_
  refine ⟨rfl, _, rfl, fun c h1 h2 => ?_, by simp [zup_at], by simp [zup_at], fun q hq => ?_⟩
  · funext j; simp [zup_at, h1, h2]
  · rcases (show q = 0 ∨ q = 1 ∨ q = 2 ∨ q = 3 by omega) with rfl | rfl | rfl | rfl <;> simp [zup_at]
set_option maxRecDepth 100000 in
set_option maxHeartbeats 4000000 in
theorem p_bNum2 {d : Nat} {h hl : Nat → Nat → Int} {r i : Int} (hr : zr r) (hi : zr i) (hR : -1 ≤ h 97 1 ∧ h 97 1 ≤ 4) (hZ : ∀ q : Nat, q < 4 → -1 ≤ h 98 q ∧ h 98 q ≤ 8) : zQ (d + 3) 3 [.inr (.inr (some 97)), .inl r, .inl i] (zs h hl) (zB (zHasNum h 97 98 r i) (zs h hl)) := by
  refine zQ_of (Nat.le_of_ble_eq_true rfl) ?_
  show zH (d + 2) 3 (0, [some (.inr (.inr (some 97))), some (.inl r), some (.inl i)], [], (zs h hl)) _
  refine zH_go 1 (c' := (1, [some (.inr (.inr (some 97))), some (.inl r), some (.inl i)], [.inl i], (zs h hl))) rfl ?_
  refine zH_br (x := i) (y := 0) (k := .lt) (c1 := (23, [some (.inr (.inr (some 97))), some (.inl r), some (.inl i)], [], (zs h hl))) (c2 := (4, [some (.inr (.inr (some 97))), some (.inl r), some (.inl i)], [], (zs h hl))) rfl (by first | assumption | (unfold zr; omega)) ⟨by decide, by decide⟩ (fun (b_1 : i < 0) => ?_) (fun (b_1 : ¬ (i < 0)) => ?_)
  · refine zH_go 1 (c' := (24, [some (.inr (.inr (some 97))), some (.inl r), some (.inl i)], [.inl 0], (zs h hl))) rfl ?_
    refine zH_ret (v := some (.inl 0)) rfl (fun _ => by first | exact Or.inl rfl | exact Or.inr rfl) ?_
    refine Or.inr ⟨rfl, fun q => ?_, rfl⟩
    have q2 := q.2.1
    have q3 := q.2.2.1
    have q4 := q.2.2.2
    first
      | omega
      | (rcases x with ⟨w, rfl⟩ | ⟨w, rfl⟩
         · omega
         · exact w q.1)
  · refine zH_go 3 (c' := (7, [some (.inr (.inr (some 97))), some (.inl r), some (.inl i)], [.inl r, .inr (.inr (some 97)), .inl i], (zs h hl))) rfl ?_
    refine zH_call (M' := 4) (as := [.inr (.inr (some 97)), .inl r]) (T := [.inl i]) rfl (p_bSize2 hr hR hZ) (fun ρ σ' p_2 => ?_)
    obtain ⟨x, z_3, rfl, rfl⟩ := p_2
    have hx9 : -1 ≤ x ∧ x ≤ 8 := by
      rcases z_3 with ⟨q, rfl⟩ | ⟨q, rfl⟩
      · exact hZ _ (by have q1 := q.1; have q2 := q.2.2; omega)
      · omega
    show zH _ _ (10, [some (.inr (.inr (some 97))), some (.inl r), some (.inl i)], [.inl x, .inl i], (zs h hl)) _
    refine zH_br (x := i) (y := x) (k := .ge) (c1 := (23, [some (.inr (.inr (some 97))), some (.inl r), some (.inl i)], [], (zs h hl))) (c2 := (13, [some (.inr (.inr (some 97))), some (.inl r), some (.inl i)], [], (zs h hl))) rfl (by first | assumption | (unfold zr; omega)) (by first | assumption | (unfold zr; omega)) (fun (b_4 : ¬ i < x) => ?_) (fun (b_4 : ¬ (¬ i < x)) => ?_)
    · refine zH_go 1 (c' := (24, [some (.inr (.inr (some 97))), some (.inl r), some (.inl i)], [.inl 0], (zs h hl))) rfl ?_
      refine zH_ret (v := some (.inl 0)) rfl (fun _ => by first | exact Or.inl rfl | exact Or.inr rfl) ?_
      refine Or.inr ⟨rfl, fun q => ?_, rfl⟩
      have q2 := q.2.1
      have q3 := q.2.2.1
      have q4 := q.2.2.2
      first
        | omega
        | (rcases z_3 with ⟨w, rfl⟩ | ⟨w, rfl⟩
           · omega
           · exact w q.1)
    · refine zH_go 2 (c' := (16, [some (.inr (.inr (some 97))), some (.inl r), some (.inl i)], [.inl 8, .inl i], (zs h hl))) rfl ?_
      refine zH_br (x := i) (y := 8) (k := .ge) (c1 := (23, [some (.inr (.inr (some 97))), some (.inl r), some (.inl i)], [], (zs h hl))) (c2 := (19, [some (.inr (.inr (some 97))), some (.inl r), some (.inl i)], [], (zs h hl))) rfl (by first | assumption | (unfold zr; omega)) ⟨by decide, by decide⟩ (fun (b_5 : ¬ i < 8) => ?_) (fun (b_5 : ¬ (¬ i < 8)) => ?_)
      · refine zH_go 1 (c' := (24, [some (.inr (.inr (some 97))), some (.inl r), some (.inl i)], [.inl 0], (zs h hl))) rfl ?_
        refine zH_ret (v := some (.inl 0)) rfl (fun _ => by first | exact Or.inl rfl | exact Or.inr rfl) ?_
        refine Or.inr ⟨rfl, fun q => ?_, rfl⟩
        have q2 := q.2.1
        have q3 := q.2.2.1
        have q4 := q.2.2.2
        first
          | omega
          | (rcases z_3 with ⟨w, rfl⟩ | ⟨w, rfl⟩
             · omega
             · exact w q.1)
      · refine zH_go 2 (c' := (24, [some (.inr (.inr (some 97))), some (.inl r), some (.inl i)], [.inl 1], (zs h hl))) rfl ?_
        refine zH_ret (v := some (.inl 1)) rfl (fun _ => by first | exact Or.inl rfl | exact Or.inr rfl) ?_
        rcases z_3 with ⟨q, rfl⟩ | ⟨q, rfl⟩
        · exact Or.inl ⟨rfl, ⟨q, by omega, by omega, by omega⟩, rfl⟩
        · exfalso; omega
set_option maxRecDepth 100000 in
set_option maxHeartbeats 4000000 in
theorem p_bNar20 {d : Nat} {h hl : Nat → Nat → Int} {v : Int} (ht : h 97 0 = 0) : zQ (d + 1) 10 [.inr (.inr (some 97)), .inr (.inl v)] (zs h hl) (fun r σ' => r = some (.inr (.inl (zNar 0 v))) ∧ σ' = zs h hl) := by
  refine zQ_of (Nat.le_of_ble_eq_true rfl) ?_
  show zH d 10 (0, [some (.inr (.inr (some 97))), some (.inr (.inl v)), none], [], (zs h hl)) _
  refine zH_go 2 (c' := (4, [some (.inr (.inr (some 97))), some (.inr (.inl v)), none], [.inl (h 97 0)], (zs h hl))) rfl ?_
  rw [ht]
  refine zH_sw rfl ⟨by decide, by decide⟩ (tgt := 32) rfl ?_
  show zH _ _ (32, [some (.inr (.inr (some 97))), some (.inr (.inl v)), none], [], (zs h hl)) _
  refine zH_go 3 (c' := (35, [some (.inr (.inr (some 97))), some (.inr (.inl v)), none], [.inl (Int.bmod (Int.bmod v 4294967296) 256)], (zs h hl))) rfl ?_
  refine zH_np (P := zr (Int.bmod (Int.bmod v 4294967296) 256)) (c' := (36, [some (.inr (.inr (some 97))), some (.inr (.inl v)), none], [.inr (.inl (Int.bmod (Int.bmod v 4294967296) 256))], (zs h hl))) rfl (by first | assumption | exact zbm_zr _ | exact (zbm_zr2 _).1 | exact (zbm_zr2 _).2 | (unfold zr; omega)) ?_
  refine zH_ret (v := some (.inr (.inl (Int.bmod (Int.bmod v 4294967296) 256)))) rfl (fun q => absurd q (by decide)) ?_
  refine ⟨congrArg (fun z => some (Sum.inr (Sum.inl z))) ?_, rfl⟩
  unfold zNar
  rw [if_pos rfl]
set_option maxRecDepth 100000 in
set_option maxHeartbeats 4000000 in
theorem p_bNar21 {d : Nat} {h hl : Nat → Nat → Int} {v : Int} (ht : h 97 0 = 1) : zQ (d + 1) 10 [.inr (.inr (some 97)), .inr (.inl v)] (zs h hl) (fun r σ' => r = some (.inr (.inl (zNar 1 v))) ∧ σ' = zs h hl) := by
  refine zQ_of (Nat.le_of_ble_eq_true rfl) ?_
  show zH d 10 (0, [some (.inr (.inr (some 97))), some (.inr (.inl v)), none], [], (zs h hl)) _
  refine zH_go 2 (c' := (4, [some (.inr (.inr (some 97))), some (.inr (.inl v)), none], [.inl (h 97 0)], (zs h hl))) rfl ?_
  rw [ht]
  refine zH_sw rfl ⟨by decide, by decide⟩ (tgt := 37) rfl ?_
  show zH _ _ (37, [some (.inr (.inr (some 97))), some (.inr (.inl v)), none], [], (zs h hl)) _
  refine zH_go 3 (c' := (40, [some (.inr (.inr (some 97))), some (.inr (.inl v)), none], [.inl (Int.bmod (Int.bmod v 4294967296) 65536)], (zs h hl))) rfl ?_
  refine zH_np (P := zr (Int.bmod (Int.bmod v 4294967296) 65536)) (c' := (41, [some (.inr (.inr (some 97))), some (.inr (.inl v)), none], [.inr (.inl (Int.bmod (Int.bmod v 4294967296) 65536))], (zs h hl))) rfl (by first | assumption | exact zbm_zr _ | exact (zbm_zr2 _).1 | exact (zbm_zr2 _).2 | (unfold zr; omega)) ?_
  refine zH_ret (v := some (.inr (.inl (Int.bmod (Int.bmod v 4294967296) 65536)))) rfl (fun q => absurd q (by decide)) ?_
  refine ⟨congrArg (fun z => some (Sum.inr (Sum.inl z))) ?_, rfl⟩
  unfold zNar
  rw [if_neg (by decide), if_pos rfl]
set_option maxRecDepth 100000 in
set_option maxHeartbeats 4000000 in
theorem p_bNar22 {d : Nat} {h hl : Nat → Nat → Int} {v : Int} (ht : h 97 0 = 2) : zQ (d + 1) 10 [.inr (.inr (some 97)), .inr (.inl v)] (zs h hl) (fun r σ' => r = some (.inr (.inl (zNar 2 v))) ∧ σ' = zs h hl) := by
  refine zQ_of (Nat.le_of_ble_eq_true rfl) ?_
  show zH d 10 (0, [some (.inr (.inr (some 97))), some (.inr (.inl v)), none], [], (zs h hl)) _
  refine zH_go 2 (c' := (4, [some (.inr (.inr (some 97))), some (.inr (.inl v)), none], [.inl (h 97 0)], (zs h hl))) rfl ?_
  rw [ht]
  refine zH_sw rfl ⟨by decide, by decide⟩ (tgt := 42) rfl ?_
  show zH _ _ (42, [some (.inr (.inr (some 97))), some (.inr (.inl v)), none], [], (zs h hl)) _
  refine zH_go 2 (c' := (44, [some (.inr (.inr (some 97))), some (.inr (.inl v)), none], [.inl (Int.bmod v 4294967296)], (zs h hl))) rfl ?_
  refine zH_np (P := zr (Int.bmod v 4294967296)) (c' := (45, [some (.inr (.inr (some 97))), some (.inr (.inl v)), none], [.inr (.inl (Int.bmod v 4294967296))], (zs h hl))) rfl (by first | assumption | exact zbm_zr _ | exact (zbm_zr2 _).1 | exact (zbm_zr2 _).2 | (unfold zr; omega)) ?_
  refine zH_ret (v := some (.inr (.inl (Int.bmod v 4294967296)))) rfl (fun q => absurd q (by decide)) ?_
  refine ⟨congrArg (fun z => some (Sum.inr (Sum.inl z))) ?_, rfl⟩
  unfold zNar
  rw [if_neg (by decide), if_neg (by decide), if_pos rfl]
set_option maxRecDepth 100000 in
set_option maxHeartbeats 4000000 in
theorem p_bNar23 {d : Nat} {h hl : Nat → Nat → Int} {v : Int} (ht : h 97 0 = 3) : zQ (d + 1) 10 [.inr (.inr (some 97)), .inr (.inl v)] (zs h hl) (fun r σ' => r = some (.inr (.inl (zNar 3 v))) ∧ σ' = zs h hl) := by
  refine zQ_of (Nat.le_of_ble_eq_true rfl) ?_
  show zH d 10 (0, [some (.inr (.inr (some 97))), some (.inr (.inl v)), none], [], (zs h hl)) _
  refine zH_go 2 (c' := (4, [some (.inr (.inr (some 97))), some (.inr (.inl v)), none], [.inl (h 97 0)], (zs h hl))) rfl ?_
  rw [ht]
  refine zH_sw rfl ⟨by decide, by decide⟩ (tgt := 46) rfl ?_
  show zH _ _ (46, [some (.inr (.inr (some 97))), some (.inr (.inl v)), none], [], (zs h hl)) _
  refine zH_go 1 (c' := (47, [some (.inr (.inr (some 97))), some (.inr (.inl v)), none], [.inr (.inl v)], (zs h hl))) rfl ?_
  refine zH_ret (v := some (.inr (.inl v))) rfl (fun q => absurd q (by decide)) ?_
  refine ⟨congrArg (fun z => some (Sum.inr (Sum.inl z))) ?_, rfl⟩
  unfold zNar
  rw [if_neg (by decide), if_neg (by decide), if_neg (by decide)]
theorem p_bNar2 {d : Nat} {h hl : Nat → Nat → Int} {v t : Int} (ht3 : 0 ≤ t ∧ t ≤ 3) (ht : h 97 0 = t) : zQ (d + 1) 10 [.inr (.inr (some 97)), .inr (.inl v)] (zs h hl) (fun r σ' => r = some (.inr (.inl (zNar t v))) ∧ σ' = zs h hl) := by
  rcases (show t = 0 ∨ t = 1 ∨ t = 2 ∨ t = 3 by omega) with rfl | rfl | rfl | rfl
  · exact p_bNar20 ht
  · exact p_bNar21 ht
  · exact p_bNar22 ht
  · exact p_bNar23 ht
set_option maxRecDepth 100000 in
set_option maxHeartbeats 4000000 in
theorem p_bOpen2 {d : Nat} {h hl : Nat → Nat → Int} {t n : Int} : zQ (d + 1) 6 [.inr (.inr (some 97)), .inl t, .inl n] (zs h hl) (fun r σ' => r = none ∧ ∃ g : Nat → Nat → Int, σ' = zs g hl ∧ (∀ c : Nat, c ≠ 97 → c ≠ 98 → g c = h c) ∧ g 97 0 = t ∧ g 97 1 = n ∧ ∀ q : Nat, q < 4 → g 98 q = -1) := by
  refine zQ_of (Nat.le_of_ble_eq_true rfl) ?_
  show zH d 6 (0, [some (.inr (.inr (some 97))), some (.inl t), some (.inl n), none], [], (zs h hl)) _
  refine zH_go 12 (c' := (18, [some (.inr (.inr (some 97))), some (.inl t), some (.inl n), some (.inl 0)], [.inl 4, .inl 0], (zs (zup (zup h 97 0 t) 97 1 n) hl))) rfl ?_
  refine zH_bf (x := 0) (y := 4) (k := .ge) (c1 := (34, [some (.inr (.inr (some 97))), some (.inl t), some (.inl n), some (.inl 0)], [], (zs (zup (zup h 97 0 t) 97 1 n) hl))) (c2 := (21, [some (.inr (.inr (some 97))), some (.inl t), some (.inl n), some (.inl 0)], [], (zs (zup (zup h 97 0 t) 97 1 n) hl))) rfl ⟨by decide, by decide⟩ ⟨by decide, by decide⟩ (by show ¬ (¬ 0 < 4); decide) ?_
  refine zH_go 4 (c' := (27, [some (.inr (.inr (some 97))), some (.inl t), some (.inl n), some (.inl 0)], [.inl (-1), .inl 0, .inr (.inr (some 98))], (zs (zup (zup h 97 0 t) 97 1 n) hl))) rfl ?_
  refine zH_np (P := 0 ≤ 0 ∧ 0 < ((4 : Nat) : Int)) (c' := (28, [some (.inr (.inr (some 97))), some (.inl t), some (.inl n), some (.inl 0)], [], (zs (zup (zup (zup h 97 0 t) 97 1 n) 98 0 (-1)) hl))) rfl ⟨by decide, by decide⟩ ?_
  refine zH_go 6 (c' := (18, [some (.inr (.inr (some 97))), some (.inl t), some (.inl n), some (.inl 1)], [.inl 4, .inl 1], (zs (zup (zup (zup h 97 0 t) 97 1 n) 98 0 (-1)) hl))) rfl ?_
  refine zH_bf (x := 1) (y := 4) (k := .ge) (c1 := (34, [some (.inr (.inr (some 97))), some (.inl t), some (.inl n), some (.inl 1)], [], (zs (zup (zup (zup h 97 0 t) 97 1 n) 98 0 (-1)) hl))) (c2 := (21, [some (.inr (.inr (some 97))), some (.inl t), some (.inl n), some (.inl 1)], [], (zs (zup (zup (zup h 97 0 t) 97 1 n) 98 0 (-1)) hl))) rfl ⟨by decide, by decide⟩ ⟨by decide, by decide⟩ (by show ¬ (¬ 1 < 4); decide) ?_
  refine zH_go 4 (c' := (27, [some (.inr (.inr (some 97))), some (.inl t), some (.inl n), some (.inl 1)], [.inl (-1), .inl 1, .inr (.inr (some 98))], (zs (zup (zup (zup h 97 0 t) 97 1 n) 98 0 (-1)) hl))) rfl ?_
  refine zH_np (P := 0 ≤ 1 ∧ 1 < ((4 : Nat) : Int)) (c' := (28, [some (.inr (.inr (some 97))), some (.inl t), some (.inl n), some (.inl 1)], [], (zs (zup (zup (zup (zup h 97 0 t) 97 1 n) 98 0 (-1)) 98 1 (-1)) hl))) rfl ⟨by decide, by decide⟩ ?_
  refine zH_go 6 (c' := (18, [some (.inr (.inr (some 97))), some (.inl t), some (.inl n), some (.inl 2)], [.inl 4, .inl 2], (zs (zup (zup (zup (zup h 97 0 t) 97 1 n) 98 0 (-1)) 98 1 (-1)) hl))) rfl ?_
  refine zH_bf (x := 2) (y := 4) (k := .ge) (c1 := (34, [some (.inr (.inr (some 97))), some (.inl t), some (.inl n), some (.inl 2)], [], (zs (zup (zup (zup (zup h 97 0 t) 97 1 n) 98 0 (-1)) 98 1 (-1)) hl))) (c2 := (21, [some (.inr (.inr (some 97))), some (.inl t), some (.inl n), some (.inl 2)], [], (zs (zup (zup (zup (zup h 97 0 t) 97 1 n) 98 0 (-1)) 98 1 (-1)) hl))) rfl ⟨by decide, by decide⟩ ⟨by decide, by decide⟩ (by show ¬ (¬ 2 < 4); decide) ?_
  refine zH_go 4 (c' := (27, [some (.inr (.inr (some 97))), some (.inl t), some (.inl n), some (.inl 2)], [.inl (-1), .inl 2, .inr (.inr (some 98))], (zs (zup (zup (zup (zup h 97 0 t) 97 1 n) 98 0 (-1)) 98 1 (-1)) hl))) rfl ?_
  refine zH_np (P := 0 ≤ 2 ∧ 2 < ((4 : Nat) : Int)) (c' := (28, [some (.inr (.inr (some 97))), some (.inl t), some (.inl n), some (.inl 2)], [], (zs (zup (zup (zup (zup (zup h 97 0 t) 97 1 n) 98 0 (-1)) 98 1 (-1)) 98 2 (-1)) hl))) rfl ⟨by decide, by decide⟩ ?_
  refine zH_go 6 (c' := (18, [some (.inr (.inr (some 97))), some (.inl t), some (.inl n), some (.inl 3)], [.inl 4, .inl 3], (zs (zup (zup (zup (zup (zup h 97 0 t) 97 1 n) 98 0 (-1)) 98 1 (-1)) 98 2 (-1)) hl))) rfl ?_
  refine zH_bf (x := 3) (y := 4) (k := .ge) (c1 := (34, [some (.inr (.inr (some 97))), some (.inl t), some (.inl n), some (.inl 3)], [], (zs (zup (zup (zup (zup (zup h 97 0 t) 97 1 n) 98 0 (-1)) 98 1 (-1)) 98 2 (-1)) hl))) (c2 := (21, [some (.inr (.inr (some 97))), some (.inl t), some (.inl n), some (.inl 3)], [], (zs (zup (zup (zup (zup (zup h 97 0 t) 97 1 n) 98 0 (-1)) 98 1 (-1)) 98 2 (-1)) hl))) rfl ⟨by decide, by decide⟩ ⟨by decide, by decide⟩ (by show ¬ (¬ 3 < 4); decide) ?_
  refine zH_go 4 (c' := (27, [some (.inr (.inr (some 97))), some (.inl t), some (.inl n), some (.inl 3)], [.inl (-1), .inl 3, .inr (.inr (some 98))], (zs (zup (zup (zup (zup (zup h 97 0 t) 97 1 n) 98 0 (-1)) 98 1 (-1)) 98 2 (-1)) hl))) rfl ?_
  refine zH_np (P := 0 ≤ 3 ∧ 3 < ((4 : Nat) : Int)) (c' := (28, [some (.inr (.inr (some 97))), some (.inl t), some (.inl n), some (.inl 3)], [], (zs (zup (zup (zup (zup (zup (zup h 97 0 t) 97 1 n) 98 0 (-1)) 98 1 (-1)) 98 2 (-1)) 98 3 (-1)) hl))) rfl ⟨by decide, by decide⟩ ?_
  refine zH_go 6 (c' := (18, [some (.inr (.inr (some 97))), some (.inl t), some (.inl n), some (.inl 4)], [.inl 4, .inl 4], (zs (zup (zup (zup (zup (zup (zup h 97 0 t) 97 1 n) 98 0 (-1)) 98 1 (-1)) 98 2 (-1)) 98 3 (-1)) hl))) rfl ?_
  refine zH_bt (x := 4) (y := 4) (k := .ge) (c1 := (34, [some (.inr (.inr (some 97))), some (.inl t), some (.inl n), some (.inl 4)], [], (zs (zup (zup (zup (zup (zup (zup h 97 0 t) 97 1 n) 98 0 (-1)) 98 1 (-1)) 98 2 (-1)) 98 3 (-1)) hl))) (c2 := (21, [some (.inr (.inr (some 97))), some (.inl t), some (.inl n), some (.inl 4)], [], (zs (zup (zup (zup (zup (zup (zup h 97 0 t) 97 1 n) 98 0 (-1)) 98 1 (-1)) 98 2 (-1)) 98 3 (-1)) hl))) rfl ⟨by decide, by decide⟩ ⟨by decide, by decide⟩ (by show ¬ 4 < 4; decide) ?_
  refine zH_ret (v := none) rfl (fun q => absurd q (by decide)) ?_
  refine ⟨rfl, _, rfl, fun c h1 h2 => ?_, by simp [zup_at], by simp [zup_at], fun q hq => ?_⟩
  · funext j; simp [zup_at, h1, h2]
  · rcases (show q = 0 ∨ q = 1 ∨ q = 2 ∨ q = 3 by omega) with rfl | rfl | rfl | rfl <;> simp [zup_at]
