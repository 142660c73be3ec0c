/-! The law: all calls of a script. -/
section ZLAW
variable {X XL : Nat → Int} {t p r : Nat} {h hl g gl : Nat → Nat → Int}
theorem zT_book (hI : zLi X XL t p r h hl) {b : Int} (hb : zr b) {w n : Int} (hw : zr w) (hn : zr n) : zTw 86 [.inr (.inr (some 2)), .inl b, .inl w, .inl n] 143 [.inr (.inr (some 104)), .inl b, .inl w, .inl n] X XL t h hl := by
  by_cases q : 0 ≤ b ∧ b < 3
  · rcases (show b = 0 ∨ b = 1 ∨ b = 2 by omega) with rfl | rfl | rfl
    · exact zT_book0 hI hw hn
    · exact zT_book1 hI hw hn
    · exact zT_book2 hI hw hn
  · exact zT_bookX hI hb q hw hn
theorem zT_row (hI : zLi X XL t p r h hl) {b : Int} (hb : zr b) {a n : Int} (ha : zr a) (hn : zr n) : zTw 87 [.inr (.inr (some 2)), .inl b, .inl a, .inl n] 144 [.inr (.inr (some 104)), .inl b, .inl a, .inl n] X XL t h hl := by
  by_cases q : 0 ≤ b ∧ b < 3
  · rcases (show b = 0 ∨ b = 1 ∨ b = 2 by omega) with rfl | rfl | rfl
    · exact zT_row0 hI ha hn
    · exact zT_row1 hI ha hn
    · exact zT_row2 hI ha hn
  · exact zT_rowX hI hb q ha hn
theorem zT_put (hI : zLi X XL t p r h hl) {b : Int} (hb : zr b) {w a i v : Int} (hw : zr w) (ha : zr a) (hi : zr i) (hv : zrl v) : zTw 88 [.inr (.inr (some 2)), .inl b, .inl w, .inl a, .inl i, .inr (.inl v)] 146 [.inr (.inr (some 104)), .inl b, .inl w, .inl a, .inl i, .inr (.inl v)] X XL t h hl := by
  by_cases q : 0 ≤ b ∧ b < 3
  · rcases (show b = 0 ∨ b = 1 ∨ b = 2 by omega) with rfl | rfl | rfl
    · exact zT_put0 hI hw ha hi hv
    · exact zT_put1 hI hw ha hi hv
    · exact zT_put2 hI hw ha hi hv
  · exact zT_putX hI hb q 
theorem zT_item (hI : zLi X XL t p r h hl) {b : Int} (hb : zr b) {w a i : Int} (hw : zr w) (ha : zr a) (hi : zr i) : zTwl 89 [.inr (.inr (some 2)), .inl b, .inl w, .inl a, .inl i] 147 [.inr (.inr (some 104)), .inl b, .inl w, .inl a, .inl i] X XL t h hl := by
  by_cases q : 0 ≤ b ∧ b < 3
  · rcases (show b = 0 ∨ b = 1 ∨ b = 2 by omega) with rfl | rfl | rfl
    · exact zT_item0 hI hw ha hi
    · exact zT_item1 hI hw ha hi
    · exact zT_item2 hI hw ha hi
  · exact zT_itemX hI hb q 
theorem zT_roads (hI : zLi X XL t p r h hl) {b : Int} (hb : zr b)  : zTw 90 [.inr (.inr (some 2)), .inl b] 148 [.inr (.inr (some 104)), .inl b] X XL t h hl := by
  by_cases q : 0 ≤ b ∧ b < 3
  · rcases (show b = 0 ∨ b = 1 ∨ b = 2 by omega) with rfl | rfl | rfl
    · exact zT_roads0 hI 
    · exact zT_roads1 hI 
    · exact zT_roads2 hI 
  · exact zT_roadsX hI hb q 
theorem zT_calls (hI : zLi X XL t p r h hl) {b : Int} (hb : zr b) {a : Int} (ha : zr a) : zTw 91 [.inr (.inr (some 2)), .inl b, .inl a] 149 [.inr (.inr (some 104)), .inl b, .inl a] X XL t h hl := by
  by_cases q : 0 ≤ b ∧ b < 3
  · rcases (show b = 0 ∨ b = 1 ∨ b = 2 by omega) with rfl | rfl | rfl
    · exact zT_calls0 hI ha
    · exact zT_calls1 hI ha
    · exact zT_calls2 hI ha
  · exact zT_callsX hI hb q 
theorem zand31 (x : Int) : 0 ≤ zand x 31 ∧ zand x 31 ≤ 31 := by
  have h1 : (Int32.ofInt x &&& Int32.ofInt 31).toBitVec.toNat ≤ 31 := by
    rw [Int32.toBitVec_and, BitVec.toNat_and]
    exact Nat.le_trans Nat.and_le_right (by decide)
  have h2 : (Int32.ofInt x &&& Int32.ofInt 31).toInt = ((Int32.ofInt x &&& Int32.ofInt 31).toBitVec.toNat : Int) := by
    rw [← Int32.toInt_toBitVec]
    exact BitVec.toInt_eq_toNat_of_lt (by omega)
  unfold zand
  omega
theorem zorl_z (x y : Int) : zrl (zorl x y) := by
  have h1 := Int64.le_toInt (Int64.ofInt x ||| Int64.ofInt y)
  have h2 := Int64.toInt_lt (Int64.ofInt x ||| Int64.ofInt y)
  unfold zorl
  exact ⟨by omega, by omega⟩
end ZLAW
set_option maxRecDepth 100000 in
set_option maxHeartbeats 8000000 in
theorem p_lawloop {X XL : Nat → Int} {Ls p0 r0 : Nat} {h0 hl0 : Nat → Nat → Int} (hLs : Ls ≤ 3584) (hXr : ∀ i : Nat, zr (X i)) (hXL0 : XL 0 = (Ls : Int)) (hI0 : zLi X XL 0 p0 r0 h0 hl0) : zH 9 153 (16, [some (.inr (.inr (some 1))), some (.inr (.inr (some 2))), some (.inr (.inr (some 104))), none], [], zs h0 hl0) (fun ρ σ' => ρ = some (.inl 1) ∧ σ'.1 = 127 ∧ σ'.2.1 = zZ) := by
  refine zH_go 2 (c' := (18, [some (.inr (.inr (some 1))), some (.inr (.inr (some 2))), some (.inr (.inr (some 104))), some (.inl 0)], [], (zs h0 hl0))) rfl ?_
  show zH _ _ (18, [some (.inr (.inr (some 1))), some (.inr (.inr (some 2))), some (.inr (.inr (some 104))), some (.inl ((7 * 0 : Nat) : Int))], [], (zs h0 hl0)) _
  refine zH_lp (X := Nat × Nat × (Nat → Nat → Int) × (Nat → Nat → Int)) (F := fun (kq : Nat) (x : Nat × Nat × (Nat → Nat → Int) × (Nat → Nat → Int)) => (18, [some (.inr (.inr (some 1))), some (.inr (.inr (some 2))), some (.inr (.inr (some 104))), some (.inl ((7 * kq : Nat) : Int))], [], (zs x.2.2.1 x.2.2.2))) (I := fun (kq : Nat) (x : Nat × Nat × (Nat → Nat → Int) × (Nat → Nat → Int)) => zLi X XL kq x.1 x.2.1 x.2.2.1 x.2.2.2) (N := (Ls / 7)) (fun k x hk hI ih => ?_) (fun x hI => ?_) 0 (p0, r0, h0, hl0) (by omega) ?_
  · obtain ⟨p, r, h, hl⟩ := x
    replace hI : zLi X XL k p r h hl := hI
    show zH _ _ (18, [some (.inr (.inr (some 1))), some (.inr (.inr (some 2))), some (.inr (.inr (some 104))), some (.inl ((7 * k : Nat) : Int))], [], (zs h hl)) _
    have hX1 : h 1 = X := hI.1
    have hlen : hl 1 0 = (Ls : Int) := by rw [hI.2.1]; exact hXL0
    obtain ⟨x0, ex0⟩ : ∃ x, x = X (7 * k + 0) := ⟨_, rfl⟩
    have hx0 : zr x0 := by rw [ex0]; exact hXr _
    obtain ⟨x1, ex1⟩ : ∃ x, x = X (7 * k + 1) := ⟨_, rfl⟩
    have hx1 : zr x1 := by rw [ex1]; exact hXr _
    obtain ⟨x2, ex2⟩ : ∃ x, x = X (7 * k + 2) := ⟨_, rfl⟩
    have hx2 : zr x2 := by rw [ex2]; exact hXr _
    obtain ⟨x3, ex3⟩ : ∃ x, x = X (7 * k + 3) := ⟨_, rfl⟩
    have hx3 : zr x3 := by rw [ex3]; exact hXr _
    obtain ⟨x4, ex4⟩ : ∃ x, x = X (7 * k + 4) := ⟨_, rfl⟩
    have hx4 : zr x4 := by rw [ex4]; exact hXr _
    obtain ⟨x5, ex5⟩ : ∃ x, x = X (7 * k + 5) := ⟨_, rfl⟩
    have hx5 : zr x5 := by rw [ex5]; exact hXr _
    obtain ⟨x6, ex6⟩ : ∃ x, x = X (7 * k + 6) := ⟨_, rfl⟩
    have hx6 : zr x6 := by rw [ex6]; exact hXr _
    refine zH_go 3 (c' := (21, [some (.inr (.inr (some 1))), some (.inr (.inr (some 2))), some (.inr (.inr (some 104))), some (.inl ((7 * k : Nat) : Int))], [.inl (hl 1 0), .inl ((7 * k : Nat) : Int)], (zs h hl))) rfl ?_
    rw [hlen]
    refine zH_go 2 (c' := (24, [some (.inr (.inr (some 1))), some (.inr (.inr (some 2))), some (.inr (.inr (some 104))), some (.inl ((7 * k : Nat) : Int))], [.inl ((Ls : Int) - 7), .inl ((7 * k : Nat) : Int)], (zs h hl))) rfl ?_
    refine zH_bf (x := ((7 * k : Nat) : Int)) (y := ((Ls : Int) - 7)) (k := .gt) (c1 := (1011, [some (.inr (.inr (some 1))), some (.inr (.inr (some 2))), some (.inr (.inr (some 104))), some (.inl ((7 * k : Nat) : Int))], [], (zs h hl))) (c2 := (27, [some (.inr (.inr (some 1))), some (.inr (.inr (some 2))), some (.inr (.inr (some 104))), some (.inl ((7 * k : Nat) : Int))], [], (zs h hl))) rfl (by first | assumption | (unfold zr; omega)) (by first | assumption | (unfold zr; omega)) (by show ¬ (((Ls : Int) - 7) < ((7 * k : Nat) : Int)); omega) ?_
    refine zH_go 2 (c' := (29, [some (.inr (.inr (some 1))), some (.inr (.inr (some 2))), some (.inr (.inr (some 104))), some (.inl ((7 * k : Nat) : Int))], [.inl ((7 * k : Nat) : Int), .inr (.inr (some 1))], (zs h hl))) rfl ?_
    refine zH_np (P := 0 ≤ ((7 * k : Nat) : Int) ∧ ((7 * k : Nat) : Int) < (hl 1 0)) (c' := (30, [some (.inr (.inr (some 1))), some (.inr (.inr (some 2))), some (.inr (.inr (some 104))), some (.inl ((7 * k : Nat) : Int))], [.inl (h 1 (7 * k))], (zs h hl))) rfl ⟨by omega, by rw [hlen]; omega⟩ ?_
    rw [show (h 1 (7 * k)) = x0 from by rw [hX1]; exact ex0.symm]
    refine zH_go 2 (c' := (33, [some (.inr (.inr (some 1))), some (.inr (.inr (some 2))), some (.inr (.inr (some 104))), some (.inl ((7 * k : Nat) : Int))], [.inl (zand x0 31)], (zs h hl))) rfl ?_
    obtain ⟨v, hv⟩ := Int.eq_ofNat_of_zero_le (zand31 x0).1
    have hv : zand x0 31 = (v : Int) := hv
    have hv31 := (zand31 x0).2
    rw [hv] at hv31 ⊢
    rcases (show v = 0 ∨ v = 1 ∨ v = 2 ∨ v = 3 ∨ v = 4 ∨ v = 5 ∨ v = 6 ∨ v = 7 ∨ v = 8 ∨ v = 9 ∨ v = 10 ∨ v = 11 ∨ v = 12 ∨ v = 13 ∨ v = 14 ∨ v = 15 ∨ v = 16 ∨ v = 17 ∨ v = 18 ∨ v = 19 ∨ v = 20 ∨ v = 21 ∨ v = 22 ∨ v = 23 ∨ v = 24 ∨ v = 25 ∨ v = 26 ∨ v = 27 ∨ v = 28 ∨ v = 29 ∨ v = 30 ∨ v = 31 by omega) with rfl | rfl | rfl | rfl | rfl | rfl | rfl | rfl | rfl | rfl | rfl | rfl | rfl | rfl | rfl | rfl | rfl | rfl | rfl | rfl | rfl | rfl | rfl | rfl | rfl | rfl | rfl | rfl | rfl | rfl | rfl | rfl
    · skip
      show zH _ _ (33, [some (.inr (.inr (some 1))), some (.inr (.inr (some 2))), some (.inr (.inr (some 104))), some (.inl ((7 * k : Nat) : Int))], [.inl 0], (zs h hl)) _
      refine zH_sw rfl ⟨by decide, by decide⟩ (tgt := 164) rfl ?_
      show zH _ _ (164, [some (.inr (.inr (some 1))), some (.inr (.inr (some 2))), some (.inr (.inr (some 104))), some (.inl ((7 * k : Nat) : Int))], [], (zs h hl)) _
      refine zH_go 1 (c' := (165, [some (.inr (.inr (some 1))), some (.inr (.inr (some 2))), some (.inr (.inr (some 104))), some (.inl ((7 * k : Nat) : Int))], [.inr (.inr (some 2))], (zs h hl))) rfl ?_
      refine zH_call (M' := 62) (as := [.inr (.inr (some 2))]) (T := []) rfl (zT_place hI ) (fun ρ σ' pm => ?_)
      obtain ⟨x, g, gl, rfl, hzx, rfl, hX', hXL', hm⟩ := pm
      have hl2 : gl 1 0 = (Ls : Int) := by rw [hXL']; exact hXL0
      show zH _ _ (168, [some (.inr (.inr (some 1))), some (.inr (.inr (some 2))), some (.inr (.inr (some 104))), some (.inl ((7 * k : Nat) : Int))], [.inl x], (zs g gl)) _
      refine zH_go 1 (c' := (169, [some (.inr (.inr (some 1))), some (.inr (.inr (some 2))), some (.inr (.inr (some 104))), some (.inl ((7 * k : Nat) : Int))], [.inr (.inr (some 104)), .inl x], (zs g gl))) rfl ?_
      refine zH_call (M' := 107) (as := [.inr (.inr (some 104))]) (T := [.inl x]) rfl hm (fun r2 σ2 pm => ?_)
      obtain ⟨p2, r2', g2, gl2, rfl, rfl, hI2⟩ := pm
      show zH _ _ (172, [some (.inr (.inr (some 1))), some (.inr (.inr (some 2))), some (.inr (.inr (some 104))), some (.inl ((7 * k : Nat) : Int))], [.inl x, .inl x], (zs g2 gl2)) _
      refine zH_bt (x := x) (y := x) (k := .eq) (c1 := (1005, [some (.inr (.inr (some 1))), some (.inr (.inr (some 2))), some (.inr (.inr (some 104))), some (.inl ((7 * k : Nat) : Int))], [], (zs g2 gl2))) (c2 := (175, [some (.inr (.inr (some 1))), some (.inr (.inr (some 2))), some (.inr (.inr (some 104))), some (.inl ((7 * k : Nat) : Int))], [], (zs g2 gl2))) rfl (by first | assumption | (unfold zr; omega)) (by first | assumption | (unfold zr; omega)) (by show x = x; omega) ?_
      refine zH_go 1 (c' := (1008, [some (.inr (.inr (some 1))), some (.inr (.inr (some 2))), some (.inr (.inr (some 104))), some (.inl (((7 * k : Nat) : Int) + 7))], [], (zs g2 gl2))) rfl ?_
      rw [show (((7 * k : Nat) : Int) + 7) = ((7 * (k + 1) : Nat) : Int) from by omega]
      show zH _ _ (1008, [some (.inr (.inr (some 1))), some (.inr (.inr (some 2))), some (.inr (.inr (some 104))), some (.inl ((7 * (k + 1) : Nat) : Int))], [], (zs g2 gl2)) _
      refine zH_go 1 (c' := (18, [some (.inr (.inr (some 1))), some (.inr (.inr (some 2))), some (.inr (.inr (some 104))), some (.inl ((7 * (k + 1) : Nat) : Int))], [], (zs g2 gl2))) rfl ?_
      refine ih (p2, r2', g2, gl2) ?_
      show zLi X XL (k + 1) p2 r2' g2 gl2
      exact hI2
    · skip
      show zH _ _ (33, [some (.inr (.inr (some 1))), some (.inr (.inr (some 2))), some (.inr (.inr (some 104))), some (.inl ((7 * k : Nat) : Int))], [.inl 1], (zs h hl)) _
      refine zH_sw rfl ⟨by decide, by decide⟩ (tgt := 177) rfl ?_
      show zH _ _ (177, [some (.inr (.inr (some 1))), some (.inr (.inr (some 2))), some (.inr (.inr (some 104))), some (.inl ((7 * k : Nat) : Int))], [], (zs h hl)) _
      refine zH_go 5 (c' := (182, [some (.inr (.inr (some 1))), some (.inr (.inr (some 2))), some (.inr (.inr (some 104))), some (.inl ((7 * k : Nat) : Int))], [.inl (((7 * k : Nat) : Int) + 1), .inr (.inr (some 1)), .inr (.inr (some 2))], (zs h hl))) rfl ?_
      refine zH_np (P := 0 ≤ (((7 * k : Nat) : Int) + 1) ∧ (((7 * k : Nat) : Int) + 1) < (hl 1 0)) (c' := (183, [some (.inr (.inr (some 1))), some (.inr (.inr (some 2))), some (.inr (.inr (some 104))), some (.inl ((7 * k : Nat) : Int))], [.inl (h 1 ((7 * k) + 1)), .inr (.inr (some 2))], (zs h hl))) rfl ⟨by omega, by rw [hlen]; omega⟩ ?_
      rw [show (h 1 ((7 * k) + 1)) = x1 from by rw [hX1]; exact ex1.symm]
      refine zH_go 4 (c' := (187, [some (.inr (.inr (some 1))), some (.inr (.inr (some 2))), some (.inr (.inr (some 104))), some (.inl ((7 * k : Nat) : Int))], [.inl (((7 * k : Nat) : Int) + 2), .inr (.inr (some 1)), .inl x1, .inr (.inr (some 2))], (zs h hl))) rfl ?_
      refine zH_np (P := 0 ≤ (((7 * k : Nat) : Int) + 2) ∧ (((7 * k : Nat) : Int) + 2) < (hl 1 0)) (c' := (188, [some (.inr (.inr (some 1))), some (.inr (.inr (some 2))), some (.inr (.inr (some 104))), some (.inl ((7 * k : Nat) : Int))], [.inl (h 1 ((7 * k) + 2)), .inl x1, .inr (.inr (some 2))], (zs h hl))) rfl ⟨by omega, by rw [hlen]; omega⟩ ?_
      rw [show (h 1 ((7 * k) + 2)) = x2 from by rw [hX1]; exact ex2.symm]
      refine zH_go 4 (c' := (192, [some (.inr (.inr (some 1))), some (.inr (.inr (some 2))), some (.inr (.inr (some 104))), some (.inl ((7 * k : Nat) : Int))], [.inl (((7 * k : Nat) : Int) + 3), .inr (.inr (some 1)), .inl x2, .inl x1, .inr (.inr (some 2))], (zs h hl))) rfl ?_
      refine zH_np (P := 0 ≤ (((7 * k : Nat) : Int) + 3) ∧ (((7 * k : Nat) : Int) + 3) < (hl 1 0)) (c' := (193, [some (.inr (.inr (some 1))), some (.inr (.inr (some 2))), some (.inr (.inr (some 104))), some (.inl ((7 * k : Nat) : Int))], [.inl (h 1 ((7 * k) + 3)), .inl x2, .inl x1, .inr (.inr (some 2))], (zs h hl))) rfl ⟨by omega, by rw [hlen]; omega⟩ ?_
      rw [show (h 1 ((7 * k) + 3)) = x3 from by rw [hX1]; exact ex3.symm]
      refine zH_call (M' := 63) (as := [.inr (.inr (some 2)), .inl x1, .inl x2, .inl x3]) (T := []) rfl (zT_road hI hx1 hx2 hx3) (fun ρ σ' pm => ?_)
      obtain ⟨x, g, gl, rfl, hzx, rfl, hX', hXL', hm⟩ := pm
      have hl2 : gl 1 0 = (Ls : Int) := by rw [hXL']; exact hXL0
      show zH _ _ (196, [some (.inr (.inr (some 1))), some (.inr (.inr (some 2))), some (.inr (.inr (some 104))), some (.inl ((7 * k : Nat) : Int))], [.inl x], (zs g gl)) _
      refine zH_go 5 (c' := (201, [some (.inr (.inr (some 1))), some (.inr (.inr (some 2))), some (.inr (.inr (some 104))), some (.inl ((7 * k : Nat) : Int))], [.inl (((7 * k : Nat) : Int) + 1), .inr (.inr (some 1)), .inr (.inr (some 104)), .inl x], (zs g gl))) rfl ?_
      refine zH_np (P := 0 ≤ (((7 * k : Nat) : Int) + 1) ∧ (((7 * k : Nat) : Int) + 1) < (gl 1 0)) (c' := (202, [some (.inr (.inr (some 1))), some (.inr (.inr (some 2))), some (.inr (.inr (some 104))), some (.inl ((7 * k : Nat) : Int))], [.inl (g 1 ((7 * k) + 1)), .inr (.inr (some 104)), .inl x], (zs g gl))) rfl ⟨by omega, by rw [hl2]; omega⟩ ?_
      rw [show (g 1 ((7 * k) + 1)) = x1 from by rw [hX']; exact ex1.symm]
      refine zH_go 4 (c' := (206, [some (.inr (.inr (some 1))), some (.inr (.inr (some 2))), some (.inr (.inr (some 104))), some (.inl ((7 * k : Nat) : Int))], [.inl (((7 * k : Nat) : Int) + 2), .inr (.inr (some 1)), .inl x1, .inr (.inr (some 104)), .inl x], (zs g gl))) rfl ?_
      refine zH_np (P := 0 ≤ (((7 * k : Nat) : Int) + 2) ∧ (((7 * k : Nat) : Int) + 2) < (gl 1 0)) (c' := (207, [some (.inr (.inr (some 1))), some (.inr (.inr (some 2))), some (.inr (.inr (some 104))), some (.inl ((7 * k : Nat) : Int))], [.inl (g 1 ((7 * k) + 2)), .inl x1, .inr (.inr (some 104)), .inl x], (zs g gl))) rfl ⟨by omega, by rw [hl2]; omega⟩ ?_
      rw [show (g 1 ((7 * k) + 2)) = x2 from by rw [hX']; exact ex2.symm]
      refine zH_go 4 (c' := (211, [some (.inr (.inr (some 1))), some (.inr (.inr (some 2))), some (.inr (.inr (some 104))), some (.inl ((7 * k : Nat) : Int))], [.inl (((7 * k : Nat) : Int) + 3), .inr (.inr (some 1)), .inl x2, .inl x1, .inr (.inr (some 104)), .inl x], (zs g gl))) rfl ?_
      refine zH_np (P := 0 ≤ (((7 * k : Nat) : Int) + 3) ∧ (((7 * k : Nat) : Int) + 3) < (gl 1 0)) (c' := (212, [some (.inr (.inr (some 1))), some (.inr (.inr (some 2))), some (.inr (.inr (some 104))), some (.inl ((7 * k : Nat) : Int))], [.inl (g 1 ((7 * k) + 3)), .inl x2, .inl x1, .inr (.inr (some 104)), .inl x], (zs g gl))) rfl ⟨by omega, by rw [hl2]; omega⟩ ?_
      rw [show (g 1 ((7 * k) + 3)) = x3 from by rw [hX']; exact ex3.symm]
      refine zH_call (M' := 109) (as := [.inr (.inr (some 104)), .inl x1, .inl x2, .inl x3]) (T := [.inl x]) rfl hm (fun r2 σ2 pm => ?_)
      obtain ⟨p2, r2', g2, gl2, rfl, rfl, hI2⟩ := pm
      show zH _ _ (215, [some (.inr (.inr (some 1))), some (.inr (.inr (some 2))), some (.inr (.inr (some 104))), some (.inl ((7 * k : Nat) : Int))], [.inl x, .inl x], (zs g2 gl2)) _
      refine zH_bt (x := x) (y := x) (k := .eq) (c1 := (1005, [some (.inr (.inr (some 1))), some (.inr (.inr (some 2))), some (.inr (.inr (some 104))), some (.inl ((7 * k : Nat) : Int))], [], (zs g2 gl2))) (c2 := (218, [some (.inr (.inr (some 1))), some (.inr (.inr (some 2))), some (.inr (.inr (some 104))), some (.inl ((7 * k : Nat) : Int))], [], (zs g2 gl2))) rfl (by first | assumption | (unfold zr; omega)) (by first | assumption | (unfold zr; omega)) (by show x = x; omega) ?_
      refine zH_go 1 (c' := (1008, [some (.inr (.inr (some 1))), some (.inr (.inr (some 2))), some (.inr (.inr (some 104))), some (.inl (((7 * k : Nat) : Int) + 7))], [], (zs g2 gl2))) rfl ?_
      rw [show (((7 * k : Nat) : Int) + 7) = ((7 * (k + 1) : Nat) : Int) from by omega]
      show zH _ _ (1008, [some (.inr (.inr (some 1))), some (.inr (.inr (some 2))), some (.inr (.inr (some 104))), some (.inl ((7 * (k + 1) : Nat) : Int))], [], (zs g2 gl2)) _
      refine zH_go 1 (c' := (18, [some (.inr (.inr (some 1))), some (.inr (.inr (some 2))), some (.inr (.inr (some 104))), some (.inl ((7 * (k + 1) : Nat) : Int))], [], (zs g2 gl2))) rfl ?_
      refine ih (p2, r2', g2, gl2) ?_
      show zLi X XL (k + 1) p2 r2' g2 gl2
      exact hI2
    · skip
      show zH _ _ (33, [some (.inr (.inr (some 1))), some (.inr (.inr (some 2))), some (.inr (.inr (some 104))), some (.inl ((7 * k : Nat) : Int))], [.inl 2], (zs h hl)) _
      refine zH_sw rfl ⟨by decide, by decide⟩ (tgt := 220) rfl ?_
      show zH _ _ (220, [some (.inr (.inr (some 1))), some (.inr (.inr (some 2))), some (.inr (.inr (some 104))), some (.inl ((7 * k : Nat) : Int))], [], (zs h hl)) _
      refine zH_go 5 (c' := (225, [some (.inr (.inr (some 1))), some (.inr (.inr (some 2))), some (.inr (.inr (some 104))), some (.inl ((7 * k : Nat) : Int))], [.inl (((7 * k : Nat) : Int) + 1), .inr (.inr (some 1)), .inr (.inr (some 2))], (zs h hl))) rfl ?_
      refine zH_np (P := 0 ≤ (((7 * k : Nat) : Int) + 1) ∧ (((7 * k : Nat) : Int) + 1) < (hl 1 0)) (c' := (226, [some (.inr (.inr (some 1))), some (.inr (.inr (some 2))), some (.inr (.inr (some 104))), some (.inl ((7 * k : Nat) : Int))], [.inl (h 1 ((7 * k) + 1)), .inr (.inr (some 2))], (zs h hl))) rfl ⟨by omega, by rw [hlen]; omega⟩ ?_
      rw [show (h 1 ((7 * k) + 1)) = x1 from by rw [hX1]; exact ex1.symm]
      refine zH_go 4 (c' := (230, [some (.inr (.inr (some 1))), some (.inr (.inr (some 2))), some (.inr (.inr (some 104))), some (.inl ((7 * k : Nat) : Int))], [.inl (((7 * k : Nat) : Int) + 2), .inr (.inr (some 1)), .inl x1, .inr (.inr (some 2))], (zs h hl))) rfl ?_
      refine zH_np (P := 0 ≤ (((7 * k : Nat) : Int) + 2) ∧ (((7 * k : Nat) : Int) + 2) < (hl 1 0)) (c' := (231, [some (.inr (.inr (some 1))), some (.inr (.inr (some 2))), some (.inr (.inr (some 104))), some (.inl ((7 * k : Nat) : Int))], [.inl (h 1 ((7 * k) + 2)), .inl x1, .inr (.inr (some 2))], (zs h hl))) rfl ⟨by omega, by rw [hlen]; omega⟩ ?_
      rw [show (h 1 ((7 * k) + 2)) = x2 from by rw [hX1]; exact ex2.symm]
      refine zH_call (M' := 64) (as := [.inr (.inr (some 2)), .inl x1, .inl x2]) (T := []) rfl (zT_apart hI hx1 hx2) (fun ρ σ' pm => ?_)
      obtain ⟨x, g, gl, rfl, hzx, rfl, hX', hXL', hm⟩ := pm
      have hl2 : gl 1 0 = (Ls : Int) := by rw [hXL']; exact hXL0
      show zH _ _ (234, [some (.inr (.inr (some 1))), some (.inr (.inr (some 2))), some (.inr (.inr (some 104))), some (.inl ((7 * k : Nat) : Int))], [.inl x], (zs g gl)) _
      refine zH_go 5 (c' := (239, [some (.inr (.inr (some 1))), some (.inr (.inr (some 2))), some (.inr (.inr (some 104))), some (.inl ((7 * k : Nat) : Int))], [.inl (((7 * k : Nat) : Int) + 1), .inr (.inr (some 1)), .inr (.inr (some 104)), .inl x], (zs g gl))) rfl ?_
      refine zH_np (P := 0 ≤ (((7 * k : Nat) : Int) + 1) ∧ (((7 * k : Nat) : Int) + 1) < (gl 1 0)) (c' := (240, [some (.inr (.inr (some 1))), some (.inr (.inr (some 2))), some (.inr (.inr (some 104))), some (.inl ((7 * k : Nat) : Int))], [.inl (g 1 ((7 * k) + 1)), .inr (.inr (some 104)), .inl x], (zs g gl))) rfl ⟨by omega, by rw [hl2]; omega⟩ ?_
      rw [show (g 1 ((7 * k) + 1)) = x1 from by rw [hX']; exact ex1.symm]
      refine zH_go 4 (c' := (244, [some (.inr (.inr (some 1))), some (.inr (.inr (some 2))), some (.inr (.inr (some 104))), some (.inl ((7 * k : Nat) : Int))], [.inl (((7 * k : Nat) : Int) + 2), .inr (.inr (some 1)), .inl x1, .inr (.inr (some 104)), .inl x], (zs g gl))) rfl ?_
      refine zH_np (P := 0 ≤ (((7 * k : Nat) : Int) + 2) ∧ (((7 * k : Nat) : Int) + 2) < (gl 1 0)) (c' := (245, [some (.inr (.inr (some 1))), some (.inr (.inr (some 2))), some (.inr (.inr (some 104))), some (.inl ((7 * k : Nat) : Int))], [.inl (g 1 ((7 * k) + 2)), .inl x1, .inr (.inr (some 104)), .inl x], (zs g gl))) rfl ⟨by omega, by rw [hl2]; omega⟩ ?_
      rw [show (g 1 ((7 * k) + 2)) = x2 from by rw [hX']; exact ex2.symm]
      refine zH_call (M' := 110) (as := [.inr (.inr (some 104)), .inl x1, .inl x2]) (T := [.inl x]) rfl hm (fun r2 σ2 pm => ?_)
      obtain ⟨p2, r2', g2, gl2, rfl, rfl, hI2⟩ := pm
      show zH _ _ (248, [some (.inr (.inr (some 1))), some (.inr (.inr (some 2))), some (.inr (.inr (some 104))), some (.inl ((7 * k : Nat) : Int))], [.inl x, .inl x], (zs g2 gl2)) _
      refine zH_bt (x := x) (y := x) (k := .eq) (c1 := (1005, [some (.inr (.inr (some 1))), some (.inr (.inr (some 2))), some (.inr (.inr (some 104))), some (.inl ((7 * k : Nat) : Int))], [], (zs g2 gl2))) (c2 := (251, [some (.inr (.inr (some 1))), some (.inr (.inr (some 2))), some (.inr (.inr (some 104))), some (.inl ((7 * k : Nat) : Int))], [], (zs g2 gl2))) rfl (by first | assumption | (unfold zr; omega)) (by first | assumption | (unfold zr; omega)) (by show x = x; omega) ?_
      refine zH_go 1 (c' := (1008, [some (.inr (.inr (some 1))), some (.inr (.inr (some 2))), some (.inr (.inr (some 104))), some (.inl (((7 * k : Nat) : Int) + 7))], [], (zs g2 gl2))) rfl ?_
      rw [show (((7 * k : Nat) : Int) + 7) = ((7 * (k + 1) : Nat) : Int) from by omega]
      show zH _ _ (1008, [some (.inr (.inr (some 1))), some (.inr (.inr (some 2))), some (.inr (.inr (some 104))), some (.inl ((7 * (k + 1) : Nat) : Int))], [], (zs g2 gl2)) _
      refine zH_go 1 (c' := (18, [some (.inr (.inr (some 1))), some (.inr (.inr (some 2))), some (.inr (.inr (some 104))), some (.inl ((7 * (k + 1) : Nat) : Int))], [], (zs g2 gl2))) rfl ?_
      refine ih (p2, r2', g2, gl2) ?_
      show zLi X XL (k + 1) p2 r2' g2 gl2
      exact hI2
    · skip
      show zH _ _ (33, [some (.inr (.inr (some 1))), some (.inr (.inr (some 2))), some (.inr (.inr (some 104))), some (.inl ((7 * k : Nat) : Int))], [.inl 3], (zs h hl)) _
      refine zH_sw rfl ⟨by decide, by decide⟩ (tgt := 253) rfl ?_
      show zH _ _ (253, [some (.inr (.inr (some 1))), some (.inr (.inr (some 2))), some (.inr (.inr (some 104))), some (.inl ((7 * k : Nat) : Int))], [], (zs h hl)) _
      refine zH_go 5 (c' := (258, [some (.inr (.inr (some 1))), some (.inr (.inr (some 2))), some (.inr (.inr (some 104))), some (.inl ((7 * k : Nat) : Int))], [.inl (((7 * k : Nat) : Int) + 1), .inr (.inr (some 1)), .inr (.inr (some 2))], (zs h hl))) rfl ?_
      refine zH_np (P := 0 ≤ (((7 * k : Nat) : Int) + 1) ∧ (((7 * k : Nat) : Int) + 1) < (hl 1 0)) (c' := (259, [some (.inr (.inr (some 1))), some (.inr (.inr (some 2))), some (.inr (.inr (some 104))), some (.inl ((7 * k : Nat) : Int))], [.inl (h 1 ((7 * k) + 1)), .inr (.inr (some 2))], (zs h hl))) rfl ⟨by omega, by rw [hlen]; omega⟩ ?_
      rw [show (h 1 ((7 * k) + 1)) = x1 from by rw [hX1]; exact ex1.symm]
      refine zH_go 4 (c' := (263, [some (.inr (.inr (some 1))), some (.inr (.inr (some 2))), some (.inr (.inr (some 104))), some (.inl ((7 * k : Nat) : Int))], [.inl (((7 * k : Nat) : Int) + 2), .inr (.inr (some 1)), .inl x1, .inr (.inr (some 2))], (zs h hl))) rfl ?_
      refine zH_np (P := 0 ≤ (((7 * k : Nat) : Int) + 2) ∧ (((7 * k : Nat) : Int) + 2) < (hl 1 0)) (c' := (264, [some (.inr (.inr (some 1))), some (.inr (.inr (some 2))), some (.inr (.inr (some 104))), some (.inl ((7 * k : Nat) : Int))], [.inl (h 1 ((7 * k) + 2)), .inl x1, .inr (.inr (some 2))], (zs h hl))) rfl ⟨by omega, by rw [hlen]; omega⟩ ?_
      rw [show (h 1 ((7 * k) + 2)) = x2 from by rw [hX1]; exact ex2.symm]
      refine zH_call (M' := 65) (as := [.inr (.inr (some 2)), .inl x1, .inl x2]) (T := []) rfl (zT_way hI hx1 hx2) (fun ρ σ' pm => ?_)
      obtain ⟨x, g, gl, rfl, hzx, rfl, hX', hXL', hm⟩ := pm
      have hl2 : gl 1 0 = (Ls : Int) := by rw [hXL']; exact hXL0
      show zH _ _ (267, [some (.inr (.inr (some 1))), some (.inr (.inr (some 2))), some (.inr (.inr (some 104))), some (.inl ((7 * k : Nat) : Int))], [.inl x], (zs g gl)) _
      refine zH_go 5 (c' := (272, [some (.inr (.inr (some 1))), some (.inr (.inr (some 2))), some (.inr (.inr (some 104))), some (.inl ((7 * k : Nat) : Int))], [.inl (((7 * k : Nat) : Int) + 1), .inr (.inr (some 1)), .inr (.inr (some 104)), .inl x], (zs g gl))) rfl ?_
      refine zH_np (P := 0 ≤ (((7 * k : Nat) : Int) + 1) ∧ (((7 * k : Nat) : Int) + 1) < (gl 1 0)) (c' := (273, [some (.inr (.inr (some 1))), some (.inr (.inr (some 2))), some (.inr (.inr (some 104))), some (.inl ((7 * k : Nat) : Int))], [.inl (g 1 ((7 * k) + 1)), .inr (.inr (some 104)), .inl x], (zs g gl))) rfl ⟨by omega, by rw [hl2]; omega⟩ ?_
      rw [show (g 1 ((7 * k) + 1)) = x1 from by rw [hX']; exact ex1.symm]
      refine zH_go 4 (c' := (277, [some (.inr (.inr (some 1))), some (.inr (.inr (some 2))), some (.inr (.inr (some 104))), some (.inl ((7 * k : Nat) : Int))], [.inl (((7 * k : Nat) : Int) + 2), .inr (.inr (some 1)), .inl x1, .inr (.inr (some 104)), .inl x], (zs g gl))) rfl ?_
      refine zH_np (P := 0 ≤ (((7 * k : Nat) : Int) + 2) ∧ (((7 * k : Nat) : Int) + 2) < (gl 1 0)) (c' := (278, [some (.inr (.inr (some 1))), some (.inr (.inr (some 2))), some (.inr (.inr (some 104))), some (.inl ((7 * k : Nat) : Int))], [.inl (g 1 ((7 * k) + 2)), .inl x1, .inr (.inr (some 104)), .inl x], (zs g gl))) rfl ⟨by omega, by rw [hl2]; omega⟩ ?_
      rw [show (g 1 ((7 * k) + 2)) = x2 from by rw [hX']; exact ex2.symm]
      refine zH_call (M' := 111) (as := [.inr (.inr (some 104)), .inl x1, .inl x2]) (T := [.inl x]) rfl hm (fun r2 σ2 pm => ?_)
      obtain ⟨p2, r2', g2, gl2, rfl, rfl, hI2⟩ := pm
      show zH _ _ (281, [some (.inr (.inr (some 1))), some (.inr (.inr (some 2))), some (.inr (.inr (some 104))), some (.inl ((7 * k : Nat) : Int))], [.inl x, .inl x], (zs g2 gl2)) _
      refine zH_bt (x := x) (y := x) (k := .eq) (c1 := (1005, [some (.inr (.inr (some 1))), some (.inr (.inr (some 2))), some (.inr (.inr (some 104))), some (.inl ((7 * k : Nat) : Int))], [], (zs g2 gl2))) (c2 := (284, [some (.inr (.inr (some 1))), some (.inr (.inr (some 2))), some (.inr (.inr (some 104))), some (.inl ((7 * k : Nat) : Int))], [], (zs g2 gl2))) rfl (by first | assumption | (unfold zr; omega)) (by first | assumption | (unfold zr; omega)) (by show x = x; omega) ?_
      refine zH_go 1 (c' := (1008, [some (.inr (.inr (some 1))), some (.inr (.inr (some 2))), some (.inr (.inr (some 104))), some (.inl (((7 * k : Nat) : Int) + 7))], [], (zs g2 gl2))) rfl ?_
      rw [show (((7 * k : Nat) : Int) + 7) = ((7 * (k + 1) : Nat) : Int) from by omega]
      show zH _ _ (1008, [some (.inr (.inr (some 1))), some (.inr (.inr (some 2))), some (.inr (.inr (some 104))), some (.inl ((7 * (k + 1) : Nat) : Int))], [], (zs g2 gl2)) _
      refine zH_go 1 (c' := (18, [some (.inr (.inr (some 1))), some (.inr (.inr (some 2))), some (.inr (.inr (some 104))), some (.inl ((7 * (k + 1) : Nat) : Int))], [], (zs g2 gl2))) rfl ?_
      refine ih (p2, r2', g2, gl2) ?_
      show zLi X XL (k + 1) p2 r2' g2 gl2
      exact hI2
    · skip
      show zH _ _ (33, [some (.inr (.inr (some 1))), some (.inr (.inr (some 2))), some (.inr (.inr (some 104))), some (.inl ((7 * k : Nat) : Int))], [.inl 4], (zs h hl)) _
      refine zH_sw rfl ⟨by decide, by decide⟩ (tgt := 286) rfl ?_
      show zH _ _ (286, [some (.inr (.inr (some 1))), some (.inr (.inr (some 2))), some (.inr (.inr (some 104))), some (.inl ((7 * k : Nat) : Int))], [], (zs h hl)) _
      refine zH_go 5 (c' := (291, [some (.inr (.inr (some 1))), some (.inr (.inr (some 2))), some (.inr (.inr (some 104))), some (.inl ((7 * k : Nat) : Int))], [.inl (((7 * k : Nat) : Int) + 1), .inr (.inr (some 1)), .inr (.inr (some 2))], (zs h hl))) rfl ?_
      refine zH_np (P := 0 ≤ (((7 * k : Nat) : Int) + 1) ∧ (((7 * k : Nat) : Int) + 1) < (hl 1 0)) (c' := (292, [some (.inr (.inr (some 1))), some (.inr (.inr (some 2))), some (.inr (.inr (some 104))), some (.inl ((7 * k : Nat) : Int))], [.inl (h 1 ((7 * k) + 1)), .inr (.inr (some 2))], (zs h hl))) rfl ⟨by omega, by rw [hlen]; omega⟩ ?_
      rw [show (h 1 ((7 * k) + 1)) = x1 from by rw [hX1]; exact ex1.symm]
      refine zH_go 4 (c' := (296, [some (.inr (.inr (some 1))), some (.inr (.inr (some 2))), some (.inr (.inr (some 104))), some (.inl ((7 * k : Nat) : Int))], [.inl (((7 * k : Nat) : Int) + 2), .inr (.inr (some 1)), .inl x1, .inr (.inr (some 2))], (zs h hl))) rfl ?_
      refine zH_np (P := 0 ≤ (((7 * k : Nat) : Int) + 2) ∧ (((7 * k : Nat) : Int) + 2) < (hl 1 0)) (c' := (297, [some (.inr (.inr (some 1))), some (.inr (.inr (some 2))), some (.inr (.inr (some 104))), some (.inl ((7 * k : Nat) : Int))], [.inl (h 1 ((7 * k) + 2)), .inl x1, .inr (.inr (some 2))], (zs h hl))) rfl ⟨by omega, by rw [hlen]; omega⟩ ?_
      rw [show (h 1 ((7 * k) + 2)) = x2 from by rw [hX1]; exact ex2.symm]
      refine zH_call (M' := 67) (as := [.inr (.inr (some 2)), .inl x1, .inl x2]) (T := []) rfl (zT_begin hI hx1 hx2) (fun ρ σ' pm => ?_)
      obtain ⟨x, g, gl, rfl, hzx, rfl, hX', hXL', hm⟩ := pm
      have hl2 : gl 1 0 = (Ls : Int) := by rw [hXL']; exact hXL0
      show zH _ _ (300, [some (.inr (.inr (some 1))), some (.inr (.inr (some 2))), some (.inr (.inr (some 104))), some (.inl ((7 * k : Nat) : Int))], [.inl x], (zs g gl)) _
      refine zH_go 5 (c' := (305, [some (.inr (.inr (some 1))), some (.inr (.inr (some 2))), some (.inr (.inr (some 104))), some (.inl ((7 * k : Nat) : Int))], [.inl (((7 * k : Nat) : Int) + 1), .inr (.inr (some 1)), .inr (.inr (some 104)), .inl x], (zs g gl))) rfl ?_
      refine zH_np (P := 0 ≤ (((7 * k : Nat) : Int) + 1) ∧ (((7 * k : Nat) : Int) + 1) < (gl 1 0)) (c' := (306, [some (.inr (.inr (some 1))), some (.inr (.inr (some 2))), some (.inr (.inr (some 104))), some (.inl ((7 * k : Nat) : Int))], [.inl (g 1 ((7 * k) + 1)), .inr (.inr (some 104)), .inl x], (zs g gl))) rfl ⟨by omega, by rw [hl2]; omega⟩ ?_
      rw [show (g 1 ((7 * k) + 1)) = x1 from by rw [hX']; exact ex1.symm]
      refine zH_go 4 (c' := (310, [some (.inr (.inr (some 1))), some (.inr (.inr (some 2))), some (.inr (.inr (some 104))), some (.inl ((7 * k : Nat) : Int))], [.inl (((7 * k : Nat) : Int) + 2), .inr (.inr (some 1)), .inl x1, .inr (.inr (some 104)), .inl x], (zs g gl))) rfl ?_
      refine zH_np (P := 0 ≤ (((7 * k : Nat) : Int) + 2) ∧ (((7 * k : Nat) : Int) + 2) < (gl 1 0)) (c' := (311, [some (.inr (.inr (some 1))), some (.inr (.inr (some 2))), some (.inr (.inr (some 104))), some (.inl ((7 * k : Nat) : Int))], [.inl (g 1 ((7 * k) + 2)), .inl x1, .inr (.inr (some 104)), .inl x], (zs g gl))) rfl ⟨by omega, by rw [hl2]; omega⟩ ?_
      rw [show (g 1 ((7 * k) + 2)) = x2 from by rw [hX']; exact ex2.symm]
      refine zH_call (M' := 124) (as := [.inr (.inr (some 104)), .inl x1, .inl x2]) (T := [.inl x]) rfl hm (fun r2 σ2 pm => ?_)
      obtain ⟨p2, r2', g2, gl2, rfl, rfl, hI2⟩ := pm
      show zH _ _ (314, [some (.inr (.inr (some 1))), some (.inr (.inr (some 2))), some (.inr (.inr (some 104))), some (.inl ((7 * k : Nat) : Int))], [.inl x, .inl x], (zs g2 gl2)) _
      refine zH_bt (x := x) (y := x) (k := .eq) (c1 := (1005, [some (.inr (.inr (some 1))), some (.inr (.inr (some 2))), some (.inr (.inr (some 104))), some (.inl ((7 * k : Nat) : Int))], [], (zs g2 gl2))) (c2 := (317, [some (.inr (.inr (some 1))), some (.inr (.inr (some 2))), some (.inr (.inr (some 104))), some (.inl ((7 * k : Nat) : Int))], [], (zs g2 gl2))) rfl (by first | assumption | (unfold zr; omega)) (by first | assumption | (unfold zr; omega)) (by show x = x; omega) ?_
      refine zH_go 1 (c' := (1008, [some (.inr (.inr (some 1))), some (.inr (.inr (some 2))), some (.inr (.inr (some 104))), some (.inl (((7 * k : Nat) : Int) + 7))], [], (zs g2 gl2))) rfl ?_
      rw [show (((7 * k : Nat) : Int) + 7) = ((7 * (k + 1) : Nat) : Int) from by omega]
      show zH _ _ (1008, [some (.inr (.inr (some 1))), some (.inr (.inr (some 2))), some (.inr (.inr (some 104))), some (.inl ((7 * (k + 1) : Nat) : Int))], [], (zs g2 gl2)) _
      refine zH_go 1 (c' := (18, [some (.inr (.inr (some 1))), some (.inr (.inr (some 2))), some (.inr (.inr (some 104))), some (.inl ((7 * (k + 1) : Nat) : Int))], [], (zs g2 gl2))) rfl ?_
      refine ih (p2, r2', g2, gl2) ?_
      show zLi X XL (k + 1) p2 r2' g2 gl2
      exact hI2
    · skip
      show zH _ _ (33, [some (.inr (.inr (some 1))), some (.inr (.inr (some 2))), some (.inr (.inr (some 104))), some (.inl ((7 * k : Nat) : Int))], [.inl 5], (zs h hl)) _
      refine zH_sw rfl ⟨by decide, by decide⟩ (tgt := 319) rfl ?_
      show zH _ _ (319, [some (.inr (.inr (some 1))), some (.inr (.inr (some 2))), some (.inr (.inr (some 104))), some (.inl ((7 * k : Nat) : Int))], [], (zs h hl)) _
      refine zH_go 1 (c' := (320, [some (.inr (.inr (some 1))), some (.inr (.inr (some 2))), some (.inr (.inr (some 104))), some (.inl ((7 * k : Nat) : Int))], [.inr (.inr (some 2))], (zs h hl))) rfl ?_
      refine zH_call (M' := 68) (as := [.inr (.inr (some 2))]) (T := []) rfl (zT_end hI ) (fun ρ σ' pm => ?_)
      obtain ⟨x, g, gl, rfl, hzx, rfl, hX', hXL', hm⟩ := pm
      have hl2 : gl 1 0 = (Ls : Int) := by rw [hXL']; exact hXL0
      show zH _ _ (323, [some (.inr (.inr (some 1))), some (.inr (.inr (some 2))), some (.inr (.inr (some 104))), some (.inl ((7 * k : Nat) : Int))], [.inl x], (zs g gl)) _
      refine zH_go 1 (c' := (324, [some (.inr (.inr (some 1))), some (.inr (.inr (some 2))), some (.inr (.inr (some 104))), some (.inl ((7 * k : Nat) : Int))], [.inr (.inr (some 104)), .inl x], (zs g gl))) rfl ?_
      refine zH_call (M' := 125) (as := [.inr (.inr (some 104))]) (T := [.inl x]) rfl hm (fun r2 σ2 pm => ?_)
      obtain ⟨p2, r2', g2, gl2, rfl, rfl, hI2⟩ := pm
      show zH _ _ (327, [some (.inr (.inr (some 1))), some (.inr (.inr (some 2))), some (.inr (.inr (some 104))), some (.inl ((7 * k : Nat) : Int))], [.inl x, .inl x], (zs g2 gl2)) _
      refine zH_bt (x := x) (y := x) (k := .eq) (c1 := (1005, [some (.inr (.inr (some 1))), some (.inr (.inr (some 2))), some (.inr (.inr (some 104))), some (.inl ((7 * k : Nat) : Int))], [], (zs g2 gl2))) (c2 := (330, [some (.inr (.inr (some 1))), some (.inr (.inr (some 2))), some (.inr (.inr (some 104))), some (.inl ((7 * k : Nat) : Int))], [], (zs g2 gl2))) rfl (by first | assumption | (unfold zr; omega)) (by first | assumption | (unfold zr; omega)) (by show x = x; omega) ?_
      refine zH_go 1 (c' := (1008, [some (.inr (.inr (some 1))), some (.inr (.inr (some 2))), some (.inr (.inr (some 104))), some (.inl (((7 * k : Nat) : Int) + 7))], [], (zs g2 gl2))) rfl ?_
      rw [show (((7 * k : Nat) : Int) + 7) = ((7 * (k + 1) : Nat) : Int) from by omega]
      show zH _ _ (1008, [some (.inr (.inr (some 1))), some (.inr (.inr (some 2))), some (.inr (.inr (some 104))), some (.inl ((7 * (k + 1) : Nat) : Int))], [], (zs g2 gl2)) _
      refine zH_go 1 (c' := (18, [some (.inr (.inr (some 1))), some (.inr (.inr (some 2))), some (.inr (.inr (some 104))), some (.inl ((7 * (k + 1) : Nat) : Int))], [], (zs g2 gl2))) rfl ?_
      refine ih (p2, r2', g2, gl2) ?_
      show zLi X XL (k + 1) p2 r2' g2 gl2
      exact hI2
    · skip
      show zH _ _ (33, [some (.inr (.inr (some 1))), some (.inr (.inr (some 2))), some (.inr (.inr (some 104))), some (.inl ((7 * k : Nat) : Int))], [.inl 6], (zs h hl)) _
      refine zH_sw rfl ⟨by decide, by decide⟩ (tgt := 332) rfl ?_
      show zH _ _ (332, [some (.inr (.inr (some 1))), some (.inr (.inr (some 2))), some (.inr (.inr (some 104))), some (.inl ((7 * k : Nat) : Int))], [], (zs h hl)) _
      refine zH_go 5 (c' := (337, [some (.inr (.inr (some 1))), some (.inr (.inr (some 2))), some (.inr (.inr (some 104))), some (.inl ((7 * k : Nat) : Int))], [.inl (((7 * k : Nat) : Int) + 1), .inr (.inr (some 1)), .inr (.inr (some 2))], (zs h hl))) rfl ?_
      refine zH_np (P := 0 ≤ (((7 * k : Nat) : Int) + 1) ∧ (((7 * k : Nat) : Int) + 1) < (hl 1 0)) (c' := (338, [some (.inr (.inr (some 1))), some (.inr (.inr (some 2))), some (.inr (.inr (some 104))), some (.inl ((7 * k : Nat) : Int))], [.inl (h 1 ((7 * k) + 1)), .inr (.inr (some 2))], (zs h hl))) rfl ⟨by omega, by rw [hlen]; omega⟩ ?_
      rw [show (h 1 ((7 * k) + 1)) = x1 from by rw [hX1]; exact ex1.symm]
      refine zH_call (M' := 69) (as := [.inr (.inr (some 2)), .inl x1]) (T := []) rfl (zT_rule hI hx1) (fun ρ σ' pm => ?_)
      obtain ⟨x, g, gl, rfl, hzx, rfl, hX', hXL', hm⟩ := pm
      have hl2 : gl 1 0 = (Ls : Int) := by rw [hXL']; exact hXL0
      show zH _ _ (341, [some (.inr (.inr (some 1))), some (.inr (.inr (some 2))), some (.inr (.inr (some 104))), some (.inl ((7 * k : Nat) : Int))], [.inl x], (zs g gl)) _
      refine zH_go 5 (c' := (346, [some (.inr (.inr (some 1))), some (.inr (.inr (some 2))), some (.inr (.inr (some 104))), some (.inl ((7 * k : Nat) : Int))], [.inl (((7 * k : Nat) : Int) + 1), .inr (.inr (some 1)), .inr (.inr (some 104)), .inl x], (zs g gl))) rfl ?_
      refine zH_np (P := 0 ≤ (((7 * k : Nat) : Int) + 1) ∧ (((7 * k : Nat) : Int) + 1) < (gl 1 0)) (c' := (347, [some (.inr (.inr (some 1))), some (.inr (.inr (some 2))), some (.inr (.inr (some 104))), some (.inl ((7 * k : Nat) : Int))], [.inl (g 1 ((7 * k) + 1)), .inr (.inr (some 104)), .inl x], (zs g gl))) rfl ⟨by omega, by rw [hl2]; omega⟩ ?_
      rw [show (g 1 ((7 * k) + 1)) = x1 from by rw [hX']; exact ex1.symm]
      refine zH_call (M' := 126) (as := [.inr (.inr (some 104)), .inl x1]) (T := [.inl x]) rfl hm (fun r2 σ2 pm => ?_)
      obtain ⟨p2, r2', g2, gl2, rfl, rfl, hI2⟩ := pm
      show zH _ _ (350, [some (.inr (.inr (some 1))), some (.inr (.inr (some 2))), some (.inr (.inr (some 104))), some (.inl ((7 * k : Nat) : Int))], [.inl x, .inl x], (zs g2 gl2)) _
      refine zH_bt (x := x) (y := x) (k := .eq) (c1 := (1005, [some (.inr (.inr (some 1))), some (.inr (.inr (some 2))), some (.inr (.inr (some 104))), some (.inl ((7 * k : Nat) : Int))], [], (zs g2 gl2))) (c2 := (353, [some (.inr (.inr (some 1))), some (.inr (.inr (some 2))), some (.inr (.inr (some 104))), some (.inl ((7 * k : Nat) : Int))], [], (zs g2 gl2))) rfl (by first | assumption | (unfold zr; omega)) (by first | assumption | (unfold zr; omega)) (by show x = x; omega) ?_
      refine zH_go 1 (c' := (1008, [some (.inr (.inr (some 1))), some (.inr (.inr (some 2))), some (.inr (.inr (some 104))), some (.inl (((7 * k : Nat) : Int) + 7))], [], (zs g2 gl2))) rfl ?_
      rw [show (((7 * k : Nat) : Int) + 7) = ((7 * (k + 1) : Nat) : Int) from by omega]
      show zH _ _ (1008, [some (.inr (.inr (some 1))), some (.inr (.inr (some 2))), some (.inr (.inr (some 104))), some (.inl ((7 * (k + 1) : Nat) : Int))], [], (zs g2 gl2)) _
      refine zH_go 1 (c' := (18, [some (.inr (.inr (some 1))), some (.inr (.inr (some 2))), some (.inr (.inr (some 104))), some (.inl ((7 * (k + 1) : Nat) : Int))], [], (zs g2 gl2))) rfl ?_
      refine ih (p2, r2', g2, gl2) ?_
      show zLi X XL (k + 1) p2 r2' g2 gl2
      exact hI2
    · skip
      show zH _ _ (33, [some (.inr (.inr (some 1))), some (.inr (.inr (some 2))), some (.inr (.inr (some 104))), some (.inl ((7 * k : Nat) : Int))], [.inl 7], (zs h hl)) _
      refine zH_sw rfl ⟨by decide, by decide⟩ (tgt := 355) rfl ?_
      show zH _ _ (355, [some (.inr (.inr (some 1))), some (.inr (.inr (some 2))), some (.inr (.inr (some 104))), some (.inl ((7 * k : Nat) : Int))], [], (zs h hl)) _
      refine zH_go 5 (c' := (360, [some (.inr (.inr (some 1))), some (.inr (.inr (some 2))), some (.inr (.inr (some 104))), some (.inl ((7 * k : Nat) : Int))], [.inl (((7 * k : Nat) : Int) + 1), .inr (.inr (some 1)), .inr (.inr (some 2))], (zs h hl))) rfl ?_
      refine zH_np (P := 0 ≤ (((7 * k : Nat) : Int) + 1) ∧ (((7 * k : Nat) : Int) + 1) < (hl 1 0)) (c' := (361, [some (.inr (.inr (some 1))), some (.inr (.inr (some 2))), some (.inr (.inr (some 104))), some (.inl ((7 * k : Nat) : Int))], [.inl (h 1 ((7 * k) + 1)), .inr (.inr (some 2))], (zs h hl))) rfl ⟨by omega, by rw [hlen]; omega⟩ ?_
      rw [show (h 1 ((7 * k) + 1)) = x1 from by rw [hX1]; exact ex1.symm]
      refine zH_call (M' := 70) (as := [.inr (.inr (some 2)), .inl x1]) (T := []) rfl (zT_call hI hx1) (fun ρ σ' pm => ?_)
      obtain ⟨x, g, gl, rfl, hzx, rfl, hX', hXL', hm⟩ := pm
      have hl2 : gl 1 0 = (Ls : Int) := by rw [hXL']; exact hXL0
      show zH _ _ (364, [some (.inr (.inr (some 1))), some (.inr (.inr (some 2))), some (.inr (.inr (some 104))), some (.inl ((7 * k : Nat) : Int))], [.inl x], (zs g gl)) _
      refine zH_go 5 (c' := (369, [some (.inr (.inr (some 1))), some (.inr (.inr (some 2))), some (.inr (.inr (some 104))), some (.inl ((7 * k : Nat) : Int))], [.inl (((7 * k : Nat) : Int) + 1), .inr (.inr (some 1)), .inr (.inr (some 104)), .inl x], (zs g gl))) rfl ?_
      refine zH_np (P := 0 ≤ (((7 * k : Nat) : Int) + 1) ∧ (((7 * k : Nat) : Int) + 1) < (gl 1 0)) (c' := (370, [some (.inr (.inr (some 1))), some (.inr (.inr (some 2))), some (.inr (.inr (some 104))), some (.inl ((7 * k : Nat) : Int))], [.inl (g 1 ((7 * k) + 1)), .inr (.inr (some 104)), .inl x], (zs g gl))) rfl ⟨by omega, by rw [hl2]; omega⟩ ?_
      rw [show (g 1 ((7 * k) + 1)) = x1 from by rw [hX']; exact ex1.symm]
      refine zH_call (M' := 128) (as := [.inr (.inr (some 104)), .inl x1]) (T := [.inl x]) rfl hm (fun r2 σ2 pm => ?_)
      obtain ⟨p2, r2', g2, gl2, rfl, rfl, hI2⟩ := pm
      show zH _ _ (373, [some (.inr (.inr (some 1))), some (.inr (.inr (some 2))), some (.inr (.inr (some 104))), some (.inl ((7 * k : Nat) : Int))], [.inl x, .inl x], (zs g2 gl2)) _
      refine zH_bt (x := x) (y := x) (k := .eq) (c1 := (1005, [some (.inr (.inr (some 1))), some (.inr (.inr (some 2))), some (.inr (.inr (some 104))), some (.inl ((7 * k : Nat) : Int))], [], (zs g2 gl2))) (c2 := (376, [some (.inr (.inr (some 1))), some (.inr (.inr (some 2))), some (.inr (.inr (some 104))), some (.inl ((7 * k : Nat) : Int))], [], (zs g2 gl2))) rfl (by first | assumption | (unfold zr; omega)) (by first | assumption | (unfold zr; omega)) (by show x = x; omega) ?_
      refine zH_go 1 (c' := (1008, [some (.inr (.inr (some 1))), some (.inr (.inr (some 2))), some (.inr (.inr (some 104))), some (.inl (((7 * k : Nat) : Int) + 7))], [], (zs g2 gl2))) rfl ?_
      rw [show (((7 * k : Nat) : Int) + 7) = ((7 * (k + 1) : Nat) : Int) from by omega]
      show zH _ _ (1008, [some (.inr (.inr (some 1))), some (.inr (.inr (some 2))), some (.inr (.inr (some 104))), some (.inl ((7 * (k + 1) : Nat) : Int))], [], (zs g2 gl2)) _
      refine zH_go 1 (c' := (18, [some (.inr (.inr (some 1))), some (.inr (.inr (some 2))), some (.inr (.inr (some 104))), some (.inl ((7 * (k + 1) : Nat) : Int))], [], (zs g2 gl2))) rfl ?_
      refine ih (p2, r2', g2, gl2) ?_
      show zLi X XL (k + 1) p2 r2' g2 gl2
      exact hI2
    · skip
      show zH _ _ (33, [some (.inr (.inr (some 1))), some (.inr (.inr (some 2))), some (.inr (.inr (some 104))), some (.inl ((7 * k : Nat) : Int))], [.inl 8], (zs h hl)) _
      refine zH_sw rfl ⟨by decide, by decide⟩ (tgt := 378) rfl ?_
      show zH _ _ (378, [some (.inr (.inr (some 1))), some (.inr (.inr (some 2))), some (.inr (.inr (some 104))), some (.inl ((7 * k : Nat) : Int))], [], (zs h hl)) _
      refine zH_go 1 (c' := (379, [some (.inr (.inr (some 1))), some (.inr (.inr (some 2))), some (.inr (.inr (some 104))), some (.inl ((7 * k : Nat) : Int))], [.inr (.inr (some 2))], (zs h hl))) rfl ?_
      refine zH_call (M' := 71) (as := [.inr (.inr (some 2))]) (T := []) rfl (zT_back hI ) (fun ρ σ' pm => ?_)
      obtain ⟨x, g, gl, rfl, hzx, rfl, hX', hXL', hm⟩ := pm
      have hl2 : gl 1 0 = (Ls : Int) := by rw [hXL']; exact hXL0
      show zH _ _ (382, [some (.inr (.inr (some 1))), some (.inr (.inr (some 2))), some (.inr (.inr (some 104))), some (.inl ((7 * k : Nat) : Int))], [.inl x], (zs g gl)) _
      refine zH_go 1 (c' := (383, [some (.inr (.inr (some 1))), some (.inr (.inr (some 2))), some (.inr (.inr (some 104))), some (.inl ((7 * k : Nat) : Int))], [.inr (.inr (some 104)), .inl x], (zs g gl))) rfl ?_
      refine zH_call (M' := 129) (as := [.inr (.inr (some 104))]) (T := [.inl x]) rfl hm (fun r2 σ2 pm => ?_)
      obtain ⟨p2, r2', g2, gl2, rfl, rfl, hI2⟩ := pm
      show zH _ _ (386, [some (.inr (.inr (some 1))), some (.inr (.inr (some 2))), some (.inr (.inr (some 104))), some (.inl ((7 * k : Nat) : Int))], [.inl x, .inl x], (zs g2 gl2)) _
      refine zH_bt (x := x) (y := x) (k := .eq) (c1 := (1005, [some (.inr (.inr (some 1))), some (.inr (.inr (some 2))), some (.inr (.inr (some 104))), some (.inl ((7 * k : Nat) : Int))], [], (zs g2 gl2))) (c2 := (389, [some (.inr (.inr (some 1))), some (.inr (.inr (some 2))), some (.inr (.inr (some 104))), some (.inl ((7 * k : Nat) : Int))], [], (zs g2 gl2))) rfl (by first | assumption | (unfold zr; omega)) (by first | assumption | (unfold zr; omega)) (by show x = x; omega) ?_
      refine zH_go 1 (c' := (1008, [some (.inr (.inr (some 1))), some (.inr (.inr (some 2))), some (.inr (.inr (some 104))), some (.inl (((7 * k : Nat) : Int) + 7))], [], (zs g2 gl2))) rfl ?_
      rw [show (((7 * k : Nat) : Int) + 7) = ((7 * (k + 1) : Nat) : Int) from by omega]
      show zH _ _ (1008, [some (.inr (.inr (some 1))), some (.inr (.inr (some 2))), some (.inr (.inr (some 104))), some (.inl ((7 * (k + 1) : Nat) : Int))], [], (zs g2 gl2)) _
      refine zH_go 1 (c' := (18, [some (.inr (.inr (some 1))), some (.inr (.inr (some 2))), some (.inr (.inr (some 104))), some (.inl ((7 * (k + 1) : Nat) : Int))], [], (zs g2 gl2))) rfl ?_
      refine ih (p2, r2', g2, gl2) ?_
      show zLi X XL (k + 1) p2 r2' g2 gl2
      exact hI2
    · skip
      show zH _ _ (33, [some (.inr (.inr (some 1))), some (.inr (.inr (some 2))), some (.inr (.inr (some 104))), some (.inl ((7 * k : Nat) : Int))], [.inl 9], (zs h hl)) _
      refine zH_sw rfl ⟨by decide, by decide⟩ (tgt := 391) rfl ?_
      show zH _ _ (391, [some (.inr (.inr (some 1))), some (.inr (.inr (some 2))), some (.inr (.inr (some 104))), some (.inl ((7 * k : Nat) : Int))], [], (zs h hl)) _
      refine zH_go 1 (c' := (392, [some (.inr (.inr (some 1))), some (.inr (.inr (some 2))), some (.inr (.inr (some 104))), some (.inl ((7 * k : Nat) : Int))], [.inr (.inr (some 2))], (zs h hl))) rfl ?_
      refine zH_call (M' := 72) (as := [.inr (.inr (some 2))]) (T := []) rfl (zT_cruel hI ) (fun ρ σ' pm => ?_)
      obtain ⟨x, g, gl, rfl, hzx, rfl, hX', hXL', hm⟩ := pm
      have hl2 : gl 1 0 = (Ls : Int) := by rw [hXL']; exact hXL0
      show zH _ _ (395, [some (.inr (.inr (some 1))), some (.inr (.inr (some 2))), some (.inr (.inr (some 104))), some (.inl ((7 * k : Nat) : Int))], [.inl x], (zs g gl)) _
      refine zH_go 1 (c' := (396, [some (.inr (.inr (some 1))), some (.inr (.inr (some 2))), some (.inr (.inr (some 104))), some (.inl ((7 * k : Nat) : Int))], [.inr (.inr (some 104)), .inl x], (zs g gl))) rfl ?_
      refine zH_call (M' := 130) (as := [.inr (.inr (some 104))]) (T := [.inl x]) rfl hm (fun r2 σ2 pm => ?_)
      obtain ⟨p2, r2', g2, gl2, rfl, rfl, hI2⟩ := pm
      show zH _ _ (399, [some (.inr (.inr (some 1))), some (.inr (.inr (some 2))), some (.inr (.inr (some 104))), some (.inl ((7 * k : Nat) : Int))], [.inl x, .inl x], (zs g2 gl2)) _
      refine zH_bt (x := x) (y := x) (k := .eq) (c1 := (1005, [some (.inr (.inr (some 1))), some (.inr (.inr (some 2))), some (.inr (.inr (some 104))), some (.inl ((7 * k : Nat) : Int))], [], (zs g2 gl2))) (c2 := (402, [some (.inr (.inr (some 1))), some (.inr (.inr (some 2))), some (.inr (.inr (some 104))), some (.inl ((7 * k : Nat) : Int))], [], (zs g2 gl2))) rfl (by first | assumption | (unfold zr; omega)) (by first | assumption | (unfold zr; omega)) (by show x = x; omega) ?_
      refine zH_go 1 (c' := (1008, [some (.inr (.inr (some 1))), some (.inr (.inr (some 2))), some (.inr (.inr (some 104))), some (.inl (((7 * k : Nat) : Int) + 7))], [], (zs g2 gl2))) rfl ?_
      rw [show (((7 * k : Nat) : Int) + 7) = ((7 * (k + 1) : Nat) : Int) from by omega]
      show zH _ _ (1008, [some (.inr (.inr (some 1))), some (.inr (.inr (some 2))), some (.inr (.inr (some 104))), some (.inl ((7 * (k + 1) : Nat) : Int))], [], (zs g2 gl2)) _
      refine zH_go 1 (c' := (18, [some (.inr (.inr (some 1))), some (.inr (.inr (some 2))), some (.inr (.inr (some 104))), some (.inl ((7 * (k + 1) : Nat) : Int))], [], (zs g2 gl2))) rfl ?_
      refine ih (p2, r2', g2, gl2) ?_
      show zLi X XL (k + 1) p2 r2' g2 gl2
      exact hI2
    · skip
      show zH _ _ (33, [some (.inr (.inr (some 1))), some (.inr (.inr (some 2))), some (.inr (.inr (some 104))), some (.inl ((7 * k : Nat) : Int))], [.inl 10], (zs h hl)) _
      refine zH_sw rfl ⟨by decide, by decide⟩ (tgt := 404) rfl ?_
      show zH _ _ (404, [some (.inr (.inr (some 1))), some (.inr (.inr (some 2))), some (.inr (.inr (some 104))), some (.inl ((7 * k : Nat) : Int))], [], (zs h hl)) _
      refine zH_go 5 (c' := (409, [some (.inr (.inr (some 1))), some (.inr (.inr (some 2))), some (.inr (.inr (some 104))), some (.inl ((7 * k : Nat) : Int))], [.inl (((7 * k : Nat) : Int) + 1), .inr (.inr (some 1)), .inr (.inr (some 2))], (zs h hl))) rfl ?_
      refine zH_np (P := 0 ≤ (((7 * k : Nat) : Int) + 1) ∧ (((7 * k : Nat) : Int) + 1) < (hl 1 0)) (c' := (410, [some (.inr (.inr (some 1))), some (.inr (.inr (some 2))), some (.inr (.inr (some 104))), some (.inl ((7 * k : Nat) : Int))], [.inl (h 1 ((7 * k) + 1)), .inr (.inr (some 2))], (zs h hl))) rfl ⟨by omega, by rw [hlen]; omega⟩ ?_
      rw [show (h 1 ((7 * k) + 1)) = x1 from by rw [hX1]; exact ex1.symm]
      refine zH_call (M' := 73) (as := [.inr (.inr (some 2)), .inl x1]) (T := []) rfl (zT_ask hI hx1) (fun ρ σ' pm => ?_)
      obtain ⟨x, g, gl, rfl, hzx, rfl, hX', hXL', hm⟩ := pm
      have hl2 : gl 1 0 = (Ls : Int) := by rw [hXL']; exact hXL0
      show zH _ _ (413, [some (.inr (.inr (some 1))), some (.inr (.inr (some 2))), some (.inr (.inr (some 104))), some (.inl ((7 * k : Nat) : Int))], [.inl x], (zs g gl)) _
      refine zH_go 5 (c' := (418, [some (.inr (.inr (some 1))), some (.inr (.inr (some 2))), some (.inr (.inr (some 104))), some (.inl ((7 * k : Nat) : Int))], [.inl (((7 * k : Nat) : Int) + 1), .inr (.inr (some 1)), .inr (.inr (some 104)), .inl x], (zs g gl))) rfl ?_
      refine zH_np (P := 0 ≤ (((7 * k : Nat) : Int) + 1) ∧ (((7 * k : Nat) : Int) + 1) < (gl 1 0)) (c' := (419, [some (.inr (.inr (some 1))), some (.inr (.inr (some 2))), some (.inr (.inr (some 104))), some (.inl ((7 * k : Nat) : Int))], [.inl (g 1 ((7 * k) + 1)), .inr (.inr (some 104)), .inl x], (zs g gl))) rfl ⟨by omega, by rw [hl2]; omega⟩ ?_
      rw [show (g 1 ((7 * k) + 1)) = x1 from by rw [hX']; exact ex1.symm]
      refine zH_call (M' := 131) (as := [.inr (.inr (some 104)), .inl x1]) (T := [.inl x]) rfl hm (fun r2 σ2 pm => ?_)
      obtain ⟨p2, r2', g2, gl2, rfl, rfl, hI2⟩ := pm
      show zH _ _ (422, [some (.inr (.inr (some 1))), some (.inr (.inr (some 2))), some (.inr (.inr (some 104))), some (.inl ((7 * k : Nat) : Int))], [.inl x, .inl x], (zs g2 gl2)) _
      refine zH_bt (x := x) (y := x) (k := .eq) (c1 := (1005, [some (.inr (.inr (some 1))), some (.inr (.inr (some 2))), some (.inr (.inr (some 104))), some (.inl ((7 * k : Nat) : Int))], [], (zs g2 gl2))) (c2 := (425, [some (.inr (.inr (some 1))), some (.inr (.inr (some 2))), some (.inr (.inr (some 104))), some (.inl ((7 * k : Nat) : Int))], [], (zs g2 gl2))) rfl (by first | assumption | (unfold zr; omega)) (by first | assumption | (unfold zr; omega)) (by show x = x; omega) ?_
      refine zH_go 1 (c' := (1008, [some (.inr (.inr (some 1))), some (.inr (.inr (some 2))), some (.inr (.inr (some 104))), some (.inl (((7 * k : Nat) : Int) + 7))], [], (zs g2 gl2))) rfl ?_
      rw [show (((7 * k : Nat) : Int) + 7) = ((7 * (k + 1) : Nat) : Int) from by omega]
      show zH _ _ (1008, [some (.inr (.inr (some 1))), some (.inr (.inr (some 2))), some (.inr (.inr (some 104))), some (.inl ((7 * (k + 1) : Nat) : Int))], [], (zs g2 gl2)) _
      refine zH_go 1 (c' := (18, [some (.inr (.inr (some 1))), some (.inr (.inr (some 2))), some (.inr (.inr (some 104))), some (.inl ((7 * (k + 1) : Nat) : Int))], [], (zs g2 gl2))) rfl ?_
      refine ih (p2, r2', g2, gl2) ?_
      show zLi X XL (k + 1) p2 r2' g2 gl2
      exact hI2
    · skip
      show zH _ _ (33, [some (.inr (.inr (some 1))), some (.inr (.inr (some 2))), some (.inr (.inr (some 104))), some (.inl ((7 * k : Nat) : Int))], [.inl 11], (zs h hl)) _
      refine zH_sw rfl ⟨by decide, by decide⟩ (tgt := 427) rfl ?_
      show zH _ _ (427, [some (.inr (.inr (some 1))), some (.inr (.inr (some 2))), some (.inr (.inr (some 104))), some (.inl ((7 * k : Nat) : Int))], [], (zs h hl)) _
      refine zH_go 1 (c' := (428, [some (.inr (.inr (some 1))), some (.inr (.inr (some 2))), some (.inr (.inr (some 104))), some (.inl ((7 * k : Nat) : Int))], [.inr (.inr (some 2))], (zs h hl))) rfl ?_
      refine zH_call (M' := 74) (as := [.inr (.inr (some 2))]) (T := []) rfl (zT_stand hI ) (fun ρ σ' pm => ?_)
      obtain ⟨x, g, gl, rfl, hzx, rfl, hX', hXL', hm⟩ := pm
      have hl2 : gl 1 0 = (Ls : Int) := by rw [hXL']; exact hXL0
      show zH _ _ (431, [some (.inr (.inr (some 1))), some (.inr (.inr (some 2))), some (.inr (.inr (some 104))), some (.inl ((7 * k : Nat) : Int))], [.inl x], (zs g gl)) _
      refine zH_go 1 (c' := (432, [some (.inr (.inr (some 1))), some (.inr (.inr (some 2))), some (.inr (.inr (some 104))), some (.inl ((7 * k : Nat) : Int))], [.inr (.inr (some 104)), .inl x], (zs g gl))) rfl ?_
      refine zH_call (M' := 132) (as := [.inr (.inr (some 104))]) (T := [.inl x]) rfl hm (fun r2 σ2 pm => ?_)
      obtain ⟨p2, r2', g2, gl2, rfl, rfl, hI2⟩ := pm
      show zH _ _ (435, [some (.inr (.inr (some 1))), some (.inr (.inr (some 2))), some (.inr (.inr (some 104))), some (.inl ((7 * k : Nat) : Int))], [.inl x, .inl x], (zs g2 gl2)) _
      refine zH_bt (x := x) (y := x) (k := .eq) (c1 := (1005, [some (.inr (.inr (some 1))), some (.inr (.inr (some 2))), some (.inr (.inr (some 104))), some (.inl ((7 * k : Nat) : Int))], [], (zs g2 gl2))) (c2 := (438, [some (.inr (.inr (some 1))), some (.inr (.inr (some 2))), some (.inr (.inr (some 104))), some (.inl ((7 * k : Nat) : Int))], [], (zs g2 gl2))) rfl (by first | assumption | (unfold zr; omega)) (by first | assumption | (unfold zr; omega)) (by show x = x; omega) ?_
      refine zH_go 1 (c' := (1008, [some (.inr (.inr (some 1))), some (.inr (.inr (some 2))), some (.inr (.inr (some 104))), some (.inl (((7 * k : Nat) : Int) + 7))], [], (zs g2 gl2))) rfl ?_
      rw [show (((7 * k : Nat) : Int) + 7) = ((7 * (k + 1) : Nat) : Int) from by omega]
      show zH _ _ (1008, [some (.inr (.inr (some 1))), some (.inr (.inr (some 2))), some (.inr (.inr (some 104))), some (.inl ((7 * (k + 1) : Nat) : Int))], [], (zs g2 gl2)) _
      refine zH_go 1 (c' := (18, [some (.inr (.inr (some 1))), some (.inr (.inr (some 2))), some (.inr (.inr (some 104))), some (.inl ((7 * (k + 1) : Nat) : Int))], [], (zs g2 gl2))) rfl ?_
      refine ih (p2, r2', g2, gl2) ?_
      show zLi X XL (k + 1) p2 r2' g2 gl2
      exact hI2
    · skip
      show zH _ _ (33, [some (.inr (.inr (some 1))), some (.inr (.inr (some 2))), some (.inr (.inr (some 104))), some (.inl ((7 * k : Nat) : Int))], [.inl 12], (zs h hl)) _
      refine zH_sw rfl ⟨by decide, by decide⟩ (tgt := 440) rfl ?_
      show zH _ _ (440, [some (.inr (.inr (some 1))), some (.inr (.inr (some 2))), some (.inr (.inr (some 104))), some (.inl ((7 * k : Nat) : Int))], [], (zs h hl)) _
      refine zH_go 5 (c' := (445, [some (.inr (.inr (some 1))), some (.inr (.inr (some 2))), some (.inr (.inr (some 104))), some (.inl ((7 * k : Nat) : Int))], [.inl (((7 * k : Nat) : Int) + 1), .inr (.inr (some 1)), .inr (.inr (some 2))], (zs h hl))) rfl ?_
      refine zH_np (P := 0 ≤ (((7 * k : Nat) : Int) + 1) ∧ (((7 * k : Nat) : Int) + 1) < (hl 1 0)) (c' := (446, [some (.inr (.inr (some 1))), some (.inr (.inr (some 2))), some (.inr (.inr (some 104))), some (.inl ((7 * k : Nat) : Int))], [.inl (h 1 ((7 * k) + 1)), .inr (.inr (some 2))], (zs h hl))) rfl ⟨by omega, by rw [hlen]; omega⟩ ?_
      rw [show (h 1 ((7 * k) + 1)) = x1 from by rw [hX1]; exact ex1.symm]
      refine zH_go 4 (c' := (450, [some (.inr (.inr (some 1))), some (.inr (.inr (some 2))), some (.inr (.inr (some 104))), some (.inl ((7 * k : Nat) : Int))], [.inl (((7 * k : Nat) : Int) + 2), .inr (.inr (some 1)), .inl x1, .inr (.inr (some 2))], (zs h hl))) rfl ?_
      refine zH_np (P := 0 ≤ (((7 * k : Nat) : Int) + 2) ∧ (((7 * k : Nat) : Int) + 2) < (hl 1 0)) (c' := (451, [some (.inr (.inr (some 1))), some (.inr (.inr (some 2))), some (.inr (.inr (some 104))), some (.inl ((7 * k : Nat) : Int))], [.inl (h 1 ((7 * k) + 2)), .inl x1, .inr (.inr (some 2))], (zs h hl))) rfl ⟨by omega, by rw [hlen]; omega⟩ ?_
      rw [show (h 1 ((7 * k) + 2)) = x2 from by rw [hX1]; exact ex2.symm]
      refine zH_call (M' := 75) (as := [.inr (.inr (some 2)), .inl x1, .inl x2]) (T := []) rfl (zT_told hI hx1 hx2) (fun ρ σ' pm => ?_)
      obtain ⟨x, g, gl, rfl, hzx, rfl, hX', hXL', hm⟩ := pm
      have hl2 : gl 1 0 = (Ls : Int) := by rw [hXL']; exact hXL0
      show zH _ _ (454, [some (.inr (.inr (some 1))), some (.inr (.inr (some 2))), some (.inr (.inr (some 104))), some (.inl ((7 * k : Nat) : Int))], [.inl x], (zs g gl)) _
      refine zH_go 5 (c' := (459, [some (.inr (.inr (some 1))), some (.inr (.inr (some 2))), some (.inr (.inr (some 104))), some (.inl ((7 * k : Nat) : Int))], [.inl (((7 * k : Nat) : Int) + 1), .inr (.inr (some 1)), .inr (.inr (some 104)), .inl x], (zs g gl))) rfl ?_
      refine zH_np (P := 0 ≤ (((7 * k : Nat) : Int) + 1) ∧ (((7 * k : Nat) : Int) + 1) < (gl 1 0)) (c' := (460, [some (.inr (.inr (some 1))), some (.inr (.inr (some 2))), some (.inr (.inr (some 104))), some (.inl ((7 * k : Nat) : Int))], [.inl (g 1 ((7 * k) + 1)), .inr (.inr (some 104)), .inl x], (zs g gl))) rfl ⟨by omega, by rw [hl2]; omega⟩ ?_
      rw [show (g 1 ((7 * k) + 1)) = x1 from by rw [hX']; exact ex1.symm]
      refine zH_go 4 (c' := (464, [some (.inr (.inr (some 1))), some (.inr (.inr (some 2))), some (.inr (.inr (some 104))), some (.inl ((7 * k : Nat) : Int))], [.inl (((7 * k : Nat) : Int) + 2), .inr (.inr (some 1)), .inl x1, .inr (.inr (some 104)), .inl x], (zs g gl))) rfl ?_
      refine zH_np (P := 0 ≤ (((7 * k : Nat) : Int) + 2) ∧ (((7 * k : Nat) : Int) + 2) < (gl 1 0)) (c' := (465, [some (.inr (.inr (some 1))), some (.inr (.inr (some 2))), some (.inr (.inr (some 104))), some (.inl ((7 * k : Nat) : Int))], [.inl (g 1 ((7 * k) + 2)), .inl x1, .inr (.inr (some 104)), .inl x], (zs g gl))) rfl ⟨by omega, by rw [hl2]; omega⟩ ?_
      rw [show (g 1 ((7 * k) + 2)) = x2 from by rw [hX']; exact ex2.symm]
      refine zH_call (M' := 133) (as := [.inr (.inr (some 104)), .inl x1, .inl x2]) (T := [.inl x]) rfl hm (fun r2 σ2 pm => ?_)
      obtain ⟨p2, r2', g2, gl2, rfl, rfl, hI2⟩ := pm
      show zH _ _ (468, [some (.inr (.inr (some 1))), some (.inr (.inr (some 2))), some (.inr (.inr (some 104))), some (.inl ((7 * k : Nat) : Int))], [.inl x, .inl x], (zs g2 gl2)) _
      refine zH_bt (x := x) (y := x) (k := .eq) (c1 := (1005, [some (.inr (.inr (some 1))), some (.inr (.inr (some 2))), some (.inr (.inr (some 104))), some (.inl ((7 * k : Nat) : Int))], [], (zs g2 gl2))) (c2 := (471, [some (.inr (.inr (some 1))), some (.inr (.inr (some 2))), some (.inr (.inr (some 104))), some (.inl ((7 * k : Nat) : Int))], [], (zs g2 gl2))) rfl (by first | assumption | (unfold zr; omega)) (by first | assumption | (unfold zr; omega)) (by show x = x; omega) ?_
      refine zH_go 1 (c' := (1008, [some (.inr (.inr (some 1))), some (.inr (.inr (some 2))), some (.inr (.inr (some 104))), some (.inl (((7 * k : Nat) : Int) + 7))], [], (zs g2 gl2))) rfl ?_
      rw [show (((7 * k : Nat) : Int) + 7) = ((7 * (k + 1) : Nat) : Int) from by omega]
      show zH _ _ (1008, [some (.inr (.inr (some 1))), some (.inr (.inr (some 2))), some (.inr (.inr (some 104))), some (.inl ((7 * (k + 1) : Nat) : Int))], [], (zs g2 gl2)) _
      refine zH_go 1 (c' := (18, [some (.inr (.inr (some 1))), some (.inr (.inr (some 2))), some (.inr (.inr (some 104))), some (.inl ((7 * (k + 1) : Nat) : Int))], [], (zs g2 gl2))) rfl ?_
      refine ih (p2, r2', g2, gl2) ?_
      show zLi X XL (k + 1) p2 r2' g2 gl2
      exact hI2
    · skip
      show zH _ _ (33, [some (.inr (.inr (some 1))), some (.inr (.inr (some 2))), some (.inr (.inr (some 104))), some (.inl ((7 * k : Nat) : Int))], [.inl 13], (zs h hl)) _
      refine zH_sw rfl ⟨by decide, by decide⟩ (tgt := 473) rfl ?_
      show zH _ _ (473, [some (.inr (.inr (some 1))), some (.inr (.inr (some 2))), some (.inr (.inr (some 104))), some (.inl ((7 * k : Nat) : Int))], [], (zs h hl)) _
      refine zH_go 5 (c' := (478, [some (.inr (.inr (some 1))), some (.inr (.inr (some 2))), some (.inr (.inr (some 104))), some (.inl ((7 * k : Nat) : Int))], [.inl (((7 * k : Nat) : Int) + 1), .inr (.inr (some 1)), .inr (.inr (some 2))], (zs h hl))) rfl ?_
      refine zH_np (P := 0 ≤ (((7 * k : Nat) : Int) + 1) ∧ (((7 * k : Nat) : Int) + 1) < (hl 1 0)) (c' := (479, [some (.inr (.inr (some 1))), some (.inr (.inr (some 2))), some (.inr (.inr (some 104))), some (.inl ((7 * k : Nat) : Int))], [.inl (h 1 ((7 * k) + 1)), .inr (.inr (some 2))], (zs h hl))) rfl ⟨by omega, by rw [hlen]; omega⟩ ?_
      rw [show (h 1 ((7 * k) + 1)) = x1 from by rw [hX1]; exact ex1.symm]
      refine zH_call (M' := 76) (as := [.inr (.inr (some 2)), .inl x1]) (T := []) rfl (zT_cost hI hx1) (fun ρ σ' pm => ?_)
      obtain ⟨x, g, gl, rfl, hzx, rfl, hX', hXL', hm⟩ := pm
      have hl2 : gl 1 0 = (Ls : Int) := by rw [hXL']; exact hXL0
      show zH _ _ (482, [some (.inr (.inr (some 1))), some (.inr (.inr (some 2))), some (.inr (.inr (some 104))), some (.inl ((7 * k : Nat) : Int))], [.inl x], (zs g gl)) _
      refine zH_go 5 (c' := (487, [some (.inr (.inr (some 1))), some (.inr (.inr (some 2))), some (.inr (.inr (some 104))), some (.inl ((7 * k : Nat) : Int))], [.inl (((7 * k : Nat) : Int) + 1), .inr (.inr (some 1)), .inr (.inr (some 104)), .inl x], (zs g gl))) rfl ?_
      refine zH_np (P := 0 ≤ (((7 * k : Nat) : Int) + 1) ∧ (((7 * k : Nat) : Int) + 1) < (gl 1 0)) (c' := (488, [some (.inr (.inr (some 1))), some (.inr (.inr (some 2))), some (.inr (.inr (some 104))), some (.inl ((7 * k : Nat) : Int))], [.inl (g 1 ((7 * k) + 1)), .inr (.inr (some 104)), .inl x], (zs g gl))) rfl ⟨by omega, by rw [hl2]; omega⟩ ?_
      rw [show (g 1 ((7 * k) + 1)) = x1 from by rw [hX']; exact ex1.symm]
      refine zH_call (M' := 135) (as := [.inr (.inr (some 104)), .inl x1]) (T := [.inl x]) rfl hm (fun r2 σ2 pm => ?_)
      obtain ⟨p2, r2', g2, gl2, rfl, rfl, hI2⟩ := pm
      show zH _ _ (491, [some (.inr (.inr (some 1))), some (.inr (.inr (some 2))), some (.inr (.inr (some 104))), some (.inl ((7 * k : Nat) : Int))], [.inl x, .inl x], (zs g2 gl2)) _
      refine zH_bt (x := x) (y := x) (k := .eq) (c1 := (1005, [some (.inr (.inr (some 1))), some (.inr (.inr (some 2))), some (.inr (.inr (some 104))), some (.inl ((7 * k : Nat) : Int))], [], (zs g2 gl2))) (c2 := (494, [some (.inr (.inr (some 1))), some (.inr (.inr (some 2))), some (.inr (.inr (some 104))), some (.inl ((7 * k : Nat) : Int))], [], (zs g2 gl2))) rfl (by first | assumption | (unfold zr; omega)) (by first | assumption | (unfold zr; omega)) (by show x = x; omega) ?_
      refine zH_go 1 (c' := (1008, [some (.inr (.inr (some 1))), some (.inr (.inr (some 2))), some (.inr (.inr (some 104))), some (.inl (((7 * k : Nat) : Int) + 7))], [], (zs g2 gl2))) rfl ?_
      rw [show (((7 * k : Nat) : Int) + 7) = ((7 * (k + 1) : Nat) : Int) from by omega]
      show zH _ _ (1008, [some (.inr (.inr (some 1))), some (.inr (.inr (some 2))), some (.inr (.inr (some 104))), some (.inl ((7 * (k + 1) : Nat) : Int))], [], (zs g2 gl2)) _
      refine zH_go 1 (c' := (18, [some (.inr (.inr (some 1))), some (.inr (.inr (some 2))), some (.inr (.inr (some 104))), some (.inl ((7 * (k + 1) : Nat) : Int))], [], (zs g2 gl2))) rfl ?_
      refine ih (p2, r2', g2, gl2) ?_
      show zLi X XL (k + 1) p2 r2' g2 gl2
      exact hI2
    · skip
      show zH _ _ (33, [some (.inr (.inr (some 1))), some (.inr (.inr (some 2))), some (.inr (.inr (some 104))), some (.inl ((7 * k : Nat) : Int))], [.inl 14], (zs h hl)) _
      refine zH_sw rfl ⟨by decide, by decide⟩ (tgt := 496) rfl ?_
      show zH _ _ (496, [some (.inr (.inr (some 1))), some (.inr (.inr (some 2))), some (.inr (.inr (some 104))), some (.inl ((7 * k : Nat) : Int))], [], (zs h hl)) _
      refine zH_go 5 (c' := (501, [some (.inr (.inr (some 1))), some (.inr (.inr (some 2))), some (.inr (.inr (some 104))), some (.inl ((7 * k : Nat) : Int))], [.inl (((7 * k : Nat) : Int) + 1), .inr (.inr (some 1)), .inr (.inr (some 2))], (zs h hl))) rfl ?_
      refine zH_np (P := 0 ≤ (((7 * k : Nat) : Int) + 1) ∧ (((7 * k : Nat) : Int) + 1) < (hl 1 0)) (c' := (502, [some (.inr (.inr (some 1))), some (.inr (.inr (some 2))), some (.inr (.inr (some 104))), some (.inl ((7 * k : Nat) : Int))], [.inl (h 1 ((7 * k) + 1)), .inr (.inr (some 2))], (zs h hl))) rfl ⟨by omega, by rw [hlen]; omega⟩ ?_
      rw [show (h 1 ((7 * k) + 1)) = x1 from by rw [hX1]; exact ex1.symm]
      refine zH_go 4 (c' := (506, [some (.inr (.inr (some 1))), some (.inr (.inr (some 2))), some (.inr (.inr (some 104))), some (.inl ((7 * k : Nat) : Int))], [.inl (((7 * k : Nat) : Int) + 2), .inr (.inr (some 1)), .inl x1, .inr (.inr (some 2))], (zs h hl))) rfl ?_
      refine zH_np (P := 0 ≤ (((7 * k : Nat) : Int) + 2) ∧ (((7 * k : Nat) : Int) + 2) < (hl 1 0)) (c' := (507, [some (.inr (.inr (some 1))), some (.inr (.inr (some 2))), some (.inr (.inr (some 104))), some (.inl ((7 * k : Nat) : Int))], [.inl (h 1 ((7 * k) + 2)), .inl x1, .inr (.inr (some 2))], (zs h hl))) rfl ⟨by omega, by rw [hlen]; omega⟩ ?_
      rw [show (h 1 ((7 * k) + 2)) = x2 from by rw [hX1]; exact ex2.symm]
      refine zH_call (M' := 79) (as := [.inr (.inr (some 2)), .inl x1, .inl x2]) (T := []) rfl (zT_moves hI hx1 hx2) (fun ρ σ' pm => ?_)
      obtain ⟨x, g, gl, rfl, hzx, rfl, hX', hXL', hm⟩ := pm
      have hl2 : gl 1 0 = (Ls : Int) := by rw [hXL']; exact hXL0
      show zH _ _ (510, [some (.inr (.inr (some 1))), some (.inr (.inr (some 2))), some (.inr (.inr (some 104))), some (.inl ((7 * k : Nat) : Int))], [.inl x], (zs g gl)) _
      refine zH_go 5 (c' := (515, [some (.inr (.inr (some 1))), some (.inr (.inr (some 2))), some (.inr (.inr (some 104))), some (.inl ((7 * k : Nat) : Int))], [.inl (((7 * k : Nat) : Int) + 1), .inr (.inr (some 1)), .inr (.inr (some 104)), .inl x], (zs g gl))) rfl ?_
      refine zH_np (P := 0 ≤ (((7 * k : Nat) : Int) + 1) ∧ (((7 * k : Nat) : Int) + 1) < (gl 1 0)) (c' := (516, [some (.inr (.inr (some 1))), some (.inr (.inr (some 2))), some (.inr (.inr (some 104))), some (.inl ((7 * k : Nat) : Int))], [.inl (g 1 ((7 * k) + 1)), .inr (.inr (some 104)), .inl x], (zs g gl))) rfl ⟨by omega, by rw [hl2]; omega⟩ ?_
      rw [show (g 1 ((7 * k) + 1)) = x1 from by rw [hX']; exact ex1.symm]
      refine zH_go 4 (c' := (520, [some (.inr (.inr (some 1))), some (.inr (.inr (some 2))), some (.inr (.inr (some 104))), some (.inl ((7 * k : Nat) : Int))], [.inl (((7 * k : Nat) : Int) + 2), .inr (.inr (some 1)), .inl x1, .inr (.inr (some 104)), .inl x], (zs g gl))) rfl ?_
      refine zH_np (P := 0 ≤ (((7 * k : Nat) : Int) + 2) ∧ (((7 * k : Nat) : Int) + 2) < (gl 1 0)) (c' := (521, [some (.inr (.inr (some 1))), some (.inr (.inr (some 2))), some (.inr (.inr (some 104))), some (.inl ((7 * k : Nat) : Int))], [.inl (g 1 ((7 * k) + 2)), .inl x1, .inr (.inr (some 104)), .inl x], (zs g gl))) rfl ⟨by omega, by rw [hl2]; omega⟩ ?_
      rw [show (g 1 ((7 * k) + 2)) = x2 from by rw [hX']; exact ex2.symm]
      refine zH_call (M' := 136) (as := [.inr (.inr (some 104)), .inl x1, .inl x2]) (T := [.inl x]) rfl hm (fun r2 σ2 pm => ?_)
      obtain ⟨p2, r2', g2, gl2, rfl, rfl, hI2⟩ := pm
      show zH _ _ (524, [some (.inr (.inr (some 1))), some (.inr (.inr (some 2))), some (.inr (.inr (some 104))), some (.inl ((7 * k : Nat) : Int))], [.inl x, .inl x], (zs g2 gl2)) _
      refine zH_bt (x := x) (y := x) (k := .eq) (c1 := (1005, [some (.inr (.inr (some 1))), some (.inr (.inr (some 2))), some (.inr (.inr (some 104))), some (.inl ((7 * k : Nat) : Int))], [], (zs g2 gl2))) (c2 := (527, [some (.inr (.inr (some 1))), some (.inr (.inr (some 2))), some (.inr (.inr (some 104))), some (.inl ((7 * k : Nat) : Int))], [], (zs g2 gl2))) rfl (by first | assumption | (unfold zr; omega)) (by first | assumption | (unfold zr; omega)) (by show x = x; omega) ?_
      refine zH_go 1 (c' := (1008, [some (.inr (.inr (some 1))), some (.inr (.inr (some 2))), some (.inr (.inr (some 104))), some (.inl (((7 * k : Nat) : Int) + 7))], [], (zs g2 gl2))) rfl ?_
      rw [show (((7 * k : Nat) : Int) + 7) = ((7 * (k + 1) : Nat) : Int) from by omega]
      show zH _ _ (1008, [some (.inr (.inr (some 1))), some (.inr (.inr (some 2))), some (.inr (.inr (some 104))), some (.inl ((7 * (k + 1) : Nat) : Int))], [], (zs g2 gl2)) _
      refine zH_go 1 (c' := (18, [some (.inr (.inr (some 1))), some (.inr (.inr (some 2))), some (.inr (.inr (some 104))), some (.inl ((7 * (k + 1) : Nat) : Int))], [], (zs g2 gl2))) rfl ?_
      refine ih (p2, r2', g2, gl2) ?_
      show zLi X XL (k + 1) p2 r2' g2 gl2
      exact hI2
    · skip
      show zH _ _ (33, [some (.inr (.inr (some 1))), some (.inr (.inr (some 2))), some (.inr (.inr (some 104))), some (.inl ((7 * k : Nat) : Int))], [.inl 15], (zs h hl)) _
      refine zH_sw rfl ⟨by decide, by decide⟩ (tgt := 529) rfl ?_
      show zH _ _ (529, [some (.inr (.inr (some 1))), some (.inr (.inr (some 2))), some (.inr (.inr (some 104))), some (.inl ((7 * k : Nat) : Int))], [], (zs h hl)) _
      refine zH_go 5 (c' := (534, [some (.inr (.inr (some 1))), some (.inr (.inr (some 2))), some (.inr (.inr (some 104))), some (.inl ((7 * k : Nat) : Int))], [.inl (((7 * k : Nat) : Int) + 1), .inr (.inr (some 1)), .inr (.inr (some 2))], (zs h hl))) rfl ?_
      refine zH_np (P := 0 ≤ (((7 * k : Nat) : Int) + 1) ∧ (((7 * k : Nat) : Int) + 1) < (hl 1 0)) (c' := (535, [some (.inr (.inr (some 1))), some (.inr (.inr (some 2))), some (.inr (.inr (some 104))), some (.inl ((7 * k : Nat) : Int))], [.inl (h 1 ((7 * k) + 1)), .inr (.inr (some 2))], (zs h hl))) rfl ⟨by omega, by rw [hlen]; omega⟩ ?_
      rw [show (h 1 ((7 * k) + 1)) = x1 from by rw [hX1]; exact ex1.symm]
      refine zH_go 4 (c' := (539, [some (.inr (.inr (some 1))), some (.inr (.inr (some 2))), some (.inr (.inr (some 104))), some (.inl ((7 * k : Nat) : Int))], [.inl (((7 * k : Nat) : Int) + 2), .inr (.inr (some 1)), .inl x1, .inr (.inr (some 2))], (zs h hl))) rfl ?_
      refine zH_np (P := 0 ≤ (((7 * k : Nat) : Int) + 2) ∧ (((7 * k : Nat) : Int) + 2) < (hl 1 0)) (c' := (540, [some (.inr (.inr (some 1))), some (.inr (.inr (some 2))), some (.inr (.inr (some 104))), some (.inl ((7 * k : Nat) : Int))], [.inl (h 1 ((7 * k) + 2)), .inl x1, .inr (.inr (some 2))], (zs h hl))) rfl ⟨by omega, by rw [hlen]; omega⟩ ?_
      rw [show (h 1 ((7 * k) + 2)) = x2 from by rw [hX1]; exact ex2.symm]
      refine zH_call (M' := 80) (as := [.inr (.inr (some 2)), .inl x1, .inl x2]) (T := []) rfl (zT_work hI hx1 hx2) (fun ρ σ' pm => ?_)
      obtain ⟨x, g, gl, rfl, hzx, rfl, hX', hXL', hm⟩ := pm
      have hl2 : gl 1 0 = (Ls : Int) := by rw [hXL']; exact hXL0
      show zH _ _ (543, [some (.inr (.inr (some 1))), some (.inr (.inr (some 2))), some (.inr (.inr (some 104))), some (.inl ((7 * k : Nat) : Int))], [.inl x], (zs g gl)) _
      refine zH_go 5 (c' := (548, [some (.inr (.inr (some 1))), some (.inr (.inr (some 2))), some (.inr (.inr (some 104))), some (.inl ((7 * k : Nat) : Int))], [.inl (((7 * k : Nat) : Int) + 1), .inr (.inr (some 1)), .inr (.inr (some 104)), .inl x], (zs g gl))) rfl ?_
      refine zH_np (P := 0 ≤ (((7 * k : Nat) : Int) + 1) ∧ (((7 * k : Nat) : Int) + 1) < (gl 1 0)) (c' := (549, [some (.inr (.inr (some 1))), some (.inr (.inr (some 2))), some (.inr (.inr (some 104))), some (.inl ((7 * k : Nat) : Int))], [.inl (g 1 ((7 * k) + 1)), .inr (.inr (some 104)), .inl x], (zs g gl))) rfl ⟨by omega, by rw [hl2]; omega⟩ ?_
      rw [show (g 1 ((7 * k) + 1)) = x1 from by rw [hX']; exact ex1.symm]
      refine zH_go 4 (c' := (553, [some (.inr (.inr (some 1))), some (.inr (.inr (some 2))), some (.inr (.inr (some 104))), some (.inl ((7 * k : Nat) : Int))], [.inl (((7 * k : Nat) : Int) + 2), .inr (.inr (some 1)), .inl x1, .inr (.inr (some 104)), .inl x], (zs g gl))) rfl ?_
      refine zH_np (P := 0 ≤ (((7 * k : Nat) : Int) + 2) ∧ (((7 * k : Nat) : Int) + 2) < (gl 1 0)) (c' := (554, [some (.inr (.inr (some 1))), some (.inr (.inr (some 2))), some (.inr (.inr (some 104))), some (.inl ((7 * k : Nat) : Int))], [.inl (g 1 ((7 * k) + 2)), .inl x1, .inr (.inr (some 104)), .inl x], (zs g gl))) rfl ⟨by omega, by rw [hl2]; omega⟩ ?_
      rw [show (g 1 ((7 * k) + 2)) = x2 from by rw [hX']; exact ex2.symm]
      refine zH_call (M' := 137) (as := [.inr (.inr (some 104)), .inl x1, .inl x2]) (T := [.inl x]) rfl hm (fun r2 σ2 pm => ?_)
      obtain ⟨p2, r2', g2, gl2, rfl, rfl, hI2⟩ := pm
      show zH _ _ (557, [some (.inr (.inr (some 1))), some (.inr (.inr (some 2))), some (.inr (.inr (some 104))), some (.inl ((7 * k : Nat) : Int))], [.inl x, .inl x], (zs g2 gl2)) _
      refine zH_bt (x := x) (y := x) (k := .eq) (c1 := (1005, [some (.inr (.inr (some 1))), some (.inr (.inr (some 2))), some (.inr (.inr (some 104))), some (.inl ((7 * k : Nat) : Int))], [], (zs g2 gl2))) (c2 := (560, [some (.inr (.inr (some 1))), some (.inr (.inr (some 2))), some (.inr (.inr (some 104))), some (.inl ((7 * k : Nat) : Int))], [], (zs g2 gl2))) rfl (by first | assumption | (unfold zr; omega)) (by first | assumption | (unfold zr; omega)) (by show x = x; omega) ?_
      refine zH_go 1 (c' := (1008, [some (.inr (.inr (some 1))), some (.inr (.inr (some 2))), some (.inr (.inr (some 104))), some (.inl (((7 * k : Nat) : Int) + 7))], [], (zs g2 gl2))) rfl ?_
      rw [show (((7 * k : Nat) : Int) + 7) = ((7 * (k + 1) : Nat) : Int) from by omega]
      show zH _ _ (1008, [some (.inr (.inr (some 1))), some (.inr (.inr (some 2))), some (.inr (.inr (some 104))), some (.inl ((7 * (k + 1) : Nat) : Int))], [], (zs g2 gl2)) _
      refine zH_go 1 (c' := (18, [some (.inr (.inr (some 1))), some (.inr (.inr (some 2))), some (.inr (.inr (some 104))), some (.inl ((7 * (k + 1) : Nat) : Int))], [], (zs g2 gl2))) rfl ?_
      refine ih (p2, r2', g2, gl2) ?_
      show zLi X XL (k + 1) p2 r2' g2 gl2
      exact hI2
    · skip
      show zH _ _ (33, [some (.inr (.inr (some 1))), some (.inr (.inr (some 2))), some (.inr (.inr (some 104))), some (.inl ((7 * k : Nat) : Int))], [.inl 16], (zs h hl)) _
      refine zH_sw rfl ⟨by decide, by decide⟩ (tgt := 562) rfl ?_
      show zH _ _ (562, [some (.inr (.inr (some 1))), some (.inr (.inr (some 2))), some (.inr (.inr (some 104))), some (.inl ((7 * k : Nat) : Int))], [], (zs h hl)) _
      refine zH_go 5 (c' := (567, [some (.inr (.inr (some 1))), some (.inr (.inr (some 2))), some (.inr (.inr (some 104))), some (.inl ((7 * k : Nat) : Int))], [.inl (((7 * k : Nat) : Int) + 1), .inr (.inr (some 1)), .inr (.inr (some 2))], (zs h hl))) rfl ?_
      refine zH_np (P := 0 ≤ (((7 * k : Nat) : Int) + 1) ∧ (((7 * k : Nat) : Int) + 1) < (hl 1 0)) (c' := (568, [some (.inr (.inr (some 1))), some (.inr (.inr (some 2))), some (.inr (.inr (some 104))), some (.inl ((7 * k : Nat) : Int))], [.inl (h 1 ((7 * k) + 1)), .inr (.inr (some 2))], (zs h hl))) rfl ⟨by omega, by rw [hlen]; omega⟩ ?_
      rw [show (h 1 ((7 * k) + 1)) = x1 from by rw [hX1]; exact ex1.symm]
      refine zH_call (M' := 81) (as := [.inr (.inr (some 2)), .inl x1]) (T := []) rfl (zT_least hI hx1) (fun ρ σ' pm => ?_)
      obtain ⟨x, g, gl, rfl, hzx, rfl, hX', hXL', hm⟩ := pm
      have hl2 : gl 1 0 = (Ls : Int) := by rw [hXL']; exact hXL0
      show zH _ _ (571, [some (.inr (.inr (some 1))), some (.inr (.inr (some 2))), some (.inr (.inr (some 104))), some (.inl ((7 * k : Nat) : Int))], [.inl x], (zs g gl)) _
      refine zH_go 5 (c' := (576, [some (.inr (.inr (some 1))), some (.inr (.inr (some 2))), some (.inr (.inr (some 104))), some (.inl ((7 * k : Nat) : Int))], [.inl (((7 * k : Nat) : Int) + 1), .inr (.inr (some 1)), .inr (.inr (some 104)), .inl x], (zs g gl))) rfl ?_
      refine zH_np (P := 0 ≤ (((7 * k : Nat) : Int) + 1) ∧ (((7 * k : Nat) : Int) + 1) < (gl 1 0)) (c' := (577, [some (.inr (.inr (some 1))), some (.inr (.inr (some 2))), some (.inr (.inr (some 104))), some (.inl ((7 * k : Nat) : Int))], [.inl (g 1 ((7 * k) + 1)), .inr (.inr (some 104)), .inl x], (zs g gl))) rfl ⟨by omega, by rw [hl2]; omega⟩ ?_
      rw [show (g 1 ((7 * k) + 1)) = x1 from by rw [hX']; exact ex1.symm]
      refine zH_call (M' := 138) (as := [.inr (.inr (some 104)), .inl x1]) (T := [.inl x]) rfl hm (fun r2 σ2 pm => ?_)
      obtain ⟨p2, r2', g2, gl2, rfl, rfl, hI2⟩ := pm
      show zH _ _ (580, [some (.inr (.inr (some 1))), some (.inr (.inr (some 2))), some (.inr (.inr (some 104))), some (.inl ((7 * k : Nat) : Int))], [.inl x, .inl x], (zs g2 gl2)) _
      refine zH_bt (x := x) (y := x) (k := .eq) (c1 := (1005, [some (.inr (.inr (some 1))), some (.inr (.inr (some 2))), some (.inr (.inr (some 104))), some (.inl ((7 * k : Nat) : Int))], [], (zs g2 gl2))) (c2 := (583, [some (.inr (.inr (some 1))), some (.inr (.inr (some 2))), some (.inr (.inr (some 104))), some (.inl ((7 * k : Nat) : Int))], [], (zs g2 gl2))) rfl (by first | assumption | (unfold zr; omega)) (by first | assumption | (unfold zr; omega)) (by show x = x; omega) ?_
      refine zH_go 1 (c' := (1008, [some (.inr (.inr (some 1))), some (.inr (.inr (some 2))), some (.inr (.inr (some 104))), some (.inl (((7 * k : Nat) : Int) + 7))], [], (zs g2 gl2))) rfl ?_
      rw [show (((7 * k : Nat) : Int) + 7) = ((7 * (k + 1) : Nat) : Int) from by omega]
      show zH _ _ (1008, [some (.inr (.inr (some 1))), some (.inr (.inr (some 2))), some (.inr (.inr (some 104))), some (.inl ((7 * (k + 1) : Nat) : Int))], [], (zs g2 gl2)) _
      refine zH_go 1 (c' := (18, [some (.inr (.inr (some 1))), some (.inr (.inr (some 2))), some (.inr (.inr (some 104))), some (.inl ((7 * (k + 1) : Nat) : Int))], [], (zs g2 gl2))) rfl ?_
      refine ih (p2, r2', g2, gl2) ?_
      show zLi X XL (k + 1) p2 r2' g2 gl2
      exact hI2
    · skip
      show zH _ _ (33, [some (.inr (.inr (some 1))), some (.inr (.inr (some 2))), some (.inr (.inr (some 104))), some (.inl ((7 * k : Nat) : Int))], [.inl 17], (zs h hl)) _
      refine zH_sw rfl ⟨by decide, by decide⟩ (tgt := 585) rfl ?_
      show zH _ _ (585, [some (.inr (.inr (some 1))), some (.inr (.inr (some 2))), some (.inr (.inr (some 104))), some (.inl ((7 * k : Nat) : Int))], [], (zs h hl)) _
      refine zH_go 5 (c' := (590, [some (.inr (.inr (some 1))), some (.inr (.inr (some 2))), some (.inr (.inr (some 104))), some (.inl ((7 * k : Nat) : Int))], [.inl (((7 * k : Nat) : Int) + 1), .inr (.inr (some 1)), .inr (.inr (some 2))], (zs h hl))) rfl ?_
      refine zH_np (P := 0 ≤ (((7 * k : Nat) : Int) + 1) ∧ (((7 * k : Nat) : Int) + 1) < (hl 1 0)) (c' := (591, [some (.inr (.inr (some 1))), some (.inr (.inr (some 2))), some (.inr (.inr (some 104))), some (.inl ((7 * k : Nat) : Int))], [.inl (h 1 ((7 * k) + 1)), .inr (.inr (some 2))], (zs h hl))) rfl ⟨by omega, by rw [hlen]; omega⟩ ?_
      rw [show (h 1 ((7 * k) + 1)) = x1 from by rw [hX1]; exact ex1.symm]
      refine zH_go 4 (c' := (595, [some (.inr (.inr (some 1))), some (.inr (.inr (some 2))), some (.inr (.inr (some 104))), some (.inl ((7 * k : Nat) : Int))], [.inl (((7 * k : Nat) : Int) + 2), .inr (.inr (some 1)), .inl x1, .inr (.inr (some 2))], (zs h hl))) rfl ?_
      refine zH_np (P := 0 ≤ (((7 * k : Nat) : Int) + 2) ∧ (((7 * k : Nat) : Int) + 2) < (hl 1 0)) (c' := (596, [some (.inr (.inr (some 1))), some (.inr (.inr (some 2))), some (.inr (.inr (some 104))), some (.inl ((7 * k : Nat) : Int))], [.inl (h 1 ((7 * k) + 2)), .inl x1, .inr (.inr (some 2))], (zs h hl))) rfl ⟨by omega, by rw [hlen]; omega⟩ ?_
      rw [show (h 1 ((7 * k) + 2)) = x2 from by rw [hX1]; exact ex2.symm]
      refine zH_call (M' := 82) (as := [.inr (.inr (some 2)), .inl x1, .inl x2]) (T := []) rfl (zT_plan hI hx1 hx2) (fun ρ σ' pm => ?_)
      obtain ⟨x, g, gl, rfl, hzx, rfl, hX', hXL', hm⟩ := pm
      have hl2 : gl 1 0 = (Ls : Int) := by rw [hXL']; exact hXL0
      show zH _ _ (599, [some (.inr (.inr (some 1))), some (.inr (.inr (some 2))), some (.inr (.inr (some 104))), some (.inl ((7 * k : Nat) : Int))], [.inl x], (zs g gl)) _
      refine zH_go 5 (c' := (604, [some (.inr (.inr (some 1))), some (.inr (.inr (some 2))), some (.inr (.inr (some 104))), some (.inl ((7 * k : Nat) : Int))], [.inl (((7 * k : Nat) : Int) + 1), .inr (.inr (some 1)), .inr (.inr (some 104)), .inl x], (zs g gl))) rfl ?_
      refine zH_np (P := 0 ≤ (((7 * k : Nat) : Int) + 1) ∧ (((7 * k : Nat) : Int) + 1) < (gl 1 0)) (c' := (605, [some (.inr (.inr (some 1))), some (.inr (.inr (some 2))), some (.inr (.inr (some 104))), some (.inl ((7 * k : Nat) : Int))], [.inl (g 1 ((7 * k) + 1)), .inr (.inr (some 104)), .inl x], (zs g gl))) rfl ⟨by omega, by rw [hl2]; omega⟩ ?_
      rw [show (g 1 ((7 * k) + 1)) = x1 from by rw [hX']; exact ex1.symm]
      refine zH_go 4 (c' := (609, [some (.inr (.inr (some 1))), some (.inr (.inr (some 2))), some (.inr (.inr (some 104))), some (.inl ((7 * k : Nat) : Int))], [.inl (((7 * k : Nat) : Int) + 2), .inr (.inr (some 1)), .inl x1, .inr (.inr (some 104)), .inl x], (zs g gl))) rfl ?_
      refine zH_np (P := 0 ≤ (((7 * k : Nat) : Int) + 2) ∧ (((7 * k : Nat) : Int) + 2) < (gl 1 0)) (c' := (610, [some (.inr (.inr (some 1))), some (.inr (.inr (some 2))), some (.inr (.inr (some 104))), some (.inl ((7 * k : Nat) : Int))], [.inl (g 1 ((7 * k) + 2)), .inl x1, .inr (.inr (some 104)), .inl x], (zs g gl))) rfl ⟨by omega, by rw [hl2]; omega⟩ ?_
      rw [show (g 1 ((7 * k) + 2)) = x2 from by rw [hX']; exact ex2.symm]
      refine zH_call (M' := 139) (as := [.inr (.inr (some 104)), .inl x1, .inl x2]) (T := [.inl x]) rfl hm (fun r2 σ2 pm => ?_)
      obtain ⟨p2, r2', g2, gl2, rfl, rfl, hI2⟩ := pm
      show zH _ _ (613, [some (.inr (.inr (some 1))), some (.inr (.inr (some 2))), some (.inr (.inr (some 104))), some (.inl ((7 * k : Nat) : Int))], [.inl x, .inl x], (zs g2 gl2)) _
      refine zH_bt (x := x) (y := x) (k := .eq) (c1 := (1005, [some (.inr (.inr (some 1))), some (.inr (.inr (some 2))), some (.inr (.inr (some 104))), some (.inl ((7 * k : Nat) : Int))], [], (zs g2 gl2))) (c2 := (616, [some (.inr (.inr (some 1))), some (.inr (.inr (some 2))), some (.inr (.inr (some 104))), some (.inl ((7 * k : Nat) : Int))], [], (zs g2 gl2))) rfl (by first | assumption | (unfold zr; omega)) (by first | assumption | (unfold zr; omega)) (by show x = x; omega) ?_
      refine zH_go 1 (c' := (1008, [some (.inr (.inr (some 1))), some (.inr (.inr (some 2))), some (.inr (.inr (some 104))), some (.inl (((7 * k : Nat) : Int) + 7))], [], (zs g2 gl2))) rfl ?_
      rw [show (((7 * k : Nat) : Int) + 7) = ((7 * (k + 1) : Nat) : Int) from by omega]
      show zH _ _ (1008, [some (.inr (.inr (some 1))), some (.inr (.inr (some 2))), some (.inr (.inr (some 104))), some (.inl ((7 * (k + 1) : Nat) : Int))], [], (zs g2 gl2)) _
      refine zH_go 1 (c' := (18, [some (.inr (.inr (some 1))), some (.inr (.inr (some 2))), some (.inr (.inr (some 104))), some (.inl ((7 * (k + 1) : Nat) : Int))], [], (zs g2 gl2))) rfl ?_
      refine ih (p2, r2', g2, gl2) ?_
      show zLi X XL (k + 1) p2 r2' g2 gl2
      exact hI2
    · skip
      show zH _ _ (33, [some (.inr (.inr (some 1))), some (.inr (.inr (some 2))), some (.inr (.inr (some 104))), some (.inl ((7 * k : Nat) : Int))], [.inl 18], (zs h hl)) _
      refine zH_sw rfl ⟨by decide, by decide⟩ (tgt := 618) rfl ?_
      show zH _ _ (618, [some (.inr (.inr (some 1))), some (.inr (.inr (some 2))), some (.inr (.inr (some 104))), some (.inl ((7 * k : Nat) : Int))], [], (zs h hl)) _
      refine zH_go 1 (c' := (619, [some (.inr (.inr (some 1))), some (.inr (.inr (some 2))), some (.inr (.inr (some 104))), some (.inl ((7 * k : Nat) : Int))], [.inr (.inr (some 2))], (zs h hl))) rfl ?_
      refine zH_call (M' := 83) (as := [.inr (.inr (some 2))]) (T := []) rfl (zT_ratio hI ) (fun ρ σ' pm => ?_)
      obtain ⟨x, g, gl, rfl, hzx, rfl, hX', hXL', hm⟩ := pm
      have hl2 : gl 1 0 = (Ls : Int) := by rw [hXL']; exact hXL0
      show zH _ _ (622, [some (.inr (.inr (some 1))), some (.inr (.inr (some 2))), some (.inr (.inr (some 104))), some (.inl ((7 * k : Nat) : Int))], [.inl x], (zs g gl)) _
      refine zH_go 1 (c' := (623, [some (.inr (.inr (some 1))), some (.inr (.inr (some 2))), some (.inr (.inr (some 104))), some (.inl ((7 * k : Nat) : Int))], [.inr (.inr (some 104)), .inl x], (zs g gl))) rfl ?_
      refine zH_call (M' := 140) (as := [.inr (.inr (some 104))]) (T := [.inl x]) rfl hm (fun r2 σ2 pm => ?_)
      obtain ⟨p2, r2', g2, gl2, rfl, rfl, hI2⟩ := pm
      show zH _ _ (626, [some (.inr (.inr (some 1))), some (.inr (.inr (some 2))), some (.inr (.inr (some 104))), some (.inl ((7 * k : Nat) : Int))], [.inl x, .inl x], (zs g2 gl2)) _
      refine zH_bt (x := x) (y := x) (k := .eq) (c1 := (1005, [some (.inr (.inr (some 1))), some (.inr (.inr (some 2))), some (.inr (.inr (some 104))), some (.inl ((7 * k : Nat) : Int))], [], (zs g2 gl2))) (c2 := (629, [some (.inr (.inr (some 1))), some (.inr (.inr (some 2))), some (.inr (.inr (some 104))), some (.inl ((7 * k : Nat) : Int))], [], (zs g2 gl2))) rfl (by first | assumption | (unfold zr; omega)) (by first | assumption | (unfold zr; omega)) (by show x = x; omega) ?_
      refine zH_go 1 (c' := (1008, [some (.inr (.inr (some 1))), some (.inr (.inr (some 2))), some (.inr (.inr (some 104))), some (.inl (((7 * k : Nat) : Int) + 7))], [], (zs g2 gl2))) rfl ?_
      rw [show (((7 * k : Nat) : Int) + 7) = ((7 * (k + 1) : Nat) : Int) from by omega]
      show zH _ _ (1008, [some (.inr (.inr (some 1))), some (.inr (.inr (some 2))), some (.inr (.inr (some 104))), some (.inl ((7 * (k + 1) : Nat) : Int))], [], (zs g2 gl2)) _
      refine zH_go 1 (c' := (18, [some (.inr (.inr (some 1))), some (.inr (.inr (some 2))), some (.inr (.inr (some 104))), some (.inl ((7 * (k + 1) : Nat) : Int))], [], (zs g2 gl2))) rfl ?_
      refine ih (p2, r2', g2, gl2) ?_
      show zLi X XL (k + 1) p2 r2' g2 gl2
      exact hI2
    · skip
      show zH _ _ (33, [some (.inr (.inr (some 1))), some (.inr (.inr (some 2))), some (.inr (.inr (some 104))), some (.inl ((7 * k : Nat) : Int))], [.inl 19], (zs h hl)) _
      refine zH_sw rfl ⟨by decide, by decide⟩ (tgt := 631) rfl ?_
      show zH _ _ (631, [some (.inr (.inr (some 1))), some (.inr (.inr (some 2))), some (.inr (.inr (some 104))), some (.inl ((7 * k : Nat) : Int))], [], (zs h hl)) _
      refine zH_go 5 (c' := (636, [some (.inr (.inr (some 1))), some (.inr (.inr (some 2))), some (.inr (.inr (some 104))), some (.inl ((7 * k : Nat) : Int))], [.inl (((7 * k : Nat) : Int) + 1), .inr (.inr (some 1)), .inr (.inr (some 2))], (zs h hl))) rfl ?_
      refine zH_np (P := 0 ≤ (((7 * k : Nat) : Int) + 1) ∧ (((7 * k : Nat) : Int) + 1) < (hl 1 0)) (c' := (637, [some (.inr (.inr (some 1))), some (.inr (.inr (some 2))), some (.inr (.inr (some 104))), some (.inl ((7 * k : Nat) : Int))], [.inl (h 1 ((7 * k) + 1)), .inr (.inr (some 2))], (zs h hl))) rfl ⟨by omega, by rw [hlen]; omega⟩ ?_
      rw [show (h 1 ((7 * k) + 1)) = x1 from by rw [hX1]; exact ex1.symm]
      refine zH_go 4 (c' := (641, [some (.inr (.inr (some 1))), some (.inr (.inr (some 2))), some (.inr (.inr (some 104))), some (.inl ((7 * k : Nat) : Int))], [.inl (((7 * k : Nat) : Int) + 2), .inr (.inr (some 1)), .inl x1, .inr (.inr (some 2))], (zs h hl))) rfl ?_
      refine zH_np (P := 0 ≤ (((7 * k : Nat) : Int) + 2) ∧ (((7 * k : Nat) : Int) + 2) < (hl 1 0)) (c' := (642, [some (.inr (.inr (some 1))), some (.inr (.inr (some 2))), some (.inr (.inr (some 104))), some (.inl ((7 * k : Nat) : Int))], [.inl (h 1 ((7 * k) + 2)), .inl x1, .inr (.inr (some 2))], (zs h hl))) rfl ⟨by omega, by rw [hlen]; omega⟩ ?_
      rw [show (h 1 ((7 * k) + 2)) = x2 from by rw [hX1]; exact ex2.symm]
      refine zH_call (M' := 84) (as := [.inr (.inr (some 2)), .inl x1, .inl x2]) (T := []) rfl (zT_worst hI hx1 hx2) (fun ρ σ' pm => ?_)
      obtain ⟨x, g, gl, rfl, hzx, rfl, hX', hXL', hm⟩ := pm
      have hl2 : gl 1 0 = (Ls : Int) := by rw [hXL']; exact hXL0
      show zH _ _ (645, [some (.inr (.inr (some 1))), some (.inr (.inr (some 2))), some (.inr (.inr (some 104))), some (.inl ((7 * k : Nat) : Int))], [.inl x], (zs g gl)) _
      refine zH_go 5 (c' := (650, [some (.inr (.inr (some 1))), some (.inr (.inr (some 2))), some (.inr (.inr (some 104))), some (.inl ((7 * k : Nat) : Int))], [.inl (((7 * k : Nat) : Int) + 1), .inr (.inr (some 1)), .inr (.inr (some 104)), .inl x], (zs g gl))) rfl ?_
      refine zH_np (P := 0 ≤ (((7 * k : Nat) : Int) + 1) ∧ (((7 * k : Nat) : Int) + 1) < (gl 1 0)) (c' := (651, [some (.inr (.inr (some 1))), some (.inr (.inr (some 2))), some (.inr (.inr (some 104))), some (.inl ((7 * k : Nat) : Int))], [.inl (g 1 ((7 * k) + 1)), .inr (.inr (some 104)), .inl x], (zs g gl))) rfl ⟨by omega, by rw [hl2]; omega⟩ ?_
      rw [show (g 1 ((7 * k) + 1)) = x1 from by rw [hX']; exact ex1.symm]
      refine zH_go 4 (c' := (655, [some (.inr (.inr (some 1))), some (.inr (.inr (some 2))), some (.inr (.inr (some 104))), some (.inl ((7 * k : Nat) : Int))], [.inl (((7 * k : Nat) : Int) + 2), .inr (.inr (some 1)), .inl x1, .inr (.inr (some 104)), .inl x], (zs g gl))) rfl ?_
      refine zH_np (P := 0 ≤ (((7 * k : Nat) : Int) + 2) ∧ (((7 * k : Nat) : Int) + 2) < (gl 1 0)) (c' := (656, [some (.inr (.inr (some 1))), some (.inr (.inr (some 2))), some (.inr (.inr (some 104))), some (.inl ((7 * k : Nat) : Int))], [.inl (g 1 ((7 * k) + 2)), .inl x1, .inr (.inr (some 104)), .inl x], (zs g gl))) rfl ⟨by omega, by rw [hl2]; omega⟩ ?_
      rw [show (g 1 ((7 * k) + 2)) = x2 from by rw [hX']; exact ex2.symm]
      refine zH_call (M' := 141) (as := [.inr (.inr (some 104)), .inl x1, .inl x2]) (T := [.inl x]) rfl hm (fun r2 σ2 pm => ?_)
      obtain ⟨p2, r2', g2, gl2, rfl, rfl, hI2⟩ := pm
      show zH _ _ (659, [some (.inr (.inr (some 1))), some (.inr (.inr (some 2))), some (.inr (.inr (some 104))), some (.inl ((7 * k : Nat) : Int))], [.inl x, .inl x], (zs g2 gl2)) _
      refine zH_bt (x := x) (y := x) (k := .eq) (c1 := (1005, [some (.inr (.inr (some 1))), some (.inr (.inr (some 2))), some (.inr (.inr (some 104))), some (.inl ((7 * k : Nat) : Int))], [], (zs g2 gl2))) (c2 := (662, [some (.inr (.inr (some 1))), some (.inr (.inr (some 2))), some (.inr (.inr (some 104))), some (.inl ((7 * k : Nat) : Int))], [], (zs g2 gl2))) rfl (by first | assumption | (unfold zr; omega)) (by first | assumption | (unfold zr; omega)) (by show x = x; omega) ?_
      refine zH_go 1 (c' := (1008, [some (.inr (.inr (some 1))), some (.inr (.inr (some 2))), some (.inr (.inr (some 104))), some (.inl (((7 * k : Nat) : Int) + 7))], [], (zs g2 gl2))) rfl ?_
      rw [show (((7 * k : Nat) : Int) + 7) = ((7 * (k + 1) : Nat) : Int) from by omega]
      show zH _ _ (1008, [some (.inr (.inr (some 1))), some (.inr (.inr (some 2))), some (.inr (.inr (some 104))), some (.inl ((7 * (k + 1) : Nat) : Int))], [], (zs g2 gl2)) _
      refine zH_go 1 (c' := (18, [some (.inr (.inr (some 1))), some (.inr (.inr (some 2))), some (.inr (.inr (some 104))), some (.inl ((7 * (k + 1) : Nat) : Int))], [], (zs g2 gl2))) rfl ?_
      refine ih (p2, r2', g2, gl2) ?_
      show zLi X XL (k + 1) p2 r2' g2 gl2
      exact hI2
    · skip
      show zH _ _ (33, [some (.inr (.inr (some 1))), some (.inr (.inr (some 2))), some (.inr (.inr (some 104))), some (.inl ((7 * k : Nat) : Int))], [.inl 20], (zs h hl)) _
      refine zH_sw rfl ⟨by decide, by decide⟩ (tgt := 664) rfl ?_
      show zH _ _ (664, [some (.inr (.inr (some 1))), some (.inr (.inr (some 2))), some (.inr (.inr (some 104))), some (.inl ((7 * k : Nat) : Int))], [], (zs h hl)) _
      refine zH_go 5 (c' := (669, [some (.inr (.inr (some 1))), some (.inr (.inr (some 2))), some (.inr (.inr (some 104))), some (.inl ((7 * k : Nat) : Int))], [.inl (((7 * k : Nat) : Int) + 1), .inr (.inr (some 1)), .inr (.inr (some 2))], (zs h hl))) rfl ?_
      refine zH_np (P := 0 ≤ (((7 * k : Nat) : Int) + 1) ∧ (((7 * k : Nat) : Int) + 1) < (hl 1 0)) (c' := (670, [some (.inr (.inr (some 1))), some (.inr (.inr (some 2))), some (.inr (.inr (some 104))), some (.inl ((7 * k : Nat) : Int))], [.inl (h 1 ((7 * k) + 1)), .inr (.inr (some 2))], (zs h hl))) rfl ⟨by omega, by rw [hlen]; omega⟩ ?_
      rw [show (h 1 ((7 * k) + 1)) = x1 from by rw [hX1]; exact ex1.symm]
      refine zH_go 4 (c' := (674, [some (.inr (.inr (some 1))), some (.inr (.inr (some 2))), some (.inr (.inr (some 104))), some (.inl ((7 * k : Nat) : Int))], [.inl (((7 * k : Nat) : Int) + 2), .inr (.inr (some 1)), .inl x1, .inr (.inr (some 2))], (zs h hl))) rfl ?_
      refine zH_np (P := 0 ≤ (((7 * k : Nat) : Int) + 2) ∧ (((7 * k : Nat) : Int) + 2) < (hl 1 0)) (c' := (675, [some (.inr (.inr (some 1))), some (.inr (.inr (some 2))), some (.inr (.inr (some 104))), some (.inl ((7 * k : Nat) : Int))], [.inl (h 1 ((7 * k) + 2)), .inl x1, .inr (.inr (some 2))], (zs h hl))) rfl ⟨by omega, by rw [hlen]; omega⟩ ?_
      rw [show (h 1 ((7 * k) + 2)) = x2 from by rw [hX1]; exact ex2.symm]
      refine zH_go 4 (c' := (679, [some (.inr (.inr (some 1))), some (.inr (.inr (some 2))), some (.inr (.inr (some 104))), some (.inl ((7 * k : Nat) : Int))], [.inl (((7 * k : Nat) : Int) + 3), .inr (.inr (some 1)), .inl x2, .inl x1, .inr (.inr (some 2))], (zs h hl))) rfl ?_
      refine zH_np (P := 0 ≤ (((7 * k : Nat) : Int) + 3) ∧ (((7 * k : Nat) : Int) + 3) < (hl 1 0)) (c' := (680, [some (.inr (.inr (some 1))), some (.inr (.inr (some 2))), some (.inr (.inr (some 104))), some (.inl ((7 * k : Nat) : Int))], [.inl (h 1 ((7 * k) + 3)), .inl x2, .inl x1, .inr (.inr (some 2))], (zs h hl))) rfl ⟨by omega, by rw [hlen]; omega⟩ ?_
      rw [show (h 1 ((7 * k) + 3)) = x3 from by rw [hX1]; exact ex3.symm]
      refine zH_call (M' := 86) (as := [.inr (.inr (some 2)), .inl x1, .inl x2, .inl x3]) (T := []) rfl (zT_book hI hx1 hx2 hx3) (fun ρ σ' pm => ?_)
      obtain ⟨x, g, gl, rfl, hzx, rfl, hX', hXL', hm⟩ := pm
      have hl2 : gl 1 0 = (Ls : Int) := by rw [hXL']; exact hXL0
      show zH _ _ (683, [some (.inr (.inr (some 1))), some (.inr (.inr (some 2))), some (.inr (.inr (some 104))), some (.inl ((7 * k : Nat) : Int))], [.inl x], (zs g gl)) _
      refine zH_go 5 (c' := (688, [some (.inr (.inr (some 1))), some (.inr (.inr (some 2))), some (.inr (.inr (some 104))), some (.inl ((7 * k : Nat) : Int))], [.inl (((7 * k : Nat) : Int) + 1), .inr (.inr (some 1)), .inr (.inr (some 104)), .inl x], (zs g gl))) rfl ?_
      refine zH_np (P := 0 ≤ (((7 * k : Nat) : Int) + 1) ∧ (((7 * k : Nat) : Int) + 1) < (gl 1 0)) (c' := (689, [some (.inr (.inr (some 1))), some (.inr (.inr (some 2))), some (.inr (.inr (some 104))), some (.inl ((7 * k : Nat) : Int))], [.inl (g 1 ((7 * k) + 1)), .inr (.inr (some 104)), .inl x], (zs g gl))) rfl ⟨by omega, by rw [hl2]; omega⟩ ?_
      rw [show (g 1 ((7 * k) + 1)) = x1 from by rw [hX']; exact ex1.symm]
      refine zH_go 4 (c' := (693, [some (.inr (.inr (some 1))), some (.inr (.inr (some 2))), some (.inr (.inr (some 104))), some (.inl ((7 * k : Nat) : Int))], [.inl (((7 * k : Nat) : Int) + 2), .inr (.inr (some 1)), .inl x1, .inr (.inr (some 104)), .inl x], (zs g gl))) rfl ?_
      refine zH_np (P := 0 ≤ (((7 * k : Nat) : Int) + 2) ∧ (((7 * k : Nat) : Int) + 2) < (gl 1 0)) (c' := (694, [some (.inr (.inr (some 1))), some (.inr (.inr (some 2))), some (.inr (.inr (some 104))), some (.inl ((7 * k : Nat) : Int))], [.inl (g 1 ((7 * k) + 2)), .inl x1, .inr (.inr (some 104)), .inl x], (zs g gl))) rfl ⟨by omega, by rw [hl2]; omega⟩ ?_
      rw [show (g 1 ((7 * k) + 2)) = x2 from by rw [hX']; exact ex2.symm]
      refine zH_go 4 (c' := (698, [some (.inr (.inr (some 1))), some (.inr (.inr (some 2))), some (.inr (.inr (some 104))), some (.inl ((7 * k : Nat) : Int))], [.inl (((7 * k : Nat) : Int) + 3), .inr (.inr (some 1)), .inl x2, .inl x1, .inr (.inr (some 104)), .inl x], (zs g gl))) rfl ?_
      refine zH_np (P := 0 ≤ (((7 * k : Nat) : Int) + 3) ∧ (((7 * k : Nat) : Int) + 3) < (gl 1 0)) (c' := (699, [some (.inr (.inr (some 1))), some (.inr (.inr (some 2))), some (.inr (.inr (some 104))), some (.inl ((7 * k : Nat) : Int))], [.inl (g 1 ((7 * k) + 3)), .inl x2, .inl x1, .inr (.inr (some 104)), .inl x], (zs g gl))) rfl ⟨by omega, by rw [hl2]; omega⟩ ?_
      rw [show (g 1 ((7 * k) + 3)) = x3 from by rw [hX']; exact ex3.symm]
      refine zH_call (M' := 143) (as := [.inr (.inr (some 104)), .inl x1, .inl x2, .inl x3]) (T := [.inl x]) rfl hm (fun r2 σ2 pm => ?_)
      obtain ⟨p2, r2', g2, gl2, rfl, rfl, hI2⟩ := pm
      show zH _ _ (702, [some (.inr (.inr (some 1))), some (.inr (.inr (some 2))), some (.inr (.inr (some 104))), some (.inl ((7 * k : Nat) : Int))], [.inl x, .inl x], (zs g2 gl2)) _
      refine zH_bt (x := x) (y := x) (k := .eq) (c1 := (1005, [some (.inr (.inr (some 1))), some (.inr (.inr (some 2))), some (.inr (.inr (some 104))), some (.inl ((7 * k : Nat) : Int))], [], (zs g2 gl2))) (c2 := (705, [some (.inr (.inr (some 1))), some (.inr (.inr (some 2))), some (.inr (.inr (some 104))), some (.inl ((7 * k : Nat) : Int))], [], (zs g2 gl2))) rfl (by first | assumption | (unfold zr; omega)) (by first | assumption | (unfold zr; omega)) (by show x = x; omega) ?_
      refine zH_go 1 (c' := (1008, [some (.inr (.inr (some 1))), some (.inr (.inr (some 2))), some (.inr (.inr (some 104))), some (.inl (((7 * k : Nat) : Int) + 7))], [], (zs g2 gl2))) rfl ?_
      rw [show (((7 * k : Nat) : Int) + 7) = ((7 * (k + 1) : Nat) : Int) from by omega]
      show zH _ _ (1008, [some (.inr (.inr (some 1))), some (.inr (.inr (some 2))), some (.inr (.inr (some 104))), some (.inl ((7 * (k + 1) : Nat) : Int))], [], (zs g2 gl2)) _
      refine zH_go 1 (c' := (18, [some (.inr (.inr (some 1))), some (.inr (.inr (some 2))), some (.inr (.inr (some 104))), some (.inl ((7 * (k + 1) : Nat) : Int))], [], (zs g2 gl2))) rfl ?_
      refine ih (p2, r2', g2, gl2) ?_
      show zLi X XL (k + 1) p2 r2' g2 gl2
      exact hI2
    · skip
      show zH _ _ (33, [some (.inr (.inr (some 1))), some (.inr (.inr (some 2))), some (.inr (.inr (some 104))), some (.inl ((7 * k : Nat) : Int))], [.inl 21], (zs h hl)) _
      refine zH_sw rfl ⟨by decide, by decide⟩ (tgt := 707) rfl ?_
      show zH _ _ (707, [some (.inr (.inr (some 1))), some (.inr (.inr (some 2))), some (.inr (.inr (some 104))), some (.inl ((7 * k : Nat) : Int))], [], (zs h hl)) _
      refine zH_go 5 (c' := (712, [some (.inr (.inr (some 1))), some (.inr (.inr (some 2))), some (.inr (.inr (some 104))), some (.inl ((7 * k : Nat) : Int))], [.inl (((7 * k : Nat) : Int) + 1), .inr (.inr (some 1)), .inr (.inr (some 2))], (zs h hl))) rfl ?_
      refine zH_np (P := 0 ≤ (((7 * k : Nat) : Int) + 1) ∧ (((7 * k : Nat) : Int) + 1) < (hl 1 0)) (c' := (713, [some (.inr (.inr (some 1))), some (.inr (.inr (some 2))), some (.inr (.inr (some 104))), some (.inl ((7 * k : Nat) : Int))], [.inl (h 1 ((7 * k) + 1)), .inr (.inr (some 2))], (zs h hl))) rfl ⟨by omega, by rw [hlen]; omega⟩ ?_
      rw [show (h 1 ((7 * k) + 1)) = x1 from by rw [hX1]; exact ex1.symm]
      refine zH_go 4 (c' := (717, [some (.inr (.inr (some 1))), some (.inr (.inr (some 2))), some (.inr (.inr (some 104))), some (.inl ((7 * k : Nat) : Int))], [.inl (((7 * k : Nat) : Int) + 2), .inr (.inr (some 1)), .inl x1, .inr (.inr (some 2))], (zs h hl))) rfl ?_
      refine zH_np (P := 0 ≤ (((7 * k : Nat) : Int) + 2) ∧ (((7 * k : Nat) : Int) + 2) < (hl 1 0)) (c' := (718, [some (.inr (.inr (some 1))), some (.inr (.inr (some 2))), some (.inr (.inr (some 104))), some (.inl ((7 * k : Nat) : Int))], [.inl (h 1 ((7 * k) + 2)), .inl x1, .inr (.inr (some 2))], (zs h hl))) rfl ⟨by omega, by rw [hlen]; omega⟩ ?_
      rw [show (h 1 ((7 * k) + 2)) = x2 from by rw [hX1]; exact ex2.symm]
      refine zH_go 4 (c' := (722, [some (.inr (.inr (some 1))), some (.inr (.inr (some 2))), some (.inr (.inr (some 104))), some (.inl ((7 * k : Nat) : Int))], [.inl (((7 * k : Nat) : Int) + 3), .inr (.inr (some 1)), .inl x2, .inl x1, .inr (.inr (some 2))], (zs h hl))) rfl ?_
      refine zH_np (P := 0 ≤ (((7 * k : Nat) : Int) + 3) ∧ (((7 * k : Nat) : Int) + 3) < (hl 1 0)) (c' := (723, [some (.inr (.inr (some 1))), some (.inr (.inr (some 2))), some (.inr (.inr (some 104))), some (.inl ((7 * k : Nat) : Int))], [.inl (h 1 ((7 * k) + 3)), .inl x2, .inl x1, .inr (.inr (some 2))], (zs h hl))) rfl ⟨by omega, by rw [hlen]; omega⟩ ?_
      rw [show (h 1 ((7 * k) + 3)) = x3 from by rw [hX1]; exact ex3.symm]
      refine zH_call (M' := 87) (as := [.inr (.inr (some 2)), .inl x1, .inl x2, .inl x3]) (T := []) rfl (zT_row hI hx1 hx2 hx3) (fun ρ σ' pm => ?_)
      obtain ⟨x, g, gl, rfl, hzx, rfl, hX', hXL', hm⟩ := pm
      have hl2 : gl 1 0 = (Ls : Int) := by rw [hXL']; exact hXL0
      show zH _ _ (726, [some (.inr (.inr (some 1))), some (.inr (.inr (some 2))), some (.inr (.inr (some 104))), some (.inl ((7 * k : Nat) : Int))], [.inl x], (zs g gl)) _
      refine zH_go 5 (c' := (731, [some (.inr (.inr (some 1))), some (.inr (.inr (some 2))), some (.inr (.inr (some 104))), some (.inl ((7 * k : Nat) : Int))], [.inl (((7 * k : Nat) : Int) + 1), .inr (.inr (some 1)), .inr (.inr (some 104)), .inl x], (zs g gl))) rfl ?_
      refine zH_np (P := 0 ≤ (((7 * k : Nat) : Int) + 1) ∧ (((7 * k : Nat) : Int) + 1) < (gl 1 0)) (c' := (732, [some (.inr (.inr (some 1))), some (.inr (.inr (some 2))), some (.inr (.inr (some 104))), some (.inl ((7 * k : Nat) : Int))], [.inl (g 1 ((7 * k) + 1)), .inr (.inr (some 104)), .inl x], (zs g gl))) rfl ⟨by omega, by rw [hl2]; omega⟩ ?_
      rw [show (g 1 ((7 * k) + 1)) = x1 from by rw [hX']; exact ex1.symm]
      refine zH_go 4 (c' := (736, [some (.inr (.inr (some 1))), some (.inr (.inr (some 2))), some (.inr (.inr (some 104))), some (.inl ((7 * k : Nat) : Int))], [.inl (((7 * k : Nat) : Int) + 2), .inr (.inr (some 1)), .inl x1, .inr (.inr (some 104)), .inl x], (zs g gl))) rfl ?_
      refine zH_np (P := 0 ≤ (((7 * k : Nat) : Int) + 2) ∧ (((7 * k : Nat) : Int) + 2) < (gl 1 0)) (c' := (737, [some (.inr (.inr (some 1))), some (.inr (.inr (some 2))), some (.inr (.inr (some 104))), some (.inl ((7 * k : Nat) : Int))], [.inl (g 1 ((7 * k) + 2)), .inl x1, .inr (.inr (some 104)), .inl x], (zs g gl))) rfl ⟨by omega, by rw [hl2]; omega⟩ ?_
      rw [show (g 1 ((7 * k) + 2)) = x2 from by rw [hX']; exact ex2.symm]
      refine zH_go 4 (c' := (741, [some (.inr (.inr (some 1))), some (.inr (.inr (some 2))), some (.inr (.inr (some 104))), some (.inl ((7 * k : Nat) : Int))], [.inl (((7 * k : Nat) : Int) + 3), .inr (.inr (some 1)), .inl x2, .inl x1, .inr (.inr (some 104)), .inl x], (zs g gl))) rfl ?_
      refine zH_np (P := 0 ≤ (((7 * k : Nat) : Int) + 3) ∧ (((7 * k : Nat) : Int) + 3) < (gl 1 0)) (c' := (742, [some (.inr (.inr (some 1))), some (.inr (.inr (some 2))), some (.inr (.inr (some 104))), some (.inl ((7 * k : Nat) : Int))], [.inl (g 1 ((7 * k) + 3)), .inl x2, .inl x1, .inr (.inr (some 104)), .inl x], (zs g gl))) rfl ⟨by omega, by rw [hl2]; omega⟩ ?_
      rw [show (g 1 ((7 * k) + 3)) = x3 from by rw [hX']; exact ex3.symm]
      refine zH_call (M' := 144) (as := [.inr (.inr (some 104)), .inl x1, .inl x2, .inl x3]) (T := [.inl x]) rfl hm (fun r2 σ2 pm => ?_)
      obtain ⟨p2, r2', g2, gl2, rfl, rfl, hI2⟩ := pm
      show zH _ _ (745, [some (.inr (.inr (some 1))), some (.inr (.inr (some 2))), some (.inr (.inr (some 104))), some (.inl ((7 * k : Nat) : Int))], [.inl x, .inl x], (zs g2 gl2)) _
      refine zH_bt (x := x) (y := x) (k := .eq) (c1 := (1005, [some (.inr (.inr (some 1))), some (.inr (.inr (some 2))), some (.inr (.inr (some 104))), some (.inl ((7 * k : Nat) : Int))], [], (zs g2 gl2))) (c2 := (748, [some (.inr (.inr (some 1))), some (.inr (.inr (some 2))), some (.inr (.inr (some 104))), some (.inl ((7 * k : Nat) : Int))], [], (zs g2 gl2))) rfl (by first | assumption | (unfold zr; omega)) (by first | assumption | (unfold zr; omega)) (by show x = x; omega) ?_
      refine zH_go 1 (c' := (1008, [some (.inr (.inr (some 1))), some (.inr (.inr (some 2))), some (.inr (.inr (some 104))), some (.inl (((7 * k : Nat) : Int) + 7))], [], (zs g2 gl2))) rfl ?_
      rw [show (((7 * k : Nat) : Int) + 7) = ((7 * (k + 1) : Nat) : Int) from by omega]
      show zH _ _ (1008, [some (.inr (.inr (some 1))), some (.inr (.inr (some 2))), some (.inr (.inr (some 104))), some (.inl ((7 * (k + 1) : Nat) : Int))], [], (zs g2 gl2)) _
      refine zH_go 1 (c' := (18, [some (.inr (.inr (some 1))), some (.inr (.inr (some 2))), some (.inr (.inr (some 104))), some (.inl ((7 * (k + 1) : Nat) : Int))], [], (zs g2 gl2))) rfl ?_
      refine ih (p2, r2', g2, gl2) ?_
      show zLi X XL (k + 1) p2 r2' g2 gl2
      exact hI2
    · skip
      show zH _ _ (33, [some (.inr (.inr (some 1))), some (.inr (.inr (some 2))), some (.inr (.inr (some 104))), some (.inl ((7 * k : Nat) : Int))], [.inl 22], (zs h hl)) _
      refine zH_sw rfl ⟨by decide, by decide⟩ (tgt := 750) rfl ?_
      show zH _ _ (750, [some (.inr (.inr (some 1))), some (.inr (.inr (some 2))), some (.inr (.inr (some 104))), some (.inl ((7 * k : Nat) : Int))], [], (zs h hl)) _
      refine zH_go 5 (c' := (755, [some (.inr (.inr (some 1))), some (.inr (.inr (some 2))), some (.inr (.inr (some 104))), some (.inl ((7 * k : Nat) : Int))], [.inl (((7 * k : Nat) : Int) + 1), .inr (.inr (some 1)), .inr (.inr (some 2))], (zs h hl))) rfl ?_
      refine zH_np (P := 0 ≤ (((7 * k : Nat) : Int) + 1) ∧ (((7 * k : Nat) : Int) + 1) < (hl 1 0)) (c' := (756, [some (.inr (.inr (some 1))), some (.inr (.inr (some 2))), some (.inr (.inr (some 104))), some (.inl ((7 * k : Nat) : Int))], [.inl (h 1 ((7 * k) + 1)), .inr (.inr (some 2))], (zs h hl))) rfl ⟨by omega, by rw [hlen]; omega⟩ ?_
      rw [show (h 1 ((7 * k) + 1)) = x1 from by rw [hX1]; exact ex1.symm]
      refine zH_go 4 (c' := (760, [some (.inr (.inr (some 1))), some (.inr (.inr (some 2))), some (.inr (.inr (some 104))), some (.inl ((7 * k : Nat) : Int))], [.inl (((7 * k : Nat) : Int) + 2), .inr (.inr (some 1)), .inl x1, .inr (.inr (some 2))], (zs h hl))) rfl ?_
      refine zH_np (P := 0 ≤ (((7 * k : Nat) : Int) + 2) ∧ (((7 * k : Nat) : Int) + 2) < (hl 1 0)) (c' := (761, [some (.inr (.inr (some 1))), some (.inr (.inr (some 2))), some (.inr (.inr (some 104))), some (.inl ((7 * k : Nat) : Int))], [.inl (h 1 ((7 * k) + 2)), .inl x1, .inr (.inr (some 2))], (zs h hl))) rfl ⟨by omega, by rw [hlen]; omega⟩ ?_
      rw [show (h 1 ((7 * k) + 2)) = x2 from by rw [hX1]; exact ex2.symm]
      refine zH_go 4 (c' := (765, [some (.inr (.inr (some 1))), some (.inr (.inr (some 2))), some (.inr (.inr (some 104))), some (.inl ((7 * k : Nat) : Int))], [.inl (((7 * k : Nat) : Int) + 3), .inr (.inr (some 1)), .inl x2, .inl x1, .inr (.inr (some 2))], (zs h hl))) rfl ?_
      refine zH_np (P := 0 ≤ (((7 * k : Nat) : Int) + 3) ∧ (((7 * k : Nat) : Int) + 3) < (hl 1 0)) (c' := (766, [some (.inr (.inr (some 1))), some (.inr (.inr (some 2))), some (.inr (.inr (some 104))), some (.inl ((7 * k : Nat) : Int))], [.inl (h 1 ((7 * k) + 3)), .inl x2, .inl x1, .inr (.inr (some 2))], (zs h hl))) rfl ⟨by omega, by rw [hlen]; omega⟩ ?_
      rw [show (h 1 ((7 * k) + 3)) = x3 from by rw [hX1]; exact ex3.symm]
      refine zH_go 4 (c' := (770, [some (.inr (.inr (some 1))), some (.inr (.inr (some 2))), some (.inr (.inr (some 104))), some (.inl ((7 * k : Nat) : Int))], [.inl (((7 * k : Nat) : Int) + 4), .inr (.inr (some 1)), .inl x3, .inl x2, .inl x1, .inr (.inr (some 2))], (zs h hl))) rfl ?_
      refine zH_np (P := 0 ≤ (((7 * k : Nat) : Int) + 4) ∧ (((7 * k : Nat) : Int) + 4) < (hl 1 0)) (c' := (771, [some (.inr (.inr (some 1))), some (.inr (.inr (some 2))), some (.inr (.inr (some 104))), some (.inl ((7 * k : Nat) : Int))], [.inl (h 1 ((7 * k) + 4)), .inl x3, .inl x2, .inl x1, .inr (.inr (some 2))], (zs h hl))) rfl ⟨by omega, by rw [hlen]; omega⟩ ?_
      rw [show (h 1 ((7 * k) + 4)) = x4 from by rw [hX1]; exact ex4.symm]
      refine zH_go 4 (c' := (775, [some (.inr (.inr (some 1))), some (.inr (.inr (some 2))), some (.inr (.inr (some 104))), some (.inl ((7 * k : Nat) : Int))], [.inl (((7 * k : Nat) : Int) + 5), .inr (.inr (some 1)), .inl x4, .inl x3, .inl x2, .inl x1, .inr (.inr (some 2))], (zs h hl))) rfl ?_
      refine zH_np (P := 0 ≤ (((7 * k : Nat) : Int) + 5) ∧ (((7 * k : Nat) : Int) + 5) < (hl 1 0)) (c' := (776, [some (.inr (.inr (some 1))), some (.inr (.inr (some 2))), some (.inr (.inr (some 104))), some (.inl ((7 * k : Nat) : Int))], [.inl (h 1 ((7 * k) + 5)), .inl x4, .inl x3, .inl x2, .inl x1, .inr (.inr (some 2))], (zs h hl))) rfl ⟨by omega, by rw [hlen]; omega⟩ ?_
      rw [show (h 1 ((7 * k) + 5)) = x5 from by rw [hX1]; exact ex5.symm]
      refine zH_np (P := zr x5) (c' := (777, [some (.inr (.inr (some 1))), some (.inr (.inr (some 2))), some (.inr (.inr (some 104))), some (.inl ((7 * k : Nat) : Int))], [.inr (.inl x5), .inl x4, .inl x3, .inl x2, .inl x1, .inr (.inr (some 2))], (zs h hl))) rfl (by first | assumption | (unfold zr; omega)) ?_
      refine zH_go 6 (c' := (785, [some (.inr (.inr (some 1))), some (.inr (.inr (some 2))), some (.inr (.inr (some 104))), some (.inl ((7 * k : Nat) : Int))], [.inl (((7 * k : Nat) : Int) + 6), .inr (.inr (some 1)), .inr (.inl (zshll x5 32)), .inl x4, .inl x3, .inl x2, .inl x1, .inr (.inr (some 2))], (zs h hl))) rfl ?_
      refine zH_np (P := 0 ≤ (((7 * k : Nat) : Int) + 6) ∧ (((7 * k : Nat) : Int) + 6) < (hl 1 0)) (c' := (786, [some (.inr (.inr (some 1))), some (.inr (.inr (some 2))), some (.inr (.inr (some 104))), some (.inl ((7 * k : Nat) : Int))], [.inl (h 1 ((7 * k) + 6)), .inr (.inl (zshll x5 32)), .inl x4, .inl x3, .inl x2, .inl x1, .inr (.inr (some 2))], (zs h hl))) rfl ⟨by omega, by rw [hlen]; omega⟩ ?_
      rw [show (h 1 ((7 * k) + 6)) = x6 from by rw [hX1]; exact ex6.symm]
      refine zH_np (P := zr x6) (c' := (787, [some (.inr (.inr (some 1))), some (.inr (.inr (some 2))), some (.inr (.inr (some 104))), some (.inl ((7 * k : Nat) : Int))], [.inr (.inl x6), .inr (.inl (zshll x5 32)), .inl x4, .inl x3, .inl x2, .inl x1, .inr (.inr (some 2))], (zs h hl))) rfl (by first | assumption | (unfold zr; omega)) ?_
      refine zH_go 3 (c' := (792, [some (.inr (.inr (some 1))), some (.inr (.inr (some 2))), some (.inr (.inr (some 104))), some (.inl ((7 * k : Nat) : Int))], [.inr (.inl (zorl (zshll x5 32) (zandl x6 4294967295))), .inl x4, .inl x3, .inl x2, .inl x1, .inr (.inr (some 2))], (zs h hl))) rfl ?_
      refine zH_call (M' := 88) (as := [.inr (.inr (some 2)), .inl x1, .inl x2, .inl x3, .inl x4, .inr (.inl (zorl (zshll x5 32) (zandl x6 4294967295)))]) (T := []) rfl (zT_put hI hx1 hx2 hx3 hx4 (zorl_z _ _)) (fun ρ σ' pm => ?_)
      obtain ⟨x, g, gl, rfl, hzx, rfl, hX', hXL', hm⟩ := pm
      have hl2 : gl 1 0 = (Ls : Int) := by rw [hXL']; exact hXL0
      show zH _ _ (795, [some (.inr (.inr (some 1))), some (.inr (.inr (some 2))), some (.inr (.inr (some 104))), some (.inl ((7 * k : Nat) : Int))], [.inl x], (zs g gl)) _
      refine zH_go 5 (c' := (800, [some (.inr (.inr (some 1))), some (.inr (.inr (some 2))), some (.inr (.inr (some 104))), some (.inl ((7 * k : Nat) : Int))], [.inl (((7 * k : Nat) : Int) + 1), .inr (.inr (some 1)), .inr (.inr (some 104)), .inl x], (zs g gl))) rfl ?_
      refine zH_np (P := 0 ≤ (((7 * k : Nat) : Int) + 1) ∧ (((7 * k : Nat) : Int) + 1) < (gl 1 0)) (c' := (801, [some (.inr (.inr (some 1))), some (.inr (.inr (some 2))), some (.inr (.inr (some 104))), some (.inl ((7 * k : Nat) : Int))], [.inl (g 1 ((7 * k) + 1)), .inr (.inr (some 104)), .inl x], (zs g gl))) rfl ⟨by omega, by rw [hl2]; omega⟩ ?_
      rw [show (g 1 ((7 * k) + 1)) = x1 from by rw [hX']; exact ex1.symm]
      refine zH_go 4 (c' := (805, [some (.inr (.inr (some 1))), some (.inr (.inr (some 2))), some (.inr (.inr (some 104))), some (.inl ((7 * k : Nat) : Int))], [.inl (((7 * k : Nat) : Int) + 2), .inr (.inr (some 1)), .inl x1, .inr (.inr (some 104)), .inl x], (zs g gl))) rfl ?_
      refine zH_np (P := 0 ≤ (((7 * k : Nat) : Int) + 2) ∧ (((7 * k : Nat) : Int) + 2) < (gl 1 0)) (c' := (806, [some (.inr (.inr (some 1))), some (.inr (.inr (some 2))), some (.inr (.inr (some 104))), some (.inl ((7 * k : Nat) : Int))], [.inl (g 1 ((7 * k) + 2)), .inl x1, .inr (.inr (some 104)), .inl x], (zs g gl))) rfl ⟨by omega, by rw [hl2]; omega⟩ ?_
      rw [show (g 1 ((7 * k) + 2)) = x2 from by rw [hX']; exact ex2.symm]
      refine zH_go 4 (c' := (810, [some (.inr (.inr (some 1))), some (.inr (.inr (some 2))), some (.inr (.inr (some 104))), some (.inl ((7 * k : Nat) : Int))], [.inl (((7 * k : Nat) : Int) + 3), .inr (.inr (some 1)), .inl x2, .inl x1, .inr (.inr (some 104)), .inl x], (zs g gl))) rfl ?_
      refine zH_np (P := 0 ≤ (((7 * k : Nat) : Int) + 3) ∧ (((7 * k : Nat) : Int) + 3) < (gl 1 0)) (c' := (811, [some (.inr (.inr (some 1))), some (.inr (.inr (some 2))), some (.inr (.inr (some 104))), some (.inl ((7 * k : Nat) : Int))], [.inl (g 1 ((7 * k) + 3)), .inl x2, .inl x1, .inr (.inr (some 104)), .inl x], (zs g gl))) rfl ⟨by omega, by rw [hl2]; omega⟩ ?_
      rw [show (g 1 ((7 * k) + 3)) = x3 from by rw [hX']; exact ex3.symm]
      refine zH_go 4 (c' := (815, [some (.inr (.inr (some 1))), some (.inr (.inr (some 2))), some (.inr (.inr (some 104))), some (.inl ((7 * k : Nat) : Int))], [.inl (((7 * k : Nat) : Int) + 4), .inr (.inr (some 1)), .inl x3, .inl x2, .inl x1, .inr (.inr (some 104)), .inl x], (zs g gl))) rfl ?_
      refine zH_np (P := 0 ≤ (((7 * k : Nat) : Int) + 4) ∧ (((7 * k : Nat) : Int) + 4) < (gl 1 0)) (c' := (816, [some (.inr (.inr (some 1))), some (.inr (.inr (some 2))), some (.inr (.inr (some 104))), some (.inl ((7 * k : Nat) : Int))], [.inl (g 1 ((7 * k) + 4)), .inl x3, .inl x2, .inl x1, .inr (.inr (some 104)), .inl x], (zs g gl))) rfl ⟨by omega, by rw [hl2]; omega⟩ ?_
      rw [show (g 1 ((7 * k) + 4)) = x4 from by rw [hX']; exact ex4.symm]
      refine zH_go 4 (c' := (820, [some (.inr (.inr (some 1))), some (.inr (.inr (some 2))), some (.inr (.inr (some 104))), some (.inl ((7 * k : Nat) : Int))], [.inl (((7 * k : Nat) : Int) + 5), .inr (.inr (some 1)), .inl x4, .inl x3, .inl x2, .inl x1, .inr (.inr (some 104)), .inl x], (zs g gl))) rfl ?_
      refine zH_np (P := 0 ≤ (((7 * k : Nat) : Int) + 5) ∧ (((7 * k : Nat) : Int) + 5) < (gl 1 0)) (c' := (821, [some (.inr (.inr (some 1))), some (.inr (.inr (some 2))), some (.inr (.inr (some 104))), some (.inl ((7 * k : Nat) : Int))], [.inl (g 1 ((7 * k) + 5)), .inl x4, .inl x3, .inl x2, .inl x1, .inr (.inr (some 104)), .inl x], (zs g gl))) rfl ⟨by omega, by rw [hl2]; omega⟩ ?_
      rw [show (g 1 ((7 * k) + 5)) = x5 from by rw [hX']; exact ex5.symm]
      refine zH_np (P := zr x5) (c' := (822, [some (.inr (.inr (some 1))), some (.inr (.inr (some 2))), some (.inr (.inr (some 104))), some (.inl ((7 * k : Nat) : Int))], [.inr (.inl x5), .inl x4, .inl x3, .inl x2, .inl x1, .inr (.inr (some 104)), .inl x], (zs g gl))) rfl (by first | assumption | (unfold zr; omega)) ?_
      refine zH_go 6 (c' := (830, [some (.inr (.inr (some 1))), some (.inr (.inr (some 2))), some (.inr (.inr (some 104))), some (.inl ((7 * k : Nat) : Int))], [.inl (((7 * k : Nat) : Int) + 6), .inr (.inr (some 1)), .inr (.inl (zshll x5 32)), .inl x4, .inl x3, .inl x2, .inl x1, .inr (.inr (some 104)), .inl x], (zs g gl))) rfl ?_
      refine zH_np (P := 0 ≤ (((7 * k : Nat) : Int) + 6) ∧ (((7 * k : Nat) : Int) + 6) < (gl 1 0)) (c' := (831, [some (.inr (.inr (some 1))), some (.inr (.inr (some 2))), some (.inr (.inr (some 104))), some (.inl ((7 * k : Nat) : Int))], [.inl (g 1 ((7 * k) + 6)), .inr (.inl (zshll x5 32)), .inl x4, .inl x3, .inl x2, .inl x1, .inr (.inr (some 104)), .inl x], (zs g gl))) rfl ⟨by omega, by rw [hl2]; omega⟩ ?_
      rw [show (g 1 ((7 * k) + 6)) = x6 from by rw [hX']; exact ex6.symm]
      refine zH_np (P := zr x6) (c' := (832, [some (.inr (.inr (some 1))), some (.inr (.inr (some 2))), some (.inr (.inr (some 104))), some (.inl ((7 * k : Nat) : Int))], [.inr (.inl x6), .inr (.inl (zshll x5 32)), .inl x4, .inl x3, .inl x2, .inl x1, .inr (.inr (some 104)), .inl x], (zs g gl))) rfl (by first | assumption | (unfold zr; omega)) ?_
      refine zH_go 3 (c' := (837, [some (.inr (.inr (some 1))), some (.inr (.inr (some 2))), some (.inr (.inr (some 104))), some (.inl ((7 * k : Nat) : Int))], [.inr (.inl (zorl (zshll x5 32) (zandl x6 4294967295))), .inl x4, .inl x3, .inl x2, .inl x1, .inr (.inr (some 104)), .inl x], (zs g gl))) rfl ?_
      refine zH_call (M' := 146) (as := [.inr (.inr (some 104)), .inl x1, .inl x2, .inl x3, .inl x4, .inr (.inl (zorl (zshll x5 32) (zandl x6 4294967295)))]) (T := [.inl x]) rfl hm (fun r2 σ2 pm => ?_)
      obtain ⟨p2, r2', g2, gl2, rfl, rfl, hI2⟩ := pm
      show zH _ _ (840, [some (.inr (.inr (some 1))), some (.inr (.inr (some 2))), some (.inr (.inr (some 104))), some (.inl ((7 * k : Nat) : Int))], [.inl x, .inl x], (zs g2 gl2)) _
      refine zH_bt (x := x) (y := x) (k := .eq) (c1 := (1005, [some (.inr (.inr (some 1))), some (.inr (.inr (some 2))), some (.inr (.inr (some 104))), some (.inl ((7 * k : Nat) : Int))], [], (zs g2 gl2))) (c2 := (843, [some (.inr (.inr (some 1))), some (.inr (.inr (some 2))), some (.inr (.inr (some 104))), some (.inl ((7 * k : Nat) : Int))], [], (zs g2 gl2))) rfl (by first | assumption | (unfold zr; omega)) (by first | assumption | (unfold zr; omega)) (by show x = x; omega) ?_
      refine zH_go 1 (c' := (1008, [some (.inr (.inr (some 1))), some (.inr (.inr (some 2))), some (.inr (.inr (some 104))), some (.inl (((7 * k : Nat) : Int) + 7))], [], (zs g2 gl2))) rfl ?_
      rw [show (((7 * k : Nat) : Int) + 7) = ((7 * (k + 1) : Nat) : Int) from by omega]
      show zH _ _ (1008, [some (.inr (.inr (some 1))), some (.inr (.inr (some 2))), some (.inr (.inr (some 104))), some (.inl ((7 * (k + 1) : Nat) : Int))], [], (zs g2 gl2)) _
      refine zH_go 1 (c' := (18, [some (.inr (.inr (some 1))), some (.inr (.inr (some 2))), some (.inr (.inr (some 104))), some (.inl ((7 * (k + 1) : Nat) : Int))], [], (zs g2 gl2))) rfl ?_
      refine ih (p2, r2', g2, gl2) ?_
      show zLi X XL (k + 1) p2 r2' g2 gl2
      exact hI2
    · skip
      show zH _ _ (33, [some (.inr (.inr (some 1))), some (.inr (.inr (some 2))), some (.inr (.inr (some 104))), some (.inl ((7 * k : Nat) : Int))], [.inl 23], (zs h hl)) _
      refine zH_sw rfl ⟨by decide, by decide⟩ (tgt := 845) rfl ?_
      show zH _ _ (845, [some (.inr (.inr (some 1))), some (.inr (.inr (some 2))), some (.inr (.inr (some 104))), some (.inl ((7 * k : Nat) : Int))], [], (zs h hl)) _
      refine zH_go 5 (c' := (850, [some (.inr (.inr (some 1))), some (.inr (.inr (some 2))), some (.inr (.inr (some 104))), some (.inl ((7 * k : Nat) : Int))], [.inl (((7 * k : Nat) : Int) + 1), .inr (.inr (some 1)), .inr (.inr (some 2))], (zs h hl))) rfl ?_
      refine zH_np (P := 0 ≤ (((7 * k : Nat) : Int) + 1) ∧ (((7 * k : Nat) : Int) + 1) < (hl 1 0)) (c' := (851, [some (.inr (.inr (some 1))), some (.inr (.inr (some 2))), some (.inr (.inr (some 104))), some (.inl ((7 * k : Nat) : Int))], [.inl (h 1 ((7 * k) + 1)), .inr (.inr (some 2))], (zs h hl))) rfl ⟨by omega, by rw [hlen]; omega⟩ ?_
      rw [show (h 1 ((7 * k) + 1)) = x1 from by rw [hX1]; exact ex1.symm]
      refine zH_go 4 (c' := (855, [some (.inr (.inr (some 1))), some (.inr (.inr (some 2))), some (.inr (.inr (some 104))), some (.inl ((7 * k : Nat) : Int))], [.inl (((7 * k : Nat) : Int) + 2), .inr (.inr (some 1)), .inl x1, .inr (.inr (some 2))], (zs h hl))) rfl ?_
      refine zH_np (P := 0 ≤ (((7 * k : Nat) : Int) + 2) ∧ (((7 * k : Nat) : Int) + 2) < (hl 1 0)) (c' := (856, [some (.inr (.inr (some 1))), some (.inr (.inr (some 2))), some (.inr (.inr (some 104))), some (.inl ((7 * k : Nat) : Int))], [.inl (h 1 ((7 * k) + 2)), .inl x1, .inr (.inr (some 2))], (zs h hl))) rfl ⟨by omega, by rw [hlen]; omega⟩ ?_
      rw [show (h 1 ((7 * k) + 2)) = x2 from by rw [hX1]; exact ex2.symm]
      refine zH_go 4 (c' := (860, [some (.inr (.inr (some 1))), some (.inr (.inr (some 2))), some (.inr (.inr (some 104))), some (.inl ((7 * k : Nat) : Int))], [.inl (((7 * k : Nat) : Int) + 3), .inr (.inr (some 1)), .inl x2, .inl x1, .inr (.inr (some 2))], (zs h hl))) rfl ?_
      refine zH_np (P := 0 ≤ (((7 * k : Nat) : Int) + 3) ∧ (((7 * k : Nat) : Int) + 3) < (hl 1 0)) (c' := (861, [some (.inr (.inr (some 1))), some (.inr (.inr (some 2))), some (.inr (.inr (some 104))), some (.inl ((7 * k : Nat) : Int))], [.inl (h 1 ((7 * k) + 3)), .inl x2, .inl x1, .inr (.inr (some 2))], (zs h hl))) rfl ⟨by omega, by rw [hlen]; omega⟩ ?_
      rw [show (h 1 ((7 * k) + 3)) = x3 from by rw [hX1]; exact ex3.symm]
      refine zH_go 4 (c' := (865, [some (.inr (.inr (some 1))), some (.inr (.inr (some 2))), some (.inr (.inr (some 104))), some (.inl ((7 * k : Nat) : Int))], [.inl (((7 * k : Nat) : Int) + 4), .inr (.inr (some 1)), .inl x3, .inl x2, .inl x1, .inr (.inr (some 2))], (zs h hl))) rfl ?_
      refine zH_np (P := 0 ≤ (((7 * k : Nat) : Int) + 4) ∧ (((7 * k : Nat) : Int) + 4) < (hl 1 0)) (c' := (866, [some (.inr (.inr (some 1))), some (.inr (.inr (some 2))), some (.inr (.inr (some 104))), some (.inl ((7 * k : Nat) : Int))], [.inl (h 1 ((7 * k) + 4)), .inl x3, .inl x2, .inl x1, .inr (.inr (some 2))], (zs h hl))) rfl ⟨by omega, by rw [hlen]; omega⟩ ?_
      rw [show (h 1 ((7 * k) + 4)) = x4 from by rw [hX1]; exact ex4.symm]
      refine zH_call (M' := 89) (as := [.inr (.inr (some 2)), .inl x1, .inl x2, .inl x3, .inl x4]) (T := []) rfl (zT_item hI hx1 hx2 hx3 hx4) (fun ρ σ' pm => ?_)
      obtain ⟨x, g, gl, rfl, hzx, rfl, hX', hXL', hm⟩ := pm
      have hl2 : gl 1 0 = (Ls : Int) := by rw [hXL']; exact hXL0
      show zH _ _ (869, [some (.inr (.inr (some 1))), some (.inr (.inr (some 2))), some (.inr (.inr (some 104))), some (.inl ((7 * k : Nat) : Int))], [.inr (.inl x)], (zs g gl)) _
      refine zH_go 5 (c' := (874, [some (.inr (.inr (some 1))), some (.inr (.inr (some 2))), some (.inr (.inr (some 104))), some (.inl ((7 * k : Nat) : Int))], [.inl (((7 * k : Nat) : Int) + 1), .inr (.inr (some 1)), .inr (.inr (some 104)), .inr (.inl x)], (zs g gl))) rfl ?_
      refine zH_np (P := 0 ≤ (((7 * k : Nat) : Int) + 1) ∧ (((7 * k : Nat) : Int) + 1) < (gl 1 0)) (c' := (875, [some (.inr (.inr (some 1))), some (.inr (.inr (some 2))), some (.inr (.inr (some 104))), some (.inl ((7 * k : Nat) : Int))], [.inl (g 1 ((7 * k) + 1)), .inr (.inr (some 104)), .inr (.inl x)], (zs g gl))) rfl ⟨by omega, by rw [hl2]; omega⟩ ?_
      rw [show (g 1 ((7 * k) + 1)) = x1 from by rw [hX']; exact ex1.symm]
      refine zH_go 4 (c' := (879, [some (.inr (.inr (some 1))), some (.inr (.inr (some 2))), some (.inr (.inr (some 104))), some (.inl ((7 * k : Nat) : Int))], [.inl (((7 * k : Nat) : Int) + 2), .inr (.inr (some 1)), .inl x1, .inr (.inr (some 104)), .inr (.inl x)], (zs g gl))) rfl ?_
      refine zH_np (P := 0 ≤ (((7 * k : Nat) : Int) + 2) ∧ (((7 * k : Nat) : Int) + 2) < (gl 1 0)) (c' := (880, [some (.inr (.inr (some 1))), some (.inr (.inr (some 2))), some (.inr (.inr (some 104))), some (.inl ((7 * k : Nat) : Int))], [.inl (g 1 ((7 * k) + 2)), .inl x1, .inr (.inr (some 104)), .inr (.inl x)], (zs g gl))) rfl ⟨by omega, by rw [hl2]; omega⟩ ?_
      rw [show (g 1 ((7 * k) + 2)) = x2 from by rw [hX']; exact ex2.symm]
      refine zH_go 4 (c' := (884, [some (.inr (.inr (some 1))), some (.inr (.inr (some 2))), some (.inr (.inr (some 104))), some (.inl ((7 * k : Nat) : Int))], [.inl (((7 * k : Nat) : Int) + 3), .inr (.inr (some 1)), .inl x2, .inl x1, .inr (.inr (some 104)), .inr (.inl x)], (zs g gl))) rfl ?_
      refine zH_np (P := 0 ≤ (((7 * k : Nat) : Int) + 3) ∧ (((7 * k : Nat) : Int) + 3) < (gl 1 0)) (c' := (885, [some (.inr (.inr (some 1))), some (.inr (.inr (some 2))), some (.inr (.inr (some 104))), some (.inl ((7 * k : Nat) : Int))], [.inl (g 1 ((7 * k) + 3)), .inl x2, .inl x1, .inr (.inr (some 104)), .inr (.inl x)], (zs g gl))) rfl ⟨by omega, by rw [hl2]; omega⟩ ?_
      rw [show (g 1 ((7 * k) + 3)) = x3 from by rw [hX']; exact ex3.symm]
      refine zH_go 4 (c' := (889, [some (.inr (.inr (some 1))), some (.inr (.inr (some 2))), some (.inr (.inr (some 104))), some (.inl ((7 * k : Nat) : Int))], [.inl (((7 * k : Nat) : Int) + 4), .inr (.inr (some 1)), .inl x3, .inl x2, .inl x1, .inr (.inr (some 104)), .inr (.inl x)], (zs g gl))) rfl ?_
      refine zH_np (P := 0 ≤ (((7 * k : Nat) : Int) + 4) ∧ (((7 * k : Nat) : Int) + 4) < (gl 1 0)) (c' := (890, [some (.inr (.inr (some 1))), some (.inr (.inr (some 2))), some (.inr (.inr (some 104))), some (.inl ((7 * k : Nat) : Int))], [.inl (g 1 ((7 * k) + 4)), .inl x3, .inl x2, .inl x1, .inr (.inr (some 104)), .inr (.inl x)], (zs g gl))) rfl ⟨by omega, by rw [hl2]; omega⟩ ?_
      rw [show (g 1 ((7 * k) + 4)) = x4 from by rw [hX']; exact ex4.symm]
      refine zH_call (M' := 147) (as := [.inr (.inr (some 104)), .inl x1, .inl x2, .inl x3, .inl x4]) (T := [.inr (.inl x)]) rfl hm (fun r2 σ2 pm => ?_)
      obtain ⟨p2, r2', g2, gl2, rfl, rfl, hI2⟩ := pm
      show zH _ _ (893, [some (.inr (.inr (some 1))), some (.inr (.inr (some 2))), some (.inr (.inr (some 104))), some (.inl ((7 * k : Nat) : Int))], [.inr (.inl x), .inr (.inl x)], (zs g2 gl2)) _
      refine zH_np (P := zrl x ∧ zrl x) (c' := (894, [some (.inr (.inr (some 1))), some (.inr (.inr (some 2))), some (.inr (.inr (some 104))), some (.inl ((7 * k : Nat) : Int))], [.inl (if x < x then -1 else if x = x then 0 else 1)], (zs g2 gl2))) rfl ⟨(by first | assumption | exact zr_l (by assumption) | (unfold zrl; omega)), (by first | assumption | exact zr_l (by assumption) | (unfold zrl; omega))⟩ ?_
      obtain ⟨m_1, em_1, fm_1⟩ := zlcmp_spec x x
      rw [em_1]
      refine zH_bt (x := m_1) (y := 0) (k := .eq) (c1 := (1005, [some (.inr (.inr (some 1))), some (.inr (.inr (some 2))), some (.inr (.inr (some 104))), some (.inl ((7 * k : Nat) : Int))], [], (zs g2 gl2))) (c2 := (897, [some (.inr (.inr (some 1))), some (.inr (.inr (some 2))), some (.inr (.inr (some 104))), some (.inl ((7 * k : Nat) : Int))], [], (zs g2 gl2))) rfl (by first | assumption | (unfold zr; omega)) ⟨by decide, by decide⟩ (by show m_1 = 0; omega) ?_
      refine zH_go 1 (c' := (1008, [some (.inr (.inr (some 1))), some (.inr (.inr (some 2))), some (.inr (.inr (some 104))), some (.inl (((7 * k : Nat) : Int) + 7))], [], (zs g2 gl2))) rfl ?_
      rw [show (((7 * k : Nat) : Int) + 7) = ((7 * (k + 1) : Nat) : Int) from by omega]
      show zH _ _ (1008, [some (.inr (.inr (some 1))), some (.inr (.inr (some 2))), some (.inr (.inr (some 104))), some (.inl ((7 * (k + 1) : Nat) : Int))], [], (zs g2 gl2)) _
      refine zH_go 1 (c' := (18, [some (.inr (.inr (some 1))), some (.inr (.inr (some 2))), some (.inr (.inr (some 104))), some (.inl ((7 * (k + 1) : Nat) : Int))], [], (zs g2 gl2))) rfl ?_
      refine ih (p2, r2', g2, gl2) ?_
      show zLi X XL (k + 1) p2 r2' g2 gl2
      exact hI2
    · skip
      show zH _ _ (33, [some (.inr (.inr (some 1))), some (.inr (.inr (some 2))), some (.inr (.inr (some 104))), some (.inl ((7 * k : Nat) : Int))], [.inl 24], (zs h hl)) _
      refine zH_sw rfl ⟨by decide, by decide⟩ (tgt := 899) rfl ?_
      show zH _ _ (899, [some (.inr (.inr (some 1))), some (.inr (.inr (some 2))), some (.inr (.inr (some 104))), some (.inl ((7 * k : Nat) : Int))], [], (zs h hl)) _
      refine zH_go 5 (c' := (904, [some (.inr (.inr (some 1))), some (.inr (.inr (some 2))), some (.inr (.inr (some 104))), some (.inl ((7 * k : Nat) : Int))], [.inl (((7 * k : Nat) : Int) + 1), .inr (.inr (some 1)), .inr (.inr (some 2))], (zs h hl))) rfl ?_
      refine zH_np (P := 0 ≤ (((7 * k : Nat) : Int) + 1) ∧ (((7 * k : Nat) : Int) + 1) < (hl 1 0)) (c' := (905, [some (.inr (.inr (some 1))), some (.inr (.inr (some 2))), some (.inr (.inr (some 104))), some (.inl ((7 * k : Nat) : Int))], [.inl (h 1 ((7 * k) + 1)), .inr (.inr (some 2))], (zs h hl))) rfl ⟨by omega, by rw [hlen]; omega⟩ ?_
      rw [show (h 1 ((7 * k) + 1)) = x1 from by rw [hX1]; exact ex1.symm]
      refine zH_call (M' := 90) (as := [.inr (.inr (some 2)), .inl x1]) (T := []) rfl (zT_roads hI hx1) (fun ρ σ' pm => ?_)
      obtain ⟨x, g, gl, rfl, hzx, rfl, hX', hXL', hm⟩ := pm
      have hl2 : gl 1 0 = (Ls : Int) := by rw [hXL']; exact hXL0
      show zH _ _ (908, [some (.inr (.inr (some 1))), some (.inr (.inr (some 2))), some (.inr (.inr (some 104))), some (.inl ((7 * k : Nat) : Int))], [.inl x], (zs g gl)) _
      refine zH_go 5 (c' := (913, [some (.inr (.inr (some 1))), some (.inr (.inr (some 2))), some (.inr (.inr (some 104))), some (.inl ((7 * k : Nat) : Int))], [.inl (((7 * k : Nat) : Int) + 1), .inr (.inr (some 1)), .inr (.inr (some 104)), .inl x], (zs g gl))) rfl ?_
      refine zH_np (P := 0 ≤ (((7 * k : Nat) : Int) + 1) ∧ (((7 * k : Nat) : Int) + 1) < (gl 1 0)) (c' := (914, [some (.inr (.inr (some 1))), some (.inr (.inr (some 2))), some (.inr (.inr (some 104))), some (.inl ((7 * k : Nat) : Int))], [.inl (g 1 ((7 * k) + 1)), .inr (.inr (some 104)), .inl x], (zs g gl))) rfl ⟨by omega, by rw [hl2]; omega⟩ ?_
      rw [show (g 1 ((7 * k) + 1)) = x1 from by rw [hX']; exact ex1.symm]
      refine zH_call (M' := 148) (as := [.inr (.inr (some 104)), .inl x1]) (T := [.inl x]) rfl hm (fun r2 σ2 pm => ?_)
      obtain ⟨p2, r2', g2, gl2, rfl, rfl, hI2⟩ := pm
      show zH _ _ (917, [some (.inr (.inr (some 1))), some (.inr (.inr (some 2))), some (.inr (.inr (some 104))), some (.inl ((7 * k : Nat) : Int))], [.inl x, .inl x], (zs g2 gl2)) _
      refine zH_bt (x := x) (y := x) (k := .eq) (c1 := (1005, [some (.inr (.inr (some 1))), some (.inr (.inr (some 2))), some (.inr (.inr (some 104))), some (.inl ((7 * k : Nat) : Int))], [], (zs g2 gl2))) (c2 := (920, [some (.inr (.inr (some 1))), some (.inr (.inr (some 2))), some (.inr (.inr (some 104))), some (.inl ((7 * k : Nat) : Int))], [], (zs g2 gl2))) rfl (by first | assumption | (unfold zr; omega)) (by first | assumption | (unfold zr; omega)) (by show x = x; omega) ?_
      refine zH_go 1 (c' := (1008, [some (.inr (.inr (some 1))), some (.inr (.inr (some 2))), some (.inr (.inr (some 104))), some (.inl (((7 * k : Nat) : Int) + 7))], [], (zs g2 gl2))) rfl ?_
      rw [show (((7 * k : Nat) : Int) + 7) = ((7 * (k + 1) : Nat) : Int) from by omega]
      show zH _ _ (1008, [some (.inr (.inr (some 1))), some (.inr (.inr (some 2))), some (.inr (.inr (some 104))), some (.inl ((7 * (k + 1) : Nat) : Int))], [], (zs g2 gl2)) _
      refine zH_go 1 (c' := (18, [some (.inr (.inr (some 1))), some (.inr (.inr (some 2))), some (.inr (.inr (some 104))), some (.inl ((7 * (k + 1) : Nat) : Int))], [], (zs g2 gl2))) rfl ?_
      refine ih (p2, r2', g2, gl2) ?_
      show zLi X XL (k + 1) p2 r2' g2 gl2
      exact hI2
    · skip
      show zH _ _ (33, [some (.inr (.inr (some 1))), some (.inr (.inr (some 2))), some (.inr (.inr (some 104))), some (.inl ((7 * k : Nat) : Int))], [.inl 25], (zs h hl)) _
      refine zH_sw rfl ⟨by decide, by decide⟩ (tgt := 922) rfl ?_
      show zH _ _ (922, [some (.inr (.inr (some 1))), some (.inr (.inr (some 2))), some (.inr (.inr (some 104))), some (.inl ((7 * k : Nat) : Int))], [], (zs h hl)) _
      refine zH_go 5 (c' := (927, [some (.inr (.inr (some 1))), some (.inr (.inr (some 2))), some (.inr (.inr (some 104))), some (.inl ((7 * k : Nat) : Int))], [.inl (((7 * k : Nat) : Int) + 1), .inr (.inr (some 1)), .inr (.inr (some 2))], (zs h hl))) rfl ?_
      refine zH_np (P := 0 ≤ (((7 * k : Nat) : Int) + 1) ∧ (((7 * k : Nat) : Int) + 1) < (hl 1 0)) (c' := (928, [some (.inr (.inr (some 1))), some (.inr (.inr (some 2))), some (.inr (.inr (some 104))), some (.inl ((7 * k : Nat) : Int))], [.inl (h 1 ((7 * k) + 1)), .inr (.inr (some 2))], (zs h hl))) rfl ⟨by omega, by rw [hlen]; omega⟩ ?_
      rw [show (h 1 ((7 * k) + 1)) = x1 from by rw [hX1]; exact ex1.symm]
      refine zH_go 4 (c' := (932, [some (.inr (.inr (some 1))), some (.inr (.inr (some 2))), some (.inr (.inr (some 104))), some (.inl ((7 * k : Nat) : Int))], [.inl (((7 * k : Nat) : Int) + 2), .inr (.inr (some 1)), .inl x1, .inr (.inr (some 2))], (zs h hl))) rfl ?_
      refine zH_np (P := 0 ≤ (((7 * k : Nat) : Int) + 2) ∧ (((7 * k : Nat) : Int) + 2) < (hl 1 0)) (c' := (933, [some (.inr (.inr (some 1))), some (.inr (.inr (some 2))), some (.inr (.inr (some 104))), some (.inl ((7 * k : Nat) : Int))], [.inl (h 1 ((7 * k) + 2)), .inl x1, .inr (.inr (some 2))], (zs h hl))) rfl ⟨by omega, by rw [hlen]; omega⟩ ?_
      rw [show (h 1 ((7 * k) + 2)) = x2 from by rw [hX1]; exact ex2.symm]
      refine zH_call (M' := 91) (as := [.inr (.inr (some 2)), .inl x1, .inl x2]) (T := []) rfl (zT_calls hI hx1 hx2) (fun ρ σ' pm => ?_)
      obtain ⟨x, g, gl, rfl, hzx, rfl, hX', hXL', hm⟩ := pm
      have hl2 : gl 1 0 = (Ls : Int) := by rw [hXL']; exact hXL0
      show zH _ _ (936, [some (.inr (.inr (some 1))), some (.inr (.inr (some 2))), some (.inr (.inr (some 104))), some (.inl ((7 * k : Nat) : Int))], [.inl x], (zs g gl)) _
      refine zH_go 5 (c' := (941, [some (.inr (.inr (some 1))), some (.inr (.inr (some 2))), some (.inr (.inr (some 104))), some (.inl ((7 * k : Nat) : Int))], [.inl (((7 * k : Nat) : Int) + 1), .inr (.inr (some 1)), .inr (.inr (some 104)), .inl x], (zs g gl))) rfl ?_
      refine zH_np (P := 0 ≤ (((7 * k : Nat) : Int) + 1) ∧ (((7 * k : Nat) : Int) + 1) < (gl 1 0)) (c' := (942, [some (.inr (.inr (some 1))), some (.inr (.inr (some 2))), some (.inr (.inr (some 104))), some (.inl ((7 * k : Nat) : Int))], [.inl (g 1 ((7 * k) + 1)), .inr (.inr (some 104)), .inl x], (zs g gl))) rfl ⟨by omega, by rw [hl2]; omega⟩ ?_
      rw [show (g 1 ((7 * k) + 1)) = x1 from by rw [hX']; exact ex1.symm]
      refine zH_go 4 (c' := (946, [some (.inr (.inr (some 1))), some (.inr (.inr (some 2))), some (.inr (.inr (some 104))), some (.inl ((7 * k : Nat) : Int))], [.inl (((7 * k : Nat) : Int) + 2), .inr (.inr (some 1)), .inl x1, .inr (.inr (some 104)), .inl x], (zs g gl))) rfl ?_
      refine zH_np (P := 0 ≤ (((7 * k : Nat) : Int) + 2) ∧ (((7 * k : Nat) : Int) + 2) < (gl 1 0)) (c' := (947, [some (.inr (.inr (some 1))), some (.inr (.inr (some 2))), some (.inr (.inr (some 104))), some (.inl ((7 * k : Nat) : Int))], [.inl (g 1 ((7 * k) + 2)), .inl x1, .inr (.inr (some 104)), .inl x], (zs g gl))) rfl ⟨by omega, by rw [hl2]; omega⟩ ?_
      rw [show (g 1 ((7 * k) + 2)) = x2 from by rw [hX']; exact ex2.symm]
      refine zH_call (M' := 149) (as := [.inr (.inr (some 104)), .inl x1, .inl x2]) (T := [.inl x]) rfl hm (fun r2 σ2 pm => ?_)
      obtain ⟨p2, r2', g2, gl2, rfl, rfl, hI2⟩ := pm
      show zH _ _ (950, [some (.inr (.inr (some 1))), some (.inr (.inr (some 2))), some (.inr (.inr (some 104))), some (.inl ((7 * k : Nat) : Int))], [.inl x, .inl x], (zs g2 gl2)) _
      refine zH_bt (x := x) (y := x) (k := .eq) (c1 := (1005, [some (.inr (.inr (some 1))), some (.inr (.inr (some 2))), some (.inr (.inr (some 104))), some (.inl ((7 * k : Nat) : Int))], [], (zs g2 gl2))) (c2 := (953, [some (.inr (.inr (some 1))), some (.inr (.inr (some 2))), some (.inr (.inr (some 104))), some (.inl ((7 * k : Nat) : Int))], [], (zs g2 gl2))) rfl (by first | assumption | (unfold zr; omega)) (by first | assumption | (unfold zr; omega)) (by show x = x; omega) ?_
      refine zH_go 1 (c' := (1008, [some (.inr (.inr (some 1))), some (.inr (.inr (some 2))), some (.inr (.inr (some 104))), some (.inl (((7 * k : Nat) : Int) + 7))], [], (zs g2 gl2))) rfl ?_
      rw [show (((7 * k : Nat) : Int) + 7) = ((7 * (k + 1) : Nat) : Int) from by omega]
      show zH _ _ (1008, [some (.inr (.inr (some 1))), some (.inr (.inr (some 2))), some (.inr (.inr (some 104))), some (.inl ((7 * (k + 1) : Nat) : Int))], [], (zs g2 gl2)) _
      refine zH_go 1 (c' := (18, [some (.inr (.inr (some 1))), some (.inr (.inr (some 2))), some (.inr (.inr (some 104))), some (.inl ((7 * (k + 1) : Nat) : Int))], [], (zs g2 gl2))) rfl ?_
      refine ih (p2, r2', g2, gl2) ?_
      show zLi X XL (k + 1) p2 r2' g2 gl2
      exact hI2
    · skip
      show zH _ _ (33, [some (.inr (.inr (some 1))), some (.inr (.inr (some 2))), some (.inr (.inr (some 104))), some (.inl ((7 * k : Nat) : Int))], [.inl 26], (zs h hl)) _
      refine zH_sw rfl ⟨by decide, by decide⟩ (tgt := 955) rfl ?_
      show zH _ _ (955, [some (.inr (.inr (some 1))), some (.inr (.inr (some 2))), some (.inr (.inr (some 104))), some (.inl ((7 * k : Nat) : Int))], [], (zs h hl)) _
      refine zH_go 5 (c' := (960, [some (.inr (.inr (some 1))), some (.inr (.inr (some 2))), some (.inr (.inr (some 104))), some (.inl ((7 * k : Nat) : Int))], [.inl (((7 * k : Nat) : Int) + 1), .inr (.inr (some 1)), .inr (.inr (some 2))], (zs h hl))) rfl ?_
      refine zH_np (P := 0 ≤ (((7 * k : Nat) : Int) + 1) ∧ (((7 * k : Nat) : Int) + 1) < (hl 1 0)) (c' := (961, [some (.inr (.inr (some 1))), some (.inr (.inr (some 2))), some (.inr (.inr (some 104))), some (.inl ((7 * k : Nat) : Int))], [.inl (h 1 ((7 * k) + 1)), .inr (.inr (some 2))], (zs h hl))) rfl ⟨by omega, by rw [hlen]; omega⟩ ?_
      rw [show (h 1 ((7 * k) + 1)) = x1 from by rw [hX1]; exact ex1.symm]
      refine zH_call (M' := 97) (as := [.inr (.inr (some 2)), .inl x1]) (T := []) rfl (zT_about hI hx1) (fun ρ σ' pm => ?_)
      obtain ⟨x, g, gl, rfl, hzx, rfl, hX', hXL', hm⟩ := pm
      have hl2 : gl 1 0 = (Ls : Int) := by rw [hXL']; exact hXL0
      show zH _ _ (964, [some (.inr (.inr (some 1))), some (.inr (.inr (some 2))), some (.inr (.inr (some 104))), some (.inl ((7 * k : Nat) : Int))], [.inl x], (zs g gl)) _
      refine zH_go 5 (c' := (969, [some (.inr (.inr (some 1))), some (.inr (.inr (some 2))), some (.inr (.inr (some 104))), some (.inl ((7 * k : Nat) : Int))], [.inl (((7 * k : Nat) : Int) + 1), .inr (.inr (some 1)), .inr (.inr (some 104)), .inl x], (zs g gl))) rfl ?_
      refine zH_np (P := 0 ≤ (((7 * k : Nat) : Int) + 1) ∧ (((7 * k : Nat) : Int) + 1) < (gl 1 0)) (c' := (970, [some (.inr (.inr (some 1))), some (.inr (.inr (some 2))), some (.inr (.inr (some 104))), some (.inl ((7 * k : Nat) : Int))], [.inl (g 1 ((7 * k) + 1)), .inr (.inr (some 104)), .inl x], (zs g gl))) rfl ⟨by omega, by rw [hl2]; omega⟩ ?_
      rw [show (g 1 ((7 * k) + 1)) = x1 from by rw [hX']; exact ex1.symm]
      refine zH_call (M' := 150) (as := [.inr (.inr (some 104)), .inl x1]) (T := [.inl x]) rfl hm (fun r2 σ2 pm => ?_)
      obtain ⟨p2, r2', g2, gl2, rfl, rfl, hI2⟩ := pm
      show zH _ _ (973, [some (.inr (.inr (some 1))), some (.inr (.inr (some 2))), some (.inr (.inr (some 104))), some (.inl ((7 * k : Nat) : Int))], [.inl x, .inl x], (zs g2 gl2)) _
      refine zH_bt (x := x) (y := x) (k := .eq) (c1 := (1005, [some (.inr (.inr (some 1))), some (.inr (.inr (some 2))), some (.inr (.inr (some 104))), some (.inl ((7 * k : Nat) : Int))], [], (zs g2 gl2))) (c2 := (976, [some (.inr (.inr (some 1))), some (.inr (.inr (some 2))), some (.inr (.inr (some 104))), some (.inl ((7 * k : Nat) : Int))], [], (zs g2 gl2))) rfl (by first | assumption | (unfold zr; omega)) (by first | assumption | (unfold zr; omega)) (by show x = x; omega) ?_
      refine zH_go 1 (c' := (1008, [some (.inr (.inr (some 1))), some (.inr (.inr (some 2))), some (.inr (.inr (some 104))), some (.inl (((7 * k : Nat) : Int) + 7))], [], (zs g2 gl2))) rfl ?_
      rw [show (((7 * k : Nat) : Int) + 7) = ((7 * (k + 1) : Nat) : Int) from by omega]
      show zH _ _ (1008, [some (.inr (.inr (some 1))), some (.inr (.inr (some 2))), some (.inr (.inr (some 104))), some (.inl ((7 * (k + 1) : Nat) : Int))], [], (zs g2 gl2)) _
      refine zH_go 1 (c' := (18, [some (.inr (.inr (some 1))), some (.inr (.inr (some 2))), some (.inr (.inr (some 104))), some (.inl ((7 * (k + 1) : Nat) : Int))], [], (zs g2 gl2))) rfl ?_
      refine ih (p2, r2', g2, gl2) ?_
      show zLi X XL (k + 1) p2 r2' g2 gl2
      exact hI2
    · skip
      show zH _ _ (33, [some (.inr (.inr (some 1))), some (.inr (.inr (some 2))), some (.inr (.inr (some 104))), some (.inl ((7 * k : Nat) : Int))], [.inl 27], (zs h hl)) _
      refine zH_sw rfl ⟨by decide, by decide⟩ (tgt := 978) rfl ?_
      show zH _ _ (978, [some (.inr (.inr (some 1))), some (.inr (.inr (some 2))), some (.inr (.inr (some 104))), some (.inl ((7 * k : Nat) : Int))], [], (zs h hl)) _
      refine zH_go 1 (c' := (979, [some (.inr (.inr (some 1))), some (.inr (.inr (some 2))), some (.inr (.inr (some 104))), some (.inl ((7 * k : Nat) : Int))], [.inr (.inr (some 2))], (zs h hl))) rfl ?_
      refine zH_call (M' := 98) (as := [.inr (.inr (some 2))]) (T := []) rfl (zT_trace hI (by omega) ) (fun ρ σ' pm => ?_)
      obtain ⟨x, g, gl, rfl, hzx, rfl, hX', hXL', hm⟩ := pm
      have hl2 : gl 1 0 = (Ls : Int) := by rw [hXL']; exact hXL0
      show zH _ _ (982, [some (.inr (.inr (some 1))), some (.inr (.inr (some 2))), some (.inr (.inr (some 104))), some (.inl ((7 * k : Nat) : Int))], [.inr (.inl x)], (zs g gl)) _
      refine zH_go 1 (c' := (983, [some (.inr (.inr (some 1))), some (.inr (.inr (some 2))), some (.inr (.inr (some 104))), some (.inl ((7 * k : Nat) : Int))], [.inr (.inr (some 104)), .inr (.inl x)], (zs g gl))) rfl ?_
      refine zH_call (M' := 151) (as := [.inr (.inr (some 104))]) (T := [.inr (.inl x)]) rfl hm (fun r2 σ2 pm => ?_)
      obtain ⟨p2, r2', g2, gl2, rfl, rfl, hI2⟩ := pm
      show zH _ _ (986, [some (.inr (.inr (some 1))), some (.inr (.inr (some 2))), some (.inr (.inr (some 104))), some (.inl ((7 * k : Nat) : Int))], [.inr (.inl x), .inr (.inl x)], (zs g2 gl2)) _
      refine zH_np (P := zrl x ∧ zrl x) (c' := (987, [some (.inr (.inr (some 1))), some (.inr (.inr (some 2))), some (.inr (.inr (some 104))), some (.inl ((7 * k : Nat) : Int))], [.inl (if x < x then -1 else if x = x then 0 else 1)], (zs g2 gl2))) rfl ⟨(by first | assumption | exact zr_l (by assumption) | (unfold zrl; omega)), (by first | assumption | exact zr_l (by assumption) | (unfold zrl; omega))⟩ ?_
      obtain ⟨m_2, em_2, fm_2⟩ := zlcmp_spec x x
      rw [em_2]
      refine zH_bt (x := m_2) (y := 0) (k := .eq) (c1 := (1005, [some (.inr (.inr (some 1))), some (.inr (.inr (some 2))), some (.inr (.inr (some 104))), some (.inl ((7 * k : Nat) : Int))], [], (zs g2 gl2))) (c2 := (990, [some (.inr (.inr (some 1))), some (.inr (.inr (some 2))), some (.inr (.inr (some 104))), some (.inl ((7 * k : Nat) : Int))], [], (zs g2 gl2))) rfl (by first | assumption | (unfold zr; omega)) ⟨by decide, by decide⟩ (by show m_2 = 0; omega) ?_
      refine zH_go 1 (c' := (1008, [some (.inr (.inr (some 1))), some (.inr (.inr (some 2))), some (.inr (.inr (some 104))), some (.inl (((7 * k : Nat) : Int) + 7))], [], (zs g2 gl2))) rfl ?_
      rw [show (((7 * k : Nat) : Int) + 7) = ((7 * (k + 1) : Nat) : Int) from by omega]
      show zH _ _ (1008, [some (.inr (.inr (some 1))), some (.inr (.inr (some 2))), some (.inr (.inr (some 104))), some (.inl ((7 * (k + 1) : Nat) : Int))], [], (zs g2 gl2)) _
      refine zH_go 1 (c' := (18, [some (.inr (.inr (some 1))), some (.inr (.inr (some 2))), some (.inr (.inr (some 104))), some (.inl ((7 * (k + 1) : Nat) : Int))], [], (zs g2 gl2))) rfl ?_
      refine ih (p2, r2', g2, gl2) ?_
      show zLi X XL (k + 1) p2 r2' g2 gl2
      exact hI2
    · skip
      show zH _ _ (33, [some (.inr (.inr (some 1))), some (.inr (.inr (some 2))), some (.inr (.inr (some 104))), some (.inl ((7 * k : Nat) : Int))], [.inl 28], (zs h hl)) _
      refine zH_sw rfl ⟨by decide, by decide⟩ (tgt := 992) rfl ?_
      show zH _ _ (992, [some (.inr (.inr (some 1))), some (.inr (.inr (some 2))), some (.inr (.inr (some 104))), some (.inl ((7 * k : Nat) : Int))], [], (zs h hl)) _
      refine zH_go 1 (c' := (993, [some (.inr (.inr (some 1))), some (.inr (.inr (some 2))), some (.inr (.inr (some 104))), some (.inl ((7 * k : Nat) : Int))], [.inr (.inr (some 2))], (zs h hl))) rfl ?_
      refine zH_call (M' := 99) (as := [.inr (.inr (some 2))]) (T := []) rfl (zT_status hI ) (fun ρ σ' pm => ?_)
      obtain ⟨x, g, gl, rfl, hzx, rfl, hX', hXL', hm⟩ := pm
      have hl2 : gl 1 0 = (Ls : Int) := by rw [hXL']; exact hXL0
      show zH _ _ (996, [some (.inr (.inr (some 1))), some (.inr (.inr (some 2))), some (.inr (.inr (some 104))), some (.inl ((7 * k : Nat) : Int))], [.inl x], (zs g gl)) _
      refine zH_go 1 (c' := (997, [some (.inr (.inr (some 1))), some (.inr (.inr (some 2))), some (.inr (.inr (some 104))), some (.inl ((7 * k : Nat) : Int))], [.inr (.inr (some 104)), .inl x], (zs g gl))) rfl ?_
      refine zH_call (M' := 152) (as := [.inr (.inr (some 104))]) (T := [.inl x]) rfl hm (fun r2 σ2 pm => ?_)
      obtain ⟨p2, r2', g2, gl2, rfl, rfl, hI2⟩ := pm
      show zH _ _ (1000, [some (.inr (.inr (some 1))), some (.inr (.inr (some 2))), some (.inr (.inr (some 104))), some (.inl ((7 * k : Nat) : Int))], [.inl x, .inl x], (zs g2 gl2)) _
      refine zH_bt (x := x) (y := x) (k := .eq) (c1 := (1005, [some (.inr (.inr (some 1))), some (.inr (.inr (some 2))), some (.inr (.inr (some 104))), some (.inl ((7 * k : Nat) : Int))], [], (zs g2 gl2))) (c2 := (1003, [some (.inr (.inr (some 1))), some (.inr (.inr (some 2))), some (.inr (.inr (some 104))), some (.inl ((7 * k : Nat) : Int))], [], (zs g2 gl2))) rfl (by first | assumption | (unfold zr; omega)) (by first | assumption | (unfold zr; omega)) (by show x = x; omega) ?_
      refine zH_go 1 (c' := (1008, [some (.inr (.inr (some 1))), some (.inr (.inr (some 2))), some (.inr (.inr (some 104))), some (.inl (((7 * k : Nat) : Int) + 7))], [], (zs g2 gl2))) rfl ?_
      rw [show (((7 * k : Nat) : Int) + 7) = ((7 * (k + 1) : Nat) : Int) from by omega]
      show zH _ _ (1008, [some (.inr (.inr (some 1))), some (.inr (.inr (some 2))), some (.inr (.inr (some 104))), some (.inl ((7 * (k + 1) : Nat) : Int))], [], (zs g2 gl2)) _
      refine zH_go 1 (c' := (18, [some (.inr (.inr (some 1))), some (.inr (.inr (some 2))), some (.inr (.inr (some 104))), some (.inl ((7 * (k + 1) : Nat) : Int))], [], (zs g2 gl2))) rfl ?_
      refine ih (p2, r2', g2, gl2) ?_
      show zLi X XL (k + 1) p2 r2' g2 gl2
      exact hI2
    · skip
      show zH _ _ (33, [some (.inr (.inr (some 1))), some (.inr (.inr (some 2))), some (.inr (.inr (some 104))), some (.inl ((7 * k : Nat) : Int))], [.inl 29], (zs h hl)) _
      refine zH_sw rfl ⟨by decide, by decide⟩ (tgt := 1005) rfl ?_
      show zH _ _ (1005, [some (.inr (.inr (some 1))), some (.inr (.inr (some 2))), some (.inr (.inr (some 104))), some (.inl ((7 * k : Nat) : Int))], [], (zs h hl)) _
      refine zH_go 1 (c' := (1008, [some (.inr (.inr (some 1))), some (.inr (.inr (some 2))), some (.inr (.inr (some 104))), some (.inl (((7 * k : Nat) : Int) + 7))], [], (zs h hl))) rfl ?_
      rw [show (((7 * k : Nat) : Int) + 7) = ((7 * (k + 1) : Nat) : Int) from by omega]
      show zH _ _ (1008, [some (.inr (.inr (some 1))), some (.inr (.inr (some 2))), some (.inr (.inr (some 104))), some (.inl ((7 * (k + 1) : Nat) : Int))], [], (zs h hl)) _
      refine zH_go 1 (c' := (18, [some (.inr (.inr (some 1))), some (.inr (.inr (some 2))), some (.inr (.inr (some 104))), some (.inl ((7 * (k + 1) : Nat) : Int))], [], (zs h hl))) rfl ?_
      refine ih (p, r, h, hl) ?_
      show zLi X XL (k + 1) p r h hl
      exact zLi_up hI
    · skip
      show zH _ _ (33, [some (.inr (.inr (some 1))), some (.inr (.inr (some 2))), some (.inr (.inr (some 104))), some (.inl ((7 * k : Nat) : Int))], [.inl 30], (zs h hl)) _
      refine zH_sw rfl ⟨by decide, by decide⟩ (tgt := 1005) rfl ?_
      show zH _ _ (1005, [some (.inr (.inr (some 1))), some (.inr (.inr (some 2))), some (.inr (.inr (some 104))), some (.inl ((7 * k : Nat) : Int))], [], (zs h hl)) _
      refine zH_go 1 (c' := (1008, [some (.inr (.inr (some 1))), some (.inr (.inr (some 2))), some (.inr (.inr (some 104))), some (.inl (((7 * k : Nat) : Int) + 7))], [], (zs h hl))) rfl ?_
      rw [show (((7 * k : Nat) : Int) + 7) = ((7 * (k + 1) : Nat) : Int) from by omega]
      show zH _ _ (1008, [some (.inr (.inr (some 1))), some (.inr (.inr (some 2))), some (.inr (.inr (some 104))), some (.inl ((7 * (k + 1) : Nat) : Int))], [], (zs h hl)) _
      refine zH_go 1 (c' := (18, [some (.inr (.inr (some 1))), some (.inr (.inr (some 2))), some (.inr (.inr (some 104))), some (.inl ((7 * (k + 1) : Nat) : Int))], [], (zs h hl))) rfl ?_
      refine ih (p, r, h, hl) ?_
      show zLi X XL (k + 1) p r h hl
      exact zLi_up hI
    · skip
      show zH _ _ (33, [some (.inr (.inr (some 1))), some (.inr (.inr (some 2))), some (.inr (.inr (some 104))), some (.inl ((7 * k : Nat) : Int))], [.inl 31], (zs h hl)) _
      refine zH_sw rfl ⟨by decide, by decide⟩ (tgt := 1005) rfl ?_
      show zH _ _ (1005, [some (.inr (.inr (some 1))), some (.inr (.inr (some 2))), some (.inr (.inr (some 104))), some (.inl ((7 * k : Nat) : Int))], [], (zs h hl)) _
      refine zH_go 1 (c' := (1008, [some (.inr (.inr (some 1))), some (.inr (.inr (some 2))), some (.inr (.inr (some 104))), some (.inl (((7 * k : Nat) : Int) + 7))], [], (zs h hl))) rfl ?_
      rw [show (((7 * k : Nat) : Int) + 7) = ((7 * (k + 1) : Nat) : Int) from by omega]
      show zH _ _ (1008, [some (.inr (.inr (some 1))), some (.inr (.inr (some 2))), some (.inr (.inr (some 104))), some (.inl ((7 * (k + 1) : Nat) : Int))], [], (zs h hl)) _
      refine zH_go 1 (c' := (18, [some (.inr (.inr (some 1))), some (.inr (.inr (some 2))), some (.inr (.inr (some 104))), some (.inl ((7 * (k + 1) : Nat) : Int))], [], (zs h hl))) rfl ?_
      refine ih (p, r, h, hl) ?_
      show zLi X XL (k + 1) p r h hl
      exact zLi_up hI
  · obtain ⟨p, r, h, hl⟩ := x
    replace hI : zLi X XL (Ls / 7) p r h hl := hI
    show zH _ _ (18, [some (.inr (.inr (some 1))), some (.inr (.inr (some 2))), some (.inr (.inr (some 104))), some (.inl ((7 * (Ls / 7) : Nat) : Int))], [], (zs h hl)) _
    have hX1 : h 1 = X := hI.1
    have hlen : hl 1 0 = (Ls : Int) := by rw [hI.2.1]; exact hXL0
    refine zH_go 3 (c' := (21, [some (.inr (.inr (some 1))), some (.inr (.inr (some 2))), some (.inr (.inr (some 104))), some (.inl ((7 * (Ls / 7) : Nat) : Int))], [.inl (hl 1 0), .inl ((7 * (Ls / 7) : Nat) : Int)], (zs h hl))) rfl ?_
    rw [hlen]
    refine zH_go 2 (c' := (24, [some (.inr (.inr (some 1))), some (.inr (.inr (some 2))), some (.inr (.inr (some 104))), some (.inl ((7 * (Ls / 7) : Nat) : Int))], [.inl ((Ls : Int) - 7), .inl ((7 * (Ls / 7) : Nat) : Int)], (zs h hl))) rfl ?_
    refine zH_bt (x := ((7 * (Ls / 7) : Nat) : Int)) (y := ((Ls : Int) - 7)) (k := .gt) (c1 := (1011, [some (.inr (.inr (some 1))), some (.inr (.inr (some 2))), some (.inr (.inr (some 104))), some (.inl ((7 * (Ls / 7) : Nat) : Int))], [], (zs h hl))) (c2 := (27, [some (.inr (.inr (some 1))), some (.inr (.inr (some 2))), some (.inr (.inr (some 104))), some (.inl ((7 * (Ls / 7) : Nat) : Int))], [], (zs h hl))) rfl (by first | assumption | (unfold zr; omega)) (by first | assumption | (unfold zr; omega)) (by show ((Ls : Int) - 7) < ((7 * (Ls / 7) : Nat) : Int); omega) ?_
    refine zH_go 1 (c' := (1012, [some (.inr (.inr (some 1))), some (.inr (.inr (some 2))), some (.inr (.inr (some 104))), some (.inl ((7 * (Ls / 7) : Nat) : Int))], [.inl 1], (zs h hl))) rfl ?_
    refine zH_ret (v := some (.inl 1)) rfl (fun _ => by first | exact Or.inl rfl | exact Or.inr rfl) ?_
    exact ⟨rfl, rfl, rfl⟩
  · show zLi X XL 0 p0 r0 h0 hl0
    exact hI0
