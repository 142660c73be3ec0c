/-! LadderCalls: books. -/
theorem zbm_iff (v : Int) : v = Int.bmod v 4294967296 ↔ zr v := ⟨fun e => by rw [e]; exact zbm_zr v, fun e => (zbm_id e).symm⟩
/-- a ROW as a ROAD: its finding; 0: it comes -/
def zRDec (p on rr sz a b c x : Int) : Prop := (sz < 0 ∧ x = -11) ∨ (0 ≤ sz ∧ sz < 3 ∧ x = -12) ∨ (3 ≤ sz ∧ ¬ (((0 ≤ a ∧ a < p) ∧ 0 ≤ b ∧ b < p) ∧ a ≠ b ∧ 1 ≤ c ∧ c ≤ 100) ∧ x = -1) ∨ (3 ≤ sz ∧ (((0 ≤ a ∧ a < p) ∧ 0 ≤ b ∧ b < p) ∧ a ≠ b ∧ 1 ≤ c ∧ c ≤ 100) ∧ 0 < on ∧ x = -2) ∨ (3 ≤ sz ∧ (((0 ≤ a ∧ a < p) ∧ 0 ≤ b ∧ b < p) ∧ a ≠ b ∧ 1 ≤ c ∧ c ≤ 100) ∧ ¬ 0 < on ∧ 15 ≤ rr ∧ x = -3) ∨ (3 ≤ sz ∧ (((0 ≤ a ∧ a < p) ∧ 0 ≤ b ∧ b < p) ∧ a ≠ b ∧ 1 ≤ c ∧ c ≤ 100) ∧ ¬ 0 < on ∧ rr < 15 ∧ x = 0)
theorem zRDec_eq {p on rr sz a b c x y : Int} (h1 : zRDec p on rr sz a b c x) (h2 : zRDec p on rr sz a b c y) : x = y := by
  unfold zRDec at h1 h2
  omega
/-- why no number of a ROW is there; 0: it is -/
def zWN (h : Nat → Nat → Int) (B Z : Nat) (sort r i x : Int) : Prop := (¬ (0 ≤ sort ∧ sort ≤ 3) ∧ x = -1) ∨ ((0 ≤ sort ∧ sort ≤ 3) ∧ ((h B 1 < 0 ∧ x = -11) ∨ (0 ≤ h B 1 ∧ ((¬ h B 0 = sort ∧ x = -13) ∨ (h B 0 = sort ∧ ((¬ zHasRow h B r ∧ x = -12) ∨ (zHasRow h B r ∧ ((h Z r.toNat < 0 ∧ x = -11) ∨ (0 ≤ h Z r.toNat ∧ ((¬ (0 ≤ i ∧ i < h Z r.toNat) ∧ x = -12) ∨ ((0 ≤ i ∧ i < h Z r.toNat) ∧ x = 0)))))))))))
set_option maxRecDepth 100000 in
set_option maxHeartbeats 4000000 in
theorem p_fits {d : Nat} {h hl : Nat → Nat → Int} {v : Int} (hv : zrl v) : zQ (d + 1) 96 [.inr (.inl v)] (zs h hl) (zB (zr v) (zs h hl)) := by
  have hvb := zr_l (zbm_zr v)
  refine zQ_of (Nat.le_of_ble_eq_true rfl) ?_
  show zH d 96 (0, [some (.inr (.inl v)), none], [], (zs h hl)) _
  refine zH_go 3 (c' := (3, [some (.inr (.inl v)), none], [.inl (Int.bmod v 4294967296), .inr (.inl v)], (zs h hl))) rfl ?_
  refine zH_np (P := zr (Int.bmod v 4294967296)) (c' := (4, [some (.inr (.inl v)), none], [.inr (.inl (Int.bmod v 4294967296)), .inr (.inl v)], (zs h hl))) rfl (by first | assumption | exact zbm_zr v | (unfold zr; omega)) ?_
  refine zH_np (P := zrl v ∧ zrl (Int.bmod v 4294967296)) (c' := (5, [some (.inr (.inl v)), none], [.inl (if v < (Int.bmod v 4294967296) then -1 else if v = (Int.bmod v 4294967296) then 0 else 1)], (zs h hl))) rfl ⟨(by first | assumption | exact zr_l (by assumption) | (unfold zrl; omega)), (by first | assumption | exact zr_l (by assumption) | (unfold zrl; omega))⟩ ?_
  obtain ⟨m_1, em_1, fm_1⟩ := zlcmp_spec v (Int.bmod v 4294967296)
  rw [em_1]
  refine zH_br (x := m_1) (y := 0) (k := .ne) (c1 := (12, [some (.inr (.inl v)), none], [], (zs h hl))) (c2 := (8, [some (.inr (.inl v)), none], [], (zs h hl))) rfl (by first | assumption | exact zbm_zr v | (unfold zr; omega)) ⟨by decide, by decide⟩ (fun (b_2 : ¬ m_1 = 0) => ?_) (fun (b_2 : ¬ (¬ m_1 = 0)) => ?_)
  · refine zH_go 1 (c' := (13, [some (.inr (.inl v)), none], [.inl 0], (zs h hl))) rfl ?_
    refine zH_ret (v := some (.inl 0)) rfl (fun _ => by first | exact Or.inl rfl | exact Or.inr rfl) ?_
    exact Or.inr ⟨rfl, fun q => by have := (zbm_iff v).mpr q; omega, rfl⟩
  · refine zH_go 2 (c' := (13, [some (.inr (.inl v)), none], [.inl 1], (zs h hl))) rfl ?_
    refine zH_ret (v := some (.inl 1)) rfl (fun _ => by first | exact Or.inl rfl | exact Or.inr rfl) ?_
    exact Or.inl ⟨rfl, (zbm_iff v).mp (by omega), rfl⟩
set_option maxRecDepth 100000 in
set_option maxHeartbeats 4000000 in
theorem p_bookX {d : Nat} {h hl : Nat → Nat → Int} {b : Int} (hb : zr b) (hnb : ¬ (0 ≤ b ∧ b < 3)) {t n : Int} (ht : zr t) (hn : zr n) : zQ (d + 2) 86 [.inr (.inr (some 2)), .inl b, .inl t, .inl n] (zs h hl) (fun r' σ' => r' = some (.inl (-1)) ∧ σ' = zs (zup h 2 8 (-1)) hl) := by
  refine zQ_of (Nat.le_of_ble_eq_true rfl) ?_
  show zH (d + 1) 86 (0, [some (.inr (.inr (some 2))), some (.inl b), some (.inl t), some (.inl n)], [], (zs h hl)) _
  refine zH_go 1 (c' := (1, [some (.inr (.inr (some 2))), some (.inl b), some (.inl t), some (.inl n)], [.inl b], (zs h hl))) rfl ?_
  refine zH_call (M' := 92) (as := [.inl b]) (T := []) rfl (p_isBook hb) (fun r' σ' pm => ?_)
  obtain ⟨rfl, rfl⟩ : r' = some (.inl 0) ∧ σ' = _ := by rcases pm with ⟨-, b, -⟩ | ⟨a, -, b⟩ <;> first | exact ⟨a, b⟩ | exact absurd b hnb
  show zH _ _ (4, [some (.inr (.inr (some 2))), some (.inl b), some (.inl t), some (.inl n)], [.inl 0], (zs h hl)) _
  refine zH_bt (x := 0) (y := 0) (k := .eq) (c1 := (21, [some (.inr (.inr (some 2))), some (.inl b), some (.inl t), some (.inl n)], [], (zs h hl))) (c2 := (7, [some (.inr (.inr (some 2))), some (.inl b), some (.inl t), some (.inl n)], [], (zs h hl))) rfl ⟨by decide, by decide⟩ ⟨by decide, by decide⟩ (by show 0 = 0; decide) ?_
  refine zH_go 2 (c' := (23, [some (.inr (.inr (some 2))), some (.inl b), some (.inl t), some (.inl n)], [.inl (-1), .inr (.inr (some 2))], (zs h hl))) rfl ?_
  refine zH_call (M' := 93) (as := [.inr (.inr (some 2)), .inl (-1)]) (T := []) rfl (p_found ⟨by decide, by decide⟩) (fun r' σ' p_1 => ?_)
  obtain ⟨rfl, rfl⟩ := p_1
  show zH _ _ (26, [some (.inr (.inr (some 2))), some (.inl b), some (.inl t), some (.inl n)], [.inl (-1)], (zs (zup h 2 8 (-1)) hl)) _
  refine zH_ret (v := some (.inl (-1))) rfl (fun q => absurd q (by decide)) ?_
  exact ⟨rfl, rfl⟩
set_option maxRecDepth 100000 in
set_option maxHeartbeats 4000000 in
theorem p_rowX {d : Nat} {h hl : Nat → Nat → Int} {b : Int} (hb : zr b) (hnb : ¬ (0 ≤ b ∧ b < 3)) {t n : Int} (ht : zr t) (hn : zr n) : zQ (d + 2) 87 [.inr (.inr (some 2)), .inl b, .inl t, .inl n] (zs h hl) (fun r' σ' => r' = some (.inl (-1)) ∧ σ' = zs (zup h 2 8 (-1)) hl) := by
  refine zQ_of (Nat.le_of_ble_eq_true rfl) ?_
  show zH (d + 1) 87 (0, [some (.inr (.inr (some 2))), some (.inl b), some (.inl t), some (.inl n), none], [], (zs h hl)) _
  refine zH_go 1 (c' := (1, [some (.inr (.inr (some 2))), some (.inl b), some (.inl t), some (.inl n), none], [.inl b], (zs h hl))) rfl ?_
  refine zH_call (M' := 92) (as := [.inl b]) (T := []) rfl (p_isBook hb) (fun r' σ' pm => ?_)
  obtain ⟨rfl, rfl⟩ : r' = some (.inl 0) ∧ σ' = _ := by rcases pm with ⟨-, b, -⟩ | ⟨a, -, b⟩ <;> first | exact ⟨a, b⟩ | exact absurd b hnb
  show zH _ _ (4, [some (.inr (.inr (some 2))), some (.inl b), some (.inl t), some (.inl n), none], [.inl 0], (zs h hl)) _
  refine zH_bt (x := 0) (y := 0) (k := .eq) (c1 := (13, [some (.inr (.inr (some 2))), some (.inl b), some (.inl t), some (.inl n), none], [], (zs h hl))) (c2 := (7, [some (.inr (.inr (some 2))), some (.inl b), some (.inl t), some (.inl n), none], [], (zs h hl))) rfl ⟨by decide, by decide⟩ ⟨by decide, by decide⟩ (by show 0 = 0; decide) ?_
  refine zH_go 2 (c' := (15, [some (.inr (.inr (some 2))), some (.inl b), some (.inl t), some (.inl n), none], [.inl (-1), .inr (.inr (some 2))], (zs h hl))) rfl ?_
  refine zH_call (M' := 93) (as := [.inr (.inr (some 2)), .inl (-1)]) (T := []) rfl (p_found ⟨by decide, by decide⟩) (fun r' σ' p_1 => ?_)
  obtain ⟨rfl, rfl⟩ := p_1
  show zH _ _ (18, [some (.inr (.inr (some 2))), some (.inl b), some (.inl t), some (.inl n), none], [.inl (-1)], (zs (zup h 2 8 (-1)) hl)) _
  refine zH_ret (v := some (.inl (-1))) rfl (fun q => absurd q (by decide)) ?_
  exact ⟨rfl, rfl⟩
set_option maxRecDepth 100000 in
set_option maxHeartbeats 4000000 in
theorem p_wnX {d : Nat} {h hl : Nat → Nat → Int} {b : Int} (hb : zr b) (hnb : ¬ (0 ≤ b ∧ b < 3)) {t r i : Int} : zQ (d + 2) 94 [.inr (.inr (some 2)), .inl b, .inl t, .inl r, .inl i] (zs h hl) (zI1 (-1) (zs h hl)) := by
  refine zQ_of (Nat.le_of_ble_eq_true rfl) ?_
  show zH (d + 1) 94 (0, [some (.inr (.inr (some 2))), some (.inl b), some (.inl t), some (.inl r), some (.inl i), none, none], [], (zs h hl)) _
  refine zH_go 1 (c' := (1, [some (.inr (.inr (some 2))), some (.inl b), some (.inl t), some (.inl r), some (.inl i), none, none], [.inl b], (zs h hl))) rfl ?_
  refine zH_call (M' := 92) (as := [.inl b]) (T := []) rfl (p_isBook hb) (fun r' σ' pm => ?_)
  obtain ⟨rfl, rfl⟩ : r' = some (.inl 0) ∧ σ' = _ := by rcases pm with ⟨-, b, -⟩ | ⟨a, -, b⟩ <;> first | exact ⟨a, b⟩ | exact absurd b hnb
  show zH _ _ (4, [some (.inr (.inr (some 2))), some (.inl b), some (.inl t), some (.inl r), some (.inl i), none, none], [.inl 0], (zs h hl)) _
  refine zH_bt (x := 0) (y := 0) (k := .eq) (c1 := (16, [some (.inr (.inr (some 2))), some (.inl b), some (.inl t), some (.inl r), some (.inl i), none, none], [], (zs h hl))) (c2 := (7, [some (.inr (.inr (some 2))), some (.inl b), some (.inl t), some (.inl r), some (.inl i), none, none], [], (zs h hl))) rfl ⟨by decide, by decide⟩ ⟨by decide, by decide⟩ (by show 0 = 0; decide) ?_
  refine zH_go 1 (c' := (17, [some (.inr (.inr (some 2))), some (.inl b), some (.inl t), some (.inl r), some (.inl i), none, none], [.inl (-1)], (zs h hl))) rfl ?_
  refine zH_ret (v := some (.inl (-1))) rfl (fun q => absurd q (by decide)) ?_
  exact ⟨rfl, rfl⟩
set_option maxRecDepth 100000 in
set_option maxHeartbeats 4000000 in
theorem p_putX {d : Nat} {h hl : Nat → Nat → Int} {b : Int} (hb : zr b) (hnb : ¬ (0 ≤ b ∧ b < 3)) {t r i v : Int} : zQ (d + 3) 88 [.inr (.inr (some 2)), .inl b, .inl t, .inl r, .inl i, .inr (.inl v)] (zs h hl) (fun r' σ' => r' = some (.inl (-1)) ∧ σ' = zs (zup h 2 8 (-1)) hl) := by
  refine zQ_of (Nat.le_of_ble_eq_true rfl) ?_
  show zH (d + 2) 88 (0, [some (.inr (.inr (some 2))), some (.inl b), some (.inl t), some (.inl r), some (.inl i), some (.inr (.inl v)), none, none], [], (zs h hl)) _
  refine zH_go 5 (c' := (6, [some (.inr (.inr (some 2))), some (.inl b), some (.inl t), some (.inl r), some (.inl i), some (.inr (.inl v)), none, none], [.inl i, .inl r, .inl t, .inl b, .inr (.inr (some 2))], (zs h hl))) rfl ?_
  refine zH_call (M' := 94) (as := [.inr (.inr (some 2)), .inl b, .inl t, .inl r, .inl i]) (T := []) rfl (p_wnX hb hnb) (fun r σ' p_1 => ?_)
  obtain ⟨rfl, rfl⟩ := p_1
  show zH _ _ (9, [some (.inr (.inr (some 2))), some (.inl b), some (.inl t), some (.inl r), some (.inl i), some (.inr (.inl v)), none, none], [.inl (-1)], (zs h hl)) _
  refine zH_go 2 (c' := (13, [some (.inr (.inr (some 2))), some (.inl b), some (.inl t), some (.inl r), some (.inl i), some (.inr (.inl v)), none, some (.inl (-1))], [.inl (-1)], (zs h hl))) rfl ?_
  refine zH_bt (x := (-1)) (y := 0) (k := .ne) (c1 := (37, [some (.inr (.inr (some 2))), some (.inl b), some (.inl t), some (.inl r), some (.inl i), some (.inr (.inl v)), none, some (.inl (-1))], [], (zs h hl))) (c2 := (16, [some (.inr (.inr (some 2))), some (.inl b), some (.inl t), some (.inl r), some (.inl i), some (.inr (.inl v)), none, some (.inl (-1))], [], (zs h hl))) rfl ⟨by decide, by decide⟩ ⟨by decide, by decide⟩ (by show ¬ (-1) = 0; decide) ?_
  refine zH_go 2 (c' := (40, [some (.inr (.inr (some 2))), some (.inl b), some (.inl t), some (.inl r), some (.inl i), some (.inr (.inl v)), none, some (.inl (-1))], [.inl (-1), .inr (.inr (some 2))], (zs h hl))) rfl ?_
  refine zH_call (M' := 93) (as := [.inr (.inr (some 2)), .inl (-1)]) (T := []) rfl (p_found ⟨by decide, by decide⟩) (fun r' σ' p_2 => ?_)
  obtain ⟨rfl, rfl⟩ := p_2
  show zH _ _ (43, [some (.inr (.inr (some 2))), some (.inl b), some (.inl t), some (.inl r), some (.inl i), some (.inr (.inl v)), none, some (.inl (-1))], [.inl (-1)], (zs (zup h 2 8 (-1)) hl)) _
  refine zH_ret (v := some (.inl (-1))) rfl (fun q => absurd q (by decide)) ?_
  exact ⟨rfl, rfl⟩
set_option maxRecDepth 100000 in
set_option maxHeartbeats 4000000 in
theorem p_itemX {d : Nat} {h hl : Nat → Nat → Int} {b : Int} (hb : zr b) (hnb : ¬ (0 ≤ b ∧ b < 3)) {t r i : Int} : zQ (d + 3) 89 [.inr (.inr (some 2)), .inl b, .inl t, .inl r, .inl i] (zs h hl) (fun r' σ' => r' = some (.inr (.inl 0)) ∧ σ' = zs (zup h 2 8 (-1)) hl) := by
  refine zQ_of (Nat.le_of_ble_eq_true rfl) ?_
  show zH (d + 2) 89 (0, [some (.inr (.inr (some 2))), some (.inl b), some (.inl t), some (.inl r), some (.inl i), none], [], (zs h hl)) _
  refine zH_go 5 (c' := (6, [some (.inr (.inr (some 2))), some (.inl b), some (.inl t), some (.inl r), some (.inl i), none], [.inl i, .inl r, .inl t, .inl b, .inr (.inr (some 2))], (zs h hl))) rfl ?_
  refine zH_call (M' := 94) (as := [.inr (.inr (some 2)), .inl b, .inl t, .inl r, .inl i]) (T := []) rfl (p_wnX hb hnb) (fun r σ' p_1 => ?_)
  obtain ⟨rfl, rfl⟩ := p_1
  show zH _ _ (9, [some (.inr (.inr (some 2))), some (.inl b), some (.inl t), some (.inl r), some (.inl i), none], [.inl (-1)], (zs h hl)) _
  refine zH_go 3 (c' := (14, [some (.inr (.inr (some 2))), some (.inl b), some (.inl t), some (.inl r), some (.inl i), some (.inl (-1))], [.inl (-1), .inr (.inr (some 2))], (zs h hl))) rfl ?_
  refine zH_call (M' := 93) (as := [.inr (.inr (some 2)), .inl (-1)]) (T := []) rfl (p_found ⟨by decide, by decide⟩) (fun r' σ' p_2 => ?_)
  obtain ⟨rfl, rfl⟩ := p_2
  show zH _ _ (17, [some (.inr (.inr (some 2))), some (.inl b), some (.inl t), some (.inl r), some (.inl i), some (.inl (-1))], [.inl (-1)], (zs (zup h 2 8 (-1)) hl)) _
  refine zH_go 2 (c' := (20, [some (.inr (.inr (some 2))), some (.inl b), some (.inl t), some (.inl r), some (.inl i), some (.inl (-1))], [.inl (-1)], (zs (zup h 2 8 (-1)) hl))) rfl ?_
  refine zH_bt (x := (-1)) (y := 0) (k := .ne) (c1 := (45, [some (.inr (.inr (some 2))), some (.inl b), some (.inl t), some (.inl r), some (.inl i), some (.inl (-1))], [], (zs (zup h 2 8 (-1)) hl))) (c2 := (23, [some (.inr (.inr (some 2))), some (.inl b), some (.inl t), some (.inl r), some (.inl i), some (.inl (-1))], [], (zs (zup h 2 8 (-1)) hl))) rfl ⟨by decide, by decide⟩ ⟨by decide, by decide⟩ (by show ¬ (-1) = 0; decide) ?_
  refine zH_go 1 (c' := (46, [some (.inr (.inr (some 2))), some (.inl b), some (.inl t), some (.inl r), some (.inl i), some (.inl (-1))], [.inr (.inl 0)], (zs (zup h 2 8 (-1)) hl))) rfl ?_
  refine zH_ret (v := some (.inr (.inl 0))) rfl (fun q => absurd q (by decide)) ?_
  exact ⟨rfl, rfl⟩
set_option maxRecDepth 100000 in
set_option maxHeartbeats 4000000 in
theorem p_roadsX {d : Nat} {h hl : Nat → Nat → Int} {b : Int} (hb : zr b) (hnb : ¬ (0 ≤ b ∧ b < 3)) : zQ (d + 2) 90 [.inr (.inr (some 2)), .inl b] (zs h hl) (fun r' σ' => r' = some (.inl (-1)) ∧ σ' = zs (zup h 2 8 (-1)) hl) := by
  refine zQ_of (Nat.le_of_ble_eq_true rfl) ?_
  show zH (d + 1) 90 (0, [some (.inr (.inr (some 2))), some (.inl b), none, none, none, none], [], (zs h hl)) _
  refine zH_go 1 (c' := (1, [some (.inr (.inr (some 2))), some (.inl b), none, none, none, none], [.inl b], (zs h hl))) rfl ?_
  refine zH_call (M' := 92) (as := [.inl b]) (T := []) rfl (p_isBook hb) (fun r' σ' pm => ?_)
  obtain ⟨rfl, rfl⟩ : r' = some (.inl 0) ∧ σ' = _ := by rcases pm with ⟨-, b, -⟩ | ⟨a, -, b⟩ <;> first | exact ⟨a, b⟩ | exact absurd b hnb
  show zH _ _ (4, [some (.inr (.inr (some 2))), some (.inl b), none, none, none, none], [.inl 0], (zs h hl)) _
  refine zH_bf (x := 0) (y := 0) (k := .ne) (c1 := (13, [some (.inr (.inr (some 2))), some (.inl b), none, none, none, none], [], (zs h hl))) (c2 := (7, [some (.inr (.inr (some 2))), some (.inl b), none, none, none, none], [], (zs h hl))) rfl ⟨by decide, by decide⟩ ⟨by decide, by decide⟩ (by show ¬ (¬ 0 = 0); decide) ?_
  refine zH_go 2 (c' := (9, [some (.inr (.inr (some 2))), some (.inl b), none, none, none, none], [.inl (-1), .inr (.inr (some 2))], (zs h hl))) rfl ?_
  refine zH_call (M' := 93) (as := [.inr (.inr (some 2)), .inl (-1)]) (T := []) rfl (p_found ⟨by decide, by decide⟩) (fun r' σ' p_1 => ?_)
  obtain ⟨rfl, rfl⟩ := p_1
  show zH _ _ (12, [some (.inr (.inr (some 2))), some (.inl b), none, none, none, none], [.inl (-1)], (zs (zup h 2 8 (-1)) hl)) _
  refine zH_ret (v := some (.inl (-1))) rfl (fun q => absurd q (by decide)) ?_
  exact ⟨rfl, rfl⟩
set_option maxRecDepth 100000 in
set_option maxHeartbeats 4000000 in
theorem p_callsX {d : Nat} {h hl : Nat → Nat → Int} {b : Int} (hb : zr b) (hnb : ¬ (0 ≤ b ∧ b < 3)) {r : Int} : zQ (d + 2) 91 [.inr (.inr (some 2)), .inl b, .inl r] (zs h hl) (fun r' σ' => r' = some (.inl (-1)) ∧ σ' = zs (zup h 2 8 (-1)) hl) := by
  refine zQ_of (Nat.le_of_ble_eq_true rfl) ?_
  show zH (d + 1) 91 (0, [some (.inr (.inr (some 2))), some (.inl b), some (.inl r), none, none, none, none, none, none], [], (zs h hl)) _
  refine zH_go 1 (c' := (1, [some (.inr (.inr (some 2))), some (.inl b), some (.inl r), none, none, none, none, none, none], [.inl b], (zs h hl))) rfl ?_
  refine zH_call (M' := 92) (as := [.inl b]) (T := []) rfl (p_isBook hb) (fun r' σ' pm => ?_)
  obtain ⟨rfl, rfl⟩ : r' = some (.inl 0) ∧ σ' = _ := by rcases pm with ⟨-, b, -⟩ | ⟨a, -, b⟩ <;> first | exact ⟨a, b⟩ | exact absurd b hnb
  show zH _ _ (4, [some (.inr (.inr (some 2))), some (.inl b), some (.inl r), none, none, none, none, none, none], [.inl 0], (zs h hl)) _
  refine zH_bf (x := 0) (y := 0) (k := .ne) (c1 := (13, [some (.inr (.inr (some 2))), some (.inl b), some (.inl r), none, none, none, none, none, none], [], (zs h hl))) (c2 := (7, [some (.inr (.inr (some 2))), some (.inl b), some (.inl r), none, none, none, none, none, none], [], (zs h hl))) rfl ⟨by decide, by decide⟩ ⟨by decide, by decide⟩ (by show ¬ (¬ 0 = 0); decide) ?_
  refine zH_go 2 (c' := (9, [some (.inr (.inr (some 2))), some (.inl b), some (.inl r), none, none, none, none, none, none], [.inl (-1), .inr (.inr (some 2))], (zs h hl))) rfl ?_
  refine zH_call (M' := 93) (as := [.inr (.inr (some 2)), .inl (-1)]) (T := []) rfl (p_found ⟨by decide, by decide⟩) (fun r' σ' p_1 => ?_)
  obtain ⟨rfl, rfl⟩ := p_1
  show zH _ _ (12, [some (.inr (.inr (some 2))), some (.inl b), some (.inl r), none, none, none, none, none, none], [.inl (-1)], (zs (zup h 2 8 (-1)) hl)) _
  refine zH_ret (v := some (.inl (-1))) rfl (fun q => absurd q (by decide)) ?_
  exact ⟨rfl, rfl⟩
set_option maxRecDepth 100000 in
set_option maxHeartbeats 4000000 in
theorem p_book0 {d : Nat} {h hl : Nat → Nat → Int} {t n : Int} (ht : zr t) (hn : zr n) : zQ (d + 2) 86 [.inr (.inr (some 2)), .inl 0, .inl t, .inl n] (zs h hl) (fun r' σ' => (¬ ((0 ≤ t ∧ t ≤ 3) ∧ n ≤ 4) ∧ r' = some (.inl (-1)) ∧ σ' = zs (zup h 2 8 (-1)) hl) ∨ (((0 ≤ t ∧ t ≤ 3) ∧ n ≤ 4) ∧ n < 0 ∧ r' = some (.inl (-15)) ∧ σ' = zs (zup h 2 8 (-15)) hl) ∨ (((0 ≤ t ∧ t ≤ 3) ∧ n ≤ 4) ∧ 0 ≤ n ∧ r' = some (.inl 1) ∧ ∃ g : Nat → Nat → Int, σ' = zs (zup g 2 8 0) hl ∧ (∀ c : Nat, c ≠ 83 → c ≠ 84 → g c = h c) ∧ g 83 0 = t ∧ g 83 1 = n ∧ ∀ q : Nat, q < 4 → g 84 q = -1)) := by
  refine zQ_of (Nat.le_of_ble_eq_true rfl) ?_
  show zH (d + 1) 86 (0, [some (.inr (.inr (some 2))), some (.inl 0), some (.inl t), some (.inl n)], [], (zs h hl)) _
  refine zH_go 1 (c' := (1, [some (.inr (.inr (some 2))), some (.inl 0), some (.inl t), some (.inl n)], [.inl 0], (zs h hl))) rfl ?_
  refine zH_call (M' := 92) (as := [.inl 0]) (T := []) rfl (p_isBook ⟨by decide, by decide⟩) (fun r' σ' pm => ?_)
  obtain ⟨rfl, rfl⟩ : r' = some (.inl 1) ∧ σ' = _ := by rcases pm with ⟨a, -, b⟩ | ⟨-, b, -⟩ <;> first | exact ⟨a, b⟩ | (exfalso; omega)
  show zH _ _ (4, [some (.inr (.inr (some 2))), some (.inl 0), some (.inl t), some (.inl n)], [.inl 1], (zs h hl)) _
  refine zH_bf (x := 1) (y := 0) (k := .eq) (c1 := (21, [some (.inr (.inr (some 2))), some (.inl 0), some (.inl t), some (.inl n)], [], (zs h hl))) (c2 := (7, [some (.inr (.inr (some 2))), some (.inl 0), some (.inl t), some (.inl n)], [], (zs h hl))) rfl ⟨by decide, by decide⟩ ⟨by decide, by decide⟩ (by show ¬ (1 = 0); decide) ?_
  refine zH_go 1 (c' := (8, [some (.inr (.inr (some 2))), some (.inl 0), some (.inl t), some (.inl n)], [.inl t], (zs h hl))) rfl ?_
  refine zH_br (x := t) (y := 0) (k := .lt) (c1 := (21, [some (.inr (.inr (some 2))), some (.inl 0), some (.inl t), some (.inl n)], [], (zs h hl))) (c2 := (11, [some (.inr (.inr (some 2))), some (.inl 0), some (.inl t), some (.inl n)], [], (zs h hl))) rfl (by first | assumption | (unfold zr; omega)) ⟨by decide, by decide⟩ (fun (b_1 : t < 0) => ?_) (fun (b_1 : ¬ (t < 0)) => ?_)
  · refine zH_go 2 (c' := (23, [some (.inr (.inr (some 2))), some (.inl 0), some (.inl t), some (.inl n)], [.inl (-1), .inr (.inr (some 2))], (zs h hl))) rfl ?_
    refine zH_call (M' := 93) (as := [.inr (.inr (some 2)), .inl (-1)]) (T := []) rfl (p_found ⟨by decide, by decide⟩) (fun r' σ' p_2 => ?_)
    obtain ⟨rfl, rfl⟩ := p_2
    show zH _ _ (26, [some (.inr (.inr (some 2))), some (.inl 0), some (.inl t), some (.inl n)], [.inl (-1)], (zs (zup h 2 8 (-1)) hl)) _
    refine zH_ret (v := some (.inl (-1))) rfl (fun q => absurd q (by decide)) ?_
    exact Or.inl ⟨by omega, rfl, rfl⟩
  · refine zH_go 2 (c' := (13, [some (.inr (.inr (some 2))), some (.inl 0), some (.inl t), some (.inl n)], [.inl 3, .inl t], (zs h hl))) rfl ?_
    refine zH_br (x := t) (y := 3) (k := .gt) (c1 := (21, [some (.inr (.inr (some 2))), some (.inl 0), some (.inl t), some (.inl n)], [], (zs h hl))) (c2 := (16, [some (.inr (.inr (some 2))), some (.inl 0), some (.inl t), some (.inl n)], [], (zs h hl))) rfl (by first | assumption | (unfold zr; omega)) ⟨by decide, by decide⟩ (fun (b_3 : 3 < t) => ?_) (fun (b_3 : ¬ (3 < t)) => ?_)
    · refine zH_go 2 (c' := (23, [some (.inr (.inr (some 2))), some (.inl 0), some (.inl t), some (.inl n)], [.inl (-1), .inr (.inr (some 2))], (zs h hl))) rfl ?_
      refine zH_call (M' := 93) (as := [.inr (.inr (some 2)), .inl (-1)]) (T := []) rfl (p_found ⟨by decide, by decide⟩) (fun r' σ' p_4 => ?_)
      obtain ⟨rfl, rfl⟩ := p_4
      show zH _ _ (26, [some (.inr (.inr (some 2))), some (.inl 0), some (.inl t), some (.inl n)], [.inl (-1)], (zs (zup h 2 8 (-1)) hl)) _
      refine zH_ret (v := some (.inl (-1))) rfl (fun q => absurd q (by decide)) ?_
      exact Or.inl ⟨by omega, rfl, rfl⟩
    · refine zH_go 2 (c' := (18, [some (.inr (.inr (some 2))), some (.inl 0), some (.inl t), some (.inl n)], [.inl 4, .inl n], (zs h hl))) rfl ?_
      refine zH_br (x := n) (y := 4) (k := .le) (c1 := (27, [some (.inr (.inr (some 2))), some (.inl 0), some (.inl t), some (.inl n)], [], (zs h hl))) (c2 := (21, [some (.inr (.inr (some 2))), some (.inl 0), some (.inl t), some (.inl n)], [], (zs h hl))) rfl (by first | assumption | (unfold zr; omega)) ⟨by decide, by decide⟩ (fun (b_5 : ¬ 4 < n) => ?_) (fun (b_5 : ¬ (¬ 4 < n)) => ?_)
      · refine zH_go 1 (c' := (28, [some (.inr (.inr (some 2))), some (.inl 0), some (.inl t), some (.inl n)], [.inl n], (zs h hl))) rfl ?_
        refine zH_br (x := n) (y := 0) (k := .ge) (c1 := (38, [some (.inr (.inr (some 2))), some (.inl 0), some (.inl t), some (.inl n)], [], (zs h hl))) (c2 := (31, [some (.inr (.inr (some 2))), some (.inl 0), some (.inl t), some (.inl n)], [], (zs h hl))) rfl (by first | assumption | (unfold zr; omega)) ⟨by decide, by decide⟩ (fun (b_6 : ¬ n < 0) => ?_) (fun (b_6 : ¬ (¬ n < 0)) => ?_)
        · refine zH_go 3 (c' := (43, [some (.inr (.inr (some 2))), some (.inl 0), some (.inl t), some (.inl n)], [.inl 0, .inr (.inr (some 82))], (zs h hl))) rfl ?_
          refine zH_np (P := 0 ≤ 0 ∧ 0 < ((3 : Nat) : Int)) (c' := (44, [some (.inr (.inr (some 2))), some (.inl 0), some (.inl t), some (.inl n)], [.inr (.inr (some 83))], (zs h hl))) rfl ⟨by decide, by decide⟩ ?_
          refine zH_go 2 (c' := (46, [some (.inr (.inr (some 2))), some (.inl 0), some (.inl t), some (.inl n)], [.inl n, .inl t, .inr (.inr (some 83))], (zs h hl))) rfl ?_
          refine zH_call (M' := 6) (as := [.inr (.inr (some 83)), .inl t, .inl n]) (T := []) rfl p_bOpen0 (fun r' σ' pm => ?_)
          obtain ⟨rfl, g, rfl, g1, g2, g3, g4⟩ := pm
          show zH _ _ (49, [some (.inr (.inr (some 2))), some (.inl 0), some (.inl t), some (.inl n)], [], (zs g hl)) _
          refine zH_go 2 (c' := (51, [some (.inr (.inr (some 2))), some (.inl 0), some (.inl t), some (.inl n)], [.inl 0, .inr (.inr (some 2))], (zs g hl))) rfl ?_
          refine zH_call (M' := 93) (as := [.inr (.inr (some 2)), .inl 0]) (T := []) rfl (p_found ⟨by decide, by decide⟩) (fun r' σ' p_7 => ?_)
          obtain ⟨rfl, rfl⟩ := p_7
          show zH _ _ (54, [some (.inr (.inr (some 2))), some (.inl 0), some (.inl t), some (.inl n)], [.inl 1], (zs (zup g 2 8 0) hl)) _
          refine zH_ret (v := some (.inl 1)) rfl (fun q => absurd q (by decide)) ?_
          exact Or.inr (Or.inr ⟨by omega, by omega, rfl, g, rfl, g1, g2, g3, g4⟩)
        · refine zH_go 2 (c' := (34, [some (.inr (.inr (some 2))), some (.inl 0), some (.inl t), some (.inl n)], [.inl (-15), .inr (.inr (some 2))], (zs h hl))) rfl ?_
          refine zH_call (M' := 93) (as := [.inr (.inr (some 2)), .inl (-15)]) (T := []) rfl (p_found ⟨by decide, by decide⟩) (fun r' σ' p_8 => ?_)
          obtain ⟨rfl, rfl⟩ := p_8
          show zH _ _ (37, [some (.inr (.inr (some 2))), some (.inl 0), some (.inl t), some (.inl n)], [.inl (-15)], (zs (zup h 2 8 (-15)) hl)) _
          refine zH_ret (v := some (.inl (-15))) rfl (fun q => absurd q (by decide)) ?_
          exact Or.inr (Or.inl ⟨by omega, by omega, rfl, rfl⟩)
      · refine zH_go 2 (c' := (23, [some (.inr (.inr (some 2))), some (.inl 0), some (.inl t), some (.inl n)], [.inl (-1), .inr (.inr (some 2))], (zs h hl))) rfl ?_
        refine zH_call (M' := 93) (as := [.inr (.inr (some 2)), .inl (-1)]) (T := []) rfl (p_found ⟨by decide, by decide⟩) (fun r' σ' p_9 => ?_)
        obtain ⟨rfl, rfl⟩ := p_9
        show zH _ _ (26, [some (.inr (.inr (some 2))), some (.inl 0), some (.inl t), some (.inl n)], [.inl (-1)], (zs (zup h 2 8 (-1)) hl)) _
        refine zH_ret (v := some (.inl (-1))) rfl (fun q => absurd q (by decide)) ?_
        exact Or.inl ⟨by omega, rfl, rfl⟩
set_option maxRecDepth 100000 in
set_option maxHeartbeats 4000000 in
theorem p_row0 {d : Nat} {h hl : Nat → Nat → Int} {r n : Int} (hr : zr r) (hn : zr n) (hR : -1 ≤ h 83 1 ∧ h 83 1 ≤ 4) : zQ (d + 3) 87 [.inr (.inr (some 2)), .inl 0, .inl r, .inl n] (zs h hl) (fun r' σ' => (8 < n ∧ r' = some (.inl (-1)) ∧ σ' = zs (zup h 2 8 (-1)) hl) ∨ (n ≤ 8 ∧ h 83 1 < 0 ∧ r' = some (.inl (-11)) ∧ σ' = zs (zup h 2 8 (-11)) hl) ∨ (n ≤ 8 ∧ 0 ≤ h 83 1 ∧ ¬ zHasRow h 83 r ∧ r' = some (.inl (-12)) ∧ σ' = zs (zup h 2 8 (-12)) hl) ∨ (0 ≤ h 83 1 ∧ zHasRow h 83 r ∧ n < 0 ∧ r' = some (.inl (-15)) ∧ σ' = zs (zup h 2 8 (-15)) hl) ∨ (0 ≤ h 83 1 ∧ zHasRow h 83 r ∧ 0 ≤ n ∧ n ≤ 8 ∧ r' = some (.inl 1) ∧ ∃ g gl : Nat → Nat → Int, σ' = zs (zup g 2 8 0) gl ∧ g = zup h 84 (Int.toNat r) n ∧ (∀ c : Nat, c ≠ 86 + Int.toNat r → gl c = hl c) ∧ ∀ j : Nat, j < 8 → gl (86 + Int.toNat r) j = 0)) := by
  refine zQ_of (Nat.le_of_ble_eq_true rfl) ?_
  show zH (d + 2) 87 (0, [some (.inr (.inr (some 2))), some (.inl 0), some (.inl r), some (.inl n), none], [], (zs h hl)) _
  refine zH_go 1 (c' := (1, [some (.inr (.inr (some 2))), some (.inl 0), some (.inl r), some (.inl n), none], [.inl 0], (zs h hl))) rfl ?_
  refine zH_call (M' := 92) (as := [.inl 0]) (T := []) rfl (p_isBook ⟨by decide, by decide⟩) (fun r' σ' pm => ?_)
  obtain ⟨rfl, rfl⟩ : r' = some (.inl 1) ∧ σ' = _ := by rcases pm with ⟨a, -, b⟩ | ⟨-, b, -⟩ <;> first | exact ⟨a, b⟩ | (exfalso; omega)
  show zH _ _ (4, [some (.inr (.inr (some 2))), some (.inl 0), some (.inl r), some (.inl n), none], [.inl 1], (zs h hl)) _
  refine zH_bf (x := 1) (y := 0) (k := .eq) (c1 := (13, [some (.inr (.inr (some 2))), some (.inl 0), some (.inl r), some (.inl n), none], [], (zs h hl))) (c2 := (7, [some (.inr (.inr (some 2))), some (.inl 0), some (.inl r), some (.inl n), none], [], (zs h hl))) rfl ⟨by decide, by decide⟩ ⟨by decide, by decide⟩ (by show ¬ (1 = 0); decide) ?_
  refine zH_go 2 (c' := (10, [some (.inr (.inr (some 2))), some (.inl 0), some (.inl r), some (.inl n), none], [.inl 8, .inl n], (zs h hl))) rfl ?_
  refine zH_br (x := n) (y := 8) (k := .le) (c1 := (19, [some (.inr (.inr (some 2))), some (.inl 0), some (.inl r), some (.inl n), none], [], (zs h hl))) (c2 := (13, [some (.inr (.inr (some 2))), some (.inl 0), some (.inl r), some (.inl n), none], [], (zs h hl))) rfl (by first | assumption | (unfold zr; omega)) ⟨by decide, by decide⟩ (fun (b_1 : ¬ 8 < n) => ?_) (fun (b_1 : ¬ (¬ 8 < n)) => ?_)
  · refine zH_go 3 (c' := (24, [some (.inr (.inr (some 2))), some (.inl 0), some (.inl r), some (.inl n), none], [.inl 0, .inr (.inr (some 82))], (zs h hl))) rfl ?_
    refine zH_np (P := 0 ≤ 0 ∧ 0 < ((3 : Nat) : Int)) (c' := (25, [some (.inr (.inr (some 2))), some (.inl 0), some (.inl r), some (.inl n), none], [.inr (.inr (some 83))], (zs h hl))) rfl ⟨by decide, by decide⟩ ?_
    refine zH_go 2 (c' := (29, [some (.inr (.inr (some 2))), some (.inl 0), some (.inl r), some (.inl n), some (.inr (.inr (some 83)))], [.inr (.inr (some 83))], (zs h hl))) rfl ?_
    refine zH_call (M' := 1) (as := [.inr (.inr (some 83))]) (T := []) rfl (p_bThere0 hR) (fun r σ' p_2 => ?_)
    rcases p_2 with ⟨rfl, b_3, rfl⟩ | ⟨rfl, b_3, rfl⟩
    · show zH _ _ (32, [some (.inr (.inr (some 2))), some (.inl 0), some (.inl r), some (.inl n), some (.inr (.inr (some 83)))], [.inl 1], (zs h hl)) _
      refine zH_bt (x := 1) (y := 0) (k := .ne) (c1 := (42, [some (.inr (.inr (some 2))), some (.inl 0), some (.inl r), some (.inl n), some (.inr (.inr (some 83)))], [], (zs h hl))) (c2 := (35, [some (.inr (.inr (some 2))), some (.inl 0), some (.inl r), some (.inl n), some (.inr (.inr (some 83)))], [], (zs h hl))) rfl ⟨by decide, by decide⟩ ⟨by decide, by decide⟩ (by show ¬ 1 = 0; decide) ?_
      refine zH_go 2 (c' := (45, [some (.inr (.inr (some 2))), some (.inl 0), some (.inl r), some (.inl n), some (.inr (.inr (some 83)))], [.inl r, .inr (.inr (some 83))], (zs h hl))) rfl ?_
      refine zH_call (M' := 2) (as := [.inr (.inr (some 83)), .inl r]) (T := []) rfl (p_bRow0 hr hR) (fun r σ' p_4 => ?_)
      rcases p_4 with ⟨rfl, b_5, rfl⟩ | ⟨rfl, b_5, rfl⟩
      · show zH _ _ (48, [some (.inr (.inr (some 2))), some (.inl 0), some (.inl r), some (.inl n), some (.inr (.inr (some 83)))], [.inl 1], (zs h hl)) _
        refine zH_bt (x := 1) (y := 0) (k := .ne) (c1 := (58, [some (.inr (.inr (some 2))), some (.inl 0), some (.inl r), some (.inl n), some (.inr (.inr (some 83)))], [], (zs h hl))) (c2 := (51, [some (.inr (.inr (some 2))), some (.inl 0), some (.inl r), some (.inl n), some (.inr (.inr (some 83)))], [], (zs h hl))) rfl ⟨by decide, by decide⟩ ⟨by decide, by decide⟩ (by show ¬ 1 = 0; decide) ?_
        refine zH_go 1 (c' := (59, [some (.inr (.inr (some 2))), some (.inl 0), some (.inl r), some (.inl n), some (.inr (.inr (some 83)))], [.inl n], (zs h hl))) rfl ?_
        refine zH_br (x := n) (y := 0) (k := .ge) (c1 := (69, [some (.inr (.inr (some 2))), some (.inl 0), some (.inl r), some (.inl n), some (.inr (.inr (some 83)))], [], (zs h hl))) (c2 := (62, [some (.inr (.inr (some 2))), some (.inl 0), some (.inl r), some (.inl n), some (.inr (.inr (some 83)))], [], (zs h hl))) rfl (by first | assumption | (unfold zr; omega)) ⟨by decide, by decide⟩ (fun (b_6 : ¬ n < 0) => ?_) (fun (b_6 : ¬ (¬ n < 0)) => ?_)
        · refine zH_go 3 (c' := (73, [some (.inr (.inr (some 2))), some (.inl 0), some (.inl r), some (.inl n), some (.inr (.inr (some 83)))], [.inl n, .inl r, .inr (.inr (some 83))], (zs h hl))) rfl ?_
          refine zH_call (M' := 7) (as := [.inr (.inr (some 83)), .inl r, .inl n]) (T := []) rfl (p_bRenew0 hr hR (by assumption)) (fun r' σ' pm => ?_)
          obtain ⟨rfl, g, gl, rfl, g1, g2, g3⟩ := pm
          show zH _ _ (76, [some (.inr (.inr (some 2))), some (.inl 0), some (.inl r), some (.inl n), some (.inr (.inr (some 83)))], [], (zs g gl)) _
          refine zH_go 2 (c' := (78, [some (.inr (.inr (some 2))), some (.inl 0), some (.inl r), some (.inl n), some (.inr (.inr (some 83)))], [.inl 0, .inr (.inr (some 2))], (zs g gl))) rfl ?_
          refine zH_call (M' := 93) (as := [.inr (.inr (some 2)), .inl 0]) (T := []) rfl (p_found ⟨by decide, by decide⟩) (fun r' σ' p_7 => ?_)
          obtain ⟨rfl, rfl⟩ := p_7
          show zH _ _ (81, [some (.inr (.inr (some 2))), some (.inl 0), some (.inl r), some (.inl n), some (.inr (.inr (some 83)))], [.inl 1], (zs (zup g 2 8 0) gl)) _
          refine zH_ret (v := some (.inl 1)) rfl (fun q => absurd q (by decide)) ?_
          exact Or.inr (Or.inr (Or.inr (Or.inr ⟨by assumption, by assumption, by omega, by omega, rfl, g, gl, rfl, g1, g2, g3⟩)))
        · refine zH_go 2 (c' := (65, [some (.inr (.inr (some 2))), some (.inl 0), some (.inl r), some (.inl n), some (.inr (.inr (some 83)))], [.inl (-15), .inr (.inr (some 2))], (zs h hl))) rfl ?_
          refine zH_call (M' := 93) (as := [.inr (.inr (some 2)), .inl (-15)]) (T := []) rfl (p_found ⟨by decide, by decide⟩) (fun r' σ' p_8 => ?_)
          obtain ⟨rfl, rfl⟩ := p_8
          show zH _ _ (68, [some (.inr (.inr (some 2))), some (.inl 0), some (.inl r), some (.inl n), some (.inr (.inr (some 83)))], [.inl (-15)], (zs (zup h 2 8 (-15)) hl)) _
          refine zH_ret (v := some (.inl (-15))) rfl (fun q => absurd q (by decide)) ?_
          exact Or.inr (Or.inr (Or.inr (Or.inl ⟨by assumption, by assumption, by omega, rfl, rfl⟩)))
      · show zH _ _ (48, [some (.inr (.inr (some 2))), some (.inl 0), some (.inl r), some (.inl n), some (.inr (.inr (some 83)))], [.inl 0], (zs h hl)) _
        refine zH_bf (x := 0) (y := 0) (k := .ne) (c1 := (58, [some (.inr (.inr (some 2))), some (.inl 0), some (.inl r), some (.inl n), some (.inr (.inr (some 83)))], [], (zs h hl))) (c2 := (51, [some (.inr (.inr (some 2))), some (.inl 0), some (.inl r), some (.inl n), some (.inr (.inr (some 83)))], [], (zs h hl))) rfl ⟨by decide, by decide⟩ ⟨by decide, by decide⟩ (by show ¬ (¬ 0 = 0); decide) ?_
        refine zH_go 2 (c' := (54, [some (.inr (.inr (some 2))), some (.inl 0), some (.inl r), some (.inl n), some (.inr (.inr (some 83)))], [.inl (-12), .inr (.inr (some 2))], (zs h hl))) rfl ?_
        refine zH_call (M' := 93) (as := [.inr (.inr (some 2)), .inl (-12)]) (T := []) rfl (p_found ⟨by decide, by decide⟩) (fun r' σ' p_9 => ?_)
        obtain ⟨rfl, rfl⟩ := p_9
        show zH _ _ (57, [some (.inr (.inr (some 2))), some (.inl 0), some (.inl r), some (.inl n), some (.inr (.inr (some 83)))], [.inl (-12)], (zs (zup h 2 8 (-12)) hl)) _
        refine zH_ret (v := some (.inl (-12))) rfl (fun q => absurd q (by decide)) ?_
        exact Or.inr (Or.inr (Or.inl ⟨by omega, by assumption, by assumption, rfl, rfl⟩))
    · show zH _ _ (32, [some (.inr (.inr (some 2))), some (.inl 0), some (.inl r), some (.inl n), some (.inr (.inr (some 83)))], [.inl 0], (zs h hl)) _
      refine zH_bf (x := 0) (y := 0) (k := .ne) (c1 := (42, [some (.inr (.inr (some 2))), some (.inl 0), some (.inl r), some (.inl n), some (.inr (.inr (some 83)))], [], (zs h hl))) (c2 := (35, [some (.inr (.inr (some 2))), some (.inl 0), some (.inl r), some (.inl n), some (.inr (.inr (some 83)))], [], (zs h hl))) rfl ⟨by decide, by decide⟩ ⟨by decide, by decide⟩ (by show ¬ (¬ 0 = 0); decide) ?_
      refine zH_go 2 (c' := (38, [some (.inr (.inr (some 2))), some (.inl 0), some (.inl r), some (.inl n), some (.inr (.inr (some 83)))], [.inl (-11), .inr (.inr (some 2))], (zs h hl))) rfl ?_
      refine zH_call (M' := 93) (as := [.inr (.inr (some 2)), .inl (-11)]) (T := []) rfl (p_found ⟨by decide, by decide⟩) (fun r' σ' p_10 => ?_)
      obtain ⟨rfl, rfl⟩ := p_10
      show zH _ _ (41, [some (.inr (.inr (some 2))), some (.inl 0), some (.inl r), some (.inl n), some (.inr (.inr (some 83)))], [.inl (-11)], (zs (zup h 2 8 (-11)) hl)) _
      refine zH_ret (v := some (.inl (-11))) rfl (fun q => absurd q (by decide)) ?_
      exact Or.inr (Or.inl ⟨by omega, by omega, rfl, rfl⟩)
  · refine zH_go 2 (c' := (15, [some (.inr (.inr (some 2))), some (.inl 0), some (.inl r), some (.inl n), none], [.inl (-1), .inr (.inr (some 2))], (zs h hl))) rfl ?_
    refine zH_call (M' := 93) (as := [.inr (.inr (some 2)), .inl (-1)]) (T := []) rfl (p_found ⟨by decide, by decide⟩) (fun r' σ' p_11 => ?_)
    obtain ⟨rfl, rfl⟩ := p_11
    show zH _ _ (18, [some (.inr (.inr (some 2))), some (.inl 0), some (.inl r), some (.inl n), none], [.inl (-1)], (zs (zup h 2 8 (-1)) hl)) _
    refine zH_ret (v := some (.inl (-1))) rfl (fun q => absurd q (by decide)) ?_
    exact Or.inl ⟨by omega, rfl, rfl⟩
set_option maxRecDepth 100000 in
set_option maxHeartbeats 4000000 in
theorem p_wn0 {d : Nat} {h hl : Nat → Nat → Int} {t r i : Int} (ht : zr t) (hr : zr r) (hi : zr i) (ht0 : zr (h 83 0)) (hR : -1 ≤ h 83 1 ∧ h 83 1 ≤ 4) (hZ : ∀ q : Nat, q < 4 → -1 ≤ h 84 q ∧ h 84 q ≤ 8) : zQ (d + 4) 94 [.inr (.inr (some 2)), .inl 0, .inl t, .inl r, .inl i] (zs h hl) (fun r' σ' => ∃ x : Int, zWN h 83 84 t r i x ∧ r' = some (.inl x) ∧ σ' = zs h hl) := by
  refine zQ_of (Nat.le_of_ble_eq_true rfl) ?_
  show zH (d + 3) 94 (0, [some (.inr (.inr (some 2))), some (.inl 0), some (.inl t), some (.inl r), some (.inl i), none, none], [], (zs h hl)) _
  refine zH_go 1 (c' := (1, [some (.inr (.inr (some 2))), some (.inl 0), some (.inl t), some (.inl r), some (.inl i), none, none], [.inl 0], (zs h hl))) rfl ?_
  refine zH_call (M' := 92) (as := [.inl 0]) (T := []) rfl (p_isBook ⟨by decide, by decide⟩) (fun r' σ' pm => ?_)
  obtain ⟨rfl, rfl⟩ : r' = some (.inl 1) ∧ σ' = _ := by rcases pm with ⟨a, -, b⟩ | ⟨-, b, -⟩ <;> first | exact ⟨a, b⟩ | (exfalso; omega)
  show zH _ _ (4, [some (.inr (.inr (some 2))), some (.inl 0), some (.inl t), some (.inl r), some (.inl i), none, none], [.inl 1], (zs h hl)) _
  refine zH_bf (x := 1) (y := 0) (k := .eq) (c1 := (16, [some (.inr (.inr (some 2))), some (.inl 0), some (.inl t), some (.inl r), some (.inl i), none, none], [], (zs h hl))) (c2 := (7, [some (.inr (.inr (some 2))), some (.inl 0), some (.inl t), some (.inl r), some (.inl i), none, none], [], (zs h hl))) rfl ⟨by decide, by decide⟩ ⟨by decide, by decide⟩ (by show ¬ (1 = 0); decide) ?_
  refine zH_go 1 (c' := (8, [some (.inr (.inr (some 2))), some (.inl 0), some (.inl t), some (.inl r), some (.inl i), none, none], [.inl t], (zs h hl))) rfl ?_
  refine zH_br (x := t) (y := 0) (k := .lt) (c1 := (16, [some (.inr (.inr (some 2))), some (.inl 0), some (.inl t), some (.inl r), some (.inl i), none, none], [], (zs h hl))) (c2 := (11, [some (.inr (.inr (some 2))), some (.inl 0), some (.inl t), some (.inl r), some (.inl i), none, none], [], (zs h hl))) rfl (by first | assumption | (unfold zr; omega)) ⟨by decide, by decide⟩ (fun (b_1 : t < 0) => ?_) (fun (b_1 : ¬ (t < 0)) => ?_)
  · refine zH_go 1 (c' := (17, [some (.inr (.inr (some 2))), some (.inl 0), some (.inl t), some (.inl r), some (.inl i), none, none], [.inl (-1)], (zs h hl))) rfl ?_
    refine zH_ret (v := some (.inl (-1))) rfl (fun q => absurd q (by decide)) ?_
    exact ⟨_, Or.inl ⟨by omega, rfl⟩, rfl, rfl⟩
  · refine zH_go 2 (c' := (13, [some (.inr (.inr (some 2))), some (.inl 0), some (.inl t), some (.inl r), some (.inl i), none, none], [.inl 3, .inl t], (zs h hl))) rfl ?_
    refine zH_br (x := t) (y := 3) (k := .le) (c1 := (18, [some (.inr (.inr (some 2))), some (.inl 0), some (.inl t), some (.inl r), some (.inl i), none, none], [], (zs h hl))) (c2 := (16, [some (.inr (.inr (some 2))), some (.inl 0), some (.inl t), some (.inl r), some (.inl i), none, none], [], (zs h hl))) rfl (by first | assumption | (unfold zr; omega)) ⟨by decide, by decide⟩ (fun (b_2 : ¬ 3 < t) => ?_) (fun (b_2 : ¬ (¬ 3 < t)) => ?_)
    · refine zH_go 3 (c' := (23, [some (.inr (.inr (some 2))), some (.inl 0), some (.inl t), some (.inl r), some (.inl i), none, none], [.inl 0, .inr (.inr (some 82))], (zs h hl))) rfl ?_
      refine zH_np (P := 0 ≤ 0 ∧ 0 < ((3 : Nat) : Int)) (c' := (24, [some (.inr (.inr (some 2))), some (.inl 0), some (.inl t), some (.inl r), some (.inl i), none, none], [.inr (.inr (some 83))], (zs h hl))) rfl ⟨by decide, by decide⟩ ?_
      refine zH_go 2 (c' := (28, [some (.inr (.inr (some 2))), some (.inl 0), some (.inl t), some (.inl r), some (.inl i), some (.inr (.inr (some 83))), none], [.inr (.inr (some 83))], (zs h hl))) rfl ?_
      refine zH_call (M' := 1) (as := [.inr (.inr (some 83))]) (T := []) rfl (p_bThere0 hR) (fun r σ' p_3 => ?_)
      rcases p_3 with ⟨rfl, b_4, rfl⟩ | ⟨rfl, b_4, rfl⟩
      · show zH _ _ (31, [some (.inr (.inr (some 2))), some (.inl 0), some (.inl t), some (.inl r), some (.inl i), some (.inr (.inr (some 83))), none], [.inl 1], (zs h hl)) _
        refine zH_bt (x := 1) (y := 0) (k := .ne) (c1 := (37, [some (.inr (.inr (some 2))), some (.inl 0), some (.inl t), some (.inl r), some (.inl i), some (.inr (.inr (some 83))), none], [], (zs h hl))) (c2 := (34, [some (.inr (.inr (some 2))), some (.inl 0), some (.inl t), some (.inl r), some (.inl i), some (.inr (.inr (some 83))), none], [], (zs h hl))) rfl ⟨by decide, by decide⟩ ⟨by decide, by decide⟩ (by show ¬ 1 = 0; decide) ?_
        refine zH_go 3 (c' := (43, [some (.inr (.inr (some 2))), some (.inl 0), some (.inl t), some (.inl r), some (.inl i), some (.inr (.inr (some 83))), none], [.inl t, .inl (h 83 0)], (zs h hl))) rfl ?_
        refine zH_br (x := (h 83 0)) (y := t) (k := .eq) (c1 := (49, [some (.inr (.inr (some 2))), some (.inl 0), some (.inl t), some (.inl r), some (.inl i), some (.inr (.inr (some 83))), none], [], (zs h hl))) (c2 := (46, [some (.inr (.inr (some 2))), some (.inl 0), some (.inl t), some (.inl r), some (.inl i), some (.inr (.inr (some 83))), none], [], (zs h hl))) rfl (by first | assumption | (unfold zr; omega)) (by first | assumption | (unfold zr; omega)) (fun (b_5 : (h 83 0) = t) => ?_) (fun (b_5 : ¬ ((h 83 0) = t)) => ?_)
        · refine zH_go 2 (c' := (52, [some (.inr (.inr (some 2))), some (.inl 0), some (.inl t), some (.inl r), some (.inl i), some (.inr (.inr (some 83))), none], [.inl r, .inr (.inr (some 83))], (zs h hl))) rfl ?_
          refine zH_call (M' := 5) (as := [.inr (.inr (some 83)), .inl r]) (T := []) rfl (p_bWhy0 hr hR hZ) (fun r' σ' pm => ?_)
          obtain ⟨x, hx, rfl, rfl⟩ := pm
          have hxr : -12 ≤ x ∧ x ≤ 0 := by unfold zWhy at hx; omega
          show zH _ _ (55, [some (.inr (.inr (some 2))), some (.inl 0), some (.inl t), some (.inl r), some (.inl i), some (.inr (.inr (some 83))), none], [.inl x], (zs h hl)) _
          refine zH_go 2 (c' := (59, [some (.inr (.inr (some 2))), some (.inl 0), some (.inl t), some (.inl r), some (.inl i), some (.inr (.inr (some 83))), some (.inl x)], [.inl x], (zs h hl))) rfl ?_
          refine zH_br (x := x) (y := 0) (k := .eq) (c1 := (65, [some (.inr (.inr (some 2))), some (.inl 0), some (.inl t), some (.inl r), some (.inl i), some (.inr (.inr (some 83))), some (.inl x)], [], (zs h hl))) (c2 := (62, [some (.inr (.inr (some 2))), some (.inl 0), some (.inl t), some (.inl r), some (.inl i), some (.inr (.inr (some 83))), some (.inl x)], [], (zs h hl))) rfl (by first | assumption | (unfold zr; omega)) ⟨by decide, by decide⟩ (fun (b_6 : x = 0) => ?_) (fun (b_6 : ¬ (x = 0)) => ?_)
          · refine zH_go 1 (c' := (67, [some (.inr (.inr (some 2))), some (.inl 0), some (.inl t), some (.inl r), some (.inl i), some (.inr (.inr (some 83))), some (.inl x)], [.inl i], (zs h hl))) rfl ?_
            refine zH_br (x := i) (y := 0) (k := .lt) (c1 := (81, [some (.inr (.inr (some 2))), some (.inl 0), some (.inl t), some (.inl r), some (.inl i), some (.inr (.inr (some 83))), some (.inl x)], [], (zs h hl))) (c2 := (70, [some (.inr (.inr (some 2))), some (.inl 0), some (.inl t), some (.inl r), some (.inl i), some (.inr (.inr (some 83))), some (.inl x)], [], (zs h hl))) rfl (by first | assumption | (unfold zr; omega)) ⟨by decide, by decide⟩ (fun (b_7 : i < 0) => ?_) (fun (b_7 : ¬ (i < 0)) => ?_)
            · refine zH_go 2 (c' := (87, [some (.inr (.inr (some 2))), some (.inl 0), some (.inl t), some (.inl r), some (.inl i), some (.inr (.inr (some 83))), some (.inl x)], [.inl (-12)], (zs h hl))) rfl ?_
              refine zH_ret (v := some (.inl (-12))) rfl (fun q => absurd q (by decide)) ?_
              have hxx : zHasRow h 83 r ∧ 0 ≤ h 84 r.toNat ∧ 0 ≤ h 83 1 := by unfold zWhy at hx; unfold zHasRow at hx ⊢; omega
              exact ⟨_, Or.inr ⟨by omega, Or.inr ⟨hxx.2.2, Or.inr ⟨by omega, Or.inr ⟨hxx.1, Or.inr ⟨hxx.2.1, Or.inl ⟨by omega, rfl⟩⟩⟩⟩⟩⟩, rfl, rfl⟩
            · refine zH_go 3 (c' := (75, [some (.inr (.inr (some 2))), some (.inl 0), some (.inl t), some (.inl r), some (.inl i), some (.inr (.inr (some 83))), some (.inl x)], [.inl r, .inr (.inr (some 83)), .inl i], (zs h hl))) rfl ?_
              refine zH_call (M' := 4) (as := [.inr (.inr (some 83)), .inl r]) (T := [.inl i]) rfl (p_bSize0 hr hR hZ) (fun r' σ' pm => ?_)
              obtain ⟨y, hy, rfl, rfl⟩ := pm
              have hxx : zHasRow h 83 r ∧ 0 ≤ h 84 r.toNat := by unfold zWhy at hx; unfold zHasRow at hx ⊢; omega
              have hyy : y = h 84 r.toNat := by unfold zSzR at hy; rcases hy with ⟨-, e⟩ | ⟨e, -⟩ <;> first | exact e | exact absurd hxx.1 e
              have hyb := hZ r.toNat (by have := hxx.1; unfold zHasRow at this; omega)
              show zH _ _ (78, [some (.inr (.inr (some 2))), some (.inl 0), some (.inl t), some (.inl r), some (.inl i), some (.inr (.inr (some 83))), some (.inl x)], [.inl y, .inl i], (zs h hl)) _
              refine zH_br (x := i) (y := y) (k := .lt) (c1 := (86, [some (.inr (.inr (some 2))), some (.inl 0), some (.inl t), some (.inl r), some (.inl i), some (.inr (.inr (some 83))), some (.inl x)], [], (zs h hl))) (c2 := (81, [some (.inr (.inr (some 2))), some (.inl 0), some (.inl t), some (.inl r), some (.inl i), some (.inr (.inr (some 83))), some (.inl x)], [], (zs h hl))) rfl (by first | assumption | (unfold zr; omega)) (by first | assumption | (unfold zr; omega)) (fun (b_8 : i < y) => ?_) (fun (b_8 : ¬ (i < y)) => ?_)
              · refine zH_go 1 (c' := (87, [some (.inr (.inr (some 2))), some (.inl 0), some (.inl t), some (.inl r), some (.inl i), some (.inr (.inr (some 83))), some (.inl x)], [.inl 0], (zs h hl))) rfl ?_
                refine zH_ret (v := some (.inl 0)) rfl (fun q => absurd q (by decide)) ?_
                have hxx : zHasRow h 83 r ∧ 0 ≤ h 84 r.toNat ∧ 0 ≤ h 83 1 := by unfold zWhy at hx; unfold zHasRow at hx ⊢; omega
                exact ⟨_, Or.inr ⟨by omega, Or.inr ⟨hxx.2.2, Or.inr ⟨by omega, Or.inr ⟨hxx.1, Or.inr ⟨hxx.2.1, Or.inr ⟨by omega, rfl⟩⟩⟩⟩⟩⟩, rfl, rfl⟩
              · refine zH_go 2 (c' := (87, [some (.inr (.inr (some 2))), some (.inl 0), some (.inl t), some (.inl r), some (.inl i), some (.inr (.inr (some 83))), some (.inl x)], [.inl (-12)], (zs h hl))) rfl ?_
                refine zH_ret (v := some (.inl (-12))) rfl (fun q => absurd q (by decide)) ?_
                have hxx : zHasRow h 83 r ∧ 0 ≤ h 84 r.toNat ∧ 0 ≤ h 83 1 := by unfold zWhy at hx; unfold zHasRow at hx ⊢; omega
                exact ⟨_, Or.inr ⟨by omega, Or.inr ⟨hxx.2.2, Or.inr ⟨by omega, Or.inr ⟨hxx.1, Or.inr ⟨hxx.2.1, Or.inl ⟨by omega, rfl⟩⟩⟩⟩⟩⟩, rfl, rfl⟩
          · refine zH_go 1 (c' := (64, [some (.inr (.inr (some 2))), some (.inl 0), some (.inl t), some (.inl r), some (.inl i), some (.inr (.inr (some 83))), some (.inl x)], [.inl x], (zs h hl))) rfl ?_
            refine zH_ret (v := some (.inl x)) rfl (fun q => absurd q (by decide)) ?_
            rcases hx with ⟨q, -⟩ | ⟨q1, q2, rfl⟩ | ⟨q1, q2, q3, rfl⟩ | ⟨q1, q2, q3, rfl⟩
            · exfalso; omega
            · exact ⟨_, Or.inr ⟨by omega, Or.inr ⟨q1, Or.inr ⟨by omega, Or.inl ⟨q2, rfl⟩⟩⟩⟩, rfl, rfl⟩
            · exact ⟨_, Or.inr ⟨by omega, Or.inr ⟨q1, Or.inr ⟨by omega, Or.inr ⟨q2, Or.inl ⟨q3, rfl⟩⟩⟩⟩⟩, rfl, rfl⟩
            · exact absurd rfl (by assumption)
        · refine zH_go 1 (c' := (48, [some (.inr (.inr (some 2))), some (.inl 0), some (.inl t), some (.inl r), some (.inl i), some (.inr (.inr (some 83))), none], [.inl (-13)], (zs h hl))) rfl ?_
          refine zH_ret (v := some (.inl (-13))) rfl (fun q => absurd q (by decide)) ?_
          exact ⟨_, Or.inr ⟨by omega, Or.inr ⟨by omega, Or.inl ⟨by omega, rfl⟩⟩⟩, rfl, rfl⟩
      · show zH _ _ (31, [some (.inr (.inr (some 2))), some (.inl 0), some (.inl t), some (.inl r), some (.inl i), some (.inr (.inr (some 83))), none], [.inl 0], (zs h hl)) _
        refine zH_bf (x := 0) (y := 0) (k := .ne) (c1 := (37, [some (.inr (.inr (some 2))), some (.inl 0), some (.inl t), some (.inl r), some (.inl i), some (.inr (.inr (some 83))), none], [], (zs h hl))) (c2 := (34, [some (.inr (.inr (some 2))), some (.inl 0), some (.inl t), some (.inl r), some (.inl i), some (.inr (.inr (some 83))), none], [], (zs h hl))) rfl ⟨by decide, by decide⟩ ⟨by decide, by decide⟩ (by show ¬ (¬ 0 = 0); decide) ?_
        refine zH_go 1 (c' := (36, [some (.inr (.inr (some 2))), some (.inl 0), some (.inl t), some (.inl r), some (.inl i), some (.inr (.inr (some 83))), none], [.inl (-11)], (zs h hl))) rfl ?_
        refine zH_ret (v := some (.inl (-11))) rfl (fun q => absurd q (by decide)) ?_
        exact ⟨_, Or.inr ⟨by omega, Or.inl ⟨by omega, rfl⟩⟩, rfl, rfl⟩
    · refine zH_go 1 (c' := (17, [some (.inr (.inr (some 2))), some (.inl 0), some (.inl t), some (.inl r), some (.inl i), none, none], [.inl (-1)], (zs h hl))) rfl ?_
      refine zH_ret (v := some (.inl (-1))) rfl (fun q => absurd q (by decide)) ?_
      exact ⟨_, Or.inl ⟨by omega, rfl⟩, rfl, rfl⟩
set_option maxRecDepth 100000 in
set_option maxHeartbeats 4000000 in
theorem p_put0 {d : Nat} {h hl : Nat → Nat → Int} {t r i v : Int} (ht : zr t) (hr : zr r) (hi : zr i) (ht3 : 0 ≤ h 83 0 ∧ h 83 0 ≤ 3) (hR : -1 ≤ h 83 1 ∧ h 83 1 ≤ 4) (hZ : ∀ q : Nat, q < 4 → -1 ≤ h 84 q ∧ h 84 q ≤ 8) : zQ (d + 5) 88 [.inr (.inr (some 2)), .inl 0, .inl t, .inl r, .inl i, .inr (.inl v)] (zs h hl) (fun r' σ' => ∃ x : Int, zWN h 83 84 t r i x ∧ ((¬ x = 0 ∧ r' = some (.inl x) ∧ σ' = zs (zup h 2 8 x) hl) ∨ (x = 0 ∧ r' = some (.inl 1) ∧ σ' = zs (zup h 2 8 x) (zup hl (86 + Int.toNat r) (Int.toNat i) (zNar (h 83 0) v))))) := by
  refine zQ_of (Nat.le_of_ble_eq_true rfl) ?_
  show zH (d + 4) 88 (0, [some (.inr (.inr (some 2))), some (.inl 0), some (.inl t), some (.inl r), some (.inl i), some (.inr (.inl v)), none, none], [], (zs h hl)) _
  refine zH_go 5 (c' := (6, [some (.inr (.inr (some 2))), some (.inl 0), some (.inl t), some (.inl r), some (.inl i), some (.inr (.inl v)), none, none], [.inl i, .inl r, .inl t, .inl 0, .inr (.inr (some 2))], (zs h hl))) rfl ?_
  refine zH_call (M' := 94) (as := [.inr (.inr (some 2)), .inl 0, .inl t, .inl r, .inl i]) (T := []) rfl (p_wn0 ht hr hi ⟨by omega, by omega⟩ hR hZ) (fun r' σ' pm => ?_)
  obtain ⟨x, hx, rfl, rfl⟩ := pm
  have hxr : -13 ≤ x ∧ x ≤ 0 := by unfold zWN at hx; omega
  show zH _ _ (9, [some (.inr (.inr (some 2))), some (.inl 0), some (.inl t), some (.inl r), some (.inl i), some (.inr (.inl v)), none, none], [.inl x], (zs h hl)) _
  refine zH_go 2 (c' := (13, [some (.inr (.inr (some 2))), some (.inl 0), some (.inl t), some (.inl r), some (.inl i), some (.inr (.inl v)), none, some (.inl x)], [.inl x], (zs h hl))) rfl ?_
  refine zH_br (x := x) (y := 0) (k := .ne) (c1 := (37, [some (.inr (.inr (some 2))), some (.inl 0), some (.inl t), some (.inl r), some (.inl i), some (.inr (.inl v)), none, some (.inl x)], [], (zs h hl))) (c2 := (16, [some (.inr (.inr (some 2))), some (.inl 0), some (.inl t), some (.inl r), some (.inl i), some (.inr (.inl v)), none, some (.inl x)], [], (zs h hl))) rfl (by first | assumption | (unfold zr; omega)) ⟨by decide, by decide⟩ (fun (b_1 : ¬ x = 0) => ?_) (fun (b_1 : ¬ (¬ x = 0)) => ?_)
  · refine zH_go 2 (c' := (40, [some (.inr (.inr (some 2))), some (.inl 0), some (.inl t), some (.inl r), some (.inl i), some (.inr (.inl v)), none, some (.inl x)], [.inl x, .inr (.inr (some 2))], (zs h hl))) rfl ?_
    refine zH_call (M' := 93) (as := [.inr (.inr (some 2)), .inl x]) (T := []) rfl (p_found (by first | assumption | (unfold zr; omega))) (fun r' σ' p_2 => ?_)
    obtain ⟨rfl, rfl⟩ := p_2
    show zH _ _ (43, [some (.inr (.inr (some 2))), some (.inl 0), some (.inl t), some (.inl r), some (.inl i), some (.inr (.inl v)), none, some (.inl x)], [.inl (if x = 0 then 1 else x)], (zs (zup h 2 8 x) hl)) _
    refine zH_ret (v := some (.inl (if x = 0 then 1 else x))) rfl (fun q => absurd q (by decide)) ?_
    refine ⟨x, hx, ?_⟩
    rw [if_neg (by omega)]
    exact Or.inl ⟨by omega, rfl, rfl⟩
  · refine zH_go 1 (c' := (17, [some (.inr (.inr (some 2))), some (.inl 0), some (.inl t), some (.inl r), some (.inl i), some (.inr (.inl v)), none, some (.inl x)], [.inl 0], (zs h hl))) rfl ?_
    refine zH_call (M' := 92) (as := [.inl 0]) (T := []) rfl (p_isBook ⟨by decide, by decide⟩) (fun r' σ' pm => ?_)
    obtain ⟨rfl, rfl⟩ : r' = some (.inl 1) ∧ σ' = _ := by rcases pm with ⟨a, -, b⟩ | ⟨-, b, -⟩ <;> first | exact ⟨a, b⟩ | (exfalso; omega)
    show zH _ _ (20, [some (.inr (.inr (some 2))), some (.inl 0), some (.inl t), some (.inl r), some (.inl i), some (.inr (.inl v)), none, some (.inl x)], [.inl 1], (zs h hl)) _
    refine zH_bf (x := 1) (y := 0) (k := .eq) (c1 := (37, [some (.inr (.inr (some 2))), some (.inl 0), some (.inl t), some (.inl r), some (.inl i), some (.inr (.inl v)), none, some (.inl x)], [], (zs h hl))) (c2 := (23, [some (.inr (.inr (some 2))), some (.inl 0), some (.inl t), some (.inl r), some (.inl i), some (.inr (.inl v)), none, some (.inl x)], [], (zs h hl))) rfl ⟨by decide, by decide⟩ ⟨by decide, by decide⟩ (by show ¬ (1 = 0); decide) ?_
    refine zH_go 3 (c' := (28, [some (.inr (.inr (some 2))), some (.inl 0), some (.inl t), some (.inl r), some (.inl i), some (.inr (.inl v)), none, some (.inl x)], [.inl 0, .inr (.inr (some 82))], (zs h hl))) rfl ?_
    refine zH_np (P := 0 ≤ 0 ∧ 0 < ((3 : Nat) : Int)) (c' := (29, [some (.inr (.inr (some 2))), some (.inl 0), some (.inl t), some (.inl r), some (.inl i), some (.inr (.inl v)), none, some (.inl x)], [.inr (.inr (some 83))], (zs h hl))) rfl ⟨by decide, by decide⟩ ?_
    refine zH_go 3 (c' := (34, [some (.inr (.inr (some 2))), some (.inl 0), some (.inl t), some (.inl r), some (.inl i), some (.inr (.inl v)), none, some (.inl x)], [.inr (.inl v), .inl i, .inl r, .inr (.inr (some 83))], (zs h hl))) rfl ?_
    have hnum : zHasNum h 83 84 r i := by unfold zWN at hx; unfold zHasNum; have hb8 := hZ r.toNat; unfold zHasRow at hx ⊢; omega
    refine zH_call (M' := 8) (as := [.inr (.inr (some 83)), .inl r, .inl i, .inr (.inl v)]) (T := []) rfl (p_bWrite0 hr hi ht3 hR hZ) (fun r' σ' pm => ?_)
    obtain ⟨rfl, gl, rfl, hgl⟩ := pm
    obtain rfl : gl = zup hl (86 + Int.toNat r) (Int.toNat i) (zNar (h 83 0) v) := by rcases hgl with ⟨-, e⟩ | ⟨e, -⟩ <;> first | exact e | exact absurd hnum e
    show zH _ _ (37, [some (.inr (.inr (some 2))), some (.inl 0), some (.inl t), some (.inl r), some (.inl i), some (.inr (.inl v)), none, some (.inl x)], [], (zs h (zup hl (86 + Int.toNat r) (Int.toNat i) (zNar (h 83 0) v)))) _
    refine zH_go 2 (c' := (40, [some (.inr (.inr (some 2))), some (.inl 0), some (.inl t), some (.inl r), some (.inl i), some (.inr (.inl v)), none, some (.inl x)], [.inl x, .inr (.inr (some 2))], (zs h (zup hl (86 + Int.toNat r) (Int.toNat i) (zNar (h 83 0) v))))) rfl ?_
    refine zH_call (M' := 93) (as := [.inr (.inr (some 2)), .inl x]) (T := []) rfl (p_found (by first | assumption | (unfold zr; omega))) (fun r' σ' p_3 => ?_)
    obtain ⟨rfl, rfl⟩ := p_3
    show zH _ _ (43, [some (.inr (.inr (some 2))), some (.inl 0), some (.inl t), some (.inl r), some (.inl i), some (.inr (.inl v)), none, some (.inl x)], [.inl (if x = 0 then 1 else x)], (zs (zup h 2 8 x) (zup hl (86 + Int.toNat r) (Int.toNat i) (zNar (h 83 0) v)))) _
    refine zH_ret (v := some (.inl (if x = 0 then 1 else x))) rfl (fun q => absurd q (by decide)) ?_
    refine ⟨x, hx, ?_⟩
    rw [if_pos (by omega)]
    exact Or.inr ⟨by omega, rfl, rfl⟩
set_option maxRecDepth 100000 in
set_option maxHeartbeats 4000000 in
theorem p_item0 {d : Nat} {h hl : Nat → Nat → Int} {t r i : Int} (ht : zr t) (hr : zr r) (hi : zr i) (ht3 : 0 ≤ h 83 0 ∧ h 83 0 ≤ 3) (hR : -1 ≤ h 83 1 ∧ h 83 1 ≤ 4) (hZ : ∀ q : Nat, q < 4 → -1 ≤ h 84 q ∧ h 84 q ≤ 8) : zQ (d + 5) 89 [.inr (.inr (some 2)), .inl 0, .inl t, .inl r, .inl i] (zs h hl) (fun r' σ' => ∃ x : Int, zWN h 83 84 t r i x ∧ ((¬ x = 0 ∧ r' = some (.inr (.inl 0)) ∧ σ' = zs (zup h 2 8 x) hl) ∨ (x = 0 ∧ r' = some (.inr (.inl (hl (86 + Int.toNat r) (Int.toNat i)))) ∧ σ' = zs (zup h 2 8 x) hl))) := by
  refine zQ_of (Nat.le_of_ble_eq_true rfl) ?_
  show zH (d + 4) 89 (0, [some (.inr (.inr (some 2))), some (.inl 0), some (.inl t), some (.inl r), some (.inl i), none], [], (zs h hl)) _
  refine zH_go 5 (c' := (6, [some (.inr (.inr (some 2))), some (.inl 0), some (.inl t), some (.inl r), some (.inl i), none], [.inl i, .inl r, .inl t, .inl 0, .inr (.inr (some 2))], (zs h hl))) rfl ?_
  refine zH_call (M' := 94) (as := [.inr (.inr (some 2)), .inl 0, .inl t, .inl r, .inl i]) (T := []) rfl (p_wn0 ht hr hi ⟨by omega, by omega⟩ hR hZ) (fun r' σ' pm => ?_)
  obtain ⟨x, hx, rfl, rfl⟩ := pm
  have hxr : -13 ≤ x ∧ x ≤ 0 := by unfold zWN at hx; omega
  show zH _ _ (9, [some (.inr (.inr (some 2))), some (.inl 0), some (.inl t), some (.inl r), some (.inl i), none], [.inl x], (zs h hl)) _
  refine zH_go 3 (c' := (14, [some (.inr (.inr (some 2))), some (.inl 0), some (.inl t), some (.inl r), some (.inl i), some (.inl x)], [.inl x, .inr (.inr (some 2))], (zs h hl))) rfl ?_
  refine zH_call (M' := 93) (as := [.inr (.inr (some 2)), .inl x]) (T := []) rfl (p_found (by first | assumption | (unfold zr; omega))) (fun r' σ' p_1 => ?_)
  obtain ⟨rfl, rfl⟩ := p_1
  show zH _ _ (17, [some (.inr (.inr (some 2))), some (.inl 0), some (.inl t), some (.inl r), some (.inl i), some (.inl x)], [.inl (if x = 0 then 1 else x)], (zs (zup h 2 8 x) hl)) _
  refine zH_go 2 (c' := (20, [some (.inr (.inr (some 2))), some (.inl 0), some (.inl t), some (.inl r), some (.inl i), some (.inl x)], [.inl x], (zs (zup h 2 8 x) hl))) rfl ?_
  refine zH_br (x := x) (y := 0) (k := .ne) (c1 := (45, [some (.inr (.inr (some 2))), some (.inl 0), some (.inl t), some (.inl r), some (.inl i), some (.inl x)], [], (zs (zup h 2 8 x) hl))) (c2 := (23, [some (.inr (.inr (some 2))), some (.inl 0), some (.inl t), some (.inl r), some (.inl i), some (.inl x)], [], (zs (zup h 2 8 x) hl))) rfl (by first | assumption | (unfold zr; omega)) ⟨by decide, by decide⟩ (fun (b_2 : ¬ x = 0) => ?_) (fun (b_2 : ¬ (¬ x = 0)) => ?_)
  · refine zH_go 1 (c' := (46, [some (.inr (.inr (some 2))), some (.inl 0), some (.inl t), some (.inl r), some (.inl i), some (.inl x)], [.inr (.inl 0)], (zs (zup h 2 8 x) hl))) rfl ?_
    refine zH_ret (v := some (.inr (.inl 0))) rfl (fun q => absurd q (by decide)) ?_
    exact ⟨x, hx, Or.inl ⟨by omega, rfl, rfl⟩⟩
  · refine zH_go 1 (c' := (24, [some (.inr (.inr (some 2))), some (.inl 0), some (.inl t), some (.inl r), some (.inl i), some (.inl x)], [.inl 0], (zs (zup h 2 8 x) hl))) rfl ?_
    refine zH_call (M' := 92) (as := [.inl 0]) (T := []) rfl (p_isBook ⟨by decide, by decide⟩) (fun r' σ' pm => ?_)
    obtain ⟨rfl, rfl⟩ : r' = some (.inl 1) ∧ σ' = _ := by rcases pm with ⟨a, -, b⟩ | ⟨-, b, -⟩ <;> first | exact ⟨a, b⟩ | (exfalso; omega)
    show zH _ _ (27, [some (.inr (.inr (some 2))), some (.inl 0), some (.inl t), some (.inl r), some (.inl i), some (.inl x)], [.inl 1], (zs (zup h 2 8 x) hl)) _
    refine zH_bf (x := 1) (y := 0) (k := .eq) (c1 := (45, [some (.inr (.inr (some 2))), some (.inl 0), some (.inl t), some (.inl r), some (.inl i), some (.inl x)], [], (zs (zup h 2 8 x) hl))) (c2 := (30, [some (.inr (.inr (some 2))), some (.inl 0), some (.inl t), some (.inl r), some (.inl i), some (.inl x)], [], (zs (zup h 2 8 x) hl))) rfl ⟨by decide, by decide⟩ ⟨by decide, by decide⟩ (by show ¬ (1 = 0); decide) ?_
    refine zH_go 3 (c' := (35, [some (.inr (.inr (some 2))), some (.inl 0), some (.inl t), some (.inl r), some (.inl i), some (.inl x)], [.inl 0, .inr (.inr (some 82))], (zs (zup h 2 8 x) hl))) rfl ?_
    refine zH_np (P := 0 ≤ 0 ∧ 0 < ((3 : Nat) : Int)) (c' := (36, [some (.inr (.inr (some 2))), some (.inl 0), some (.inl t), some (.inl r), some (.inl i), some (.inl x)], [.inr (.inr (some 83))], (zs (zup h 2 8 x) hl))) rfl ⟨by decide, by decide⟩ ?_
    refine zH_go 2 (c' := (39, [some (.inr (.inr (some 2))), some (.inl 0), some (.inl t), some (.inl r), some (.inl i), some (.inl x)], [.inl i, .inl r, .inr (.inr (some 83))], (zs (zup h 2 8 x) hl))) rfl ?_
    have hnum : zHasNum (zup h 2 8 x) 83 84 r i := by show zHasNum h 83 84 r i; unfold zWN at hx; unfold zHasNum; have hb8 := hZ r.toNat; unfold zHasRow at hx ⊢; omega
    refine zH_call (M' := 9) (as := [.inr (.inr (some 83)), .inl r, .inl i]) (T := []) rfl (p_bRead0 hr hi hR hZ) (fun r' σ' pm => ?_)
    obtain ⟨y, hy, rfl, rfl⟩ := pm
    obtain rfl : y = hl (86 + Int.toNat r) (Int.toNat i) := by rcases hy with ⟨-, e⟩ | ⟨e, -⟩ <;> first | exact e | exact absurd hnum e
    show zH _ _ (42, [some (.inr (.inr (some 2))), some (.inl 0), some (.inl t), some (.inl r), some (.inl i), some (.inl x)], [.inr (.inl (hl (86 + Int.toNat r) (Int.toNat i)))], (zs (zup h 2 8 x) hl)) _
    refine zH_go 1 (c' := (46, [some (.inr (.inr (some 2))), some (.inl 0), some (.inl t), some (.inl r), some (.inl i), some (.inl x)], [.inr (.inl (hl (86 + Int.toNat r) (Int.toNat i)))], (zs (zup h 2 8 x) hl))) rfl ?_
    refine zH_ret (v := some (.inr (.inl (hl (86 + Int.toNat r) (Int.toNat i))))) rfl (fun q => absurd q (by decide)) ?_
    exact ⟨x, hx, Or.inr ⟨by omega, rfl, rfl⟩⟩
set_option maxRecDepth 100000 in
set_option maxHeartbeats 4000000 in
theorem p_book1 {d : Nat} {h hl : Nat → Nat → Int} {t n : Int} (ht : zr t) (hn : zr n) : zQ (d + 2) 86 [.inr (.inr (some 2)), .inl 1, .inl t, .inl n] (zs h hl) (fun r' σ' => (¬ ((0 ≤ t ∧ t ≤ 3) ∧ n ≤ 4) ∧ r' = some (.inl (-1)) ∧ σ' = zs (zup h 2 8 (-1)) hl) ∨ (((0 ≤ t ∧ t ≤ 3) ∧ n ≤ 4) ∧ n < 0 ∧ r' = some (.inl (-15)) ∧ σ' = zs (zup h 2 8 (-15)) hl) ∨ (((0 ≤ t ∧ t ≤ 3) ∧ n ≤ 4) ∧ 0 ≤ n ∧ r' = some (.inl 1) ∧ ∃ g : Nat → Nat → Int, σ' = zs (zup g 2 8 0) hl ∧ (∀ c : Nat, c ≠ 90 → c ≠ 91 → g c = h c) ∧ g 90 0 = t ∧ g 90 1 = n ∧ ∀ q : Nat, q < 4 → g 91 q = -1)) := by
  refine zQ_of (Nat.le_of_ble_eq_true rfl) ?_
  show zH (d + 1) 86 (0, [some (.inr (.inr (some 2))), some (.inl 1), some (.inl t), some (.inl n)], [], (zs h hl)) _
  refine zH_go 1 (c' := (1, [some (.inr (.inr (some 2))), some (.inl 1), some (.inl t), some (.inl n)], [.inl 1], (zs h hl))) rfl ?_
  refine zH_call (M' := 92) (as := [.inl 1]) (T := []) rfl (p_isBook ⟨by decide, by decide⟩) (fun r' σ' pm => ?_)
  obtain ⟨rfl, rfl⟩ : r' = some (.inl 1) ∧ σ' = _ := by rcases pm with ⟨a, -, b⟩ | ⟨-, b, -⟩ <;> first | exact ⟨a, b⟩ | (exfalso; omega)
  show zH _ _ (4, [some (.inr (.inr (some 2))), some (.inl 1), some (.inl t), some (.inl n)], [.inl 1], (zs h hl)) _
  refine zH_bf (x := 1) (y := 0) (k := .eq) (c1 := (21, [some (.inr (.inr (some 2))), some (.inl 1), some (.inl t), some (.inl n)], [], (zs h hl))) (c2 := (7, [some (.inr (.inr (some 2))), some (.inl 1), some (.inl t), some (.inl n)], [], (zs h hl))) rfl ⟨by decide, by decide⟩ ⟨by decide, by decide⟩ (by show ¬ (1 = 0); decide) ?_
  refine zH_go 1 (c' := (8, [some (.inr (.inr (some 2))), some (.inl 1), some (.inl t), some (.inl n)], [.inl t], (zs h hl))) rfl ?_
  refine zH_br (x := t) (y := 0) (k := .lt) (c1 := (21, [some (.inr (.inr (some 2))), some (.inl 1), some (.inl t), some (.inl n)], [], (zs h hl))) (c2 := (11, [some (.inr (.inr (some 2))), some (.inl 1), some (.inl t), some (.inl n)], [], (zs h hl))) rfl (by first | assumption | (unfold zr; omega)) ⟨by decide, by decide⟩ (fun (b_1 : t < 0) => ?_) (fun (b_1 : ¬ (t < 0)) => ?_)
  · refine zH_go 2 (c' := (23, [some (.inr (.inr (some 2))), some (.inl 1), some (.inl t), some (.inl n)], [.inl (-1), .inr (.inr (some 2))], (zs h hl))) rfl ?_
    refine zH_call (M' := 93) (as := [.inr (.inr (some 2)), .inl (-1)]) (T := []) rfl (p_found ⟨by decide, by decide⟩) (fun r' σ' p_2 => ?_)
    obtain ⟨rfl, rfl⟩ := p_2
    show zH _ _ (26, [some (.inr (.inr (some 2))), some (.inl 1), some (.inl t), some (.inl n)], [.inl (-1)], (zs (zup h 2 8 (-1)) hl)) _
    refine zH_ret (v := some (.inl (-1))) rfl (fun q => absurd q (by decide)) ?_
    exact Or.inl ⟨by omega, rfl, rfl⟩
  · refine zH_go 2 (c' := (13, [some (.inr (.inr (some 2))), some (.inl 1), some (.inl t), some (.inl n)], [.inl 3, .inl t], (zs h hl))) rfl ?_
    refine zH_br (x := t) (y := 3) (k := .gt) (c1 := (21, [some (.inr (.inr (some 2))), some (.inl 1), some (.inl t), some (.inl n)], [], (zs h hl))) (c2 := (16, [some (.inr (.inr (some 2))), some (.inl 1), some (.inl t), some (.inl n)], [], (zs h hl))) rfl (by first | assumption | (unfold zr; omega)) ⟨by decide, by decide⟩ (fun (b_3 : 3 < t) => ?_) (fun (b_3 : ¬ (3 < t)) => ?_)
    · refine zH_go 2 (c' := (23, [some (.inr (.inr (some 2))), some (.inl 1), some (.inl t), some (.inl n)], [.inl (-1), .inr (.inr (some 2))], (zs h hl))) rfl ?_
      refine zH_call (M' := 93) (as := [.inr (.inr (some 2)), .inl (-1)]) (T := []) rfl (p_found ⟨by decide, by decide⟩) (fun r' σ' p_4 => ?_)
      obtain ⟨rfl, rfl⟩ := p_4
      show zH _ _ (26, [some (.inr (.inr (some 2))), some (.inl 1), some (.inl t), some (.inl n)], [.inl (-1)], (zs (zup h 2 8 (-1)) hl)) _
      refine zH_ret (v := some (.inl (-1))) rfl (fun q => absurd q (by decide)) ?_
      exact Or.inl ⟨by omega, rfl, rfl⟩
    · refine zH_go 2 (c' := (18, [some (.inr (.inr (some 2))), some (.inl 1), some (.inl t), some (.inl n)], [.inl 4, .inl n], (zs h hl))) rfl ?_
      refine zH_br (x := n) (y := 4) (k := .le) (c1 := (27, [some (.inr (.inr (some 2))), some (.inl 1), some (.inl t), some (.inl n)], [], (zs h hl))) (c2 := (21, [some (.inr (.inr (some 2))), some (.inl 1), some (.inl t), some (.inl n)], [], (zs h hl))) rfl (by first | assumption | (unfold zr; omega)) ⟨by decide, by decide⟩ (fun (b_5 : ¬ 4 < n) => ?_) (fun (b_5 : ¬ (¬ 4 < n)) => ?_)
      · refine zH_go 1 (c' := (28, [some (.inr (.inr (some 2))), some (.inl 1), some (.inl t), some (.inl n)], [.inl n], (zs h hl))) rfl ?_
        refine zH_br (x := n) (y := 0) (k := .ge) (c1 := (38, [some (.inr (.inr (some 2))), some (.inl 1), some (.inl t), some (.inl n)], [], (zs h hl))) (c2 := (31, [some (.inr (.inr (some 2))), some (.inl 1), some (.inl t), some (.inl n)], [], (zs h hl))) rfl (by first | assumption | (unfold zr; omega)) ⟨by decide, by decide⟩ (fun (b_6 : ¬ n < 0) => ?_) (fun (b_6 : ¬ (¬ n < 0)) => ?_)
        · refine zH_go 3 (c' := (43, [some (.inr (.inr (some 2))), some (.inl 1), some (.inl t), some (.inl n)], [.inl 1, .inr (.inr (some 82))], (zs h hl))) rfl ?_
          refine zH_np (P := 0 ≤ 1 ∧ 1 < ((3 : Nat) : Int)) (c' := (44, [some (.inr (.inr (some 2))), some (.inl 1), some (.inl t), some (.inl n)], [.inr (.inr (some 90))], (zs h hl))) rfl ⟨by decide, by decide⟩ ?_
          refine zH_go 2 (c' := (46, [some (.inr (.inr (some 2))), some (.inl 1), some (.inl t), some (.inl n)], [.inl n, .inl t, .inr (.inr (some 90))], (zs h hl))) rfl ?_
          refine zH_call (M' := 6) (as := [.inr (.inr (some 90)), .inl t, .inl n]) (T := []) rfl p_bOpen1 (fun r' σ' pm => ?_)
          obtain ⟨rfl, g, rfl, g1, g2, g3, g4⟩ := pm
          show zH _ _ (49, [some (.inr (.inr (some 2))), some (.inl 1), some (.inl t), some (.inl n)], [], (zs g hl)) _
          refine zH_go 2 (c' := (51, [some (.inr (.inr (some 2))), some (.inl 1), some (.inl t), some (.inl n)], [.inl 0, .inr (.inr (some 2))], (zs g hl))) rfl ?_
          refine zH_call (M' := 93) (as := [.inr (.inr (some 2)), .inl 0]) (T := []) rfl (p_found ⟨by decide, by decide⟩) (fun r' σ' p_7 => ?_)
          obtain ⟨rfl, rfl⟩ := p_7
          show zH _ _ (54, [some (.inr (.inr (some 2))), some (.inl 1), some (.inl t), some (.inl n)], [.inl 1], (zs (zup g 2 8 0) hl)) _
          refine zH_ret (v := some (.inl 1)) rfl (fun q => absurd q (by decide)) ?_
          exact Or.inr (Or.inr ⟨by omega, by omega, rfl, g, rfl, g1, g2, g3, g4⟩)
        · refine zH_go 2 (c' := (34, [some (.inr (.inr (some 2))), some (.inl 1), some (.inl t), some (.inl n)], [.inl (-15), .inr (.inr (some 2))], (zs h hl))) rfl ?_
          refine zH_call (M' := 93) (as := [.inr (.inr (some 2)), .inl (-15)]) (T := []) rfl (p_found ⟨by decide, by decide⟩) (fun r' σ' p_8 => ?_)
          obtain ⟨rfl, rfl⟩ := p_8
          show zH _ _ (37, [some (.inr (.inr (some 2))), some (.inl 1), some (.inl t), some (.inl n)], [.inl (-15)], (zs (zup h 2 8 (-15)) hl)) _
          refine zH_ret (v := some (.inl (-15))) rfl (fun q => absurd q (by decide)) ?_
          exact Or.inr (Or.inl ⟨by omega, by omega, rfl, rfl⟩)
      · refine zH_go 2 (c' := (23, [some (.inr (.inr (some 2))), some (.inl 1), some (.inl t), some (.inl n)], [.inl (-1), .inr (.inr (some 2))], (zs h hl))) rfl ?_
        refine zH_call (M' := 93) (as := [.inr (.inr (some 2)), .inl (-1)]) (T := []) rfl (p_found ⟨by decide, by decide⟩) (fun r' σ' p_9 => ?_)
        obtain ⟨rfl, rfl⟩ := p_9
        show zH _ _ (26, [some (.inr (.inr (some 2))), some (.inl 1), some (.inl t), some (.inl n)], [.inl (-1)], (zs (zup h 2 8 (-1)) hl)) _
        refine zH_ret (v := some (.inl (-1))) rfl (fun q => absurd q (by decide)) ?_
        exact Or.inl ⟨by omega, rfl, rfl⟩
set_option maxRecDepth 100000 in
set_option maxHeartbeats 4000000 in
theorem p_row1 {d : Nat} {h hl : Nat → Nat → Int} {r n : Int} (hr : zr r) (hn : zr n) (hR : -1 ≤ h 90 1 ∧ h 90 1 ≤ 4) : zQ (d + 3) 87 [.inr (.inr (some 2)), .inl 1, .inl r, .inl n] (zs h hl) (fun r' σ' => (8 < n ∧ r' = some (.inl (-1)) ∧ σ' = zs (zup h 2 8 (-1)) hl) ∨ (n ≤ 8 ∧ h 90 1 < 0 ∧ r' = some (.inl (-11)) ∧ σ' = zs (zup h 2 8 (-11)) hl) ∨ (n ≤ 8 ∧ 0 ≤ h 90 1 ∧ ¬ zHasRow h 90 r ∧ r' = some (.inl (-12)) ∧ σ' = zs (zup h 2 8 (-12)) hl) ∨ (0 ≤ h 90 1 ∧ zHasRow h 90 r ∧ n < 0 ∧ r' = some (.inl (-15)) ∧ σ' = zs (zup h 2 8 (-15)) hl) ∨ (0 ≤ h 90 1 ∧ zHasRow h 90 r ∧ 0 ≤ n ∧ n ≤ 8 ∧ r' = some (.inl 1) ∧ ∃ g gl : Nat → Nat → Int, σ' = zs (zup g 2 8 0) gl ∧ g = zup h 91 (Int.toNat r) n ∧ (∀ c : Nat, c ≠ 93 + Int.toNat r → gl c = hl c) ∧ ∀ j : Nat, j < 8 → gl (93 + Int.toNat r) j = 0)) := by
  refine zQ_of (Nat.le_of_ble_eq_true rfl) ?_
  show zH (d + 2) 87 (0, [some (.inr (.inr (some 2))), some (.inl 1), some (.inl r), some (.inl n), none], [], (zs h hl)) _
  refine zH_go 1 (c' := (1, [some (.inr (.inr (some 2))), some (.inl 1), some (.inl r), some (.inl n), none], [.inl 1], (zs h hl))) rfl ?_
  refine zH_call (M' := 92) (as := [.inl 1]) (T := []) rfl (p_isBook ⟨by decide, by decide⟩) (fun r' σ' pm => ?_)
  obtain ⟨rfl, rfl⟩ : r' = some (.inl 1) ∧ σ' = _ := by rcases pm with ⟨a, -, b⟩ | ⟨-, b, -⟩ <;> first | exact ⟨a, b⟩ | (exfalso; omega)
  show zH _ _ (4, [some (.inr (.inr (some 2))), some (.inl 1), some (.inl r), some (.inl n), none], [.inl 1], (zs h hl)) _
  refine zH_bf (x := 1) (y := 0) (k := .eq) (c1 := (13, [some (.inr (.inr (some 2))), some (.inl 1), some (.inl r), some (.inl n), none], [], (zs h hl))) (c2 := (7, [some (.inr (.inr (some 2))), some (.inl 1), some (.inl r), some (.inl n), none], [], (zs h hl))) rfl ⟨by decide, by decide⟩ ⟨by decide, by decide⟩ (by show ¬ (1 = 0); decide) ?_
  refine zH_go 2 (c' := (10, [some (.inr (.inr (some 2))), some (.inl 1), some (.inl r), some (.inl n), none], [.inl 8, .inl n], (zs h hl))) rfl ?_
  refine zH_br (x := n) (y := 8) (k := .le) (c1 := (19, [some (.inr (.inr (some 2))), some (.inl 1), some (.inl r), some (.inl n), none], [], (zs h hl))) (c2 := (13, [some (.inr (.inr (some 2))), some (.inl 1), some (.inl r), some (.inl n), none], [], (zs h hl))) rfl (by first | assumption | (unfold zr; omega)) ⟨by decide, by decide⟩ (fun (b_1 : ¬ 8 < n) => ?_) (fun (b_1 : ¬ (¬ 8 < n)) => ?_)
  · refine zH_go 3 (c' := (24, [some (.inr (.inr (some 2))), some (.inl 1), some (.inl r), some (.inl n), none], [.inl 1, .inr (.inr (some 82))], (zs h hl))) rfl ?_
    refine zH_np (P := 0 ≤ 1 ∧ 1 < ((3 : Nat) : Int)) (c' := (25, [some (.inr (.inr (some 2))), some (.inl 1), some (.inl r), some (.inl n), none], [.inr (.inr (some 90))], (zs h hl))) rfl ⟨by decide, by decide⟩ ?_
    refine zH_go 2 (c' := (29, [some (.inr (.inr (some 2))), some (.inl 1), some (.inl r), some (.inl n), some (.inr (.inr (some 90)))], [.inr (.inr (some 90))], (zs h hl))) rfl ?_
    refine zH_call (M' := 1) (as := [.inr (.inr (some 90))]) (T := []) rfl (p_bThere1 hR) (fun r σ' p_2 => ?_)
    rcases p_2 with ⟨rfl, b_3, rfl⟩ | ⟨rfl, b_3, rfl⟩
    · show zH _ _ (32, [some (.inr (.inr (some 2))), some (.inl 1), some (.inl r), some (.inl n), some (.inr (.inr (some 90)))], [.inl 1], (zs h hl)) _
      refine zH_bt (x := 1) (y := 0) (k := .ne) (c1 := (42, [some (.inr (.inr (some 2))), some (.inl 1), some (.inl r), some (.inl n), some (.inr (.inr (some 90)))], [], (zs h hl))) (c2 := (35, [some (.inr (.inr (some 2))), some (.inl 1), some (.inl r), some (.inl n), some (.inr (.inr (some 90)))], [], (zs h hl))) rfl ⟨by decide, by decide⟩ ⟨by decide, by decide⟩ (by show ¬ 1 = 0; decide) ?_
      refine zH_go 2 (c' := (45, [some (.inr (.inr (some 2))), some (.inl 1), some (.inl r), some (.inl n), some (.inr (.inr (some 90)))], [.inl r, .inr (.inr (some 90))], (zs h hl))) rfl ?_
      refine zH_call (M' := 2) (as := [.inr (.inr (some 90)), .inl r]) (T := []) rfl (p_bRow1 hr hR) (fun r σ' p_4 => ?_)
      rcases p_4 with ⟨rfl, b_5, rfl⟩ | ⟨rfl, b_5, rfl⟩
      · show zH _ _ (48, [some (.inr (.inr (some 2))), some (.inl 1), some (.inl r), some (.inl n), some (.inr (.inr (some 90)))], [.inl 1], (zs h hl)) _
        refine zH_bt (x := 1) (y := 0) (k := .ne) (c1 := (58, [some (.inr (.inr (some 2))), some (.inl 1), some (.inl r), some (.inl n), some (.inr (.inr (some 90)))], [], (zs h hl))) (c2 := (51, [some (.inr (.inr (some 2))), some (.inl 1), some (.inl r), some (.inl n), some (.inr (.inr (some 90)))], [], (zs h hl))) rfl ⟨by decide, by decide⟩ ⟨by decide, by decide⟩ (by show ¬ 1 = 0; decide) ?_
        refine zH_go 1 (c' := (59, [some (.inr (.inr (some 2))), some (.inl 1), some (.inl r), some (.inl n), some (.inr (.inr (some 90)))], [.inl n], (zs h hl))) rfl ?_
        refine zH_br (x := n) (y := 0) (k := .ge) (c1 := (69, [some (.inr (.inr (some 2))), some (.inl 1), some (.inl r), some (.inl n), some (.inr (.inr (some 90)))], [], (zs h hl))) (c2 := (62, [some (.inr (.inr (some 2))), some (.inl 1), some (.inl r), some (.inl n), some (.inr (.inr (some 90)))], [], (zs h hl))) rfl (by first | assumption | (unfold zr; omega)) ⟨by decide, by decide⟩ (fun (b_6 : ¬ n < 0) => ?_) (fun (b_6 : ¬ (¬ n < 0)) => ?_)
        · refine zH_go 3 (c' := (73, [some (.inr (.inr (some 2))), some (.inl 1), some (.inl r), some (.inl n), some (.inr (.inr (some 90)))], [.inl n, .inl r, .inr (.inr (some 90))], (zs h hl))) rfl ?_
          refine zH_call (M' := 7) (as := [.inr (.inr (some 90)), .inl r, .inl n]) (T := []) rfl (p_bRenew1 hr hR (by assumption)) (fun r' σ' pm => ?_)
          obtain ⟨rfl, g, gl, rfl, g1, g2, g3⟩ := pm
          show zH _ _ (76, [some (.inr (.inr (some 2))), some (.inl 1), some (.inl r), some (.inl n), some (.inr (.inr (some 90)))], [], (zs g gl)) _
          refine zH_go 2 (c' := (78, [some (.inr (.inr (some 2))), some (.inl 1), some (.inl r), some (.inl n), some (.inr (.inr (some 90)))], [.inl 0, .inr (.inr (some 2))], (zs g gl))) rfl ?_
          refine zH_call (M' := 93) (as := [.inr (.inr (some 2)), .inl 0]) (T := []) rfl (p_found ⟨by decide, by decide⟩) (fun r' σ' p_7 => ?_)
          obtain ⟨rfl, rfl⟩ := p_7
          show zH _ _ (81, [some (.inr (.inr (some 2))), some (.inl 1), some (.inl r), some (.inl n), some (.inr (.inr (some 90)))], [.inl 1], (zs (zup g 2 8 0) gl)) _
          refine zH_ret (v := some (.inl 1)) rfl (fun q => absurd q (by decide)) ?_
          exact Or.inr (Or.inr (Or.inr (Or.inr ⟨by assumption, by assumption, by omega, by omega, rfl, g, gl, rfl, g1, g2, g3⟩)))
        · refine zH_go 2 (c' := (65, [some (.inr (.inr (some 2))), some (.inl 1), some (.inl r), some (.inl n), some (.inr (.inr (some 90)))], [.inl (-15), .inr (.inr (some 2))], (zs h hl))) rfl ?_
          refine zH_call (M' := 93) (as := [.inr (.inr (some 2)), .inl (-15)]) (T := []) rfl (p_found ⟨by decide, by decide⟩) (fun r' σ' p_8 => ?_)
          obtain ⟨rfl, rfl⟩ := p_8
          show zH _ _ (68, [some (.inr (.inr (some 2))), some (.inl 1), some (.inl r), some (.inl n), some (.inr (.inr (some 90)))], [.inl (-15)], (zs (zup h 2 8 (-15)) hl)) _
          refine zH_ret (v := some (.inl (-15))) rfl (fun q => absurd q (by decide)) ?_
          exact Or.inr (Or.inr (Or.inr (Or.inl ⟨by assumption, by assumption, by omega, rfl, rfl⟩)))
      · show zH _ _ (48, [some (.inr (.inr (some 2))), some (.inl 1), some (.inl r), some (.inl n), some (.inr (.inr (some 90)))], [.inl 0], (zs h hl)) _
        refine zH_bf (x := 0) (y := 0) (k := .ne) (c1 := (58, [some (.inr (.inr (some 2))), some (.inl 1), some (.inl r), some (.inl n), some (.inr (.inr (some 90)))], [], (zs h hl))) (c2 := (51, [some (.inr (.inr (some 2))), some (.inl 1), some (.inl r), some (.inl n), some (.inr (.inr (some 90)))], [], (zs h hl))) rfl ⟨by decide, by decide⟩ ⟨by decide, by decide⟩ (by show ¬ (¬ 0 = 0); decide) ?_
        refine zH_go 2 (c' := (54, [some (.inr (.inr (some 2))), some (.inl 1), some (.inl r), some (.inl n), some (.inr (.inr (some 90)))], [.inl (-12), .inr (.inr (some 2))], (zs h hl))) rfl ?_
        refine zH_call (M' := 93) (as := [.inr (.inr (some 2)), .inl (-12)]) (T := []) rfl (p_found ⟨by decide, by decide⟩) (fun r' σ' p_9 => ?_)
        obtain ⟨rfl, rfl⟩ := p_9
        show zH _ _ (57, [some (.inr (.inr (some 2))), some (.inl 1), some (.inl r), some (.inl n), some (.inr (.inr (some 90)))], [.inl (-12)], (zs (zup h 2 8 (-12)) hl)) _
        refine zH_ret (v := some (.inl (-12))) rfl (fun q => absurd q (by decide)) ?_
        exact Or.inr (Or.inr (Or.inl ⟨by omega, by assumption, by assumption, rfl, rfl⟩))
    · show zH _ _ (32, [some (.inr (.inr (some 2))), some (.inl 1), some (.inl r), some (.inl n), some (.inr (.inr (some 90)))], [.inl 0], (zs h hl)) _
      refine zH_bf (x := 0) (y := 0) (k := .ne) (c1 := (42, [some (.inr (.inr (some 2))), some (.inl 1), some (.inl r), some (.inl n), some (.inr (.inr (some 90)))], [], (zs h hl))) (c2 := (35, [some (.inr (.inr (some 2))), some (.inl 1), some (.inl r), some (.inl n), some (.inr (.inr (some 90)))], [], (zs h hl))) rfl ⟨by decide, by decide⟩ ⟨by decide, by decide⟩ (by show ¬ (¬ 0 = 0); decide) ?_
      refine zH_go 2 (c' := (38, [some (.inr (.inr (some 2))), some (.inl 1), some (.inl r), some (.inl n), some (.inr (.inr (some 90)))], [.inl (-11), .inr (.inr (some 2))], (zs h hl))) rfl ?_
      refine zH_call (M' := 93) (as := [.inr (.inr (some 2)), .inl (-11)]) (T := []) rfl (p_found ⟨by decide, by decide⟩) (fun r' σ' p_10 => ?_)
      obtain ⟨rfl, rfl⟩ := p_10
      show zH _ _ (41, [some (.inr (.inr (some 2))), some (.inl 1), some (.inl r), some (.inl n), some (.inr (.inr (some 90)))], [.inl (-11)], (zs (zup h 2 8 (-11)) hl)) _
      refine zH_ret (v := some (.inl (-11))) rfl (fun q => absurd q (by decide)) ?_
      exact Or.inr (Or.inl ⟨by omega, by omega, rfl, rfl⟩)
  · refine zH_go 2 (c' := (15, [some (.inr (.inr (some 2))), some (.inl 1), some (.inl r), some (.inl n), none], [.inl (-1), .inr (.inr (some 2))], (zs h hl))) rfl ?_
    refine zH_call (M' := 93) (as := [.inr (.inr (some 2)), .inl (-1)]) (T := []) rfl (p_found ⟨by decide, by decide⟩) (fun r' σ' p_11 => ?_)
    obtain ⟨rfl, rfl⟩ := p_11
    show zH _ _ (18, [some (.inr (.inr (some 2))), some (.inl 1), some (.inl r), some (.inl n), none], [.inl (-1)], (zs (zup h 2 8 (-1)) hl)) _
    refine zH_ret (v := some (.inl (-1))) rfl (fun q => absurd q (by decide)) ?_
    exact Or.inl ⟨by omega, rfl, rfl⟩
set_option maxRecDepth 100000 in
set_option maxHeartbeats 4000000 in
theorem p_wn1 {d : Nat} {h hl : Nat → Nat → Int} {t r i : Int} (ht : zr t) (hr : zr r) (hi : zr i) (ht0 : zr (h 90 0)) (hR : -1 ≤ h 90 1 ∧ h 90 1 ≤ 4) (hZ : ∀ q : Nat, q < 4 → -1 ≤ h 91 q ∧ h 91 q ≤ 8) : zQ (d + 4) 94 [.inr (.inr (some 2)), .inl 1, .inl t, .inl r, .inl i] (zs h hl) (fun r' σ' => ∃ x : Int, zWN h 90 91 t r i x ∧ r' = some (.inl x) ∧ σ' = zs h hl) := by
  refine zQ_of (Nat.le_of_ble_eq_true rfl) ?_
  show zH (d + 3) 94 (0, [some (.inr (.inr (some 2))), some (.inl 1), some (.inl t), some (.inl r), some (.inl i), none, none], [], (zs h hl)) _
  refine zH_go 1 (c' := (1, [some (.inr (.inr (some 2))), some (.inl 1), some (.inl t), some (.inl r), some (.inl i), none, none], [.inl 1], (zs h hl))) rfl ?_
  refine zH_call (M' := 92) (as := [.inl 1]) (T := []) rfl (p_isBook ⟨by decide, by decide⟩) (fun r' σ' pm => ?_)
  obtain ⟨rfl, rfl⟩ : r' = some (.inl 1) ∧ σ' = _ := by rcases pm with ⟨a, -, b⟩ | ⟨-, b, -⟩ <;> first | exact ⟨a, b⟩ | (exfalso; omega)
  show zH _ _ (4, [some (.inr (.inr (some 2))), some (.inl 1), some (.inl t), some (.inl r), some (.inl i), none, none], [.inl 1], (zs h hl)) _
  refine zH_bf (x := 1) (y := 0) (k := .eq) (c1 := (16, [some (.inr (.inr (some 2))), some (.inl 1), some (.inl t), some (.inl r), some (.inl i), none, none], [], (zs h hl))) (c2 := (7, [some (.inr (.inr (some 2))), some (.inl 1), some (.inl t), some (.inl r), some (.inl i), none, none], [], (zs h hl))) rfl ⟨by decide, by decide⟩ ⟨by decide, by decide⟩ (by show ¬ (1 = 0); decide) ?_
  refine zH_go 1 (c' := (8, [some (.inr (.inr (some 2))), some (.inl 1), some (.inl t), some (.inl r), some (.inl i), none, none], [.inl t], (zs h hl))) rfl ?_
  refine zH_br (x := t) (y := 0) (k := .lt) (c1 := (16, [some (.inr (.inr (some 2))), some (.inl 1), some (.inl t), some (.inl r), some (.inl i), none, none], [], (zs h hl))) (c2 := (11, [some (.inr (.inr (some 2))), some (.inl 1), some (.inl t), some (.inl r), some (.inl i), none, none], [], (zs h hl))) rfl (by first | assumption | (unfold zr; omega)) ⟨by decide, by decide⟩ (fun (b_1 : t < 0) => ?_) (fun (b_1 : ¬ (t < 0)) => ?_)
  · refine zH_go 1 (c' := (17, [some (.inr (.inr (some 2))), some (.inl 1), some (.inl t), some (.inl r), some (.inl i), none, none], [.inl (-1)], (zs h hl))) rfl ?_
    refine zH_ret (v := some (.inl (-1))) rfl (fun q => absurd q (by decide)) ?_
    exact ⟨_, Or.inl ⟨by omega, rfl⟩, rfl, rfl⟩
  · refine zH_go 2 (c' := (13, [some (.inr (.inr (some 2))), some (.inl 1), some (.inl t), some (.inl r), some (.inl i), none, none], [.inl 3, .inl t], (zs h hl))) rfl ?_
    refine zH_br (x := t) (y := 3) (k := .le) (c1 := (18, [some (.inr (.inr (some 2))), some (.inl 1), some (.inl t), some (.inl r), some (.inl i), none, none], [], (zs h hl))) (c2 := (16, [some (.inr (.inr (some 2))), some (.inl 1), some (.inl t), some (.inl r), some (.inl i), none, none], [], (zs h hl))) rfl (by first | assumption | (unfold zr; omega)) ⟨by decide, by decide⟩ (fun (b_2 : ¬ 3 < t) => ?_) (fun (b_2 : ¬ (¬ 3 < t)) => ?_)
    · refine zH_go 3 (c' := (23, [some (.inr (.inr (some 2))), some (.inl 1), some (.inl t), some (.inl r), some (.inl i), none, none], [.inl 1, .inr (.inr (some 82))], (zs h hl))) rfl ?_
      refine zH_np (P := 0 ≤ 1 ∧ 1 < ((3 : Nat) : Int)) (c' := (24, [some (.inr (.inr (some 2))), some (.inl 1), some (.inl t), some (.inl r), some (.inl i), none, none], [.inr (.inr (some 90))], (zs h hl))) rfl ⟨by decide, by decide⟩ ?_
      refine zH_go 2 (c' := (28, [some (.inr (.inr (some 2))), some (.inl 1), some (.inl t), some (.inl r), some (.inl i), some (.inr (.inr (some 90))), none], [.inr (.inr (some 90))], (zs h hl))) rfl ?_
      refine zH_call (M' := 1) (as := [.inr (.inr (some 90))]) (T := []) rfl (p_bThere1 hR) (fun r σ' p_3 => ?_)
      rcases p_3 with ⟨rfl, b_4, rfl⟩ | ⟨rfl, b_4, rfl⟩
      · show zH _ _ (31, [some (.inr (.inr (some 2))), some (.inl 1), some (.inl t), some (.inl r), some (.inl i), some (.inr (.inr (some 90))), none], [.inl 1], (zs h hl)) _
        refine zH_bt (x := 1) (y := 0) (k := .ne) (c1 := (37, [some (.inr (.inr (some 2))), some (.inl 1), some (.inl t), some (.inl r), some (.inl i), some (.inr (.inr (some 90))), none], [], (zs h hl))) (c2 := (34, [some (.inr (.inr (some 2))), some (.inl 1), some (.inl t), some (.inl r), some (.inl i), some (.inr (.inr (some 90))), none], [], (zs h hl))) rfl ⟨by decide, by decide⟩ ⟨by decide, by decide⟩ (by show ¬ 1 = 0; decide) ?_
        refine zH_go 3 (c' := (43, [some (.inr (.inr (some 2))), some (.inl 1), some (.inl t), some (.inl r), some (.inl i), some (.inr (.inr (some 90))), none], [.inl t, .inl (h 90 0)], (zs h hl))) rfl ?_
        refine zH_br (x := (h 90 0)) (y := t) (k := .eq) (c1 := (49, [some (.inr (.inr (some 2))), some (.inl 1), some (.inl t), some (.inl r), some (.inl i), some (.inr (.inr (some 90))), none], [], (zs h hl))) (c2 := (46, [some (.inr (.inr (some 2))), some (.inl 1), some (.inl t), some (.inl r), some (.inl i), some (.inr (.inr (some 90))), none], [], (zs h hl))) rfl (by first | assumption | (unfold zr; omega)) (by first | assumption | (unfold zr; omega)) (fun (b_5 : (h 90 0) = t) => ?_) (fun (b_5 : ¬ ((h 90 0) = t)) => ?_)
        · refine zH_go 2 (c' := (52, [some (.inr (.inr (some 2))), some (.inl 1), some (.inl t), some (.inl r), some (.inl i), some (.inr (.inr (some 90))), none], [.inl r, .inr (.inr (some 90))], (zs h hl))) rfl ?_
          refine zH_call (M' := 5) (as := [.inr (.inr (some 90)), .inl r]) (T := []) rfl (p_bWhy1 hr hR hZ) (fun r' σ' pm => ?_)
          obtain ⟨x, hx, rfl, rfl⟩ := pm
          have hxr : -12 ≤ x ∧ x ≤ 0 := by unfold zWhy at hx; omega
          show zH _ _ (55, [some (.inr (.inr (some 2))), some (.inl 1), some (.inl t), some (.inl r), some (.inl i), some (.inr (.inr (some 90))), none], [.inl x], (zs h hl)) _
          refine zH_go 2 (c' := (59, [some (.inr (.inr (some 2))), some (.inl 1), some (.inl t), some (.inl r), some (.inl i), some (.inr (.inr (some 90))), some (.inl x)], [.inl x], (zs h hl))) rfl ?_
          refine zH_br (x := x) (y := 0) (k := .eq) (c1 := (65, [some (.inr (.inr (some 2))), some (.inl 1), some (.inl t), some (.inl r), some (.inl i), some (.inr (.inr (some 90))), some (.inl x)], [], (zs h hl))) (c2 := (62, [some (.inr (.inr (some 2))), some (.inl 1), some (.inl t), some (.inl r), some (.inl i), some (.inr (.inr (some 90))), some (.inl x)], [], (zs h hl))) rfl (by first | assumption | (unfold zr; omega)) ⟨by decide, by decide⟩ (fun (b_6 : x = 0) => ?_) (fun (b_6 : ¬ (x = 0)) => ?_)
          · refine zH_go 1 (c' := (67, [some (.inr (.inr (some 2))), some (.inl 1), some (.inl t), some (.inl r), some (.inl i), some (.inr (.inr (some 90))), some (.inl x)], [.inl i], (zs h hl))) rfl ?_
            refine zH_br (x := i) (y := 0) (k := .lt) (c1 := (81, [some (.inr (.inr (some 2))), some (.inl 1), some (.inl t), some (.inl r), some (.inl i), some (.inr (.inr (some 90))), some (.inl x)], [], (zs h hl))) (c2 := (70, [some (.inr (.inr (some 2))), some (.inl 1), some (.inl t), some (.inl r), some (.inl i), some (.inr (.inr (some 90))), some (.inl x)], [], (zs h hl))) rfl (by first | assumption | (unfold zr; omega)) ⟨by decide, by decide⟩ (fun (b_7 : i < 0) => ?_) (fun (b_7 : ¬ (i < 0)) => ?_)
            · refine zH_go 2 (c' := (87, [some (.inr (.inr (some 2))), some (.inl 1), some (.inl t), some (.inl r), some (.inl i), some (.inr (.inr (some 90))), some (.inl x)], [.inl (-12)], (zs h hl))) rfl ?_
              refine zH_ret (v := some (.inl (-12))) rfl (fun q => absurd q (by decide)) ?_
              have hxx : zHasRow h 90 r ∧ 0 ≤ h 91 r.toNat ∧ 0 ≤ h 90 1 := by unfold zWhy at hx; unfold zHasRow at hx ⊢; omega
              exact ⟨_, Or.inr ⟨by omega, Or.inr ⟨hxx.2.2, Or.inr ⟨by omega, Or.inr ⟨hxx.1, Or.inr ⟨hxx.2.1, Or.inl ⟨by omega, rfl⟩⟩⟩⟩⟩⟩, rfl, rfl⟩
            · refine zH_go 3 (c' := (75, [some (.inr (.inr (some 2))), some (.inl 1), some (.inl t), some (.inl r), some (.inl i), some (.inr (.inr (some 90))), some (.inl x)], [.inl r, .inr (.inr (some 90)), .inl i], (zs h hl))) rfl ?_
              refine zH_call (M' := 4) (as := [.inr (.inr (some 90)), .inl r]) (T := [.inl i]) rfl (p_bSize1 hr hR hZ) (fun r' σ' pm => ?_)
              obtain ⟨y, hy, rfl, rfl⟩ := pm
              have hxx : zHasRow h 90 r ∧ 0 ≤ h 91 r.toNat := by unfold zWhy at hx; unfold zHasRow at hx ⊢; omega
              have hyy : y = h 91 r.toNat := by unfold zSzR at hy; rcases hy with ⟨-, e⟩ | ⟨e, -⟩ <;> first | exact e | exact absurd hxx.1 e
              have hyb := hZ r.toNat (by have := hxx.1; unfold zHasRow at this; omega)
              show zH _ _ (78, [some (.inr (.inr (some 2))), some (.inl 1), some (.inl t), some (.inl r), some (.inl i), some (.inr (.inr (some 90))), some (.inl x)], [.inl y, .inl i], (zs h hl)) _
              refine zH_br (x := i) (y := y) (k := .lt) (c1 := (86, [some (.inr (.inr (some 2))), some (.inl 1), some (.inl t), some (.inl r), some (.inl i), some (.inr (.inr (some 90))), some (.inl x)], [], (zs h hl))) (c2 := (81, [some (.inr (.inr (some 2))), some (.inl 1), some (.inl t), some (.inl r), some (.inl i), some (.inr (.inr (some 90))), some (.inl x)], [], (zs h hl))) rfl (by first | assumption | (unfold zr; omega)) (by first | assumption | (unfold zr; omega)) (fun (b_8 : i < y) => ?_) (fun (b_8 : ¬ (i < y)) => ?_)
              · refine zH_go 1 (c' := (87, [some (.inr (.inr (some 2))), some (.inl 1), some (.inl t), some (.inl r), some (.inl i), some (.inr (.inr (some 90))), some (.inl x)], [.inl 0], (zs h hl))) rfl ?_
                refine zH_ret (v := some (.inl 0)) rfl (fun q => absurd q (by decide)) ?_
                have hxx : zHasRow h 90 r ∧ 0 ≤ h 91 r.toNat ∧ 0 ≤ h 90 1 := by unfold zWhy at hx; unfold zHasRow at hx ⊢; omega
                exact ⟨_, Or.inr ⟨by omega, Or.inr ⟨hxx.2.2, Or.inr ⟨by omega, Or.inr ⟨hxx.1, Or.inr ⟨hxx.2.1, Or.inr ⟨by omega, rfl⟩⟩⟩⟩⟩⟩, rfl, rfl⟩
              · refine zH_go 2 (c' := (87, [some (.inr (.inr (some 2))), some (.inl 1), some (.inl t), some (.inl r), some (.inl i), some (.inr (.inr (some 90))), some (.inl x)], [.inl (-12)], (zs h hl))) rfl ?_
                refine zH_ret (v := some (.inl (-12))) rfl (fun q => absurd q (by decide)) ?_
                have hxx : zHasRow h 90 r ∧ 0 ≤ h 91 r.toNat ∧ 0 ≤ h 90 1 := by unfold zWhy at hx; unfold zHasRow at hx ⊢; omega
                exact ⟨_, Or.inr ⟨by omega, Or.inr ⟨hxx.2.2, Or.inr ⟨by omega, Or.inr ⟨hxx.1, Or.inr ⟨hxx.2.1, Or.inl ⟨by omega, rfl⟩⟩⟩⟩⟩⟩, rfl, rfl⟩
          · refine zH_go 1 (c' := (64, [some (.inr (.inr (some 2))), some (.inl 1), some (.inl t), some (.inl r), some (.inl i), some (.inr (.inr (some 90))), some (.inl x)], [.inl x], (zs h hl))) rfl ?_
            refine zH_ret (v := some (.inl x)) rfl (fun q => absurd q (by decide)) ?_
            rcases hx with ⟨q, -⟩ | ⟨q1, q2, rfl⟩ | ⟨q1, q2, q3, rfl⟩ | ⟨q1, q2, q3, rfl⟩
            · exfalso; omega
            · exact ⟨_, Or.inr ⟨by omega, Or.inr ⟨q1, Or.inr ⟨by omega, Or.inl ⟨q2, rfl⟩⟩⟩⟩, rfl, rfl⟩
            · exact ⟨_, Or.inr ⟨by omega, Or.inr ⟨q1, Or.inr ⟨by omega, Or.inr ⟨q2, Or.inl ⟨q3, rfl⟩⟩⟩⟩⟩, rfl, rfl⟩
            · exact absurd rfl (by assumption)
        · refine zH_go 1 (c' := (48, [some (.inr (.inr (some 2))), some (.inl 1), some (.inl t), some (.inl r), some (.inl i), some (.inr (.inr (some 90))), none], [.inl (-13)], (zs h hl))) rfl ?_
          refine zH_ret (v := some (.inl (-13))) rfl (fun q => absurd q (by decide)) ?_
          exact ⟨_, Or.inr ⟨by omega, Or.inr ⟨by omega, Or.inl ⟨by omega, rfl⟩⟩⟩, rfl, rfl⟩
      · show zH _ _ (31, [some (.inr (.inr (some 2))), some (.inl 1), some (.inl t), some (.inl r), some (.inl i), some (.inr (.inr (some 90))), none], [.inl 0], (zs h hl)) _
        refine zH_bf (x := 0) (y := 0) (k := .ne) (c1 := (37, [some (.inr (.inr (some 2))), some (.inl 1), some (.inl t), some (.inl r), some (.inl i), some (.inr (.inr (some 90))), none], [], (zs h hl))) (c2 := (34, [some (.inr (.inr (some 2))), some (.inl 1), some (.inl t), some (.inl r), some (.inl i), some (.inr (.inr (some 90))), none], [], (zs h hl))) rfl ⟨by decide, by decide⟩ ⟨by decide, by decide⟩ (by show ¬ (¬ 0 = 0); decide) ?_
        refine zH_go 1 (c' := (36, [some (.inr (.inr (some 2))), some (.inl 1), some (.inl t), some (.inl r), some (.inl i), some (.inr (.inr (some 90))), none], [.inl (-11)], (zs h hl))) rfl ?_
        refine zH_ret (v := some (.inl (-11))) rfl (fun q => absurd q (by decide)) ?_
        exact ⟨_, Or.inr ⟨by omega, Or.inl ⟨by omega, rfl⟩⟩, rfl, rfl⟩
    · refine zH_go 1 (c' := (17, [some (.inr (.inr (some 2))), some (.inl 1), some (.inl t), some (.inl r), some (.inl i), none, none], [.inl (-1)], (zs h hl))) rfl ?_
      refine zH_ret (v := some (.inl (-1))) rfl (fun q => absurd q (by decide)) ?_
      exact ⟨_, Or.inl ⟨by omega, rfl⟩, rfl, rfl⟩
set_option maxRecDepth 100000 in
set_option maxHeartbeats 4000000 in
theorem p_put1 {d : Nat} {h hl : Nat → Nat → Int} {t r i v : Int} (ht : zr t) (hr : zr r) (hi : zr i) (ht3 : 0 ≤ h 90 0 ∧ h 90 0 ≤ 3) (hR : -1 ≤ h 90 1 ∧ h 90 1 ≤ 4) (hZ : ∀ q : Nat, q < 4 → -1 ≤ h 91 q ∧ h 91 q ≤ 8) : zQ (d + 5) 88 [.inr (.inr (some 2)), .inl 1, .inl t, .inl r, .inl i, .inr (.inl v)] (zs h hl) (fun r' σ' => ∃ x : Int, zWN h 90 91 t r i x ∧ ((¬ x = 0 ∧ r' = some (.inl x) ∧ σ' = zs (zup h 2 8 x) hl) ∨ (x = 0 ∧ r' = some (.inl 1) ∧ σ' = zs (zup h 2 8 x) (zup hl (93 + Int.toNat r) (Int.toNat i) (zNar (h 90 0) v))))) := by
  refine zQ_of (Nat.le_of_ble_eq_true rfl) ?_
  show zH (d + 4) 88 (0, [some (.inr (.inr (some 2))), some (.inl 1), some (.inl t), some (.inl r), some (.inl i), some (.inr (.inl v)), none, none], [], (zs h hl)) _
  refine zH_go 5 (c' := (6, [some (.inr (.inr (some 2))), some (.inl 1), some (.inl t), some (.inl r), some (.inl i), some (.inr (.inl v)), none, none], [.inl i, .inl r, .inl t, .inl 1, .inr (.inr (some 2))], (zs h hl))) rfl ?_
  refine zH_call (M' := 94) (as := [.inr (.inr (some 2)), .inl 1, .inl t, .inl r, .inl i]) (T := []) rfl (p_wn1 ht hr hi ⟨by omega, by omega⟩ hR hZ) (fun r' σ' pm => ?_)
  obtain ⟨x, hx, rfl, rfl⟩ := pm
  have hxr : -13 ≤ x ∧ x ≤ 0 := by unfold zWN at hx; omega
  show zH _ _ (9, [some (.inr (.inr (some 2))), some (.inl 1), some (.inl t), some (.inl r), some (.inl i), some (.inr (.inl v)), none, none], [.inl x], (zs h hl)) _
  refine zH_go 2 (c' := (13, [some (.inr (.inr (some 2))), some (.inl 1), some (.inl t), some (.inl r), some (.inl i), some (.inr (.inl v)), none, some (.inl x)], [.inl x], (zs h hl))) rfl ?_
  refine zH_br (x := x) (y := 0) (k := .ne) (c1 := (37, [some (.inr (.inr (some 2))), some (.inl 1), some (.inl t), some (.inl r), some (.inl i), some (.inr (.inl v)), none, some (.inl x)], [], (zs h hl))) (c2 := (16, [some (.inr (.inr (some 2))), some (.inl 1), some (.inl t), some (.inl r), some (.inl i), some (.inr (.inl v)), none, some (.inl x)], [], (zs h hl))) rfl (by first | assumption | (unfold zr; omega)) ⟨by decide, by decide⟩ (fun (b_1 : ¬ x = 0) => ?_) (fun (b_1 : ¬ (¬ x = 0)) => ?_)
  · refine zH_go 2 (c' := (40, [some (.inr (.inr (some 2))), some (.inl 1), some (.inl t), some (.inl r), some (.inl i), some (.inr (.inl v)), none, some (.inl x)], [.inl x, .inr (.inr (some 2))], (zs h hl))) rfl ?_
    refine zH_call (M' := 93) (as := [.inr (.inr (some 2)), .inl x]) (T := []) rfl (p_found (by first | assumption | (unfold zr; omega))) (fun r' σ' p_2 => ?_)
    obtain ⟨rfl, rfl⟩ := p_2
    show zH _ _ (43, [some (.inr (.inr (some 2))), some (.inl 1), some (.inl t), some (.inl r), some (.inl i), some (.inr (.inl v)), none, some (.inl x)], [.inl (if x = 0 then 1 else x)], (zs (zup h 2 8 x) hl)) _
    refine zH_ret (v := some (.inl (if x = 0 then 1 else x))) rfl (fun q => absurd q (by decide)) ?_
    refine ⟨x, hx, ?_⟩
    rw [if_neg (by omega)]
    exact Or.inl ⟨by omega, rfl, rfl⟩
  · refine zH_go 1 (c' := (17, [some (.inr (.inr (some 2))), some (.inl 1), some (.inl t), some (.inl r), some (.inl i), some (.inr (.inl v)), none, some (.inl x)], [.inl 1], (zs h hl))) rfl ?_
    refine zH_call (M' := 92) (as := [.inl 1]) (T := []) rfl (p_isBook ⟨by decide, by decide⟩) (fun r' σ' pm => ?_)
    obtain ⟨rfl, rfl⟩ : r' = some (.inl 1) ∧ σ' = _ := by rcases pm with ⟨a, -, b⟩ | ⟨-, b, -⟩ <;> first | exact ⟨a, b⟩ | (exfalso; omega)
    show zH _ _ (20, [some (.inr (.inr (some 2))), some (.inl 1), some (.inl t), some (.inl r), some (.inl i), some (.inr (.inl v)), none, some (.inl x)], [.inl 1], (zs h hl)) _
    refine zH_bf (x := 1) (y := 0) (k := .eq) (c1 := (37, [some (.inr (.inr (some 2))), some (.inl 1), some (.inl t), some (.inl r), some (.inl i), some (.inr (.inl v)), none, some (.inl x)], [], (zs h hl))) (c2 := (23, [some (.inr (.inr (some 2))), some (.inl 1), some (.inl t), some (.inl r), some (.inl i), some (.inr (.inl v)), none, some (.inl x)], [], (zs h hl))) rfl ⟨by decide, by decide⟩ ⟨by decide, by decide⟩ (by show ¬ (1 = 0); decide) ?_
    refine zH_go 3 (c' := (28, [some (.inr (.inr (some 2))), some (.inl 1), some (.inl t), some (.inl r), some (.inl i), some (.inr (.inl v)), none, some (.inl x)], [.inl 1, .inr (.inr (some 82))], (zs h hl))) rfl ?_
    refine zH_np (P := 0 ≤ 1 ∧ 1 < ((3 : Nat) : Int)) (c' := (29, [some (.inr (.inr (some 2))), some (.inl 1), some (.inl t), some (.inl r), some (.inl i), some (.inr (.inl v)), none, some (.inl x)], [.inr (.inr (some 90))], (zs h hl))) rfl ⟨by decide, by decide⟩ ?_
    refine zH_go 3 (c' := (34, [some (.inr (.inr (some 2))), some (.inl 1), some (.inl t), some (.inl r), some (.inl i), some (.inr (.inl v)), none, some (.inl x)], [.inr (.inl v), .inl i, .inl r, .inr (.inr (some 90))], (zs h hl))) rfl ?_
    have hnum : zHasNum h 90 91 r i := by unfold zWN at hx; unfold zHasNum; have hb8 := hZ r.toNat; unfold zHasRow at hx ⊢; omega
    refine zH_call (M' := 8) (as := [.inr (.inr (some 90)), .inl r, .inl i, .inr (.inl v)]) (T := []) rfl (p_bWrite1 hr hi ht3 hR hZ) (fun r' σ' pm => ?_)
    obtain ⟨rfl, gl, rfl, hgl⟩ := pm
    obtain rfl : gl = zup hl (93 + Int.toNat r) (Int.toNat i) (zNar (h 90 0) v) := by rcases hgl with ⟨-, e⟩ | ⟨e, -⟩ <;> first | exact e | exact absurd hnum e
    show zH _ _ (37, [some (.inr (.inr (some 2))), some (.inl 1), some (.inl t), some (.inl r), some (.inl i), some (.inr (.inl v)), none, some (.inl x)], [], (zs h (zup hl (93 + Int.toNat r) (Int.toNat i) (zNar (h 90 0) v)))) _
    refine zH_go 2 (c' := (40, [some (.inr (.inr (some 2))), some (.inl 1), some (.inl t), some (.inl r), some (.inl i), some (.inr (.inl v)), none, some (.inl x)], [.inl x, .inr (.inr (some 2))], (zs h (zup hl (93 + Int.toNat r) (Int.toNat i) (zNar (h 90 0) v))))) rfl ?_
    refine zH_call (M' := 93) (as := [.inr (.inr (some 2)), .inl x]) (T := []) rfl (p_found (by first | assumption | (unfold zr; omega))) (fun r' σ' p_3 => ?_)
    obtain ⟨rfl, rfl⟩ := p_3
    show zH _ _ (43, [some (.inr (.inr (some 2))), some (.inl 1), some (.inl t), some (.inl r), some (.inl i), some (.inr (.inl v)), none, some (.inl x)], [.inl (if x = 0 then 1 else x)], (zs (zup h 2 8 x) (zup hl (93 + Int.toNat r) (Int.toNat i) (zNar (h 90 0) v)))) _
    refine zH_ret (v := some (.inl (if x = 0 then 1 else x))) rfl (fun q => absurd q (by decide)) ?_
    refine ⟨x, hx, ?_⟩
    rw [if_pos (by omega)]
    exact Or.inr ⟨by omega, rfl, rfl⟩
set_option maxRecDepth 100000 in
set_option maxHeartbeats 4000000 in
theorem p_item1 {d : Nat} {h hl : Nat → Nat → Int} {t r i : Int} (ht : zr t) (hr : zr r) (hi : zr i) (ht3 : 0 ≤ h 90 0 ∧ h 90 0 ≤ 3) (hR : -1 ≤ h 90 1 ∧ h 90 1 ≤ 4) (hZ : ∀ q : Nat, q < 4 → -1 ≤ h 91 q ∧ h 91 q ≤ 8) : zQ (d + 5) 89 [.inr (.inr (some 2)), .inl 1, .inl t, .inl r, .inl i] (zs h hl) (fun r' σ' => ∃ x : Int, zWN h 90 91 t r i x ∧ ((¬ x = 0 ∧ r' = some (.inr (.inl 0)) ∧ σ' = zs (zup h 2 8 x) hl) ∨ (x = 0 ∧ r' = some (.inr (.inl (hl (93 + Int.toNat r) (Int.toNat i)))) ∧ σ' = zs (zup h 2 8 x) hl))) := by
  refine zQ_of (Nat.le_of_ble_eq_true rfl) ?_
  show zH (d + 4) 89 (0, [some (.inr (.inr (some 2))), some (.inl 1), some (.inl t), some (.inl r), some (.inl i), none], [], (zs h hl)) _
  refine zH_go 5 (c' := (6, [some (.inr (.inr (some 2))), some (.inl 1), some (.inl t), some (.inl r), some (.inl i), none], [.inl i, .inl r, .inl t, .inl 1, .inr (.inr (some 2))], (zs h hl))) rfl ?_
  refine zH_call (M' := 94) (as := [.inr (.inr (some 2)), .inl 1, .inl t, .inl r, .inl i]) (T := []) rfl (p_wn1 ht hr hi ⟨by omega, by omega⟩ hR hZ) (fun r' σ' pm => ?_)
  obtain ⟨x, hx, rfl, rfl⟩ := pm
  have hxr : -13 ≤ x ∧ x ≤ 0 := by unfold zWN at hx; omega
  show zH _ _ (9, [some (.inr (.inr (some 2))), some (.inl 1), some (.inl t), some (.inl r), some (.inl i), none], [.inl x], (zs h hl)) _
  refine zH_go 3 (c' := (14, [some (.inr (.inr (some 2))), some (.inl 1), some (.inl t), some (.inl r), some (.inl i), some (.inl x)], [.inl x, .inr (.inr (some 2))], (zs h hl))) rfl ?_
  refine zH_call (M' := 93) (as := [.inr (.inr (some 2)), .inl x]) (T := []) rfl (p_found (by first | assumption | (unfold zr; omega))) (fun r' σ' p_1 => ?_)
  obtain ⟨rfl, rfl⟩ := p_1
  show zH _ _ (17, [some (.inr (.inr (some 2))), some (.inl 1), some (.inl t), some (.inl r), some (.inl i), some (.inl x)], [.inl (if x = 0 then 1 else x)], (zs (zup h 2 8 x) hl)) _
  refine zH_go 2 (c' := (20, [some (.inr (.inr (some 2))), some (.inl 1), some (.inl t), some (.inl r), some (.inl i), some (.inl x)], [.inl x], (zs (zup h 2 8 x) hl))) rfl ?_
  refine zH_br (x := x) (y := 0) (k := .ne) (c1 := (45, [some (.inr (.inr (some 2))), some (.inl 1), some (.inl t), some (.inl r), some (.inl i), some (.inl x)], [], (zs (zup h 2 8 x) hl))) (c2 := (23, [some (.inr (.inr (some 2))), some (.inl 1), some (.inl t), some (.inl r), some (.inl i), some (.inl x)], [], (zs (zup h 2 8 x) hl))) rfl (by first | assumption | (unfold zr; omega)) ⟨by decide, by decide⟩ (fun (b_2 : ¬ x = 0) => ?_) (fun (b_2 : ¬ (¬ x = 0)) => ?_)
  · refine zH_go 1 (c' := (46, [some (.inr (.inr (some 2))), some (.inl 1), some (.inl t), some (.inl r), some (.inl i), some (.inl x)], [.inr (.inl 0)], (zs (zup h 2 8 x) hl))) rfl ?_
    refine zH_ret (v := some (.inr (.inl 0))) rfl (fun q => absurd q (by decide)) ?_
    exact ⟨x, hx, Or.inl ⟨by omega, rfl, rfl⟩⟩
  · refine zH_go 1 (c' := (24, [some (.inr (.inr (some 2))), some (.inl 1), some (.inl t), some (.inl r), some (.inl i), some (.inl x)], [.inl 1], (zs (zup h 2 8 x) hl))) rfl ?_
    refine zH_call (M' := 92) (as := [.inl 1]) (T := []) rfl (p_isBook ⟨by decide, by decide⟩) (fun r' σ' pm => ?_)
    obtain ⟨rfl, rfl⟩ : r' = some (.inl 1) ∧ σ' = _ := by rcases pm with ⟨a, -, b⟩ | ⟨-, b, -⟩ <;> first | exact ⟨a, b⟩ | (exfalso; omega)
    show zH _ _ (27, [some (.inr (.inr (some 2))), some (.inl 1), some (.inl t), some (.inl r), some (.inl i), some (.inl x)], [.inl 1], (zs (zup h 2 8 x) hl)) _
    refine zH_bf (x := 1) (y := 0) (k := .eq) (c1 := (45, [some (.inr (.inr (some 2))), some (.inl 1), some (.inl t), some (.inl r), some (.inl i), some (.inl x)], [], (zs (zup h 2 8 x) hl))) (c2 := (30, [some (.inr (.inr (some 2))), some (.inl 1), some (.inl t), some (.inl r), some (.inl i), some (.inl x)], [], (zs (zup h 2 8 x) hl))) rfl ⟨by decide, by decide⟩ ⟨by decide, by decide⟩ (by show ¬ (1 = 0); decide) ?_
    refine zH_go 3 (c' := (35, [some (.inr (.inr (some 2))), some (.inl 1), some (.inl t), some (.inl r), some (.inl i), some (.inl x)], [.inl 1, .inr (.inr (some 82))], (zs (zup h 2 8 x) hl))) rfl ?_
    refine zH_np (P := 0 ≤ 1 ∧ 1 < ((3 : Nat) : Int)) (c' := (36, [some (.inr (.inr (some 2))), some (.inl 1), some (.inl t), some (.inl r), some (.inl i), some (.inl x)], [.inr (.inr (some 90))], (zs (zup h 2 8 x) hl))) rfl ⟨by decide, by decide⟩ ?_
    refine zH_go 2 (c' := (39, [some (.inr (.inr (some 2))), some (.inl 1), some (.inl t), some (.inl r), some (.inl i), some (.inl x)], [.inl i, .inl r, .inr (.inr (some 90))], (zs (zup h 2 8 x) hl))) rfl ?_
    have hnum : zHasNum (zup h 2 8 x) 90 91 r i := by show zHasNum h 90 91 r i; unfold zWN at hx; unfold zHasNum; have hb8 := hZ r.toNat; unfold zHasRow at hx ⊢; omega
    refine zH_call (M' := 9) (as := [.inr (.inr (some 90)), .inl r, .inl i]) (T := []) rfl (p_bRead1 hr hi hR hZ) (fun r' σ' pm => ?_)
    obtain ⟨y, hy, rfl, rfl⟩ := pm
    obtain rfl : y = hl (93 + Int.toNat r) (Int.toNat i) := by rcases hy with ⟨-, e⟩ | ⟨e, -⟩ <;> first | exact e | exact absurd hnum e
    show zH _ _ (42, [some (.inr (.inr (some 2))), some (.inl 1), some (.inl t), some (.inl r), some (.inl i), some (.inl x)], [.inr (.inl (hl (93 + Int.toNat r) (Int.toNat i)))], (zs (zup h 2 8 x) hl)) _
    refine zH_go 1 (c' := (46, [some (.inr (.inr (some 2))), some (.inl 1), some (.inl t), some (.inl r), some (.inl i), some (.inl x)], [.inr (.inl (hl (93 + Int.toNat r) (Int.toNat i)))], (zs (zup h 2 8 x) hl))) rfl ?_
    refine zH_ret (v := some (.inr (.inl (hl (93 + Int.toNat r) (Int.toNat i))))) rfl (fun q => absurd q (by decide)) ?_
    exact ⟨x, hx, Or.inr ⟨by omega, rfl, rfl⟩⟩
set_option maxRecDepth 100000 in
set_option maxHeartbeats 4000000 in
theorem p_book2 {d : Nat} {h hl : Nat → Nat → Int} {t n : Int} (ht : zr t) (hn : zr n) : zQ (d + 2) 86 [.inr (.inr (some 2)), .inl 2, .inl t, .inl n] (zs h hl) (fun r' σ' => (¬ ((0 ≤ t ∧ t ≤ 3) ∧ n ≤ 4) ∧ r' = some (.inl (-1)) ∧ σ' = zs (zup h 2 8 (-1)) hl) ∨ (((0 ≤ t ∧ t ≤ 3) ∧ n ≤ 4) ∧ n < 0 ∧ r' = some (.inl (-15)) ∧ σ' = zs (zup h 2 8 (-15)) hl) ∨ (((0 ≤ t ∧ t ≤ 3) ∧ n ≤ 4) ∧ 0 ≤ n ∧ r' = some (.inl 1) ∧ ∃ g : Nat → Nat → Int, σ' = zs (zup g 2 8 0) hl ∧ (∀ c : Nat, c ≠ 97 → c ≠ 98 → g c = h c) ∧ g 97 0 = t ∧ g 97 1 = n ∧ ∀ q : Nat, q < 4 → g 98 q = -1)) := by
  refine zQ_of (Nat.le_of_ble_eq_true rfl) ?_
  show zH (d + 1) 86 (0, [some (.inr (.inr (some 2))), some (.inl 2), some (.inl t), some (.inl n)], [], (zs h hl)) _
  refine zH_go 1 (c' := (1, [some (.inr (.inr (some 2))), some (.inl 2), some (.inl t), some (.inl n)], [.inl 2], (zs h hl))) rfl ?_
  refine zH_call (M' := 92) (as := [.inl 2]) (T := []) rfl (p_isBook ⟨by decide, by decide⟩) (fun r' σ' pm => ?_)
  obtain ⟨rfl, rfl⟩ : r' = some (.inl 1) ∧ σ' = _ := by rcases pm with ⟨a, -, b⟩ | ⟨-, b, -⟩ <;> first | exact ⟨a, b⟩ | (exfalso; omega)
  show zH _ _ (4, [some (.inr (.inr (some 2))), some (.inl 2), some (.inl t), some (.inl n)], [.inl 1], (zs h hl)) _
  refine zH_bf (x := 1) (y := 0) (k := .eq) (c1 := (21, [some (.inr (.inr (some 2))), some (.inl 2), some (.inl t), some (.inl n)], [], (zs h hl))) (c2 := (7, [some (.inr (.inr (some 2))), some (.inl 2), some (.inl t), some (.inl n)], [], (zs h hl))) rfl ⟨by decide, by decide⟩ ⟨by decide, by decide⟩ (by show ¬ (1 = 0); decide) ?_
  refine zH_go 1 (c' := (8, [some (.inr (.inr (some 2))), some (.inl 2), some (.inl t), some (.inl n)], [.inl t], (zs h hl))) rfl ?_
  refine zH_br (x := t) (y := 0) (k := .lt) (c1 := (21, [some (.inr (.inr (some 2))), some (.inl 2), some (.inl t), some (.inl n)], [], (zs h hl))) (c2 := (11, [some (.inr (.inr (some 2))), some (.inl 2), some (.inl t), some (.inl n)], [], (zs h hl))) rfl (by first | assumption | (unfold zr; omega)) ⟨by decide, by decide⟩ (fun (b_1 : t < 0) => ?_) (fun (b_1 : ¬ (t < 0)) => ?_)
  · refine zH_go 2 (c' := (23, [some (.inr (.inr (some 2))), some (.inl 2), some (.inl t), some (.inl n)], [.inl (-1), .inr (.inr (some 2))], (zs h hl))) rfl ?_
    refine zH_call (M' := 93) (as := [.inr (.inr (some 2)), .inl (-1)]) (T := []) rfl (p_found ⟨by decide, by decide⟩) (fun r' σ' p_2 => ?_)
    obtain ⟨rfl, rfl⟩ := p_2
    show zH _ _ (26, [some (.inr (.inr (some 2))), some (.inl 2), some (.inl t), some (.inl n)], [.inl (-1)], (zs (zup h 2 8 (-1)) hl)) _
    refine zH_ret (v := some (.inl (-1))) rfl (fun q => absurd q (by decide)) ?_
    exact Or.inl ⟨by omega, rfl, rfl⟩
  · refine zH_go 2 (c' := (13, [some (.inr (.inr (some 2))), some (.inl 2), some (.inl t), some (.inl n)], [.inl 3, .inl t], (zs h hl))) rfl ?_
    refine zH_br (x := t) (y := 3) (k := .gt) (c1 := (21, [some (.inr (.inr (some 2))), some (.inl 2), some (.inl t), some (.inl n)], [], (zs h hl))) (c2 := (16, [some (.inr (.inr (some 2))), some (.inl 2), some (.inl t), some (.inl n)], [], (zs h hl))) rfl (by first | assumption | (unfold zr; omega)) ⟨by decide, by decide⟩ (fun (b_3 : 3 < t) => ?_) (fun (b_3 : ¬ (3 < t)) => ?_)
    · refine zH_go 2 (c' := (23, [some (.inr (.inr (some 2))), some (.inl 2), some (.inl t), some (.inl n)], [.inl (-1), .inr (.inr (some 2))], (zs h hl))) rfl ?_
      refine zH_call (M' := 93) (as := [.inr (.inr (some 2)), .inl (-1)]) (T := []) rfl (p_found ⟨by decide, by decide⟩) (fun r' σ' p_4 => ?_)
      obtain ⟨rfl, rfl⟩ := p_4
      show zH _ _ (26, [some (.inr (.inr (some 2))), some (.inl 2), some (.inl t), some (.inl n)], [.inl (-1)], (zs (zup h 2 8 (-1)) hl)) _
      refine zH_ret (v := some (.inl (-1))) rfl (fun q => absurd q (by decide)) ?_
      exact Or.inl ⟨by omega, rfl, rfl⟩
    · refine zH_go 2 (c' := (18, [some (.inr (.inr (some 2))), some (.inl 2), some (.inl t), some (.inl n)], [.inl 4, .inl n], (zs h hl))) rfl ?_
      refine zH_br (x := n) (y := 4) (k := .le) (c1 := (27, [some (.inr (.inr (some 2))), some (.inl 2), some (.inl t), some (.inl n)], [], (zs h hl))) (c2 := (21, [some (.inr (.inr (some 2))), some (.inl 2), some (.inl t), some (.inl n)], [], (zs h hl))) rfl (by first | assumption | (unfold zr; omega)) ⟨by decide, by decide⟩ (fun (b_5 : ¬ 4 < n) => ?_) (fun (b_5 : ¬ (¬ 4 < n)) => ?_)
      · refine zH_go 1 (c' := (28, [some (.inr (.inr (some 2))), some (.inl 2), some (.inl t), some (.inl n)], [.inl n], (zs h hl))) rfl ?_
        refine zH_br (x := n) (y := 0) (k := .ge) (c1 := (38, [some (.inr (.inr (some 2))), some (.inl 2), some (.inl t), some (.inl n)], [], (zs h hl))) (c2 := (31, [some (.inr (.inr (some 2))), some (.inl 2), some (.inl t), some (.inl n)], [], (zs h hl))) rfl (by first | assumption | (unfold zr; omega)) ⟨by decide, by decide⟩ (fun (b_6 : ¬ n < 0) => ?_) (fun (b_6 : ¬ (¬ n < 0)) => ?_)
        · refine zH_go 3 (c' := (43, [some (.inr (.inr (some 2))), some (.inl 2), some (.inl t), some (.inl n)], [.inl 2, .inr (.inr (some 82))], (zs h hl))) rfl ?_
          refine zH_np (P := 0 ≤ 2 ∧ 2 < ((3 : Nat) : Int)) (c' := (44, [some (.inr (.inr (some 2))), some (.inl 2), some (.inl t), some (.inl n)], [.inr (.inr (some 97))], (zs h hl))) rfl ⟨by decide, by decide⟩ ?_
          refine zH_go 2 (c' := (46, [some (.inr (.inr (some 2))), some (.inl 2), some (.inl t), some (.inl n)], [.inl n, .inl t, .inr (.inr (some 97))], (zs h hl))) rfl ?_
          refine zH_call (M' := 6) (as := [.inr (.inr (some 97)), .inl t, .inl n]) (T := []) rfl p_bOpen2 (fun r' σ' pm => ?_)
          obtain ⟨rfl, g, rfl, g1, g2, g3, g4⟩ := pm
          show zH _ _ (49, [some (.inr (.inr (some 2))), some (.inl 2), some (.inl t), some (.inl n)], [], (zs g hl)) _
          refine zH_go 2 (c' := (51, [some (.inr (.inr (some 2))), some (.inl 2), some (.inl t), some (.inl n)], [.inl 0, .inr (.inr (some 2))], (zs g hl))) rfl ?_
          refine zH_call (M' := 93) (as := [.inr (.inr (some 2)), .inl 0]) (T := []) rfl (p_found ⟨by decide, by decide⟩) (fun r' σ' p_7 => ?_)
          obtain ⟨rfl, rfl⟩ := p_7
          show zH _ _ (54, [some (.inr (.inr (some 2))), some (.inl 2), some (.inl t), some (.inl n)], [.inl 1], (zs (zup g 2 8 0) hl)) _
          refine zH_ret (v := some (.inl 1)) rfl (fun q => absurd q (by decide)) ?_
          exact Or.inr (Or.inr ⟨by omega, by omega, rfl, g, rfl, g1, g2, g3, g4⟩)
        · refine zH_go 2 (c' := (34, [some (.inr (.inr (some 2))), some (.inl 2), some (.inl t), some (.inl n)], [.inl (-15), .inr (.inr (some 2))], (zs h hl))) rfl ?_
          refine zH_call (M' := 93) (as := [.inr (.inr (some 2)), .inl (-15)]) (T := []) rfl (p_found ⟨by decide, by decide⟩) (fun r' σ' p_8 => ?_)
          obtain ⟨rfl, rfl⟩ := p_8
          show zH _ _ (37, [some (.inr (.inr (some 2))), some (.inl 2), some (.inl t), some (.inl n)], [.inl (-15)], (zs (zup h 2 8 (-15)) hl)) _
          refine zH_ret (v := some (.inl (-15))) rfl (fun q => absurd q (by decide)) ?_
          exact Or.inr (Or.inl ⟨by omega, by omega, rfl, rfl⟩)
      · refine zH_go 2 (c' := (23, [some (.inr (.inr (some 2))), some (.inl 2), some (.inl t), some (.inl n)], [.inl (-1), .inr (.inr (some 2))], (zs h hl))) rfl ?_
        refine zH_call (M' := 93) (as := [.inr (.inr (some 2)), .inl (-1)]) (T := []) rfl (p_found ⟨by decide, by decide⟩) (fun r' σ' p_9 => ?_)
        obtain ⟨rfl, rfl⟩ := p_9
        show zH _ _ (26, [some (.inr (.inr (some 2))), some (.inl 2), some (.inl t), some (.inl n)], [.inl (-1)], (zs (zup h 2 8 (-1)) hl)) _
        refine zH_ret (v := some (.inl (-1))) rfl (fun q => absurd q (by decide)) ?_
        exact Or.inl ⟨by omega, rfl, rfl⟩
set_option maxRecDepth 100000 in
set_option maxHeartbeats 4000000 in
theorem p_row2 {d : Nat} {h hl : Nat → Nat → Int} {r n : Int} (hr : zr r) (hn : zr n) (hR : -1 ≤ h 97 1 ∧ h 97 1 ≤ 4) : zQ (d + 3) 87 [.inr (.inr (some 2)), .inl 2, .inl r, .inl n] (zs h hl) (fun r' σ' => (8 < n ∧ r' = some (.inl (-1)) ∧ σ' = zs (zup h 2 8 (-1)) hl) ∨ (n ≤ 8 ∧ h 97 1 < 0 ∧ r' = some (.inl (-11)) ∧ σ' = zs (zup h 2 8 (-11)) hl) ∨ (n ≤ 8 ∧ 0 ≤ h 97 1 ∧ ¬ zHasRow h 97 r ∧ r' = some (.inl (-12)) ∧ σ' = zs (zup h 2 8 (-12)) hl) ∨ (0 ≤ h 97 1 ∧ zHasRow h 97 r ∧ n < 0 ∧ r' = some (.inl (-15)) ∧ σ' = zs (zup h 2 8 (-15)) hl) ∨ (0 ≤ h 97 1 ∧ zHasRow h 97 r ∧ 0 ≤ n ∧ n ≤ 8 ∧ r' = some (.inl 1) ∧ ∃ g gl : Nat → Nat → Int, σ' = zs (zup g 2 8 0) gl ∧ g = zup h 98 (Int.toNat r) n ∧ (∀ c : Nat, c ≠ 100 + Int.toNat r → gl c = hl c) ∧ ∀ j : Nat, j < 8 → gl (100 + Int.toNat r) j = 0)) := by
  refine zQ_of (Nat.le_of_ble_eq_true rfl) ?_
  show zH (d + 2) 87 (0, [some (.inr (.inr (some 2))), some (.inl 2), some (.inl r), some (.inl n), none], [], (zs h hl)) _
  refine zH_go 1 (c' := (1, [some (.inr (.inr (some 2))), some (.inl 2), some (.inl r), some (.inl n), none], [.inl 2], (zs h hl))) rfl ?_
  refine zH_call (M' := 92) (as := [.inl 2]) (T := []) rfl (p_isBook ⟨by decide, by decide⟩) (fun r' σ' pm => ?_)
  obtain ⟨rfl, rfl⟩ : r' = some (.inl 1) ∧ σ' = _ := by rcases pm with ⟨a, -, b⟩ | ⟨-, b, -⟩ <;> first | exact ⟨a, b⟩ | (exfalso; omega)
  show zH _ _ (4, [some (.inr (.inr (some 2))), some (.inl 2), some (.inl r), some (.inl n), none], [.inl 1], (zs h hl)) _
  refine zH_bf (x := 1) (y := 0) (k := .eq) (c1 := (13, [some (.inr (.inr (some 2))), some (.inl 2), some (.inl r), some (.inl n), none], [], (zs h hl))) (c2 := (7, [some (.inr (.inr (some 2))), some (.inl 2), some (.inl r), some (.inl n), none], [], (zs h hl))) rfl ⟨by decide, by decide⟩ ⟨by decide, by decide⟩ (by show ¬ (1 = 0); decide) ?_
  refine zH_go 2 (c' := (10, [some (.inr (.inr (some 2))), some (.inl 2), some (.inl r), some (.inl n), none], [.inl 8, .inl n], (zs h hl))) rfl ?_
  refine zH_br (x := n) (y := 8) (k := .le) (c1 := (19, [some (.inr (.inr (some 2))), some (.inl 2), some (.inl r), some (.inl n), none], [], (zs h hl))) (c2 := (13, [some (.inr (.inr (some 2))), some (.inl 2), some (.inl r), some (.inl n), none], [], (zs h hl))) rfl (by first | assumption | (unfold zr; omega)) ⟨by decide, by decide⟩ (fun (b_1 : ¬ 8 < n) => ?_) (fun (b_1 : ¬ (¬ 8 < n)) => ?_)
  · refine zH_go 3 (c' := (24, [some (.inr (.inr (some 2))), some (.inl 2), some (.inl r), some (.inl n), none], [.inl 2, .inr (.inr (some 82))], (zs h hl))) rfl ?_
    refine zH_np (P := 0 ≤ 2 ∧ 2 < ((3 : Nat) : Int)) (c' := (25, [some (.inr (.inr (some 2))), some (.inl 2), some (.inl r), some (.inl n), none], [.inr (.inr (some 97))], (zs h hl))) rfl ⟨by decide, by decide⟩ ?_
    refine zH_go 2 (c' := (29, [some (.inr (.inr (some 2))), some (.inl 2), some (.inl r), some (.inl n), some (.inr (.inr (some 97)))], [.inr (.inr (some 97))], (zs h hl))) rfl ?_
    refine zH_call (M' := 1) (as := [.inr (.inr (some 97))]) (T := []) rfl (p_bThere2 hR) (fun r σ' p_2 => ?_)
    rcases p_2 with ⟨rfl, b_3, rfl⟩ | ⟨rfl, b_3, rfl⟩
    · show zH _ _ (32, [some (.inr (.inr (some 2))), some (.inl 2), some (.inl r), some (.inl n), some (.inr (.inr (some 97)))], [.inl 1], (zs h hl)) _
      refine zH_bt (x := 1) (y := 0) (k := .ne) (c1 := (42, [some (.inr (.inr (some 2))), some (.inl 2), some (.inl r), some (.inl n), some (.inr (.inr (some 97)))], [], (zs h hl))) (c2 := (35, [some (.inr (.inr (some 2))), some (.inl 2), some (.inl r), some (.inl n), some (.inr (.inr (some 97)))], [], (zs h hl))) rfl ⟨by decide, by decide⟩ ⟨by decide, by decide⟩ (by show ¬ 1 = 0; decide) ?_
      refine zH_go 2 (c' := (45, [some (.inr (.inr (some 2))), some (.inl 2), some (.inl r), some (.inl n), some (.inr (.inr (some 97)))], [.inl r, .inr (.inr (some 97))], (zs h hl))) rfl ?_
      refine zH_call (M' := 2) (as := [.inr (.inr (some 97)), .inl r]) (T := []) rfl (p_bRow2 hr hR) (fun r σ' p_4 => ?_)
      rcases p_4 with ⟨rfl, b_5, rfl⟩ | ⟨rfl, b_5, rfl⟩
      · show zH _ _ (48, [some (.inr (.inr (some 2))), some (.inl 2), some (.inl r), some (.inl n), some (.inr (.inr (some 97)))], [.inl 1], (zs h hl)) _
        refine zH_bt (x := 1) (y := 0) (k := .ne) (c1 := (58, [some (.inr (.inr (some 2))), some (.inl 2), some (.inl r), some (.inl n), some (.inr (.inr (some 97)))], [], (zs h hl))) (c2 := (51, [some (.inr (.inr (some 2))), some (.inl 2), some (.inl r), some (.inl n), some (.inr (.inr (some 97)))], [], (zs h hl))) rfl ⟨by decide, by decide⟩ ⟨by decide, by decide⟩ (by show ¬ 1 = 0; decide) ?_
        refine zH_go 1 (c' := (59, [some (.inr (.inr (some 2))), some (.inl 2), some (.inl r), some (.inl n), some (.inr (.inr (some 97)))], [.inl n], (zs h hl))) rfl ?_
        refine zH_br (x := n) (y := 0) (k := .ge) (c1 := (69, [some (.inr (.inr (some 2))), some (.inl 2), some (.inl r), some (.inl n), some (.inr (.inr (some 97)))], [], (zs h hl))) (c2 := (62, [some (.inr (.inr (some 2))), some (.inl 2), some (.inl r), some (.inl n), some (.inr (.inr (some 97)))], [], (zs h hl))) rfl (by first | assumption | (unfold zr; omega)) ⟨by decide, by decide⟩ (fun (b_6 : ¬ n < 0) => ?_) (fun (b_6 : ¬ (¬ n < 0)) => ?_)
        · refine zH_go 3 (c' := (73, [some (.inr (.inr (some 2))), some (.inl 2), some (.inl r), some (.inl n), some (.inr (.inr (some 97)))], [.inl n, .inl r, .inr (.inr (some 97))], (zs h hl))) rfl ?_
          refine zH_call (M' := 7) (as := [.inr (.inr (some 97)), .inl r, .inl n]) (T := []) rfl (p_bRenew2 hr hR (by assumption)) (fun r' σ' pm => ?_)
          obtain ⟨rfl, g, gl, rfl, g1, g2, g3⟩ := pm
          show zH _ _ (76, [some (.inr (.inr (some 2))), some (.inl 2), some (.inl r), some (.inl n), some (.inr (.inr (some 97)))], [], (zs g gl)) _
          refine zH_go 2 (c' := (78, [some (.inr (.inr (some 2))), some (.inl 2), some (.inl r), some (.inl n), some (.inr (.inr (some 97)))], [.inl 0, .inr (.inr (some 2))], (zs g gl))) rfl ?_
          refine zH_call (M' := 93) (as := [.inr (.inr (some 2)), .inl 0]) (T := []) rfl (p_found ⟨by decide, by decide⟩) (fun r' σ' p_7 => ?_)
          obtain ⟨rfl, rfl⟩ := p_7
          show zH _ _ (81, [some (.inr (.inr (some 2))), some (.inl 2), some (.inl r), some (.inl n), some (.inr (.inr (some 97)))], [.inl 1], (zs (zup g 2 8 0) gl)) _
          refine zH_ret (v := some (.inl 1)) rfl (fun q => absurd q (by decide)) ?_
          exact Or.inr (Or.inr (Or.inr (Or.inr ⟨by assumption, by assumption, by omega, by omega, rfl, g, gl, rfl, g1, g2, g3⟩)))
        · refine zH_go 2 (c' := (65, [some (.inr (.inr (some 2))), some (.inl 2), some (.inl r), some (.inl n), some (.inr (.inr (some 97)))], [.inl (-15), .inr (.inr (some 2))], (zs h hl))) rfl ?_
          refine zH_call (M' := 93) (as := [.inr (.inr (some 2)), .inl (-15)]) (T := []) rfl (p_found ⟨by decide, by decide⟩) (fun r' σ' p_8 => ?_)
          obtain ⟨rfl, rfl⟩ := p_8
          show zH _ _ (68, [some (.inr (.inr (some 2))), some (.inl 2), some (.inl r), some (.inl n), some (.inr (.inr (some 97)))], [.inl (-15)], (zs (zup h 2 8 (-15)) hl)) _
          refine zH_ret (v := some (.inl (-15))) rfl (fun q => absurd q (by decide)) ?_
          exact Or.inr (Or.inr (Or.inr (Or.inl ⟨by assumption, by assumption, by omega, rfl, rfl⟩)))
      · show zH _ _ (48, [some (.inr (.inr (some 2))), some (.inl 2), some (.inl r), some (.inl n), some (.inr (.inr (some 97)))], [.inl 0], (zs h hl)) _
        refine zH_bf (x := 0) (y := 0) (k := .ne) (c1 := (58, [some (.inr (.inr (some 2))), some (.inl 2), some (.inl r), some (.inl n), some (.inr (.inr (some 97)))], [], (zs h hl))) (c2 := (51, [some (.inr (.inr (some 2))), some (.inl 2), some (.inl r), some (.inl n), some (.inr (.inr (some 97)))], [], (zs h hl))) rfl ⟨by decide, by decide⟩ ⟨by decide, by decide⟩ (by show ¬ (¬ 0 = 0); decide) ?_
        refine zH_go 2 (c' := (54, [some (.inr (.inr (some 2))), some (.inl 2), some (.inl r), some (.inl n), some (.inr (.inr (some 97)))], [.inl (-12), .inr (.inr (some 2))], (zs h hl))) rfl ?_
        refine zH_call (M' := 93) (as := [.inr (.inr (some 2)), .inl (-12)]) (T := []) rfl (p_found ⟨by decide, by decide⟩) (fun r' σ' p_9 => ?_)
        obtain ⟨rfl, rfl⟩ := p_9
        show zH _ _ (57, [some (.inr (.inr (some 2))), some (.inl 2), some (.inl r), some (.inl n), some (.inr (.inr (some 97)))], [.inl (-12)], (zs (zup h 2 8 (-12)) hl)) _
        refine zH_ret (v := some (.inl (-12))) rfl (fun q => absurd q (by decide)) ?_
        exact Or.inr (Or.inr (Or.inl ⟨by omega, by assumption, by assumption, rfl, rfl⟩))
    · show zH _ _ (32, [some (.inr (.inr (some 2))), some (.inl 2), some (.inl r), some (.inl n), some (.inr (.inr (some 97)))], [.inl 0], (zs h hl)) _
      refine zH_bf (x := 0) (y := 0) (k := .ne) (c1 := (42, [some (.inr (.inr (some 2))), some (.inl 2), some (.inl r), some (.inl n), some (.inr (.inr (some 97)))], [], (zs h hl))) (c2 := (35, [some (.inr (.inr (some 2))), some (.inl 2), some (.inl r), some (.inl n), some (.inr (.inr (some 97)))], [], (zs h hl))) rfl ⟨by decide, by decide⟩ ⟨by decide, by decide⟩ (by show ¬ (¬ 0 = 0); decide) ?_
      refine zH_go 2 (c' := (38, [some (.inr (.inr (some 2))), some (.inl 2), some (.inl r), some (.inl n), some (.inr (.inr (some 97)))], [.inl (-11), .inr (.inr (some 2))], (zs h hl))) rfl ?_
      refine zH_call (M' := 93) (as := [.inr (.inr (some 2)), .inl (-11)]) (T := []) rfl (p_found ⟨by decide, by decide⟩) (fun r' σ' p_10 => ?_)
      obtain ⟨rfl, rfl⟩ := p_10
      show zH _ _ (41, [some (.inr (.inr (some 2))), some (.inl 2), some (.inl r), some (.inl n), some (.inr (.inr (some 97)))], [.inl (-11)], (zs (zup h 2 8 (-11)) hl)) _
      refine zH_ret (v := some (.inl (-11))) rfl (fun q => absurd q (by decide)) ?_
      exact Or.inr (Or.inl ⟨by omega, by omega, rfl, rfl⟩)
  · refine zH_go 2 (c' := (15, [some (.inr (.inr (some 2))), some (.inl 2), some (.inl r), some (.inl n), none], [.inl (-1), .inr (.inr (some 2))], (zs h hl))) rfl ?_
    refine zH_call (M' := 93) (as := [.inr (.inr (some 2)), .inl (-1)]) (T := []) rfl (p_found ⟨by decide, by decide⟩) (fun r' σ' p_11 => ?_)
    obtain ⟨rfl, rfl⟩ := p_11
    show zH _ _ (18, [some (.inr (.inr (some 2))), some (.inl 2), some (.inl r), some (.inl n), none], [.inl (-1)], (zs (zup h 2 8 (-1)) hl)) _
    refine zH_ret (v := some (.inl (-1))) rfl (fun q => absurd q (by decide)) ?_
    exact Or.inl ⟨by omega, rfl, rfl⟩
set_option maxRecDepth 100000 in
set_option maxHeartbeats 4000000 in
theorem p_wn2 {d : Nat} {h hl : Nat → Nat → Int} {t r i : Int} (ht : zr t) (hr : zr r) (hi : zr i) (ht0 : zr (h 97 0)) (hR : -1 ≤ h 97 1 ∧ h 97 1 ≤ 4) (hZ : ∀ q : Nat, q < 4 → -1 ≤ h 98 q ∧ h 98 q ≤ 8) : zQ (d + 4) 94 [.inr (.inr (some 2)), .inl 2, .inl t, .inl r, .inl i] (zs h hl) (fun r' σ' => ∃ x : Int, zWN h 97 98 t r i x ∧ r' = some (.inl x) ∧ σ' = zs h hl) := by
  refine zQ_of (Nat.le_of_ble_eq_true rfl) ?_
  show zH (d + 3) 94 (0, [some (.inr (.inr (some 2))), some (.inl 2), some (.inl t), some (.inl r), some (.inl i), none, none], [], (zs h hl)) _
  refine zH_go 1 (c' := (1, [some (.inr (.inr (some 2))), some (.inl 2), some (.inl t), some (.inl r), some (.inl i), none, none], [.inl 2], (zs h hl))) rfl ?_
  refine zH_call (M' := 92) (as := [.inl 2]) (T := []) rfl (p_isBook ⟨by decide, by decide⟩) (fun r' σ' pm => ?_)
  obtain ⟨rfl, rfl⟩ : r' = some (.inl 1) ∧ σ' = _ := by rcases pm with ⟨a, -, b⟩ | ⟨-, b, -⟩ <;> first | exact ⟨a, b⟩ | (exfalso; omega)
  show zH _ _ (4, [some (.inr (.inr (some 2))), some (.inl 2), some (.inl t), some (.inl r), some (.inl i), none, none], [.inl 1], (zs h hl)) _
  refine zH_bf (x := 1) (y := 0) (k := .eq) (c1 := (16, [some (.inr (.inr (some 2))), some (.inl 2), some (.inl t), some (.inl r), some (.inl i), none, none], [], (zs h hl))) (c2 := (7, [some (.inr (.inr (some 2))), some (.inl 2), some (.inl t), some (.inl r), some (.inl i), none, none], [], (zs h hl))) rfl ⟨by decide, by decide⟩ ⟨by decide, by decide⟩ (by show ¬ (1 = 0); decide) ?_
  refine zH_go 1 (c' := (8, [some (.inr (.inr (some 2))), some (.inl 2), some (.inl t), some (.inl r), some (.inl i), none, none], [.inl t], (zs h hl))) rfl ?_
  refine zH_br (x := t) (y := 0) (k := .lt) (c1 := (16, [some (.inr (.inr (some 2))), some (.inl 2), some (.inl t), some (.inl r), some (.inl i), none, none], [], (zs h hl))) (c2 := (11, [some (.inr (.inr (some 2))), some (.inl 2), some (.inl t), some (.inl r), some (.inl i), none, none], [], (zs h hl))) rfl (by first | assumption | (unfold zr; omega)) ⟨by decide, by decide⟩ (fun (b_1 : t < 0) => ?_) (fun (b_1 : ¬ (t < 0)) => ?_)
  · refine zH_go 1 (c' := (17, [some (.inr (.inr (some 2))), some (.inl 2), some (.inl t), some (.inl r), some (.inl i), none, none], [.inl (-1)], (zs h hl))) rfl ?_
    refine zH_ret (v := some (.inl (-1))) rfl (fun q => absurd q (by decide)) ?_
    exact ⟨_, Or.inl ⟨by omega, rfl⟩, rfl, rfl⟩
  · refine zH_go 2 (c' := (13, [some (.inr (.inr (some 2))), some (.inl 2), some (.inl t), some (.inl r), some (.inl i), none, none], [.inl 3, .inl t], (zs h hl))) rfl ?_
    refine zH_br (x := t) (y := 3) (k := .le) (c1 := (18, [some (.inr (.inr (some 2))), some (.inl 2), some (.inl t), some (.inl r), some (.inl i), none, none], [], (zs h hl))) (c2 := (16, [some (.inr (.inr (some 2))), some (.inl 2), some (.inl t), some (.inl r), some (.inl i), none, none], [], (zs h hl))) rfl (by first | assumption | (unfold zr; omega)) ⟨by decide, by decide⟩ (fun (b_2 : ¬ 3 < t) => ?_) (fun (b_2 : ¬ (¬ 3 < t)) => ?_)
    · refine zH_go 3 (c' := (23, [some (.inr (.inr (some 2))), some (.inl 2), some (.inl t), some (.inl r), some (.inl i), none, none], [.inl 2, .inr (.inr (some 82))], (zs h hl))) rfl ?_
      refine zH_np (P := 0 ≤ 2 ∧ 2 < ((3 : Nat) : Int)) (c' := (24, [some (.inr (.inr (some 2))), some (.inl 2), some (.inl t), some (.inl r), some (.inl i), none, none], [.inr (.inr (some 97))], (zs h hl))) rfl ⟨by decide, by decide⟩ ?_
      refine zH_go 2 (c' := (28, [some (.inr (.inr (some 2))), some (.inl 2), some (.inl t), some (.inl r), some (.inl i), some (.inr (.inr (some 97))), none], [.inr (.inr (some 97))], (zs h hl))) rfl ?_
      refine zH_call (M' := 1) (as := [.inr (.inr (some 97))]) (T := []) rfl (p_bThere2 hR) (fun r σ' p_3 => ?_)
      rcases p_3 with ⟨rfl, b_4, rfl⟩ | ⟨rfl, b_4, rfl⟩
      · show zH _ _ (31, [some (.inr (.inr (some 2))), some (.inl 2), some (.inl t), some (.inl r), some (.inl i), some (.inr (.inr (some 97))), none], [.inl 1], (zs h hl)) _
        refine zH_bt (x := 1) (y := 0) (k := .ne) (c1 := (37, [some (.inr (.inr (some 2))), some (.inl 2), some (.inl t), some (.inl r), some (.inl i), some (.inr (.inr (some 97))), none], [], (zs h hl))) (c2 := (34, [some (.inr (.inr (some 2))), some (.inl 2), some (.inl t), some (.inl r), some (.inl i), some (.inr (.inr (some 97))), none], [], (zs h hl))) rfl ⟨by decide, by decide⟩ ⟨by decide, by decide⟩ (by show ¬ 1 = 0; decide) ?_
        refine zH_go 3 (c' := (43, [some (.inr (.inr (some 2))), some (.inl 2), some (.inl t), some (.inl r), some (.inl i), some (.inr (.inr (some 97))), none], [.inl t, .inl (h 97 0)], (zs h hl))) rfl ?_
        refine zH_br (x := (h 97 0)) (y := t) (k := .eq) (c1 := (49, [some (.inr (.inr (some 2))), some (.inl 2), some (.inl t), some (.inl r), some (.inl i), some (.inr (.inr (some 97))), none], [], (zs h hl))) (c2 := (46, [some (.inr (.inr (some 2))), some (.inl 2), some (.inl t), some (.inl r), some (.inl i), some (.inr (.inr (some 97))), none], [], (zs h hl))) rfl (by first | assumption | (unfold zr; omega)) (by first | assumption | (unfold zr; omega)) (fun (b_5 : (h 97 0) = t) => ?_) (fun (b_5 : ¬ ((h 97 0) = t)) => ?_)
        · refine zH_go 2 (c' := (52, [some (.inr (.inr (some 2))), some (.inl 2), some (.inl t), some (.inl r), some (.inl i), some (.inr (.inr (some 97))), none], [.inl r, .inr (.inr (some 97))], (zs h hl))) rfl ?_
          refine zH_call (M' := 5) (as := [.inr (.inr (some 97)), .inl r]) (T := []) rfl (p_bWhy2 hr hR hZ) (fun r' σ' pm => ?_)
          obtain ⟨x, hx, rfl, rfl⟩ := pm
          have hxr : -12 ≤ x ∧ x ≤ 0 := by unfold zWhy at hx; omega
          show zH _ _ (55, [some (.inr (.inr (some 2))), some (.inl 2), some (.inl t), some (.inl r), some (.inl i), some (.inr (.inr (some 97))), none], [.inl x], (zs h hl)) _
          refine zH_go 2 (c' := (59, [some (.inr (.inr (some 2))), some (.inl 2), some (.inl t), some (.inl r), some (.inl i), some (.inr (.inr (some 97))), some (.inl x)], [.inl x], (zs h hl))) rfl ?_
          refine zH_br (x := x) (y := 0) (k := .eq) (c1 := (65, [some (.inr (.inr (some 2))), some (.inl 2), some (.inl t), some (.inl r), some (.inl i), some (.inr (.inr (some 97))), some (.inl x)], [], (zs h hl))) (c2 := (62, [some (.inr (.inr (some 2))), some (.inl 2), some (.inl t), some (.inl r), some (.inl i), some (.inr (.inr (some 97))), some (.inl x)], [], (zs h hl))) rfl (by first | assumption | (unfold zr; omega)) ⟨by decide, by decide⟩ (fun (b_6 : x = 0) => ?_) (fun (b_6 : ¬ (x = 0)) => ?_)
          · refine zH_go 1 (c' := (67, [some (.inr (.inr (some 2))), some (.inl 2), some (.inl t), some (.inl r), some (.inl i), some (.inr (.inr (some 97))), some (.inl x)], [.inl i], (zs h hl))) rfl ?_
            refine zH_br (x := i) (y := 0) (k := .lt) (c1 := (81, [some (.inr (.inr (some 2))), some (.inl 2), some (.inl t), some (.inl r), some (.inl i), some (.inr (.inr (some 97))), some (.inl x)], [], (zs h hl))) (c2 := (70, [some (.inr (.inr (some 2))), some (.inl 2), some (.inl t), some (.inl r), some (.inl i), some (.inr (.inr (some 97))), some (.inl x)], [], (zs h hl))) rfl (by first | assumption | (unfold zr; omega)) ⟨by decide, by decide⟩ (fun (b_7 : i < 0) => ?_) (fun (b_7 : ¬ (i < 0)) => ?_)
            · refine zH_go 2 (c' := (87, [some (.inr (.inr (some 2))), some (.inl 2), some (.inl t), some (.inl r), some (.inl i), some (.inr (.inr (some 97))), some (.inl x)], [.inl (-12)], (zs h hl))) rfl ?_
              refine zH_ret (v := some (.inl (-12))) rfl (fun q => absurd q (by decide)) ?_
              have hxx : zHasRow h 97 r ∧ 0 ≤ h 98 r.toNat ∧ 0 ≤ h 97 1 := by unfold zWhy at hx; unfold zHasRow at hx ⊢; omega
              exact ⟨_, Or.inr ⟨by omega, Or.inr ⟨hxx.2.2, Or.inr ⟨by omega, Or.inr ⟨hxx.1, Or.inr ⟨hxx.2.1, Or.inl ⟨by omega, rfl⟩⟩⟩⟩⟩⟩, rfl, rfl⟩
            · refine zH_go 3 (c' := (75, [some (.inr (.inr (some 2))), some (.inl 2), some (.inl t), some (.inl r), some (.inl i), some (.inr (.inr (some 97))), some (.inl x)], [.inl r, .inr (.inr (some 97)), .inl i], (zs h hl))) rfl ?_
              refine zH_call (M' := 4) (as := [.inr (.inr (some 97)), .inl r]) (T := [.inl i]) rfl (p_bSize2 hr hR hZ) (fun r' σ' pm => ?_)
              obtain ⟨y, hy, rfl, rfl⟩ := pm
              have hxx : zHasRow h 97 r ∧ 0 ≤ h 98 r.toNat := by unfold zWhy at hx; unfold zHasRow at hx ⊢; omega
              have hyy : y = h 98 r.toNat := by unfold zSzR at hy; rcases hy with ⟨-, e⟩ | ⟨e, -⟩ <;> first | exact e | exact absurd hxx.1 e
              have hyb := hZ r.toNat (by have := hxx.1; unfold zHasRow at this; omega)
              show zH _ _ (78, [some (.inr (.inr (some 2))), some (.inl 2), some (.inl t), some (.inl r), some (.inl i), some (.inr (.inr (some 97))), some (.inl x)], [.inl y, .inl i], (zs h hl)) _
              refine zH_br (x := i) (y := y) (k := .lt) (c1 := (86, [some (.inr (.inr (some 2))), some (.inl 2), some (.inl t), some (.inl r), some (.inl i), some (.inr (.inr (some 97))), some (.inl x)], [], (zs h hl))) (c2 := (81, [some (.inr (.inr (some 2))), some (.inl 2), some (.inl t), some (.inl r), some (.inl i), some (.inr (.inr (some 97))), some (.inl x)], [], (zs h hl))) rfl (by first | assumption | (unfold zr; omega)) (by first | assumption | (unfold zr; omega)) (fun (b_8 : i < y) => ?_) (fun (b_8 : ¬ (i < y)) => ?_)
              · refine zH_go 1 (c' := (87, [some (.inr (.inr (some 2))), some (.inl 2), some (.inl t), some (.inl r), some (.inl i), some (.inr (.inr (some 97))), some (.inl x)], [.inl 0], (zs h hl))) rfl ?_
                refine zH_ret (v := some (.inl 0)) rfl (fun q => absurd q (by decide)) ?_
                have hxx : zHasRow h 97 r ∧ 0 ≤ h 98 r.toNat ∧ 0 ≤ h 97 1 := by unfold zWhy at hx; unfold zHasRow at hx ⊢; omega
                exact ⟨_, Or.inr ⟨by omega, Or.inr ⟨hxx.2.2, Or.inr ⟨by omega, Or.inr ⟨hxx.1, Or.inr ⟨hxx.2.1, Or.inr ⟨by omega, rfl⟩⟩⟩⟩⟩⟩, rfl, rfl⟩
              · refine zH_go 2 (c' := (87, [some (.inr (.inr (some 2))), some (.inl 2), some (.inl t), some (.inl r), some (.inl i), some (.inr (.inr (some 97))), some (.inl x)], [.inl (-12)], (zs h hl))) rfl ?_
                refine zH_ret (v := some (.inl (-12))) rfl (fun q => absurd q (by decide)) ?_
                have hxx : zHasRow h 97 r ∧ 0 ≤ h 98 r.toNat ∧ 0 ≤ h 97 1 := by unfold zWhy at hx; unfold zHasRow at hx ⊢; omega
                exact ⟨_, Or.inr ⟨by omega, Or.inr ⟨hxx.2.2, Or.inr ⟨by omega, Or.inr ⟨hxx.1, Or.inr ⟨hxx.2.1, Or.inl ⟨by omega, rfl⟩⟩⟩⟩⟩⟩, rfl, rfl⟩
          · refine zH_go 1 (c' := (64, [some (.inr (.inr (some 2))), some (.inl 2), some (.inl t), some (.inl r), some (.inl i), some (.inr (.inr (some 97))), some (.inl x)], [.inl x], (zs h hl))) rfl ?_
            refine zH_ret (v := some (.inl x)) rfl (fun q => absurd q (by decide)) ?_
            rcases hx with ⟨q, -⟩ | ⟨q1, q2, rfl⟩ | ⟨q1, q2, q3, rfl⟩ | ⟨q1, q2, q3, rfl⟩
            · exfalso; omega
            · exact ⟨_, Or.inr ⟨by omega, Or.inr ⟨q1, Or.inr ⟨by omega, Or.inl ⟨q2, rfl⟩⟩⟩⟩, rfl, rfl⟩
            · exact ⟨_, Or.inr ⟨by omega, Or.inr ⟨q1, Or.inr ⟨by omega, Or.inr ⟨q2, Or.inl ⟨q3, rfl⟩⟩⟩⟩⟩, rfl, rfl⟩
            · exact absurd rfl (by assumption)
        · refine zH_go 1 (c' := (48, [some (.inr (.inr (some 2))), some (.inl 2), some (.inl t), some (.inl r), some (.inl i), some (.inr (.inr (some 97))), none], [.inl (-13)], (zs h hl))) rfl ?_
          refine zH_ret (v := some (.inl (-13))) rfl (fun q => absurd q (by decide)) ?_
          exact ⟨_, Or.inr ⟨by omega, Or.inr ⟨by omega, Or.inl ⟨by omega, rfl⟩⟩⟩, rfl, rfl⟩
      · show zH _ _ (31, [some (.inr (.inr (some 2))), some (.inl 2), some (.inl t), some (.inl r), some (.inl i), some (.inr (.inr (some 97))), none], [.inl 0], (zs h hl)) _
        refine zH_bf (x := 0) (y := 0) (k := .ne) (c1 := (37, [some (.inr (.inr (some 2))), some (.inl 2), some (.inl t), some (.inl r), some (.inl i), some (.inr (.inr (some 97))), none], [], (zs h hl))) (c2 := (34, [some (.inr (.inr (some 2))), some (.inl 2), some (.inl t), some (.inl r), some (.inl i), some (.inr (.inr (some 97))), none], [], (zs h hl))) rfl ⟨by decide, by decide⟩ ⟨by decide, by decide⟩ (by show ¬ (¬ 0 = 0); decide) ?_
        refine zH_go 1 (c' := (36, [some (.inr (.inr (some 2))), some (.inl 2), some (.inl t), some (.inl r), some (.inl i), some (.inr (.inr (some 97))), none], [.inl (-11)], (zs h hl))) rfl ?_
        refine zH_ret (v := some (.inl (-11))) rfl (fun q => absurd q (by decide)) ?_
        exact ⟨_, Or.inr ⟨by omega, Or.inl ⟨by omega, rfl⟩⟩, rfl, rfl⟩
    · refine zH_go 1 (c' := (17, [some (.inr (.inr (some 2))), some (.inl 2), some (.inl t), some (.inl r), some (.inl i), none, none], [.inl (-1)], (zs h hl))) rfl ?_
      refine zH_ret (v := some (.inl (-1))) rfl (fun q => absurd q (by decide)) ?_
      exact ⟨_, Or.inl ⟨by omega, rfl⟩, rfl, rfl⟩
set_option maxRecDepth 100000 in
set_option maxHeartbeats 4000000 in
theorem p_put2 {d : Nat} {h hl : Nat → Nat → Int} {t r i v : Int} (ht : zr t) (hr : zr r) (hi : zr i) (ht3 : 0 ≤ h 97 0 ∧ h 97 0 ≤ 3) (hR : -1 ≤ h 97 1 ∧ h 97 1 ≤ 4) (hZ : ∀ q : Nat, q < 4 → -1 ≤ h 98 q ∧ h 98 q ≤ 8) : zQ (d + 5) 88 [.inr (.inr (some 2)), .inl 2, .inl t, .inl r, .inl i, .inr (.inl v)] (zs h hl) (fun r' σ' => ∃ x : Int, zWN h 97 98 t r i x ∧ ((¬ x = 0 ∧ r' = some (.inl x) ∧ σ' = zs (zup h 2 8 x) hl) ∨ (x = 0 ∧ r' = some (.inl 1) ∧ σ' = zs (zup h 2 8 x) (zup hl (100 + Int.toNat r) (Int.toNat i) (zNar (h 97 0) v))))) := by
  refine zQ_of (Nat.le_of_ble_eq_true rfl) ?_
  show zH (d + 4) 88 (0, [some (.inr (.inr (some 2))), some (.inl 2), some (.inl t), some (.inl r), some (.inl i), some (.inr (.inl v)), none, none], [], (zs h hl)) _
  refine zH_go 5 (c' := (6, [some (.inr (.inr (some 2))), some (.inl 2), some (.inl t), some (.inl r), some (.inl i), some (.inr (.inl v)), none, none], [.inl i, .inl r, .inl t, .inl 2, .inr (.inr (some 2))], (zs h hl))) rfl ?_
  refine zH_call (M' := 94) (as := [.inr (.inr (some 2)), .inl 2, .inl t, .inl r, .inl i]) (T := []) rfl (p_wn2 ht hr hi ⟨by omega, by omega⟩ hR hZ) (fun r' σ' pm => ?_)
  obtain ⟨x, hx, rfl, rfl⟩ := pm
  have hxr : -13 ≤ x ∧ x ≤ 0 := by unfold zWN at hx; omega
  show zH _ _ (9, [some (.inr (.inr (some 2))), some (.inl 2), some (.inl t), some (.inl r), some (.inl i), some (.inr (.inl v)), none, none], [.inl x], (zs h hl)) _
  refine zH_go 2 (c' := (13, [some (.inr (.inr (some 2))), some (.inl 2), some (.inl t), some (.inl r), some (.inl i), some (.inr (.inl v)), none, some (.inl x)], [.inl x], (zs h hl))) rfl ?_
  refine zH_br (x := x) (y := 0) (k := .ne) (c1 := (37, [some (.inr (.inr (some 2))), some (.inl 2), some (.inl t), some (.inl r), some (.inl i), some (.inr (.inl v)), none, some (.inl x)], [], (zs h hl))) (c2 := (16, [some (.inr (.inr (some 2))), some (.inl 2), some (.inl t), some (.inl r), some (.inl i), some (.inr (.inl v)), none, some (.inl x)], [], (zs h hl))) rfl (by first | assumption | (unfold zr; omega)) ⟨by decide, by decide⟩ (fun (b_1 : ¬ x = 0) => ?_) (fun (b_1 : ¬ (¬ x = 0)) => ?_)
  · refine zH_go 2 (c' := (40, [some (.inr (.inr (some 2))), some (.inl 2), some (.inl t), some (.inl r), some (.inl i), some (.inr (.inl v)), none, some (.inl x)], [.inl x, .inr (.inr (some 2))], (zs h hl))) rfl ?_
    refine zH_call (M' := 93) (as := [.inr (.inr (some 2)), .inl x]) (T := []) rfl (p_found (by first | assumption | (unfold zr; omega))) (fun r' σ' p_2 => ?_)
    obtain ⟨rfl, rfl⟩ := p_2
    show zH _ _ (43, [some (.inr (.inr (some 2))), some (.inl 2), some (.inl t), some (.inl r), some (.inl i), some (.inr (.inl v)), none, some (.inl x)], [.inl (if x = 0 then 1 else x)], (zs (zup h 2 8 x) hl)) _
    refine zH_ret (v := some (.inl (if x = 0 then 1 else x))) rfl (fun q => absurd q (by decide)) ?_
    refine ⟨x, hx, ?_⟩
    rw [if_neg (by omega)]
    exact Or.inl ⟨by omega, rfl, rfl⟩
  · refine zH_go 1 (c' := (17, [some (.inr (.inr (some 2))), some (.inl 2), some (.inl t), some (.inl r), some (.inl i), some (.inr (.inl v)), none, some (.inl x)], [.inl 2], (zs h hl))) rfl ?_
    refine zH_call (M' := 92) (as := [.inl 2]) (T := []) rfl (p_isBook ⟨by decide, by decide⟩) (fun r' σ' pm => ?_)
    obtain ⟨rfl, rfl⟩ : r' = some (.inl 1) ∧ σ' = _ := by rcases pm with ⟨a, -, b⟩ | ⟨-, b, -⟩ <;> first | exact ⟨a, b⟩ | (exfalso; omega)
    show zH _ _ (20, [some (.inr (.inr (some 2))), some (.inl 2), some (.inl t), some (.inl r), some (.inl i), some (.inr (.inl v)), none, some (.inl x)], [.inl 1], (zs h hl)) _
    refine zH_bf (x := 1) (y := 0) (k := .eq) (c1 := (37, [some (.inr (.inr (some 2))), some (.inl 2), some (.inl t), some (.inl r), some (.inl i), some (.inr (.inl v)), none, some (.inl x)], [], (zs h hl))) (c2 := (23, [some (.inr (.inr (some 2))), some (.inl 2), some (.inl t), some (.inl r), some (.inl i), some (.inr (.inl v)), none, some (.inl x)], [], (zs h hl))) rfl ⟨by decide, by decide⟩ ⟨by decide, by decide⟩ (by show ¬ (1 = 0); decide) ?_
    refine zH_go 3 (c' := (28, [some (.inr (.inr (some 2))), some (.inl 2), some (.inl t), some (.inl r), some (.inl i), some (.inr (.inl v)), none, some (.inl x)], [.inl 2, .inr (.inr (some 82))], (zs h hl))) rfl ?_
    refine zH_np (P := 0 ≤ 2 ∧ 2 < ((3 : Nat) : Int)) (c' := (29, [some (.inr (.inr (some 2))), some (.inl 2), some (.inl t), some (.inl r), some (.inl i), some (.inr (.inl v)), none, some (.inl x)], [.inr (.inr (some 97))], (zs h hl))) rfl ⟨by decide, by decide⟩ ?_
    refine zH_go 3 (c' := (34, [some (.inr (.inr (some 2))), some (.inl 2), some (.inl t), some (.inl r), some (.inl i), some (.inr (.inl v)), none, some (.inl x)], [.inr (.inl v), .inl i, .inl r, .inr (.inr (some 97))], (zs h hl))) rfl ?_
    have hnum : zHasNum h 97 98 r i := by unfold zWN at hx; unfold zHasNum; have hb8 := hZ r.toNat; unfold zHasRow at hx ⊢; omega
    refine zH_call (M' := 8) (as := [.inr (.inr (some 97)), .inl r, .inl i, .inr (.inl v)]) (T := []) rfl (p_bWrite2 hr hi ht3 hR hZ) (fun r' σ' pm => ?_)
    obtain ⟨rfl, gl, rfl, hgl⟩ := pm
    obtain rfl : gl = zup hl (100 + Int.toNat r) (Int.toNat i) (zNar (h 97 0) v) := by rcases hgl with ⟨-, e⟩ | ⟨e, -⟩ <;> first | exact e | exact absurd hnum e
    show zH _ _ (37, [some (.inr (.inr (some 2))), some (.inl 2), some (.inl t), some (.inl r), some (.inl i), some (.inr (.inl v)), none, some (.inl x)], [], (zs h (zup hl (100 + Int.toNat r) (Int.toNat i) (zNar (h 97 0) v)))) _
    refine zH_go 2 (c' := (40, [some (.inr (.inr (some 2))), some (.inl 2), some (.inl t), some (.inl r), some (.inl i), some (.inr (.inl v)), none, some (.inl x)], [.inl x, .inr (.inr (some 2))], (zs h (zup hl (100 + Int.toNat r) (Int.toNat i) (zNar (h 97 0) v))))) rfl ?_
    refine zH_call (M' := 93) (as := [.inr (.inr (some 2)), .inl x]) (T := []) rfl (p_found (by first | assumption | (unfold zr; omega))) (fun r' σ' p_3 => ?_)
    obtain ⟨rfl, rfl⟩ := p_3
    show zH _ _ (43, [some (.inr (.inr (some 2))), some (.inl 2), some (.inl t), some (.inl r), some (.inl i), some (.inr (.inl v)), none, some (.inl x)], [.inl (if x = 0 then 1 else x)], (zs (zup h 2 8 x) (zup hl (100 + Int.toNat r) (Int.toNat i) (zNar (h 97 0) v)))) _
    refine zH_ret (v := some (.inl (if x = 0 then 1 else x))) rfl (fun q => absurd q (by decide)) ?_
    refine ⟨x, hx, ?_⟩
    rw [if_pos (by omega)]
    exact Or.inr ⟨by omega, rfl, rfl⟩
set_option maxRecDepth 100000 in
set_option maxHeartbeats 4000000 in
theorem p_item2 {d : Nat} {h hl : Nat → Nat → Int} {t r i : Int} (ht : zr t) (hr : zr r) (hi : zr i) (ht3 : 0 ≤ h 97 0 ∧ h 97 0 ≤ 3) (hR : -1 ≤ h 97 1 ∧ h 97 1 ≤ 4) (hZ : ∀ q : Nat, q < 4 → -1 ≤ h 98 q ∧ h 98 q ≤ 8) : zQ (d + 5) 89 [.inr (.inr (some 2)), .inl 2, .inl t, .inl r, .inl i] (zs h hl) (fun r' σ' => ∃ x : Int, zWN h 97 98 t r i x ∧ ((¬ x = 0 ∧ r' = some (.inr (.inl 0)) ∧ σ' = zs (zup h 2 8 x) hl) ∨ (x = 0 ∧ r' = some (.inr (.inl (hl (100 + Int.toNat r) (Int.toNat i)))) ∧ σ' = zs (zup h 2 8 x) hl))) := by
  refine zQ_of (Nat.le_of_ble_eq_true rfl) ?_
  show zH (d + 4) 89 (0, [some (.inr (.inr (some 2))), some (.inl 2), some (.inl t), some (.inl r), some (.inl i), none], [], (zs h hl)) _
  refine zH_go 5 (c' := (6, [some (.inr (.inr (some 2))), some (.inl 2), some (.inl t), some (.inl r), some (.inl i), none], [.inl i, .inl r, .inl t, .inl 2, .inr (.inr (some 2))], (zs h hl))) rfl ?_
  refine zH_call (M' := 94) (as := [.inr (.inr (some 2)), .inl 2, .inl t, .inl r, .inl i]) (T := []) rfl (p_wn2 ht hr hi ⟨by omega, by omega⟩ hR hZ) (fun r' σ' pm => ?_)
  obtain ⟨x, hx, rfl, rfl⟩ := pm
  have hxr : -13 ≤ x ∧ x ≤ 0 := by unfold zWN at hx; omega
  show zH _ _ (9, [some (.inr (.inr (some 2))), some (.inl 2), some (.inl t), some (.inl r), some (.inl i), none], [.inl x], (zs h hl)) _
  refine zH_go 3 (c' := (14, [some (.inr (.inr (some 2))), some (.inl 2), some (.inl t), some (.inl r), some (.inl i), some (.inl x)], [.inl x, .inr (.inr (some 2))], (zs h hl))) rfl ?_
  refine zH_call (M' := 93) (as := [.inr (.inr (some 2)), .inl x]) (T := []) rfl (p_found (by first | assumption | (unfold zr; omega))) (fun r' σ' p_1 => ?_)
  obtain ⟨rfl, rfl⟩ := p_1
  show zH _ _ (17, [some (.inr (.inr (some 2))), some (.inl 2), some (.inl t), some (.inl r), some (.inl i), some (.inl x)], [.inl (if x = 0 then 1 else x)], (zs (zup h 2 8 x) hl)) _
  refine zH_go 2 (c' := (20, [some (.inr (.inr (some 2))), some (.inl 2), some (.inl t), some (.inl r), some (.inl i), some (.inl x)], [.inl x], (zs (zup h 2 8 x) hl))) rfl ?_
  refine zH_br (x := x) (y := 0) (k := .ne) (c1 := (45, [some (.inr (.inr (some 2))), some (.inl 2), some (.inl t), some (.inl r), some (.inl i), some (.inl x)], [], (zs (zup h 2 8 x) hl))) (c2 := (23, [some (.inr (.inr (some 2))), some (.inl 2), some (.inl t), some (.inl r), some (.inl i), some (.inl x)], [], (zs (zup h 2 8 x) hl))) rfl (by first | assumption | (unfold zr; omega)) ⟨by decide, by decide⟩ (fun (b_2 : ¬ x = 0) => ?_) (fun (b_2 : ¬ (¬ x = 0)) => ?_)
  · refine zH_go 1 (c' := (46, [some (.inr (.inr (some 2))), some (.inl 2), some (.inl t), some (.inl r), some (.inl i), some (.inl x)], [.inr (.inl 0)], (zs (zup h 2 8 x) hl))) rfl ?_
    refine zH_ret (v := some (.inr (.inl 0))) rfl (fun q => absurd q (by decide)) ?_
    exact ⟨x, hx, Or.inl ⟨by omega, rfl, rfl⟩⟩
  · refine zH_go 1 (c' := (24, [some (.inr (.inr (some 2))), some (.inl 2), some (.inl t), some (.inl r), some (.inl i), some (.inl x)], [.inl 2], (zs (zup h 2 8 x) hl))) rfl ?_
    refine zH_call (M' := 92) (as := [.inl 2]) (T := []) rfl (p_isBook ⟨by decide, by decide⟩) (fun r' σ' pm => ?_)
    obtain ⟨rfl, rfl⟩ : r' = some (.inl 1) ∧ σ' = _ := by rcases pm with ⟨a, -, b⟩ | ⟨-, b, -⟩ <;> first | exact ⟨a, b⟩ | (exfalso; omega)
    show zH _ _ (27, [some (.inr (.inr (some 2))), some (.inl 2), some (.inl t), some (.inl r), some (.inl i), some (.inl x)], [.inl 1], (zs (zup h 2 8 x) hl)) _
    refine zH_bf (x := 1) (y := 0) (k := .eq) (c1 := (45, [some (.inr (.inr (some 2))), some (.inl 2), some (.inl t), some (.inl r), some (.inl i), some (.inl x)], [], (zs (zup h 2 8 x) hl))) (c2 := (30, [some (.inr (.inr (some 2))), some (.inl 2), some (.inl t), some (.inl r), some (.inl i), some (.inl x)], [], (zs (zup h 2 8 x) hl))) rfl ⟨by decide, by decide⟩ ⟨by decide, by decide⟩ (by show ¬ (1 = 0); decide) ?_
    refine zH_go 3 (c' := (35, [some (.inr (.inr (some 2))), some (.inl 2), some (.inl t), some (.inl r), some (.inl i), some (.inl x)], [.inl 2, .inr (.inr (some 82))], (zs (zup h 2 8 x) hl))) rfl ?_
    refine zH_np (P := 0 ≤ 2 ∧ 2 < ((3 : Nat) : Int)) (c' := (36, [some (.inr (.inr (some 2))), some (.inl 2), some (.inl t), some (.inl r), some (.inl i), some (.inl x)], [.inr (.inr (some 97))], (zs (zup h 2 8 x) hl))) rfl ⟨by decide, by decide⟩ ?_
    refine zH_go 2 (c' := (39, [some (.inr (.inr (some 2))), some (.inl 2), some (.inl t), some (.inl r), some (.inl i), some (.inl x)], [.inl i, .inl r, .inr (.inr (some 97))], (zs (zup h 2 8 x) hl))) rfl ?_
    have hnum : zHasNum (zup h 2 8 x) 97 98 r i := by show zHasNum h 97 98 r i; unfold zWN at hx; unfold zHasNum; have hb8 := hZ r.toNat; unfold zHasRow at hx ⊢; omega
    refine zH_call (M' := 9) (as := [.inr (.inr (some 97)), .inl r, .inl i]) (T := []) rfl (p_bRead2 hr hi hR hZ) (fun r' σ' pm => ?_)
    obtain ⟨y, hy, rfl, rfl⟩ := pm
    obtain rfl : y = hl (100 + Int.toNat r) (Int.toNat i) := by rcases hy with ⟨-, e⟩ | ⟨e, -⟩ <;> first | exact e | exact absurd hnum e
    show zH _ _ (42, [some (.inr (.inr (some 2))), some (.inl 2), some (.inl t), some (.inl r), some (.inl i), some (.inl x)], [.inr (.inl (hl (100 + Int.toNat r) (Int.toNat i)))], (zs (zup h 2 8 x) hl)) _
    refine zH_go 1 (c' := (46, [some (.inr (.inr (some 2))), some (.inl 2), some (.inl t), some (.inl r), some (.inl i), some (.inl x)], [.inr (.inl (hl (100 + Int.toNat r) (Int.toNat i)))], (zs (zup h 2 8 x) hl))) rfl ?_
    refine zH_ret (v := some (.inr (.inl (hl (100 + Int.toNat r) (Int.toNat i))))) rfl (fun q => absurd q (by decide)) ?_
    exact ⟨x, hx, Or.inr ⟨by omega, rfl, rfl⟩⟩
