/-! The model: books. -/
set_option maxRecDepth 100000 in
set_option maxHeartbeats 4000000 in
theorem p_noO {d : Nat} {h hl : Nat → Nat → Int} {x : Int} : zQ (d + 1) 142 [.inr (.inr (some 104)), .inl x] (zs h hl) (fun r' σ' => r' = some (.inl x) ∧ σ' = zs (zup h 104 1 x) hl) := by
  refine zQ_of (Nat.le_of_ble_eq_true rfl) ?_
  show zH d 142 (0, [some (.inr (.inr (some 104))), some (.inl x)], [], (zs h hl)) _
  refine zH_go 4 (c' := (6, [some (.inr (.inr (some 104))), some (.inl x)], [.inl x], (zs (zup h 104 1 x) hl))) rfl ?_
  refine zH_ret (v := some (.inl x)) rfl (fun q => absurd q (by decide)) ?_
  exact ⟨rfl, rfl⟩
set_option maxRecDepth 100000 in
set_option maxHeartbeats 4000000 in
theorem p_bookXO {d : Nat} {h0 h hl : Nat → Nat → Int} (e0 : zup h0 104 0 0 = h) {b : Int} (hb : zr b) (hnb : ¬ (0 ≤ b ∧ b < 3)) {t n : Int} : zQ (d + 2) 143 [.inr (.inr (some 104)), .inl b, .inl t, .inl n] (zs h0 hl) (fun r' σ' => r' = some (.inl (-1)) ∧ σ' = zs (zup (zup h 104 1 0) 104 1 (-1)) hl) := by
  refine zQ_of (Nat.le_of_ble_eq_true rfl) ?_
  show zH (d + 1) 143 (0, [some (.inr (.inr (some 104))), some (.inl b), some (.inl t), some (.inl n), none], [], (zs h0 hl)) _
  refine zH_go 3 (c' := (5, [some (.inr (.inr (some 104))), some (.inl b), some (.inl t), some (.inl n), none], [], (zs (zup h0 104 0 0) hl))) rfl ?_
  rw [e0]
  refine zH_go 4 (c' := (11, [some (.inr (.inr (some 104))), some (.inl b), some (.inl t), some (.inl n), none], [.inl b], (zs (zup h 104 1 0) hl))) rfl ?_
  refine zH_np (P := zr b) (c' := (12, [some (.inr (.inr (some 104))), some (.inl b), some (.inl t), some (.inl n), none], [.inr (.inl b)], (zs (zup h 104 1 0) hl))) rfl (by first | assumption | (unfold zr; omega)) ?_
  refine zH_go 2 (c' := (16, [some (.inr (.inr (some 104))), some (.inl b), some (.inl t), some (.inl n), none], [.inr (.inl 2), .inr (.inl 0), .inr (.inl b)], (zs (zup h 104 1 0) hl))) rfl ?_
  refine zH_call (M' := 103) (as := [.inr (.inl b), .inr (.inl 0), .inr (.inl 2)]) (T := []) rfl (p_in (by first | assumption | exact zr_l (by assumption) | (unfold zrl; omega)) ⟨by decide, by decide⟩ ⟨by decide, by decide⟩) (fun r σ' p_1 => ?_)
  rcases p_1 with ⟨rfl, b_2, rfl⟩ | ⟨rfl, b_2, rfl⟩
  · exfalso; omega
  · show zH _ _ (19, [some (.inr (.inr (some 104))), some (.inl b), some (.inl t), some (.inl n), none], [.inl 0], (zs (zup h 104 1 0) hl)) _
    refine zH_bt (x := 0) (y := 0) (k := .eq) (c1 := (39, [some (.inr (.inr (some 104))), some (.inl b), some (.inl t), some (.inl n), none], [], (zs (zup h 104 1 0) hl))) (c2 := (22, [some (.inr (.inr (some 104))), some (.inl b), some (.inl t), some (.inl n), none], [], (zs (zup h 104 1 0) hl))) rfl ⟨by decide, by decide⟩ ⟨by decide, by decide⟩ (by show 0 = 0; decide) ?_
    refine zH_go 2 (c' := (41, [some (.inr (.inr (some 104))), some (.inl b), some (.inl t), some (.inl n), none], [.inl (-1), .inr (.inr (some 104))], (zs (zup h 104 1 0) hl))) rfl ?_
    refine zH_call (M' := 142) (as := [.inr (.inr (some 104)), .inl (-1)]) (T := []) rfl p_noO (fun r' σ' p_3 => ?_)
    obtain ⟨rfl, rfl⟩ := p_3
    show zH _ _ (44, [some (.inr (.inr (some 104))), some (.inl b), some (.inl t), some (.inl n), none], [.inl (-1)], (zs (zup (zup h 104 1 0) 104 1 (-1)) hl)) _
    refine zH_ret (v := some (.inl (-1))) rfl (fun q => absurd q (by decide)) ?_
    first | exact ⟨rfl, rfl⟩ | (exfalso; omega)
set_option maxRecDepth 100000 in
set_option maxHeartbeats 4000000 in
theorem p_rowXO {d : Nat} {h0 h hl : Nat → Nat → Int} (e0 : zup h0 104 0 0 = h) {b : Int} (hb : zr b) (hnb : ¬ (0 ≤ b ∧ b < 3)) {r n : Int} : zQ (d + 2) 144 [.inr (.inr (some 104)), .inl b, .inl r, .inl n] (zs h0 hl) (fun r' σ' => r' = some (.inl (-1)) ∧ σ' = zs (zup (zup h 104 1 0) 104 1 (-1)) hl) := by
  refine zQ_of (Nat.le_of_ble_eq_true rfl) ?_
  show zH (d + 1) 144 (0, [some (.inr (.inr (some 104))), some (.inl b), some (.inl r), some (.inl n), none], [], (zs h0 hl)) _
  refine zH_go 3 (c' := (5, [some (.inr (.inr (some 104))), some (.inl b), some (.inl r), some (.inl n), none], [], (zs (zup h0 104 0 0) hl))) rfl ?_
  rw [e0]
  refine zH_go 4 (c' := (11, [some (.inr (.inr (some 104))), some (.inl b), some (.inl r), some (.inl n), none], [.inl b], (zs (zup h 104 1 0) hl))) rfl ?_
  refine zH_np (P := zr b) (c' := (12, [some (.inr (.inr (some 104))), some (.inl b), some (.inl r), some (.inl n), none], [.inr (.inl b)], (zs (zup h 104 1 0) hl))) rfl (by first | assumption | (unfold zr; omega)) ?_
  refine zH_go 2 (c' := (16, [some (.inr (.inr (some 104))), some (.inl b), some (.inl r), some (.inl n), none], [.inr (.inl 2), .inr (.inl 0), .inr (.inl b)], (zs (zup h 104 1 0) hl))) rfl ?_
  refine zH_call (M' := 103) (as := [.inr (.inl b), .inr (.inl 0), .inr (.inl 2)]) (T := []) rfl (p_in (by first | assumption | exact zr_l (by assumption) | (unfold zrl; omega)) ⟨by decide, by decide⟩ ⟨by decide, by decide⟩) (fun r σ' p_1 => ?_)
  rcases p_1 with ⟨rfl, b_2, rfl⟩ | ⟨rfl, b_2, rfl⟩
  · exfalso; omega
  · show zH _ _ (19, [some (.inr (.inr (some 104))), some (.inl b), some (.inl r), some (.inl n), none], [.inl 0], (zs (zup h 104 1 0) hl)) _
    refine zH_bt (x := 0) (y := 0) (k := .eq) (c1 := (28, [some (.inr (.inr (some 104))), some (.inl b), some (.inl r), some (.inl n), none], [], (zs (zup h 104 1 0) hl))) (c2 := (22, [some (.inr (.inr (some 104))), some (.inl b), some (.inl r), some (.inl n), none], [], (zs (zup h 104 1 0) hl))) rfl ⟨by decide, by decide⟩ ⟨by decide, by decide⟩ (by show 0 = 0; decide) ?_
    refine zH_go 2 (c' := (30, [some (.inr (.inr (some 104))), some (.inl b), some (.inl r), some (.inl n), none], [.inl (-1), .inr (.inr (some 104))], (zs (zup h 104 1 0) hl))) rfl ?_
    refine zH_call (M' := 142) (as := [.inr (.inr (some 104)), .inl (-1)]) (T := []) rfl p_noO (fun r' σ' p_3 => ?_)
    obtain ⟨rfl, rfl⟩ := p_3
    show zH _ _ (33, [some (.inr (.inr (some 104))), some (.inl b), some (.inl r), some (.inl n), none], [.inl (-1)], (zs (zup (zup h 104 1 0) 104 1 (-1)) hl)) _
    refine zH_ret (v := some (.inl (-1))) rfl (fun q => absurd q (by decide)) ?_
    first | exact ⟨rfl, rfl⟩ | (exfalso; omega)
set_option maxRecDepth 100000 in
set_option maxHeartbeats 4000000 in
theorem p_wrXO {d : Nat} {h hl : Nat → Nat → Int} {b : Int} (hb : zr b) (hnb : ¬ (0 ≤ b ∧ b < 3)) {t r i : Int} : zQ (d + 2) 145 [.inr (.inr (some 104)), .inl b, .inl t, .inl r, .inl i] (zs h hl) (zI1 (-1) (zs h hl)) := by
  refine zQ_of (Nat.le_of_ble_eq_true rfl) ?_
  show zH (d + 1) 145 (0, [some (.inr (.inr (some 104))), some (.inl b), some (.inl t), some (.inl r), some (.inl i), none], [], (zs h hl)) _
  refine zH_go 1 (c' := (1, [some (.inr (.inr (some 104))), some (.inl b), some (.inl t), some (.inl r), some (.inl i), none], [.inl b], (zs h hl))) rfl ?_
  refine zH_np (P := zr b) (c' := (2, [some (.inr (.inr (some 104))), some (.inl b), some (.inl t), some (.inl r), some (.inl i), none], [.inr (.inl b)], (zs h hl))) rfl (by first | assumption | (unfold zr; omega)) ?_
  refine zH_go 2 (c' := (6, [some (.inr (.inr (some 104))), some (.inl b), some (.inl t), some (.inl r), some (.inl i), none], [.inr (.inl 2), .inr (.inl 0), .inr (.inl b)], (zs h hl))) rfl ?_
  refine zH_call (M' := 103) (as := [.inr (.inl b), .inr (.inl 0), .inr (.inl 2)]) (T := []) rfl (p_in (by first | assumption | exact zr_l (by assumption) | (unfold zrl; omega)) ⟨by decide, by decide⟩ ⟨by decide, by decide⟩) (fun r σ' p_1 => ?_)
  rcases p_1 with ⟨rfl, b_2, rfl⟩ | ⟨rfl, b_2, rfl⟩
  · exfalso; omega
  · show zH _ _ (9, [some (.inr (.inr (some 104))), some (.inl b), some (.inl t), some (.inl r), some (.inl i), none], [.inl 0], (zs h hl)) _
    refine zH_bt (x := 0) (y := 0) (k := .eq) (c1 := (24, [some (.inr (.inr (some 104))), some (.inl b), some (.inl t), some (.inl r), some (.inl i), none], [], (zs h hl))) (c2 := (12, [some (.inr (.inr (some 104))), some (.inl b), some (.inl t), some (.inl r), some (.inl i), none], [], (zs h hl))) rfl ⟨by decide, by decide⟩ ⟨by decide, by decide⟩ (by show 0 = 0; decide) ?_
    refine zH_go 1 (c' := (25, [some (.inr (.inr (some 104))), some (.inl b), some (.inl t), some (.inl r), some (.inl i), none], [.inl (-1)], (zs h hl))) rfl ?_
    refine zH_ret (v := some (.inl (-1))) rfl (fun q => absurd q (by decide)) ?_
    first | exact ⟨rfl, rfl⟩ | (exfalso; omega)
set_option maxRecDepth 100000 in
set_option maxHeartbeats 4000000 in
theorem p_putXO {d : Nat} {h0 h hl : Nat → Nat → Int} (e0 : zup h0 104 0 0 = h) {b : Int} (hb : zr b) (hnb : ¬ (0 ≤ b ∧ b < 3)) {t r i v : Int} : zQ (d + 3) 146 [.inr (.inr (some 104)), .inl b, .inl t, .inl r, .inl i, .inr (.inl v)] (zs h0 hl) (fun r' σ' => r' = some (.inl (-1)) ∧ σ' = zs (zup h 104 1 (-1)) hl) := by
  refine zQ_of (Nat.le_of_ble_eq_true rfl) ?_
  show zH (d + 2) 146 (0, [some (.inr (.inr (some 104))), some (.inl b), some (.inl t), some (.inl r), some (.inl i), some (.inr (.inl v)), none], [], (zs h0 hl)) _
  refine zH_go 3 (c' := (5, [some (.inr (.inr (some 104))), some (.inl b), some (.inl t), some (.inl r), some (.inl i), some (.inr (.inl v)), none], [], (zs (zup h0 104 0 0) hl))) rfl ?_
  rw [e0]
  refine zH_go 6 (c' := (12, [some (.inr (.inr (some 104))), some (.inl b), some (.inl t), some (.inl r), some (.inl i), some (.inr (.inl v)), none], [.inl i, .inl r, .inl t, .inl b, .inr (.inr (some 104)), .inr (.inr (some 104))], (zs h hl))) rfl ?_
  refine zH_call (M' := 145) (as := [.inr (.inr (some 104)), .inl b, .inl t, .inl r, .inl i]) (T := [.inr (.inr (some 104))]) rfl (p_wrXO hb hnb) (fun r' σ' p_1 => ?_)
  obtain ⟨rfl, rfl⟩ := p_1
  show zH _ _ (15, [some (.inr (.inr (some 104))), some (.inl b), some (.inl t), some (.inl r), some (.inl i), some (.inr (.inl v)), none], [.inl (-1), .inr (.inr (some 104))], (zs h hl)) _
  refine zH_go 3 (c' := (22, [some (.inr (.inr (some 104))), some (.inl b), some (.inl t), some (.inl r), some (.inl i), some (.inr (.inl v)), none], [.inl (-1)], (zs (zup h 104 1 (-1)) hl))) rfl ?_
  refine zH_bf (x := (-1)) (y := 0) (k := .ge) (c1 := (30, [some (.inr (.inr (some 104))), some (.inl b), some (.inl t), some (.inl r), some (.inl i), some (.inr (.inl v)), none], [], (zs (zup h 104 1 (-1)) hl))) (c2 := (25, [some (.inr (.inr (some 104))), some (.inl b), some (.inl t), some (.inl r), some (.inl i), some (.inr (.inl v)), none], [], (zs (zup h 104 1 (-1)) hl))) rfl ⟨by decide, by decide⟩ ⟨by decide, by decide⟩ (by show ¬ (¬ (-1) < 0); decide) ?_
  refine zH_go 2 (c' := (29, [some (.inr (.inr (some 104))), some (.inl b), some (.inl t), some (.inl r), some (.inl i), some (.inr (.inl v)), none], [.inl (-1)], (zs (zup h 104 1 (-1)) hl))) rfl ?_
  refine zH_ret (v := some (.inl (-1))) rfl (fun q => absurd q (by decide)) ?_
  first | exact ⟨rfl, rfl⟩ | (exfalso; omega)
set_option maxRecDepth 100000 in
set_option maxHeartbeats 4000000 in
theorem p_itemXO {d : Nat} {h0 h hl : Nat → Nat → Int} (e0 : zup h0 104 0 0 = h) {b : Int} (hb : zr b) (hnb : ¬ (0 ≤ b ∧ b < 3)) {t r i : Int} : zQ (d + 3) 147 [.inr (.inr (some 104)), .inl b, .inl t, .inl r, .inl i] (zs h0 hl) (fun r' σ' => r' = some (.inr (.inl 0)) ∧ σ' = zs (zup h 104 1 (-1)) hl) := by
  refine zQ_of (Nat.le_of_ble_eq_true rfl) ?_
  show zH (d + 2) 147 (0, [some (.inr (.inr (some 104))), some (.inl b), some (.inl t), some (.inl r), some (.inl i)], [], (zs h0 hl)) _
  refine zH_go 3 (c' := (5, [some (.inr (.inr (some 104))), some (.inl b), some (.inl t), some (.inl r), some (.inl i)], [], (zs (zup h0 104 0 0) hl))) rfl ?_
  rw [e0]
  refine zH_go 6 (c' := (12, [some (.inr (.inr (some 104))), some (.inl b), some (.inl t), some (.inl r), some (.inl i)], [.inl i, .inl r, .inl t, .inl b, .inr (.inr (some 104)), .inr (.inr (some 104))], (zs h hl))) rfl ?_
  refine zH_call (M' := 145) (as := [.inr (.inr (some 104)), .inl b, .inl t, .inl r, .inl i]) (T := [.inr (.inr (some 104))]) rfl (p_wrXO hb hnb) (fun r' σ' p_1 => ?_)
  obtain ⟨rfl, rfl⟩ := p_1
  show zH _ _ (15, [some (.inr (.inr (some 104))), some (.inl b), some (.inl t), some (.inl r), some (.inl i)], [.inl (-1), .inr (.inr (some 104))], (zs h hl)) _
  refine zH_go 3 (c' := (22, [some (.inr (.inr (some 104))), some (.inl b), some (.inl t), some (.inl r), some (.inl i)], [.inl (-1)], (zs (zup h 104 1 (-1)) hl))) rfl ?_
  refine zH_bf (x := (-1)) (y := 0) (k := .ge) (c1 := (29, [some (.inr (.inr (some 104))), some (.inl b), some (.inl t), some (.inl r), some (.inl i)], [], (zs (zup h 104 1 (-1)) hl))) (c2 := (25, [some (.inr (.inr (some 104))), some (.inl b), some (.inl t), some (.inl r), some (.inl i)], [], (zs (zup h 104 1 (-1)) hl))) rfl ⟨by decide, by decide⟩ ⟨by decide, by decide⟩ (by show ¬ (¬ (-1) < 0); decide) ?_
  refine zH_go 2 (c' := (46, [some (.inr (.inr (some 104))), some (.inl b), some (.inl t), some (.inl r), some (.inl i)], [.inr (.inl 0)], (zs (zup h 104 1 (-1)) hl))) rfl ?_
  refine zH_ret (v := some (.inr (.inl 0))) rfl (fun q => absurd q (by decide)) ?_
  first | exact ⟨rfl, rfl⟩ | (exfalso; omega)
set_option maxRecDepth 100000 in
set_option maxHeartbeats 4000000 in
theorem p_roadsXO {d : Nat} {h0 h hl : Nat → Nat → Int} (e0 : zup h0 104 0 0 = h) {b : Int} (hb : zr b) (hnb : ¬ (0 ≤ b ∧ b < 3)) : zQ (d + 2) 148 [.inr (.inr (some 104)), .inl b] (zs h0 hl) (fun r' σ' => r' = some (.inl (-1)) ∧ σ' = zs (zup (zup h 104 1 0) 104 1 (-1)) hl) := by
  refine zQ_of (Nat.le_of_ble_eq_true rfl) ?_
  show zH (d + 1) 148 (0, [some (.inr (.inr (some 104))), some (.inl b), none, none, none, none, none], [], (zs h0 hl)) _
  refine zH_go 3 (c' := (5, [some (.inr (.inr (some 104))), some (.inl b), none, none, none, none, none], [], (zs (zup h0 104 0 0) hl))) rfl ?_
  rw [e0]
  refine zH_go 4 (c' := (11, [some (.inr (.inr (some 104))), some (.inl b), none, none, none, none, none], [.inl b], (zs (zup h 104 1 0) hl))) rfl ?_
  refine zH_np (P := zr b) (c' := (12, [some (.inr (.inr (some 104))), some (.inl b), none, none, none, none, none], [.inr (.inl b)], (zs (zup h 104 1 0) hl))) rfl (by first | assumption | (unfold zr; omega)) ?_
  refine zH_go 2 (c' := (16, [some (.inr (.inr (some 104))), some (.inl b), none, none, none, none, none], [.inr (.inl 2), .inr (.inl 0), .inr (.inl b)], (zs (zup h 104 1 0) hl))) rfl ?_
  refine zH_call (M' := 103) (as := [.inr (.inl b), .inr (.inl 0), .inr (.inl 2)]) (T := []) rfl (p_in (by first | assumption | exact zr_l (by assumption) | (unfold zrl; omega)) ⟨by decide, by decide⟩ ⟨by decide, by decide⟩) (fun r σ' p_1 => ?_)
  rcases p_1 with ⟨rfl, b_2, rfl⟩ | ⟨rfl, b_2, rfl⟩
  · exfalso; omega
  · show zH _ _ (19, [some (.inr (.inr (some 104))), some (.inl b), none, none, none, none, none], [.inl 0], (zs (zup h 104 1 0) hl)) _
    refine zH_bf (x := 0) (y := 0) (k := .ne) (c1 := (28, [some (.inr (.inr (some 104))), some (.inl b), none, none, none, none, none], [], (zs (zup h 104 1 0) hl))) (c2 := (22, [some (.inr (.inr (some 104))), some (.inl b), none, none, none, none, none], [], (zs (zup h 104 1 0) hl))) rfl ⟨by decide, by decide⟩ ⟨by decide, by decide⟩ (by show ¬ (¬ 0 = 0); decide) ?_
    refine zH_go 2 (c' := (24, [some (.inr (.inr (some 104))), some (.inl b), none, none, none, none, none], [.inl (-1), .inr (.inr (some 104))], (zs (zup h 104 1 0) hl))) rfl ?_
    refine zH_call (M' := 142) (as := [.inr (.inr (some 104)), .inl (-1)]) (T := []) rfl p_noO (fun r' σ' p_3 => ?_)
    obtain ⟨rfl, rfl⟩ := p_3
    show zH _ _ (27, [some (.inr (.inr (some 104))), some (.inl b), none, none, none, none, none], [.inl (-1)], (zs (zup (zup h 104 1 0) 104 1 (-1)) hl)) _
    refine zH_ret (v := some (.inl (-1))) rfl (fun q => absurd q (by decide)) ?_
    first | exact ⟨rfl, rfl⟩ | (exfalso; omega)
set_option maxRecDepth 100000 in
set_option maxHeartbeats 4000000 in
theorem p_callsXO {d : Nat} {h0 h hl : Nat → Nat → Int} (e0 : zup h0 104 0 0 = h) {b : Int} (hb : zr b) (hnb : ¬ (0 ≤ b ∧ b < 3)) {r : Int} : zQ (d + 2) 149 [.inr (.inr (some 104)), .inl b, .inl r] (zs h0 hl) (fun r' σ' => r' = some (.inl (-1)) ∧ σ' = zs (zup (zup h 104 1 0) 104 1 (-1)) hl) := by
  refine zQ_of (Nat.le_of_ble_eq_true rfl) ?_
  show zH (d + 1) 149 (0, [some (.inr (.inr (some 104))), some (.inl b), some (.inl r), none, none, none, none, none], [], (zs h0 hl)) _
  refine zH_go 3 (c' := (5, [some (.inr (.inr (some 104))), some (.inl b), some (.inl r), none, none, none, none, none], [], (zs (zup h0 104 0 0) hl))) rfl ?_
  rw [e0]
  refine zH_go 4 (c' := (11, [some (.inr (.inr (some 104))), some (.inl b), some (.inl r), none, none, none, none, none], [.inl b], (zs (zup h 104 1 0) hl))) rfl ?_
  refine zH_np (P := zr b) (c' := (12, [some (.inr (.inr (some 104))), some (.inl b), some (.inl r), none, none, none, none, none], [.inr (.inl b)], (zs (zup h 104 1 0) hl))) rfl (by first | assumption | (unfold zr; omega)) ?_
  refine zH_go 2 (c' := (16, [some (.inr (.inr (some 104))), some (.inl b), some (.inl r), none, none, none, none, none], [.inr (.inl 2), .inr (.inl 0), .inr (.inl b)], (zs (zup h 104 1 0) hl))) rfl ?_
  refine zH_call (M' := 103) (as := [.inr (.inl b), .inr (.inl 0), .inr (.inl 2)]) (T := []) rfl (p_in (by first | assumption | exact zr_l (by assumption) | (unfold zrl; omega)) ⟨by decide, by decide⟩ ⟨by decide, by decide⟩) (fun r σ' p_1 => ?_)
  rcases p_1 with ⟨rfl, b_2, rfl⟩ | ⟨rfl, b_2, rfl⟩
  · exfalso; omega
  · show zH _ _ (19, [some (.inr (.inr (some 104))), some (.inl b), some (.inl r), none, none, none, none, none], [.inl 0], (zs (zup h 104 1 0) hl)) _
    refine zH_bf (x := 0) (y := 0) (k := .ne) (c1 := (28, [some (.inr (.inr (some 104))), some (.inl b), some (.inl r), none, none, none, none, none], [], (zs (zup h 104 1 0) hl))) (c2 := (22, [some (.inr (.inr (some 104))), some (.inl b), some (.inl r), none, none, none, none, none], [], (zs (zup h 104 1 0) hl))) rfl ⟨by decide, by decide⟩ ⟨by decide, by decide⟩ (by show ¬ (¬ 0 = 0); decide) ?_
    refine zH_go 2 (c' := (24, [some (.inr (.inr (some 104))), some (.inl b), some (.inl r), none, none, none, none, none], [.inl (-1), .inr (.inr (some 104))], (zs (zup h 104 1 0) hl))) rfl ?_
    refine zH_call (M' := 142) (as := [.inr (.inr (some 104)), .inl (-1)]) (T := []) rfl p_noO (fun r' σ' p_3 => ?_)
    obtain ⟨rfl, rfl⟩ := p_3
    show zH _ _ (27, [some (.inr (.inr (some 104))), some (.inl b), some (.inl r), none, none, none, none, none], [.inl (-1)], (zs (zup (zup h 104 1 0) 104 1 (-1)) hl)) _
    refine zH_ret (v := some (.inl (-1))) rfl (fun q => absurd q (by decide)) ?_
    first | exact ⟨rfl, rfl⟩ | (exfalso; omega)
/-- what is wrong with a number's place -/
def zWO (h : Nat → Nat → Int) (b : Nat) (t r i x : Int) : Prop := (¬ (0 ≤ t ∧ t ≤ 3) ∧ x = -1) ∨ ((0 ≤ t ∧ t ≤ 3) ∧ ((h 119 b = 0 ∧ x = -11) ∨ (¬ h 119 b = 0 ∧ ((¬ h 120 b = t ∧ x = -13) ∨ (h 120 b = t ∧ ((¬ (0 ≤ r ∧ r < h 121 b) ∧ x = -12) ∨ ((0 ≤ r ∧ r < h 121 b) ∧ ((h 122 (4 * b + r.toNat) = -9 ∧ x = -11) ∨ (¬ h 122 (4 * b + r.toNat) = -9 ∧ ((¬ (0 ≤ i ∧ i < h 122 (4 * b + r.toNat)) ∧ x = -12) ∨ ((0 ≤ i ∧ i < h 122 (4 * b + r.toNat)) ∧ x = 0)))))))))))
theorem zWO_b {h : Nat → Nat → Int} {b : Nat} {t r i x : Int} (w : zWO h b t r i x) : -13 ≤ x ∧ x ≤ 0 := by
  unfold zWO at w
  omega
theorem zWO_0 {h : Nat → Nat → Int} {b : Nat} {t r i : Int} (w : zWO h b t r i 0) : (0 ≤ t ∧ t ≤ 3) ∧ (0 ≤ r ∧ r < h 121 b) ∧ 0 ≤ i ∧ i < h 122 (4 * b + r.toNat) := by
  unfold zWO at w
  omega
/-- the model's books are as they can be -/
def zMbk (h hl : Nat → Nat → Int) (b : Nat) : Prop := (h 119 b = 0 ∨ h 119 b = 1) ∧ (0 ≤ h 121 b ∧ h 121 b ≤ 4) ∧ (0 ≤ h 120 b ∧ h 120 b ≤ 3) ∧ (∀ q : Nat, q < 4 → h 122 (4 * b + q) = -9 ∨ (0 ≤ h 122 (4 * b + q) ∧ h 122 (4 * b + q) ≤ 8)) ∧ ∀ q i : Nat, q < 4 → i < 8 → zrl (hl 123 (32 * b + 8 * q + i))
set_option maxRecDepth 100000 in
set_option maxHeartbeats 4000000 in
theorem p_bookO0 {d : Nat} {h0 h hl : Nat → Nat → Int} (e0 : zup h0 104 0 0 = h) {t n : Int} (ht : zr t) (hn : zr n) : zQ (d + 2) 143 [.inr (.inr (some 104)), .inl 0, .inl t, .inl n] (zs h0 hl) (fun r' σ' => (¬ ((0 ≤ t ∧ t ≤ 3) ∧ n ≤ 4) ∧ r' = some (.inl (-1)) ∧ σ' = zs (zup (zup h 104 1 0) 104 1 (-1)) hl) ∨ (((0 ≤ t ∧ t ≤ 3) ∧ n ≤ 4) ∧ n < 0 ∧ r' = some (.inl (-15)) ∧ σ' = zs (zup (zup h 104 1 0) 104 1 (-15)) hl) ∨ (((0 ≤ t ∧ t ≤ 3) ∧ n ≤ 4) ∧ 0 ≤ n ∧ r' = some (.inl 1) ∧ σ' = zs (zup (zup (zup (zup (zup (zup (zup (zup h 104 1 0) 119 0 1) 120 0 t) 121 0 n) 122 0 (-9)) 122 1 (-9)) 122 2 (-9)) 122 3 (-9)) hl)) := by
  refine zQ_of (Nat.le_of_ble_eq_true rfl) ?_
  show zH (d + 1) 143 (0, [some (.inr (.inr (some 104))), some (.inl 0), some (.inl t), some (.inl n), none], [], (zs h0 hl)) _
  refine zH_go 3 (c' := (5, [some (.inr (.inr (some 104))), some (.inl 0), some (.inl t), some (.inl n), none], [], (zs (zup h0 104 0 0) hl))) rfl ?_
  rw [e0]
  refine zH_go 4 (c' := (11, [some (.inr (.inr (some 104))), some (.inl 0), some (.inl t), some (.inl n), none], [.inl 0], (zs (zup h 104 1 0) hl))) rfl ?_
  refine zH_np (P := zr 0) (c' := (12, [some (.inr (.inr (some 104))), some (.inl 0), some (.inl t), some (.inl n), none], [.inr (.inl 0)], (zs (zup h 104 1 0) hl))) rfl ⟨by decide, by decide⟩ ?_
  refine zH_go 2 (c' := (16, [some (.inr (.inr (some 104))), some (.inl 0), some (.inl t), some (.inl n), none], [.inr (.inl 2), .inr (.inl 0), .inr (.inl 0)], (zs (zup h 104 1 0) hl))) rfl ?_
  refine zH_call (M' := 103) (as := [.inr (.inl 0), .inr (.inl 0), .inr (.inl 2)]) (T := []) rfl (p_in ⟨by decide, by decide⟩ ⟨by decide, by decide⟩ ⟨by decide, by decide⟩) (fun r σ' p_1 => ?_)
  rcases p_1 with ⟨rfl, b_2, rfl⟩ | ⟨rfl, b_2, rfl⟩
  · show zH _ _ (19, [some (.inr (.inr (some 104))), some (.inl 0), some (.inl t), some (.inl n), none], [.inl 1], (zs (zup h 104 1 0) hl)) _
    refine zH_bf (x := 1) (y := 0) (k := .eq) (c1 := (39, [some (.inr (.inr (some 104))), some (.inl 0), some (.inl t), some (.inl n), none], [], (zs (zup h 104 1 0) hl))) (c2 := (22, [some (.inr (.inr (some 104))), some (.inl 0), some (.inl t), some (.inl n), none], [], (zs (zup h 104 1 0) hl))) rfl ⟨by decide, by decide⟩ ⟨by decide, by decide⟩ (by show ¬ (1 = 0); decide) ?_
    refine zH_go 1 (c' := (23, [some (.inr (.inr (some 104))), some (.inl 0), some (.inl t), some (.inl n), none], [.inl t], (zs (zup h 104 1 0) hl))) rfl ?_
    refine zH_np (P := zr t) (c' := (24, [some (.inr (.inr (some 104))), some (.inl 0), some (.inl t), some (.inl n), none], [.inr (.inl t)], (zs (zup h 104 1 0) hl))) rfl (by first | assumption | (unfold zr; omega)) ?_
    refine zH_go 2 (c' := (28, [some (.inr (.inr (some 104))), some (.inl 0), some (.inl t), some (.inl n), none], [.inr (.inl 3), .inr (.inl 0), .inr (.inl t)], (zs (zup h 104 1 0) hl))) rfl ?_
    refine zH_call (M' := 103) (as := [.inr (.inl t), .inr (.inl 0), .inr (.inl 3)]) (T := []) rfl (p_in (by first | assumption | exact zr_l (by assumption) | (unfold zrl; omega)) ⟨by decide, by decide⟩ ⟨by decide, by decide⟩) (fun r σ' p_3 => ?_)
    rcases p_3 with ⟨rfl, b_4, rfl⟩ | ⟨rfl, b_4, rfl⟩
    · show zH _ _ (31, [some (.inr (.inr (some 104))), some (.inl 0), some (.inl t), some (.inl n), none], [.inl 1], (zs (zup h 104 1 0) hl)) _
      refine zH_bf (x := 1) (y := 0) (k := .eq) (c1 := (39, [some (.inr (.inr (some 104))), some (.inl 0), some (.inl t), some (.inl n), none], [], (zs (zup h 104 1 0) hl))) (c2 := (34, [some (.inr (.inr (some 104))), some (.inl 0), some (.inl t), some (.inl n), none], [], (zs (zup h 104 1 0) hl))) rfl ⟨by decide, by decide⟩ ⟨by decide, by decide⟩ (by show ¬ (1 = 0); decide) ?_
      refine zH_go 2 (c' := (36, [some (.inr (.inr (some 104))), some (.inl 0), some (.inl t), some (.inl n), none], [.inl 4, .inl n], (zs (zup h 104 1 0) hl))) rfl ?_
      refine zH_br (x := n) (y := 4) (k := .le) (c1 := (45, [some (.inr (.inr (some 104))), some (.inl 0), some (.inl t), some (.inl n), none], [], (zs (zup h 104 1 0) hl))) (c2 := (39, [some (.inr (.inr (some 104))), some (.inl 0), some (.inl t), some (.inl n), none], [], (zs (zup h 104 1 0) hl))) rfl (by first | assumption | (unfold zr; omega)) ⟨by decide, by decide⟩ (fun (b_5 : ¬ 4 < n) => ?_) (fun (b_5 : ¬ (¬ 4 < n)) => ?_)
      · refine zH_go 1 (c' := (46, [some (.inr (.inr (some 104))), some (.inl 0), some (.inl t), some (.inl n), none], [.inl n], (zs (zup h 104 1 0) hl))) rfl ?_
        refine zH_br (x := n) (y := 0) (k := .ge) (c1 := (56, [some (.inr (.inr (some 104))), some (.inl 0), some (.inl t), some (.inl n), none], [], (zs (zup h 104 1 0) hl))) (c2 := (49, [some (.inr (.inr (some 104))), some (.inl 0), some (.inl t), some (.inl n), none], [], (zs (zup h 104 1 0) hl))) rfl (by first | assumption | (unfold zr; omega)) ⟨by decide, by decide⟩ (fun (b_6 : ¬ n < 0) => ?_) (fun (b_6 : ¬ (¬ n < 0)) => ?_)
        · refine zH_go 4 (c' := (62, [some (.inr (.inr (some 104))), some (.inl 0), some (.inl t), some (.inl n), none], [.inl 1, .inl 0, .inr (.inr (some 119))], (zs (zup h 104 1 0) hl))) rfl ?_
          refine zH_np (P := (0 ≤ 0 ∧ 0 < ((3 : Nat) : Int)) ∧ (1 = 0 ∨ 1 = 1)) (c' := (63, [some (.inr (.inr (some 104))), some (.inl 0), some (.inl t), some (.inl n), none], [], (zs (zup (zup h 104 1 0) 119 0 1) hl))) rfl ⟨⟨by decide, by decide⟩, by decide⟩ ?_
          refine zH_go 4 (c' := (69, [some (.inr (.inr (some 104))), some (.inl 0), some (.inl t), some (.inl n), none], [.inl t, .inl 0, .inr (.inr (some 120))], (zs (zup (zup h 104 1 0) 119 0 1) hl))) rfl ?_
          refine zH_np (P := 0 ≤ 0 ∧ 0 < ((3 : Nat) : Int)) (c' := (70, [some (.inr (.inr (some 104))), some (.inl 0), some (.inl t), some (.inl n), none], [], (zs (zup (zup (zup h 104 1 0) 119 0 1) 120 0 t) hl))) rfl ⟨by decide, by decide⟩ ?_
          refine zH_go 4 (c' := (76, [some (.inr (.inr (some 104))), some (.inl 0), some (.inl t), some (.inl n), none], [.inl n, .inl 0, .inr (.inr (some 121))], (zs (zup (zup (zup h 104 1 0) 119 0 1) 120 0 t) hl))) rfl ?_
          refine zH_np (P := 0 ≤ 0 ∧ 0 < ((3 : Nat) : Int)) (c' := (77, [some (.inr (.inr (some 104))), some (.inl 0), some (.inl t), some (.inl n), none], [], (zs (zup (zup (zup (zup h 104 1 0) 119 0 1) 120 0 t) 121 0 n) hl))) rfl ⟨by decide, by decide⟩ ?_
          refine zH_go 4 (c' := (83, [some (.inr (.inr (some 104))), some (.inl 0), some (.inl t), some (.inl n), some (.inl 0)], [.inl 4, .inl 0], (zs (zup (zup (zup (zup h 104 1 0) 119 0 1) 120 0 t) 121 0 n) hl))) rfl ?_
          refine zH_bf (x := 0) (y := 4) (k := .ge) (c1 := (105, [some (.inr (.inr (some 104))), some (.inl 0), some (.inl t), some (.inl n), some (.inl 0)], [], (zs (zup (zup (zup (zup h 104 1 0) 119 0 1) 120 0 t) 121 0 n) hl))) (c2 := (86, [some (.inr (.inr (some 104))), some (.inl 0), some (.inl t), some (.inl n), some (.inl 0)], [], (zs (zup (zup (zup (zup h 104 1 0) 119 0 1) 120 0 t) 121 0 n) hl))) rfl ⟨by decide, by decide⟩ ⟨by decide, by decide⟩ (by show ¬ (¬ 0 < 4); decide) ?_
          refine zH_go 8 (c' := (98, [some (.inr (.inr (some 104))), some (.inl 0), some (.inl t), some (.inl n), some (.inl 0)], [.inl (-9), .inl 0, .inr (.inr (some 122))], (zs (zup (zup (zup (zup h 104 1 0) 119 0 1) 120 0 t) 121 0 n) hl))) rfl ?_
          refine zH_np (P := 0 ≤ 0 ∧ 0 < ((12 : Nat) : Int)) (c' := (99, [some (.inr (.inr (some 104))), some (.inl 0), some (.inl t), some (.inl n), some (.inl 0)], [], (zs (zup (zup (zup (zup (zup h 104 1 0) 119 0 1) 120 0 t) 121 0 n) 122 0 (-9)) hl))) rfl ⟨by decide, by decide⟩ ?_
          refine zH_go 4 (c' := (83, [some (.inr (.inr (some 104))), some (.inl 0), some (.inl t), some (.inl n), some (.inl 1)], [.inl 4, .inl 1], (zs (zup (zup (zup (zup (zup h 104 1 0) 119 0 1) 120 0 t) 121 0 n) 122 0 (-9)) hl))) rfl ?_
          refine zH_bf (x := 1) (y := 4) (k := .ge) (c1 := (105, [some (.inr (.inr (some 104))), some (.inl 0), some (.inl t), some (.inl n), some (.inl 1)], [], (zs (zup (zup (zup (zup (zup h 104 1 0) 119 0 1) 120 0 t) 121 0 n) 122 0 (-9)) hl))) (c2 := (86, [some (.inr (.inr (some 104))), some (.inl 0), some (.inl t), some (.inl n), some (.inl 1)], [], (zs (zup (zup (zup (zup (zup h 104 1 0) 119 0 1) 120 0 t) 121 0 n) 122 0 (-9)) hl))) rfl ⟨by decide, by decide⟩ ⟨by decide, by decide⟩ (by show ¬ (¬ 1 < 4); decide) ?_
          refine zH_go 8 (c' := (98, [some (.inr (.inr (some 104))), some (.inl 0), some (.inl t), some (.inl n), some (.inl 1)], [.inl (-9), .inl 1, .inr (.inr (some 122))], (zs (zup (zup (zup (zup (zup h 104 1 0) 119 0 1) 120 0 t) 121 0 n) 122 0 (-9)) hl))) rfl ?_
          refine zH_np (P := 0 ≤ 1 ∧ 1 < ((12 : Nat) : Int)) (c' := (99, [some (.inr (.inr (some 104))), some (.inl 0), some (.inl t), some (.inl n), some (.inl 1)], [], (zs (zup (zup (zup (zup (zup (zup h 104 1 0) 119 0 1) 120 0 t) 121 0 n) 122 0 (-9)) 122 1 (-9)) hl))) rfl ⟨by decide, by decide⟩ ?_
          refine zH_go 4 (c' := (83, [some (.inr (.inr (some 104))), some (.inl 0), some (.inl t), some (.inl n), some (.inl 2)], [.inl 4, .inl 2], (zs (zup (zup (zup (zup (zup (zup h 104 1 0) 119 0 1) 120 0 t) 121 0 n) 122 0 (-9)) 122 1 (-9)) hl))) rfl ?_
          refine zH_bf (x := 2) (y := 4) (k := .ge) (c1 := (105, [some (.inr (.inr (some 104))), some (.inl 0), some (.inl t), some (.inl n), some (.inl 2)], [], (zs (zup (zup (zup (zup (zup (zup h 104 1 0) 119 0 1) 120 0 t) 121 0 n) 122 0 (-9)) 122 1 (-9)) hl))) (c2 := (86, [some (.inr (.inr (some 104))), some (.inl 0), some (.inl t), some (.inl n), some (.inl 2)], [], (zs (zup (zup (zup (zup (zup (zup h 104 1 0) 119 0 1) 120 0 t) 121 0 n) 122 0 (-9)) 122 1 (-9)) hl))) rfl ⟨by decide, by decide⟩ ⟨by decide, by decide⟩ (by show ¬ (¬ 2 < 4); decide) ?_
          refine zH_go 8 (c' := (98, [some (.inr (.inr (some 104))), some (.inl 0), some (.inl t), some (.inl n), some (.inl 2)], [.inl (-9), .inl 2, .inr (.inr (some 122))], (zs (zup (zup (zup (zup (zup (zup h 104 1 0) 119 0 1) 120 0 t) 121 0 n) 122 0 (-9)) 122 1 (-9)) hl))) rfl ?_
          refine zH_np (P := 0 ≤ 2 ∧ 2 < ((12 : Nat) : Int)) (c' := (99, [some (.inr (.inr (some 104))), some (.inl 0), some (.inl t), some (.inl n), some (.inl 2)], [], (zs (zup (zup (zup (zup (zup (zup (zup h 104 1 0) 119 0 1) 120 0 t) 121 0 n) 122 0 (-9)) 122 1 (-9)) 122 2 (-9)) hl))) rfl ⟨by decide, by decide⟩ ?_
          refine zH_go 4 (c' := (83, [some (.inr (.inr (some 104))), some (.inl 0), some (.inl t), some (.inl n), some (.inl 3)], [.inl 4, .inl 3], (zs (zup (zup (zup (zup (zup (zup (zup h 104 1 0) 119 0 1) 120 0 t) 121 0 n) 122 0 (-9)) 122 1 (-9)) 122 2 (-9)) hl))) rfl ?_
          refine zH_bf (x := 3) (y := 4) (k := .ge) (c1 := (105, [some (.inr (.inr (some 104))), some (.inl 0), some (.inl t), some (.inl n), some (.inl 3)], [], (zs (zup (zup (zup (zup (zup (zup (zup h 104 1 0) 119 0 1) 120 0 t) 121 0 n) 122 0 (-9)) 122 1 (-9)) 122 2 (-9)) hl))) (c2 := (86, [some (.inr (.inr (some 104))), some (.inl 0), some (.inl t), some (.inl n), some (.inl 3)], [], (zs (zup (zup (zup (zup (zup (zup (zup h 104 1 0) 119 0 1) 120 0 t) 121 0 n) 122 0 (-9)) 122 1 (-9)) 122 2 (-9)) hl))) rfl ⟨by decide, by decide⟩ ⟨by decide, by decide⟩ (by show ¬ (¬ 3 < 4); decide) ?_
          refine zH_go 8 (c' := (98, [some (.inr (.inr (some 104))), some (.inl 0), some (.inl t), some (.inl n), some (.inl 3)], [.inl (-9), .inl 3, .inr (.inr (some 122))], (zs (zup (zup (zup (zup (zup (zup (zup h 104 1 0) 119 0 1) 120 0 t) 121 0 n) 122 0 (-9)) 122 1 (-9)) 122 2 (-9)) hl))) rfl ?_
          refine zH_np (P := 0 ≤ 3 ∧ 3 < ((12 : Nat) : Int)) (c' := (99, [some (.inr (.inr (some 104))), some (.inl 0), some (.inl t), some (.inl n), some (.inl 3)], [], (zs (zup (zup (zup (zup (zup (zup (zup (zup h 104 1 0) 119 0 1) 120 0 t) 121 0 n) 122 0 (-9)) 122 1 (-9)) 122 2 (-9)) 122 3 (-9)) hl))) rfl ⟨by decide, by decide⟩ ?_
          refine zH_go 4 (c' := (83, [some (.inr (.inr (some 104))), some (.inl 0), some (.inl t), some (.inl n), some (.inl 4)], [.inl 4, .inl 4], (zs (zup (zup (zup (zup (zup (zup (zup (zup h 104 1 0) 119 0 1) 120 0 t) 121 0 n) 122 0 (-9)) 122 1 (-9)) 122 2 (-9)) 122 3 (-9)) hl))) rfl ?_
          refine zH_bt (x := 4) (y := 4) (k := .ge) (c1 := (105, [some (.inr (.inr (some 104))), some (.inl 0), some (.inl t), some (.inl n), some (.inl 4)], [], (zs (zup (zup (zup (zup (zup (zup (zup (zup h 104 1 0) 119 0 1) 120 0 t) 121 0 n) 122 0 (-9)) 122 1 (-9)) 122 2 (-9)) 122 3 (-9)) hl))) (c2 := (86, [some (.inr (.inr (some 104))), some (.inl 0), some (.inl t), some (.inl n), some (.inl 4)], [], (zs (zup (zup (zup (zup (zup (zup (zup (zup h 104 1 0) 119 0 1) 120 0 t) 121 0 n) 122 0 (-9)) 122 1 (-9)) 122 2 (-9)) 122 3 (-9)) hl))) rfl ⟨by decide, by decide⟩ ⟨by decide, by decide⟩ (by show ¬ 4 < 4; decide) ?_
          refine zH_go 1 (c' := (106, [some (.inr (.inr (some 104))), some (.inl 0), some (.inl t), some (.inl n), some (.inl 4)], [.inl 1], (zs (zup (zup (zup (zup (zup (zup (zup (zup h 104 1 0) 119 0 1) 120 0 t) 121 0 n) 122 0 (-9)) 122 1 (-9)) 122 2 (-9)) 122 3 (-9)) hl))) rfl ?_
          refine zH_ret (v := some (.inl 1)) rfl (fun q => absurd q (by decide)) ?_
          exact Or.inr (Or.inr ⟨by omega, by omega, rfl, rfl⟩)
        · refine zH_go 2 (c' := (52, [some (.inr (.inr (some 104))), some (.inl 0), some (.inl t), some (.inl n), none], [.inl (-15), .inr (.inr (some 104))], (zs (zup h 104 1 0) hl))) rfl ?_
          refine zH_call (M' := 142) (as := [.inr (.inr (some 104)), .inl (-15)]) (T := []) rfl p_noO (fun r' σ' p_7 => ?_)
          obtain ⟨rfl, rfl⟩ := p_7
          show zH _ _ (55, [some (.inr (.inr (some 104))), some (.inl 0), some (.inl t), some (.inl n), none], [.inl (-15)], (zs (zup (zup h 104 1 0) 104 1 (-15)) hl)) _
          refine zH_ret (v := some (.inl (-15))) rfl (fun q => absurd q (by decide)) ?_
          exact Or.inr (Or.inl ⟨by omega, by omega, rfl, rfl⟩)
      · refine zH_go 2 (c' := (41, [some (.inr (.inr (some 104))), some (.inl 0), some (.inl t), some (.inl n), none], [.inl (-1), .inr (.inr (some 104))], (zs (zup h 104 1 0) hl))) rfl ?_
        refine zH_call (M' := 142) (as := [.inr (.inr (some 104)), .inl (-1)]) (T := []) rfl p_noO (fun r' σ' p_8 => ?_)
        obtain ⟨rfl, rfl⟩ := p_8
        show zH _ _ (44, [some (.inr (.inr (some 104))), some (.inl 0), some (.inl t), some (.inl n), none], [.inl (-1)], (zs (zup (zup h 104 1 0) 104 1 (-1)) hl)) _
        refine zH_ret (v := some (.inl (-1))) rfl (fun q => absurd q (by decide)) ?_
        exact Or.inl ⟨by omega, rfl, rfl⟩
    · show zH _ _ (31, [some (.inr (.inr (some 104))), some (.inl 0), some (.inl t), some (.inl n), none], [.inl 0], (zs (zup h 104 1 0) hl)) _
      refine zH_bt (x := 0) (y := 0) (k := .eq) (c1 := (39, [some (.inr (.inr (some 104))), some (.inl 0), some (.inl t), some (.inl n), none], [], (zs (zup h 104 1 0) hl))) (c2 := (34, [some (.inr (.inr (some 104))), some (.inl 0), some (.inl t), some (.inl n), none], [], (zs (zup h 104 1 0) hl))) rfl ⟨by decide, by decide⟩ ⟨by decide, by decide⟩ (by show 0 = 0; decide) ?_
      refine zH_go 2 (c' := (41, [some (.inr (.inr (some 104))), some (.inl 0), some (.inl t), some (.inl n), none], [.inl (-1), .inr (.inr (some 104))], (zs (zup h 104 1 0) hl))) rfl ?_
      refine zH_call (M' := 142) (as := [.inr (.inr (some 104)), .inl (-1)]) (T := []) rfl p_noO (fun r' σ' p_9 => ?_)
      obtain ⟨rfl, rfl⟩ := p_9
      show zH _ _ (44, [some (.inr (.inr (some 104))), some (.inl 0), some (.inl t), some (.inl n), none], [.inl (-1)], (zs (zup (zup h 104 1 0) 104 1 (-1)) hl)) _
      refine zH_ret (v := some (.inl (-1))) rfl (fun q => absurd q (by decide)) ?_
      exact Or.inl ⟨by omega, rfl, rfl⟩
  · exact absurd (by decide) b_2
set_option maxRecDepth 100000 in
set_option maxHeartbeats 4000000 in
theorem p_rowO0 {d : Nat} {h0 h hl : Nat → Nat → Int} (e0 : zup h0 104 0 0 = h) {r n : Int} (hr : zr r) (hn : zr n) (hB : zMbk h hl 0) : zQ (d + 2) 144 [.inr (.inr (some 104)), .inl 0, .inl r, .inl n] (zs h0 hl) (fun r' σ' => (8 < n ∧ r' = some (.inl (-1)) ∧ σ' = zs (zup (zup h 104 1 0) 104 1 (-1)) hl) ∨ (n ≤ 8 ∧ h 119 0 = 0 ∧ r' = some (.inl (-11)) ∧ σ' = zs (zup (zup h 104 1 0) 104 1 (-11)) hl) ∨ (n ≤ 8 ∧ ¬ h 119 0 = 0 ∧ ¬ (0 ≤ r ∧ r < h 121 0) ∧ r' = some (.inl (-12)) ∧ σ' = zs (zup (zup h 104 1 0) 104 1 (-12)) hl) ∨ (¬ h 119 0 = 0 ∧ (0 ≤ r ∧ r < h 121 0) ∧ n < 0 ∧ r' = some (.inl (-15)) ∧ σ' = zs (zup (zup h 104 1 0) 104 1 (-15)) hl) ∨ (¬ h 119 0 = 0 ∧ (0 ≤ r ∧ r < h 121 0) ∧ 0 ≤ n ∧ n ≤ 8 ∧ r' = some (.inl 1) ∧ σ' = zs (zup (zup h 104 1 0) 122 (0 + Int.toNat r) n) (zup (zup (zup (zup (zup (zup (zup (zup hl 123 (0 + 8 * Int.toNat r + 0) 0) 123 (0 + 8 * Int.toNat r + 1) 0) 123 (0 + 8 * Int.toNat r + 2) 0) 123 (0 + 8 * Int.toNat r + 3) 0) 123 (0 + 8 * Int.toNat r + 4) 0) 123 (0 + 8 * Int.toNat r + 5) 0) 123 (0 + 8 * Int.toNat r + 6) 0) 123 (0 + 8 * Int.toNat r + 7) 0))) := by
  obtain ⟨h119, h121, h120, h122, h123⟩ := hB
  refine zQ_of (Nat.le_of_ble_eq_true rfl) ?_
  show zH (d + 1) 144 (0, [some (.inr (.inr (some 104))), some (.inl 0), some (.inl r), some (.inl n), none], [], (zs h0 hl)) _
  refine zH_go 3 (c' := (5, [some (.inr (.inr (some 104))), some (.inl 0), some (.inl r), some (.inl n), none], [], (zs (zup h0 104 0 0) hl))) rfl ?_
  rw [e0]
  refine zH_go 4 (c' := (11, [some (.inr (.inr (some 104))), some (.inl 0), some (.inl r), some (.inl n), none], [.inl 0], (zs (zup h 104 1 0) hl))) rfl ?_
  refine zH_np (P := zr 0) (c' := (12, [some (.inr (.inr (some 104))), some (.inl 0), some (.inl r), some (.inl n), none], [.inr (.inl 0)], (zs (zup h 104 1 0) hl))) rfl ⟨by decide, by decide⟩ ?_
  refine zH_go 2 (c' := (16, [some (.inr (.inr (some 104))), some (.inl 0), some (.inl r), some (.inl n), none], [.inr (.inl 2), .inr (.inl 0), .inr (.inl 0)], (zs (zup h 104 1 0) hl))) rfl ?_
  refine zH_call (M' := 103) (as := [.inr (.inl 0), .inr (.inl 0), .inr (.inl 2)]) (T := []) rfl (p_in ⟨by decide, by decide⟩ ⟨by decide, by decide⟩ ⟨by decide, by decide⟩) (fun r σ' p_1 => ?_)
  rcases p_1 with ⟨rfl, b_2, rfl⟩ | ⟨rfl, b_2, rfl⟩
  · show zH _ _ (19, [some (.inr (.inr (some 104))), some (.inl 0), some (.inl r), some (.inl n), none], [.inl 1], (zs (zup h 104 1 0) hl)) _
    refine zH_bf (x := 1) (y := 0) (k := .eq) (c1 := (28, [some (.inr (.inr (some 104))), some (.inl 0), some (.inl r), some (.inl n), none], [], (zs (zup h 104 1 0) hl))) (c2 := (22, [some (.inr (.inr (some 104))), some (.inl 0), some (.inl r), some (.inl n), none], [], (zs (zup h 104 1 0) hl))) rfl ⟨by decide, by decide⟩ ⟨by decide, by decide⟩ (by show ¬ (1 = 0); decide) ?_
    refine zH_go 2 (c' := (25, [some (.inr (.inr (some 104))), some (.inl 0), some (.inl r), some (.inl n), none], [.inl 8, .inl n], (zs (zup h 104 1 0) hl))) rfl ?_
    refine zH_br (x := n) (y := 8) (k := .le) (c1 := (34, [some (.inr (.inr (some 104))), some (.inl 0), some (.inl r), some (.inl n), none], [], (zs (zup h 104 1 0) hl))) (c2 := (28, [some (.inr (.inr (some 104))), some (.inl 0), some (.inl r), some (.inl n), none], [], (zs (zup h 104 1 0) hl))) rfl (by first | assumption | (unfold zr; omega)) ⟨by decide, by decide⟩ (fun (b_3 : ¬ 8 < n) => ?_) (fun (b_3 : ¬ (¬ 8 < n)) => ?_)
    · refine zH_go 3 (c' := (39, [some (.inr (.inr (some 104))), some (.inl 0), some (.inl r), some (.inl n), none], [.inl 0, .inr (.inr (some 119))], (zs (zup h 104 1 0) hl))) rfl ?_
      refine zH_np (P := 0 ≤ 0 ∧ 0 < ((3 : Nat) : Int)) (c' := (40, [some (.inr (.inr (some 104))), some (.inl 0), some (.inl r), some (.inl n), none], [.inl (h 119 0)], (zs (zup h 104 1 0) hl))) rfl ⟨by decide, by decide⟩ ?_
      refine zH_br (x := (h 119 0)) (y := 0) (k := .ne) (c1 := (50, [some (.inr (.inr (some 104))), some (.inl 0), some (.inl r), some (.inl n), none], [], (zs (zup h 104 1 0) hl))) (c2 := (43, [some (.inr (.inr (some 104))), some (.inl 0), some (.inl r), some (.inl n), none], [], (zs (zup h 104 1 0) hl))) rfl (by first | assumption | (unfold zr; omega)) ⟨by decide, by decide⟩ (fun (b_4 : ¬ (h 119 0) = 0) => ?_) (fun (b_4 : ¬ (¬ (h 119 0) = 0)) => ?_)
      · refine zH_go 1 (c' := (51, [some (.inr (.inr (some 104))), some (.inl 0), some (.inl r), some (.inl n), none], [.inl r], (zs (zup h 104 1 0) hl))) rfl ?_
        refine zH_np (P := zr r) (c' := (52, [some (.inr (.inr (some 104))), some (.inl 0), some (.inl r), some (.inl n), none], [.inr (.inl r)], (zs (zup h 104 1 0) hl))) rfl (by first | assumption | (unfold zr; omega)) ?_
        refine zH_go 4 (c' := (58, [some (.inr (.inr (some 104))), some (.inl 0), some (.inl r), some (.inl n), none], [.inl 0, .inr (.inr (some 121)), .inr (.inl 0), .inr (.inl r)], (zs (zup h 104 1 0) hl))) rfl ?_
        refine zH_np (P := 0 ≤ 0 ∧ 0 < ((3 : Nat) : Int)) (c' := (59, [some (.inr (.inr (some 104))), some (.inl 0), some (.inl r), some (.inl n), none], [.inl (h 121 0), .inr (.inl 0), .inr (.inl r)], (zs (zup h 104 1 0) hl))) rfl ⟨by decide, by decide⟩ ?_
        refine zH_go 2 (c' := (61, [some (.inr (.inr (some 104))), some (.inl 0), some (.inl r), some (.inl n), none], [.inl ((h 121 0) - 1), .inr (.inl 0), .inr (.inl r)], (zs (zup h 104 1 0) hl))) rfl ?_
        refine zH_np (P := zr ((h 121 0) - 1)) (c' := (62, [some (.inr (.inr (some 104))), some (.inl 0), some (.inl r), some (.inl n), none], [.inr (.inl ((h 121 0) - 1)), .inr (.inl 0), .inr (.inl r)], (zs (zup h 104 1 0) hl))) rfl (by first | assumption | (unfold zr; omega)) ?_
        refine zH_call (M' := 103) (as := [.inr (.inl r), .inr (.inl 0), .inr (.inl ((h 121 0) - 1))]) (T := []) rfl (p_in (by first | assumption | exact zr_l (by assumption) | (unfold zrl; omega)) ⟨by decide, by decide⟩ (by first | assumption | exact zr_l (by assumption) | (unfold zrl; omega))) (fun r σ' p_5 => ?_)
        rcases p_5 with ⟨rfl, b_6, rfl⟩ | ⟨rfl, b_6, rfl⟩
        · show zH _ _ (65, [some (.inr (.inr (some 104))), some (.inl 0), some (.inl r), some (.inl n), none], [.inl 1], (zs (zup h 104 1 0) hl)) _
          refine zH_bt (x := 1) (y := 0) (k := .ne) (c1 := (75, [some (.inr (.inr (some 104))), some (.inl 0), some (.inl r), some (.inl n), none], [], (zs (zup h 104 1 0) hl))) (c2 := (68, [some (.inr (.inr (some 104))), some (.inl 0), some (.inl r), some (.inl n), none], [], (zs (zup h 104 1 0) hl))) rfl ⟨by decide, by decide⟩ ⟨by decide, by decide⟩ (by show ¬ 1 = 0; decide) ?_
          obtain ⟨R, rfl⟩ := Int.eq_ofNat_of_zero_le (show 0 ≤ r by omega)
          show zH _ _ (75, [some (.inr (.inr (some 104))), some (.inl 0), some (.inl (R : Int)), some (.inl n), none], [], (zs (zup h 104 1 0) hl)) _
          refine zH_go 1 (c' := (76, [some (.inr (.inr (some 104))), some (.inl 0), some (.inl (R : Int)), some (.inl n), none], [.inl n], (zs (zup h 104 1 0) hl))) rfl ?_
          refine zH_br (x := n) (y := 0) (k := .ge) (c1 := (86, [some (.inr (.inr (some 104))), some (.inl 0), some (.inl (R : Int)), some (.inl n), none], [], (zs (zup h 104 1 0) hl))) (c2 := (79, [some (.inr (.inr (some 104))), some (.inl 0), some (.inl (R : Int)), some (.inl n), none], [], (zs (zup h 104 1 0) hl))) rfl (by first | assumption | (unfold zr; omega)) ⟨by decide, by decide⟩ (fun (b_7 : ¬ n < 0) => ?_) (fun (b_7 : ¬ (¬ n < 0)) => ?_)
          · refine zH_go 8 (c' := (96, [some (.inr (.inr (some 104))), some (.inl 0), some (.inl (R : Int)), some (.inl n), none], [.inl n, .inl (0 + (R : Int)), .inr (.inr (some 122))], (zs (zup h 104 1 0) hl))) rfl ?_
            refine zH_np (P := 0 ≤ (0 + (R : Int)) ∧ (0 + (R : Int)) < ((12 : Nat) : Int)) (c' := (97, [some (.inr (.inr (some 104))), some (.inl 0), some (.inl (R : Int)), some (.inl n), none], [], (zs (zup (zup h 104 1 0) 122 (0 + R) n) hl))) rfl ⟨by omega, by omega⟩ ?_
            refine zH_go 4 (c' := (104, [some (.inr (.inr (some 104))), some (.inl 0), some (.inl (R : Int)), some (.inl n), some (.inl 0)], [.inl 8, .inl 0], (zs (zup (zup h 104 1 0) 122 (0 + R) n) hl))) rfl ?_
            refine zH_bf (x := 0) (y := 8) (k := .ge) (c1 := (131, [some (.inr (.inr (some 104))), some (.inl 0), some (.inl (R : Int)), some (.inl n), some (.inl 0)], [], (zs (zup (zup h 104 1 0) 122 (0 + R) n) hl))) (c2 := (107, [some (.inr (.inr (some 104))), some (.inl 0), some (.inl (R : Int)), some (.inl n), some (.inl 0)], [], (zs (zup (zup h 104 1 0) 122 (0 + R) n) hl))) rfl ⟨by decide, by decide⟩ ⟨by decide, by decide⟩ (by show ¬ (¬ 0 < 8); decide) ?_
            refine zH_go 12 (c' := (124, [some (.inr (.inr (some 104))), some (.inl 0), some (.inl (R : Int)), some (.inl n), some (.inl 0)], [.inr (.inl 0), .inl ((0 + (8 * (R : Int))) + 0), .inr (.inr (some 123))], (zs (zup (zup h 104 1 0) 122 (0 + R) n) hl))) rfl ?_
            refine zH_np (P := 0 ≤ ((0 + (8 * (R : Int))) + 0) ∧ ((0 + (8 * (R : Int))) + 0) < ((96 : Nat) : Int)) (c' := (125, [some (.inr (.inr (some 104))), some (.inl 0), some (.inl (R : Int)), some (.inl n), some (.inl 0)], [], (zs (zup (zup h 104 1 0) 122 (0 + R) n) (zup hl 123 ((0 + (8 * R)) + 0) 0)))) rfl ⟨by omega, by omega⟩ ?_
            refine zH_go 4 (c' := (104, [some (.inr (.inr (some 104))), some (.inl 0), some (.inl (R : Int)), some (.inl n), some (.inl 1)], [.inl 8, .inl 1], (zs (zup (zup h 104 1 0) 122 (0 + R) n) (zup hl 123 ((0 + (8 * R)) + 0) 0)))) rfl ?_
            refine zH_bf (x := 1) (y := 8) (k := .ge) (c1 := (131, [some (.inr (.inr (some 104))), some (.inl 0), some (.inl (R : Int)), some (.inl n), some (.inl 1)], [], (zs (zup (zup h 104 1 0) 122 (0 + R) n) (zup hl 123 ((0 + (8 * R)) + 0) 0)))) (c2 := (107, [some (.inr (.inr (some 104))), some (.inl 0), some (.inl (R : Int)), some (.inl n), some (.inl 1)], [], (zs (zup (zup h 104 1 0) 122 (0 + R) n) (zup hl 123 ((0 + (8 * R)) + 0) 0)))) rfl ⟨by decide, by decide⟩ ⟨by decide, by decide⟩ (by show ¬ (¬ 1 < 8); decide) ?_
            refine zH_go 12 (c' := (124, [some (.inr (.inr (some 104))), some (.inl 0), some (.inl (R : Int)), some (.inl n), some (.inl 1)], [.inr (.inl 0), .inl ((0 + (8 * (R : Int))) + 1), .inr (.inr (some 123))], (zs (zup (zup h 104 1 0) 122 (0 + R) n) (zup hl 123 ((0 + (8 * R)) + 0) 0)))) rfl ?_
            refine zH_np (P := 0 ≤ ((0 + (8 * (R : Int))) + 1) ∧ ((0 + (8 * (R : Int))) + 1) < ((96 : Nat) : Int)) (c' := (125, [some (.inr (.inr (some 104))), some (.inl 0), some (.inl (R : Int)), some (.inl n), some (.inl 1)], [], (zs (zup (zup h 104 1 0) 122 (0 + R) n) (zup (zup hl 123 ((0 + (8 * R)) + 0) 0) 123 ((0 + (8 * R)) + 1) 0)))) rfl ⟨by omega, by omega⟩ ?_
            refine zH_go 4 (c' := (104, [some (.inr (.inr (some 104))), some (.inl 0), some (.inl (R : Int)), some (.inl n), some (.inl 2)], [.inl 8, .inl 2], (zs (zup (zup h 104 1 0) 122 (0 + R) n) (zup (zup hl 123 ((0 + (8 * R)) + 0) 0) 123 ((0 + (8 * R)) + 1) 0)))) rfl ?_
            refine zH_bf (x := 2) (y := 8) (k := .ge) (c1 := (131, [some (.inr (.inr (some 104))), some (.inl 0), some (.inl (R : Int)), some (.inl n), some (.inl 2)], [], (zs (zup (zup h 104 1 0) 122 (0 + R) n) (zup (zup hl 123 ((0 + (8 * R)) + 0) 0) 123 ((0 + (8 * R)) + 1) 0)))) (c2 := (107, [some (.inr (.inr (some 104))), some (.inl 0), some (.inl (R : Int)), some (.inl n), some (.inl 2)], [], (zs (zup (zup h 104 1 0) 122 (0 + R) n) (zup (zup hl 123 ((0 + (8 * R)) + 0) 0) 123 ((0 + (8 * R)) + 1) 0)))) rfl ⟨by decide, by decide⟩ ⟨by decide, by decide⟩ (by show ¬ (¬ 2 < 8); decide) ?_
            refine zH_go 12 (c' := (124, [some (.inr (.inr (some 104))), some (.inl 0), some (.inl (R : Int)), some (.inl n), some (.inl 2)], [.inr (.inl 0), .inl ((0 + (8 * (R : Int))) + 2), .inr (.inr (some 123))], (zs (zup (zup h 104 1 0) 122 (0 + R) n) (zup (zup hl 123 ((0 + (8 * R)) + 0) 0) 123 ((0 + (8 * R)) + 1) 0)))) rfl ?_
            refine zH_np (P := 0 ≤ ((0 + (8 * (R : Int))) + 2) ∧ ((0 + (8 * (R : Int))) + 2) < ((96 : Nat) : Int)) (c' := (125, [some (.inr (.inr (some 104))), some (.inl 0), some (.inl (R : Int)), some (.inl n), some (.inl 2)], [], (zs (zup (zup h 104 1 0) 122 (0 + R) n) (zup (zup (zup hl 123 ((0 + (8 * R)) + 0) 0) 123 ((0 + (8 * R)) + 1) 0) 123 ((0 + (8 * R)) + 2) 0)))) rfl ⟨by omega, by omega⟩ ?_
            refine zH_go 4 (c' := (104, [some (.inr (.inr (some 104))), some (.inl 0), some (.inl (R : Int)), some (.inl n), some (.inl 3)], [.inl 8, .inl 3], (zs (zup (zup h 104 1 0) 122 (0 + R) n) (zup (zup (zup hl 123 ((0 + (8 * R)) + 0) 0) 123 ((0 + (8 * R)) + 1) 0) 123 ((0 + (8 * R)) + 2) 0)))) rfl ?_
            refine zH_bf (x := 3) (y := 8) (k := .ge) (c1 := (131, [some (.inr (.inr (some 104))), some (.inl 0), some (.inl (R : Int)), some (.inl n), some (.inl 3)], [], (zs (zup (zup h 104 1 0) 122 (0 + R) n) (zup (zup (zup hl 123 ((0 + (8 * R)) + 0) 0) 123 ((0 + (8 * R)) + 1) 0) 123 ((0 + (8 * R)) + 2) 0)))) (c2 := (107, [some (.inr (.inr (some 104))), some (.inl 0), some (.inl (R : Int)), some (.inl n), some (.inl 3)], [], (zs (zup (zup h 104 1 0) 122 (0 + R) n) (zup (zup (zup hl 123 ((0 + (8 * R)) + 0) 0) 123 ((0 + (8 * R)) + 1) 0) 123 ((0 + (8 * R)) + 2) 0)))) rfl ⟨by decide, by decide⟩ ⟨by decide, by decide⟩ (by show ¬ (¬ 3 < 8); decide) ?_
            refine zH_go 12 (c' := (124, [some (.inr (.inr (some 104))), some (.inl 0), some (.inl (R : Int)), some (.inl n), some (.inl 3)], [.inr (.inl 0), .inl ((0 + (8 * (R : Int))) + 3), .inr (.inr (some 123))], (zs (zup (zup h 104 1 0) 122 (0 + R) n) (zup (zup (zup hl 123 ((0 + (8 * R)) + 0) 0) 123 ((0 + (8 * R)) + 1) 0) 123 ((0 + (8 * R)) + 2) 0)))) rfl ?_
            refine zH_np (P := 0 ≤ ((0 + (8 * (R : Int))) + 3) ∧ ((0 + (8 * (R : Int))) + 3) < ((96 : Nat) : Int)) (c' := (125, [some (.inr (.inr (some 104))), some (.inl 0), some (.inl (R : Int)), some (.inl n), some (.inl 3)], [], (zs (zup (zup h 104 1 0) 122 (0 + R) n) (zup (zup (zup (zup hl 123 ((0 + (8 * R)) + 0) 0) 123 ((0 + (8 * R)) + 1) 0) 123 ((0 + (8 * R)) + 2) 0) 123 ((0 + (8 * R)) + 3) 0)))) rfl ⟨by omega, by omega⟩ ?_
            refine zH_go 4 (c' := (104, [some (.inr (.inr (some 104))), some (.inl 0), some (.inl (R : Int)), some (.inl n), some (.inl 4)], [.inl 8, .inl 4], (zs (zup (zup h 104 1 0) 122 (0 + R) n) (zup (zup (zup (zup hl 123 ((0 + (8 * R)) + 0) 0) 123 ((0 + (8 * R)) + 1) 0) 123 ((0 + (8 * R)) + 2) 0) 123 ((0 + (8 * R)) + 3) 0)))) rfl ?_
            refine zH_bf (x := 4) (y := 8) (k := .ge) (c1 := (131, [some (.inr (.inr (some 104))), some (.inl 0), some (.inl (R : Int)), some (.inl n), some (.inl 4)], [], (zs (zup (zup h 104 1 0) 122 (0 + R) n) (zup (zup (zup (zup hl 123 ((0 + (8 * R)) + 0) 0) 123 ((0 + (8 * R)) + 1) 0) 123 ((0 + (8 * R)) + 2) 0) 123 ((0 + (8 * R)) + 3) 0)))) (c2 := (107, [some (.inr (.inr (some 104))), some (.inl 0), some (.inl (R : Int)), some (.inl n), some (.inl 4)], [], (zs (zup (zup h 104 1 0) 122 (0 + R) n) (zup (zup (zup (zup hl 123 ((0 + (8 * R)) + 0) 0) 123 ((0 + (8 * R)) + 1) 0) 123 ((0 + (8 * R)) + 2) 0) 123 ((0 + (8 * R)) + 3) 0)))) rfl ⟨by decide, by decide⟩ ⟨by decide, by decide⟩ (by show ¬ (¬ 4 < 8); decide) ?_
            refine zH_go 12 (c' := (124, [some (.inr (.inr (some 104))), some (.inl 0), some (.inl (R : Int)), some (.inl n), some (.inl 4)], [.inr (.inl 0), .inl ((0 + (8 * (R : Int))) + 4), .inr (.inr (some 123))], (zs (zup (zup h 104 1 0) 122 (0 + R) n) (zup (zup (zup (zup hl 123 ((0 + (8 * R)) + 0) 0) 123 ((0 + (8 * R)) + 1) 0) 123 ((0 + (8 * R)) + 2) 0) 123 ((0 + (8 * R)) + 3) 0)))) rfl ?_
            refine zH_np (P := 0 ≤ ((0 + (8 * (R : Int))) + 4) ∧ ((0 + (8 * (R : Int))) + 4) < ((96 : Nat) : Int)) (c' := (125, [some (.inr (.inr (some 104))), some (.inl 0), some (.inl (R : Int)), some (.inl n), some (.inl 4)], [], (zs (zup (zup h 104 1 0) 122 (0 + R) n) (zup (zup (zup (zup (zup hl 123 ((0 + (8 * R)) + 0) 0) 123 ((0 + (8 * R)) + 1) 0) 123 ((0 + (8 * R)) + 2) 0) 123 ((0 + (8 * R)) + 3) 0) 123 ((0 + (8 * R)) + 4) 0)))) rfl ⟨by omega, by omega⟩ ?_
            refine zH_go 4 (c' := (104, [some (.inr (.inr (some 104))), some (.inl 0), some (.inl (R : Int)), some (.inl n), some (.inl 5)], [.inl 8, .inl 5], (zs (zup (zup h 104 1 0) 122 (0 + R) n) (zup (zup (zup (zup (zup hl 123 ((0 + (8 * R)) + 0) 0) 123 ((0 + (8 * R)) + 1) 0) 123 ((0 + (8 * R)) + 2) 0) 123 ((0 + (8 * R)) + 3) 0) 123 ((0 + (8 * R)) + 4) 0)))) rfl ?_
            refine zH_bf (x := 5) (y := 8) (k := .ge) (c1 := (131, [some (.inr (.inr (some 104))), some (.inl 0), some (.inl (R : Int)), some (.inl n), some (.inl 5)], [], (zs (zup (zup h 104 1 0) 122 (0 + R) n) (zup (zup (zup (zup (zup hl 123 ((0 + (8 * R)) + 0) 0) 123 ((0 + (8 * R)) + 1) 0) 123 ((0 + (8 * R)) + 2) 0) 123 ((0 + (8 * R)) + 3) 0) 123 ((0 + (8 * R)) + 4) 0)))) (c2 := (107, [some (.inr (.inr (some 104))), some (.inl 0), some (.inl (R : Int)), some (.inl n), some (.inl 5)], [], (zs (zup (zup h 104 1 0) 122 (0 + R) n) (zup (zup (zup (zup (zup hl 123 ((0 + (8 * R)) + 0) 0) 123 ((0 + (8 * R)) + 1) 0) 123 ((0 + (8 * R)) + 2) 0) 123 ((0 + (8 * R)) + 3) 0) 123 ((0 + (8 * R)) + 4) 0)))) rfl ⟨by decide, by decide⟩ ⟨by decide, by decide⟩ (by show ¬ (¬ 5 < 8); decide) ?_
            refine zH_go 12 (c' := (124, [some (.inr (.inr (some 104))), some (.inl 0), some (.inl (R : Int)), some (.inl n), some (.inl 5)], [.inr (.inl 0), .inl ((0 + (8 * (R : Int))) + 5), .inr (.inr (some 123))], (zs (zup (zup h 104 1 0) 122 (0 + R) n) (zup (zup (zup (zup (zup hl 123 ((0 + (8 * R)) + 0) 0) 123 ((0 + (8 * R)) + 1) 0) 123 ((0 + (8 * R)) + 2) 0) 123 ((0 + (8 * R)) + 3) 0) 123 ((0 + (8 * R)) + 4) 0)))) rfl ?_
            refine zH_np (P := 0 ≤ ((0 + (8 * (R : Int))) + 5) ∧ ((0 + (8 * (R : Int))) + 5) < ((96 : Nat) : Int)) (c' := (125, [some (.inr (.inr (some 104))), some (.inl 0), some (.inl (R : Int)), some (.inl n), some (.inl 5)], [], (zs (zup (zup h 104 1 0) 122 (0 + R) n) (zup (zup (zup (zup (zup (zup hl 123 ((0 + (8 * R)) + 0) 0) 123 ((0 + (8 * R)) + 1) 0) 123 ((0 + (8 * R)) + 2) 0) 123 ((0 + (8 * R)) + 3) 0) 123 ((0 + (8 * R)) + 4) 0) 123 ((0 + (8 * R)) + 5) 0)))) rfl ⟨by omega, by omega⟩ ?_
            refine zH_go 4 (c' := (104, [some (.inr (.inr (some 104))), some (.inl 0), some (.inl (R : Int)), some (.inl n), some (.inl 6)], [.inl 8, .inl 6], (zs (zup (zup h 104 1 0) 122 (0 + R) n) (zup (zup (zup (zup (zup (zup hl 123 ((0 + (8 * R)) + 0) 0) 123 ((0 + (8 * R)) + 1) 0) 123 ((0 + (8 * R)) + 2) 0) 123 ((0 + (8 * R)) + 3) 0) 123 ((0 + (8 * R)) + 4) 0) 123 ((0 + (8 * R)) + 5) 0)))) rfl ?_
            refine zH_bf (x := 6) (y := 8) (k := .ge) (c1 := (131, [some (.inr (.inr (some 104))), some (.inl 0), some (.inl (R : Int)), some (.inl n), some (.inl 6)], [], (zs (zup (zup h 104 1 0) 122 (0 + R) n) (zup (zup (zup (zup (zup (zup hl 123 ((0 + (8 * R)) + 0) 0) 123 ((0 + (8 * R)) + 1) 0) 123 ((0 + (8 * R)) + 2) 0) 123 ((0 + (8 * R)) + 3) 0) 123 ((0 + (8 * R)) + 4) 0) 123 ((0 + (8 * R)) + 5) 0)))) (c2 := (107, [some (.inr (.inr (some 104))), some (.inl 0), some (.inl (R : Int)), some (.inl n), some (.inl 6)], [], (zs (zup (zup h 104 1 0) 122 (0 + R) n) (zup (zup (zup (zup (zup (zup hl 123 ((0 + (8 * R)) + 0) 0) 123 ((0 + (8 * R)) + 1) 0) 123 ((0 + (8 * R)) + 2) 0) 123 ((0 + (8 * R)) + 3) 0) 123 ((0 + (8 * R)) + 4) 0) 123 ((0 + (8 * R)) + 5) 0)))) rfl ⟨by decide, by decide⟩ ⟨by decide, by decide⟩ (by show ¬ (¬ 6 < 8); decide) ?_
            refine zH_go 12 (c' := (124, [some (.inr (.inr (some 104))), some (.inl 0), some (.inl (R : Int)), some (.inl n), some (.inl 6)], [.inr (.inl 0), .inl ((0 + (8 * (R : Int))) + 6), .inr (.inr (some 123))], (zs (zup (zup h 104 1 0) 122 (0 + R) n) (zup (zup (zup (zup (zup (zup hl 123 ((0 + (8 * R)) + 0) 0) 123 ((0 + (8 * R)) + 1) 0) 123 ((0 + (8 * R)) + 2) 0) 123 ((0 + (8 * R)) + 3) 0) 123 ((0 + (8 * R)) + 4) 0) 123 ((0 + (8 * R)) + 5) 0)))) rfl ?_
            refine zH_np (P := 0 ≤ ((0 + (8 * (R : Int))) + 6) ∧ ((0 + (8 * (R : Int))) + 6) < ((96 : Nat) : Int)) (c' := (125, [some (.inr (.inr (some 104))), some (.inl 0), some (.inl (R : Int)), some (.inl n), some (.inl 6)], [], (zs (zup (zup h 104 1 0) 122 (0 + R) n) (zup (zup (zup (zup (zup (zup (zup hl 123 ((0 + (8 * R)) + 0) 0) 123 ((0 + (8 * R)) + 1) 0) 123 ((0 + (8 * R)) + 2) 0) 123 ((0 + (8 * R)) + 3) 0) 123 ((0 + (8 * R)) + 4) 0) 123 ((0 + (8 * R)) + 5) 0) 123 ((0 + (8 * R)) + 6) 0)))) rfl ⟨by omega, by omega⟩ ?_
            refine zH_go 4 (c' := (104, [some (.inr (.inr (some 104))), some (.inl 0), some (.inl (R : Int)), some (.inl n), some (.inl 7)], [.inl 8, .inl 7], (zs (zup (zup h 104 1 0) 122 (0 + R) n) (zup (zup (zup (zup (zup (zup (zup hl 123 ((0 + (8 * R)) + 0) 0) 123 ((0 + (8 * R)) + 1) 0) 123 ((0 + (8 * R)) + 2) 0) 123 ((0 + (8 * R)) + 3) 0) 123 ((0 + (8 * R)) + 4) 0) 123 ((0 + (8 * R)) + 5) 0) 123 ((0 + (8 * R)) + 6) 0)))) rfl ?_
            refine zH_bf (x := 7) (y := 8) (k := .ge) (c1 := (131, [some (.inr (.inr (some 104))), some (.inl 0), some (.inl (R : Int)), some (.inl n), some (.inl 7)], [], (zs (zup (zup h 104 1 0) 122 (0 + R) n) (zup (zup (zup (zup (zup (zup (zup hl 123 ((0 + (8 * R)) + 0) 0) 123 ((0 + (8 * R)) + 1) 0) 123 ((0 + (8 * R)) + 2) 0) 123 ((0 + (8 * R)) + 3) 0) 123 ((0 + (8 * R)) + 4) 0) 123 ((0 + (8 * R)) + 5) 0) 123 ((0 + (8 * R)) + 6) 0)))) (c2 := (107, [some (.inr (.inr (some 104))), some (.inl 0), some (.inl (R : Int)), some (.inl n), some (.inl 7)], [], (zs (zup (zup h 104 1 0) 122 (0 + R) n) (zup (zup (zup (zup (zup (zup (zup hl 123 ((0 + (8 * R)) + 0) 0) 123 ((0 + (8 * R)) + 1) 0) 123 ((0 + (8 * R)) + 2) 0) 123 ((0 + (8 * R)) + 3) 0) 123 ((0 + (8 * R)) + 4) 0) 123 ((0 + (8 * R)) + 5) 0) 123 ((0 + (8 * R)) + 6) 0)))) rfl ⟨by decide, by decide⟩ ⟨by decide, by decide⟩ (by show ¬ (¬ 7 < 8); decide) ?_
            refine zH_go 12 (c' := (124, [some (.inr (.inr (some 104))), some (.inl 0), some (.inl (R : Int)), some (.inl n), some (.inl 7)], [.inr (.inl 0), .inl ((0 + (8 * (R : Int))) + 7), .inr (.inr (some 123))], (zs (zup (zup h 104 1 0) 122 (0 + R) n) (zup (zup (zup (zup (zup (zup (zup hl 123 ((0 + (8 * R)) + 0) 0) 123 ((0 + (8 * R)) + 1) 0) 123 ((0 + (8 * R)) + 2) 0) 123 ((0 + (8 * R)) + 3) 0) 123 ((0 + (8 * R)) + 4) 0) 123 ((0 + (8 * R)) + 5) 0) 123 ((0 + (8 * R)) + 6) 0)))) rfl ?_
            refine zH_np (P := 0 ≤ ((0 + (8 * (R : Int))) + 7) ∧ ((0 + (8 * (R : Int))) + 7) < ((96 : Nat) : Int)) (c' := (125, [some (.inr (.inr (some 104))), some (.inl 0), some (.inl (R : Int)), some (.inl n), some (.inl 7)], [], (zs (zup (zup h 104 1 0) 122 (0 + R) n) (zup (zup (zup (zup (zup (zup (zup (zup hl 123 ((0 + (8 * R)) + 0) 0) 123 ((0 + (8 * R)) + 1) 0) 123 ((0 + (8 * R)) + 2) 0) 123 ((0 + (8 * R)) + 3) 0) 123 ((0 + (8 * R)) + 4) 0) 123 ((0 + (8 * R)) + 5) 0) 123 ((0 + (8 * R)) + 6) 0) 123 ((0 + (8 * R)) + 7) 0)))) rfl ⟨by omega, by omega⟩ ?_
            refine zH_go 4 (c' := (104, [some (.inr (.inr (some 104))), some (.inl 0), some (.inl (R : Int)), some (.inl n), some (.inl 8)], [.inl 8, .inl 8], (zs (zup (zup h 104 1 0) 122 (0 + R) n) (zup (zup (zup (zup (zup (zup (zup (zup hl 123 ((0 + (8 * R)) + 0) 0) 123 ((0 + (8 * R)) + 1) 0) 123 ((0 + (8 * R)) + 2) 0) 123 ((0 + (8 * R)) + 3) 0) 123 ((0 + (8 * R)) + 4) 0) 123 ((0 + (8 * R)) + 5) 0) 123 ((0 + (8 * R)) + 6) 0) 123 ((0 + (8 * R)) + 7) 0)))) rfl ?_
            refine zH_bt (x := 8) (y := 8) (k := .ge) (c1 := (131, [some (.inr (.inr (some 104))), some (.inl 0), some (.inl (R : Int)), some (.inl n), some (.inl 8)], [], (zs (zup (zup h 104 1 0) 122 (0 + R) n) (zup (zup (zup (zup (zup (zup (zup (zup hl 123 ((0 + (8 * R)) + 0) 0) 123 ((0 + (8 * R)) + 1) 0) 123 ((0 + (8 * R)) + 2) 0) 123 ((0 + (8 * R)) + 3) 0) 123 ((0 + (8 * R)) + 4) 0) 123 ((0 + (8 * R)) + 5) 0) 123 ((0 + (8 * R)) + 6) 0) 123 ((0 + (8 * R)) + 7) 0)))) (c2 := (107, [some (.inr (.inr (some 104))), some (.inl 0), some (.inl (R : Int)), some (.inl n), some (.inl 8)], [], (zs (zup (zup h 104 1 0) 122 (0 + R) n) (zup (zup (zup (zup (zup (zup (zup (zup hl 123 ((0 + (8 * R)) + 0) 0) 123 ((0 + (8 * R)) + 1) 0) 123 ((0 + (8 * R)) + 2) 0) 123 ((0 + (8 * R)) + 3) 0) 123 ((0 + (8 * R)) + 4) 0) 123 ((0 + (8 * R)) + 5) 0) 123 ((0 + (8 * R)) + 6) 0) 123 ((0 + (8 * R)) + 7) 0)))) rfl ⟨by decide, by decide⟩ ⟨by decide, by decide⟩ (by show ¬ 8 < 8; decide) ?_
            refine zH_go 1 (c' := (132, [some (.inr (.inr (some 104))), some (.inl 0), some (.inl (R : Int)), some (.inl n), some (.inl 8)], [.inl 1], (zs (zup (zup h 104 1 0) 122 (0 + R) n) (zup (zup (zup (zup (zup (zup (zup (zup hl 123 ((0 + (8 * R)) + 0) 0) 123 ((0 + (8 * R)) + 1) 0) 123 ((0 + (8 * R)) + 2) 0) 123 ((0 + (8 * R)) + 3) 0) 123 ((0 + (8 * R)) + 4) 0) 123 ((0 + (8 * R)) + 5) 0) 123 ((0 + (8 * R)) + 6) 0) 123 ((0 + (8 * R)) + 7) 0)))) rfl ?_
            refine zH_ret (v := some (.inl 1)) rfl (fun q => absurd q (by decide)) ?_
            exact Or.inr (Or.inr (Or.inr (Or.inr ⟨by omega, by omega, by omega, by omega, rfl, by rw [Int.toNat_natCast]⟩)))
          · refine zH_go 2 (c' := (82, [some (.inr (.inr (some 104))), some (.inl 0), some (.inl (R : Int)), some (.inl n), none], [.inl (-15), .inr (.inr (some 104))], (zs (zup h 104 1 0) hl))) rfl ?_
            refine zH_call (M' := 142) (as := [.inr (.inr (some 104)), .inl (-15)]) (T := []) rfl p_noO (fun r' σ' p_8 => ?_)
            obtain ⟨rfl, rfl⟩ := p_8
            show zH _ _ (85, [some (.inr (.inr (some 104))), some (.inl 0), some (.inl (R : Int)), some (.inl n), none], [.inl (-15)], (zs (zup (zup h 104 1 0) 104 1 (-15)) hl)) _
            refine zH_ret (v := some (.inl (-15))) rfl (fun q => absurd q (by decide)) ?_
            exact Or.inr (Or.inr (Or.inr (Or.inl ⟨by omega, by omega, by omega, rfl, rfl⟩)))
        · show zH _ _ (65, [some (.inr (.inr (some 104))), some (.inl 0), some (.inl r), some (.inl n), none], [.inl 0], (zs (zup h 104 1 0) hl)) _
          refine zH_bf (x := 0) (y := 0) (k := .ne) (c1 := (75, [some (.inr (.inr (some 104))), some (.inl 0), some (.inl r), some (.inl n), none], [], (zs (zup h 104 1 0) hl))) (c2 := (68, [some (.inr (.inr (some 104))), some (.inl 0), some (.inl r), some (.inl n), none], [], (zs (zup h 104 1 0) hl))) rfl ⟨by decide, by decide⟩ ⟨by decide, by decide⟩ (by show ¬ (¬ 0 = 0); decide) ?_
          refine zH_go 2 (c' := (71, [some (.inr (.inr (some 104))), some (.inl 0), some (.inl r), some (.inl n), none], [.inl (-12), .inr (.inr (some 104))], (zs (zup h 104 1 0) hl))) rfl ?_
          refine zH_call (M' := 142) (as := [.inr (.inr (some 104)), .inl (-12)]) (T := []) rfl p_noO (fun r' σ' p_9 => ?_)
          obtain ⟨rfl, rfl⟩ := p_9
          show zH _ _ (74, [some (.inr (.inr (some 104))), some (.inl 0), some (.inl r), some (.inl n), none], [.inl (-12)], (zs (zup (zup h 104 1 0) 104 1 (-12)) hl)) _
          refine zH_ret (v := some (.inl (-12))) rfl (fun q => absurd q (by decide)) ?_
          exact Or.inr (Or.inr (Or.inl ⟨by omega, by omega, by omega, rfl, rfl⟩))
      · refine zH_go 2 (c' := (46, [some (.inr (.inr (some 104))), some (.inl 0), some (.inl r), some (.inl n), none], [.inl (-11), .inr (.inr (some 104))], (zs (zup h 104 1 0) hl))) rfl ?_
        refine zH_call (M' := 142) (as := [.inr (.inr (some 104)), .inl (-11)]) (T := []) rfl p_noO (fun r' σ' p_10 => ?_)
        obtain ⟨rfl, rfl⟩ := p_10
        show zH _ _ (49, [some (.inr (.inr (some 104))), some (.inl 0), some (.inl r), some (.inl n), none], [.inl (-11)], (zs (zup (zup h 104 1 0) 104 1 (-11)) hl)) _
        refine zH_ret (v := some (.inl (-11))) rfl (fun q => absurd q (by decide)) ?_
        exact Or.inr (Or.inl ⟨by omega, by omega, rfl, rfl⟩)
    · refine zH_go 2 (c' := (30, [some (.inr (.inr (some 104))), some (.inl 0), some (.inl r), some (.inl n), none], [.inl (-1), .inr (.inr (some 104))], (zs (zup h 104 1 0) hl))) rfl ?_
      refine zH_call (M' := 142) (as := [.inr (.inr (some 104)), .inl (-1)]) (T := []) rfl p_noO (fun r' σ' p_11 => ?_)
      obtain ⟨rfl, rfl⟩ := p_11
      show zH _ _ (33, [some (.inr (.inr (some 104))), some (.inl 0), some (.inl r), some (.inl n), none], [.inl (-1)], (zs (zup (zup h 104 1 0) 104 1 (-1)) hl)) _
      refine zH_ret (v := some (.inl (-1))) rfl (fun q => absurd q (by decide)) ?_
      exact Or.inl ⟨by omega, rfl, rfl⟩
  · exact absurd (by decide) b_2
set_option maxRecDepth 100000 in
set_option maxHeartbeats 4000000 in
theorem p_wrO0 {d : Nat} {h hl : Nat → Nat → Int} {t r i : Int} (ht : zr t) (hr : zr r) (hi : zr i) (hB : zMbk h hl 0) : zQ (d + 2) 145 [.inr (.inr (some 104)), .inl 0, .inl t, .inl r, .inl i] (zs h hl) (fun r' σ' => ∃ x : Int, zWO h 0 t r i x ∧ r' = some (.inl x) ∧ σ' = zs h hl) := by
  obtain ⟨h119, h121, h120, h122, h123⟩ := hB
  refine zQ_of (Nat.le_of_ble_eq_true rfl) ?_
  show zH (d + 1) 145 (0, [some (.inr (.inr (some 104))), some (.inl 0), some (.inl t), some (.inl r), some (.inl i), none], [], (zs h hl)) _
  refine zH_go 1 (c' := (1, [some (.inr (.inr (some 104))), some (.inl 0), some (.inl t), some (.inl r), some (.inl i), none], [.inl 0], (zs h hl))) rfl ?_
  refine zH_np (P := zr 0) (c' := (2, [some (.inr (.inr (some 104))), some (.inl 0), some (.inl t), some (.inl r), some (.inl i), none], [.inr (.inl 0)], (zs h hl))) rfl ⟨by decide, by decide⟩ ?_
  refine zH_go 2 (c' := (6, [some (.inr (.inr (some 104))), some (.inl 0), some (.inl t), some (.inl r), some (.inl i), none], [.inr (.inl 2), .inr (.inl 0), .inr (.inl 0)], (zs h hl))) rfl ?_
  refine zH_call (M' := 103) (as := [.inr (.inl 0), .inr (.inl 0), .inr (.inl 2)]) (T := []) rfl (p_in ⟨by decide, by decide⟩ ⟨by decide, by decide⟩ ⟨by decide, by decide⟩) (fun r σ' p_1 => ?_)
  rcases p_1 with ⟨rfl, b_2, rfl⟩ | ⟨rfl, b_2, rfl⟩
  · show zH _ _ (9, [some (.inr (.inr (some 104))), some (.inl 0), some (.inl t), some (.inl r), some (.inl i), none], [.inl 1], (zs h hl)) _
    refine zH_bf (x := 1) (y := 0) (k := .eq) (c1 := (24, [some (.inr (.inr (some 104))), some (.inl 0), some (.inl t), some (.inl r), some (.inl i), none], [], (zs h hl))) (c2 := (12, [some (.inr (.inr (some 104))), some (.inl 0), some (.inl t), some (.inl r), some (.inl i), none], [], (zs h hl))) rfl ⟨by decide, by decide⟩ ⟨by decide, by decide⟩ (by show ¬ (1 = 0); decide) ?_
    refine zH_go 1 (c' := (13, [some (.inr (.inr (some 104))), some (.inl 0), some (.inl t), some (.inl r), some (.inl i), none], [.inl t], (zs h hl))) rfl ?_
    refine zH_np (P := zr t) (c' := (14, [some (.inr (.inr (some 104))), some (.inl 0), some (.inl t), some (.inl r), some (.inl i), none], [.inr (.inl t)], (zs h hl))) rfl (by first | assumption | (unfold zr; omega)) ?_
    refine zH_go 2 (c' := (18, [some (.inr (.inr (some 104))), some (.inl 0), some (.inl t), some (.inl r), some (.inl i), none], [.inr (.inl 3), .inr (.inl 0), .inr (.inl t)], (zs h hl))) rfl ?_
    refine zH_call (M' := 103) (as := [.inr (.inl t), .inr (.inl 0), .inr (.inl 3)]) (T := []) rfl (p_in (by first | assumption | exact zr_l (by assumption) | (unfold zrl; omega)) ⟨by decide, by decide⟩ ⟨by decide, by decide⟩) (fun r σ' p_3 => ?_)
    rcases p_3 with ⟨rfl, b_4, rfl⟩ | ⟨rfl, b_4, rfl⟩
    · show zH _ _ (21, [some (.inr (.inr (some 104))), some (.inl 0), some (.inl t), some (.inl r), some (.inl i), none], [.inl 1], (zs h hl)) _
      refine zH_bt (x := 1) (y := 0) (k := .ne) (c1 := (26, [some (.inr (.inr (some 104))), some (.inl 0), some (.inl t), some (.inl r), some (.inl i), none], [], (zs h hl))) (c2 := (24, [some (.inr (.inr (some 104))), some (.inl 0), some (.inl t), some (.inl r), some (.inl i), none], [], (zs h hl))) rfl ⟨by decide, by decide⟩ ⟨by decide, by decide⟩ (by show ¬ 1 = 0; decide) ?_
      refine zH_go 3 (c' := (31, [some (.inr (.inr (some 104))), some (.inl 0), some (.inl t), some (.inl r), some (.inl i), none], [.inl 0, .inr (.inr (some 119))], (zs h hl))) rfl ?_
      refine zH_np (P := 0 ≤ 0 ∧ 0 < ((3 : Nat) : Int)) (c' := (32, [some (.inr (.inr (some 104))), some (.inl 0), some (.inl t), some (.inl r), some (.inl i), none], [.inl (h 119 0)], (zs h hl))) rfl ⟨by decide, by decide⟩ ?_
      refine zH_br (x := (h 119 0)) (y := 0) (k := .ne) (c1 := (38, [some (.inr (.inr (some 104))), some (.inl 0), some (.inl t), some (.inl r), some (.inl i), none], [], (zs h hl))) (c2 := (35, [some (.inr (.inr (some 104))), some (.inl 0), some (.inl t), some (.inl r), some (.inl i), none], [], (zs h hl))) rfl (by first | assumption | (unfold zr; omega)) ⟨by decide, by decide⟩ (fun (b_5 : ¬ (h 119 0) = 0) => ?_) (fun (b_5 : ¬ (¬ (h 119 0) = 0)) => ?_)
      · refine zH_go 3 (c' := (43, [some (.inr (.inr (some 104))), some (.inl 0), some (.inl t), some (.inl r), some (.inl i), none], [.inl 0, .inr (.inr (some 120))], (zs h hl))) rfl ?_
        refine zH_np (P := 0 ≤ 0 ∧ 0 < ((3 : Nat) : Int)) (c' := (44, [some (.inr (.inr (some 104))), some (.inl 0), some (.inl t), some (.inl r), some (.inl i), none], [.inl (h 120 0)], (zs h hl))) rfl ⟨by decide, by decide⟩ ?_
        refine zH_go 1 (c' := (45, [some (.inr (.inr (some 104))), some (.inl 0), some (.inl t), some (.inl r), some (.inl i), none], [.inl t, .inl (h 120 0)], (zs h hl))) rfl ?_
        refine zH_br (x := (h 120 0)) (y := t) (k := .eq) (c1 := (51, [some (.inr (.inr (some 104))), some (.inl 0), some (.inl t), some (.inl r), some (.inl i), none], [], (zs h hl))) (c2 := (48, [some (.inr (.inr (some 104))), some (.inl 0), some (.inl t), some (.inl r), some (.inl i), none], [], (zs h hl))) rfl (by first | assumption | (unfold zr; omega)) (by first | assumption | (unfold zr; omega)) (fun (b_6 : (h 120 0) = t) => ?_) (fun (b_6 : ¬ ((h 120 0) = t)) => ?_)
        · refine zH_go 1 (c' := (52, [some (.inr (.inr (some 104))), some (.inl 0), some (.inl t), some (.inl r), some (.inl i), none], [.inl r], (zs h hl))) rfl ?_
          refine zH_np (P := zr r) (c' := (53, [some (.inr (.inr (some 104))), some (.inl 0), some (.inl t), some (.inl r), some (.inl i), none], [.inr (.inl r)], (zs h hl))) rfl (by first | assumption | (unfold zr; omega)) ?_
          refine zH_go 4 (c' := (59, [some (.inr (.inr (some 104))), some (.inl 0), some (.inl t), some (.inl r), some (.inl i), none], [.inl 0, .inr (.inr (some 121)), .inr (.inl 0), .inr (.inl r)], (zs h hl))) rfl ?_
          refine zH_np (P := 0 ≤ 0 ∧ 0 < ((3 : Nat) : Int)) (c' := (60, [some (.inr (.inr (some 104))), some (.inl 0), some (.inl t), some (.inl r), some (.inl i), none], [.inl (h 121 0), .inr (.inl 0), .inr (.inl r)], (zs h hl))) rfl ⟨by decide, by decide⟩ ?_
          refine zH_go 2 (c' := (62, [some (.inr (.inr (some 104))), some (.inl 0), some (.inl t), some (.inl r), some (.inl i), none], [.inl ((h 121 0) - 1), .inr (.inl 0), .inr (.inl r)], (zs h hl))) rfl ?_
          refine zH_np (P := zr ((h 121 0) - 1)) (c' := (63, [some (.inr (.inr (some 104))), some (.inl 0), some (.inl t), some (.inl r), some (.inl i), none], [.inr (.inl ((h 121 0) - 1)), .inr (.inl 0), .inr (.inl r)], (zs h hl))) rfl (by first | assumption | (unfold zr; omega)) ?_
          refine zH_call (M' := 103) (as := [.inr (.inl r), .inr (.inl 0), .inr (.inl ((h 121 0) - 1))]) (T := []) rfl (p_in (by first | assumption | exact zr_l (by assumption) | (unfold zrl; omega)) ⟨by decide, by decide⟩ (by first | assumption | exact zr_l (by assumption) | (unfold zrl; omega))) (fun r σ' p_7 => ?_)
          rcases p_7 with ⟨rfl, b_8, rfl⟩ | ⟨rfl, b_8, rfl⟩
          · show zH _ _ (66, [some (.inr (.inr (some 104))), some (.inl 0), some (.inl t), some (.inl r), some (.inl i), none], [.inl 1], (zs h hl)) _
            refine zH_bt (x := 1) (y := 0) (k := .ne) (c1 := (72, [some (.inr (.inr (some 104))), some (.inl 0), some (.inl t), some (.inl r), some (.inl i), none], [], (zs h hl))) (c2 := (69, [some (.inr (.inr (some 104))), some (.inl 0), some (.inl t), some (.inl r), some (.inl i), none], [], (zs h hl))) rfl ⟨by decide, by decide⟩ ⟨by decide, by decide⟩ (by show ¬ 1 = 0; decide) ?_
            obtain ⟨R, rfl⟩ := Int.eq_ofNat_of_zero_le (show 0 ≤ r by omega)
            show zH _ _ (72, [some (.inr (.inr (some 104))), some (.inl 0), some (.inl t), some (.inl (R : Int)), some (.inl i), none], [], (zs h hl)) _
            have h2R : h 122 (0 + R) = -9 ∨ (0 ≤ h 122 (0 + R) ∧ h 122 (0 + R) ≤ 8) := h122 R (by omega)
            refine zH_go 7 (c' := (81, [some (.inr (.inr (some 104))), some (.inl 0), some (.inl t), some (.inl (R : Int)), some (.inl i), none], [.inl (0 + (R : Int)), .inr (.inr (some 122))], (zs h hl))) rfl ?_
            refine zH_np (P := 0 ≤ (0 + (R : Int)) ∧ (0 + (R : Int)) < ((12 : Nat) : Int)) (c' := (82, [some (.inr (.inr (some 104))), some (.inl 0), some (.inl t), some (.inl (R : Int)), some (.inl i), none], [.inl (h 122 (0 + R))], (zs h hl))) rfl ⟨by omega, by omega⟩ ?_
            refine zH_go 3 (c' := (88, [some (.inr (.inr (some 104))), some (.inl 0), some (.inl t), some (.inl (R : Int)), some (.inl i), some (.inl (h 122 (0 + R)))], [.inl (-9), .inl (h 122 (0 + R))], (zs h hl))) rfl ?_
            refine zH_br (x := (h 122 (0 + R))) (y := (-9)) (k := .ne) (c1 := (96, [some (.inr (.inr (some 104))), some (.inl 0), some (.inl t), some (.inl (R : Int)), some (.inl i), some (.inl (h 122 (0 + R)))], [], (zs h hl))) (c2 := (91, [some (.inr (.inr (some 104))), some (.inl 0), some (.inl t), some (.inl (R : Int)), some (.inl i), some (.inl (h 122 (0 + R)))], [], (zs h hl))) rfl (by first | assumption | (unfold zr; omega)) ⟨by decide, by decide⟩ (fun (b_9 : ¬ (h 122 (0 + R)) = (-9)) => ?_) (fun (b_9 : ¬ (¬ (h 122 (0 + R)) = (-9))) => ?_)
            · refine zH_go 1 (c' := (98, [some (.inr (.inr (some 104))), some (.inl 0), some (.inl t), some (.inl (R : Int)), some (.inl i), some (.inl (h 122 (0 + R)))], [.inl i], (zs h hl))) rfl ?_
              refine zH_np (P := zr i) (c' := (99, [some (.inr (.inr (some 104))), some (.inl 0), some (.inl t), some (.inl (R : Int)), some (.inl i), some (.inl (h 122 (0 + R)))], [.inr (.inl i)], (zs h hl))) rfl (by first | assumption | (unfold zr; omega)) ?_
              refine zH_go 4 (c' := (104, [some (.inr (.inr (some 104))), some (.inl 0), some (.inl t), some (.inl (R : Int)), some (.inl i), some (.inl (h 122 (0 + R)))], [.inl ((h 122 (0 + R)) - 1), .inr (.inl 0), .inr (.inl i)], (zs h hl))) rfl ?_
              refine zH_np (P := zr ((h 122 (0 + R)) - 1)) (c' := (105, [some (.inr (.inr (some 104))), some (.inl 0), some (.inl t), some (.inl (R : Int)), some (.inl i), some (.inl (h 122 (0 + R)))], [.inr (.inl ((h 122 (0 + R)) - 1)), .inr (.inl 0), .inr (.inl i)], (zs h hl))) rfl (by first | assumption | (unfold zr; omega)) ?_
              refine zH_call (M' := 103) (as := [.inr (.inl i), .inr (.inl 0), .inr (.inl ((h 122 (0 + R)) - 1))]) (T := []) rfl (p_in (by first | assumption | exact zr_l (by assumption) | (unfold zrl; omega)) ⟨by decide, by decide⟩ (by first | assumption | exact zr_l (by assumption) | (unfold zrl; omega))) (fun r σ' p_10 => ?_)
              rcases p_10 with ⟨rfl, b_11, rfl⟩ | ⟨rfl, b_11, rfl⟩
              · show zH _ _ (108, [some (.inr (.inr (some 104))), some (.inl 0), some (.inl t), some (.inl (R : Int)), some (.inl i), some (.inl (h 122 (0 + R)))], [.inl 1], (zs h hl)) _
                refine zH_bf (x := 1) (y := 0) (k := .eq) (c1 := (115, [some (.inr (.inr (some 104))), some (.inl 0), some (.inl t), some (.inl (R : Int)), some (.inl i), some (.inl (h 122 (0 + R)))], [], (zs h hl))) (c2 := (111, [some (.inr (.inr (some 104))), some (.inl 0), some (.inl t), some (.inl (R : Int)), some (.inl i), some (.inl (h 122 (0 + R)))], [], (zs h hl))) rfl ⟨by decide, by decide⟩ ⟨by decide, by decide⟩ (by show ¬ (1 = 0); decide) ?_
                refine zH_go 2 (c' := (117, [some (.inr (.inr (some 104))), some (.inl 0), some (.inl t), some (.inl (R : Int)), some (.inl i), some (.inl (h 122 (0 + R)))], [.inl 0], (zs h hl))) rfl ?_
                refine zH_ret (v := some (.inl 0)) rfl (fun q => absurd q (by decide)) ?_
                refine ⟨_, ?_, rfl, rfl⟩
                unfold zWO
                try rw [Int.toNat_natCast]
                try rw [show (4 : Nat) * 0 = 0 from rfl]
                omega
              · show zH _ _ (108, [some (.inr (.inr (some 104))), some (.inl 0), some (.inl t), some (.inl (R : Int)), some (.inl i), some (.inl (h 122 (0 + R)))], [.inl 0], (zs h hl)) _
                refine zH_bt (x := 0) (y := 0) (k := .eq) (c1 := (115, [some (.inr (.inr (some 104))), some (.inl 0), some (.inl t), some (.inl (R : Int)), some (.inl i), some (.inl (h 122 (0 + R)))], [], (zs h hl))) (c2 := (111, [some (.inr (.inr (some 104))), some (.inl 0), some (.inl t), some (.inl (R : Int)), some (.inl i), some (.inl (h 122 (0 + R)))], [], (zs h hl))) rfl ⟨by decide, by decide⟩ ⟨by decide, by decide⟩ (by show 0 = 0; decide) ?_
                refine zH_go 1 (c' := (117, [some (.inr (.inr (some 104))), some (.inl 0), some (.inl t), some (.inl (R : Int)), some (.inl i), some (.inl (h 122 (0 + R)))], [.inl (-12)], (zs h hl))) rfl ?_
                refine zH_ret (v := some (.inl (-12))) rfl (fun q => absurd q (by decide)) ?_
                refine ⟨_, ?_, rfl, rfl⟩
                unfold zWO
                try rw [Int.toNat_natCast]
                try rw [show (4 : Nat) * 0 = 0 from rfl]
                omega
            · refine zH_go 2 (c' := (117, [some (.inr (.inr (some 104))), some (.inl 0), some (.inl t), some (.inl (R : Int)), some (.inl i), some (.inl (h 122 (0 + R)))], [.inl (-11)], (zs h hl))) rfl ?_
              refine zH_ret (v := some (.inl (-11))) rfl (fun q => absurd q (by decide)) ?_
              refine ⟨_, ?_, rfl, rfl⟩
              unfold zWO
              try rw [Int.toNat_natCast]
              try rw [show (4 : Nat) * 0 = 0 from rfl]
              omega
          · show zH _ _ (66, [some (.inr (.inr (some 104))), some (.inl 0), some (.inl t), some (.inl r), some (.inl i), none], [.inl 0], (zs h hl)) _
            refine zH_bf (x := 0) (y := 0) (k := .ne) (c1 := (72, [some (.inr (.inr (some 104))), some (.inl 0), some (.inl t), some (.inl r), some (.inl i), none], [], (zs h hl))) (c2 := (69, [some (.inr (.inr (some 104))), some (.inl 0), some (.inl t), some (.inl r), some (.inl i), none], [], (zs h hl))) rfl ⟨by decide, by decide⟩ ⟨by decide, by decide⟩ (by show ¬ (¬ 0 = 0); decide) ?_
            refine zH_go 1 (c' := (71, [some (.inr (.inr (some 104))), some (.inl 0), some (.inl t), some (.inl r), some (.inl i), none], [.inl (-12)], (zs h hl))) rfl ?_
            refine zH_ret (v := some (.inl (-12))) rfl (fun q => absurd q (by decide)) ?_
            refine ⟨_, ?_, rfl, rfl⟩
            unfold zWO
            try rw [Int.toNat_natCast]
            try rw [show (4 : Nat) * 0 = 0 from rfl]
            omega
        · refine zH_go 1 (c' := (50, [some (.inr (.inr (some 104))), some (.inl 0), some (.inl t), some (.inl r), some (.inl i), none], [.inl (-13)], (zs h hl))) rfl ?_
          refine zH_ret (v := some (.inl (-13))) rfl (fun q => absurd q (by decide)) ?_
          refine ⟨_, ?_, rfl, rfl⟩
          unfold zWO
          try rw [Int.toNat_natCast]
          try rw [show (4 : Nat) * 0 = 0 from rfl]
          omega
      · refine zH_go 1 (c' := (37, [some (.inr (.inr (some 104))), some (.inl 0), some (.inl t), some (.inl r), some (.inl i), none], [.inl (-11)], (zs h hl))) rfl ?_
        refine zH_ret (v := some (.inl (-11))) rfl (fun q => absurd q (by decide)) ?_
        refine ⟨_, ?_, rfl, rfl⟩
        unfold zWO
        try rw [Int.toNat_natCast]
        try rw [show (4 : Nat) * 0 = 0 from rfl]
        omega
    · show zH _ _ (21, [some (.inr (.inr (some 104))), some (.inl 0), some (.inl t), some (.inl r), some (.inl i), none], [.inl 0], (zs h hl)) _
      refine zH_bf (x := 0) (y := 0) (k := .ne) (c1 := (26, [some (.inr (.inr (some 104))), some (.inl 0), some (.inl t), some (.inl r), some (.inl i), none], [], (zs h hl))) (c2 := (24, [some (.inr (.inr (some 104))), some (.inl 0), some (.inl t), some (.inl r), some (.inl i), none], [], (zs h hl))) rfl ⟨by decide, by decide⟩ ⟨by decide, by decide⟩ (by show ¬ (¬ 0 = 0); decide) ?_
      refine zH_go 1 (c' := (25, [some (.inr (.inr (some 104))), some (.inl 0), some (.inl t), some (.inl r), some (.inl i), none], [.inl (-1)], (zs h hl))) rfl ?_
      refine zH_ret (v := some (.inl (-1))) rfl (fun q => absurd q (by decide)) ?_
      refine ⟨_, ?_, rfl, rfl⟩
      unfold zWO
      try rw [Int.toNat_natCast]
      try rw [show (4 : Nat) * 0 = 0 from rfl]
      omega
  · exact absurd (by decide) b_2
set_option maxRecDepth 100000 in
set_option maxHeartbeats 4000000 in
theorem p_putO0 {d : Nat} {h0 h hl : Nat → Nat → Int} (e0 : zup h0 104 0 0 = h) {t r i v : Int} (ht : zr t) (hr : zr r) (hi : zr i) (hB : zMbk h hl 0) : zQ (d + 3) 146 [.inr (.inr (some 104)), .inl 0, .inl t, .inl r, .inl i, .inr (.inl v)] (zs h0 hl) (fun r' σ' => ∃ x : Int, zWO h 0 t r i x ∧ ((¬ x = 0 ∧ r' = some (.inl x) ∧ σ' = zs (zup h 104 1 x) hl) ∨ (x = 0 ∧ r' = some (.inl 1) ∧ σ' = zs (zup h 104 1 0) (zup hl 123 (0 + 8 * Int.toNat r + Int.toNat i) (zNar t v))))) := by
  have hBc := hB
  obtain ⟨h119, h121, h120, h122, h123⟩ := hBc
  refine zQ_of (Nat.le_of_ble_eq_true rfl) ?_
  show zH (d + 2) 146 (0, [some (.inr (.inr (some 104))), some (.inl 0), some (.inl t), some (.inl r), some (.inl i), some (.inr (.inl v)), none], [], (zs h0 hl)) _
  refine zH_go 3 (c' := (5, [some (.inr (.inr (some 104))), some (.inl 0), some (.inl t), some (.inl r), some (.inl i), some (.inr (.inl v)), none], [], (zs (zup h0 104 0 0) hl))) rfl ?_
  rw [e0]
  refine zH_go 6 (c' := (12, [some (.inr (.inr (some 104))), some (.inl 0), some (.inl t), some (.inl r), some (.inl i), some (.inr (.inl v)), none], [.inl i, .inl r, .inl t, .inl 0, .inr (.inr (some 104)), .inr (.inr (some 104))], (zs h hl))) rfl ?_
  refine zH_call (M' := 145) (as := [.inr (.inr (some 104)), .inl 0, .inl t, .inl r, .inl i]) (T := [.inr (.inr (some 104))]) rfl (p_wrO0 ht hr hi hB) (fun r' σ' p_1 => ?_)
  obtain ⟨x, hx, rfl, rfl⟩ := p_1
  have hxb := zWO_b hx
  show zH _ _ (15, [some (.inr (.inr (some 104))), some (.inl 0), some (.inl t), some (.inl r), some (.inl i), some (.inr (.inl v)), none], [.inl x, .inr (.inr (some 104))], (zs h hl)) _
  refine zH_go 3 (c' := (22, [some (.inr (.inr (some 104))), some (.inl 0), some (.inl t), some (.inl r), some (.inl i), some (.inr (.inl v)), none], [.inl x], (zs (zup h 104 1 x) hl))) rfl ?_
  refine zH_br (x := x) (y := 0) (k := .ge) (c1 := (30, [some (.inr (.inr (some 104))), some (.inl 0), some (.inl t), some (.inl r), some (.inl i), some (.inr (.inl v)), none], [], (zs (zup h 104 1 x) hl))) (c2 := (25, [some (.inr (.inr (some 104))), some (.inl 0), some (.inl t), some (.inl r), some (.inl i), some (.inr (.inl v)), none], [], (zs (zup h 104 1 x) hl))) rfl (by first | assumption | exact zbm_zr _ | exact (zbm_zr2 _).1 | exact (zbm_zr2 _).2 | (unfold zr; omega)) ⟨by decide, by decide⟩ (fun (b_2 : ¬ x < 0) => ?_) (fun (b_2 : ¬ (¬ x < 0)) => ?_)
  · obtain rfl : x = 0 := by omega
    have hx0 := zWO_0 hx
    obtain ⟨R, rfl⟩ := Int.eq_ofNat_of_zero_le hx0.2.1.1
    obtain ⟨U, rfl⟩ := Int.eq_ofNat_of_zero_le hx0.2.2.1
    rw [Int.toNat_natCast, show (4 : Nat) * 0 = 0 from rfl] at hx0
    have h2R : h 122 (0 + R) = -9 ∨ (0 ≤ h 122 (0 + R) ∧ h 122 (0 + R) ≤ 8) := h122 R (by omega)
    show zH _ _ (30, [some (.inr (.inr (some 104))), some (.inl 0), some (.inl t), some (.inl (R : Int)), some (.inl (U : Int)), some (.inr (.inl v)), none], [], (zs (zup h 104 1 0) hl)) _
    refine zH_go 11 (c' := (46, [some (.inr (.inr (some 104))), some (.inl 0), some (.inl t), some (.inl (R : Int)), some (.inl (U : Int)), some (.inr (.inl v)), none], [.inl ((0 + (8 * (R : Int))) + (U : Int)), .inr (.inr (some 123))], (zs (zup h 104 1 0) hl))) rfl ?_
    refine zH_mg (F := fun mq => (85, [some (.inr (.inr (some 104))), some (.inl 0), some (.inl t), some (.inl (R : Int)), some (.inl (U : Int)), some (.inr (.inl v)), none], [.inr (.inl mq), .inl ((0 + (8 * (R : Int))) + (U : Int)), .inr (.inr (some 123))], (zs (zup h 104 1 0) hl))) (R := fun mq => mq = zNar t v) (fun m_3 fm_3 => ?_) (fun kk => ?_)
    · replace fm_3 : m_3 = zNar t v := fm_3
      show zH _ _ (85, [some (.inr (.inr (some 104))), some (.inl 0), some (.inl t), some (.inl (R : Int)), some (.inl (U : Int)), some (.inr (.inl v)), none], [.inr (.inl m_3), .inl ((0 + (8 * (R : Int))) + (U : Int)), .inr (.inr (some 123))], (zs (zup h 104 1 0) hl)) _
      refine zH_np (P := 0 ≤ ((0 + (8 * (R : Int))) + (U : Int)) ∧ ((0 + (8 * (R : Int))) + (U : Int)) < ((96 : Nat) : Int)) (c' := (86, [some (.inr (.inr (some 104))), some (.inl 0), some (.inl t), some (.inl (R : Int)), some (.inl (U : Int)), some (.inr (.inl v)), none], [], (zs (zup h 104 1 0) (zup hl 123 ((0 + (8 * R)) + U) m_3)))) rfl ⟨by omega, by omega⟩ ?_
      refine zH_go 1 (c' := (87, [some (.inr (.inr (some 104))), some (.inl 0), some (.inl t), some (.inl (R : Int)), some (.inl (U : Int)), some (.inr (.inl v)), none], [.inl 1], (zs (zup h 104 1 0) (zup hl 123 ((0 + (8 * R)) + U) m_3)))) rfl ?_
      refine zH_ret (v := some (.inl 1)) rfl (fun q => absurd q (by decide)) ?_
      exact ⟨0, hx, Or.inr ⟨rfl, rfl, by rw [Int.toNat_natCast, Int.toNat_natCast, ← fm_3]⟩⟩
    · refine zH_go 1 (c' := (47, [some (.inr (.inr (some 104))), some (.inl 0), some (.inl t), some (.inl (R : Int)), some (.inl (U : Int)), some (.inr (.inl v)), none], [.inl t, .inl ((0 + (8 * (R : Int))) + (U : Int)), .inr (.inr (some 123))], (zs (zup h 104 1 0) hl))) rfl ?_
      refine zH_br (x := t) (y := 0) (k := .ne) (c1 := (58, [some (.inr (.inr (some 104))), some (.inl 0), some (.inl t), some (.inl (R : Int)), some (.inl (U : Int)), some (.inr (.inl v)), none], [.inl ((0 + (8 * (R : Int))) + (U : Int)), .inr (.inr (some 123))], (zs (zup h 104 1 0) hl))) (c2 := (50, [some (.inr (.inr (some 104))), some (.inl 0), some (.inl t), some (.inl (R : Int)), some (.inl (U : Int)), some (.inr (.inl v)), none], [.inl ((0 + (8 * (R : Int))) + (U : Int)), .inr (.inr (some 123))], (zs (zup h 104 1 0) hl))) rfl (by first | assumption | exact zbm_zr _ | exact (zbm_zr2 _).1 | exact (zbm_zr2 _).2 | (unfold zr; omega)) ⟨by decide, by decide⟩ (fun (b_4 : ¬ t = 0) => ?_) (fun (b_4 : ¬ (¬ t = 0)) => ?_)
      · refine zH_go 2 (c' := (60, [some (.inr (.inr (some 104))), some (.inl 0), some (.inl t), some (.inl (R : Int)), some (.inl (U : Int)), some (.inr (.inl v)), none], [.inl 1, .inl t, .inl ((0 + (8 * (R : Int))) + (U : Int)), .inr (.inr (some 123))], (zs (zup h 104 1 0) hl))) rfl ?_
        refine zH_br (x := t) (y := 1) (k := .ne) (c1 := (71, [some (.inr (.inr (some 104))), some (.inl 0), some (.inl t), some (.inl (R : Int)), some (.inl (U : Int)), some (.inr (.inl v)), none], [.inl ((0 + (8 * (R : Int))) + (U : Int)), .inr (.inr (some 123))], (zs (zup h 104 1 0) hl))) (c2 := (63, [some (.inr (.inr (some 104))), some (.inl 0), some (.inl t), some (.inl (R : Int)), some (.inl (U : Int)), some (.inr (.inl v)), none], [.inl ((0 + (8 * (R : Int))) + (U : Int)), .inr (.inr (some 123))], (zs (zup h 104 1 0) hl))) rfl (by first | assumption | exact zbm_zr _ | exact (zbm_zr2 _).1 | exact (zbm_zr2 _).2 | (unfold zr; omega)) ⟨by decide, by decide⟩ (fun (b_5 : ¬ t = 1) => ?_) (fun (b_5 : ¬ (¬ t = 1)) => ?_)
        · refine zH_go 2 (c' := (73, [some (.inr (.inr (some 104))), some (.inl 0), some (.inl t), some (.inl (R : Int)), some (.inl (U : Int)), some (.inr (.inl v)), none], [.inl 2, .inl t, .inl ((0 + (8 * (R : Int))) + (U : Int)), .inr (.inr (some 123))], (zs (zup h 104 1 0) hl))) rfl ?_
          refine zH_br (x := t) (y := 2) (k := .ne) (c1 := (83, [some (.inr (.inr (some 104))), some (.inl 0), some (.inl t), some (.inl (R : Int)), some (.inl (U : Int)), some (.inr (.inl v)), none], [.inl ((0 + (8 * (R : Int))) + (U : Int)), .inr (.inr (some 123))], (zs (zup h 104 1 0) hl))) (c2 := (76, [some (.inr (.inr (some 104))), some (.inl 0), some (.inl t), some (.inl (R : Int)), some (.inl (U : Int)), some (.inr (.inl v)), none], [.inl ((0 + (8 * (R : Int))) + (U : Int)), .inr (.inr (some 123))], (zs (zup h 104 1 0) hl))) rfl (by first | assumption | exact zbm_zr _ | exact (zbm_zr2 _).1 | exact (zbm_zr2 _).2 | (unfold zr; omega)) ⟨by decide, by decide⟩ (fun (b_6 : ¬ t = 2) => ?_) (fun (b_6 : ¬ (¬ t = 2)) => ?_)
          · refine zH_go 1 (c' := (85, [some (.inr (.inr (some 104))), some (.inl 0), some (.inl t), some (.inl (R : Int)), some (.inl (U : Int)), some (.inr (.inl v)), none], [.inr (.inl v), .inl ((0 + (8 * (R : Int))) + (U : Int)), .inr (.inr (some 123))], (zs (zup h 104 1 0) hl))) rfl ?_
            refine kk v ?_
            show v = zNar t v
            unfold zNar
            first | rw [if_pos (by omega)] | rw [if_neg (by omega), if_pos (by omega)] | rw [if_neg (by omega), if_neg (by omega), if_pos (by omega)] | rw [if_neg (by omega), if_neg (by omega), if_neg (by omega)]
          · refine zH_go 2 (c' := (79, [some (.inr (.inr (some 104))), some (.inl 0), some (.inl t), some (.inl (R : Int)), some (.inl (U : Int)), some (.inr (.inl v)), none], [.inl (Int.bmod v 4294967296), .inl ((0 + (8 * (R : Int))) + (U : Int)), .inr (.inr (some 123))], (zs (zup h 104 1 0) hl))) rfl ?_
            refine zH_np (P := zr (Int.bmod v 4294967296)) (c' := (80, [some (.inr (.inr (some 104))), some (.inl 0), some (.inl t), some (.inl (R : Int)), some (.inl (U : Int)), some (.inr (.inl v)), none], [.inr (.inl (Int.bmod v 4294967296)), .inl ((0 + (8 * (R : Int))) + (U : Int)), .inr (.inr (some 123))], (zs (zup h 104 1 0) hl))) rfl (by first | assumption | exact zbm_zr _ | exact (zbm_zr2 _).1 | exact (zbm_zr2 _).2 | (unfold zr; omega)) ?_
            refine zH_go 1 (c' := (85, [some (.inr (.inr (some 104))), some (.inl 0), some (.inl t), some (.inl (R : Int)), some (.inl (U : Int)), some (.inr (.inl v)), none], [.inr (.inl (Int.bmod v 4294967296)), .inl ((0 + (8 * (R : Int))) + (U : Int)), .inr (.inr (some 123))], (zs (zup h 104 1 0) hl))) rfl ?_
            refine kk (Int.bmod v 4294967296) ?_
            show (Int.bmod v 4294967296) = zNar t v
            unfold zNar
            first | rw [if_pos (by omega)] | rw [if_neg (by omega), if_pos (by omega)] | rw [if_neg (by omega), if_neg (by omega), if_pos (by omega)] | rw [if_neg (by omega), if_neg (by omega), if_neg (by omega)]
        · refine zH_go 3 (c' := (67, [some (.inr (.inr (some 104))), some (.inl 0), some (.inl t), some (.inl (R : Int)), some (.inl (U : Int)), some (.inr (.inl v)), none], [.inl (Int.bmod (Int.bmod v 4294967296) 65536), .inl ((0 + (8 * (R : Int))) + (U : Int)), .inr (.inr (some 123))], (zs (zup h 104 1 0) hl))) rfl ?_
          refine zH_np (P := zr (Int.bmod (Int.bmod v 4294967296) 65536)) (c' := (68, [some (.inr (.inr (some 104))), some (.inl 0), some (.inl t), some (.inl (R : Int)), some (.inl (U : Int)), some (.inr (.inl v)), none], [.inr (.inl (Int.bmod (Int.bmod v 4294967296) 65536)), .inl ((0 + (8 * (R : Int))) + (U : Int)), .inr (.inr (some 123))], (zs (zup h 104 1 0) hl))) rfl (by first | assumption | exact zbm_zr _ | exact (zbm_zr2 _).1 | exact (zbm_zr2 _).2 | (unfold zr; omega)) ?_
          refine zH_go 1 (c' := (85, [some (.inr (.inr (some 104))), some (.inl 0), some (.inl t), some (.inl (R : Int)), some (.inl (U : Int)), some (.inr (.inl v)), none], [.inr (.inl (Int.bmod (Int.bmod v 4294967296) 65536)), .inl ((0 + (8 * (R : Int))) + (U : Int)), .inr (.inr (some 123))], (zs (zup h 104 1 0) hl))) rfl ?_
          refine kk (Int.bmod (Int.bmod v 4294967296) 65536) ?_
          show (Int.bmod (Int.bmod v 4294967296) 65536) = zNar t v
          unfold zNar
          first | rw [if_pos (by omega)] | rw [if_neg (by omega), if_pos (by omega)] | rw [if_neg (by omega), if_neg (by omega), if_pos (by omega)] | rw [if_neg (by omega), if_neg (by omega), if_neg (by omega)]
      · refine zH_go 3 (c' := (54, [some (.inr (.inr (some 104))), some (.inl 0), some (.inl t), some (.inl (R : Int)), some (.inl (U : Int)), some (.inr (.inl v)), none], [.inl (Int.bmod (Int.bmod v 4294967296) 256), .inl ((0 + (8 * (R : Int))) + (U : Int)), .inr (.inr (some 123))], (zs (zup h 104 1 0) hl))) rfl ?_
        refine zH_np (P := zr (Int.bmod (Int.bmod v 4294967296) 256)) (c' := (55, [some (.inr (.inr (some 104))), some (.inl 0), some (.inl t), some (.inl (R : Int)), some (.inl (U : Int)), some (.inr (.inl v)), none], [.inr (.inl (Int.bmod (Int.bmod v 4294967296) 256)), .inl ((0 + (8 * (R : Int))) + (U : Int)), .inr (.inr (some 123))], (zs (zup h 104 1 0) hl))) rfl (by first | assumption | exact zbm_zr _ | exact (zbm_zr2 _).1 | exact (zbm_zr2 _).2 | (unfold zr; omega)) ?_
        refine zH_go 1 (c' := (85, [some (.inr (.inr (some 104))), some (.inl 0), some (.inl t), some (.inl (R : Int)), some (.inl (U : Int)), some (.inr (.inl v)), none], [.inr (.inl (Int.bmod (Int.bmod v 4294967296) 256)), .inl ((0 + (8 * (R : Int))) + (U : Int)), .inr (.inr (some 123))], (zs (zup h 104 1 0) hl))) rfl ?_
        refine kk (Int.bmod (Int.bmod v 4294967296) 256) ?_
        show (Int.bmod (Int.bmod v 4294967296) 256) = zNar t v
        unfold zNar
        first | rw [if_pos (by omega)] | rw [if_neg (by omega), if_pos (by omega)] | rw [if_neg (by omega), if_neg (by omega), if_pos (by omega)] | rw [if_neg (by omega), if_neg (by omega), if_neg (by omega)]
  · refine zH_go 2 (c' := (29, [some (.inr (.inr (some 104))), some (.inl 0), some (.inl t), some (.inl r), some (.inl i), some (.inr (.inl v)), none], [.inl x], (zs (zup h 104 1 x) hl))) rfl ?_
    refine zH_ret (v := some (.inl x)) rfl (fun q => absurd q (by decide)) ?_
    exact ⟨x, hx, Or.inl ⟨by omega, rfl, rfl⟩⟩
set_option maxRecDepth 100000 in
set_option maxHeartbeats 4000000 in
theorem p_itemO0 {d : Nat} {h0 h hl : Nat → Nat → Int} (e0 : zup h0 104 0 0 = h) {t r i : Int} (ht : zr t) (hr : zr r) (hi : zr i) (hB : zMbk h hl 0) : zQ (d + 3) 147 [.inr (.inr (some 104)), .inl 0, .inl t, .inl r, .inl i] (zs h0 hl) (fun r' σ' => ∃ x : Int, zWO h 0 t r i x ∧ ((¬ x = 0 ∧ r' = some (.inr (.inl 0)) ∧ σ' = zs (zup h 104 1 x) hl) ∨ (x = 0 ∧ r' = some (.inr (.inl (hl 123 (0 + 8 * Int.toNat r + Int.toNat i)))) ∧ σ' = zs (zup h 104 1 0) hl))) := by
  have hBc := hB
  obtain ⟨h119, h121, h120, h122, h123⟩ := hBc
  refine zQ_of (Nat.le_of_ble_eq_true rfl) ?_
  show zH (d + 2) 147 (0, [some (.inr (.inr (some 104))), some (.inl 0), some (.inl t), some (.inl r), some (.inl i)], [], (zs h0 hl)) _
  refine zH_go 3 (c' := (5, [some (.inr (.inr (some 104))), some (.inl 0), some (.inl t), some (.inl r), some (.inl i)], [], (zs (zup h0 104 0 0) hl))) rfl ?_
  rw [e0]
  refine zH_go 6 (c' := (12, [some (.inr (.inr (some 104))), some (.inl 0), some (.inl t), some (.inl r), some (.inl i)], [.inl i, .inl r, .inl t, .inl 0, .inr (.inr (some 104)), .inr (.inr (some 104))], (zs h hl))) rfl ?_
  refine zH_call (M' := 145) (as := [.inr (.inr (some 104)), .inl 0, .inl t, .inl r, .inl i]) (T := [.inr (.inr (some 104))]) rfl (p_wrO0 ht hr hi hB) (fun r' σ' p_1 => ?_)
  obtain ⟨x, hx, rfl, rfl⟩ := p_1
  have hxb := zWO_b hx
  show zH _ _ (15, [some (.inr (.inr (some 104))), some (.inl 0), some (.inl t), some (.inl r), some (.inl i)], [.inl x, .inr (.inr (some 104))], (zs h hl)) _
  refine zH_go 3 (c' := (22, [some (.inr (.inr (some 104))), some (.inl 0), some (.inl t), some (.inl r), some (.inl i)], [.inl x], (zs (zup h 104 1 x) hl))) rfl ?_
  refine zH_br (x := x) (y := 0) (k := .ge) (c1 := (29, [some (.inr (.inr (some 104))), some (.inl 0), some (.inl t), some (.inl r), some (.inl i)], [], (zs (zup h 104 1 x) hl))) (c2 := (25, [some (.inr (.inr (some 104))), some (.inl 0), some (.inl t), some (.inl r), some (.inl i)], [], (zs (zup h 104 1 x) hl))) rfl (by first | assumption | (unfold zr; omega)) ⟨by decide, by decide⟩ (fun (b_2 : ¬ x < 0) => ?_) (fun (b_2 : ¬ (¬ x < 0)) => ?_)
  · obtain rfl : x = 0 := by omega
    have hx0 := zWO_0 hx
    obtain ⟨R, rfl⟩ := Int.eq_ofNat_of_zero_le hx0.2.1.1
    obtain ⟨U, rfl⟩ := Int.eq_ofNat_of_zero_le hx0.2.2.1
    rw [Int.toNat_natCast, show (4 : Nat) * 0 = 0 from rfl] at hx0
    have h2R : h 122 (0 + R) = -9 ∨ (0 ≤ h 122 (0 + R) ∧ h 122 (0 + R) ≤ 8) := h122 R (by omega)
    show zH _ _ (29, [some (.inr (.inr (some 104))), some (.inl 0), some (.inl t), some (.inl (R : Int)), some (.inl (U : Int))], [], (zs (zup h 104 1 0) hl)) _
    refine zH_go 11 (c' := (45, [some (.inr (.inr (some 104))), some (.inl 0), some (.inl t), some (.inl (R : Int)), some (.inl (U : Int))], [.inl ((0 + (8 * (R : Int))) + (U : Int)), .inr (.inr (some 123))], (zs (zup h 104 1 0) hl))) rfl ?_
    refine zH_np (P := 0 ≤ ((0 + (8 * (R : Int))) + (U : Int)) ∧ ((0 + (8 * (R : Int))) + (U : Int)) < ((96 : Nat) : Int)) (c' := (46, [some (.inr (.inr (some 104))), some (.inl 0), some (.inl t), some (.inl (R : Int)), some (.inl (U : Int))], [.inr (.inl (hl 123 ((0 + (8 * R)) + U)))], (zs (zup h 104 1 0) hl))) rfl ⟨by omega, by omega⟩ ?_
    refine zH_ret (v := some (.inr (.inl (hl 123 ((0 + (8 * R)) + U))))) rfl (fun q => absurd q (by decide)) ?_
    exact ⟨0, hx, Or.inr ⟨rfl, by rw [Int.toNat_natCast, Int.toNat_natCast], rfl⟩⟩
  · refine zH_go 2 (c' := (46, [some (.inr (.inr (some 104))), some (.inl 0), some (.inl t), some (.inl r), some (.inl i)], [.inr (.inl 0)], (zs (zup h 104 1 x) hl))) rfl ?_
    refine zH_ret (v := some (.inr (.inl 0))) rfl (fun q => absurd q (by decide)) ?_
    exact ⟨x, hx, Or.inl ⟨by omega, rfl, rfl⟩⟩
set_option maxRecDepth 100000 in
set_option maxHeartbeats 4000000 in
theorem p_bookO1 {d : Nat} {h0 h hl : Nat → Nat → Int} (e0 : zup h0 104 0 0 = h) {t n : Int} (ht : zr t) (hn : zr n) : zQ (d + 2) 143 [.inr (.inr (some 104)), .inl 1, .inl t, .inl n] (zs h0 hl) (fun r' σ' => (¬ ((0 ≤ t ∧ t ≤ 3) ∧ n ≤ 4) ∧ r' = some (.inl (-1)) ∧ σ' = zs (zup (zup h 104 1 0) 104 1 (-1)) hl) ∨ (((0 ≤ t ∧ t ≤ 3) ∧ n ≤ 4) ∧ n < 0 ∧ r' = some (.inl (-15)) ∧ σ' = zs (zup (zup h 104 1 0) 104 1 (-15)) hl) ∨ (((0 ≤ t ∧ t ≤ 3) ∧ n ≤ 4) ∧ 0 ≤ n ∧ r' = some (.inl 1) ∧ σ' = zs (zup (zup (zup (zup (zup (zup (zup (zup h 104 1 0) 119 1 1) 120 1 t) 121 1 n) 122 4 (-9)) 122 5 (-9)) 122 6 (-9)) 122 7 (-9)) hl)) := by
  refine zQ_of (Nat.le_of_ble_eq_true rfl) ?_
  show zH (d + 1) 143 (0, [some (.inr (.inr (some 104))), some (.inl 1), some (.inl t), some (.inl n), none], [], (zs h0 hl)) _
  refine zH_go 3 (c' := (5, [some (.inr (.inr (some 104))), some (.inl 1), some (.inl t), some (.inl n), none], [], (zs (zup h0 104 0 0) hl))) rfl ?_
  rw [e0]
  refine zH_go 4 (c' := (11, [some (.inr (.inr (some 104))), some (.inl 1), some (.inl t), some (.inl n), none], [.inl 1], (zs (zup h 104 1 0) hl))) rfl ?_
  refine zH_np (P := zr 1) (c' := (12, [some (.inr (.inr (some 104))), some (.inl 1), some (.inl t), some (.inl n), none], [.inr (.inl 1)], (zs (zup h 104 1 0) hl))) rfl ⟨by decide, by decide⟩ ?_
  refine zH_go 2 (c' := (16, [some (.inr (.inr (some 104))), some (.inl 1), some (.inl t), some (.inl n), none], [.inr (.inl 2), .inr (.inl 0), .inr (.inl 1)], (zs (zup h 104 1 0) hl))) rfl ?_
  refine zH_call (M' := 103) (as := [.inr (.inl 1), .inr (.inl 0), .inr (.inl 2)]) (T := []) rfl (p_in ⟨by decide, by decide⟩ ⟨by decide, by decide⟩ ⟨by decide, by decide⟩) (fun r σ' p_1 => ?_)
  rcases p_1 with ⟨rfl, b_2, rfl⟩ | ⟨rfl, b_2, rfl⟩
  · show zH _ _ (19, [some (.inr (.inr (some 104))), some (.inl 1), some (.inl t), some (.inl n), none], [.inl 1], (zs (zup h 104 1 0) hl)) _
    refine zH_bf (x := 1) (y := 0) (k := .eq) (c1 := (39, [some (.inr (.inr (some 104))), some (.inl 1), some (.inl t), some (.inl n), none], [], (zs (zup h 104 1 0) hl))) (c2 := (22, [some (.inr (.inr (some 104))), some (.inl 1), some (.inl t), some (.inl n), none], [], (zs (zup h 104 1 0) hl))) rfl ⟨by decide, by decide⟩ ⟨by decide, by decide⟩ (by show ¬ (1 = 0); decide) ?_
    refine zH_go 1 (c' := (23, [some (.inr (.inr (some 104))), some (.inl 1), some (.inl t), some (.inl n), none], [.inl t], (zs (zup h 104 1 0) hl))) rfl ?_
    refine zH_np (P := zr t) (c' := (24, [some (.inr (.inr (some 104))), some (.inl 1), some (.inl t), some (.inl n), none], [.inr (.inl t)], (zs (zup h 104 1 0) hl))) rfl (by first | assumption | (unfold zr; omega)) ?_
    refine zH_go 2 (c' := (28, [some (.inr (.inr (some 104))), some (.inl 1), some (.inl t), some (.inl n), none], [.inr (.inl 3), .inr (.inl 0), .inr (.inl t)], (zs (zup h 104 1 0) hl))) rfl ?_
    refine zH_call (M' := 103) (as := [.inr (.inl t), .inr (.inl 0), .inr (.inl 3)]) (T := []) rfl (p_in (by first | assumption | exact zr_l (by assumption) | (unfold zrl; omega)) ⟨by decide, by decide⟩ ⟨by decide, by decide⟩) (fun r σ' p_3 => ?_)
    rcases p_3 with ⟨rfl, b_4, rfl⟩ | ⟨rfl, b_4, rfl⟩
    · show zH _ _ (31, [some (.inr (.inr (some 104))), some (.inl 1), some (.inl t), some (.inl n), none], [.inl 1], (zs (zup h 104 1 0) hl)) _
      refine zH_bf (x := 1) (y := 0) (k := .eq) (c1 := (39, [some (.inr (.inr (some 104))), some (.inl 1), some (.inl t), some (.inl n), none], [], (zs (zup h 104 1 0) hl))) (c2 := (34, [some (.inr (.inr (some 104))), some (.inl 1), some (.inl t), some (.inl n), none], [], (zs (zup h 104 1 0) hl))) rfl ⟨by decide, by decide⟩ ⟨by decide, by decide⟩ (by show ¬ (1 = 0); decide) ?_
      refine zH_go 2 (c' := (36, [some (.inr (.inr (some 104))), some (.inl 1), some (.inl t), some (.inl n), none], [.inl 4, .inl n], (zs (zup h 104 1 0) hl))) rfl ?_
      refine zH_br (x := n) (y := 4) (k := .le) (c1 := (45, [some (.inr (.inr (some 104))), some (.inl 1), some (.inl t), some (.inl n), none], [], (zs (zup h 104 1 0) hl))) (c2 := (39, [some (.inr (.inr (some 104))), some (.inl 1), some (.inl t), some (.inl n), none], [], (zs (zup h 104 1 0) hl))) rfl (by first | assumption | (unfold zr; omega)) ⟨by decide, by decide⟩ (fun (b_5 : ¬ 4 < n) => ?_) (fun (b_5 : ¬ (¬ 4 < n)) => ?_)
      · refine zH_go 1 (c' := (46, [some (.inr (.inr (some 104))), some (.inl 1), some (.inl t), some (.inl n), none], [.inl n], (zs (zup h 104 1 0) hl))) rfl ?_
        refine zH_br (x := n) (y := 0) (k := .ge) (c1 := (56, [some (.inr (.inr (some 104))), some (.inl 1), some (.inl t), some (.inl n), none], [], (zs (zup h 104 1 0) hl))) (c2 := (49, [some (.inr (.inr (some 104))), some (.inl 1), some (.inl t), some (.inl n), none], [], (zs (zup h 104 1 0) hl))) rfl (by first | assumption | (unfold zr; omega)) ⟨by decide, by decide⟩ (fun (b_6 : ¬ n < 0) => ?_) (fun (b_6 : ¬ (¬ n < 0)) => ?_)
        · refine zH_go 4 (c' := (62, [some (.inr (.inr (some 104))), some (.inl 1), some (.inl t), some (.inl n), none], [.inl 1, .inl 1, .inr (.inr (some 119))], (zs (zup h 104 1 0) hl))) rfl ?_
          refine zH_np (P := (0 ≤ 1 ∧ 1 < ((3 : Nat) : Int)) ∧ (1 = 0 ∨ 1 = 1)) (c' := (63, [some (.inr (.inr (some 104))), some (.inl 1), some (.inl t), some (.inl n), none], [], (zs (zup (zup h 104 1 0) 119 1 1) hl))) rfl ⟨⟨by decide, by decide⟩, by decide⟩ ?_
          refine zH_go 4 (c' := (69, [some (.inr (.inr (some 104))), some (.inl 1), some (.inl t), some (.inl n), none], [.inl t, .inl 1, .inr (.inr (some 120))], (zs (zup (zup h 104 1 0) 119 1 1) hl))) rfl ?_
          refine zH_np (P := 0 ≤ 1 ∧ 1 < ((3 : Nat) : Int)) (c' := (70, [some (.inr (.inr (some 104))), some (.inl 1), some (.inl t), some (.inl n), none], [], (zs (zup (zup (zup h 104 1 0) 119 1 1) 120 1 t) hl))) rfl ⟨by decide, by decide⟩ ?_
          refine zH_go 4 (c' := (76, [some (.inr (.inr (some 104))), some (.inl 1), some (.inl t), some (.inl n), none], [.inl n, .inl 1, .inr (.inr (some 121))], (zs (zup (zup (zup h 104 1 0) 119 1 1) 120 1 t) hl))) rfl ?_
          refine zH_np (P := 0 ≤ 1 ∧ 1 < ((3 : Nat) : Int)) (c' := (77, [some (.inr (.inr (some 104))), some (.inl 1), some (.inl t), some (.inl n), none], [], (zs (zup (zup (zup (zup h 104 1 0) 119 1 1) 120 1 t) 121 1 n) hl))) rfl ⟨by decide, by decide⟩ ?_
          refine zH_go 4 (c' := (83, [some (.inr (.inr (some 104))), some (.inl 1), some (.inl t), some (.inl n), some (.inl 0)], [.inl 4, .inl 0], (zs (zup (zup (zup (zup h 104 1 0) 119 1 1) 120 1 t) 121 1 n) hl))) rfl ?_
          refine zH_bf (x := 0) (y := 4) (k := .ge) (c1 := (105, [some (.inr (.inr (some 104))), some (.inl 1), some (.inl t), some (.inl n), some (.inl 0)], [], (zs (zup (zup (zup (zup h 104 1 0) 119 1 1) 120 1 t) 121 1 n) hl))) (c2 := (86, [some (.inr (.inr (some 104))), some (.inl 1), some (.inl t), some (.inl n), some (.inl 0)], [], (zs (zup (zup (zup (zup h 104 1 0) 119 1 1) 120 1 t) 121 1 n) hl))) rfl ⟨by decide, by decide⟩ ⟨by decide, by decide⟩ (by show ¬ (¬ 0 < 4); decide) ?_
          refine zH_go 8 (c' := (98, [some (.inr (.inr (some 104))), some (.inl 1), some (.inl t), some (.inl n), some (.inl 0)], [.inl (-9), .inl 4, .inr (.inr (some 122))], (zs (zup (zup (zup (zup h 104 1 0) 119 1 1) 120 1 t) 121 1 n) hl))) rfl ?_
          refine zH_np (P := 0 ≤ 4 ∧ 4 < ((12 : Nat) : Int)) (c' := (99, [some (.inr (.inr (some 104))), some (.inl 1), some (.inl t), some (.inl n), some (.inl 0)], [], (zs (zup (zup (zup (zup (zup h 104 1 0) 119 1 1) 120 1 t) 121 1 n) 122 4 (-9)) hl))) rfl ⟨by decide, by decide⟩ ?_
          refine zH_go 4 (c' := (83, [some (.inr (.inr (some 104))), some (.inl 1), some (.inl t), some (.inl n), some (.inl 1)], [.inl 4, .inl 1], (zs (zup (zup (zup (zup (zup h 104 1 0) 119 1 1) 120 1 t) 121 1 n) 122 4 (-9)) hl))) rfl ?_
          refine zH_bf (x := 1) (y := 4) (k := .ge) (c1 := (105, [some (.inr (.inr (some 104))), some (.inl 1), some (.inl t), some (.inl n), some (.inl 1)], [], (zs (zup (zup (zup (zup (zup h 104 1 0) 119 1 1) 120 1 t) 121 1 n) 122 4 (-9)) hl))) (c2 := (86, [some (.inr (.inr (some 104))), some (.inl 1), some (.inl t), some (.inl n), some (.inl 1)], [], (zs (zup (zup (zup (zup (zup h 104 1 0) 119 1 1) 120 1 t) 121 1 n) 122 4 (-9)) hl))) rfl ⟨by decide, by decide⟩ ⟨by decide, by decide⟩ (by show ¬ (¬ 1 < 4); decide) ?_
          refine zH_go 8 (c' := (98, [some (.inr (.inr (some 104))), some (.inl 1), some (.inl t), some (.inl n), some (.inl 1)], [.inl (-9), .inl 5, .inr (.inr (some 122))], (zs (zup (zup (zup (zup (zup h 104 1 0) 119 1 1) 120 1 t) 121 1 n) 122 4 (-9)) hl))) rfl ?_
          refine zH_np (P := 0 ≤ 5 ∧ 5 < ((12 : Nat) : Int)) (c' := (99, [some (.inr (.inr (some 104))), some (.inl 1), some (.inl t), some (.inl n), some (.inl 1)], [], (zs (zup (zup (zup (zup (zup (zup h 104 1 0) 119 1 1) 120 1 t) 121 1 n) 122 4 (-9)) 122 5 (-9)) hl))) rfl ⟨by decide, by decide⟩ ?_
          refine zH_go 4 (c' := (83, [some (.inr (.inr (some 104))), some (.inl 1), some (.inl t), some (.inl n), some (.inl 2)], [.inl 4, .inl 2], (zs (zup (zup (zup (zup (zup (zup h 104 1 0) 119 1 1) 120 1 t) 121 1 n) 122 4 (-9)) 122 5 (-9)) hl))) rfl ?_
          refine zH_bf (x := 2) (y := 4) (k := .ge) (c1 := (105, [some (.inr (.inr (some 104))), some (.inl 1), some (.inl t), some (.inl n), some (.inl 2)], [], (zs (zup (zup (zup (zup (zup (zup h 104 1 0) 119 1 1) 120 1 t) 121 1 n) 122 4 (-9)) 122 5 (-9)) hl))) (c2 := (86, [some (.inr (.inr (some 104))), some (.inl 1), some (.inl t), some (.inl n), some (.inl 2)], [], (zs (zup (zup (zup (zup (zup (zup h 104 1 0) 119 1 1) 120 1 t) 121 1 n) 122 4 (-9)) 122 5 (-9)) hl))) rfl ⟨by decide, by decide⟩ ⟨by decide, by decide⟩ (by show ¬ (¬ 2 < 4); decide) ?_
          refine zH_go 8 (c' := (98, [some (.inr (.inr (some 104))), some (.inl 1), some (.inl t), some (.inl n), some (.inl 2)], [.inl (-9), .inl 6, .inr (.inr (some 122))], (zs (zup (zup (zup (zup (zup (zup h 104 1 0) 119 1 1) 120 1 t) 121 1 n) 122 4 (-9)) 122 5 (-9)) hl))) rfl ?_
          refine zH_np (P := 0 ≤ 6 ∧ 6 < ((12 : Nat) : Int)) (c' := (99, [some (.inr (.inr (some 104))), some (.inl 1), some (.inl t), some (.inl n), some (.inl 2)], [], (zs (zup (zup (zup (zup (zup (zup (zup h 104 1 0) 119 1 1) 120 1 t) 121 1 n) 122 4 (-9)) 122 5 (-9)) 122 6 (-9)) hl))) rfl ⟨by decide, by decide⟩ ?_
          refine zH_go 4 (c' := (83, [some (.inr (.inr (some 104))), some (.inl 1), some (.inl t), some (.inl n), some (.inl 3)], [.inl 4, .inl 3], (zs (zup (zup (zup (zup (zup (zup (zup h 104 1 0) 119 1 1) 120 1 t) 121 1 n) 122 4 (-9)) 122 5 (-9)) 122 6 (-9)) hl))) rfl ?_
          refine zH_bf (x := 3) (y := 4) (k := .ge) (c1 := (105, [some (.inr (.inr (some 104))), some (.inl 1), some (.inl t), some (.inl n), some (.inl 3)], [], (zs (zup (zup (zup (zup (zup (zup (zup h 104 1 0) 119 1 1) 120 1 t) 121 1 n) 122 4 (-9)) 122 5 (-9)) 122 6 (-9)) hl))) (c2 := (86, [some (.inr (.inr (some 104))), some (.inl 1), some (.inl t), some (.inl n), some (.inl 3)], [], (zs (zup (zup (zup (zup (zup (zup (zup h 104 1 0) 119 1 1) 120 1 t) 121 1 n) 122 4 (-9)) 122 5 (-9)) 122 6 (-9)) hl))) rfl ⟨by decide, by decide⟩ ⟨by decide, by decide⟩ (by show ¬ (¬ 3 < 4); decide) ?_
          refine zH_go 8 (c' := (98, [some (.inr (.inr (some 104))), some (.inl 1), some (.inl t), some (.inl n), some (.inl 3)], [.inl (-9), .inl 7, .inr (.inr (some 122))], (zs (zup (zup (zup (zup (zup (zup (zup h 104 1 0) 119 1 1) 120 1 t) 121 1 n) 122 4 (-9)) 122 5 (-9)) 122 6 (-9)) hl))) rfl ?_
          refine zH_np (P := 0 ≤ 7 ∧ 7 < ((12 : Nat) : Int)) (c' := (99, [some (.inr (.inr (some 104))), some (.inl 1), some (.inl t), some (.inl n), some (.inl 3)], [], (zs (zup (zup (zup (zup (zup (zup (zup (zup h 104 1 0) 119 1 1) 120 1 t) 121 1 n) 122 4 (-9)) 122 5 (-9)) 122 6 (-9)) 122 7 (-9)) hl))) rfl ⟨by decide, by decide⟩ ?_
          refine zH_go 4 (c' := (83, [some (.inr (.inr (some 104))), some (.inl 1), some (.inl t), some (.inl n), some (.inl 4)], [.inl 4, .inl 4], (zs (zup (zup (zup (zup (zup (zup (zup (zup h 104 1 0) 119 1 1) 120 1 t) 121 1 n) 122 4 (-9)) 122 5 (-9)) 122 6 (-9)) 122 7 (-9)) hl))) rfl ?_
          refine zH_bt (x := 4) (y := 4) (k := .ge) (c1 := (105, [some (.inr (.inr (some 104))), some (.inl 1), some (.inl t), some (.inl n), some (.inl 4)], [], (zs (zup (zup (zup (zup (zup (zup (zup (zup h 104 1 0) 119 1 1) 120 1 t) 121 1 n) 122 4 (-9)) 122 5 (-9)) 122 6 (-9)) 122 7 (-9)) hl))) (c2 := (86, [some (.inr (.inr (some 104))), some (.inl 1), some (.inl t), some (.inl n), some (.inl 4)], [], (zs (zup (zup (zup (zup (zup (zup (zup (zup h 104 1 0) 119 1 1) 120 1 t) 121 1 n) 122 4 (-9)) 122 5 (-9)) 122 6 (-9)) 122 7 (-9)) hl))) rfl ⟨by decide, by decide⟩ ⟨by decide, by decide⟩ (by show ¬ 4 < 4; decide) ?_
          refine zH_go 1 (c' := (106, [some (.inr (.inr (some 104))), some (.inl 1), some (.inl t), some (.inl n), some (.inl 4)], [.inl 1], (zs (zup (zup (zup (zup (zup (zup (zup (zup h 104 1 0) 119 1 1) 120 1 t) 121 1 n) 122 4 (-9)) 122 5 (-9)) 122 6 (-9)) 122 7 (-9)) hl))) rfl ?_
          refine zH_ret (v := some (.inl 1)) rfl (fun q => absurd q (by decide)) ?_
          exact Or.inr (Or.inr ⟨by omega, by omega, rfl, rfl⟩)
        · refine zH_go 2 (c' := (52, [some (.inr (.inr (some 104))), some (.inl 1), some (.inl t), some (.inl n), none], [.inl (-15), .inr (.inr (some 104))], (zs (zup h 104 1 0) hl))) rfl ?_
          refine zH_call (M' := 142) (as := [.inr (.inr (some 104)), .inl (-15)]) (T := []) rfl p_noO (fun r' σ' p_7 => ?_)
          obtain ⟨rfl, rfl⟩ := p_7
          show zH _ _ (55, [some (.inr (.inr (some 104))), some (.inl 1), some (.inl t), some (.inl n), none], [.inl (-15)], (zs (zup (zup h 104 1 0) 104 1 (-15)) hl)) _
          refine zH_ret (v := some (.inl (-15))) rfl (fun q => absurd q (by decide)) ?_
          exact Or.inr (Or.inl ⟨by omega, by omega, rfl, rfl⟩)
      · refine zH_go 2 (c' := (41, [some (.inr (.inr (some 104))), some (.inl 1), some (.inl t), some (.inl n), none], [.inl (-1), .inr (.inr (some 104))], (zs (zup h 104 1 0) hl))) rfl ?_
        refine zH_call (M' := 142) (as := [.inr (.inr (some 104)), .inl (-1)]) (T := []) rfl p_noO (fun r' σ' p_8 => ?_)
        obtain ⟨rfl, rfl⟩ := p_8
        show zH _ _ (44, [some (.inr (.inr (some 104))), some (.inl 1), some (.inl t), some (.inl n), none], [.inl (-1)], (zs (zup (zup h 104 1 0) 104 1 (-1)) hl)) _
        refine zH_ret (v := some (.inl (-1))) rfl (fun q => absurd q (by decide)) ?_
        exact Or.inl ⟨by omega, rfl, rfl⟩
    · show zH _ _ (31, [some (.inr (.inr (some 104))), some (.inl 1), some (.inl t), some (.inl n), none], [.inl 0], (zs (zup h 104 1 0) hl)) _
      refine zH_bt (x := 0) (y := 0) (k := .eq) (c1 := (39, [some (.inr (.inr (some 104))), some (.inl 1), some (.inl t), some (.inl n), none], [], (zs (zup h 104 1 0) hl))) (c2 := (34, [some (.inr (.inr (some 104))), some (.inl 1), some (.inl t), some (.inl n), none], [], (zs (zup h 104 1 0) hl))) rfl ⟨by decide, by decide⟩ ⟨by decide, by decide⟩ (by show 0 = 0; decide) ?_
      refine zH_go 2 (c' := (41, [some (.inr (.inr (some 104))), some (.inl 1), some (.inl t), some (.inl n), none], [.inl (-1), .inr (.inr (some 104))], (zs (zup h 104 1 0) hl))) rfl ?_
      refine zH_call (M' := 142) (as := [.inr (.inr (some 104)), .inl (-1)]) (T := []) rfl p_noO (fun r' σ' p_9 => ?_)
      obtain ⟨rfl, rfl⟩ := p_9
      show zH _ _ (44, [some (.inr (.inr (some 104))), some (.inl 1), some (.inl t), some (.inl n), none], [.inl (-1)], (zs (zup (zup h 104 1 0) 104 1 (-1)) hl)) _
      refine zH_ret (v := some (.inl (-1))) rfl (fun q => absurd q (by decide)) ?_
      exact Or.inl ⟨by omega, rfl, rfl⟩
  · exact absurd (by decide) b_2
set_option maxRecDepth 100000 in
set_option maxHeartbeats 4000000 in
theorem p_rowO1 {d : Nat} {h0 h hl : Nat → Nat → Int} (e0 : zup h0 104 0 0 = h) {r n : Int} (hr : zr r) (hn : zr n) (hB : zMbk h hl 1) : zQ (d + 2) 144 [.inr (.inr (some 104)), .inl 1, .inl r, .inl n] (zs h0 hl) (fun r' σ' => (8 < n ∧ r' = some (.inl (-1)) ∧ σ' = zs (zup (zup h 104 1 0) 104 1 (-1)) hl) ∨ (n ≤ 8 ∧ h 119 1 = 0 ∧ r' = some (.inl (-11)) ∧ σ' = zs (zup (zup h 104 1 0) 104 1 (-11)) hl) ∨ (n ≤ 8 ∧ ¬ h 119 1 = 0 ∧ ¬ (0 ≤ r ∧ r < h 121 1) ∧ r' = some (.inl (-12)) ∧ σ' = zs (zup (zup h 104 1 0) 104 1 (-12)) hl) ∨ (¬ h 119 1 = 0 ∧ (0 ≤ r ∧ r < h 121 1) ∧ n < 0 ∧ r' = some (.inl (-15)) ∧ σ' = zs (zup (zup h 104 1 0) 104 1 (-15)) hl) ∨ (¬ h 119 1 = 0 ∧ (0 ≤ r ∧ r < h 121 1) ∧ 0 ≤ n ∧ n ≤ 8 ∧ r' = some (.inl 1) ∧ σ' = zs (zup (zup h 104 1 0) 122 (4 + Int.toNat r) n) (zup (zup (zup (zup (zup (zup (zup (zup hl 123 (32 + 8 * Int.toNat r + 0) 0) 123 (32 + 8 * Int.toNat r + 1) 0) 123 (32 + 8 * Int.toNat r + 2) 0) 123 (32 + 8 * Int.toNat r + 3) 0) 123 (32 + 8 * Int.toNat r + 4) 0) 123 (32 + 8 * Int.toNat r + 5) 0) 123 (32 + 8 * Int.toNat r + 6) 0) 123 (32 + 8 * Int.toNat r + 7) 0))) := by
  obtain ⟨h119, h121, h120, h122, h123⟩ := hB
  refine zQ_of (Nat.le_of_ble_eq_true rfl) ?_
  show zH (d + 1) 144 (0, [some (.inr (.inr (some 104))), some (.inl 1), some (.inl r), some (.inl n), none], [], (zs h0 hl)) _
  refine zH_go 3 (c' := (5, [some (.inr (.inr (some 104))), some (.inl 1), some (.inl r), some (.inl n), none], [], (zs (zup h0 104 0 0) hl))) rfl ?_
  rw [e0]
  refine zH_go 4 (c' := (11, [some (.inr (.inr (some 104))), some (.inl 1), some (.inl r), some (.inl n), none], [.inl 1], (zs (zup h 104 1 0) hl))) rfl ?_
  refine zH_np (P := zr 1) (c' := (12, [some (.inr (.inr (some 104))), some (.inl 1), some (.inl r), some (.inl n), none], [.inr (.inl 1)], (zs (zup h 104 1 0) hl))) rfl ⟨by decide, by decide⟩ ?_
  refine zH_go 2 (c' := (16, [some (.inr (.inr (some 104))), some (.inl 1), some (.inl r), some (.inl n), none], [.inr (.inl 2), .inr (.inl 0), .inr (.inl 1)], (zs (zup h 104 1 0) hl))) rfl ?_
  refine zH_call (M' := 103) (as := [.inr (.inl 1), .inr (.inl 0), .inr (.inl 2)]) (T := []) rfl (p_in ⟨by decide, by decide⟩ ⟨by decide, by decide⟩ ⟨by decide, by decide⟩) (fun r σ' p_1 => ?_)
  rcases p_1 with ⟨rfl, b_2, rfl⟩ | ⟨rfl, b_2, rfl⟩
  · show zH _ _ (19, [some (.inr (.inr (some 104))), some (.inl 1), some (.inl r), some (.inl n), none], [.inl 1], (zs (zup h 104 1 0) hl)) _
    refine zH_bf (x := 1) (y := 0) (k := .eq) (c1 := (28, [some (.inr (.inr (some 104))), some (.inl 1), some (.inl r), some (.inl n), none], [], (zs (zup h 104 1 0) hl))) (c2 := (22, [some (.inr (.inr (some 104))), some (.inl 1), some (.inl r), some (.inl n), none], [], (zs (zup h 104 1 0) hl))) rfl ⟨by decide, by decide⟩ ⟨by decide, by decide⟩ (by show ¬ (1 = 0); decide) ?_
    refine zH_go 2 (c' := (25, [some (.inr (.inr (some 104))), some (.inl 1), some (.inl r), some (.inl n), none], [.inl 8, .inl n], (zs (zup h 104 1 0) hl))) rfl ?_
    refine zH_br (x := n) (y := 8) (k := .le) (c1 := (34, [some (.inr (.inr (some 104))), some (.inl 1), some (.inl r), some (.inl n), none], [], (zs (zup h 104 1 0) hl))) (c2 := (28, [some (.inr (.inr (some 104))), some (.inl 1), some (.inl r), some (.inl n), none], [], (zs (zup h 104 1 0) hl))) rfl (by first | assumption | (unfold zr; omega)) ⟨by decide, by decide⟩ (fun (b_3 : ¬ 8 < n) => ?_) (fun (b_3 : ¬ (¬ 8 < n)) => ?_)
    · refine zH_go 3 (c' := (39, [some (.inr (.inr (some 104))), some (.inl 1), some (.inl r), some (.inl n), none], [.inl 1, .inr (.inr (some 119))], (zs (zup h 104 1 0) hl))) rfl ?_
      refine zH_np (P := 0 ≤ 1 ∧ 1 < ((3 : Nat) : Int)) (c' := (40, [some (.inr (.inr (some 104))), some (.inl 1), some (.inl r), some (.inl n), none], [.inl (h 119 1)], (zs (zup h 104 1 0) hl))) rfl ⟨by decide, by decide⟩ ?_
      refine zH_br (x := (h 119 1)) (y := 0) (k := .ne) (c1 := (50, [some (.inr (.inr (some 104))), some (.inl 1), some (.inl r), some (.inl n), none], [], (zs (zup h 104 1 0) hl))) (c2 := (43, [some (.inr (.inr (some 104))), some (.inl 1), some (.inl r), some (.inl n), none], [], (zs (zup h 104 1 0) hl))) rfl (by first | assumption | (unfold zr; omega)) ⟨by decide, by decide⟩ (fun (b_4 : ¬ (h 119 1) = 0) => ?_) (fun (b_4 : ¬ (¬ (h 119 1) = 0)) => ?_)
      · refine zH_go 1 (c' := (51, [some (.inr (.inr (some 104))), some (.inl 1), some (.inl r), some (.inl n), none], [.inl r], (zs (zup h 104 1 0) hl))) rfl ?_
        refine zH_np (P := zr r) (c' := (52, [some (.inr (.inr (some 104))), some (.inl 1), some (.inl r), some (.inl n), none], [.inr (.inl r)], (zs (zup h 104 1 0) hl))) rfl (by first | assumption | (unfold zr; omega)) ?_
        refine zH_go 4 (c' := (58, [some (.inr (.inr (some 104))), some (.inl 1), some (.inl r), some (.inl n), none], [.inl 1, .inr (.inr (some 121)), .inr (.inl 0), .inr (.inl r)], (zs (zup h 104 1 0) hl))) rfl ?_
        refine zH_np (P := 0 ≤ 1 ∧ 1 < ((3 : Nat) : Int)) (c' := (59, [some (.inr (.inr (some 104))), some (.inl 1), some (.inl r), some (.inl n), none], [.inl (h 121 1), .inr (.inl 0), .inr (.inl r)], (zs (zup h 104 1 0) hl))) rfl ⟨by decide, by decide⟩ ?_
        refine zH_go 2 (c' := (61, [some (.inr (.inr (some 104))), some (.inl 1), some (.inl r), some (.inl n), none], [.inl ((h 121 1) - 1), .inr (.inl 0), .inr (.inl r)], (zs (zup h 104 1 0) hl))) rfl ?_
        refine zH_np (P := zr ((h 121 1) - 1)) (c' := (62, [some (.inr (.inr (some 104))), some (.inl 1), some (.inl r), some (.inl n), none], [.inr (.inl ((h 121 1) - 1)), .inr (.inl 0), .inr (.inl r)], (zs (zup h 104 1 0) hl))) rfl (by first | assumption | (unfold zr; omega)) ?_
        refine zH_call (M' := 103) (as := [.inr (.inl r), .inr (.inl 0), .inr (.inl ((h 121 1) - 1))]) (T := []) rfl (p_in (by first | assumption | exact zr_l (by assumption) | (unfold zrl; omega)) ⟨by decide, by decide⟩ (by first | assumption | exact zr_l (by assumption) | (unfold zrl; omega))) (fun r σ' p_5 => ?_)
        rcases p_5 with ⟨rfl, b_6, rfl⟩ | ⟨rfl, b_6, rfl⟩
        · show zH _ _ (65, [some (.inr (.inr (some 104))), some (.inl 1), some (.inl r), some (.inl n), none], [.inl 1], (zs (zup h 104 1 0) hl)) _
          refine zH_bt (x := 1) (y := 0) (k := .ne) (c1 := (75, [some (.inr (.inr (some 104))), some (.inl 1), some (.inl r), some (.inl n), none], [], (zs (zup h 104 1 0) hl))) (c2 := (68, [some (.inr (.inr (some 104))), some (.inl 1), some (.inl r), some (.inl n), none], [], (zs (zup h 104 1 0) hl))) rfl ⟨by decide, by decide⟩ ⟨by decide, by decide⟩ (by show ¬ 1 = 0; decide) ?_
          obtain ⟨R, rfl⟩ := Int.eq_ofNat_of_zero_le (show 0 ≤ r by omega)
          show zH _ _ (75, [some (.inr (.inr (some 104))), some (.inl 1), some (.inl (R : Int)), some (.inl n), none], [], (zs (zup h 104 1 0) hl)) _
          refine zH_go 1 (c' := (76, [some (.inr (.inr (some 104))), some (.inl 1), some (.inl (R : Int)), some (.inl n), none], [.inl n], (zs (zup h 104 1 0) hl))) rfl ?_
          refine zH_br (x := n) (y := 0) (k := .ge) (c1 := (86, [some (.inr (.inr (some 104))), some (.inl 1), some (.inl (R : Int)), some (.inl n), none], [], (zs (zup h 104 1 0) hl))) (c2 := (79, [some (.inr (.inr (some 104))), some (.inl 1), some (.inl (R : Int)), some (.inl n), none], [], (zs (zup h 104 1 0) hl))) rfl (by first | assumption | (unfold zr; omega)) ⟨by decide, by decide⟩ (fun (b_7 : ¬ n < 0) => ?_) (fun (b_7 : ¬ (¬ n < 0)) => ?_)
          · refine zH_go 8 (c' := (96, [some (.inr (.inr (some 104))), some (.inl 1), some (.inl (R : Int)), some (.inl n), none], [.inl n, .inl (4 + (R : Int)), .inr (.inr (some 122))], (zs (zup h 104 1 0) hl))) rfl ?_
            refine zH_np (P := 0 ≤ (4 + (R : Int)) ∧ (4 + (R : Int)) < ((12 : Nat) : Int)) (c' := (97, [some (.inr (.inr (some 104))), some (.inl 1), some (.inl (R : Int)), some (.inl n), none], [], (zs (zup (zup h 104 1 0) 122 (4 + R) n) hl))) rfl ⟨by omega, by omega⟩ ?_
            refine zH_go 4 (c' := (104, [some (.inr (.inr (some 104))), some (.inl 1), some (.inl (R : Int)), some (.inl n), some (.inl 0)], [.inl 8, .inl 0], (zs (zup (zup h 104 1 0) 122 (4 + R) n) hl))) rfl ?_
            refine zH_bf (x := 0) (y := 8) (k := .ge) (c1 := (131, [some (.inr (.inr (some 104))), some (.inl 1), some (.inl (R : Int)), some (.inl n), some (.inl 0)], [], (zs (zup (zup h 104 1 0) 122 (4 + R) n) hl))) (c2 := (107, [some (.inr (.inr (some 104))), some (.inl 1), some (.inl (R : Int)), some (.inl n), some (.inl 0)], [], (zs (zup (zup h 104 1 0) 122 (4 + R) n) hl))) rfl ⟨by decide, by decide⟩ ⟨by decide, by decide⟩ (by show ¬ (¬ 0 < 8); decide) ?_
            refine zH_go 12 (c' := (124, [some (.inr (.inr (some 104))), some (.inl 1), some (.inl (R : Int)), some (.inl n), some (.inl 0)], [.inr (.inl 0), .inl ((32 + (8 * (R : Int))) + 0), .inr (.inr (some 123))], (zs (zup (zup h 104 1 0) 122 (4 + R) n) hl))) rfl ?_
            refine zH_np (P := 0 ≤ ((32 + (8 * (R : Int))) + 0) ∧ ((32 + (8 * (R : Int))) + 0) < ((96 : Nat) : Int)) (c' := (125, [some (.inr (.inr (some 104))), some (.inl 1), some (.inl (R : Int)), some (.inl n), some (.inl 0)], [], (zs (zup (zup h 104 1 0) 122 (4 + R) n) (zup hl 123 ((32 + (8 * R)) + 0) 0)))) rfl ⟨by omega, by omega⟩ ?_
            refine zH_go 4 (c' := (104, [some (.inr (.inr (some 104))), some (.inl 1), some (.inl (R : Int)), some (.inl n), some (.inl 1)], [.inl 8, .inl 1], (zs (zup (zup h 104 1 0) 122 (4 + R) n) (zup hl 123 ((32 + (8 * R)) + 0) 0)))) rfl ?_
            refine zH_bf (x := 1) (y := 8) (k := .ge) (c1 := (131, [some (.inr (.inr (some 104))), some (.inl 1), some (.inl (R : Int)), some (.inl n), some (.inl 1)], [], (zs (zup (zup h 104 1 0) 122 (4 + R) n) (zup hl 123 ((32 + (8 * R)) + 0) 0)))) (c2 := (107, [some (.inr (.inr (some 104))), some (.inl 1), some (.inl (R : Int)), some (.inl n), some (.inl 1)], [], (zs (zup (zup h 104 1 0) 122 (4 + R) n) (zup hl 123 ((32 + (8 * R)) + 0) 0)))) rfl ⟨by decide, by decide⟩ ⟨by decide, by decide⟩ (by show ¬ (¬ 1 < 8); decide) ?_
            refine zH_go 12 (c' := (124, [some (.inr (.inr (some 104))), some (.inl 1), some (.inl (R : Int)), some (.inl n), some (.inl 1)], [.inr (.inl 0), .inl ((32 + (8 * (R : Int))) + 1), .inr (.inr (some 123))], (zs (zup (zup h 104 1 0) 122 (4 + R) n) (zup hl 123 ((32 + (8 * R)) + 0) 0)))) rfl ?_
            refine zH_np (P := 0 ≤ ((32 + (8 * (R : Int))) + 1) ∧ ((32 + (8 * (R : Int))) + 1) < ((96 : Nat) : Int)) (c' := (125, [some (.inr (.inr (some 104))), some (.inl 1), some (.inl (R : Int)), some (.inl n), some (.inl 1)], [], (zs (zup (zup h 104 1 0) 122 (4 + R) n) (zup (zup hl 123 ((32 + (8 * R)) + 0) 0) 123 ((32 + (8 * R)) + 1) 0)))) rfl ⟨by omega, by omega⟩ ?_
            refine zH_go 4 (c' := (104, [some (.inr (.inr (some 104))), some (.inl 1), some (.inl (R : Int)), some (.inl n), some (.inl 2)], [.inl 8, .inl 2], (zs (zup (zup h 104 1 0) 122 (4 + R) n) (zup (zup hl 123 ((32 + (8 * R)) + 0) 0) 123 ((32 + (8 * R)) + 1) 0)))) rfl ?_
            refine zH_bf (x := 2) (y := 8) (k := .ge) (c1 := (131, [some (.inr (.inr (some 104))), some (.inl 1), some (.inl (R : Int)), some (.inl n), some (.inl 2)], [], (zs (zup (zup h 104 1 0) 122 (4 + R) n) (zup (zup hl 123 ((32 + (8 * R)) + 0) 0) 123 ((32 + (8 * R)) + 1) 0)))) (c2 := (107, [some (.inr (.inr (some 104))), some (.inl 1), some (.inl (R : Int)), some (.inl n), some (.inl 2)], [], (zs (zup (zup h 104 1 0) 122 (4 + R) n) (zup (zup hl 123 ((32 + (8 * R)) + 0) 0) 123 ((32 + (8 * R)) + 1) 0)))) rfl ⟨by decide, by decide⟩ ⟨by decide, by decide⟩ (by show ¬ (¬ 2 < 8); decide) ?_
            refine zH_go 12 (c' := (124, [some (.inr (.inr (some 104))), some (.inl 1), some (.inl (R : Int)), some (.inl n), some (.inl 2)], [.inr (.inl 0), .inl ((32 + (8 * (R : Int))) + 2), .inr (.inr (some 123))], (zs (zup (zup h 104 1 0) 122 (4 + R) n) (zup (zup hl 123 ((32 + (8 * R)) + 0) 0) 123 ((32 + (8 * R)) + 1) 0)))) rfl ?_
            refine zH_np (P := 0 ≤ ((32 + (8 * (R : Int))) + 2) ∧ ((32 + (8 * (R : Int))) + 2) < ((96 : Nat) : Int)) (c' := (125, [some (.inr (.inr (some 104))), some (.inl 1), some (.inl (R : Int)), some (.inl n), some (.inl 2)], [], (zs (zup (zup h 104 1 0) 122 (4 + R) n) (zup (zup (zup hl 123 ((32 + (8 * R)) + 0) 0) 123 ((32 + (8 * R)) + 1) 0) 123 ((32 + (8 * R)) + 2) 0)))) rfl ⟨by omega, by omega⟩ ?_
            refine zH_go 4 (c' := (104, [some (.inr (.inr (some 104))), some (.inl 1), some (.inl (R : Int)), some (.inl n), some (.inl 3)], [.inl 8, .inl 3], (zs (zup (zup h 104 1 0) 122 (4 + R) n) (zup (zup (zup hl 123 ((32 + (8 * R)) + 0) 0) 123 ((32 + (8 * R)) + 1) 0) 123 ((32 + (8 * R)) + 2) 0)))) rfl ?_
            refine zH_bf (x := 3) (y := 8) (k := .ge) (c1 := (131, [some (.inr (.inr (some 104))), some (.inl 1), some (.inl (R : Int)), some (.inl n), some (.inl 3)], [], (zs (zup (zup h 104 1 0) 122 (4 + R) n) (zup (zup (zup hl 123 ((32 + (8 * R)) + 0) 0) 123 ((32 + (8 * R)) + 1) 0) 123 ((32 + (8 * R)) + 2) 0)))) (c2 := (107, [some (.inr (.inr (some 104))), some (.inl 1), some (.inl (R : Int)), some (.inl n), some (.inl 3)], [], (zs (zup (zup h 104 1 0) 122 (4 + R) n) (zup (zup (zup hl 123 ((32 + (8 * R)) + 0) 0) 123 ((32 + (8 * R)) + 1) 0) 123 ((32 + (8 * R)) + 2) 0)))) rfl ⟨by decide, by decide⟩ ⟨by decide, by decide⟩ (by show ¬ (¬ 3 < 8); decide) ?_
            refine zH_go 12 (c' := (124, [some (.inr (.inr (some 104))), some (.inl 1), some (.inl (R : Int)), some (.inl n), some (.inl 3)], [.inr (.inl 0), .inl ((32 + (8 * (R : Int))) + 3), .inr (.inr (some 123))], (zs (zup (zup h 104 1 0) 122 (4 + R) n) (zup (zup (zup hl 123 ((32 + (8 * R)) + 0) 0) 123 ((32 + (8 * R)) + 1) 0) 123 ((32 + (8 * R)) + 2) 0)))) rfl ?_
            refine zH_np (P := 0 ≤ ((32 + (8 * (R : Int))) + 3) ∧ ((32 + (8 * (R : Int))) + 3) < ((96 : Nat) : Int)) (c' := (125, [some (.inr (.inr (some 104))), some (.inl 1), some (.inl (R : Int)), some (.inl n), some (.inl 3)], [], (zs (zup (zup h 104 1 0) 122 (4 + R) n) (zup (zup (zup (zup hl 123 ((32 + (8 * R)) + 0) 0) 123 ((32 + (8 * R)) + 1) 0) 123 ((32 + (8 * R)) + 2) 0) 123 ((32 + (8 * R)) + 3) 0)))) rfl ⟨by omega, by omega⟩ ?_
            refine zH_go 4 (c' := (104, [some (.inr (.inr (some 104))), some (.inl 1), some (.inl (R : Int)), some (.inl n), some (.inl 4)], [.inl 8, .inl 4], (zs (zup (zup h 104 1 0) 122 (4 + R) n) (zup (zup (zup (zup hl 123 ((32 + (8 * R)) + 0) 0) 123 ((32 + (8 * R)) + 1) 0) 123 ((32 + (8 * R)) + 2) 0) 123 ((32 + (8 * R)) + 3) 0)))) rfl ?_
            refine zH_bf (x := 4) (y := 8) (k := .ge) (c1 := (131, [some (.inr (.inr (some 104))), some (.inl 1), some (.inl (R : Int)), some (.inl n), some (.inl 4)], [], (zs (zup (zup h 104 1 0) 122 (4 + R) n) (zup (zup (zup (zup hl 123 ((32 + (8 * R)) + 0) 0) 123 ((32 + (8 * R)) + 1) 0) 123 ((32 + (8 * R)) + 2) 0) 123 ((32 + (8 * R)) + 3) 0)))) (c2 := (107, [some (.inr (.inr (some 104))), some (.inl 1), some (.inl (R : Int)), some (.inl n), some (.inl 4)], [], (zs (zup (zup h 104 1 0) 122 (4 + R) n) (zup (zup (zup (zup hl 123 ((32 + (8 * R)) + 0) 0) 123 ((32 + (8 * R)) + 1) 0) 123 ((32 + (8 * R)) + 2) 0) 123 ((32 + (8 * R)) + 3) 0)))) rfl ⟨by decide, by decide⟩ ⟨by decide, by decide⟩ (by show ¬ (¬ 4 < 8); decide) ?_
            refine zH_go 12 (c' := (124, [some (.inr (.inr (some 104))), some (.inl 1), some (.inl (R : Int)), some (.inl n), some (.inl 4)], [.inr (.inl 0), .inl ((32 + (8 * (R : Int))) + 4), .inr (.inr (some 123))], (zs (zup (zup h 104 1 0) 122 (4 + R) n) (zup (zup (zup (zup hl 123 ((32 + (8 * R)) + 0) 0) 123 ((32 + (8 * R)) + 1) 0) 123 ((32 + (8 * R)) + 2) 0) 123 ((32 + (8 * R)) + 3) 0)))) rfl ?_
            refine zH_np (P := 0 ≤ ((32 + (8 * (R : Int))) + 4) ∧ ((32 + (8 * (R : Int))) + 4) < ((96 : Nat) : Int)) (c' := (125, [some (.inr (.inr (some 104))), some (.inl 1), some (.inl (R : Int)), some (.inl n), some (.inl 4)], [], (zs (zup (zup h 104 1 0) 122 (4 + R) n) (zup (zup (zup (zup (zup hl 123 ((32 + (8 * R)) + 0) 0) 123 ((32 + (8 * R)) + 1) 0) 123 ((32 + (8 * R)) + 2) 0) 123 ((32 + (8 * R)) + 3) 0) 123 ((32 + (8 * R)) + 4) 0)))) rfl ⟨by omega, by omega⟩ ?_
            refine zH_go 4 (c' := (104, [some (.inr (.inr (some 104))), some (.inl 1), some (.inl (R : Int)), some (.inl n), some (.inl 5)], [.inl 8, .inl 5], (zs (zup (zup h 104 1 0) 122 (4 + R) n) (zup (zup (zup (zup (zup hl 123 ((32 + (8 * R)) + 0) 0) 123 ((32 + (8 * R)) + 1) 0) 123 ((32 + (8 * R)) + 2) 0) 123 ((32 + (8 * R)) + 3) 0) 123 ((32 + (8 * R)) + 4) 0)))) rfl ?_
            refine zH_bf (x := 5) (y := 8) (k := .ge) (c1 := (131, [some (.inr (.inr (some 104))), some (.inl 1), some (.inl (R : Int)), some (.inl n), some (.inl 5)], [], (zs (zup (zup h 104 1 0) 122 (4 + R) n) (zup (zup (zup (zup (zup hl 123 ((32 + (8 * R)) + 0) 0) 123 ((32 + (8 * R)) + 1) 0) 123 ((32 + (8 * R)) + 2) 0) 123 ((32 + (8 * R)) + 3) 0) 123 ((32 + (8 * R)) + 4) 0)))) (c2 := (107, [some (.inr (.inr (some 104))), some (.inl 1), some (.inl (R : Int)), some (.inl n), some (.inl 5)], [], (zs (zup (zup h 104 1 0) 122 (4 + R) n) (zup (zup (zup (zup (zup hl 123 ((32 + (8 * R)) + 0) 0) 123 ((32 + (8 * R)) + 1) 0) 123 ((32 + (8 * R)) + 2) 0) 123 ((32 + (8 * R)) + 3) 0) 123 ((32 + (8 * R)) + 4) 0)))) rfl ⟨by decide, by decide⟩ ⟨by decide, by decide⟩ (by show ¬ (¬ 5 < 8); decide) ?_
            refine zH_go 12 (c' := (124, [some (.inr (.inr (some 104))), some (.inl 1), some (.inl (R : Int)), some (.inl n), some (.inl 5)], [.inr (.inl 0), .inl ((32 + (8 * (R : Int))) + 5), .inr (.inr (some 123))], (zs (zup (zup h 104 1 0) 122 (4 + R) n) (zup (zup (zup (zup (zup hl 123 ((32 + (8 * R)) + 0) 0) 123 ((32 + (8 * R)) + 1) 0) 123 ((32 + (8 * R)) + 2) 0) 123 ((32 + (8 * R)) + 3) 0) 123 ((32 + (8 * R)) + 4) 0)))) rfl ?_
            refine zH_np (P := 0 ≤ ((32 + (8 * (R : Int))) + 5) ∧ ((32 + (8 * (R : Int))) + 5) < ((96 : Nat) : Int)) (c' := (125, [some (.inr (.inr (some 104))), some (.inl 1), some (.inl (R : Int)), some (.inl n), some (.inl 5)], [], (zs (zup (zup h 104 1 0) 122 (4 + R) n) (zup (zup (zup (zup (zup (zup hl 123 ((32 + (8 * R)) + 0) 0) 123 ((32 + (8 * R)) + 1) 0) 123 ((32 + (8 * R)) + 2) 0) 123 ((32 + (8 * R)) + 3) 0) 123 ((32 + (8 * R)) + 4) 0) 123 ((32 + (8 * R)) + 5) 0)))) rfl ⟨by omega, by omega⟩ ?_
            refine zH_go 4 (c' := (104, [some (.inr (.inr (some 104))), some (.inl 1), some (.inl (R : Int)), some (.inl n), some (.inl 6)], [.inl 8, .inl 6], (zs (zup (zup h 104 1 0) 122 (4 + R) n) (zup (zup (zup (zup (zup (zup hl 123 ((32 + (8 * R)) + 0) 0) 123 ((32 + (8 * R)) + 1) 0) 123 ((32 + (8 * R)) + 2) 0) 123 ((32 + (8 * R)) + 3) 0) 123 ((32 + (8 * R)) + 4) 0) 123 ((32 + (8 * R)) + 5) 0)))) rfl ?_
            refine zH_bf (x := 6) (y := 8) (k := .ge) (c1 := (131, [some (.inr (.inr (some 104))), some (.inl 1), some (.inl (R : Int)), some (.inl n), some (.inl 6)], [], (zs (zup (zup h 104 1 0) 122 (4 + R) n) (zup (zup (zup (zup (zup (zup hl 123 ((32 + (8 * R)) + 0) 0) 123 ((32 + (8 * R)) + 1) 0) 123 ((32 + (8 * R)) + 2) 0) 123 ((32 + (8 * R)) + 3) 0) 123 ((32 + (8 * R)) + 4) 0) 123 ((32 + (8 * R)) + 5) 0)))) (c2 := (107, [some (.inr (.inr (some 104))), some (.inl 1), some (.inl (R : Int)), some (.inl n), some (.inl 6)], [], (zs (zup (zup h 104 1 0) 122 (4 + R) n) (zup (zup (zup (zup (zup (zup hl 123 ((32 + (8 * R)) + 0) 0) 123 ((32 + (8 * R)) + 1) 0) 123 ((32 + (8 * R)) + 2) 0) 123 ((32 + (8 * R)) + 3) 0) 123 ((32 + (8 * R)) + 4) 0) 123 ((32 + (8 * R)) + 5) 0)))) rfl ⟨by decide, by decide⟩ ⟨by decide, by decide⟩ (by show ¬ (¬ 6 < 8); decide) ?_
            refine zH_go 12 (c' := (124, [some (.inr (.inr (some 104))), some (.inl 1), some (.inl (R : Int)), some (.inl n), some (.inl 6)], [.inr (.inl 0), .inl ((32 + (8 * (R : Int))) + 6), .inr (.inr (some 123))], (zs (zup (zup h 104 1 0) 122 (4 + R) n) (zup (zup (zup (zup (zup (zup hl 123 ((32 + (8 * R)) + 0) 0) 123 ((32 + (8 * R)) + 1) 0) 123 ((32 + (8 * R)) + 2) 0) 123 ((32 + (8 * R)) + 3) 0) 123 ((32 + (8 * R)) + 4) 0) 123 ((32 + (8 * R)) + 5) 0)))) rfl ?_
            refine zH_np (P := 0 ≤ ((32 + (8 * (R : Int))) + 6) ∧ ((32 + (8 * (R : Int))) + 6) < ((96 : Nat) : Int)) (c' := (125, [some (.inr (.inr (some 104))), some (.inl 1), some (.inl (R : Int)), some (.inl n), some (.inl 6)], [], (zs (zup (zup h 104 1 0) 122 (4 + R) n) (zup (zup (zup (zup (zup (zup (zup hl 123 ((32 + (8 * R)) + 0) 0) 123 ((32 + (8 * R)) + 1) 0) 123 ((32 + (8 * R)) + 2) 0) 123 ((32 + (8 * R)) + 3) 0) 123 ((32 + (8 * R)) + 4) 0) 123 ((32 + (8 * R)) + 5) 0) 123 ((32 + (8 * R)) + 6) 0)))) rfl ⟨by omega, by omega⟩ ?_
            refine zH_go 4 (c' := (104, [some (.inr (.inr (some 104))), some (.inl 1), some (.inl (R : Int)), some (.inl n), some (.inl 7)], [.inl 8, .inl 7], (zs (zup (zup h 104 1 0) 122 (4 + R) n) (zup (zup (zup (zup (zup (zup (zup hl 123 ((32 + (8 * R)) + 0) 0) 123 ((32 + (8 * R)) + 1) 0) 123 ((32 + (8 * R)) + 2) 0) 123 ((32 + (8 * R)) + 3) 0) 123 ((32 + (8 * R)) + 4) 0) 123 ((32 + (8 * R)) + 5) 0) 123 ((32 + (8 * R)) + 6) 0)))) rfl ?_
            refine zH_bf (x := 7) (y := 8) (k := .ge) (c1 := (131, [some (.inr (.inr (some 104))), some (.inl 1), some (.inl (R : Int)), some (.inl n), some (.inl 7)], [], (zs (zup (zup h 104 1 0) 122 (4 + R) n) (zup (zup (zup (zup (zup (zup (zup hl 123 ((32 + (8 * R)) + 0) 0) 123 ((32 + (8 * R)) + 1) 0) 123 ((32 + (8 * R)) + 2) 0) 123 ((32 + (8 * R)) + 3) 0) 123 ((32 + (8 * R)) + 4) 0) 123 ((32 + (8 * R)) + 5) 0) 123 ((32 + (8 * R)) + 6) 0)))) (c2 := (107, [some (.inr (.inr (some 104))), some (.inl 1), some (.inl (R : Int)), some (.inl n), some (.inl 7)], [], (zs (zup (zup h 104 1 0) 122 (4 + R) n) (zup (zup (zup (zup (zup (zup (zup hl 123 ((32 + (8 * R)) + 0) 0) 123 ((32 + (8 * R)) + 1) 0) 123 ((32 + (8 * R)) + 2) 0) 123 ((32 + (8 * R)) + 3) 0) 123 ((32 + (8 * R)) + 4) 0) 123 ((32 + (8 * R)) + 5) 0) 123 ((32 + (8 * R)) + 6) 0)))) rfl ⟨by decide, by decide⟩ ⟨by decide, by decide⟩ (by show ¬ (¬ 7 < 8); decide) ?_
            refine zH_go 12 (c' := (124, [some (.inr (.inr (some 104))), some (.inl 1), some (.inl (R : Int)), some (.inl n), some (.inl 7)], [.inr (.inl 0), .inl ((32 + (8 * (R : Int))) + 7), .inr (.inr (some 123))], (zs (zup (zup h 104 1 0) 122 (4 + R) n) (zup (zup (zup (zup (zup (zup (zup hl 123 ((32 + (8 * R)) + 0) 0) 123 ((32 + (8 * R)) + 1) 0) 123 ((32 + (8 * R)) + 2) 0) 123 ((32 + (8 * R)) + 3) 0) 123 ((32 + (8 * R)) + 4) 0) 123 ((32 + (8 * R)) + 5) 0) 123 ((32 + (8 * R)) + 6) 0)))) rfl ?_
            refine zH_np (P := 0 ≤ ((32 + (8 * (R : Int))) + 7) ∧ ((32 + (8 * (R : Int))) + 7) < ((96 : Nat) : Int)) (c' := (125, [some (.inr (.inr (some 104))), some (.inl 1), some (.inl (R : Int)), some (.inl n), some (.inl 7)], [], (zs (zup (zup h 104 1 0) 122 (4 + R) n) (zup (zup (zup (zup (zup (zup (zup (zup hl 123 ((32 + (8 * R)) + 0) 0) 123 ((32 + (8 * R)) + 1) 0) 123 ((32 + (8 * R)) + 2) 0) 123 ((32 + (8 * R)) + 3) 0) 123 ((32 + (8 * R)) + 4) 0) 123 ((32 + (8 * R)) + 5) 0) 123 ((32 + (8 * R)) + 6) 0) 123 ((32 + (8 * R)) + 7) 0)))) rfl ⟨by omega, by omega⟩ ?_
            refine zH_go 4 (c' := (104, [some (.inr (.inr (some 104))), some (.inl 1), some (.inl (R : Int)), some (.inl n), some (.inl 8)], [.inl 8, .inl 8], (zs (zup (zup h 104 1 0) 122 (4 + R) n) (zup (zup (zup (zup (zup (zup (zup (zup hl 123 ((32 + (8 * R)) + 0) 0) 123 ((32 + (8 * R)) + 1) 0) 123 ((32 + (8 * R)) + 2) 0) 123 ((32 + (8 * R)) + 3) 0) 123 ((32 + (8 * R)) + 4) 0) 123 ((32 + (8 * R)) + 5) 0) 123 ((32 + (8 * R)) + 6) 0) 123 ((32 + (8 * R)) + 7) 0)))) rfl ?_
            refine zH_bt (x := 8) (y := 8) (k := .ge) (c1 := (131, [some (.inr (.inr (some 104))), some (.inl 1), some (.inl (R : Int)), some (.inl n), some (.inl 8)], [], (zs (zup (zup h 104 1 0) 122 (4 + R) n) (zup (zup (zup (zup (zup (zup (zup (zup hl 123 ((32 + (8 * R)) + 0) 0) 123 ((32 + (8 * R)) + 1) 0) 123 ((32 + (8 * R)) + 2) 0) 123 ((32 + (8 * R)) + 3) 0) 123 ((32 + (8 * R)) + 4) 0) 123 ((32 + (8 * R)) + 5) 0) 123 ((32 + (8 * R)) + 6) 0) 123 ((32 + (8 * R)) + 7) 0)))) (c2 := (107, [some (.inr (.inr (some 104))), some (.inl 1), some (.inl (R : Int)), some (.inl n), some (.inl 8)], [], (zs (zup (zup h 104 1 0) 122 (4 + R) n) (zup (zup (zup (zup (zup (zup (zup (zup hl 123 ((32 + (8 * R)) + 0) 0) 123 ((32 + (8 * R)) + 1) 0) 123 ((32 + (8 * R)) + 2) 0) 123 ((32 + (8 * R)) + 3) 0) 123 ((32 + (8 * R)) + 4) 0) 123 ((32 + (8 * R)) + 5) 0) 123 ((32 + (8 * R)) + 6) 0) 123 ((32 + (8 * R)) + 7) 0)))) rfl ⟨by decide, by decide⟩ ⟨by decide, by decide⟩ (by show ¬ 8 < 8; decide) ?_
            refine zH_go 1 (c' := (132, [some (.inr (.inr (some 104))), some (.inl 1), some (.inl (R : Int)), some (.inl n), some (.inl 8)], [.inl 1], (zs (zup (zup h 104 1 0) 122 (4 + R) n) (zup (zup (zup (zup (zup (zup (zup (zup hl 123 ((32 + (8 * R)) + 0) 0) 123 ((32 + (8 * R)) + 1) 0) 123 ((32 + (8 * R)) + 2) 0) 123 ((32 + (8 * R)) + 3) 0) 123 ((32 + (8 * R)) + 4) 0) 123 ((32 + (8 * R)) + 5) 0) 123 ((32 + (8 * R)) + 6) 0) 123 ((32 + (8 * R)) + 7) 0)))) rfl ?_
            refine zH_ret (v := some (.inl 1)) rfl (fun q => absurd q (by decide)) ?_
            exact Or.inr (Or.inr (Or.inr (Or.inr ⟨by omega, by omega, by omega, by omega, rfl, by rw [Int.toNat_natCast]⟩)))
          · refine zH_go 2 (c' := (82, [some (.inr (.inr (some 104))), some (.inl 1), some (.inl (R : Int)), some (.inl n), none], [.inl (-15), .inr (.inr (some 104))], (zs (zup h 104 1 0) hl))) rfl ?_
            refine zH_call (M' := 142) (as := [.inr (.inr (some 104)), .inl (-15)]) (T := []) rfl p_noO (fun r' σ' p_8 => ?_)
            obtain ⟨rfl, rfl⟩ := p_8
            show zH _ _ (85, [some (.inr (.inr (some 104))), some (.inl 1), some (.inl (R : Int)), some (.inl n), none], [.inl (-15)], (zs (zup (zup h 104 1 0) 104 1 (-15)) hl)) _
            refine zH_ret (v := some (.inl (-15))) rfl (fun q => absurd q (by decide)) ?_
            exact Or.inr (Or.inr (Or.inr (Or.inl ⟨by omega, by omega, by omega, rfl, rfl⟩)))
        · show zH _ _ (65, [some (.inr (.inr (some 104))), some (.inl 1), some (.inl r), some (.inl n), none], [.inl 0], (zs (zup h 104 1 0) hl)) _
          refine zH_bf (x := 0) (y := 0) (k := .ne) (c1 := (75, [some (.inr (.inr (some 104))), some (.inl 1), some (.inl r), some (.inl n), none], [], (zs (zup h 104 1 0) hl))) (c2 := (68, [some (.inr (.inr (some 104))), some (.inl 1), some (.inl r), some (.inl n), none], [], (zs (zup h 104 1 0) hl))) rfl ⟨by decide, by decide⟩ ⟨by decide, by decide⟩ (by show ¬ (¬ 0 = 0); decide) ?_
          refine zH_go 2 (c' := (71, [some (.inr (.inr (some 104))), some (.inl 1), some (.inl r), some (.inl n), none], [.inl (-12), .inr (.inr (some 104))], (zs (zup h 104 1 0) hl))) rfl ?_
          refine zH_call (M' := 142) (as := [.inr (.inr (some 104)), .inl (-12)]) (T := []) rfl p_noO (fun r' σ' p_9 => ?_)
          obtain ⟨rfl, rfl⟩ := p_9
          show zH _ _ (74, [some (.inr (.inr (some 104))), some (.inl 1), some (.inl r), some (.inl n), none], [.inl (-12)], (zs (zup (zup h 104 1 0) 104 1 (-12)) hl)) _
          refine zH_ret (v := some (.inl (-12))) rfl (fun q => absurd q (by decide)) ?_
          exact Or.inr (Or.inr (Or.inl ⟨by omega, by omega, by omega, rfl, rfl⟩))
      · refine zH_go 2 (c' := (46, [some (.inr (.inr (some 104))), some (.inl 1), some (.inl r), some (.inl n), none], [.inl (-11), .inr (.inr (some 104))], (zs (zup h 104 1 0) hl))) rfl ?_
        refine zH_call (M' := 142) (as := [.inr (.inr (some 104)), .inl (-11)]) (T := []) rfl p_noO (fun r' σ' p_10 => ?_)
        obtain ⟨rfl, rfl⟩ := p_10
        show zH _ _ (49, [some (.inr (.inr (some 104))), some (.inl 1), some (.inl r), some (.inl n), none], [.inl (-11)], (zs (zup (zup h 104 1 0) 104 1 (-11)) hl)) _
        refine zH_ret (v := some (.inl (-11))) rfl (fun q => absurd q (by decide)) ?_
        exact Or.inr (Or.inl ⟨by omega, by omega, rfl, rfl⟩)
    · refine zH_go 2 (c' := (30, [some (.inr (.inr (some 104))), some (.inl 1), some (.inl r), some (.inl n), none], [.inl (-1), .inr (.inr (some 104))], (zs (zup h 104 1 0) hl))) rfl ?_
      refine zH_call (M' := 142) (as := [.inr (.inr (some 104)), .inl (-1)]) (T := []) rfl p_noO (fun r' σ' p_11 => ?_)
      obtain ⟨rfl, rfl⟩ := p_11
      show zH _ _ (33, [some (.inr (.inr (some 104))), some (.inl 1), some (.inl r), some (.inl n), none], [.inl (-1)], (zs (zup (zup h 104 1 0) 104 1 (-1)) hl)) _
      refine zH_ret (v := some (.inl (-1))) rfl (fun q => absurd q (by decide)) ?_
      exact Or.inl ⟨by omega, rfl, rfl⟩
  · exact absurd (by decide) b_2
set_option maxRecDepth 100000 in
set_option maxHeartbeats 4000000 in
theorem p_wrO1 {d : Nat} {h hl : Nat → Nat → Int} {t r i : Int} (ht : zr t) (hr : zr r) (hi : zr i) (hB : zMbk h hl 1) : zQ (d + 2) 145 [.inr (.inr (some 104)), .inl 1, .inl t, .inl r, .inl i] (zs h hl) (fun r' σ' => ∃ x : Int, zWO h 1 t r i x ∧ r' = some (.inl x) ∧ σ' = zs h hl) := by
  obtain ⟨h119, h121, h120, h122, h123⟩ := hB
  refine zQ_of (Nat.le_of_ble_eq_true rfl) ?_
  show zH (d + 1) 145 (0, [some (.inr (.inr (some 104))), some (.inl 1), some (.inl t), some (.inl r), some (.inl i), none], [], (zs h hl)) _
  refine zH_go 1 (c' := (1, [some (.inr (.inr (some 104))), some (.inl 1), some (.inl t), some (.inl r), some (.inl i), none], [.inl 1], (zs h hl))) rfl ?_
  refine zH_np (P := zr 1) (c' := (2, [some (.inr (.inr (some 104))), some (.inl 1), some (.inl t), some (.inl r), some (.inl i), none], [.inr (.inl 1)], (zs h hl))) rfl ⟨by decide, by decide⟩ ?_
  refine zH_go 2 (c' := (6, [some (.inr (.inr (some 104))), some (.inl 1), some (.inl t), some (.inl r), some (.inl i), none], [.inr (.inl 2), .inr (.inl 0), .inr (.inl 1)], (zs h hl))) rfl ?_
  refine zH_call (M' := 103) (as := [.inr (.inl 1), .inr (.inl 0), .inr (.inl 2)]) (T := []) rfl (p_in ⟨by decide, by decide⟩ ⟨by decide, by decide⟩ ⟨by decide, by decide⟩) (fun r σ' p_1 => ?_)
  rcases p_1 with ⟨rfl, b_2, rfl⟩ | ⟨rfl, b_2, rfl⟩
  · show zH _ _ (9, [some (.inr (.inr (some 104))), some (.inl 1), some (.inl t), some (.inl r), some (.inl i), none], [.inl 1], (zs h hl)) _
    refine zH_bf (x := 1) (y := 0) (k := .eq) (c1 := (24, [some (.inr (.inr (some 104))), some (.inl 1), some (.inl t), some (.inl r), some (.inl i), none], [], (zs h hl))) (c2 := (12, [some (.inr (.inr (some 104))), some (.inl 1), some (.inl t), some (.inl r), some (.inl i), none], [], (zs h hl))) rfl ⟨by decide, by decide⟩ ⟨by decide, by decide⟩ (by show ¬ (1 = 0); decide) ?_
    refine zH_go 1 (c' := (13, [some (.inr (.inr (some 104))), some (.inl 1), some (.inl t), some (.inl r), some (.inl i), none], [.inl t], (zs h hl))) rfl ?_
    refine zH_np (P := zr t) (c' := (14, [some (.inr (.inr (some 104))), some (.inl 1), some (.inl t), some (.inl r), some (.inl i), none], [.inr (.inl t)], (zs h hl))) rfl (by first | assumption | (unfold zr; omega)) ?_
    refine zH_go 2 (c' := (18, [some (.inr (.inr (some 104))), some (.inl 1), some (.inl t), some (.inl r), some (.inl i), none], [.inr (.inl 3), .inr (.inl 0), .inr (.inl t)], (zs h hl))) rfl ?_
    refine zH_call (M' := 103) (as := [.inr (.inl t), .inr (.inl 0), .inr (.inl 3)]) (T := []) rfl (p_in (by first | assumption | exact zr_l (by assumption) | (unfold zrl; omega)) ⟨by decide, by decide⟩ ⟨by decide, by decide⟩) (fun r σ' p_3 => ?_)
    rcases p_3 with ⟨rfl, b_4, rfl⟩ | ⟨rfl, b_4, rfl⟩
    · show zH _ _ (21, [some (.inr (.inr (some 104))), some (.inl 1), some (.inl t), some (.inl r), some (.inl i), none], [.inl 1], (zs h hl)) _
      refine zH_bt (x := 1) (y := 0) (k := .ne) (c1 := (26, [some (.inr (.inr (some 104))), some (.inl 1), some (.inl t), some (.inl r), some (.inl i), none], [], (zs h hl))) (c2 := (24, [some (.inr (.inr (some 104))), some (.inl 1), some (.inl t), some (.inl r), some (.inl i), none], [], (zs h hl))) rfl ⟨by decide, by decide⟩ ⟨by decide, by decide⟩ (by show ¬ 1 = 0; decide) ?_
      refine zH_go 3 (c' := (31, [some (.inr (.inr (some 104))), some (.inl 1), some (.inl t), some (.inl r), some (.inl i), none], [.inl 1, .inr (.inr (some 119))], (zs h hl))) rfl ?_
      refine zH_np (P := 0 ≤ 1 ∧ 1 < ((3 : Nat) : Int)) (c' := (32, [some (.inr (.inr (some 104))), some (.inl 1), some (.inl t), some (.inl r), some (.inl i), none], [.inl (h 119 1)], (zs h hl))) rfl ⟨by decide, by decide⟩ ?_
      refine zH_br (x := (h 119 1)) (y := 0) (k := .ne) (c1 := (38, [some (.inr (.inr (some 104))), some (.inl 1), some (.inl t), some (.inl r), some (.inl i), none], [], (zs h hl))) (c2 := (35, [some (.inr (.inr (some 104))), some (.inl 1), some (.inl t), some (.inl r), some (.inl i), none], [], (zs h hl))) rfl (by first | assumption | (unfold zr; omega)) ⟨by decide, by decide⟩ (fun (b_5 : ¬ (h 119 1) = 0) => ?_) (fun (b_5 : ¬ (¬ (h 119 1) = 0)) => ?_)
      · refine zH_go 3 (c' := (43, [some (.inr (.inr (some 104))), some (.inl 1), some (.inl t), some (.inl r), some (.inl i), none], [.inl 1, .inr (.inr (some 120))], (zs h hl))) rfl ?_
        refine zH_np (P := 0 ≤ 1 ∧ 1 < ((3 : Nat) : Int)) (c' := (44, [some (.inr (.inr (some 104))), some (.inl 1), some (.inl t), some (.inl r), some (.inl i), none], [.inl (h 120 1)], (zs h hl))) rfl ⟨by decide, by decide⟩ ?_
        refine zH_go 1 (c' := (45, [some (.inr (.inr (some 104))), some (.inl 1), some (.inl t), some (.inl r), some (.inl i), none], [.inl t, .inl (h 120 1)], (zs h hl))) rfl ?_
        refine zH_br (x := (h 120 1)) (y := t) (k := .eq) (c1 := (51, [some (.inr (.inr (some 104))), some (.inl 1), some (.inl t), some (.inl r), some (.inl i), none], [], (zs h hl))) (c2 := (48, [some (.inr (.inr (some 104))), some (.inl 1), some (.inl t), some (.inl r), some (.inl i), none], [], (zs h hl))) rfl (by first | assumption | (unfold zr; omega)) (by first | assumption | (unfold zr; omega)) (fun (b_6 : (h 120 1) = t) => ?_) (fun (b_6 : ¬ ((h 120 1) = t)) => ?_)
        · refine zH_go 1 (c' := (52, [some (.inr (.inr (some 104))), some (.inl 1), some (.inl t), some (.inl r), some (.inl i), none], [.inl r], (zs h hl))) rfl ?_
          refine zH_np (P := zr r) (c' := (53, [some (.inr (.inr (some 104))), some (.inl 1), some (.inl t), some (.inl r), some (.inl i), none], [.inr (.inl r)], (zs h hl))) rfl (by first | assumption | (unfold zr; omega)) ?_
          refine zH_go 4 (c' := (59, [some (.inr (.inr (some 104))), some (.inl 1), some (.inl t), some (.inl r), some (.inl i), none], [.inl 1, .inr (.inr (some 121)), .inr (.inl 0), .inr (.inl r)], (zs h hl))) rfl ?_
          refine zH_np (P := 0 ≤ 1 ∧ 1 < ((3 : Nat) : Int)) (c' := (60, [some (.inr (.inr (some 104))), some (.inl 1), some (.inl t), some (.inl r), some (.inl i), none], [.inl (h 121 1), .inr (.inl 0), .inr (.inl r)], (zs h hl))) rfl ⟨by decide, by decide⟩ ?_
          refine zH_go 2 (c' := (62, [some (.inr (.inr (some 104))), some (.inl 1), some (.inl t), some (.inl r), some (.inl i), none], [.inl ((h 121 1) - 1), .inr (.inl 0), .inr (.inl r)], (zs h hl))) rfl ?_
          refine zH_np (P := zr ((h 121 1) - 1)) (c' := (63, [some (.inr (.inr (some 104))), some (.inl 1), some (.inl t), some (.inl r), some (.inl i), none], [.inr (.inl ((h 121 1) - 1)), .inr (.inl 0), .inr (.inl r)], (zs h hl))) rfl (by first | assumption | (unfold zr; omega)) ?_
          refine zH_call (M' := 103) (as := [.inr (.inl r), .inr (.inl 0), .inr (.inl ((h 121 1) - 1))]) (T := []) rfl (p_in (by first | assumption | exact zr_l (by assumption) | (unfold zrl; omega)) ⟨by decide, by decide⟩ (by first | assumption | exact zr_l (by assumption) | (unfold zrl; omega))) (fun r σ' p_7 => ?_)
          rcases p_7 with ⟨rfl, b_8, rfl⟩ | ⟨rfl, b_8, rfl⟩
          · show zH _ _ (66, [some (.inr (.inr (some 104))), some (.inl 1), some (.inl t), some (.inl r), some (.inl i), none], [.inl 1], (zs h hl)) _
            refine zH_bt (x := 1) (y := 0) (k := .ne) (c1 := (72, [some (.inr (.inr (some 104))), some (.inl 1), some (.inl t), some (.inl r), some (.inl i), none], [], (zs h hl))) (c2 := (69, [some (.inr (.inr (some 104))), some (.inl 1), some (.inl t), some (.inl r), some (.inl i), none], [], (zs h hl))) rfl ⟨by decide, by decide⟩ ⟨by decide, by decide⟩ (by show ¬ 1 = 0; decide) ?_
            obtain ⟨R, rfl⟩ := Int.eq_ofNat_of_zero_le (show 0 ≤ r by omega)
            show zH _ _ (72, [some (.inr (.inr (some 104))), some (.inl 1), some (.inl t), some (.inl (R : Int)), some (.inl i), none], [], (zs h hl)) _
            have h2R : h 122 (4 + R) = -9 ∨ (0 ≤ h 122 (4 + R) ∧ h 122 (4 + R) ≤ 8) := h122 R (by omega)
            refine zH_go 7 (c' := (81, [some (.inr (.inr (some 104))), some (.inl 1), some (.inl t), some (.inl (R : Int)), some (.inl i), none], [.inl (4 + (R : Int)), .inr (.inr (some 122))], (zs h hl))) rfl ?_
            refine zH_np (P := 0 ≤ (4 + (R : Int)) ∧ (4 + (R : Int)) < ((12 : Nat) : Int)) (c' := (82, [some (.inr (.inr (some 104))), some (.inl 1), some (.inl t), some (.inl (R : Int)), some (.inl i), none], [.inl (h 122 (4 + R))], (zs h hl))) rfl ⟨by omega, by omega⟩ ?_
            refine zH_go 3 (c' := (88, [some (.inr (.inr (some 104))), some (.inl 1), some (.inl t), some (.inl (R : Int)), some (.inl i), some (.inl (h 122 (4 + R)))], [.inl (-9), .inl (h 122 (4 + R))], (zs h hl))) rfl ?_
            refine zH_br (x := (h 122 (4 + R))) (y := (-9)) (k := .ne) (c1 := (96, [some (.inr (.inr (some 104))), some (.inl 1), some (.inl t), some (.inl (R : Int)), some (.inl i), some (.inl (h 122 (4 + R)))], [], (zs h hl))) (c2 := (91, [some (.inr (.inr (some 104))), some (.inl 1), some (.inl t), some (.inl (R : Int)), some (.inl i), some (.inl (h 122 (4 + R)))], [], (zs h hl))) rfl (by first | assumption | (unfold zr; omega)) ⟨by decide, by decide⟩ (fun (b_9 : ¬ (h 122 (4 + R)) = (-9)) => ?_) (fun (b_9 : ¬ (¬ (h 122 (4 + R)) = (-9))) => ?_)
            · refine zH_go 1 (c' := (98, [some (.inr (.inr (some 104))), some (.inl 1), some (.inl t), some (.inl (R : Int)), some (.inl i), some (.inl (h 122 (4 + R)))], [.inl i], (zs h hl))) rfl ?_
              refine zH_np (P := zr i) (c' := (99, [some (.inr (.inr (some 104))), some (.inl 1), some (.inl t), some (.inl (R : Int)), some (.inl i), some (.inl (h 122 (4 + R)))], [.inr (.inl i)], (zs h hl))) rfl (by first | assumption | (unfold zr; omega)) ?_
              refine zH_go 4 (c' := (104, [some (.inr (.inr (some 104))), some (.inl 1), some (.inl t), some (.inl (R : Int)), some (.inl i), some (.inl (h 122 (4 + R)))], [.inl ((h 122 (4 + R)) - 1), .inr (.inl 0), .inr (.inl i)], (zs h hl))) rfl ?_
              refine zH_np (P := zr ((h 122 (4 + R)) - 1)) (c' := (105, [some (.inr (.inr (some 104))), some (.inl 1), some (.inl t), some (.inl (R : Int)), some (.inl i), some (.inl (h 122 (4 + R)))], [.inr (.inl ((h 122 (4 + R)) - 1)), .inr (.inl 0), .inr (.inl i)], (zs h hl))) rfl (by first | assumption | (unfold zr; omega)) ?_
              refine zH_call (M' := 103) (as := [.inr (.inl i), .inr (.inl 0), .inr (.inl ((h 122 (4 + R)) - 1))]) (T := []) rfl (p_in (by first | assumption | exact zr_l (by assumption) | (unfold zrl; omega)) ⟨by decide, by decide⟩ (by first | assumption | exact zr_l (by assumption) | (unfold zrl; omega))) (fun r σ' p_10 => ?_)
              rcases p_10 with ⟨rfl, b_11, rfl⟩ | ⟨rfl, b_11, rfl⟩
              · show zH _ _ (108, [some (.inr (.inr (some 104))), some (.inl 1), some (.inl t), some (.inl (R : Int)), some (.inl i), some (.inl (h 122 (4 + R)))], [.inl 1], (zs h hl)) _
                refine zH_bf (x := 1) (y := 0) (k := .eq) (c1 := (115, [some (.inr (.inr (some 104))), some (.inl 1), some (.inl t), some (.inl (R : Int)), some (.inl i), some (.inl (h 122 (4 + R)))], [], (zs h hl))) (c2 := (111, [some (.inr (.inr (some 104))), some (.inl 1), some (.inl t), some (.inl (R : Int)), some (.inl i), some (.inl (h 122 (4 + R)))], [], (zs h hl))) rfl ⟨by decide, by decide⟩ ⟨by decide, by decide⟩ (by show ¬ (1 = 0); decide) ?_
                refine zH_go 2 (c' := (117, [some (.inr (.inr (some 104))), some (.inl 1), some (.inl t), some (.inl (R : Int)), some (.inl i), some (.inl (h 122 (4 + R)))], [.inl 0], (zs h hl))) rfl ?_
                refine zH_ret (v := some (.inl 0)) rfl (fun q => absurd q (by decide)) ?_
                refine ⟨_, ?_, rfl, rfl⟩
                unfold zWO
                try rw [Int.toNat_natCast]
                try rw [show (4 : Nat) * 1 = 4 from rfl]
                omega
              · show zH _ _ (108, [some (.inr (.inr (some 104))), some (.inl 1), some (.inl t), some (.inl (R : Int)), some (.inl i), some (.inl (h 122 (4 + R)))], [.inl 0], (zs h hl)) _
                refine zH_bt (x := 0) (y := 0) (k := .eq) (c1 := (115, [some (.inr (.inr (some 104))), some (.inl 1), some (.inl t), some (.inl (R : Int)), some (.inl i), some (.inl (h 122 (4 + R)))], [], (zs h hl))) (c2 := (111, [some (.inr (.inr (some 104))), some (.inl 1), some (.inl t), some (.inl (R : Int)), some (.inl i), some (.inl (h 122 (4 + R)))], [], (zs h hl))) rfl ⟨by decide, by decide⟩ ⟨by decide, by decide⟩ (by show 0 = 0; decide) ?_
                refine zH_go 1 (c' := (117, [some (.inr (.inr (some 104))), some (.inl 1), some (.inl t), some (.inl (R : Int)), some (.inl i), some (.inl (h 122 (4 + R)))], [.inl (-12)], (zs h hl))) rfl ?_
                refine zH_ret (v := some (.inl (-12))) rfl (fun q => absurd q (by decide)) ?_
                refine ⟨_, ?_, rfl, rfl⟩
                unfold zWO
                try rw [Int.toNat_natCast]
                try rw [show (4 : Nat) * 1 = 4 from rfl]
                omega
            · refine zH_go 2 (c' := (117, [some (.inr (.inr (some 104))), some (.inl 1), some (.inl t), some (.inl (R : Int)), some (.inl i), some (.inl (h 122 (4 + R)))], [.inl (-11)], (zs h hl))) rfl ?_
              refine zH_ret (v := some (.inl (-11))) rfl (fun q => absurd q (by decide)) ?_
              refine ⟨_, ?_, rfl, rfl⟩
              unfold zWO
              try rw [Int.toNat_natCast]
              try rw [show (4 : Nat) * 1 = 4 from rfl]
              omega
          · show zH _ _ (66, [some (.inr (.inr (some 104))), some (.inl 1), some (.inl t), some (.inl r), some (.inl i), none], [.inl 0], (zs h hl)) _
            refine zH_bf (x := 0) (y := 0) (k := .ne) (c1 := (72, [some (.inr (.inr (some 104))), some (.inl 1), some (.inl t), some (.inl r), some (.inl i), none], [], (zs h hl))) (c2 := (69, [some (.inr (.inr (some 104))), some (.inl 1), some (.inl t), some (.inl r), some (.inl i), none], [], (zs h hl))) rfl ⟨by decide, by decide⟩ ⟨by decide, by decide⟩ (by show ¬ (¬ 0 = 0); decide) ?_
            refine zH_go 1 (c' := (71, [some (.inr (.inr (some 104))), some (.inl 1), some (.inl t), some (.inl r), some (.inl i), none], [.inl (-12)], (zs h hl))) rfl ?_
            refine zH_ret (v := some (.inl (-12))) rfl (fun q => absurd q (by decide)) ?_
            refine ⟨_, ?_, rfl, rfl⟩
            unfold zWO
            try rw [Int.toNat_natCast]
            try rw [show (4 : Nat) * 1 = 4 from rfl]
            omega
        · refine zH_go 1 (c' := (50, [some (.inr (.inr (some 104))), some (.inl 1), some (.inl t), some (.inl r), some (.inl i), none], [.inl (-13)], (zs h hl))) rfl ?_
          refine zH_ret (v := some (.inl (-13))) rfl (fun q => absurd q (by decide)) ?_
          refine ⟨_, ?_, rfl, rfl⟩
          unfold zWO
          try rw [Int.toNat_natCast]
          try rw [show (4 : Nat) * 1 = 4 from rfl]
          omega
      · refine zH_go 1 (c' := (37, [some (.inr (.inr (some 104))), some (.inl 1), some (.inl t), some (.inl r), some (.inl i), none], [.inl (-11)], (zs h hl))) rfl ?_
        refine zH_ret (v := some (.inl (-11))) rfl (fun q => absurd q (by decide)) ?_
        refine ⟨_, ?_, rfl, rfl⟩
        unfold zWO
        try rw [Int.toNat_natCast]
        try rw [show (4 : Nat) * 1 = 4 from rfl]
        omega
    · show zH _ _ (21, [some (.inr (.inr (some 104))), some (.inl 1), some (.inl t), some (.inl r), some (.inl i), none], [.inl 0], (zs h hl)) _
      refine zH_bf (x := 0) (y := 0) (k := .ne) (c1 := (26, [some (.inr (.inr (some 104))), some (.inl 1), some (.inl t), some (.inl r), some (.inl i), none], [], (zs h hl))) (c2 := (24, [some (.inr (.inr (some 104))), some (.inl 1), some (.inl t), some (.inl r), some (.inl i), none], [], (zs h hl))) rfl ⟨by decide, by decide⟩ ⟨by decide, by decide⟩ (by show ¬ (¬ 0 = 0); decide) ?_
      refine zH_go 1 (c' := (25, [some (.inr (.inr (some 104))), some (.inl 1), some (.inl t), some (.inl r), some (.inl i), none], [.inl (-1)], (zs h hl))) rfl ?_
      refine zH_ret (v := some (.inl (-1))) rfl (fun q => absurd q (by decide)) ?_
      refine ⟨_, ?_, rfl, rfl⟩
      unfold zWO
      try rw [Int.toNat_natCast]
      try rw [show (4 : Nat) * 1 = 4 from rfl]
      omega
  · exact absurd (by decide) b_2
set_option maxRecDepth 100000 in
set_option maxHeartbeats 4000000 in
theorem p_putO1 {d : Nat} {h0 h hl : Nat → Nat → Int} (e0 : zup h0 104 0 0 = h) {t r i v : Int} (ht : zr t) (hr : zr r) (hi : zr i) (hB : zMbk h hl 1) : zQ (d + 3) 146 [.inr (.inr (some 104)), .inl 1, .inl t, .inl r, .inl i, .inr (.inl v)] (zs h0 hl) (fun r' σ' => ∃ x : Int, zWO h 1 t r i x ∧ ((¬ x = 0 ∧ r' = some (.inl x) ∧ σ' = zs (zup h 104 1 x) hl) ∨ (x = 0 ∧ r' = some (.inl 1) ∧ σ' = zs (zup h 104 1 0) (zup hl 123 (32 + 8 * Int.toNat r + Int.toNat i) (zNar t v))))) := by
  have hBc := hB
  obtain ⟨h119, h121, h120, h122, h123⟩ := hBc
  refine zQ_of (Nat.le_of_ble_eq_true rfl) ?_
  show zH (d + 2) 146 (0, [some (.inr (.inr (some 104))), some (.inl 1), some (.inl t), some (.inl r), some (.inl i), some (.inr (.inl v)), none], [], (zs h0 hl)) _
  refine zH_go 3 (c' := (5, [some (.inr (.inr (some 104))), some (.inl 1), some (.inl t), some (.inl r), some (.inl i), some (.inr (.inl v)), none], [], (zs (zup h0 104 0 0) hl))) rfl ?_
  rw [e0]
  refine zH_go 6 (c' := (12, [some (.inr (.inr (some 104))), some (.inl 1), some (.inl t), some (.inl r), some (.inl i), some (.inr (.inl v)), none], [.inl i, .inl r, .inl t, .inl 1, .inr (.inr (some 104)), .inr (.inr (some 104))], (zs h hl))) rfl ?_
  refine zH_call (M' := 145) (as := [.inr (.inr (some 104)), .inl 1, .inl t, .inl r, .inl i]) (T := [.inr (.inr (some 104))]) rfl (p_wrO1 ht hr hi hB) (fun r' σ' p_1 => ?_)
  obtain ⟨x, hx, rfl, rfl⟩ := p_1
  have hxb := zWO_b hx
  show zH _ _ (15, [some (.inr (.inr (some 104))), some (.inl 1), some (.inl t), some (.inl r), some (.inl i), some (.inr (.inl v)), none], [.inl x, .inr (.inr (some 104))], (zs h hl)) _
  refine zH_go 3 (c' := (22, [some (.inr (.inr (some 104))), some (.inl 1), some (.inl t), some (.inl r), some (.inl i), some (.inr (.inl v)), none], [.inl x], (zs (zup h 104 1 x) hl))) rfl ?_
  refine zH_br (x := x) (y := 0) (k := .ge) (c1 := (30, [some (.inr (.inr (some 104))), some (.inl 1), some (.inl t), some (.inl r), some (.inl i), some (.inr (.inl v)), none], [], (zs (zup h 104 1 x) hl))) (c2 := (25, [some (.inr (.inr (some 104))), some (.inl 1), some (.inl t), some (.inl r), some (.inl i), some (.inr (.inl v)), none], [], (zs (zup h 104 1 x) hl))) rfl (by first | assumption | exact zbm_zr _ | exact (zbm_zr2 _).1 | exact (zbm_zr2 _).2 | (unfold zr; omega)) ⟨by decide, by decide⟩ (fun (b_2 : ¬ x < 0) => ?_) (fun (b_2 : ¬ (¬ x < 0)) => ?_)
  · obtain rfl : x = 0 := by omega
    have hx0 := zWO_0 hx
    obtain ⟨R, rfl⟩ := Int.eq_ofNat_of_zero_le hx0.2.1.1
    obtain ⟨U, rfl⟩ := Int.eq_ofNat_of_zero_le hx0.2.2.1
    rw [Int.toNat_natCast, show (4 : Nat) * 1 = 4 from rfl] at hx0
    have h2R : h 122 (4 + R) = -9 ∨ (0 ≤ h 122 (4 + R) ∧ h 122 (4 + R) ≤ 8) := h122 R (by omega)
    show zH _ _ (30, [some (.inr (.inr (some 104))), some (.inl 1), some (.inl t), some (.inl (R : Int)), some (.inl (U : Int)), some (.inr (.inl v)), none], [], (zs (zup h 104 1 0) hl)) _
    refine zH_go 11 (c' := (46, [some (.inr (.inr (some 104))), some (.inl 1), some (.inl t), some (.inl (R : Int)), some (.inl (U : Int)), some (.inr (.inl v)), none], [.inl ((32 + (8 * (R : Int))) + (U : Int)), .inr (.inr (some 123))], (zs (zup h 104 1 0) hl))) rfl ?_
    refine zH_mg (F := fun mq => (85, [some (.inr (.inr (some 104))), some (.inl 1), some (.inl t), some (.inl (R : Int)), some (.inl (U : Int)), some (.inr (.inl v)), none], [.inr (.inl mq), .inl ((32 + (8 * (R : Int))) + (U : Int)), .inr (.inr (some 123))], (zs (zup h 104 1 0) hl))) (R := fun mq => mq = zNar t v) (fun m_3 fm_3 => ?_) (fun kk => ?_)
    · replace fm_3 : m_3 = zNar t v := fm_3
      show zH _ _ (85, [some (.inr (.inr (some 104))), some (.inl 1), some (.inl t), some (.inl (R : Int)), some (.inl (U : Int)), some (.inr (.inl v)), none], [.inr (.inl m_3), .inl ((32 + (8 * (R : Int))) + (U : Int)), .inr (.inr (some 123))], (zs (zup h 104 1 0) hl)) _
      refine zH_np (P := 0 ≤ ((32 + (8 * (R : Int))) + (U : Int)) ∧ ((32 + (8 * (R : Int))) + (U : Int)) < ((96 : Nat) : Int)) (c' := (86, [some (.inr (.inr (some 104))), some (.inl 1), some (.inl t), some (.inl (R : Int)), some (.inl (U : Int)), some (.inr (.inl v)), none], [], (zs (zup h 104 1 0) (zup hl 123 ((32 + (8 * R)) + U) m_3)))) rfl ⟨by omega, by omega⟩ ?_
      refine zH_go 1 (c' := (87, [some (.inr (.inr (some 104))), some (.inl 1), some (.inl t), some (.inl (R : Int)), some (.inl (U : Int)), some (.inr (.inl v)), none], [.inl 1], (zs (zup h 104 1 0) (zup hl 123 ((32 + (8 * R)) + U) m_3)))) rfl ?_
      refine zH_ret (v := some (.inl 1)) rfl (fun q => absurd q (by decide)) ?_
      exact ⟨0, hx, Or.inr ⟨rfl, rfl, by rw [Int.toNat_natCast, Int.toNat_natCast, ← fm_3]⟩⟩
    · refine zH_go 1 (c' := (47, [some (.inr (.inr (some 104))), some (.inl 1), some (.inl t), some (.inl (R : Int)), some (.inl (U : Int)), some (.inr (.inl v)), none], [.inl t, .inl ((32 + (8 * (R : Int))) + (U : Int)), .inr (.inr (some 123))], (zs (zup h 104 1 0) hl))) rfl ?_
      refine zH_br (x := t) (y := 0) (k := .ne) (c1 := (58, [some (.inr (.inr (some 104))), some (.inl 1), some (.inl t), some (.inl (R : Int)), some (.inl (U : Int)), some (.inr (.inl v)), none], [.inl ((32 + (8 * (R : Int))) + (U : Int)), .inr (.inr (some 123))], (zs (zup h 104 1 0) hl))) (c2 := (50, [some (.inr (.inr (some 104))), some (.inl 1), some (.inl t), some (.inl (R : Int)), some (.inl (U : Int)), some (.inr (.inl v)), none], [.inl ((32 + (8 * (R : Int))) + (U : Int)), .inr (.inr (some 123))], (zs (zup h 104 1 0) hl))) rfl (by first | assumption | exact zbm_zr _ | exact (zbm_zr2 _).1 | exact (zbm_zr2 _).2 | (unfold zr; omega)) ⟨by decide, by decide⟩ (fun (b_4 : ¬ t = 0) => ?_) (fun (b_4 : ¬ (¬ t = 0)) => ?_)
      · refine zH_go 2 (c' := (60, [some (.inr (.inr (some 104))), some (.inl 1), some (.inl t), some (.inl (R : Int)), some (.inl (U : Int)), some (.inr (.inl v)), none], [.inl 1, .inl t, .inl ((32 + (8 * (R : Int))) + (U : Int)), .inr (.inr (some 123))], (zs (zup h 104 1 0) hl))) rfl ?_
        refine zH_br (x := t) (y := 1) (k := .ne) (c1 := (71, [some (.inr (.inr (some 104))), some (.inl 1), some (.inl t), some (.inl (R : Int)), some (.inl (U : Int)), some (.inr (.inl v)), none], [.inl ((32 + (8 * (R : Int))) + (U : Int)), .inr (.inr (some 123))], (zs (zup h 104 1 0) hl))) (c2 := (63, [some (.inr (.inr (some 104))), some (.inl 1), some (.inl t), some (.inl (R : Int)), some (.inl (U : Int)), some (.inr (.inl v)), none], [.inl ((32 + (8 * (R : Int))) + (U : Int)), .inr (.inr (some 123))], (zs (zup h 104 1 0) hl))) rfl (by first | assumption | exact zbm_zr _ | exact (zbm_zr2 _).1 | exact (zbm_zr2 _).2 | (unfold zr; omega)) ⟨by decide, by decide⟩ (fun (b_5 : ¬ t = 1) => ?_) (fun (b_5 : ¬ (¬ t = 1)) => ?_)
        · refine zH_go 2 (c' := (73, [some (.inr (.inr (some 104))), some (.inl 1), some (.inl t), some (.inl (R : Int)), some (.inl (U : Int)), some (.inr (.inl v)), none], [.inl 2, .inl t, .inl ((32 + (8 * (R : Int))) + (U : Int)), .inr (.inr (some 123))], (zs (zup h 104 1 0) hl))) rfl ?_
          refine zH_br (x := t) (y := 2) (k := .ne) (c1 := (83, [some (.inr (.inr (some 104))), some (.inl 1), some (.inl t), some (.inl (R : Int)), some (.inl (U : Int)), some (.inr (.inl v)), none], [.inl ((32 + (8 * (R : Int))) + (U : Int)), .inr (.inr (some 123))], (zs (zup h 104 1 0) hl))) (c2 := (76, [some (.inr (.inr (some 104))), some (.inl 1), some (.inl t), some (.inl (R : Int)), some (.inl (U : Int)), some (.inr (.inl v)), none], [.inl ((32 + (8 * (R : Int))) + (U : Int)), .inr (.inr (some 123))], (zs (zup h 104 1 0) hl))) rfl (by first | assumption | exact zbm_zr _ | exact (zbm_zr2 _).1 | exact (zbm_zr2 _).2 | (unfold zr; omega)) ⟨by decide, by decide⟩ (fun (b_6 : ¬ t = 2) => ?_) (fun (b_6 : ¬ (¬ t = 2)) => ?_)
          · refine zH_go 1 (c' := (85, [some (.inr (.inr (some 104))), some (.inl 1), some (.inl t), some (.inl (R : Int)), some (.inl (U : Int)), some (.inr (.inl v)), none], [.inr (.inl v), .inl ((32 + (8 * (R : Int))) + (U : Int)), .inr (.inr (some 123))], (zs (zup h 104 1 0) hl))) rfl ?_
            refine kk v ?_
            show v = zNar t v
            unfold zNar
            first | rw [if_pos (by omega)] | rw [if_neg (by omega), if_pos (by omega)] | rw [if_neg (by omega), if_neg (by omega), if_pos (by omega)] | rw [if_neg (by omega), if_neg (by omega), if_neg (by omega)]
          · refine zH_go 2 (c' := (79, [some (.inr (.inr (some 104))), some (.inl 1), some (.inl t), some (.inl (R : Int)), some (.inl (U : Int)), some (.inr (.inl v)), none], [.inl (Int.bmod v 4294967296), .inl ((32 + (8 * (R : Int))) + (U : Int)), .inr (.inr (some 123))], (zs (zup h 104 1 0) hl))) rfl ?_
            refine zH_np (P := zr (Int.bmod v 4294967296)) (c' := (80, [some (.inr (.inr (some 104))), some (.inl 1), some (.inl t), some (.inl (R : Int)), some (.inl (U : Int)), some (.inr (.inl v)), none], [.inr (.inl (Int.bmod v 4294967296)), .inl ((32 + (8 * (R : Int))) + (U : Int)), .inr (.inr (some 123))], (zs (zup h 104 1 0) hl))) rfl (by first | assumption | exact zbm_zr _ | exact (zbm_zr2 _).1 | exact (zbm_zr2 _).2 | (unfold zr; omega)) ?_
            refine zH_go 1 (c' := (85, [some (.inr (.inr (some 104))), some (.inl 1), some (.inl t), some (.inl (R : Int)), some (.inl (U : Int)), some (.inr (.inl v)), none], [.inr (.inl (Int.bmod v 4294967296)), .inl ((32 + (8 * (R : Int))) + (U : Int)), .inr (.inr (some 123))], (zs (zup h 104 1 0) hl))) rfl ?_
            refine kk (Int.bmod v 4294967296) ?_
            show (Int.bmod v 4294967296) = zNar t v
            unfold zNar
            first | rw [if_pos (by omega)] | rw [if_neg (by omega), if_pos (by omega)] | rw [if_neg (by omega), if_neg (by omega), if_pos (by omega)] | rw [if_neg (by omega), if_neg (by omega), if_neg (by omega)]
        · refine zH_go 3 (c' := (67, [some (.inr (.inr (some 104))), some (.inl 1), some (.inl t), some (.inl (R : Int)), some (.inl (U : Int)), some (.inr (.inl v)), none], [.inl (Int.bmod (Int.bmod v 4294967296) 65536), .inl ((32 + (8 * (R : Int))) + (U : Int)), .inr (.inr (some 123))], (zs (zup h 104 1 0) hl))) rfl ?_
          refine zH_np (P := zr (Int.bmod (Int.bmod v 4294967296) 65536)) (c' := (68, [some (.inr (.inr (some 104))), some (.inl 1), some (.inl t), some (.inl (R : Int)), some (.inl (U : Int)), some (.inr (.inl v)), none], [.inr (.inl (Int.bmod (Int.bmod v 4294967296) 65536)), .inl ((32 + (8 * (R : Int))) + (U : Int)), .inr (.inr (some 123))], (zs (zup h 104 1 0) hl))) rfl (by first | assumption | exact zbm_zr _ | exact (zbm_zr2 _).1 | exact (zbm_zr2 _).2 | (unfold zr; omega)) ?_
          refine zH_go 1 (c' := (85, [some (.inr (.inr (some 104))), some (.inl 1), some (.inl t), some (.inl (R : Int)), some (.inl (U : Int)), some (.inr (.inl v)), none], [.inr (.inl (Int.bmod (Int.bmod v 4294967296) 65536)), .inl ((32 + (8 * (R : Int))) + (U : Int)), .inr (.inr (some 123))], (zs (zup h 104 1 0) hl))) rfl ?_
          refine kk (Int.bmod (Int.bmod v 4294967296) 65536) ?_
          show (Int.bmod (Int.bmod v 4294967296) 65536) = zNar t v
          unfold zNar
          first | rw [if_pos (by omega)] | rw [if_neg (by omega), if_pos (by omega)] | rw [if_neg (by omega), if_neg (by omega), if_pos (by omega)] | rw [if_neg (by omega), if_neg (by omega), if_neg (by omega)]
      · refine zH_go 3 (c' := (54, [some (.inr (.inr (some 104))), some (.inl 1), some (.inl t), some (.inl (R : Int)), some (.inl (U : Int)), some (.inr (.inl v)), none], [.inl (Int.bmod (Int.bmod v 4294967296) 256), .inl ((32 + (8 * (R : Int))) + (U : Int)), .inr (.inr (some 123))], (zs (zup h 104 1 0) hl))) rfl ?_
        refine zH_np (P := zr (Int.bmod (Int.bmod v 4294967296) 256)) (c' := (55, [some (.inr (.inr (some 104))), some (.inl 1), some (.inl t), some (.inl (R : Int)), some (.inl (U : Int)), some (.inr (.inl v)), none], [.inr (.inl (Int.bmod (Int.bmod v 4294967296) 256)), .inl ((32 + (8 * (R : Int))) + (U : Int)), .inr (.inr (some 123))], (zs (zup h 104 1 0) hl))) rfl (by first | assumption | exact zbm_zr _ | exact (zbm_zr2 _).1 | exact (zbm_zr2 _).2 | (unfold zr; omega)) ?_
        refine zH_go 1 (c' := (85, [some (.inr (.inr (some 104))), some (.inl 1), some (.inl t), some (.inl (R : Int)), some (.inl (U : Int)), some (.inr (.inl v)), none], [.inr (.inl (Int.bmod (Int.bmod v 4294967296) 256)), .inl ((32 + (8 * (R : Int))) + (U : Int)), .inr (.inr (some 123))], (zs (zup h 104 1 0) hl))) rfl ?_
        refine kk (Int.bmod (Int.bmod v 4294967296) 256) ?_
        show (Int.bmod (Int.bmod v 4294967296) 256) = zNar t v
        unfold zNar
        first | rw [if_pos (by omega)] | rw [if_neg (by omega), if_pos (by omega)] | rw [if_neg (by omega), if_neg (by omega), if_pos (by omega)] | rw [if_neg (by omega), if_neg (by omega), if_neg (by omega)]
  · refine zH_go 2 (c' := (29, [some (.inr (.inr (some 104))), some (.inl 1), some (.inl t), some (.inl r), some (.inl i), some (.inr (.inl v)), none], [.inl x], (zs (zup h 104 1 x) hl))) rfl ?_
    refine zH_ret (v := some (.inl x)) rfl (fun q => absurd q (by decide)) ?_
    exact ⟨x, hx, Or.inl ⟨by omega, rfl, rfl⟩⟩
set_option maxRecDepth 100000 in
set_option maxHeartbeats 4000000 in
theorem p_itemO1 {d : Nat} {h0 h hl : Nat → Nat → Int} (e0 : zup h0 104 0 0 = h) {t r i : Int} (ht : zr t) (hr : zr r) (hi : zr i) (hB : zMbk h hl 1) : zQ (d + 3) 147 [.inr (.inr (some 104)), .inl 1, .inl t, .inl r, .inl i] (zs h0 hl) (fun r' σ' => ∃ x : Int, zWO h 1 t r i x ∧ ((¬ x = 0 ∧ r' = some (.inr (.inl 0)) ∧ σ' = zs (zup h 104 1 x) hl) ∨ (x = 0 ∧ r' = some (.inr (.inl (hl 123 (32 + 8 * Int.toNat r + Int.toNat i)))) ∧ σ' = zs (zup h 104 1 0) hl))) := by
  have hBc := hB
  obtain ⟨h119, h121, h120, h122, h123⟩ := hBc
  refine zQ_of (Nat.le_of_ble_eq_true rfl) ?_
  show zH (d + 2) 147 (0, [some (.inr (.inr (some 104))), some (.inl 1), some (.inl t), some (.inl r), some (.inl i)], [], (zs h0 hl)) _
  refine zH_go 3 (c' := (5, [some (.inr (.inr (some 104))), some (.inl 1), some (.inl t), some (.inl r), some (.inl i)], [], (zs (zup h0 104 0 0) hl))) rfl ?_
  rw [e0]
  refine zH_go 6 (c' := (12, [some (.inr (.inr (some 104))), some (.inl 1), some (.inl t), some (.inl r), some (.inl i)], [.inl i, .inl r, .inl t, .inl 1, .inr (.inr (some 104)), .inr (.inr (some 104))], (zs h hl))) rfl ?_
  refine zH_call (M' := 145) (as := [.inr (.inr (some 104)), .inl 1, .inl t, .inl r, .inl i]) (T := [.inr (.inr (some 104))]) rfl (p_wrO1 ht hr hi hB) (fun r' σ' p_1 => ?_)
  obtain ⟨x, hx, rfl, rfl⟩ := p_1
  have hxb := zWO_b hx
  show zH _ _ (15, [some (.inr (.inr (some 104))), some (.inl 1), some (.inl t), some (.inl r), some (.inl i)], [.inl x, .inr (.inr (some 104))], (zs h hl)) _
  refine zH_go 3 (c' := (22, [some (.inr (.inr (some 104))), some (.inl 1), some (.inl t), some (.inl r), some (.inl i)], [.inl x], (zs (zup h 104 1 x) hl))) rfl ?_
  refine zH_br (x := x) (y := 0) (k := .ge) (c1 := (29, [some (.inr (.inr (some 104))), some (.inl 1), some (.inl t), some (.inl r), some (.inl i)], [], (zs (zup h 104 1 x) hl))) (c2 := (25, [some (.inr (.inr (some 104))), some (.inl 1), some (.inl t), some (.inl r), some (.inl i)], [], (zs (zup h 104 1 x) hl))) rfl (by first | assumption | (unfold zr; omega)) ⟨by decide, by decide⟩ (fun (b_2 : ¬ x < 0) => ?_) (fun (b_2 : ¬ (¬ x < 0)) => ?_)
  · obtain rfl : x = 0 := by omega
    have hx0 := zWO_0 hx
    obtain ⟨R, rfl⟩ := Int.eq_ofNat_of_zero_le hx0.2.1.1
    obtain ⟨U, rfl⟩ := Int.eq_ofNat_of_zero_le hx0.2.2.1
    rw [Int.toNat_natCast, show (4 : Nat) * 1 = 4 from rfl] at hx0
    have h2R : h 122 (4 + R) = -9 ∨ (0 ≤ h 122 (4 + R) ∧ h 122 (4 + R) ≤ 8) := h122 R (by omega)
    show zH _ _ (29, [some (.inr (.inr (some 104))), some (.inl 1), some (.inl t), some (.inl (R : Int)), some (.inl (U : Int))], [], (zs (zup h 104 1 0) hl)) _
    refine zH_go 11 (c' := (45, [some (.inr (.inr (some 104))), some (.inl 1), some (.inl t), some (.inl (R : Int)), some (.inl (U : Int))], [.inl ((32 + (8 * (R : Int))) + (U : Int)), .inr (.inr (some 123))], (zs (zup h 104 1 0) hl))) rfl ?_
    refine zH_np (P := 0 ≤ ((32 + (8 * (R : Int))) + (U : Int)) ∧ ((32 + (8 * (R : Int))) + (U : Int)) < ((96 : Nat) : Int)) (c' := (46, [some (.inr (.inr (some 104))), some (.inl 1), some (.inl t), some (.inl (R : Int)), some (.inl (U : Int))], [.inr (.inl (hl 123 ((32 + (8 * R)) + U)))], (zs (zup h 104 1 0) hl))) rfl ⟨by omega, by omega⟩ ?_
    refine zH_ret (v := some (.inr (.inl (hl 123 ((32 + (8 * R)) + U))))) rfl (fun q => absurd q (by decide)) ?_
    exact ⟨0, hx, Or.inr ⟨rfl, by rw [Int.toNat_natCast, Int.toNat_natCast], rfl⟩⟩
  · refine zH_go 2 (c' := (46, [some (.inr (.inr (some 104))), some (.inl 1), some (.inl t), some (.inl r), some (.inl i)], [.inr (.inl 0)], (zs (zup h 104 1 x) hl))) rfl ?_
    refine zH_ret (v := some (.inr (.inl 0))) rfl (fun q => absurd q (by decide)) ?_
    exact ⟨x, hx, Or.inl ⟨by omega, rfl, rfl⟩⟩
set_option maxRecDepth 100000 in
set_option maxHeartbeats 4000000 in
theorem p_bookO2 {d : Nat} {h0 h hl : Nat → Nat → Int} (e0 : zup h0 104 0 0 = h) {t n : Int} (ht : zr t) (hn : zr n) : zQ (d + 2) 143 [.inr (.inr (some 104)), .inl 2, .inl t, .inl n] (zs h0 hl) (fun r' σ' => (¬ ((0 ≤ t ∧ t ≤ 3) ∧ n ≤ 4) ∧ r' = some (.inl (-1)) ∧ σ' = zs (zup (zup h 104 1 0) 104 1 (-1)) hl) ∨ (((0 ≤ t ∧ t ≤ 3) ∧ n ≤ 4) ∧ n < 0 ∧ r' = some (.inl (-15)) ∧ σ' = zs (zup (zup h 104 1 0) 104 1 (-15)) hl) ∨ (((0 ≤ t ∧ t ≤ 3) ∧ n ≤ 4) ∧ 0 ≤ n ∧ r' = some (.inl 1) ∧ σ' = zs (zup (zup (zup (zup (zup (zup (zup (zup h 104 1 0) 119 2 1) 120 2 t) 121 2 n) 122 8 (-9)) 122 9 (-9)) 122 10 (-9)) 122 11 (-9)) hl)) := by
  refine zQ_of (Nat.le_of_ble_eq_true rfl) ?_
  show zH (d + 1) 143 (0, [some (.inr (.inr (some 104))), some (.inl 2), some (.inl t), some (.inl n), none], [], (zs h0 hl)) _
  refine zH_go 3 (c' := (5, [some (.inr (.inr (some 104))), some (.inl 2), some (.inl t), some (.inl n), none], [], (zs (zup h0 104 0 0) hl))) rfl ?_
  rw [e0]
  refine zH_go 4 (c' := (11, [some (.inr (.inr (some 104))), some (.inl 2), some (.inl t), some (.inl n), none], [.inl 2], (zs (zup h 104 1 0) hl))) rfl ?_
  refine zH_np (P := zr 2) (c' := (12, [some (.inr (.inr (some 104))), some (.inl 2), some (.inl t), some (.inl n), none], [.inr (.inl 2)], (zs (zup h 104 1 0) hl))) rfl ⟨by decide, by decide⟩ ?_
  refine zH_go 2 (c' := (16, [some (.inr (.inr (some 104))), some (.inl 2), some (.inl t), some (.inl n), none], [.inr (.inl 2), .inr (.inl 0), .inr (.inl 2)], (zs (zup h 104 1 0) hl))) rfl ?_
  refine zH_call (M' := 103) (as := [.inr (.inl 2), .inr (.inl 0), .inr (.inl 2)]) (T := []) rfl (p_in ⟨by decide, by decide⟩ ⟨by decide, by decide⟩ ⟨by decide, by decide⟩) (fun r σ' p_1 => ?_)
  rcases p_1 with ⟨rfl, b_2, rfl⟩ | ⟨rfl, b_2, rfl⟩
  · show zH _ _ (19, [some (.inr (.inr (some 104))), some (.inl 2), some (.inl t), some (.inl n), none], [.inl 1], (zs (zup h 104 1 0) hl)) _
    refine zH_bf (x := 1) (y := 0) (k := .eq) (c1 := (39, [some (.inr (.inr (some 104))), some (.inl 2), some (.inl t), some (.inl n), none], [], (zs (zup h 104 1 0) hl))) (c2 := (22, [some (.inr (.inr (some 104))), some (.inl 2), some (.inl t), some (.inl n), none], [], (zs (zup h 104 1 0) hl))) rfl ⟨by decide, by decide⟩ ⟨by decide, by decide⟩ (by show ¬ (1 = 0); decide) ?_
    refine zH_go 1 (c' := (23, [some (.inr (.inr (some 104))), some (.inl 2), some (.inl t), some (.inl n), none], [.inl t], (zs (zup h 104 1 0) hl))) rfl ?_
    refine zH_np (P := zr t) (c' := (24, [some (.inr (.inr (some 104))), some (.inl 2), some (.inl t), some (.inl n), none], [.inr (.inl t)], (zs (zup h 104 1 0) hl))) rfl (by first | assumption | (unfold zr; omega)) ?_
    refine zH_go 2 (c' := (28, [some (.inr (.inr (some 104))), some (.inl 2), some (.inl t), some (.inl n), none], [.inr (.inl 3), .inr (.inl 0), .inr (.inl t)], (zs (zup h 104 1 0) hl))) rfl ?_
    refine zH_call (M' := 103) (as := [.inr (.inl t), .inr (.inl 0), .inr (.inl 3)]) (T := []) rfl (p_in (by first | assumption | exact zr_l (by assumption) | (unfold zrl; omega)) ⟨by decide, by decide⟩ ⟨by decide, by decide⟩) (fun r σ' p_3 => ?_)
    rcases p_3 with ⟨rfl, b_4, rfl⟩ | ⟨rfl, b_4, rfl⟩
    · show zH _ _ (31, [some (.inr (.inr (some 104))), some (.inl 2), some (.inl t), some (.inl n), none], [.inl 1], (zs (zup h 104 1 0) hl)) _
      refine zH_bf (x := 1) (y := 0) (k := .eq) (c1 := (39, [some (.inr (.inr (some 104))), some (.inl 2), some (.inl t), some (.inl n), none], [], (zs (zup h 104 1 0) hl))) (c2 := (34, [some (.inr (.inr (some 104))), some (.inl 2), some (.inl t), some (.inl n), none], [], (zs (zup h 104 1 0) hl))) rfl ⟨by decide, by decide⟩ ⟨by decide, by decide⟩ (by show ¬ (1 = 0); decide) ?_
      refine zH_go 2 (c' := (36, [some (.inr (.inr (some 104))), some (.inl 2), some (.inl t), some (.inl n), none], [.inl 4, .inl n], (zs (zup h 104 1 0) hl))) rfl ?_
      refine zH_br (x := n) (y := 4) (k := .le) (c1 := (45, [some (.inr (.inr (some 104))), some (.inl 2), some (.inl t), some (.inl n), none], [], (zs (zup h 104 1 0) hl))) (c2 := (39, [some (.inr (.inr (some 104))), some (.inl 2), some (.inl t), some (.inl n), none], [], (zs (zup h 104 1 0) hl))) rfl (by first | assumption | (unfold zr; omega)) ⟨by decide, by decide⟩ (fun (b_5 : ¬ 4 < n) => ?_) (fun (b_5 : ¬ (¬ 4 < n)) => ?_)
      · refine zH_go 1 (c' := (46, [some (.inr (.inr (some 104))), some (.inl 2), some (.inl t), some (.inl n), none], [.inl n], (zs (zup h 104 1 0) hl))) rfl ?_
        refine zH_br (x := n) (y := 0) (k := .ge) (c1 := (56, [some (.inr (.inr (some 104))), some (.inl 2), some (.inl t), some (.inl n), none], [], (zs (zup h 104 1 0) hl))) (c2 := (49, [some (.inr (.inr (some 104))), some (.inl 2), some (.inl t), some (.inl n), none], [], (zs (zup h 104 1 0) hl))) rfl (by first | assumption | (unfold zr; omega)) ⟨by decide, by decide⟩ (fun (b_6 : ¬ n < 0) => ?_) (fun (b_6 : ¬ (¬ n < 0)) => ?_)
        · refine zH_go 4 (c' := (62, [some (.inr (.inr (some 104))), some (.inl 2), some (.inl t), some (.inl n), none], [.inl 1, .inl 2, .inr (.inr (some 119))], (zs (zup h 104 1 0) hl))) rfl ?_
          refine zH_np (P := (0 ≤ 2 ∧ 2 < ((3 : Nat) : Int)) ∧ (1 = 0 ∨ 1 = 1)) (c' := (63, [some (.inr (.inr (some 104))), some (.inl 2), some (.inl t), some (.inl n), none], [], (zs (zup (zup h 104 1 0) 119 2 1) hl))) rfl ⟨⟨by decide, by decide⟩, by decide⟩ ?_
          refine zH_go 4 (c' := (69, [some (.inr (.inr (some 104))), some (.inl 2), some (.inl t), some (.inl n), none], [.inl t, .inl 2, .inr (.inr (some 120))], (zs (zup (zup h 104 1 0) 119 2 1) hl))) rfl ?_
          refine zH_np (P := 0 ≤ 2 ∧ 2 < ((3 : Nat) : Int)) (c' := (70, [some (.inr (.inr (some 104))), some (.inl 2), some (.inl t), some (.inl n), none], [], (zs (zup (zup (zup h 104 1 0) 119 2 1) 120 2 t) hl))) rfl ⟨by decide, by decide⟩ ?_
          refine zH_go 4 (c' := (76, [some (.inr (.inr (some 104))), some (.inl 2), some (.inl t), some (.inl n), none], [.inl n, .inl 2, .inr (.inr (some 121))], (zs (zup (zup (zup h 104 1 0) 119 2 1) 120 2 t) hl))) rfl ?_
          refine zH_np (P := 0 ≤ 2 ∧ 2 < ((3 : Nat) : Int)) (c' := (77, [some (.inr (.inr (some 104))), some (.inl 2), some (.inl t), some (.inl n), none], [], (zs (zup (zup (zup (zup h 104 1 0) 119 2 1) 120 2 t) 121 2 n) hl))) rfl ⟨by decide, by decide⟩ ?_
          refine zH_go 4 (c' := (83, [some (.inr (.inr (some 104))), some (.inl 2), some (.inl t), some (.inl n), some (.inl 0)], [.inl 4, .inl 0], (zs (zup (zup (zup (zup h 104 1 0) 119 2 1) 120 2 t) 121 2 n) hl))) rfl ?_
          refine zH_bf (x := 0) (y := 4) (k := .ge) (c1 := (105, [some (.inr (.inr (some 104))), some (.inl 2), some (.inl t), some (.inl n), some (.inl 0)], [], (zs (zup (zup (zup (zup h 104 1 0) 119 2 1) 120 2 t) 121 2 n) hl))) (c2 := (86, [some (.inr (.inr (some 104))), some (.inl 2), some (.inl t), some (.inl n), some (.inl 0)], [], (zs (zup (zup (zup (zup h 104 1 0) 119 2 1) 120 2 t) 121 2 n) hl))) rfl ⟨by decide, by decide⟩ ⟨by decide, by decide⟩ (by show ¬ (¬ 0 < 4); decide) ?_
          refine zH_go 8 (c' := (98, [some (.inr (.inr (some 104))), some (.inl 2), some (.inl t), some (.inl n), some (.inl 0)], [.inl (-9), .inl 8, .inr (.inr (some 122))], (zs (zup (zup (zup (zup h 104 1 0) 119 2 1) 120 2 t) 121 2 n) hl))) rfl ?_
          refine zH_np (P := 0 ≤ 8 ∧ 8 < ((12 : Nat) : Int)) (c' := (99, [some (.inr (.inr (some 104))), some (.inl 2), some (.inl t), some (.inl n), some (.inl 0)], [], (zs (zup (zup (zup (zup (zup h 104 1 0) 119 2 1) 120 2 t) 121 2 n) 122 8 (-9)) hl))) rfl ⟨by decide, by decide⟩ ?_
          refine zH_go 4 (c' := (83, [some (.inr (.inr (some 104))), some (.inl 2), some (.inl t), some (.inl n), some (.inl 1)], [.inl 4, .inl 1], (zs (zup (zup (zup (zup (zup h 104 1 0) 119 2 1) 120 2 t) 121 2 n) 122 8 (-9)) hl))) rfl ?_
          refine zH_bf (x := 1) (y := 4) (k := .ge) (c1 := (105, [some (.inr (.inr (some 104))), some (.inl 2), some (.inl t), some (.inl n), some (.inl 1)], [], (zs (zup (zup (zup (zup (zup h 104 1 0) 119 2 1) 120 2 t) 121 2 n) 122 8 (-9)) hl))) (c2 := (86, [some (.inr (.inr (some 104))), some (.inl 2), some (.inl t), some (.inl n), some (.inl 1)], [], (zs (zup (zup (zup (zup (zup h 104 1 0) 119 2 1) 120 2 t) 121 2 n) 122 8 (-9)) hl))) rfl ⟨by decide, by decide⟩ ⟨by decide, by decide⟩ (by show ¬ (¬ 1 < 4); decide) ?_
          refine zH_go 8 (c' := (98, [some (.inr (.inr (some 104))), some (.inl 2), some (.inl t), some (.inl n), some (.inl 1)], [.inl (-9), .inl 9, .inr (.inr (some 122))], (zs (zup (zup (zup (zup (zup h 104 1 0) 119 2 1) 120 2 t) 121 2 n) 122 8 (-9)) hl))) rfl ?_
          refine zH_np (P := 0 ≤ 9 ∧ 9 < ((12 : Nat) : Int)) (c' := (99, [some (.inr (.inr (some 104))), some (.inl 2), some (.inl t), some (.inl n), some (.inl 1)], [], (zs (zup (zup (zup (zup (zup (zup h 104 1 0) 119 2 1) 120 2 t) 121 2 n) 122 8 (-9)) 122 9 (-9)) hl))) rfl ⟨by decide, by decide⟩ ?_
          refine zH_go 4 (c' := (83, [some (.inr (.inr (some 104))), some (.inl 2), some (.inl t), some (.inl n), some (.inl 2)], [.inl 4, .inl 2], (zs (zup (zup (zup (zup (zup (zup h 104 1 0) 119 2 1) 120 2 t) 121 2 n) 122 8 (-9)) 122 9 (-9)) hl))) rfl ?_
          refine zH_bf (x := 2) (y := 4) (k := .ge) (c1 := (105, [some (.inr (.inr (some 104))), some (.inl 2), some (.inl t), some (.inl n), some (.inl 2)], [], (zs (zup (zup (zup (zup (zup (zup h 104 1 0) 119 2 1) 120 2 t) 121 2 n) 122 8 (-9)) 122 9 (-9)) hl))) (c2 := (86, [some (.inr (.inr (some 104))), some (.inl 2), some (.inl t), some (.inl n), some (.inl 2)], [], (zs (zup (zup (zup (zup (zup (zup h 104 1 0) 119 2 1) 120 2 t) 121 2 n) 122 8 (-9)) 122 9 (-9)) hl))) rfl ⟨by decide, by decide⟩ ⟨by decide, by decide⟩ (by show ¬ (¬ 2 < 4); decide) ?_
          refine zH_go 8 (c' := (98, [some (.inr (.inr (some 104))), some (.inl 2), some (.inl t), some (.inl n), some (.inl 2)], [.inl (-9), .inl 10, .inr (.inr (some 122))], (zs (zup (zup (zup (zup (zup (zup h 104 1 0) 119 2 1) 120 2 t) 121 2 n) 122 8 (-9)) 122 9 (-9)) hl))) rfl ?_
          refine zH_np (P := 0 ≤ 10 ∧ 10 < ((12 : Nat) : Int)) (c' := (99, [some (.inr (.inr (some 104))), some (.inl 2), some (.inl t), some (.inl n), some (.inl 2)], [], (zs (zup (zup (zup (zup (zup (zup (zup h 104 1 0) 119 2 1) 120 2 t) 121 2 n) 122 8 (-9)) 122 9 (-9)) 122 10 (-9)) hl))) rfl ⟨by decide, by decide⟩ ?_
          refine zH_go 4 (c' := (83, [some (.inr (.inr (some 104))), some (.inl 2), some (.inl t), some (.inl n), some (.inl 3)], [.inl 4, .inl 3], (zs (zup (zup (zup (zup (zup (zup (zup h 104 1 0) 119 2 1) 120 2 t) 121 2 n) 122 8 (-9)) 122 9 (-9)) 122 10 (-9)) hl))) rfl ?_
          refine zH_bf (x := 3) (y := 4) (k := .ge) (c1 := (105, [some (.inr (.inr (some 104))), some (.inl 2), some (.inl t), some (.inl n), some (.inl 3)], [], (zs (zup (zup (zup (zup (zup (zup (zup h 104 1 0) 119 2 1) 120 2 t) 121 2 n) 122 8 (-9)) 122 9 (-9)) 122 10 (-9)) hl))) (c2 := (86, [some (.inr (.inr (some 104))), some (.inl 2), some (.inl t), some (.inl n), some (.inl 3)], [], (zs (zup (zup (zup (zup (zup (zup (zup h 104 1 0) 119 2 1) 120 2 t) 121 2 n) 122 8 (-9)) 122 9 (-9)) 122 10 (-9)) hl))) rfl ⟨by decide, by decide⟩ ⟨by decide, by decide⟩ (by show ¬ (¬ 3 < 4); decide) ?_
          refine zH_go 8 (c' := (98, [some (.inr (.inr (some 104))), some (.inl 2), some (.inl t), some (.inl n), some (.inl 3)], [.inl (-9), .inl 11, .inr (.inr (some 122))], (zs (zup (zup (zup (zup (zup (zup (zup h 104 1 0) 119 2 1) 120 2 t) 121 2 n) 122 8 (-9)) 122 9 (-9)) 122 10 (-9)) hl))) rfl ?_
          refine zH_np (P := 0 ≤ 11 ∧ 11 < ((12 : Nat) : Int)) (c' := (99, [some (.inr (.inr (some 104))), some (.inl 2), some (.inl t), some (.inl n), some (.inl 3)], [], (zs (zup (zup (zup (zup (zup (zup (zup (zup h 104 1 0) 119 2 1) 120 2 t) 121 2 n) 122 8 (-9)) 122 9 (-9)) 122 10 (-9)) 122 11 (-9)) hl))) rfl ⟨by decide, by decide⟩ ?_
          refine zH_go 4 (c' := (83, [some (.inr (.inr (some 104))), some (.inl 2), some (.inl t), some (.inl n), some (.inl 4)], [.inl 4, .inl 4], (zs (zup (zup (zup (zup (zup (zup (zup (zup h 104 1 0) 119 2 1) 120 2 t) 121 2 n) 122 8 (-9)) 122 9 (-9)) 122 10 (-9)) 122 11 (-9)) hl))) rfl ?_
          refine zH_bt (x := 4) (y := 4) (k := .ge) (c1 := (105, [some (.inr (.inr (some 104))), some (.inl 2), some (.inl t), some (.inl n), some (.inl 4)], [], (zs (zup (zup (zup (zup (zup (zup (zup (zup h 104 1 0) 119 2 1) 120 2 t) 121 2 n) 122 8 (-9)) 122 9 (-9)) 122 10 (-9)) 122 11 (-9)) hl))) (c2 := (86, [some (.inr (.inr (some 104))), some (.inl 2), some (.inl t), some (.inl n), some (.inl 4)], [], (zs (zup (zup (zup (zup (zup (zup (zup (zup h 104 1 0) 119 2 1) 120 2 t) 121 2 n) 122 8 (-9)) 122 9 (-9)) 122 10 (-9)) 122 11 (-9)) hl))) rfl ⟨by decide, by decide⟩ ⟨by decide, by decide⟩ (by show ¬ 4 < 4; decide) ?_
          refine zH_go 1 (c' := (106, [some (.inr (.inr (some 104))), some (.inl 2), some (.inl t), some (.inl n), some (.inl 4)], [.inl 1], (zs (zup (zup (zup (zup (zup (zup (zup (zup h 104 1 0) 119 2 1) 120 2 t) 121 2 n) 122 8 (-9)) 122 9 (-9)) 122 10 (-9)) 122 11 (-9)) hl))) rfl ?_
          refine zH_ret (v := some (.inl 1)) rfl (fun q => absurd q (by decide)) ?_
          exact Or.inr (Or.inr ⟨by omega, by omega, rfl, rfl⟩)
        · refine zH_go 2 (c' := (52, [some (.inr (.inr (some 104))), some (.inl 2), some (.inl t), some (.inl n), none], [.inl (-15), .inr (.inr (some 104))], (zs (zup h 104 1 0) hl))) rfl ?_
          refine zH_call (M' := 142) (as := [.inr (.inr (some 104)), .inl (-15)]) (T := []) rfl p_noO (fun r' σ' p_7 => ?_)
          obtain ⟨rfl, rfl⟩ := p_7
          show zH _ _ (55, [some (.inr (.inr (some 104))), some (.inl 2), some (.inl t), some (.inl n), none], [.inl (-15)], (zs (zup (zup h 104 1 0) 104 1 (-15)) hl)) _
          refine zH_ret (v := some (.inl (-15))) rfl (fun q => absurd q (by decide)) ?_
          exact Or.inr (Or.inl ⟨by omega, by omega, rfl, rfl⟩)
      · refine zH_go 2 (c' := (41, [some (.inr (.inr (some 104))), some (.inl 2), some (.inl t), some (.inl n), none], [.inl (-1), .inr (.inr (some 104))], (zs (zup h 104 1 0) hl))) rfl ?_
        refine zH_call (M' := 142) (as := [.inr (.inr (some 104)), .inl (-1)]) (T := []) rfl p_noO (fun r' σ' p_8 => ?_)
        obtain ⟨rfl, rfl⟩ := p_8
        show zH _ _ (44, [some (.inr (.inr (some 104))), some (.inl 2), some (.inl t), some (.inl n), none], [.inl (-1)], (zs (zup (zup h 104 1 0) 104 1 (-1)) hl)) _
        refine zH_ret (v := some (.inl (-1))) rfl (fun q => absurd q (by decide)) ?_
        exact Or.inl ⟨by omega, rfl, rfl⟩
    · show zH _ _ (31, [some (.inr (.inr (some 104))), some (.inl 2), some (.inl t), some (.inl n), none], [.inl 0], (zs (zup h 104 1 0) hl)) _
      refine zH_bt (x := 0) (y := 0) (k := .eq) (c1 := (39, [some (.inr (.inr (some 104))), some (.inl 2), some (.inl t), some (.inl n), none], [], (zs (zup h 104 1 0) hl))) (c2 := (34, [some (.inr (.inr (some 104))), some (.inl 2), some (.inl t), some (.inl n), none], [], (zs (zup h 104 1 0) hl))) rfl ⟨by decide, by decide⟩ ⟨by decide, by decide⟩ (by show 0 = 0; decide) ?_
      refine zH_go 2 (c' := (41, [some (.inr (.inr (some 104))), some (.inl 2), some (.inl t), some (.inl n), none], [.inl (-1), .inr (.inr (some 104))], (zs (zup h 104 1 0) hl))) rfl ?_
      refine zH_call (M' := 142) (as := [.inr (.inr (some 104)), .inl (-1)]) (T := []) rfl p_noO (fun r' σ' p_9 => ?_)
      obtain ⟨rfl, rfl⟩ := p_9
      show zH _ _ (44, [some (.inr (.inr (some 104))), some (.inl 2), some (.inl t), some (.inl n), none], [.inl (-1)], (zs (zup (zup h 104 1 0) 104 1 (-1)) hl)) _
      refine zH_ret (v := some (.inl (-1))) rfl (fun q => absurd q (by decide)) ?_
      exact Or.inl ⟨by omega, rfl, rfl⟩
  · exact absurd (by decide) b_2
set_option maxRecDepth 100000 in
set_option maxHeartbeats 4000000 in
theorem p_rowO2 {d : Nat} {h0 h hl : Nat → Nat → Int} (e0 : zup h0 104 0 0 = h) {r n : Int} (hr : zr r) (hn : zr n) (hB : zMbk h hl 2) : zQ (d + 2) 144 [.inr (.inr (some 104)), .inl 2, .inl r, .inl n] (zs h0 hl) (fun r' σ' => (8 < n ∧ r' = some (.inl (-1)) ∧ σ' = zs (zup (zup h 104 1 0) 104 1 (-1)) hl) ∨ (n ≤ 8 ∧ h 119 2 = 0 ∧ r' = some (.inl (-11)) ∧ σ' = zs (zup (zup h 104 1 0) 104 1 (-11)) hl) ∨ (n ≤ 8 ∧ ¬ h 119 2 = 0 ∧ ¬ (0 ≤ r ∧ r < h 121 2) ∧ r' = some (.inl (-12)) ∧ σ' = zs (zup (zup h 104 1 0) 104 1 (-12)) hl) ∨ (¬ h 119 2 = 0 ∧ (0 ≤ r ∧ r < h 121 2) ∧ n < 0 ∧ r' = some (.inl (-15)) ∧ σ' = zs (zup (zup h 104 1 0) 104 1 (-15)) hl) ∨ (¬ h 119 2 = 0 ∧ (0 ≤ r ∧ r < h 121 2) ∧ 0 ≤ n ∧ n ≤ 8 ∧ r' = some (.inl 1) ∧ σ' = zs (zup (zup h 104 1 0) 122 (8 + Int.toNat r) n) (zup (zup (zup (zup (zup (zup (zup (zup hl 123 (64 + 8 * Int.toNat r + 0) 0) 123 (64 + 8 * Int.toNat r + 1) 0) 123 (64 + 8 * Int.toNat r + 2) 0) 123 (64 + 8 * Int.toNat r + 3) 0) 123 (64 + 8 * Int.toNat r + 4) 0) 123 (64 + 8 * Int.toNat r + 5) 0) 123 (64 + 8 * Int.toNat r + 6) 0) 123 (64 + 8 * Int.toNat r + 7) 0))) := by
  obtain ⟨h119, h121, h120, h122, h123⟩ := hB
  refine zQ_of (Nat.le_of_ble_eq_true rfl) ?_
  show zH (d + 1) 144 (0, [some (.inr (.inr (some 104))), some (.inl 2), some (.inl r), some (.inl n), none], [], (zs h0 hl)) _
  refine zH_go 3 (c' := (5, [some (.inr (.inr (some 104))), some (.inl 2), some (.inl r), some (.inl n), none], [], (zs (zup h0 104 0 0) hl))) rfl ?_
  rw [e0]
  refine zH_go 4 (c' := (11, [some (.inr (.inr (some 104))), some (.inl 2), some (.inl r), some (.inl n), none], [.inl 2], (zs (zup h 104 1 0) hl))) rfl ?_
  refine zH_np (P := zr 2) (c' := (12, [some (.inr (.inr (some 104))), some (.inl 2), some (.inl r), some (.inl n), none], [.inr (.inl 2)], (zs (zup h 104 1 0) hl))) rfl ⟨by decide, by decide⟩ ?_
  refine zH_go 2 (c' := (16, [some (.inr (.inr (some 104))), some (.inl 2), some (.inl r), some (.inl n), none], [.inr (.inl 2), .inr (.inl 0), .inr (.inl 2)], (zs (zup h 104 1 0) hl))) rfl ?_
  refine zH_call (M' := 103) (as := [.inr (.inl 2), .inr (.inl 0), .inr (.inl 2)]) (T := []) rfl (p_in ⟨by decide, by decide⟩ ⟨by decide, by decide⟩ ⟨by decide, by decide⟩) (fun r σ' p_1 => ?_)
  rcases p_1 with ⟨rfl, b_2, rfl⟩ | ⟨rfl, b_2, rfl⟩
  · show zH _ _ (19, [some (.inr (.inr (some 104))), some (.inl 2), some (.inl r), some (.inl n), none], [.inl 1], (zs (zup h 104 1 0) hl)) _
    refine zH_bf (x := 1) (y := 0) (k := .eq) (c1 := (28, [some (.inr (.inr (some 104))), some (.inl 2), some (.inl r), some (.inl n), none], [], (zs (zup h 104 1 0) hl))) (c2 := (22, [some (.inr (.inr (some 104))), some (.inl 2), some (.inl r), some (.inl n), none], [], (zs (zup h 104 1 0) hl))) rfl ⟨by decide, by decide⟩ ⟨by decide, by decide⟩ (by show ¬ (1 = 0); decide) ?_
    refine zH_go 2 (c' := (25, [some (.inr (.inr (some 104))), some (.inl 2), some (.inl r), some (.inl n), none], [.inl 8, .inl n], (zs (zup h 104 1 0) hl))) rfl ?_
    refine zH_br (x := n) (y := 8) (k := .le) (c1 := (34, [some (.inr (.inr (some 104))), some (.inl 2), some (.inl r), some (.inl n), none], [], (zs (zup h 104 1 0) hl))) (c2 := (28, [some (.inr (.inr (some 104))), some (.inl 2), some (.inl r), some (.inl n), none], [], (zs (zup h 104 1 0) hl))) rfl (by first | assumption | (unfold zr; omega)) ⟨by decide, by decide⟩ (fun (b_3 : ¬ 8 < n) => ?_) (fun (b_3 : ¬ (¬ 8 < n)) => ?_)
    · refine zH_go 3 (c' := (39, [some (.inr (.inr (some 104))), some (.inl 2), some (.inl r), some (.inl n), none], [.inl 2, .inr (.inr (some 119))], (zs (zup h 104 1 0) hl))) rfl ?_
      refine zH_np (P := 0 ≤ 2 ∧ 2 < ((3 : Nat) : Int)) (c' := (40, [some (.inr (.inr (some 104))), some (.inl 2), some (.inl r), some (.inl n), none], [.inl (h 119 2)], (zs (zup h 104 1 0) hl))) rfl ⟨by decide, by decide⟩ ?_
      refine zH_br (x := (h 119 2)) (y := 0) (k := .ne) (c1 := (50, [some (.inr (.inr (some 104))), some (.inl 2), some (.inl r), some (.inl n), none], [], (zs (zup h 104 1 0) hl))) (c2 := (43, [some (.inr (.inr (some 104))), some (.inl 2), some (.inl r), some (.inl n), none], [], (zs (zup h 104 1 0) hl))) rfl (by first | assumption | (unfold zr; omega)) ⟨by decide, by decide⟩ (fun (b_4 : ¬ (h 119 2) = 0) => ?_) (fun (b_4 : ¬ (¬ (h 119 2) = 0)) => ?_)
      · refine zH_go 1 (c' := (51, [some (.inr (.inr (some 104))), some (.inl 2), some (.inl r), some (.inl n), none], [.inl r], (zs (zup h 104 1 0) hl))) rfl ?_
        refine zH_np (P := zr r) (c' := (52, [some (.inr (.inr (some 104))), some (.inl 2), some (.inl r), some (.inl n), none], [.inr (.inl r)], (zs (zup h 104 1 0) hl))) rfl (by first | assumption | (unfold zr; omega)) ?_
        refine zH_go 4 (c' := (58, [some (.inr (.inr (some 104))), some (.inl 2), some (.inl r), some (.inl n), none], [.inl 2, .inr (.inr (some 121)), .inr (.inl 0), .inr (.inl r)], (zs (zup h 104 1 0) hl))) rfl ?_
        refine zH_np (P := 0 ≤ 2 ∧ 2 < ((3 : Nat) : Int)) (c' := (59, [some (.inr (.inr (some 104))), some (.inl 2), some (.inl r), some (.inl n), none], [.inl (h 121 2), .inr (.inl 0), .inr (.inl r)], (zs (zup h 104 1 0) hl))) rfl ⟨by decide, by decide⟩ ?_
        refine zH_go 2 (c' := (61, [some (.inr (.inr (some 104))), some (.inl 2), some (.inl r), some (.inl n), none], [.inl ((h 121 2) - 1), .inr (.inl 0), .inr (.inl r)], (zs (zup h 104 1 0) hl))) rfl ?_
        refine zH_np (P := zr ((h 121 2) - 1)) (c' := (62, [some (.inr (.inr (some 104))), some (.inl 2), some (.inl r), some (.inl n), none], [.inr (.inl ((h 121 2) - 1)), .inr (.inl 0), .inr (.inl r)], (zs (zup h 104 1 0) hl))) rfl (by first | assumption | (unfold zr; omega)) ?_
        refine zH_call (M' := 103) (as := [.inr (.inl r), .inr (.inl 0), .inr (.inl ((h 121 2) - 1))]) (T := []) rfl (p_in (by first | assumption | exact zr_l (by assumption) | (unfold zrl; omega)) ⟨by decide, by decide⟩ (by first | assumption | exact zr_l (by assumption) | (unfold zrl; omega))) (fun r σ' p_5 => ?_)
        rcases p_5 with ⟨rfl, b_6, rfl⟩ | ⟨rfl, b_6, rfl⟩
        · show zH _ _ (65, [some (.inr (.inr (some 104))), some (.inl 2), some (.inl r), some (.inl n), none], [.inl 1], (zs (zup h 104 1 0) hl)) _
          refine zH_bt (x := 1) (y := 0) (k := .ne) (c1 := (75, [some (.inr (.inr (some 104))), some (.inl 2), some (.inl r), some (.inl n), none], [], (zs (zup h 104 1 0) hl))) (c2 := (68, [some (.inr (.inr (some 104))), some (.inl 2), some (.inl r), some (.inl n), none], [], (zs (zup h 104 1 0) hl))) rfl ⟨by decide, by decide⟩ ⟨by decide, by decide⟩ (by show ¬ 1 = 0; decide) ?_
          obtain ⟨R, rfl⟩ := Int.eq_ofNat_of_zero_le (show 0 ≤ r by omega)
          show zH _ _ (75, [some (.inr (.inr (some 104))), some (.inl 2), some (.inl (R : Int)), some (.inl n), none], [], (zs (zup h 104 1 0) hl)) _
          refine zH_go 1 (c' := (76, [some (.inr (.inr (some 104))), some (.inl 2), some (.inl (R : Int)), some (.inl n), none], [.inl n], (zs (zup h 104 1 0) hl))) rfl ?_
          refine zH_br (x := n) (y := 0) (k := .ge) (c1 := (86, [some (.inr (.inr (some 104))), some (.inl 2), some (.inl (R : Int)), some (.inl n), none], [], (zs (zup h 104 1 0) hl))) (c2 := (79, [some (.inr (.inr (some 104))), some (.inl 2), some (.inl (R : Int)), some (.inl n), none], [], (zs (zup h 104 1 0) hl))) rfl (by first | assumption | (unfold zr; omega)) ⟨by decide, by decide⟩ (fun (b_7 : ¬ n < 0) => ?_) (fun (b_7 : ¬ (¬ n < 0)) => ?_)
          · refine zH_go 8 (c' := (96, [some (.inr (.inr (some 104))), some (.inl 2), some (.inl (R : Int)), some (.inl n), none], [.inl n, .inl (8 + (R : Int)), .inr (.inr (some 122))], (zs (zup h 104 1 0) hl))) rfl ?_
            refine zH_np (P := 0 ≤ (8 + (R : Int)) ∧ (8 + (R : Int)) < ((12 : Nat) : Int)) (c' := (97, [some (.inr (.inr (some 104))), some (.inl 2), some (.inl (R : Int)), some (.inl n), none], [], (zs (zup (zup h 104 1 0) 122 (8 + R) n) hl))) rfl ⟨by omega, by omega⟩ ?_
            refine zH_go 4 (c' := (104, [some (.inr (.inr (some 104))), some (.inl 2), some (.inl (R : Int)), some (.inl n), some (.inl 0)], [.inl 8, .inl 0], (zs (zup (zup h 104 1 0) 122 (8 + R) n) hl))) rfl ?_
            refine zH_bf (x := 0) (y := 8) (k := .ge) (c1 := (131, [some (.inr (.inr (some 104))), some (.inl 2), some (.inl (R : Int)), some (.inl n), some (.inl 0)], [], (zs (zup (zup h 104 1 0) 122 (8 + R) n) hl))) (c2 := (107, [some (.inr (.inr (some 104))), some (.inl 2), some (.inl (R : Int)), some (.inl n), some (.inl 0)], [], (zs (zup (zup h 104 1 0) 122 (8 + R) n) hl))) rfl ⟨by decide, by decide⟩ ⟨by decide, by decide⟩ (by show ¬ (¬ 0 < 8); decide) ?_
            refine zH_go 12 (c' := (124, [some (.inr (.inr (some 104))), some (.inl 2), some (.inl (R : Int)), some (.inl n), some (.inl 0)], [.inr (.inl 0), .inl ((64 + (8 * (R : Int))) + 0), .inr (.inr (some 123))], (zs (zup (zup h 104 1 0) 122 (8 + R) n) hl))) rfl ?_
            refine zH_np (P := 0 ≤ ((64 + (8 * (R : Int))) + 0) ∧ ((64 + (8 * (R : Int))) + 0) < ((96 : Nat) : Int)) (c' := (125, [some (.inr (.inr (some 104))), some (.inl 2), some (.inl (R : Int)), some (.inl n), some (.inl 0)], [], (zs (zup (zup h 104 1 0) 122 (8 + R) n) (zup hl 123 ((64 + (8 * R)) + 0) 0)))) rfl ⟨by omega, by omega⟩ ?_
            refine zH_go 4 (c' := (104, [some (.inr (.inr (some 104))), some (.inl 2), some (.inl (R : Int)), some (.inl n), some (.inl 1)], [.inl 8, .inl 1], (zs (zup (zup h 104 1 0) 122 (8 + R) n) (zup hl 123 ((64 + (8 * R)) + 0) 0)))) rfl ?_
            refine zH_bf (x := 1) (y := 8) (k := .ge) (c1 := (131, [some (.inr (.inr (some 104))), some (.inl 2), some (.inl (R : Int)), some (.inl n), some (.inl 1)], [], (zs (zup (zup h 104 1 0) 122 (8 + R) n) (zup hl 123 ((64 + (8 * R)) + 0) 0)))) (c2 := (107, [some (.inr (.inr (some 104))), some (.inl 2), some (.inl (R : Int)), some (.inl n), some (.inl 1)], [], (zs (zup (zup h 104 1 0) 122 (8 + R) n) (zup hl 123 ((64 + (8 * R)) + 0) 0)))) rfl ⟨by decide, by decide⟩ ⟨by decide, by decide⟩ (by show ¬ (¬ 1 < 8); decide) ?_
            refine zH_go 12 (c' := (124, [some (.inr (.inr (some 104))), some (.inl 2), some (.inl (R : Int)), some (.inl n), some (.inl 1)], [.inr (.inl 0), .inl ((64 + (8 * (R : Int))) + 1), .inr (.inr (some 123))], (zs (zup (zup h 104 1 0) 122 (8 + R) n) (zup hl 123 ((64 + (8 * R)) + 0) 0)))) rfl ?_
            refine zH_np (P := 0 ≤ ((64 + (8 * (R : Int))) + 1) ∧ ((64 + (8 * (R : Int))) + 1) < ((96 : Nat) : Int)) (c' := (125, [some (.inr (.inr (some 104))), some (.inl 2), some (.inl (R : Int)), some (.inl n), some (.inl 1)], [], (zs (zup (zup h 104 1 0) 122 (8 + R) n) (zup (zup hl 123 ((64 + (8 * R)) + 0) 0) 123 ((64 + (8 * R)) + 1) 0)))) rfl ⟨by omega, by omega⟩ ?_
            refine zH_go 4 (c' := (104, [some (.inr (.inr (some 104))), some (.inl 2), some (.inl (R : Int)), some (.inl n), some (.inl 2)], [.inl 8, .inl 2], (zs (zup (zup h 104 1 0) 122 (8 + R) n) (zup (zup hl 123 ((64 + (8 * R)) + 0) 0) 123 ((64 + (8 * R)) + 1) 0)))) rfl ?_
            refine zH_bf (x := 2) (y := 8) (k := .ge) (c1 := (131, [some (.inr (.inr (some 104))), some (.inl 2), some (.inl (R : Int)), some (.inl n), some (.inl 2)], [], (zs (zup (zup h 104 1 0) 122 (8 + R) n) (zup (zup hl 123 ((64 + (8 * R)) + 0) 0) 123 ((64 + (8 * R)) + 1) 0)))) (c2 := (107, [some (.inr (.inr (some 104))), some (.inl 2), some (.inl (R : Int)), some (.inl n), some (.inl 2)], [], (zs (zup (zup h 104 1 0) 122 (8 + R) n) (zup (zup hl 123 ((64 + (8 * R)) + 0) 0) 123 ((64 + (8 * R)) + 1) 0)))) rfl ⟨by decide, by decide⟩ ⟨by decide, by decide⟩ (by show ¬ (¬ 2 < 8); decide) ?_
            refine zH_go 12 (c' := (124, [some (.inr (.inr (some 104))), some (.inl 2), some (.inl (R : Int)), some (.inl n), some (.inl 2)], [.inr (.inl 0), .inl ((64 + (8 * (R : Int))) + 2), .inr (.inr (some 123))], (zs (zup (zup h 104 1 0) 122 (8 + R) n) (zup (zup hl 123 ((64 + (8 * R)) + 0) 0) 123 ((64 + (8 * R)) + 1) 0)))) rfl ?_
            refine zH_np (P := 0 ≤ ((64 + (8 * (R : Int))) + 2) ∧ ((64 + (8 * (R : Int))) + 2) < ((96 : Nat) : Int)) (c' := (125, [some (.inr (.inr (some 104))), some (.inl 2), some (.inl (R : Int)), some (.inl n), some (.inl 2)], [], (zs (zup (zup h 104 1 0) 122 (8 + R) n) (zup (zup (zup hl 123 ((64 + (8 * R)) + 0) 0) 123 ((64 + (8 * R)) + 1) 0) 123 ((64 + (8 * R)) + 2) 0)))) rfl ⟨by omega, by omega⟩ ?_
            refine zH_go 4 (c' := (104, [some (.inr (.inr (some 104))), some (.inl 2), some (.inl (R : Int)), some (.inl n), some (.inl 3)], [.inl 8, .inl 3], (zs (zup (zup h 104 1 0) 122 (8 + R) n) (zup (zup (zup hl 123 ((64 + (8 * R)) + 0) 0) 123 ((64 + (8 * R)) + 1) 0) 123 ((64 + (8 * R)) + 2) 0)))) rfl ?_
            refine zH_bf (x := 3) (y := 8) (k := .ge) (c1 := (131, [some (.inr (.inr (some 104))), some (.inl 2), some (.inl (R : Int)), some (.inl n), some (.inl 3)], [], (zs (zup (zup h 104 1 0) 122 (8 + R) n) (zup (zup (zup hl 123 ((64 + (8 * R)) + 0) 0) 123 ((64 + (8 * R)) + 1) 0) 123 ((64 + (8 * R)) + 2) 0)))) (c2 := (107, [some (.inr (.inr (some 104))), some (.inl 2), some (.inl (R : Int)), some (.inl n), some (.inl 3)], [], (zs (zup (zup h 104 1 0) 122 (8 + R) n) (zup (zup (zup hl 123 ((64 + (8 * R)) + 0) 0) 123 ((64 + (8 * R)) + 1) 0) 123 ((64 + (8 * R)) + 2) 0)))) rfl ⟨by decide, by decide⟩ ⟨by decide, by decide⟩ (by show ¬ (¬ 3 < 8); decide) ?_
            refine zH_go 12 (c' := (124, [some (.inr (.inr (some 104))), some (.inl 2), some (.inl (R : Int)), some (.inl n), some (.inl 3)], [.inr (.inl 0), .inl ((64 + (8 * (R : Int))) + 3), .inr (.inr (some 123))], (zs (zup (zup h 104 1 0) 122 (8 + R) n) (zup (zup (zup hl 123 ((64 + (8 * R)) + 0) 0) 123 ((64 + (8 * R)) + 1) 0) 123 ((64 + (8 * R)) + 2) 0)))) rfl ?_
            refine zH_np (P := 0 ≤ ((64 + (8 * (R : Int))) + 3) ∧ ((64 + (8 * (R : Int))) + 3) < ((96 : Nat) : Int)) (c' := (125, [some (.inr (.inr (some 104))), some (.inl 2), some (.inl (R : Int)), some (.inl n), some (.inl 3)], [], (zs (zup (zup h 104 1 0) 122 (8 + R) n) (zup (zup (zup (zup hl 123 ((64 + (8 * R)) + 0) 0) 123 ((64 + (8 * R)) + 1) 0) 123 ((64 + (8 * R)) + 2) 0) 123 ((64 + (8 * R)) + 3) 0)))) rfl ⟨by omega, by omega⟩ ?_
            refine zH_go 4 (c' := (104, [some (.inr (.inr (some 104))), some (.inl 2), some (.inl (R : Int)), some (.inl n), some (.inl 4)], [.inl 8, .inl 4], (zs (zup (zup h 104 1 0) 122 (8 + R) n) (zup (zup (zup (zup hl 123 ((64 + (8 * R)) + 0) 0) 123 ((64 + (8 * R)) + 1) 0) 123 ((64 + (8 * R)) + 2) 0) 123 ((64 + (8 * R)) + 3) 0)))) rfl ?_
            refine zH_bf (x := 4) (y := 8) (k := .ge) (c1 := (131, [some (.inr (.inr (some 104))), some (.inl 2), some (.inl (R : Int)), some (.inl n), some (.inl 4)], [], (zs (zup (zup h 104 1 0) 122 (8 + R) n) (zup (zup (zup (zup hl 123 ((64 + (8 * R)) + 0) 0) 123 ((64 + (8 * R)) + 1) 0) 123 ((64 + (8 * R)) + 2) 0) 123 ((64 + (8 * R)) + 3) 0)))) (c2 := (107, [some (.inr (.inr (some 104))), some (.inl 2), some (.inl (R : Int)), some (.inl n), some (.inl 4)], [], (zs (zup (zup h 104 1 0) 122 (8 + R) n) (zup (zup (zup (zup hl 123 ((64 + (8 * R)) + 0) 0) 123 ((64 + (8 * R)) + 1) 0) 123 ((64 + (8 * R)) + 2) 0) 123 ((64 + (8 * R)) + 3) 0)))) rfl ⟨by decide, by decide⟩ ⟨by decide, by decide⟩ (by show ¬ (¬ 4 < 8); decide) ?_
            refine zH_go 12 (c' := (124, [some (.inr (.inr (some 104))), some (.inl 2), some (.inl (R : Int)), some (.inl n), some (.inl 4)], [.inr (.inl 0), .inl ((64 + (8 * (R : Int))) + 4), .inr (.inr (some 123))], (zs (zup (zup h 104 1 0) 122 (8 + R) n) (zup (zup (zup (zup hl 123 ((64 + (8 * R)) + 0) 0) 123 ((64 + (8 * R)) + 1) 0) 123 ((64 + (8 * R)) + 2) 0) 123 ((64 + (8 * R)) + 3) 0)))) rfl ?_
            refine zH_np (P := 0 ≤ ((64 + (8 * (R : Int))) + 4) ∧ ((64 + (8 * (R : Int))) + 4) < ((96 : Nat) : Int)) (c' := (125, [some (.inr (.inr (some 104))), some (.inl 2), some (.inl (R : Int)), some (.inl n), some (.inl 4)], [], (zs (zup (zup h 104 1 0) 122 (8 + R) n) (zup (zup (zup (zup (zup hl 123 ((64 + (8 * R)) + 0) 0) 123 ((64 + (8 * R)) + 1) 0) 123 ((64 + (8 * R)) + 2) 0) 123 ((64 + (8 * R)) + 3) 0) 123 ((64 + (8 * R)) + 4) 0)))) rfl ⟨by omega, by omega⟩ ?_
            refine zH_go 4 (c' := (104, [some (.inr (.inr (some 104))), some (.inl 2), some (.inl (R : Int)), some (.inl n), some (.inl 5)], [.inl 8, .inl 5], (zs (zup (zup h 104 1 0) 122 (8 + R) n) (zup (zup (zup (zup (zup hl 123 ((64 + (8 * R)) + 0) 0) 123 ((64 + (8 * R)) + 1) 0) 123 ((64 + (8 * R)) + 2) 0) 123 ((64 + (8 * R)) + 3) 0) 123 ((64 + (8 * R)) + 4) 0)))) rfl ?_
            refine zH_bf (x := 5) (y := 8) (k := .ge) (c1 := (131, [some (.inr (.inr (some 104))), some (.inl 2), some (.inl (R : Int)), some (.inl n), some (.inl 5)], [], (zs (zup (zup h 104 1 0) 122 (8 + R) n) (zup (zup (zup (zup (zup hl 123 ((64 + (8 * R)) + 0) 0) 123 ((64 + (8 * R)) + 1) 0) 123 ((64 + (8 * R)) + 2) 0) 123 ((64 + (8 * R)) + 3) 0) 123 ((64 + (8 * R)) + 4) 0)))) (c2 := (107, [some (.inr (.inr (some 104))), some (.inl 2), some (.inl (R : Int)), some (.inl n), some (.inl 5)], [], (zs (zup (zup h 104 1 0) 122 (8 + R) n) (zup (zup (zup (zup (zup hl 123 ((64 + (8 * R)) + 0) 0) 123 ((64 + (8 * R)) + 1) 0) 123 ((64 + (8 * R)) + 2) 0) 123 ((64 + (8 * R)) + 3) 0) 123 ((64 + (8 * R)) + 4) 0)))) rfl ⟨by decide, by decide⟩ ⟨by decide, by decide⟩ (by show ¬ (¬ 5 < 8); decide) ?_
            refine zH_go 12 (c' := (124, [some (.inr (.inr (some 104))), some (.inl 2), some (.inl (R : Int)), some (.inl n), some (.inl 5)], [.inr (.inl 0), .inl ((64 + (8 * (R : Int))) + 5), .inr (.inr (some 123))], (zs (zup (zup h 104 1 0) 122 (8 + R) n) (zup (zup (zup (zup (zup hl 123 ((64 + (8 * R)) + 0) 0) 123 ((64 + (8 * R)) + 1) 0) 123 ((64 + (8 * R)) + 2) 0) 123 ((64 + (8 * R)) + 3) 0) 123 ((64 + (8 * R)) + 4) 0)))) rfl ?_
            refine zH_np (P := 0 ≤ ((64 + (8 * (R : Int))) + 5) ∧ ((64 + (8 * (R : Int))) + 5) < ((96 : Nat) : Int)) (c' := (125, [some (.inr (.inr (some 104))), some (.inl 2), some (.inl (R : Int)), some (.inl n), some (.inl 5)], [], (zs (zup (zup h 104 1 0) 122 (8 + R) n) (zup (zup (zup (zup (zup (zup hl 123 ((64 + (8 * R)) + 0) 0) 123 ((64 + (8 * R)) + 1) 0) 123 ((64 + (8 * R)) + 2) 0) 123 ((64 + (8 * R)) + 3) 0) 123 ((64 + (8 * R)) + 4) 0) 123 ((64 + (8 * R)) + 5) 0)))) rfl ⟨by omega, by omega⟩ ?_
            refine zH_go 4 (c' := (104, [some (.inr (.inr (some 104))), some (.inl 2), some (.inl (R : Int)), some (.inl n), some (.inl 6)], [.inl 8, .inl 6], (zs (zup (zup h 104 1 0) 122 (8 + R) n) (zup (zup (zup (zup (zup (zup hl 123 ((64 + (8 * R)) + 0) 0) 123 ((64 + (8 * R)) + 1) 0) 123 ((64 + (8 * R)) + 2) 0) 123 ((64 + (8 * R)) + 3) 0) 123 ((64 + (8 * R)) + 4) 0) 123 ((64 + (8 * R)) + 5) 0)))) rfl ?_
            refine zH_bf (x := 6) (y := 8) (k := .ge) (c1 := (131, [some (.inr (.inr (some 104))), some (.inl 2), some (.inl (R : Int)), some (.inl n), some (.inl 6)], [], (zs (zup (zup h 104 1 0) 122 (8 + R) n) (zup (zup (zup (zup (zup (zup hl 123 ((64 + (8 * R)) + 0) 0) 123 ((64 + (8 * R)) + 1) 0) 123 ((64 + (8 * R)) + 2) 0) 123 ((64 + (8 * R)) + 3) 0) 123 ((64 + (8 * R)) + 4) 0) 123 ((64 + (8 * R)) + 5) 0)))) (c2 := (107, [some (.inr (.inr (some 104))), some (.inl 2), some (.inl (R : Int)), some (.inl n), some (.inl 6)], [], (zs (zup (zup h 104 1 0) 122 (8 + R) n) (zup (zup (zup (zup (zup (zup hl 123 ((64 + (8 * R)) + 0) 0) 123 ((64 + (8 * R)) + 1) 0) 123 ((64 + (8 * R)) + 2) 0) 123 ((64 + (8 * R)) + 3) 0) 123 ((64 + (8 * R)) + 4) 0) 123 ((64 + (8 * R)) + 5) 0)))) rfl ⟨by decide, by decide⟩ ⟨by decide, by decide⟩ (by show ¬ (¬ 6 < 8); decide) ?_
            refine zH_go 12 (c' := (124, [some (.inr (.inr (some 104))), some (.inl 2), some (.inl (R : Int)), some (.inl n), some (.inl 6)], [.inr (.inl 0), .inl ((64 + (8 * (R : Int))) + 6), .inr (.inr (some 123))], (zs (zup (zup h 104 1 0) 122 (8 + R) n) (zup (zup (zup (zup (zup (zup hl 123 ((64 + (8 * R)) + 0) 0) 123 ((64 + (8 * R)) + 1) 0) 123 ((64 + (8 * R)) + 2) 0) 123 ((64 + (8 * R)) + 3) 0) 123 ((64 + (8 * R)) + 4) 0) 123 ((64 + (8 * R)) + 5) 0)))) rfl ?_
            refine zH_np (P := 0 ≤ ((64 + (8 * (R : Int))) + 6) ∧ ((64 + (8 * (R : Int))) + 6) < ((96 : Nat) : Int)) (c' := (125, [some (.inr (.inr (some 104))), some (.inl 2), some (.inl (R : Int)), some (.inl n), some (.inl 6)], [], (zs (zup (zup h 104 1 0) 122 (8 + R) n) (zup (zup (zup (zup (zup (zup (zup hl 123 ((64 + (8 * R)) + 0) 0) 123 ((64 + (8 * R)) + 1) 0) 123 ((64 + (8 * R)) + 2) 0) 123 ((64 + (8 * R)) + 3) 0) 123 ((64 + (8 * R)) + 4) 0) 123 ((64 + (8 * R)) + 5) 0) 123 ((64 + (8 * R)) + 6) 0)))) rfl ⟨by omega, by omega⟩ ?_
            refine zH_go 4 (c' := (104, [some (.inr (.inr (some 104))), some (.inl 2), some (.inl (R : Int)), some (.inl n), some (.inl 7)], [.inl 8, .inl 7], (zs (zup (zup h 104 1 0) 122 (8 + R) n) (zup (zup (zup (zup (zup (zup (zup hl 123 ((64 + (8 * R)) + 0) 0) 123 ((64 + (8 * R)) + 1) 0) 123 ((64 + (8 * R)) + 2) 0) 123 ((64 + (8 * R)) + 3) 0) 123 ((64 + (8 * R)) + 4) 0) 123 ((64 + (8 * R)) + 5) 0) 123 ((64 + (8 * R)) + 6) 0)))) rfl ?_
            refine zH_bf (x := 7) (y := 8) (k := .ge) (c1 := (131, [some (.inr (.inr (some 104))), some (.inl 2), some (.inl (R : Int)), some (.inl n), some (.inl 7)], [], (zs (zup (zup h 104 1 0) 122 (8 + R) n) (zup (zup (zup (zup (zup (zup (zup hl 123 ((64 + (8 * R)) + 0) 0) 123 ((64 + (8 * R)) + 1) 0) 123 ((64 + (8 * R)) + 2) 0) 123 ((64 + (8 * R)) + 3) 0) 123 ((64 + (8 * R)) + 4) 0) 123 ((64 + (8 * R)) + 5) 0) 123 ((64 + (8 * R)) + 6) 0)))) (c2 := (107, [some (.inr (.inr (some 104))), some (.inl 2), some (.inl (R : Int)), some (.inl n), some (.inl 7)], [], (zs (zup (zup h 104 1 0) 122 (8 + R) n) (zup (zup (zup (zup (zup (zup (zup hl 123 ((64 + (8 * R)) + 0) 0) 123 ((64 + (8 * R)) + 1) 0) 123 ((64 + (8 * R)) + 2) 0) 123 ((64 + (8 * R)) + 3) 0) 123 ((64 + (8 * R)) + 4) 0) 123 ((64 + (8 * R)) + 5) 0) 123 ((64 + (8 * R)) + 6) 0)))) rfl ⟨by decide, by decide⟩ ⟨by decide, by decide⟩ (by show ¬ (¬ 7 < 8); decide) ?_
            refine zH_go 12 (c' := (124, [some (.inr (.inr (some 104))), some (.inl 2), some (.inl (R : Int)), some (.inl n), some (.inl 7)], [.inr (.inl 0), .inl ((64 + (8 * (R : Int))) + 7), .inr (.inr (some 123))], (zs (zup (zup h 104 1 0) 122 (8 + R) n) (zup (zup (zup (zup (zup (zup (zup hl 123 ((64 + (8 * R)) + 0) 0) 123 ((64 + (8 * R)) + 1) 0) 123 ((64 + (8 * R)) + 2) 0) 123 ((64 + (8 * R)) + 3) 0) 123 ((64 + (8 * R)) + 4) 0) 123 ((64 + (8 * R)) + 5) 0) 123 ((64 + (8 * R)) + 6) 0)))) rfl ?_
            refine zH_np (P := 0 ≤ ((64 + (8 * (R : Int))) + 7) ∧ ((64 + (8 * (R : Int))) + 7) < ((96 : Nat) : Int)) (c' := (125, [some (.inr (.inr (some 104))), some (.inl 2), some (.inl (R : Int)), some (.inl n), some (.inl 7)], [], (zs (zup (zup h 104 1 0) 122 (8 + R) n) (zup (zup (zup (zup (zup (zup (zup (zup hl 123 ((64 + (8 * R)) + 0) 0) 123 ((64 + (8 * R)) + 1) 0) 123 ((64 + (8 * R)) + 2) 0) 123 ((64 + (8 * R)) + 3) 0) 123 ((64 + (8 * R)) + 4) 0) 123 ((64 + (8 * R)) + 5) 0) 123 ((64 + (8 * R)) + 6) 0) 123 ((64 + (8 * R)) + 7) 0)))) rfl ⟨by omega, by omega⟩ ?_
            refine zH_go 4 (c' := (104, [some (.inr (.inr (some 104))), some (.inl 2), some (.inl (R : Int)), some (.inl n), some (.inl 8)], [.inl 8, .inl 8], (zs (zup (zup h 104 1 0) 122 (8 + R) n) (zup (zup (zup (zup (zup (zup (zup (zup hl 123 ((64 + (8 * R)) + 0) 0) 123 ((64 + (8 * R)) + 1) 0) 123 ((64 + (8 * R)) + 2) 0) 123 ((64 + (8 * R)) + 3) 0) 123 ((64 + (8 * R)) + 4) 0) 123 ((64 + (8 * R)) + 5) 0) 123 ((64 + (8 * R)) + 6) 0) 123 ((64 + (8 * R)) + 7) 0)))) rfl ?_
            refine zH_bt (x := 8) (y := 8) (k := .ge) (c1 := (131, [some (.inr (.inr (some 104))), some (.inl 2), some (.inl (R : Int)), some (.inl n), some (.inl 8)], [], (zs (zup (zup h 104 1 0) 122 (8 + R) n) (zup (zup (zup (zup (zup (zup (zup (zup hl 123 ((64 + (8 * R)) + 0) 0) 123 ((64 + (8 * R)) + 1) 0) 123 ((64 + (8 * R)) + 2) 0) 123 ((64 + (8 * R)) + 3) 0) 123 ((64 + (8 * R)) + 4) 0) 123 ((64 + (8 * R)) + 5) 0) 123 ((64 + (8 * R)) + 6) 0) 123 ((64 + (8 * R)) + 7) 0)))) (c2 := (107, [some (.inr (.inr (some 104))), some (.inl 2), some (.inl (R : Int)), some (.inl n), some (.inl 8)], [], (zs (zup (zup h 104 1 0) 122 (8 + R) n) (zup (zup (zup (zup (zup (zup (zup (zup hl 123 ((64 + (8 * R)) + 0) 0) 123 ((64 + (8 * R)) + 1) 0) 123 ((64 + (8 * R)) + 2) 0) 123 ((64 + (8 * R)) + 3) 0) 123 ((64 + (8 * R)) + 4) 0) 123 ((64 + (8 * R)) + 5) 0) 123 ((64 + (8 * R)) + 6) 0) 123 ((64 + (8 * R)) + 7) 0)))) rfl ⟨by decide, by decide⟩ ⟨by decide, by decide⟩ (by show ¬ 8 < 8; decide) ?_
            refine zH_go 1 (c' := (132, [some (.inr (.inr (some 104))), some (.inl 2), some (.inl (R : Int)), some (.inl n), some (.inl 8)], [.inl 1], (zs (zup (zup h 104 1 0) 122 (8 + R) n) (zup (zup (zup (zup (zup (zup (zup (zup hl 123 ((64 + (8 * R)) + 0) 0) 123 ((64 + (8 * R)) + 1) 0) 123 ((64 + (8 * R)) + 2) 0) 123 ((64 + (8 * R)) + 3) 0) 123 ((64 + (8 * R)) + 4) 0) 123 ((64 + (8 * R)) + 5) 0) 123 ((64 + (8 * R)) + 6) 0) 123 ((64 + (8 * R)) + 7) 0)))) rfl ?_
            refine zH_ret (v := some (.inl 1)) rfl (fun q => absurd q (by decide)) ?_
            exact Or.inr (Or.inr (Or.inr (Or.inr ⟨by omega, by omega, by omega, by omega, rfl, by rw [Int.toNat_natCast]⟩)))
          · refine zH_go 2 (c' := (82, [some (.inr (.inr (some 104))), some (.inl 2), some (.inl (R : Int)), some (.inl n), none], [.inl (-15), .inr (.inr (some 104))], (zs (zup h 104 1 0) hl))) rfl ?_
            refine zH_call (M' := 142) (as := [.inr (.inr (some 104)), .inl (-15)]) (T := []) rfl p_noO (fun r' σ' p_8 => ?_)
            obtain ⟨rfl, rfl⟩ := p_8
            show zH _ _ (85, [some (.inr (.inr (some 104))), some (.inl 2), some (.inl (R : Int)), some (.inl n), none], [.inl (-15)], (zs (zup (zup h 104 1 0) 104 1 (-15)) hl)) _
            refine zH_ret (v := some (.inl (-15))) rfl (fun q => absurd q (by decide)) ?_
            exact Or.inr (Or.inr (Or.inr (Or.inl ⟨by omega, by omega, by omega, rfl, rfl⟩)))
        · show zH _ _ (65, [some (.inr (.inr (some 104))), some (.inl 2), some (.inl r), some (.inl n), none], [.inl 0], (zs (zup h 104 1 0) hl)) _
          refine zH_bf (x := 0) (y := 0) (k := .ne) (c1 := (75, [some (.inr (.inr (some 104))), some (.inl 2), some (.inl r), some (.inl n), none], [], (zs (zup h 104 1 0) hl))) (c2 := (68, [some (.inr (.inr (some 104))), some (.inl 2), some (.inl r), some (.inl n), none], [], (zs (zup h 104 1 0) hl))) rfl ⟨by decide, by decide⟩ ⟨by decide, by decide⟩ (by show ¬ (¬ 0 = 0); decide) ?_
          refine zH_go 2 (c' := (71, [some (.inr (.inr (some 104))), some (.inl 2), some (.inl r), some (.inl n), none], [.inl (-12), .inr (.inr (some 104))], (zs (zup h 104 1 0) hl))) rfl ?_
          refine zH_call (M' := 142) (as := [.inr (.inr (some 104)), .inl (-12)]) (T := []) rfl p_noO (fun r' σ' p_9 => ?_)
          obtain ⟨rfl, rfl⟩ := p_9
          show zH _ _ (74, [some (.inr (.inr (some 104))), some (.inl 2), some (.inl r), some (.inl n), none], [.inl (-12)], (zs (zup (zup h 104 1 0) 104 1 (-12)) hl)) _
          refine zH_ret (v := some (.inl (-12))) rfl (fun q => absurd q (by decide)) ?_
          exact Or.inr (Or.inr (Or.inl ⟨by omega, by omega, by omega, rfl, rfl⟩))
      · refine zH_go 2 (c' := (46, [some (.inr (.inr (some 104))), some (.inl 2), some (.inl r), some (.inl n), none], [.inl (-11), .inr (.inr (some 104))], (zs (zup h 104 1 0) hl))) rfl ?_
        refine zH_call (M' := 142) (as := [.inr (.inr (some 104)), .inl (-11)]) (T := []) rfl p_noO (fun r' σ' p_10 => ?_)
        obtain ⟨rfl, rfl⟩ := p_10
        show zH _ _ (49, [some (.inr (.inr (some 104))), some (.inl 2), some (.inl r), some (.inl n), none], [.inl (-11)], (zs (zup (zup h 104 1 0) 104 1 (-11)) hl)) _
        refine zH_ret (v := some (.inl (-11))) rfl (fun q => absurd q (by decide)) ?_
        exact Or.inr (Or.inl ⟨by omega, by omega, rfl, rfl⟩)
    · refine zH_go 2 (c' := (30, [some (.inr (.inr (some 104))), some (.inl 2), some (.inl r), some (.inl n), none], [.inl (-1), .inr (.inr (some 104))], (zs (zup h 104 1 0) hl))) rfl ?_
      refine zH_call (M' := 142) (as := [.inr (.inr (some 104)), .inl (-1)]) (T := []) rfl p_noO (fun r' σ' p_11 => ?_)
      obtain ⟨rfl, rfl⟩ := p_11
      show zH _ _ (33, [some (.inr (.inr (some 104))), some (.inl 2), some (.inl r), some (.inl n), none], [.inl (-1)], (zs (zup (zup h 104 1 0) 104 1 (-1)) hl)) _
      refine zH_ret (v := some (.inl (-1))) rfl (fun q => absurd q (by decide)) ?_
      exact Or.inl ⟨by omega, rfl, rfl⟩
  · exact absurd (by decide) b_2
set_option maxRecDepth 100000 in
set_option maxHeartbeats 4000000 in
theorem p_wrO2 {d : Nat} {h hl : Nat → Nat → Int} {t r i : Int} (ht : zr t) (hr : zr r) (hi : zr i) (hB : zMbk h hl 2) : zQ (d + 2) 145 [.inr (.inr (some 104)), .inl 2, .inl t, .inl r, .inl i] (zs h hl) (fun r' σ' => ∃ x : Int, zWO h 2 t r i x ∧ r' = some (.inl x) ∧ σ' = zs h hl) := by
  obtain ⟨h119, h121, h120, h122, h123⟩ := hB
  refine zQ_of (Nat.le_of_ble_eq_true rfl) ?_
  show zH (d + 1) 145 (0, [some (.inr (.inr (some 104))), some (.inl 2), some (.inl t), some (.inl r), some (.inl i), none], [], (zs h hl)) _
  refine zH_go 1 (c' := (1, [some (.inr (.inr (some 104))), some (.inl 2), some (.inl t), some (.inl r), some (.inl i), none], [.inl 2], (zs h hl))) rfl ?_
  refine zH_np (P := zr 2) (c' := (2, [some (.inr (.inr (some 104))), some (.inl 2), some (.inl t), some (.inl r), some (.inl i), none], [.inr (.inl 2)], (zs h hl))) rfl ⟨by decide, by decide⟩ ?_
  refine zH_go 2 (c' := (6, [some (.inr (.inr (some 104))), some (.inl 2), some (.inl t), some (.inl r), some (.inl i), none], [.inr (.inl 2), .inr (.inl 0), .inr (.inl 2)], (zs h hl))) rfl ?_
  refine zH_call (M' := 103) (as := [.inr (.inl 2), .inr (.inl 0), .inr (.inl 2)]) (T := []) rfl (p_in ⟨by decide, by decide⟩ ⟨by decide, by decide⟩ ⟨by decide, by decide⟩) (fun r σ' p_1 => ?_)
  rcases p_1 with ⟨rfl, b_2, rfl⟩ | ⟨rfl, b_2, rfl⟩
  · show zH _ _ (9, [some (.inr (.inr (some 104))), some (.inl 2), some (.inl t), some (.inl r), some (.inl i), none], [.inl 1], (zs h hl)) _
    refine zH_bf (x := 1) (y := 0) (k := .eq) (c1 := (24, [some (.inr (.inr (some 104))), some (.inl 2), some (.inl t), some (.inl r), some (.inl i), none], [], (zs h hl))) (c2 := (12, [some (.inr (.inr (some 104))), some (.inl 2), some (.inl t), some (.inl r), some (.inl i), none], [], (zs h hl))) rfl ⟨by decide, by decide⟩ ⟨by decide, by decide⟩ (by show ¬ (1 = 0); decide) ?_
    refine zH_go 1 (c' := (13, [some (.inr (.inr (some 104))), some (.inl 2), some (.inl t), some (.inl r), some (.inl i), none], [.inl t], (zs h hl))) rfl ?_
    refine zH_np (P := zr t) (c' := (14, [some (.inr (.inr (some 104))), some (.inl 2), some (.inl t), some (.inl r), some (.inl i), none], [.inr (.inl t)], (zs h hl))) rfl (by first | assumption | (unfold zr; omega)) ?_
    refine zH_go 2 (c' := (18, [some (.inr (.inr (some 104))), some (.inl 2), some (.inl t), some (.inl r), some (.inl i), none], [.inr (.inl 3), .inr (.inl 0), .inr (.inl t)], (zs h hl))) rfl ?_
    refine zH_call (M' := 103) (as := [.inr (.inl t), .inr (.inl 0), .inr (.inl 3)]) (T := []) rfl (p_in (by first | assumption | exact zr_l (by assumption) | (unfold zrl; omega)) ⟨by decide, by decide⟩ ⟨by decide, by decide⟩) (fun r σ' p_3 => ?_)
    rcases p_3 with ⟨rfl, b_4, rfl⟩ | ⟨rfl, b_4, rfl⟩
    · show zH _ _ (21, [some (.inr (.inr (some 104))), some (.inl 2), some (.inl t), some (.inl r), some (.inl i), none], [.inl 1], (zs h hl)) _
      refine zH_bt (x := 1) (y := 0) (k := .ne) (c1 := (26, [some (.inr (.inr (some 104))), some (.inl 2), some (.inl t), some (.inl r), some (.inl i), none], [], (zs h hl))) (c2 := (24, [some (.inr (.inr (some 104))), some (.inl 2), some (.inl t), some (.inl r), some (.inl i), none], [], (zs h hl))) rfl ⟨by decide, by decide⟩ ⟨by decide, by decide⟩ (by show ¬ 1 = 0; decide) ?_
      refine zH_go 3 (c' := (31, [some (.inr (.inr (some 104))), some (.inl 2), some (.inl t), some (.inl r), some (.inl i), none], [.inl 2, .inr (.inr (some 119))], (zs h hl))) rfl ?_
      refine zH_np (P := 0 ≤ 2 ∧ 2 < ((3 : Nat) : Int)) (c' := (32, [some (.inr (.inr (some 104))), some (.inl 2), some (.inl t), some (.inl r), some (.inl i), none], [.inl (h 119 2)], (zs h hl))) rfl ⟨by decide, by decide⟩ ?_
      refine zH_br (x := (h 119 2)) (y := 0) (k := .ne) (c1 := (38, [some (.inr (.inr (some 104))), some (.inl 2), some (.inl t), some (.inl r), some (.inl i), none], [], (zs h hl))) (c2 := (35, [some (.inr (.inr (some 104))), some (.inl 2), some (.inl t), some (.inl r), some (.inl i), none], [], (zs h hl))) rfl (by first | assumption | (unfold zr; omega)) ⟨by decide, by decide⟩ (fun (b_5 : ¬ (h 119 2) = 0) => ?_) (fun (b_5 : ¬ (¬ (h 119 2) = 0)) => ?_)
      · refine zH_go 3 (c' := (43, [some (.inr (.inr (some 104))), some (.inl 2), some (.inl t), some (.inl r), some (.inl i), none], [.inl 2, .inr (.inr (some 120))], (zs h hl))) rfl ?_
        refine zH_np (P := 0 ≤ 2 ∧ 2 < ((3 : Nat) : Int)) (c' := (44, [some (.inr (.inr (some 104))), some (.inl 2), some (.inl t), some (.inl r), some (.inl i), none], [.inl (h 120 2)], (zs h hl))) rfl ⟨by decide, by decide⟩ ?_
        refine zH_go 1 (c' := (45, [some (.inr (.inr (some 104))), some (.inl 2), some (.inl t), some (.inl r), some (.inl i), none], [.inl t, .inl (h 120 2)], (zs h hl))) rfl ?_
        refine zH_br (x := (h 120 2)) (y := t) (k := .eq) (c1 := (51, [some (.inr (.inr (some 104))), some (.inl 2), some (.inl t), some (.inl r), some (.inl i), none], [], (zs h hl))) (c2 := (48, [some (.inr (.inr (some 104))), some (.inl 2), some (.inl t), some (.inl r), some (.inl i), none], [], (zs h hl))) rfl (by first | assumption | (unfold zr; omega)) (by first | assumption | (unfold zr; omega)) (fun (b_6 : (h 120 2) = t) => ?_) (fun (b_6 : ¬ ((h 120 2) = t)) => ?_)
        · refine zH_go 1 (c' := (52, [some (.inr (.inr (some 104))), some (.inl 2), some (.inl t), some (.inl r), some (.inl i), none], [.inl r], (zs h hl))) rfl ?_
          refine zH_np (P := zr r) (c' := (53, [some (.inr (.inr (some 104))), some (.inl 2), some (.inl t), some (.inl r), some (.inl i), none], [.inr (.inl r)], (zs h hl))) rfl (by first | assumption | (unfold zr; omega)) ?_
          refine zH_go 4 (c' := (59, [some (.inr (.inr (some 104))), some (.inl 2), some (.inl t), some (.inl r), some (.inl i), none], [.inl 2, .inr (.inr (some 121)), .inr (.inl 0), .inr (.inl r)], (zs h hl))) rfl ?_
          refine zH_np (P := 0 ≤ 2 ∧ 2 < ((3 : Nat) : Int)) (c' := (60, [some (.inr (.inr (some 104))), some (.inl 2), some (.inl t), some (.inl r), some (.inl i), none], [.inl (h 121 2), .inr (.inl 0), .inr (.inl r)], (zs h hl))) rfl ⟨by decide, by decide⟩ ?_
          refine zH_go 2 (c' := (62, [some (.inr (.inr (some 104))), some (.inl 2), some (.inl t), some (.inl r), some (.inl i), none], [.inl ((h 121 2) - 1), .inr (.inl 0), .inr (.inl r)], (zs h hl))) rfl ?_
          refine zH_np (P := zr ((h 121 2) - 1)) (c' := (63, [some (.inr (.inr (some 104))), some (.inl 2), some (.inl t), some (.inl r), some (.inl i), none], [.inr (.inl ((h 121 2) - 1)), .inr (.inl 0), .inr (.inl r)], (zs h hl))) rfl (by first | assumption | (unfold zr; omega)) ?_
          refine zH_call (M' := 103) (as := [.inr (.inl r), .inr (.inl 0), .inr (.inl ((h 121 2) - 1))]) (T := []) rfl (p_in (by first | assumption | exact zr_l (by assumption) | (unfold zrl; omega)) ⟨by decide, by decide⟩ (by first | assumption | exact zr_l (by assumption) | (unfold zrl; omega))) (fun r σ' p_7 => ?_)
          rcases p_7 with ⟨rfl, b_8, rfl⟩ | ⟨rfl, b_8, rfl⟩
          · show zH _ _ (66, [some (.inr (.inr (some 104))), some (.inl 2), some (.inl t), some (.inl r), some (.inl i), none], [.inl 1], (zs h hl)) _
            refine zH_bt (x := 1) (y := 0) (k := .ne) (c1 := (72, [some (.inr (.inr (some 104))), some (.inl 2), some (.inl t), some (.inl r), some (.inl i), none], [], (zs h hl))) (c2 := (69, [some (.inr (.inr (some 104))), some (.inl 2), some (.inl t), some (.inl r), some (.inl i), none], [], (zs h hl))) rfl ⟨by decide, by decide⟩ ⟨by decide, by decide⟩ (by show ¬ 1 = 0; decide) ?_
            obtain ⟨R, rfl⟩ := Int.eq_ofNat_of_zero_le (show 0 ≤ r by omega)
            show zH _ _ (72, [some (.inr (.inr (some 104))), some (.inl 2), some (.inl t), some (.inl (R : Int)), some (.inl i), none], [], (zs h hl)) _
            have h2R : h 122 (8 + R) = -9 ∨ (0 ≤ h 122 (8 + R) ∧ h 122 (8 + R) ≤ 8) := h122 R (by omega)
            refine zH_go 7 (c' := (81, [some (.inr (.inr (some 104))), some (.inl 2), some (.inl t), some (.inl (R : Int)), some (.inl i), none], [.inl (8 + (R : Int)), .inr (.inr (some 122))], (zs h hl))) rfl ?_
            refine zH_np (P := 0 ≤ (8 + (R : Int)) ∧ (8 + (R : Int)) < ((12 : Nat) : Int)) (c' := (82, [some (.inr (.inr (some 104))), some (.inl 2), some (.inl t), some (.inl (R : Int)), some (.inl i), none], [.inl (h 122 (8 + R))], (zs h hl))) rfl ⟨by omega, by omega⟩ ?_
            refine zH_go 3 (c' := (88, [some (.inr (.inr (some 104))), some (.inl 2), some (.inl t), some (.inl (R : Int)), some (.inl i), some (.inl (h 122 (8 + R)))], [.inl (-9), .inl (h 122 (8 + R))], (zs h hl))) rfl ?_
            refine zH_br (x := (h 122 (8 + R))) (y := (-9)) (k := .ne) (c1 := (96, [some (.inr (.inr (some 104))), some (.inl 2), some (.inl t), some (.inl (R : Int)), some (.inl i), some (.inl (h 122 (8 + R)))], [], (zs h hl))) (c2 := (91, [some (.inr (.inr (some 104))), some (.inl 2), some (.inl t), some (.inl (R : Int)), some (.inl i), some (.inl (h 122 (8 + R)))], [], (zs h hl))) rfl (by first | assumption | (unfold zr; omega)) ⟨by decide, by decide⟩ (fun (b_9 : ¬ (h 122 (8 + R)) = (-9)) => ?_) (fun (b_9 : ¬ (¬ (h 122 (8 + R)) = (-9))) => ?_)
            · refine zH_go 1 (c' := (98, [some (.inr (.inr (some 104))), some (.inl 2), some (.inl t), some (.inl (R : Int)), some (.inl i), some (.inl (h 122 (8 + R)))], [.inl i], (zs h hl))) rfl ?_
              refine zH_np (P := zr i) (c' := (99, [some (.inr (.inr (some 104))), some (.inl 2), some (.inl t), some (.inl (R : Int)), some (.inl i), some (.inl (h 122 (8 + R)))], [.inr (.inl i)], (zs h hl))) rfl (by first | assumption | (unfold zr; omega)) ?_
              refine zH_go 4 (c' := (104, [some (.inr (.inr (some 104))), some (.inl 2), some (.inl t), some (.inl (R : Int)), some (.inl i), some (.inl (h 122 (8 + R)))], [.inl ((h 122 (8 + R)) - 1), .inr (.inl 0), .inr (.inl i)], (zs h hl))) rfl ?_
              refine zH_np (P := zr ((h 122 (8 + R)) - 1)) (c' := (105, [some (.inr (.inr (some 104))), some (.inl 2), some (.inl t), some (.inl (R : Int)), some (.inl i), some (.inl (h 122 (8 + R)))], [.inr (.inl ((h 122 (8 + R)) - 1)), .inr (.inl 0), .inr (.inl i)], (zs h hl))) rfl (by first | assumption | (unfold zr; omega)) ?_
              refine zH_call (M' := 103) (as := [.inr (.inl i), .inr (.inl 0), .inr (.inl ((h 122 (8 + R)) - 1))]) (T := []) rfl (p_in (by first | assumption | exact zr_l (by assumption) | (unfold zrl; omega)) ⟨by decide, by decide⟩ (by first | assumption | exact zr_l (by assumption) | (unfold zrl; omega))) (fun r σ' p_10 => ?_)
              rcases p_10 with ⟨rfl, b_11, rfl⟩ | ⟨rfl, b_11, rfl⟩
              · show zH _ _ (108, [some (.inr (.inr (some 104))), some (.inl 2), some (.inl t), some (.inl (R : Int)), some (.inl i), some (.inl (h 122 (8 + R)))], [.inl 1], (zs h hl)) _
                refine zH_bf (x := 1) (y := 0) (k := .eq) (c1 := (115, [some (.inr (.inr (some 104))), some (.inl 2), some (.inl t), some (.inl (R : Int)), some (.inl i), some (.inl (h 122 (8 + R)))], [], (zs h hl))) (c2 := (111, [some (.inr (.inr (some 104))), some (.inl 2), some (.inl t), some (.inl (R : Int)), some (.inl i), some (.inl (h 122 (8 + R)))], [], (zs h hl))) rfl ⟨by decide, by decide⟩ ⟨by decide, by decide⟩ (by show ¬ (1 = 0); decide) ?_
                refine zH_go 2 (c' := (117, [some (.inr (.inr (some 104))), some (.inl 2), some (.inl t), some (.inl (R : Int)), some (.inl i), some (.inl (h 122 (8 + R)))], [.inl 0], (zs h hl))) rfl ?_
                refine zH_ret (v := some (.inl 0)) rfl (fun q => absurd q (by decide)) ?_
                refine ⟨_, ?_, rfl, rfl⟩
                unfold zWO
                try rw [Int.toNat_natCast]
                try rw [show (4 : Nat) * 2 = 8 from rfl]
                omega
              · show zH _ _ (108, [some (.inr (.inr (some 104))), some (.inl 2), some (.inl t), some (.inl (R : Int)), some (.inl i), some (.inl (h 122 (8 + R)))], [.inl 0], (zs h hl)) _
                refine zH_bt (x := 0) (y := 0) (k := .eq) (c1 := (115, [some (.inr (.inr (some 104))), some (.inl 2), some (.inl t), some (.inl (R : Int)), some (.inl i), some (.inl (h 122 (8 + R)))], [], (zs h hl))) (c2 := (111, [some (.inr (.inr (some 104))), some (.inl 2), some (.inl t), some (.inl (R : Int)), some (.inl i), some (.inl (h 122 (8 + R)))], [], (zs h hl))) rfl ⟨by decide, by decide⟩ ⟨by decide, by decide⟩ (by show 0 = 0; decide) ?_
                refine zH_go 1 (c' := (117, [some (.inr (.inr (some 104))), some (.inl 2), some (.inl t), some (.inl (R : Int)), some (.inl i), some (.inl (h 122 (8 + R)))], [.inl (-12)], (zs h hl))) rfl ?_
                refine zH_ret (v := some (.inl (-12))) rfl (fun q => absurd q (by decide)) ?_
                refine ⟨_, ?_, rfl, rfl⟩
                unfold zWO
                try rw [Int.toNat_natCast]
                try rw [show (4 : Nat) * 2 = 8 from rfl]
                omega
            · refine zH_go 2 (c' := (117, [some (.inr (.inr (some 104))), some (.inl 2), some (.inl t), some (.inl (R : Int)), some (.inl i), some (.inl (h 122 (8 + R)))], [.inl (-11)], (zs h hl))) rfl ?_
              refine zH_ret (v := some (.inl (-11))) rfl (fun q => absurd q (by decide)) ?_
              refine ⟨_, ?_, rfl, rfl⟩
              unfold zWO
              try rw [Int.toNat_natCast]
              try rw [show (4 : Nat) * 2 = 8 from rfl]
              omega
          · show zH _ _ (66, [some (.inr (.inr (some 104))), some (.inl 2), some (.inl t), some (.inl r), some (.inl i), none], [.inl 0], (zs h hl)) _
            refine zH_bf (x := 0) (y := 0) (k := .ne) (c1 := (72, [some (.inr (.inr (some 104))), some (.inl 2), some (.inl t), some (.inl r), some (.inl i), none], [], (zs h hl))) (c2 := (69, [some (.inr (.inr (some 104))), some (.inl 2), some (.inl t), some (.inl r), some (.inl i), none], [], (zs h hl))) rfl ⟨by decide, by decide⟩ ⟨by decide, by decide⟩ (by show ¬ (¬ 0 = 0); decide) ?_
            refine zH_go 1 (c' := (71, [some (.inr (.inr (some 104))), some (.inl 2), some (.inl t), some (.inl r), some (.inl i), none], [.inl (-12)], (zs h hl))) rfl ?_
            refine zH_ret (v := some (.inl (-12))) rfl (fun q => absurd q (by decide)) ?_
            refine ⟨_, ?_, rfl, rfl⟩
            unfold zWO
            try rw [Int.toNat_natCast]
            try rw [show (4 : Nat) * 2 = 8 from rfl]
            omega
        · refine zH_go 1 (c' := (50, [some (.inr (.inr (some 104))), some (.inl 2), some (.inl t), some (.inl r), some (.inl i), none], [.inl (-13)], (zs h hl))) rfl ?_
          refine zH_ret (v := some (.inl (-13))) rfl (fun q => absurd q (by decide)) ?_
          refine ⟨_, ?_, rfl, rfl⟩
          unfold zWO
          try rw [Int.toNat_natCast]
          try rw [show (4 : Nat) * 2 = 8 from rfl]
          omega
      · refine zH_go 1 (c' := (37, [some (.inr (.inr (some 104))), some (.inl 2), some (.inl t), some (.inl r), some (.inl i), none], [.inl (-11)], (zs h hl))) rfl ?_
        refine zH_ret (v := some (.inl (-11))) rfl (fun q => absurd q (by decide)) ?_
        refine ⟨_, ?_, rfl, rfl⟩
        unfold zWO
        try rw [Int.toNat_natCast]
        try rw [show (4 : Nat) * 2 = 8 from rfl]
        omega
    · show zH _ _ (21, [some (.inr (.inr (some 104))), some (.inl 2), some (.inl t), some (.inl r), some (.inl i), none], [.inl 0], (zs h hl)) _
      refine zH_bf (x := 0) (y := 0) (k := .ne) (c1 := (26, [some (.inr (.inr (some 104))), some (.inl 2), some (.inl t), some (.inl r), some (.inl i), none], [], (zs h hl))) (c2 := (24, [some (.inr (.inr (some 104))), some (.inl 2), some (.inl t), some (.inl r), some (.inl i), none], [], (zs h hl))) rfl ⟨by decide, by decide⟩ ⟨by decide, by decide⟩ (by show ¬ (¬ 0 = 0); decide) ?_
      refine zH_go 1 (c' := (25, [some (.inr (.inr (some 104))), some (.inl 2), some (.inl t), some (.inl r), some (.inl i), none], [.inl (-1)], (zs h hl))) rfl ?_
      refine zH_ret (v := some (.inl (-1))) rfl (fun q => absurd q (by decide)) ?_
      refine ⟨_, ?_, rfl, rfl⟩
      unfold zWO
      try rw [Int.toNat_natCast]
      try rw [show (4 : Nat) * 2 = 8 from rfl]
      omega
  · exact absurd (by decide) b_2
set_option maxRecDepth 100000 in
set_option maxHeartbeats 4000000 in
theorem p_putO2 {d : Nat} {h0 h hl : Nat → Nat → Int} (e0 : zup h0 104 0 0 = h) {t r i v : Int} (ht : zr t) (hr : zr r) (hi : zr i) (hB : zMbk h hl 2) : zQ (d + 3) 146 [.inr (.inr (some 104)), .inl 2, .inl t, .inl r, .inl i, .inr (.inl v)] (zs h0 hl) (fun r' σ' => ∃ x : Int, zWO h 2 t r i x ∧ ((¬ x = 0 ∧ r' = some (.inl x) ∧ σ' = zs (zup h 104 1 x) hl) ∨ (x = 0 ∧ r' = some (.inl 1) ∧ σ' = zs (zup h 104 1 0) (zup hl 123 (64 + 8 * Int.toNat r + Int.toNat i) (zNar t v))))) := by
  have hBc := hB
  obtain ⟨h119, h121, h120, h122, h123⟩ := hBc
  refine zQ_of (Nat.le_of_ble_eq_true rfl) ?_
  show zH (d + 2) 146 (0, [some (.inr (.inr (some 104))), some (.inl 2), some (.inl t), some (.inl r), some (.inl i), some (.inr (.inl v)), none], [], (zs h0 hl)) _
  refine zH_go 3 (c' := (5, [some (.inr (.inr (some 104))), some (.inl 2), some (.inl t), some (.inl r), some (.inl i), some (.inr (.inl v)), none], [], (zs (zup h0 104 0 0) hl))) rfl ?_
  rw [e0]
  refine zH_go 6 (c' := (12, [some (.inr (.inr (some 104))), some (.inl 2), some (.inl t), some (.inl r), some (.inl i), some (.inr (.inl v)), none], [.inl i, .inl r, .inl t, .inl 2, .inr (.inr (some 104)), .inr (.inr (some 104))], (zs h hl))) rfl ?_
  refine zH_call (M' := 145) (as := [.inr (.inr (some 104)), .inl 2, .inl t, .inl r, .inl i]) (T := [.inr (.inr (some 104))]) rfl (p_wrO2 ht hr hi hB) (fun r' σ' p_1 => ?_)
  obtain ⟨x, hx, rfl, rfl⟩ := p_1
  have hxb := zWO_b hx
  show zH _ _ (15, [some (.inr (.inr (some 104))), some (.inl 2), some (.inl t), some (.inl r), some (.inl i), some (.inr (.inl v)), none], [.inl x, .inr (.inr (some 104))], (zs h hl)) _
  refine zH_go 3 (c' := (22, [some (.inr (.inr (some 104))), some (.inl 2), some (.inl t), some (.inl r), some (.inl i), some (.inr (.inl v)), none], [.inl x], (zs (zup h 104 1 x) hl))) rfl ?_
  refine zH_br (x := x) (y := 0) (k := .ge) (c1 := (30, [some (.inr (.inr (some 104))), some (.inl 2), some (.inl t), some (.inl r), some (.inl i), some (.inr (.inl v)), none], [], (zs (zup h 104 1 x) hl))) (c2 := (25, [some (.inr (.inr (some 104))), some (.inl 2), some (.inl t), some (.inl r), some (.inl i), some (.inr (.inl v)), none], [], (zs (zup h 104 1 x) hl))) rfl (by first | assumption | exact zbm_zr _ | exact (zbm_zr2 _).1 | exact (zbm_zr2 _).2 | (unfold zr; omega)) ⟨by decide, by decide⟩ (fun (b_2 : ¬ x < 0) => ?_) (fun (b_2 : ¬ (¬ x < 0)) => ?_)
  · obtain rfl : x = 0 := by omega
    have hx0 := zWO_0 hx
    obtain ⟨R, rfl⟩ := Int.eq_ofNat_of_zero_le hx0.2.1.1
    obtain ⟨U, rfl⟩ := Int.eq_ofNat_of_zero_le hx0.2.2.1
    rw [Int.toNat_natCast, show (4 : Nat) * 2 = 8 from rfl] at hx0
    have h2R : h 122 (8 + R) = -9 ∨ (0 ≤ h 122 (8 + R) ∧ h 122 (8 + R) ≤ 8) := h122 R (by omega)
    show zH _ _ (30, [some (.inr (.inr (some 104))), some (.inl 2), some (.inl t), some (.inl (R : Int)), some (.inl (U : Int)), some (.inr (.inl v)), none], [], (zs (zup h 104 1 0) hl)) _
    refine zH_go 11 (c' := (46, [some (.inr (.inr (some 104))), some (.inl 2), some (.inl t), some (.inl (R : Int)), some (.inl (U : Int)), some (.inr (.inl v)), none], [.inl ((64 + (8 * (R : Int))) + (U : Int)), .inr (.inr (some 123))], (zs (zup h 104 1 0) hl))) rfl ?_
    refine zH_mg (F := fun mq => (85, [some (.inr (.inr (some 104))), some (.inl 2), some (.inl t), some (.inl (R : Int)), some (.inl (U : Int)), some (.inr (.inl v)), none], [.inr (.inl mq), .inl ((64 + (8 * (R : Int))) + (U : Int)), .inr (.inr (some 123))], (zs (zup h 104 1 0) hl))) (R := fun mq => mq = zNar t v) (fun m_3 fm_3 => ?_) (fun kk => ?_)
    · replace fm_3 : m_3 = zNar t v := fm_3
      show zH _ _ (85, [some (.inr (.inr (some 104))), some (.inl 2), some (.inl t), some (.inl (R : Int)), some (.inl (U : Int)), some (.inr (.inl v)), none], [.inr (.inl m_3), .inl ((64 + (8 * (R : Int))) + (U : Int)), .inr (.inr (some 123))], (zs (zup h 104 1 0) hl)) _
      refine zH_np (P := 0 ≤ ((64 + (8 * (R : Int))) + (U : Int)) ∧ ((64 + (8 * (R : Int))) + (U : Int)) < ((96 : Nat) : Int)) (c' := (86, [some (.inr (.inr (some 104))), some (.inl 2), some (.inl t), some (.inl (R : Int)), some (.inl (U : Int)), some (.inr (.inl v)), none], [], (zs (zup h 104 1 0) (zup hl 123 ((64 + (8 * R)) + U) m_3)))) rfl ⟨by omega, by omega⟩ ?_
      refine zH_go 1 (c' := (87, [some (.inr (.inr (some 104))), some (.inl 2), some (.inl t), some (.inl (R : Int)), some (.inl (U : Int)), some (.inr (.inl v)), none], [.inl 1], (zs (zup h 104 1 0) (zup hl 123 ((64 + (8 * R)) + U) m_3)))) rfl ?_
      refine zH_ret (v := some (.inl 1)) rfl (fun q => absurd q (by decide)) ?_
      exact ⟨0, hx, Or.inr ⟨rfl, rfl, by rw [Int.toNat_natCast, Int.toNat_natCast, ← fm_3]⟩⟩
    · refine zH_go 1 (c' := (47, [some (.inr (.inr (some 104))), some (.inl 2), some (.inl t), some (.inl (R : Int)), some (.inl (U : Int)), some (.inr (.inl v)), none], [.inl t, .inl ((64 + (8 * (R : Int))) + (U : Int)), .inr (.inr (some 123))], (zs (zup h 104 1 0) hl))) rfl ?_
      refine zH_br (x := t) (y := 0) (k := .ne) (c1 := (58, [some (.inr (.inr (some 104))), some (.inl 2), some (.inl t), some (.inl (R : Int)), some (.inl (U : Int)), some (.inr (.inl v)), none], [.inl ((64 + (8 * (R : Int))) + (U : Int)), .inr (.inr (some 123))], (zs (zup h 104 1 0) hl))) (c2 := (50, [some (.inr (.inr (some 104))), some (.inl 2), some (.inl t), some (.inl (R : Int)), some (.inl (U : Int)), some (.inr (.inl v)), none], [.inl ((64 + (8 * (R : Int))) + (U : Int)), .inr (.inr (some 123))], (zs (zup h 104 1 0) hl))) rfl (by first | assumption | exact zbm_zr _ | exact (zbm_zr2 _).1 | exact (zbm_zr2 _).2 | (unfold zr; omega)) ⟨by decide, by decide⟩ (fun (b_4 : ¬ t = 0) => ?_) (fun (b_4 : ¬ (¬ t = 0)) => ?_)
      · refine zH_go 2 (c' := (60, [some (.inr (.inr (some 104))), some (.inl 2), some (.inl t), some (.inl (R : Int)), some (.inl (U : Int)), some (.inr (.inl v)), none], [.inl 1, .inl t, .inl ((64 + (8 * (R : Int))) + (U : Int)), .inr (.inr (some 123))], (zs (zup h 104 1 0) hl))) rfl ?_
        refine zH_br (x := t) (y := 1) (k := .ne) (c1 := (71, [some (.inr (.inr (some 104))), some (.inl 2), some (.inl t), some (.inl (R : Int)), some (.inl (U : Int)), some (.inr (.inl v)), none], [.inl ((64 + (8 * (R : Int))) + (U : Int)), .inr (.inr (some 123))], (zs (zup h 104 1 0) hl))) (c2 := (63, [some (.inr (.inr (some 104))), some (.inl 2), some (.inl t), some (.inl (R : Int)), some (.inl (U : Int)), some (.inr (.inl v)), none], [.inl ((64 + (8 * (R : Int))) + (U : Int)), .inr (.inr (some 123))], (zs (zup h 104 1 0) hl))) rfl (by first | assumption | exact zbm_zr _ | exact (zbm_zr2 _).1 | exact (zbm_zr2 _).2 | (unfold zr; omega)) ⟨by decide, by decide⟩ (fun (b_5 : ¬ t = 1) => ?_) (fun (b_5 : ¬ (¬ t = 1)) => ?_)
        · refine zH_go 2 (c' := (73, [some (.inr (.inr (some 104))), some (.inl 2), some (.inl t), some (.inl (R : Int)), some (.inl (U : Int)), some (.inr (.inl v)), none], [.inl 2, .inl t, .inl ((64 + (8 * (R : Int))) + (U : Int)), .inr (.inr (some 123))], (zs (zup h 104 1 0) hl))) rfl ?_
          refine zH_br (x := t) (y := 2) (k := .ne) (c1 := (83, [some (.inr (.inr (some 104))), some (.inl 2), some (.inl t), some (.inl (R : Int)), some (.inl (U : Int)), some (.inr (.inl v)), none], [.inl ((64 + (8 * (R : Int))) + (U : Int)), .inr (.inr (some 123))], (zs (zup h 104 1 0) hl))) (c2 := (76, [some (.inr (.inr (some 104))), some (.inl 2), some (.inl t), some (.inl (R : Int)), some (.inl (U : Int)), some (.inr (.inl v)), none], [.inl ((64 + (8 * (R : Int))) + (U : Int)), .inr (.inr (some 123))], (zs (zup h 104 1 0) hl))) rfl (by first | assumption | exact zbm_zr _ | exact (zbm_zr2 _).1 | exact (zbm_zr2 _).2 | (unfold zr; omega)) ⟨by decide, by decide⟩ (fun (b_6 : ¬ t = 2) => ?_) (fun (b_6 : ¬ (¬ t = 2)) => ?_)
          · refine zH_go 1 (c' := (85, [some (.inr (.inr (some 104))), some (.inl 2), some (.inl t), some (.inl (R : Int)), some (.inl (U : Int)), some (.inr (.inl v)), none], [.inr (.inl v), .inl ((64 + (8 * (R : Int))) + (U : Int)), .inr (.inr (some 123))], (zs (zup h 104 1 0) hl))) rfl ?_
            refine kk v ?_
            show v = zNar t v
            unfold zNar
            first | rw [if_pos (by omega)] | rw [if_neg (by omega), if_pos (by omega)] | rw [if_neg (by omega), if_neg (by omega), if_pos (by omega)] | rw [if_neg (by omega), if_neg (by omega), if_neg (by omega)]
          · refine zH_go 2 (c' := (79, [some (.inr (.inr (some 104))), some (.inl 2), some (.inl t), some (.inl (R : Int)), some (.inl (U : Int)), some (.inr (.inl v)), none], [.inl (Int.bmod v 4294967296), .inl ((64 + (8 * (R : Int))) + (U : Int)), .inr (.inr (some 123))], (zs (zup h 104 1 0) hl))) rfl ?_
            refine zH_np (P := zr (Int.bmod v 4294967296)) (c' := (80, [some (.inr (.inr (some 104))), some (.inl 2), some (.inl t), some (.inl (R : Int)), some (.inl (U : Int)), some (.inr (.inl v)), none], [.inr (.inl (Int.bmod v 4294967296)), .inl ((64 + (8 * (R : Int))) + (U : Int)), .inr (.inr (some 123))], (zs (zup h 104 1 0) hl))) rfl (by first | assumption | exact zbm_zr _ | exact (zbm_zr2 _).1 | exact (zbm_zr2 _).2 | (unfold zr; omega)) ?_
            refine zH_go 1 (c' := (85, [some (.inr (.inr (some 104))), some (.inl 2), some (.inl t), some (.inl (R : Int)), some (.inl (U : Int)), some (.inr (.inl v)), none], [.inr (.inl (Int.bmod v 4294967296)), .inl ((64 + (8 * (R : Int))) + (U : Int)), .inr (.inr (some 123))], (zs (zup h 104 1 0) hl))) rfl ?_
            refine kk (Int.bmod v 4294967296) ?_
            show (Int.bmod v 4294967296) = zNar t v
            unfold zNar
            first | rw [if_pos (by omega)] | rw [if_neg (by omega), if_pos (by omega)] | rw [if_neg (by omega), if_neg (by omega), if_pos (by omega)] | rw [if_neg (by omega), if_neg (by omega), if_neg (by omega)]
        · refine zH_go 3 (c' := (67, [some (.inr (.inr (some 104))), some (.inl 2), some (.inl t), some (.inl (R : Int)), some (.inl (U : Int)), some (.inr (.inl v)), none], [.inl (Int.bmod (Int.bmod v 4294967296) 65536), .inl ((64 + (8 * (R : Int))) + (U : Int)), .inr (.inr (some 123))], (zs (zup h 104 1 0) hl))) rfl ?_
          refine zH_np (P := zr (Int.bmod (Int.bmod v 4294967296) 65536)) (c' := (68, [some (.inr (.inr (some 104))), some (.inl 2), some (.inl t), some (.inl (R : Int)), some (.inl (U : Int)), some (.inr (.inl v)), none], [.inr (.inl (Int.bmod (Int.bmod v 4294967296) 65536)), .inl ((64 + (8 * (R : Int))) + (U : Int)), .inr (.inr (some 123))], (zs (zup h 104 1 0) hl))) rfl (by first | assumption | exact zbm_zr _ | exact (zbm_zr2 _).1 | exact (zbm_zr2 _).2 | (unfold zr; omega)) ?_
          refine zH_go 1 (c' := (85, [some (.inr (.inr (some 104))), some (.inl 2), some (.inl t), some (.inl (R : Int)), some (.inl (U : Int)), some (.inr (.inl v)), none], [.inr (.inl (Int.bmod (Int.bmod v 4294967296) 65536)), .inl ((64 + (8 * (R : Int))) + (U : Int)), .inr (.inr (some 123))], (zs (zup h 104 1 0) hl))) rfl ?_
          refine kk (Int.bmod (Int.bmod v 4294967296) 65536) ?_
          show (Int.bmod (Int.bmod v 4294967296) 65536) = zNar t v
          unfold zNar
          first | rw [if_pos (by omega)] | rw [if_neg (by omega), if_pos (by omega)] | rw [if_neg (by omega), if_neg (by omega), if_pos (by omega)] | rw [if_neg (by omega), if_neg (by omega), if_neg (by omega)]
      · refine zH_go 3 (c' := (54, [some (.inr (.inr (some 104))), some (.inl 2), some (.inl t), some (.inl (R : Int)), some (.inl (U : Int)), some (.inr (.inl v)), none], [.inl (Int.bmod (Int.bmod v 4294967296) 256), .inl ((64 + (8 * (R : Int))) + (U : Int)), .inr (.inr (some 123))], (zs (zup h 104 1 0) hl))) rfl ?_
        refine zH_np (P := zr (Int.bmod (Int.bmod v 4294967296) 256)) (c' := (55, [some (.inr (.inr (some 104))), some (.inl 2), some (.inl t), some (.inl (R : Int)), some (.inl (U : Int)), some (.inr (.inl v)), none], [.inr (.inl (Int.bmod (Int.bmod v 4294967296) 256)), .inl ((64 + (8 * (R : Int))) + (U : Int)), .inr (.inr (some 123))], (zs (zup h 104 1 0) hl))) rfl (by first | assumption | exact zbm_zr _ | exact (zbm_zr2 _).1 | exact (zbm_zr2 _).2 | (unfold zr; omega)) ?_
        refine zH_go 1 (c' := (85, [some (.inr (.inr (some 104))), some (.inl 2), some (.inl t), some (.inl (R : Int)), some (.inl (U : Int)), some (.inr (.inl v)), none], [.inr (.inl (Int.bmod (Int.bmod v 4294967296) 256)), .inl ((64 + (8 * (R : Int))) + (U : Int)), .inr (.inr (some 123))], (zs (zup h 104 1 0) hl))) rfl ?_
        refine kk (Int.bmod (Int.bmod v 4294967296) 256) ?_
        show (Int.bmod (Int.bmod v 4294967296) 256) = zNar t v
        unfold zNar
        first | rw [if_pos (by omega)] | rw [if_neg (by omega), if_pos (by omega)] | rw [if_neg (by omega), if_neg (by omega), if_pos (by omega)] | rw [if_neg (by omega), if_neg (by omega), if_neg (by omega)]
  · refine zH_go 2 (c' := (29, [some (.inr (.inr (some 104))), some (.inl 2), some (.inl t), some (.inl r), some (.inl i), some (.inr (.inl v)), none], [.inl x], (zs (zup h 104 1 x) hl))) rfl ?_
    refine zH_ret (v := some (.inl x)) rfl (fun q => absurd q (by decide)) ?_
    exact ⟨x, hx, Or.inl ⟨by omega, rfl, rfl⟩⟩
set_option maxRecDepth 100000 in
set_option maxHeartbeats 4000000 in
theorem p_itemO2 {d : Nat} {h0 h hl : Nat → Nat → Int} (e0 : zup h0 104 0 0 = h) {t r i : Int} (ht : zr t) (hr : zr r) (hi : zr i) (hB : zMbk h hl 2) : zQ (d + 3) 147 [.inr (.inr (some 104)), .inl 2, .inl t, .inl r, .inl i] (zs h0 hl) (fun r' σ' => ∃ x : Int, zWO h 2 t r i x ∧ ((¬ x = 0 ∧ r' = some (.inr (.inl 0)) ∧ σ' = zs (zup h 104 1 x) hl) ∨ (x = 0 ∧ r' = some (.inr (.inl (hl 123 (64 + 8 * Int.toNat r + Int.toNat i)))) ∧ σ' = zs (zup h 104 1 0) hl))) := by
  have hBc := hB
  obtain ⟨h119, h121, h120, h122, h123⟩ := hBc
  refine zQ_of (Nat.le_of_ble_eq_true rfl) ?_
  show zH (d + 2) 147 (0, [some (.inr (.inr (some 104))), some (.inl 2), some (.inl t), some (.inl r), some (.inl i)], [], (zs h0 hl)) _
  refine zH_go 3 (c' := (5, [some (.inr (.inr (some 104))), some (.inl 2), some (.inl t), some (.inl r), some (.inl i)], [], (zs (zup h0 104 0 0) hl))) rfl ?_
  rw [e0]
  refine zH_go 6 (c' := (12, [some (.inr (.inr (some 104))), some (.inl 2), some (.inl t), some (.inl r), some (.inl i)], [.inl i, .inl r, .inl t, .inl 2, .inr (.inr (some 104)), .inr (.inr (some 104))], (zs h hl))) rfl ?_
  refine zH_call (M' := 145) (as := [.inr (.inr (some 104)), .inl 2, .inl t, .inl r, .inl i]) (T := [.inr (.inr (some 104))]) rfl (p_wrO2 ht hr hi hB) (fun r' σ' p_1 => ?_)
  obtain ⟨x, hx, rfl, rfl⟩ := p_1
  have hxb := zWO_b hx
  show zH _ _ (15, [some (.inr (.inr (some 104))), some (.inl 2), some (.inl t), some (.inl r), some (.inl i)], [.inl x, .inr (.inr (some 104))], (zs h hl)) _
  refine zH_go 3 (c' := (22, [some (.inr (.inr (some 104))), some (.inl 2), some (.inl t), some (.inl r), some (.inl i)], [.inl x], (zs (zup h 104 1 x) hl))) rfl ?_
  refine zH_br (x := x) (y := 0) (k := .ge) (c1 := (29, [some (.inr (.inr (some 104))), some (.inl 2), some (.inl t), some (.inl r), some (.inl i)], [], (zs (zup h 104 1 x) hl))) (c2 := (25, [some (.inr (.inr (some 104))), some (.inl 2), some (.inl t), some (.inl r), some (.inl i)], [], (zs (zup h 104 1 x) hl))) rfl (by first | assumption | (unfold zr; omega)) ⟨by decide, by decide⟩ (fun (b_2 : ¬ x < 0) => ?_) (fun (b_2 : ¬ (¬ x < 0)) => ?_)
  · obtain rfl : x = 0 := by omega
    have hx0 := zWO_0 hx
    obtain ⟨R, rfl⟩ := Int.eq_ofNat_of_zero_le hx0.2.1.1
    obtain ⟨U, rfl⟩ := Int.eq_ofNat_of_zero_le hx0.2.2.1
    rw [Int.toNat_natCast, show (4 : Nat) * 2 = 8 from rfl] at hx0
    have h2R : h 122 (8 + R) = -9 ∨ (0 ≤ h 122 (8 + R) ∧ h 122 (8 + R) ≤ 8) := h122 R (by omega)
    show zH _ _ (29, [some (.inr (.inr (some 104))), some (.inl 2), some (.inl t), some (.inl (R : Int)), some (.inl (U : Int))], [], (zs (zup h 104 1 0) hl)) _
    refine zH_go 11 (c' := (45, [some (.inr (.inr (some 104))), some (.inl 2), some (.inl t), some (.inl (R : Int)), some (.inl (U : Int))], [.inl ((64 + (8 * (R : Int))) + (U : Int)), .inr (.inr (some 123))], (zs (zup h 104 1 0) hl))) rfl ?_
    refine zH_np (P := 0 ≤ ((64 + (8 * (R : Int))) + (U : Int)) ∧ ((64 + (8 * (R : Int))) + (U : Int)) < ((96 : Nat) : Int)) (c' := (46, [some (.inr (.inr (some 104))), some (.inl 2), some (.inl t), some (.inl (R : Int)), some (.inl (U : Int))], [.inr (.inl (hl 123 ((64 + (8 * R)) + U)))], (zs (zup h 104 1 0) hl))) rfl ⟨by omega, by omega⟩ ?_
    refine zH_ret (v := some (.inr (.inl (hl 123 ((64 + (8 * R)) + U))))) rfl (fun q => absurd q (by decide)) ?_
    exact ⟨0, hx, Or.inr ⟨rfl, by rw [Int.toNat_natCast, Int.toNat_natCast], rfl⟩⟩
  · refine zH_go 2 (c' := (46, [some (.inr (.inr (some 104))), some (.inl 2), some (.inl t), some (.inl r), some (.inl i)], [.inr (.inl 0)], (zs (zup h 104 1 x) hl))) rfl ?_
    refine zH_ret (v := some (.inr (.inl 0))) rfl (fun q => absurd q (by decide)) ?_
    exact ⟨x, hx, Or.inl ⟨by omega, rfl, rfl⟩⟩
def zAbO (h : Nat → Nat → Int) (w x : Int) : Prop := (w = 0 ∧ x = h 104 3) ∨ (w = 1 ∧ x = h 104 4) ∨ (w = 2 ∧ x = h 104 9) ∨ (w = 3 ∧ x = h 104 15) ∨ (w = 4 ∧ x = h 104 11) ∨ (w = 5 ∧ ((zTorn h ∧ x = 1) ∨ (¬ zTorn h ∧ x = 0))) ∨ ((w < 0 ∨ 5 < w) ∧ x = -1)
set_option maxRecDepth 100000 in
set_option maxHeartbeats 4000000 in
theorem p_aboutO {d : Nat} {h0 h hl : Nat → Nat → Int} (e0 : zup h0 104 0 0 = h) {w : Int} (hw : zr w) {p r : Nat} (hW : zTown h p r) : zQ (d + 3) 150 [.inr (.inr (some 104)), .inl w] (zs h0 hl) (fun r' σ' => ∃ (x : Int) (g : Nat → Nat → Int), zAbO h w x ∧ r' = some (.inl x) ∧ σ' = zs g hl ∧ (g = h ∨ ((∀ c : Nat, c ≠ 108 → g c = h c) ∧ (∀ i j : Nat, i < 6 → j < 6 → g 108 (6 * i + j) = zFa h i j)))) := by
  by_cases hsw : w < 0 ∨ 5 < w
  · skip
    refine zQ_of (Nat.le_of_ble_eq_true rfl) ?_
    show zH (d + 2) 150 (0, [some (.inr (.inr (some 104))), some (.inl w)], [], (zs h0 hl)) _
    refine zH_go 3 (c' := (5, [some (.inr (.inr (some 104))), some (.inl w)], [], (zs (zup h0 104 0 0) hl))) rfl ?_
    rw [e0]
    refine zH_go 1 (c' := (6, [some (.inr (.inr (some 104))), some (.inl w)], [.inl w], (zs h hl))) rfl ?_
    refine zH_sw rfl (by first | assumption | (unfold zr; omega)) (tgt := 82) (by rw [if_pos hsw]; rfl) ?_
    show zH _ _ (82, [some (.inr (.inr (some 104))), some (.inl w)], [], (zs h hl)) _
    refine zH_go 1 (c' := (83, [some (.inr (.inr (some 104))), some (.inl w)], [.inl (-1)], (zs h hl))) rfl ?_
    refine zH_ret (v := some (.inl (-1))) rfl (fun q => absurd q (by decide)) ?_
    exact ⟨_, h, Or.inr (Or.inr (Or.inr (Or.inr (Or.inr (Or.inr (⟨hsw, rfl⟩)))))), rfl, rfl, Or.inl rfl⟩
  · rcases (show w = 0 ∨ w = 1 ∨ w = 2 ∨ w = 3 ∨ w = 4 ∨ w = 5 by omega) with rfl | rfl | rfl | rfl | rfl | rfl
    · skip
      refine zQ_of (Nat.le_of_ble_eq_true rfl) ?_
      show zH (d + 2) 150 (0, [some (.inr (.inr (some 104))), some (.inl 0)], [], (zs h0 hl)) _
      refine zH_go 3 (c' := (5, [some (.inr (.inr (some 104))), some (.inl 0)], [], (zs (zup h0 104 0 0) hl))) rfl ?_
      rw [e0]
      refine zH_go 1 (c' := (6, [some (.inr (.inr (some 104))), some (.inl 0)], [.inl 0], (zs h hl))) rfl ?_
      refine zH_sw rfl ⟨by decide, by decide⟩ (tgt := 44) rfl ?_
      show zH _ _ (44, [some (.inr (.inr (some 104))), some (.inl 0)], [], (zs h hl)) _
      refine zH_go 2 (c' := (48, [some (.inr (.inr (some 104))), some (.inl 0)], [.inl (h 104 3)], (zs h hl))) rfl ?_
      refine zH_ret (v := some (.inl (h 104 3))) rfl (fun q => absurd q (by decide)) ?_
      exact ⟨_, h, Or.inl ⟨rfl, rfl⟩, rfl, rfl, Or.inl rfl⟩
    · skip
      refine zQ_of (Nat.le_of_ble_eq_true rfl) ?_
      show zH (d + 2) 150 (0, [some (.inr (.inr (some 104))), some (.inl 1)], [], (zs h0 hl)) _
      refine zH_go 3 (c' := (5, [some (.inr (.inr (some 104))), some (.inl 1)], [], (zs (zup h0 104 0 0) hl))) rfl ?_
      rw [e0]
      refine zH_go 1 (c' := (6, [some (.inr (.inr (some 104))), some (.inl 1)], [.inl 1], (zs h hl))) rfl ?_
      refine zH_sw rfl ⟨by decide, by decide⟩ (tgt := 49) rfl ?_
      show zH _ _ (49, [some (.inr (.inr (some 104))), some (.inl 1)], [], (zs h hl)) _
      refine zH_go 2 (c' := (53, [some (.inr (.inr (some 104))), some (.inl 1)], [.inl (h 104 4)], (zs h hl))) rfl ?_
      refine zH_ret (v := some (.inl (h 104 4))) rfl (fun q => absurd q (by decide)) ?_
      exact ⟨_, h, Or.inr (Or.inl ⟨rfl, rfl⟩), rfl, rfl, Or.inl rfl⟩
    · skip
      refine zQ_of (Nat.le_of_ble_eq_true rfl) ?_
      show zH (d + 2) 150 (0, [some (.inr (.inr (some 104))), some (.inl 2)], [], (zs h0 hl)) _
      refine zH_go 3 (c' := (5, [some (.inr (.inr (some 104))), some (.inl 2)], [], (zs (zup h0 104 0 0) hl))) rfl ?_
      rw [e0]
      refine zH_go 1 (c' := (6, [some (.inr (.inr (some 104))), some (.inl 2)], [.inl 2], (zs h hl))) rfl ?_
      refine zH_sw rfl ⟨by decide, by decide⟩ (tgt := 54) rfl ?_
      show zH _ _ (54, [some (.inr (.inr (some 104))), some (.inl 2)], [], (zs h hl)) _
      refine zH_go 2 (c' := (58, [some (.inr (.inr (some 104))), some (.inl 2)], [.inl (h 104 9)], (zs h hl))) rfl ?_
      refine zH_ret (v := some (.inl (h 104 9))) rfl (fun q => absurd q (by decide)) ?_
      exact ⟨_, h, Or.inr (Or.inr (Or.inl ⟨rfl, rfl⟩)), rfl, rfl, Or.inl rfl⟩
    · skip
      refine zQ_of (Nat.le_of_ble_eq_true rfl) ?_
      show zH (d + 2) 150 (0, [some (.inr (.inr (some 104))), some (.inl 3)], [], (zs h0 hl)) _
      refine zH_go 3 (c' := (5, [some (.inr (.inr (some 104))), some (.inl 3)], [], (zs (zup h0 104 0 0) hl))) rfl ?_
      rw [e0]
      refine zH_go 1 (c' := (6, [some (.inr (.inr (some 104))), some (.inl 3)], [.inl 3], (zs h hl))) rfl ?_
      refine zH_sw rfl ⟨by decide, by decide⟩ (tgt := 59) rfl ?_
      show zH _ _ (59, [some (.inr (.inr (some 104))), some (.inl 3)], [], (zs h hl)) _
      refine zH_go 2 (c' := (63, [some (.inr (.inr (some 104))), some (.inl 3)], [.inl (h 104 15)], (zs h hl))) rfl ?_
      refine zH_ret (v := some (.inl (h 104 15))) rfl (fun q => absurd q (by decide)) ?_
      exact ⟨_, h, Or.inr (Or.inr (Or.inr (Or.inl ⟨rfl, rfl⟩))), rfl, rfl, Or.inl rfl⟩
    · skip
      refine zQ_of (Nat.le_of_ble_eq_true rfl) ?_
      show zH (d + 2) 150 (0, [some (.inr (.inr (some 104))), some (.inl 4)], [], (zs h0 hl)) _
      refine zH_go 3 (c' := (5, [some (.inr (.inr (some 104))), some (.inl 4)], [], (zs (zup h0 104 0 0) hl))) rfl ?_
      rw [e0]
      refine zH_go 1 (c' := (6, [some (.inr (.inr (some 104))), some (.inl 4)], [.inl 4], (zs h hl))) rfl ?_
      refine zH_sw rfl ⟨by decide, by decide⟩ (tgt := 64) rfl ?_
      show zH _ _ (64, [some (.inr (.inr (some 104))), some (.inl 4)], [], (zs h hl)) _
      refine zH_go 2 (c' := (68, [some (.inr (.inr (some 104))), some (.inl 4)], [.inl (h 104 11)], (zs h hl))) rfl ?_
      refine zH_ret (v := some (.inl (h 104 11))) rfl (fun q => absurd q (by decide)) ?_
      exact ⟨_, h, Or.inr (Or.inr (Or.inr (Or.inr (Or.inl ⟨rfl, rfl⟩)))), rfl, rfl, Or.inl rfl⟩
    · skip
      refine zQ_of (Nat.le_of_ble_eq_true rfl) ?_
      show zH (d + 2) 150 (0, [some (.inr (.inr (some 104))), some (.inl 5)], [], (zs h0 hl)) _
      refine zH_go 3 (c' := (5, [some (.inr (.inr (some 104))), some (.inl 5)], [], (zs (zup h0 104 0 0) hl))) rfl ?_
      rw [e0]
      refine zH_go 1 (c' := (6, [some (.inr (.inr (some 104))), some (.inl 5)], [.inl 5], (zs h hl))) rfl ?_
      refine zH_sw rfl ⟨by decide, by decide⟩ (tgt := 69) rfl ?_
      show zH _ _ (69, [some (.inr (.inr (some 104))), some (.inl 5)], [], (zs h hl)) _
      refine zH_go 1 (c' := (70, [some (.inr (.inr (some 104))), some (.inl 5)], [.inr (.inr (some 104))], (zs h hl))) rfl ?_
      refine zH_call (M' := 106) (as := [.inr (.inr (some 104))]) (T := []) rfl (p_tornO hW) (fun r' σ' pm => ?_)
      obtain ⟨g, pm, f1, f2⟩ := pm
      rcases pm with ⟨rfl, ht, rfl⟩ | ⟨rfl, ht, rfl⟩
      · show zH _ _ (73, [some (.inr (.inr (some 104))), some (.inl 5)], [.inl 1], (zs g hl)) _
        refine zH_bf (x := 1) (y := 0) (k := .eq) (c1 := (80, [some (.inr (.inr (some 104))), some (.inl 5)], [], (zs g hl))) (c2 := (76, [some (.inr (.inr (some 104))), some (.inl 5)], [], (zs g hl))) rfl ⟨by decide, by decide⟩ ⟨by decide, by decide⟩ (by show ¬ (1 = 0); decide) ?_
        refine zH_go 2 (c' := (81, [some (.inr (.inr (some 104))), some (.inl 5)], [.inl 1], (zs g hl))) rfl ?_
        refine zH_ret (v := some (.inl 1)) rfl (fun q => absurd q (by decide)) ?_
        exact ⟨_, g, Or.inr (Or.inr (Or.inr (Or.inr (Or.inr (Or.inl ⟨rfl, Or.inl ⟨ht, rfl⟩⟩))))), rfl, rfl, Or.inr ⟨f1, f2⟩⟩
      · show zH _ _ (73, [some (.inr (.inr (some 104))), some (.inl 5)], [.inl 0], (zs g hl)) _
        refine zH_bt (x := 0) (y := 0) (k := .eq) (c1 := (80, [some (.inr (.inr (some 104))), some (.inl 5)], [], (zs g hl))) (c2 := (76, [some (.inr (.inr (some 104))), some (.inl 5)], [], (zs g hl))) rfl ⟨by decide, by decide⟩ ⟨by decide, by decide⟩ (by show 0 = 0; decide) ?_
        refine zH_go 1 (c' := (81, [some (.inr (.inr (some 104))), some (.inl 5)], [.inl 0], (zs g hl))) rfl ?_
        refine zH_ret (v := some (.inl 0)) rfl (fun q => absurd q (by decide)) ?_
        exact ⟨_, g, Or.inr (Or.inr (Or.inr (Or.inr (Or.inr (Or.inl ⟨rfl, Or.inr ⟨ht, rfl⟩⟩))))), rfl, rfl, Or.inr ⟨f1, f2⟩⟩
set_option maxRecDepth 100000 in
set_option maxHeartbeats 4000000 in
theorem p_traceO {d : Nat} {h0 h hl : Nat → Nat → Int} (e0 : zup h0 104 0 0 = h)  : zQ (d + 1) 151 [.inr (.inr (some 104))] (zs h0 hl) (fun r' σ' => r' = some (.inr (.inl (hl 104 2))) ∧ σ' = zs h hl) := by
  refine zQ_of (Nat.le_of_ble_eq_true rfl) ?_
  show zH d 151 (0, [some (.inr (.inr (some 104)))], [], (zs h0 hl)) _
  refine zH_go 3 (c' := (5, [some (.inr (.inr (some 104)))], [], (zs (zup h0 104 0 0) hl))) rfl ?_
  rw [e0]
  refine zH_go 2 (c' := (9, [some (.inr (.inr (some 104)))], [.inr (.inl (hl 104 2))], (zs h hl))) rfl ?_
  refine zH_ret (v := some (.inr (.inl (hl 104 2)))) rfl (fun q => absurd q (by decide)) ?_
  exact ⟨rfl, rfl⟩
set_option maxRecDepth 100000 in
set_option maxHeartbeats 4000000 in
theorem p_statusO {d : Nat} {h0 h hl : Nat → Nat → Int} (e0 : zup h0 104 0 0 = h)  : zQ (d + 1) 152 [.inr (.inr (some 104))] (zs h0 hl) (zI1 (h 104 1) (zs h hl)) := by
  refine zQ_of (Nat.le_of_ble_eq_true rfl) ?_
  show zH d 152 (0, [some (.inr (.inr (some 104)))], [], (zs h0 hl)) _
  refine zH_go 3 (c' := (5, [some (.inr (.inr (some 104)))], [], (zs (zup h0 104 0 0) hl))) rfl ?_
  rw [e0]
  refine zH_go 2 (c' := (9, [some (.inr (.inr (some 104)))], [.inl (h 104 1)], (zs h hl))) rfl ?_
  refine zH_ret (v := some (.inl (h 104 1))) rfl (fun q => absurd q (by decide)) ?_
  exact ⟨rfl, rfl⟩
