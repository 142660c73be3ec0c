/-! LadderCalls: roads and reasons. -/
def zRdOk (h : Nat → Nat → Int) (a b len : Int) : Prop := zPl2 h a b ∧ a ≠ b ∧ 1 ≤ len ∧ len ≤ 100
/-- why no ROAD comes; 0: it may -/
def zNoRd (h : Nat → Nat → Int) (a b len x : Int) : Prop := (¬ zRdOk h a b len ∧ x = -1) ∨ (zRdOk h a b len ∧ 0 < h 21 3 ∧ x = -2) ∨ (zRdOk h a b len ∧ ¬ 0 < h 21 3 ∧ 15 ≤ h 3 1 ∧ x = -3) ∨ (zRdOk h a b len ∧ ¬ 0 < h 21 3 ∧ h 3 1 < 15 ∧ x = 0)
/-- why no CALL comes; 0: it may -/
def zNoCl (h : Nat → Nat → Int) (a x : Int) : Prop := (¬ (0 ≤ a ∧ a < h 3 0) ∧ x = -1) ∨ ((0 ≤ a ∧ a < h 3 0) ∧ ¬ 0 < h 21 3 ∧ x = -2) ∨ ((0 ≤ a ∧ a < h 3 0) ∧ 0 < h 21 3 ∧ 12 ≤ h 21 4 ∧ x = -3) ∨ ((0 ≤ a ∧ a < h 3 0) ∧ 0 < h 21 3 ∧ h 21 4 < 12 ∧ x = 0)
set_option maxRecDepth 100000 in
set_option maxHeartbeats 4000000 in
theorem p_noRoad {d : Nat} {h hl : Nat → Nat → Int} {a b len : Int} (ha : zr a) (hb : zr b) (hlen : zr len) (h31 : 0 ≤ h 3 1 ∧ h 3 1 ≤ 15) (hP : 0 ≤ h 3 0 ∧ h 3 0 ≤ 6) (hon : zr (h 21 3)) : zQ (d + 2) 66 [.inr (.inr (some 2)), .inl a, .inl b, .inl len] (zs h hl) (fun r σ' => ∃ x : Int, zNoRd h a b len x ∧ r = some (.inl x) ∧ σ' = zs h hl) := by
  refine zQ_of (Nat.le_of_ble_eq_true rfl) ?_
  show zH (d + 1) 66 (0, [some (.inr (.inr (some 2))), some (.inl a), some (.inl b), some (.inl len)], [], (zs h hl)) _
  refine zH_go 3 (c' := (5, [some (.inr (.inr (some 2))), some (.inl a), some (.inl b), some (.inl len)], [.inl a, .inr (.inr (some 3))], (zs h hl))) rfl ?_
  refine zH_call (M' := 48) (as := [.inr (.inr (some 3)), .inl a]) (T := []) rfl (p_has (by first | assumption | (unfold zr; omega)) hP) (fun r σ' p_1 => ?_)
  rcases p_1 with ⟨rfl, b_2, rfl⟩ | ⟨rfl, b_2, rfl⟩
  · show zH _ _ (8, [some (.inr (.inr (some 2))), some (.inl a), some (.inl b), some (.inl len)], [.inl 1], (zs h hl)) _
    refine zH_bf (x := 1) (y := 0) (k := .eq) (c1 := (27, [some (.inr (.inr (some 2))), some (.inl a), some (.inl b), some (.inl len)], [], (zs h hl))) (c2 := (11, [some (.inr (.inr (some 2))), some (.inl a), some (.inl b), some (.inl len)], [], (zs h hl))) rfl ⟨by decide, by decide⟩ ⟨by decide, by decide⟩ (by show ¬ (1 = 0); decide) ?_
    refine zH_go 3 (c' := (16, [some (.inr (.inr (some 2))), some (.inl a), some (.inl b), some (.inl len)], [.inl b, .inr (.inr (some 3))], (zs h hl))) rfl ?_
    refine zH_call (M' := 48) (as := [.inr (.inr (some 3)), .inl b]) (T := []) rfl (p_has (by first | assumption | (unfold zr; omega)) hP) (fun r σ' p_3 => ?_)
    rcases p_3 with ⟨rfl, b_4, rfl⟩ | ⟨rfl, b_4, rfl⟩
    · show zH _ _ (19, [some (.inr (.inr (some 2))), some (.inl a), some (.inl b), some (.inl len)], [.inl 1], (zs h hl)) _
      refine zH_bf (x := 1) (y := 0) (k := .eq) (c1 := (27, [some (.inr (.inr (some 2))), some (.inl a), some (.inl b), some (.inl len)], [], (zs h hl))) (c2 := (22, [some (.inr (.inr (some 2))), some (.inl a), some (.inl b), some (.inl len)], [], (zs h hl))) rfl ⟨by decide, by decide⟩ ⟨by decide, by decide⟩ (by show ¬ (1 = 0); decide) ?_
      refine zH_go 2 (c' := (24, [some (.inr (.inr (some 2))), some (.inl a), some (.inl b), some (.inl len)], [.inl b, .inl a], (zs h hl))) rfl ?_
      refine zH_br (x := a) (y := b) (k := .ne) (c1 := (29, [some (.inr (.inr (some 2))), some (.inl a), some (.inl b), some (.inl len)], [], (zs h hl))) (c2 := (27, [some (.inr (.inr (some 2))), some (.inl a), some (.inl b), some (.inl len)], [], (zs h hl))) rfl (by first | assumption | (unfold zr; omega)) (by first | assumption | (unfold zr; omega)) (fun (b_5 : ¬ a = b) => ?_) (fun (b_5 : ¬ (¬ a = b)) => ?_)
      · refine zH_go 2 (c' := (31, [some (.inr (.inr (some 2))), some (.inl a), some (.inl b), some (.inl len)], [.inl 1, .inl len], (zs h hl))) rfl ?_
        refine zH_br (x := len) (y := 1) (k := .lt) (c1 := (40, [some (.inr (.inr (some 2))), some (.inl a), some (.inl b), some (.inl len)], [], (zs h hl))) (c2 := (34, [some (.inr (.inr (some 2))), some (.inl a), some (.inl b), some (.inl len)], [], (zs h hl))) rfl (by first | assumption | (unfold zr; omega)) ⟨by decide, by decide⟩ (fun (b_6 : len < 1) => ?_) (fun (b_6 : ¬ (len < 1)) => ?_)
        · refine zH_go 1 (c' := (41, [some (.inr (.inr (some 2))), some (.inl a), some (.inl b), some (.inl len)], [.inl (-1)], (zs h hl))) rfl ?_
          refine zH_ret (v := some (.inl (-1))) rfl (fun q => absurd q (by decide)) ?_
          exact ⟨_, Or.inl ⟨by unfold zRdOk zPl2; omega, rfl⟩, rfl, rfl⟩
        · refine zH_go 2 (c' := (37, [some (.inr (.inr (some 2))), some (.inl a), some (.inl b), some (.inl len)], [.inl 100, .inl len], (zs h hl))) rfl ?_
          refine zH_br (x := len) (y := 100) (k := .le) (c1 := (42, [some (.inr (.inr (some 2))), some (.inl a), some (.inl b), some (.inl len)], [], (zs h hl))) (c2 := (40, [some (.inr (.inr (some 2))), some (.inl a), some (.inl b), some (.inl len)], [], (zs h hl))) rfl (by first | assumption | (unfold zr; omega)) ⟨by decide, by decide⟩ (fun (b_7 : ¬ 100 < len) => ?_) (fun (b_7 : ¬ (¬ 100 < len)) => ?_)
          · refine zH_go 2 (c' := (46, [some (.inr (.inr (some 2))), some (.inl a), some (.inl b), some (.inl len)], [.inr (.inr (some 21))], (zs h hl))) rfl ?_
            refine zH_call (M' := 12) (as := [.inr (.inr (some 21))]) (T := []) rfl (p_isOnD hon) (fun r σ' p_8 => ?_)
            rcases p_8 with ⟨rfl, b_9, rfl⟩ | ⟨rfl, b_9, rfl⟩
            · show zH _ _ (49, [some (.inr (.inr (some 2))), some (.inl a), some (.inl b), some (.inl len)], [.inl 1], (zs h hl)) _
              refine zH_bf (x := 1) (y := 0) (k := .eq) (c1 := (55, [some (.inr (.inr (some 2))), some (.inl a), some (.inl b), some (.inl len)], [], (zs h hl))) (c2 := (52, [some (.inr (.inr (some 2))), some (.inl a), some (.inl b), some (.inl len)], [], (zs h hl))) rfl ⟨by decide, by decide⟩ ⟨by decide, by decide⟩ (by show ¬ (1 = 0); decide) ?_
              refine zH_go 1 (c' := (54, [some (.inr (.inr (some 2))), some (.inl a), some (.inl b), some (.inl len)], [.inl (-2)], (zs h hl))) rfl ?_
              refine zH_ret (v := some (.inl (-2))) rfl (fun q => absurd q (by decide)) ?_
              exact ⟨_, Or.inr (Or.inl ⟨by unfold zRdOk zPl2; omega, by assumption, rfl⟩), rfl, rfl⟩
            · show zH _ _ (49, [some (.inr (.inr (some 2))), some (.inl a), some (.inl b), some (.inl len)], [.inl 0], (zs h hl)) _
              refine zH_bt (x := 0) (y := 0) (k := .eq) (c1 := (55, [some (.inr (.inr (some 2))), some (.inl a), some (.inl b), some (.inl len)], [], (zs h hl))) (c2 := (52, [some (.inr (.inr (some 2))), some (.inl a), some (.inl b), some (.inl len)], [], (zs h hl))) rfl ⟨by decide, by decide⟩ ⟨by decide, by decide⟩ (by show 0 = 0; decide) ?_
              refine zH_go 4 (c' := (64, [some (.inr (.inr (some 2))), some (.inl a), some (.inl b), some (.inl len)], [.inl 15, .inl (h 3 1)], (zs h hl))) rfl ?_
              refine zH_br (x := (h 3 1)) (y := 15) (k := .lt) (c1 := (72, [some (.inr (.inr (some 2))), some (.inl a), some (.inl b), some (.inl len)], [], (zs h hl))) (c2 := (67, [some (.inr (.inr (some 2))), some (.inl a), some (.inl b), some (.inl len)], [], (zs h hl))) rfl (by first | assumption | (unfold zr; omega)) ⟨by decide, by decide⟩ (fun (b_10 : (h 3 1) < 15) => ?_) (fun (b_10 : ¬ ((h 3 1) < 15)) => ?_)
              · refine zH_go 1 (c' := (73, [some (.inr (.inr (some 2))), some (.inl a), some (.inl b), some (.inl len)], [.inl 0], (zs h hl))) rfl ?_
                refine zH_ret (v := some (.inl 0)) rfl (fun q => absurd q (by decide)) ?_
                exact ⟨_, Or.inr (Or.inr (Or.inr ⟨by unfold zRdOk zPl2; omega, by assumption, by omega, rfl⟩)), rfl, rfl⟩
              · refine zH_go 2 (c' := (73, [some (.inr (.inr (some 2))), some (.inl a), some (.inl b), some (.inl len)], [.inl (-3)], (zs h hl))) rfl ?_
                refine zH_ret (v := some (.inl (-3))) rfl (fun q => absurd q (by decide)) ?_
                exact ⟨_, Or.inr (Or.inr (Or.inl ⟨by unfold zRdOk zPl2; omega, by assumption, by omega, rfl⟩)), rfl, rfl⟩
          · refine zH_go 1 (c' := (41, [some (.inr (.inr (some 2))), some (.inl a), some (.inl b), some (.inl len)], [.inl (-1)], (zs h hl))) rfl ?_
            refine zH_ret (v := some (.inl (-1))) rfl (fun q => absurd q (by decide)) ?_
            exact ⟨_, Or.inl ⟨by unfold zRdOk zPl2; omega, rfl⟩, rfl, rfl⟩
      · refine zH_go 1 (c' := (28, [some (.inr (.inr (some 2))), some (.inl a), some (.inl b), some (.inl len)], [.inl (-1)], (zs h hl))) rfl ?_
        refine zH_ret (v := some (.inl (-1))) rfl (fun q => absurd q (by decide)) ?_
        exact ⟨_, Or.inl ⟨by unfold zRdOk zPl2; omega, rfl⟩, rfl, rfl⟩
    · show zH _ _ (19, [some (.inr (.inr (some 2))), some (.inl a), some (.inl b), some (.inl len)], [.inl 0], (zs h hl)) _
      refine zH_bt (x := 0) (y := 0) (k := .eq) (c1 := (27, [some (.inr (.inr (some 2))), some (.inl a), some (.inl b), some (.inl len)], [], (zs h hl))) (c2 := (22, [some (.inr (.inr (some 2))), some (.inl a), some (.inl b), some (.inl len)], [], (zs h hl))) rfl ⟨by decide, by decide⟩ ⟨by decide, by decide⟩ (by show 0 = 0; decide) ?_
      refine zH_go 1 (c' := (28, [some (.inr (.inr (some 2))), some (.inl a), some (.inl b), some (.inl len)], [.inl (-1)], (zs h hl))) rfl ?_
      refine zH_ret (v := some (.inl (-1))) rfl (fun q => absurd q (by decide)) ?_
      exact ⟨_, Or.inl ⟨by unfold zRdOk zPl2; omega, rfl⟩, rfl, rfl⟩
  · show zH _ _ (8, [some (.inr (.inr (some 2))), some (.inl a), some (.inl b), some (.inl len)], [.inl 0], (zs h hl)) _
    refine zH_bt (x := 0) (y := 0) (k := .eq) (c1 := (27, [some (.inr (.inr (some 2))), some (.inl a), some (.inl b), some (.inl len)], [], (zs h hl))) (c2 := (11, [some (.inr (.inr (some 2))), some (.inl a), some (.inl b), some (.inl len)], [], (zs h hl))) rfl ⟨by decide, by decide⟩ ⟨by decide, by decide⟩ (by show 0 = 0; decide) ?_
    refine zH_go 1 (c' := (28, [some (.inr (.inr (some 2))), some (.inl a), some (.inl b), some (.inl len)], [.inl (-1)], (zs h hl))) rfl ?_
    refine zH_ret (v := some (.inl (-1))) rfl (fun q => absurd q (by decide)) ?_
    exact ⟨_, Or.inl ⟨by unfold zRdOk zPl2; omega, rfl⟩, rfl, rfl⟩
set_option maxRecDepth 100000 in
set_option maxHeartbeats 4000000 in
theorem p_noCall {d : Nat} {h hl : Nat → Nat → Int} {a : Int} (ha : zr a) (h214 : 0 ≤ h 21 4 ∧ h 21 4 ≤ 12) (hP : 0 ≤ h 3 0 ∧ h 3 0 ≤ 6) (hon : zr (h 21 3)) : zQ (d + 2) 77 [.inr (.inr (some 2)), .inl a] (zs h hl) (fun r σ' => ∃ x : Int, zNoCl h a x ∧ r = some (.inl x) ∧ σ' = zs h hl) := by
  refine zQ_of (Nat.le_of_ble_eq_true rfl) ?_
  show zH (d + 1) 77 (0, [some (.inr (.inr (some 2))), some (.inl a)], [], (zs h hl)) _
  refine zH_go 3 (c' := (5, [some (.inr (.inr (some 2))), some (.inl a)], [.inl a, .inr (.inr (some 3))], (zs h hl))) rfl ?_
  refine zH_call (M' := 48) (as := [.inr (.inr (some 3)), .inl a]) (T := []) rfl (p_has (by first | assumption | (unfold zr; omega)) hP) (fun r σ' p_1 => ?_)
  rcases p_1 with ⟨rfl, b_2, rfl⟩ | ⟨rfl, b_2, rfl⟩
  · show zH _ _ (8, [some (.inr (.inr (some 2))), some (.inl a)], [.inl 1], (zs h hl)) _
    refine zH_bt (x := 1) (y := 0) (k := .ne) (c1 := (13, [some (.inr (.inr (some 2))), some (.inl a)], [], (zs h hl))) (c2 := (11, [some (.inr (.inr (some 2))), some (.inl a)], [], (zs h hl))) rfl ⟨by decide, by decide⟩ ⟨by decide, by decide⟩ (by show ¬ 1 = 0; decide) ?_
    refine zH_go 2 (c' := (17, [some (.inr (.inr (some 2))), some (.inl a)], [.inr (.inr (some 21))], (zs h hl))) rfl ?_
    refine zH_call (M' := 12) (as := [.inr (.inr (some 21))]) (T := []) rfl (p_isOnD hon) (fun r σ' p_3 => ?_)
    rcases p_3 with ⟨rfl, b_4, rfl⟩ | ⟨rfl, b_4, rfl⟩
    · show zH _ _ (20, [some (.inr (.inr (some 2))), some (.inl a)], [.inl 1], (zs h hl)) _
      refine zH_bt (x := 1) (y := 0) (k := .ne) (c1 := (26, [some (.inr (.inr (some 2))), some (.inl a)], [], (zs h hl))) (c2 := (23, [some (.inr (.inr (some 2))), some (.inl a)], [], (zs h hl))) rfl ⟨by decide, by decide⟩ ⟨by decide, by decide⟩ (by show ¬ 1 = 0; decide) ?_
      refine zH_go 4 (c' := (35, [some (.inr (.inr (some 2))), some (.inl a)], [.inl 12, .inl (h 21 4)], (zs h hl))) rfl ?_
      refine zH_br (x := (h 21 4)) (y := 12) (k := .lt) (c1 := (43, [some (.inr (.inr (some 2))), some (.inl a)], [], (zs h hl))) (c2 := (38, [some (.inr (.inr (some 2))), some (.inl a)], [], (zs h hl))) rfl (by first | assumption | (unfold zr; omega)) ⟨by decide, by decide⟩ (fun (b_5 : (h 21 4) < 12) => ?_) (fun (b_5 : ¬ ((h 21 4) < 12)) => ?_)
      · refine zH_go 1 (c' := (44, [some (.inr (.inr (some 2))), some (.inl a)], [.inl 0], (zs h hl))) rfl ?_
        refine zH_ret (v := some (.inl 0)) rfl (fun q => absurd q (by decide)) ?_
        exact ⟨_, Or.inr (Or.inr (Or.inr ⟨by omega, by assumption, by omega, rfl⟩)), rfl, rfl⟩
      · refine zH_go 2 (c' := (44, [some (.inr (.inr (some 2))), some (.inl a)], [.inl (-3)], (zs h hl))) rfl ?_
        refine zH_ret (v := some (.inl (-3))) rfl (fun q => absurd q (by decide)) ?_
        exact ⟨_, Or.inr (Or.inr (Or.inl ⟨by omega, by assumption, by omega, rfl⟩)), rfl, rfl⟩
    · show zH _ _ (20, [some (.inr (.inr (some 2))), some (.inl a)], [.inl 0], (zs h hl)) _
      refine zH_bf (x := 0) (y := 0) (k := .ne) (c1 := (26, [some (.inr (.inr (some 2))), some (.inl a)], [], (zs h hl))) (c2 := (23, [some (.inr (.inr (some 2))), some (.inl a)], [], (zs h hl))) rfl ⟨by decide, by decide⟩ ⟨by decide, by decide⟩ (by show ¬ (¬ 0 = 0); decide) ?_
      refine zH_go 1 (c' := (25, [some (.inr (.inr (some 2))), some (.inl a)], [.inl (-2)], (zs h hl))) rfl ?_
      refine zH_ret (v := some (.inl (-2))) rfl (fun q => absurd q (by decide)) ?_
      exact ⟨_, Or.inr (Or.inl ⟨by omega, by assumption, rfl⟩), rfl, rfl⟩
  · show zH _ _ (8, [some (.inr (.inr (some 2))), some (.inl a)], [.inl 0], (zs h hl)) _
    refine zH_bf (x := 0) (y := 0) (k := .ne) (c1 := (13, [some (.inr (.inr (some 2))), some (.inl a)], [], (zs h hl))) (c2 := (11, [some (.inr (.inr (some 2))), some (.inl a)], [], (zs h hl))) rfl ⟨by decide, by decide⟩ ⟨by decide, by decide⟩ (by show ¬ (¬ 0 = 0); decide) ?_
    refine zH_go 1 (c' := (12, [some (.inr (.inr (some 2))), some (.inl a)], [.inl (-1)], (zs h hl))) rfl ?_
    refine zH_ret (v := some (.inl (-1))) rfl (fun q => absurd q (by decide)) ?_
    exact ⟨_, Or.inl ⟨by omega, rfl⟩, rfl, rfl⟩
set_option maxRecDepth 100000 in
set_option maxHeartbeats 4000000 in
theorem p_told {d : Nat} {h hl : Nat → Nat → Int} {n : Nat} {i what : Int} (hi : zr i) (hw : zr what) (hn : h 21 4 = (n : Int)) (hn2 : n ≤ 12) : zQ (d + 2) 75 [.inr (.inr (some 2)), .inl i, .inl what] (zs h hl) (fun r σ' => ∃ x : Int, zTold h 42 43 44 45 n i what x ∧ r = some (.inl x) ∧ σ' = zs h hl) := by
  refine zQ_of (Nat.le_of_ble_eq_true rfl) ?_
  show zH (d + 1) 75 (0, [some (.inr (.inr (some 2))), some (.inl i), some (.inl what)], [], (zs h hl)) _
  refine zH_go 4 (c' := (6, [some (.inr (.inr (some 2))), some (.inl i), some (.inl what)], [.inl what, .inl i, .inr (.inr (some 21))], (zs h hl))) rfl ?_
  refine zH_call (M' := 24) (as := [.inr (.inr (some 21)), .inl i, .inl what]) (T := []) rfl (p_toldD hi hw hn hn2) (fun r σ' p_1 => ?_)
  obtain ⟨x, hx, rfl, rfl⟩ := p_1
  show zH _ _ (9, [some (.inr (.inr (some 2))), some (.inl i), some (.inl what)], [.inl x], (zs h hl)) _
  refine zH_ret (v := some (.inl x)) rfl (fun q => absurd q (by decide)) ?_
  exact ⟨x, hx, rfl, rfl⟩
set_option maxRecDepth 100000 in
set_option maxHeartbeats 4000000 in
theorem p_cost {d : Nat} {h hl : Nat → Nat → Int} {l : Int} (hl1 : zr l) (hL : 0 ≤ h 21 3 ∧ h 21 3 ≤ 3) (hon : zr (h 21 3)) : zQ (d + 2) 76 [.inr (.inr (some 2)), .inl l] (zs h hl) (fun r σ' => (¬ 0 < h 21 3 ∧ r = some (.inl (-2)) ∧ σ' = zs h hl) ∨ (0 < h 21 3 ∧ (l < -1 ∨ h 21 3 ≤ l) ∧ r = some (.inl (-1)) ∧ σ' = zs h hl) ∨ (0 < h 21 3 ∧ l = -1 ∧ r = some (.inl (h 41 0 + h 41 1 + h 41 2)) ∧ σ' = zs h hl) ∨ (0 < h 21 3 ∧ 0 ≤ l ∧ l < h 21 3 ∧ r = some (.inl (h 41 (Int.toNat l))) ∧ σ' = zs h hl)) := by
  refine zQ_of (Nat.le_of_ble_eq_true rfl) ?_
  show zH (d + 1) 76 (0, [some (.inr (.inr (some 2))), some (.inl l)], [], (zs h hl)) _
  refine zH_go 2 (c' := (4, [some (.inr (.inr (some 2))), some (.inl l)], [.inr (.inr (some 21))], (zs h hl))) rfl ?_
  refine zH_call (M' := 12) (as := [.inr (.inr (some 21))]) (T := []) rfl (p_isOnD hon) (fun r σ' p_1 => ?_)
  rcases p_1 with ⟨rfl, b_2, rfl⟩ | ⟨rfl, b_2, rfl⟩
  · show zH _ _ (7, [some (.inr (.inr (some 2))), some (.inl l)], [.inl 1], (zs h hl)) _
    refine zH_bt (x := 1) (y := 0) (k := .ne) (c1 := (13, [some (.inr (.inr (some 2))), some (.inl l)], [], (zs h hl))) (c2 := (10, [some (.inr (.inr (some 2))), some (.inl l)], [], (zs h hl))) rfl ⟨by decide, by decide⟩ ⟨by decide, by decide⟩ (by show ¬ 1 = 0; decide) ?_
    refine zH_go 2 (c' := (15, [some (.inr (.inr (some 2))), some (.inl l)], [.inl (-1), .inl l], (zs h hl))) rfl ?_
    refine zH_br (x := l) (y := (-1)) (k := .lt) (c1 := (29, [some (.inr (.inr (some 2))), some (.inl l)], [], (zs h hl))) (c2 := (18, [some (.inr (.inr (some 2))), some (.inl l)], [], (zs h hl))) rfl (by first | assumption | (unfold zr; omega)) ⟨by decide, by decide⟩ (fun (b_3 : l < (-1)) => ?_) (fun (b_3 : ¬ (l < (-1))) => ?_)
    · refine zH_go 1 (c' := (30, [some (.inr (.inr (some 2))), some (.inl l)], [.inl (-1)], (zs h hl))) rfl ?_
      refine zH_ret (v := some (.inl (-1))) rfl (fun q => absurd q (by decide)) ?_
      exact Or.inr (Or.inl ⟨by assumption, by omega, rfl, rfl⟩)
    · refine zH_go 4 (c' := (26, [some (.inr (.inr (some 2))), some (.inl l)], [.inl (h 21 3), .inl l], (zs h hl))) rfl ?_
      refine zH_br (x := l) (y := (h 21 3)) (k := .lt) (c1 := (31, [some (.inr (.inr (some 2))), some (.inl l)], [], (zs h hl))) (c2 := (29, [some (.inr (.inr (some 2))), some (.inl l)], [], (zs h hl))) rfl (by first | assumption | (unfold zr; omega)) (by first | assumption | (unfold zr; omega)) (fun (b_4 : l < (h 21 3)) => ?_) (fun (b_4 : ¬ (l < (h 21 3))) => ?_)
      · refine zH_go 2 (c' := (33, [some (.inr (.inr (some 2))), some (.inl l)], [.inl (-1), .inl l], (zs h hl))) rfl ?_
        refine zH_br (x := l) (y := (-1)) (k := .ne) (c1 := (46, [some (.inr (.inr (some 2))), some (.inl l)], [], (zs h hl))) (c2 := (36, [some (.inr (.inr (some 2))), some (.inl l)], [], (zs h hl))) rfl (by first | assumption | (unfold zr; omega)) ⟨by decide, by decide⟩ (fun (b_5 : ¬ l = (-1)) => ?_) (fun (b_5 : ¬ (¬ l = (-1))) => ?_)
        · refine zH_go 3 (c' := (51, [some (.inr (.inr (some 2))), some (.inl l)], [.inl l, .inr (.inr (some 21))], (zs h hl))) rfl ?_
          obtain ⟨y, rfl⟩ := Int.eq_ofNat_of_zero_le (show 0 ≤ l by omega)
          refine zH_call (M' := 21) (as := [.inr (.inr (some 21)), .inl (y : Int)]) (T := []) rfl (p_walkedD (l := y) (by omega)) (fun r σ' p_6 => ?_)
          obtain ⟨rfl, rfl⟩ := p_6
          show zH _ _ (54, [some (.inr (.inr (some 2))), some (.inl (y : Int))], [.inl (h 41 y)], (zs h hl)) _
          refine zH_ret (v := some (.inl (h 41 y))) rfl (fun q => absurd q (by decide)) ?_
          exact Or.inr (Or.inr (Or.inr ⟨by assumption, by omega, by omega, rfl, rfl⟩))
        · refine zH_go 2 (c' := (40, [some (.inr (.inr (some 2))), some (.inl l)], [.inr (.inr (some 21))], (zs h hl))) rfl ?_
          refine zH_call (M' := 22) (as := [.inr (.inr (some 21))]) (T := []) rfl (p_paidD) (fun r σ' p_7 => ?_)
          obtain ⟨rfl, rfl⟩ := p_7
          show zH _ _ (43, [some (.inr (.inr (some 2))), some (.inl l)], [.inl (h 41 0 + h 41 1 + h 41 2)], (zs h hl)) _
          refine zH_go 1 (c' := (54, [some (.inr (.inr (some 2))), some (.inl l)], [.inl (h 41 0 + h 41 1 + h 41 2)], (zs h hl))) rfl ?_
          refine zH_ret (v := some (.inl (h 41 0 + h 41 1 + h 41 2))) rfl (fun q => absurd q (by decide)) ?_
          exact Or.inr (Or.inr (Or.inl ⟨by assumption, by omega, rfl, rfl⟩))
      · refine zH_go 1 (c' := (30, [some (.inr (.inr (some 2))), some (.inl l)], [.inl (-1)], (zs h hl))) rfl ?_
        refine zH_ret (v := some (.inl (-1))) rfl (fun q => absurd q (by decide)) ?_
        exact Or.inr (Or.inl ⟨by assumption, by omega, rfl, rfl⟩)
  · show zH _ _ (7, [some (.inr (.inr (some 2))), some (.inl l)], [.inl 0], (zs h hl)) _
    refine zH_bf (x := 0) (y := 0) (k := .ne) (c1 := (13, [some (.inr (.inr (some 2))), some (.inl l)], [], (zs h hl))) (c2 := (10, [some (.inr (.inr (some 2))), some (.inl l)], [], (zs h hl))) rfl ⟨by decide, by decide⟩ ⟨by decide, by decide⟩ (by show ¬ (¬ 0 = 0); decide) ?_
    refine zH_go 1 (c' := (12, [some (.inr (.inr (some 2))), some (.inl l)], [.inl (-2)], (zs h hl))) rfl ?_
    refine zH_ret (v := some (.inl (-2))) rfl (fun q => absurd q (by decide)) ?_
    exact Or.inl ⟨by assumption, rfl, rfl⟩
