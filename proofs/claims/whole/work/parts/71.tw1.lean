/-! Call by call: both objects answer alike (1). -/
def zTw (M : Nat) (as : List zV) (M' : Nat) (bs : List zV) (X XL : Nat → Int) (t : Nat) (h hl : Nat → Nat → Int) : Prop := zQ 9 M as (zs h hl) (fun ρ σ' => ∃ (x : Int) (g gl : Nat → Nat → Int), ρ = some (.inl x) ∧ zr x ∧ σ' = zs g gl ∧ g 1 = X ∧ gl 1 = XL ∧ zQ 9 M' bs (zs g gl) (fun r2 σ2 => ∃ (p r : Nat) (g2 gl2 : Nat → Nat → Int), r2 = some (.inl x) ∧ σ2 = zs g2 gl2 ∧ zLi X XL (t + 1) p r g2 gl2))
def zTwl (M : Nat) (as : List zV) (M' : Nat) (bs : List zV) (X XL : Nat → Int) (t : Nat) (h hl : Nat → Nat → Int) : Prop := zQ 9 M as (zs h hl) (fun ρ σ' => ∃ (x : Int) (g gl : Nat → Nat → Int), ρ = some (.inr (.inl x)) ∧ zrl x ∧ σ' = zs g gl ∧ g 1 = X ∧ gl 1 = XL ∧ zQ 9 M' bs (zs g gl) (fun r2 σ2 => ∃ (p r : Nat) (g2 gl2 : Nat → Nat → Int), r2 = some (.inr (.inl x)) ∧ σ2 = zs g2 gl2 ∧ zLi X XL (t + 1) p r g2 gl2))
section ZTW
variable {X XL : Nat → Int} {t p r : Nat} {h hl g gl : Nat → Nat → Int}
theorem zLi_m (hI : zLi X XL t p r h hl) {m : Nat → Nat → Int} (em : zup h 104 0 0 = m) : (∀ c : Nat, c ≠ 104 → m c = h c) ∧ (∀ j : Nat, j ≠ 0 → m 104 j = h 104 j) ∧ zLi X XL t p r m hl := by
  have mo : ∀ c : Nat, c ≠ 104 → m c = h c := fun c hc => by rw [← em]; funext q; exact zup_ne hc
  have mj : ∀ j : Nat, j ≠ 0 → m 104 j = h 104 j := fun j hj => by rw [← em]; exact zup_k hj
  have hIc := hI
  obtain ⟨x1, x2, tw, od, z38, z56, kd, kd2, st, st2, tr, tr2, b0, b1, b2, dy⟩ := hIc
  exact ⟨mo, mj, zLi_same hI (Int.le_refl 0) (by omega) (fun c hc => mo c (by omega)) (by rw [mo 2 (by decide)]) ⟨by rw [mo 2 (by decide)]; exact st, by rw [mj 1 (by decide), mo 2 (by decide)]; exact st2⟩ (fun j hj => by rw [mo 56 (by decide)]; exact z56 j hj) (fun j h0 _ => mj j h0) (Or.inl (mo 108 (by decide))) (fun c _ _ => rfl) (Int.add_zero _).symm (Int.add_zero _).symm⟩
/-- the same but for cells the invariant does not speak of, and THE TRACE -/
theorem zLi_q {δ : Int} (hI : zLi X XL t p r h hl) (hδ : 0 ≤ δ ∧ δ ≤ 700000) (h1 : ∀ c : Nat, c < 48 ∨ (81 ≤ c ∧ c < 108) ∨ (109 ≤ c ∧ c < 118) ∨ (119 ≤ c ∧ c < 124) → g c = h c) (h56 : ∀ j : Nat, j < 4 → zr (g 56 j)) (h108 : g 108 = h 108 ∨ ∀ i j : Nat, i < 6 → j < 6 → g 108 (6 * i + j) = zFa h i j) (hl1 : ∀ c : Nat, c ≠ 81 → c ≠ 104 → gl c = hl c) (hl2 : gl 81 0 = hl 81 0 + δ) (hl3 : gl 104 2 = hl 104 2 + δ) : zLi X XL (t + 1) p r g gl := by
  have hIc := hI
  obtain ⟨x1, x2, tw, od, z38, z56, kd, kd2, st, st2, tr, tr2, b0, b1, b2, dy⟩ := hIc
  exact zLi_same hI hδ.1 (by omega) (fun c hc => h1 c (by omega)) (by rw [h1 2 (by decide)]) ⟨by rw [h1 2 (by decide)]; exact st, by rw [h1 104 (by decide), h1 2 (by decide)]; exact st2⟩ h56 (fun j _ _ => by rw [h1 104 (by decide)]) h108 hl1 hl2 hl3
theorem zLi_up (hI : zLi X XL t p r h hl) : zLi X XL (t + 1) p r h hl := zLi_q (δ := 0) hI ⟨by decide, by decide⟩ (fun c _ => rfl) (by obtain ⟨x1, x2, tw, od, z38, z56, -⟩ := hI; exact z56) (Or.inl rfl) (fun c _ _ => rfl) (Int.add_zero _).symm (Int.add_zero _).symm
theorem zLi_108 {g2 : Nat → Nat → Int} (hI : zLi X XL t p r h hl) (hg : g2 = h ∨ ((∀ c : Nat, c ≠ 108 → g2 c = h c) ∧ (∀ i j : Nat, i < 6 → j < 6 → g2 108 (6 * i + j) = zFa h i j))) : zLi X XL (t + 1) p r g2 hl := by
  rcases hg with rfl | ⟨w1, w2⟩
  · exact zLi_up hI
  · refine zLi_q (δ := 0) hI ⟨by decide, by decide⟩ (fun c hc => w1 c (by omega)) ?_ (Or.inr w2) (fun c _ _ => rfl) (Int.add_zero _).symm (Int.add_zero _).symm
    obtain ⟨x1, x2, tw, od, z38, z56, -⟩ := hI
    intro j hj
    rw [w1 56 (by decide)]
    exact z56 j hj
theorem zDay_b (hd : zDay h hl p) : (0 ≤ h 21 3 ∧ h 21 3 ≤ 3) ∧ (0 ≤ h 21 4 ∧ h 21 4 ≤ 12) ∧ h 104 9 = h 21 3 ∧ h 104 15 = h 21 4 ∧ (0 < h 21 4 → 0 < h 21 3) := by
  rcases hd with ⟨a, b, c, d⟩ | ⟨L, B, n, s, n12, dc, dm⟩
  · omega
  · have l1 := dc.1.1.1
    have l2 := dc.1.2.2.2.1
    have l3 := dc.1.2.2.2.2.1
    have l4 := dm.1
    have l5 := dm.2.2.2.1
    omega
theorem zDay_on (hd : zDay h hl p) : ∃ (L B n : Nat) (s : zDS), 0 < h 21 3 → zJ h hl p L B n s := by
  rcases hd with ⟨a, b, c, d⟩ | ⟨L, B, n, s, hj⟩
  · exact ⟨0, 0, 0, (fun _ => 0, fun _ => 0, 0, 0, fun _ _ => 0), fun q => absurd q (by omega)⟩
  · exact ⟨L, B, n, s, fun _ => hj⟩
theorem zJ_same {m : Nat → Nat → Int} {L B n : Nat} {s : zDS} (hp6 : p ≤ 6) (hj : zJ h hl p L B n s) (h1 : ∀ c : Nat, (c < 48 ∧ c ≠ 2) ∨ (105 ≤ c ∧ c < 118) → m c = h c) (h2 : ∀ j : Nat, j ≠ 0 → j ≠ 1 → m 104 j = h 104 j) : zJ m hl p L B n s := by
  obtain ⟨n12, dc, dm⟩ := hj
  have hb := zDc_b dc
  have a := zDc_same (gl := hl) (δ := 0) (fun c hc => h1 c (by omega)) (h1 0 (by decide)) (Int.add_zero _).symm dc
  have b := zDm_same2 (gl := hl) (δ := 0) dm (fun c hc => h1 c (by omega)) (fun i j hi hj => by rw [h1 108 (by decide)]) ⟨h2 9 (by decide) (by decide), h2 10 (by decide) (by decide), h2 14 (by decide) (by decide), h2 15 (by decide) (by decide)⟩ (Int.add_zero _).symm (fun j hj => by have := hb.2 j hj; omega)
  rw [Int.add_zero] at a b
  exact ⟨n12, a, b⟩
theorem zr_nat {x : Nat} (h : x < 2147483648) : zr (x : Int) := ⟨by omega, by omega⟩
theorem zNext_z {a b : Nat} {x : Int} (hb : b < 6) (hx : zNext h a b x) : zr x := by
  rcases hx with ⟨a1, a2⟩ | ⟨a1, a2, a3⟩ | ⟨a1, a2, ⟨c, c1, c2, c3⟩ | ⟨c1, c2⟩⟩
  · exact ⟨by omega, by omega⟩
  · exact ⟨by omega, by omega⟩
  · exact ⟨by omega, by omega⟩
  · exact ⟨by omega, by omega⟩
theorem zNext_m {m : Nat → Nat → Int} {a b : Nat} {x : Int} (hm : ∀ c : Nat, 5 ≤ c ∧ c < 18 → m c = h c) (ha : a < 6) (hx : zNext m a b x) : zNext h a b x := by
  have e1 : m (12 + a) = h (12 + a) := hm _ (by omega)
  have e2 : m (5 + a) = h (5 + a) := hm _ (by omega)
  have e3 : ∀ c : Nat, c < 6 → m (12 + c) b = h (12 + c) b := fun c hc => by rw [hm (12 + c) (by omega)]
  rcases hx with ⟨a1, a2⟩ | ⟨a1, a2, a3⟩ | ⟨a1, a2, ⟨c, c1, c2, c3, c4⟩ | ⟨c1, c2⟩⟩
  · exact Or.inl ⟨a1, a2⟩
  · exact Or.inr (Or.inl ⟨a1, by rw [← e1]; exact a2, a3⟩)
  · refine Or.inr (Or.inr ⟨a1, by rw [← e1]; exact a2, Or.inl ⟨c, c1, c2, by rw [← e1, ← e2, ← e3 c c1]; exact c3, fun c' hc' => ?_⟩⟩)
    rw [← e1, ← e2, ← e3 c' (by omega)]
    exact c4 c' hc'
  · refine Or.inr (Or.inr ⟨a1, by rw [← e1]; exact a2, Or.inr ⟨c1, fun c' hc' => ?_⟩⟩)
    rw [← e1, ← e2, ← e3 c' hc']
    exact c2 c' hc'
theorem zT_apart (hI : zLi X XL t p r h hl) {a b : Int} (ha : zr a) (hb : zr b) : zTw 64 [.inr (.inr (some 2)), .inl a, .inl b] 110 [.inr (.inr (some 104)), .inl a, .inl b] X XL t h hl := by
  have hIc := hI
  obtain ⟨x1, x2, tw, od, z38, z56, kd, kd2, st, st2, tr, tr2, b0, b1, b2, dy⟩ := hIc
  have twc := tw
  obtain ⟨hp6, hr15, h30, h31, hp3, hr4, hMe, hTB, hCn, hPo, hRd, hLk, hGr⟩ := twc
  have hdb := zDay_b dy
  have hP : 0 ≤ h 3 0 ∧ h 3 0 ≤ 6 := by omega
  have hon : zr (h 21 3) := ⟨by omega, by omega⟩
  obtain ⟨L, B, n, s, hJ⟩ := zDay_on dy
  obtain ⟨m, em⟩ : ∃ m, zup h 104 0 0 = m := ⟨_, rfl⟩
  obtain ⟨mo, mj, hIm⟩ := zLi_m hI em
  have twm := hIm.2.2.1
  have m3 := mj 3 (by decide)
  have m4 := mj 4 (by decide)
  have m9 := mj 9 (by decide)
  have m15 := mj 15 (by decide)
  have m11 := mj 11 (by decide)
  have hPm : 0 ≤ m 104 3 ∧ m 104 3 ≤ 6 := by omega
  have h9m : 0 ≤ m 104 9 ∧ m 104 9 ≤ 3 := by omega
  have h15m : 0 ≤ m 104 15 ∧ m 104 15 ≤ 12 := by omega
  have hJm : 0 < h 21 3 → zJ m hl p L B n s := fun q => zJ_same hp6 (hJ q) (fun c hc => mo c (by omega)) (fun j h0 _ => mj j h0)
  have hDm : 0 < m 104 9 → zMH m p L B n s ∧ zDm m hl p L B n s := fun q => ⟨zMH_of twm (hJm (by omega)), (hJm (by omega)).2.2⟩
  have hmo := p_apartO (hl := hl) (d := 6) em ha hb twm
  refine zQ_imp (p_apart (d := 7) ha hb hTB hP) (fun ρ σ' pc => ?_)
  rcases pc with ⟨q, rfl, rfl⟩ | ⟨q1, q2, rfl, rfl⟩ | ⟨q1, q2, rfl, rfl⟩
  · skip
    refine ⟨_, h, hl, rfl, ⟨by decide, by decide⟩, rfl, x1, x2, zQ_imp hmo (fun r2 σ2 pm => ?_)⟩
    obtain ⟨g2, pm, hg⟩ := pm
    rcases pm with ⟨w, rfl, rfl⟩ | ⟨w1, w2, rfl, rfl⟩ | ⟨w1, w2, rfl, rfl⟩
    · skip
      exact ⟨p, r, g2, hl, rfl, rfl, zLi_108 hIm hg⟩
    · skip
      exfalso
      unfold zPl2 at *
      have e := congrFun (mo (12 + Int.toNat a) (by omega)) (Int.toNat b)
      omega
    · skip
      exfalso
      unfold zPl2 at *
      have e := congrFun (mo (12 + Int.toNat a) (by omega)) (Int.toNat b)
      omega
  · skip
    unfold zPl2 at q1
    refine ⟨_, h, hl, rfl, ⟨by decide, by decide⟩, rfl, x1, x2, zQ_imp hmo (fun r2 σ2 pm => ?_)⟩
    obtain ⟨g2, pm, hg⟩ := pm
    rcases pm with ⟨w, rfl, rfl⟩ | ⟨w1, w2, rfl, rfl⟩ | ⟨w1, w2, rfl, rfl⟩
    · skip
      exfalso
      unfold zPl2 at *
      have e := congrFun (mo (12 + Int.toNat a) (by omega)) (Int.toNat b)
      omega
    · skip
      exact ⟨p, r, g2, hl, rfl, rfl, zLi_108 hIm hg⟩
    · skip
      exfalso
      unfold zPl2 at *
      have e := congrFun (mo (12 + Int.toNat a) (by omega)) (Int.toNat b)
      omega
  · skip
    refine ⟨_, h, hl, rfl, (by unfold zPl2 at q1; have := hTB (Int.toNat a) (Int.toNat b) (by omega) (by omega); exact ⟨by omega, by omega⟩), rfl, x1, x2, zQ_imp hmo (fun r2 σ2 pm => ?_)⟩
    obtain ⟨g2, pm, hg⟩ := pm
    rcases pm with ⟨w, rfl, rfl⟩ | ⟨w1, w2, rfl, rfl⟩ | ⟨w1, w2, rfl, rfl⟩
    · skip
      exfalso
      unfold zPl2 at *
      have e := congrFun (mo (12 + Int.toNat a) (by omega)) (Int.toNat b)
      omega
    · skip
      exfalso
      unfold zPl2 at *
      have e := congrFun (mo (12 + Int.toNat a) (by omega)) (Int.toNat b)
      omega
    · skip
      rw [mo (12 + Int.toNat a) (by unfold zPl2 at q1; omega)]
      exact ⟨p, r, g2, hl, rfl, rfl, zLi_108 hIm hg⟩
theorem zT_way (hI : zLi X XL t p r h hl) {a b : Int} (ha : zr a) (hb : zr b) : zTw 65 [.inr (.inr (some 2)), .inl a, .inl b] 111 [.inr (.inr (some 104)), .inl a, .inl b] X XL t h hl := by
  have hIc := hI
  obtain ⟨x1, x2, tw, od, z38, z56, kd, kd2, st, st2, tr, tr2, b0, b1, b2, dy⟩ := hIc
  have twc := tw
  obtain ⟨hp6, hr15, h30, h31, hp3, hr4, hMe, hTB, hCn, hPo, hRd, hLk, hGr⟩ := twc
  have hdb := zDay_b dy
  have hP : 0 ≤ h 3 0 ∧ h 3 0 ≤ 6 := by omega
  have hon : zr (h 21 3) := ⟨by omega, by omega⟩
  obtain ⟨L, B, n, s, hJ⟩ := zDay_on dy
  obtain ⟨m, em⟩ : ∃ m, zup h 104 0 0 = m := ⟨_, rfl⟩
  obtain ⟨mo, mj, hIm⟩ := zLi_m hI em
  have twm := hIm.2.2.1
  have m3 := mj 3 (by decide)
  have m4 := mj 4 (by decide)
  have m9 := mj 9 (by decide)
  have m15 := mj 15 (by decide)
  have m11 := mj 11 (by decide)
  have hPm : 0 ≤ m 104 3 ∧ m 104 3 ≤ 6 := by omega
  have h9m : 0 ≤ m 104 9 ∧ m 104 9 ≤ 3 := by omega
  have h15m : 0 ≤ m 104 15 ∧ m 104 15 ≤ 12 := by omega
  have hJm : 0 < h 21 3 → zJ m hl p L B n s := fun q => zJ_same hp6 (hJ q) (fun c hc => mo c (by omega)) (fun j h0 _ => mj j h0)
  have hDm : 0 < m 104 9 → zMH m p L B n s ∧ zDm m hl p L B n s := fun q => ⟨zMH_of twm (hJm (by omega)), (hJm (by omega)).2.2⟩
  have hmo := p_wayO (hl := hl) (d := 6) em ha hb twm
  refine zQ_imp (p_way (d := 6) ha hb tw) (fun ρ σ' pc => ?_)
  rcases pc with ⟨q, rfl, rfl⟩ | ⟨q1, x, q2, rfl, rfl⟩
  · skip
    refine ⟨_, h, hl, rfl, ⟨by decide, by decide⟩, rfl, x1, x2, zQ_imp hmo (fun r2 σ2 pm => ?_)⟩
    obtain ⟨g2, pm, hg⟩ := pm
    rcases pm with ⟨w, rfl, rfl⟩ | ⟨w1, y, w2, rfl, rfl⟩
    · skip
      exact ⟨p, r, g2, hl, rfl, rfl, zLi_108 hIm hg⟩
    · skip
      exfalso
      unfold zPl2 at *
      omega
  · skip
    unfold zPl2 at q1
    refine ⟨_, h, hl, rfl, (zNext_z (by omega) q2), rfl, x1, x2, zQ_imp hmo (fun r2 σ2 pm => ?_)⟩
    obtain ⟨g2, pm, hg⟩ := pm
    rcases pm with ⟨w, rfl, rfl⟩ | ⟨w1, y, w2, rfl, rfl⟩
    · skip
      exfalso
      unfold zPl2 at *
      omega
    · skip
      have e : zNext h (Int.toNat a) (Int.toNat b) y := zNext_m (fun c hc => mo c (by omega)) (by omega) w2
      obtain rfl := zNext_eq q2 e
      exact ⟨p, r, g2, hl, rfl, rfl, zLi_108 hIm hg⟩
theorem zT_stand (hI : zLi X XL t p r h hl)  : zTw 74 [.inr (.inr (some 2))] 132 [.inr (.inr (some 104))] X XL t h hl := by
  have hIc := hI
  obtain ⟨x1, x2, tw, od, z38, z56, kd, kd2, st, st2, tr, tr2, b0, b1, b2, dy⟩ := hIc
  have twc := tw
  obtain ⟨hp6, hr15, h30, h31, hp3, hr4, hMe, hTB, hCn, hPo, hRd, hLk, hGr⟩ := twc
  have hdb := zDay_b dy
  have hP : 0 ≤ h 3 0 ∧ h 3 0 ≤ 6 := by omega
  have hon : zr (h 21 3) := ⟨by omega, by omega⟩
  obtain ⟨L, B, n, s, hJ⟩ := zDay_on dy
  obtain ⟨m, em⟩ : ∃ m, zup h 104 0 0 = m := ⟨_, rfl⟩
  obtain ⟨mo, mj, hIm⟩ := zLi_m hI em
  have twm := hIm.2.2.1
  have m3 := mj 3 (by decide)
  have m4 := mj 4 (by decide)
  have m9 := mj 9 (by decide)
  have m15 := mj 15 (by decide)
  have m11 := mj 11 (by decide)
  have hPm : 0 ≤ m 104 3 ∧ m 104 3 ≤ 6 := by omega
  have h9m : 0 ≤ m 104 9 ∧ m 104 9 ≤ 3 := by omega
  have h15m : 0 ≤ m 104 15 ∧ m 104 15 ≤ 12 := by omega
  have hJm : 0 < h 21 3 → zJ m hl p L B n s := fun q => zJ_same hp6 (hJ q) (fun c hc => mo c (by omega)) (fun j h0 _ => mj j h0)
  have hDm : 0 < m 104 9 → zMH m p L B n s ∧ zDm m hl p L B n s := fun q => ⟨zMH_of twm (hJm (by omega)), (hJm (by omega)).2.2⟩
  have hmo := p_standO (hl := hl) (d := 8) em h9m hDm
  refine zQ_imp (p_stand (d := 6) hon (fun q => (hJ q).2.1.1)) (fun ρ σ' pc => ?_)
  rcases pc with ⟨q, rfl, rfl⟩ | ⟨q, rfl, rfl⟩
  · skip
    refine ⟨_, h, hl, rfl, ⟨by decide, by decide⟩, rfl, x1, x2, zQ_imp hmo (fun r2 σ2 pm => ?_)⟩
    rcases pm with ⟨w, rfl, rfl⟩ | ⟨w, rfl, rfl⟩
    · skip
      exact ⟨p, r, m, hl, rfl, rfl, zLi_up hIm⟩
    · skip
      exfalso; omega
  · skip
    refine ⟨_, h, hl, rfl, (zr_nat (by have z := zStn_sb hp6 (hJ q).2.1.1.1.1 (hJ q).2.1.1.2.2.2.2.2.2.2.2.2.1; have := zSb_lt (hJ q).2.1.1.1.1.2 z; omega)), rfl, x1, x2, zQ_imp hmo (fun r2 σ2 pm => ?_)⟩
    rcases pm with ⟨w, rfl, rfl⟩ | ⟨w, rfl, rfl⟩
    · skip
      exfalso; omega
    · skip
      exact ⟨p, r, m, hl, rfl, rfl, zLi_up hIm⟩
theorem zTold_z {d1 d2 d3 d4 : Nat} {n : Nat} {i w x : Int} (hi : zTold h d1 d2 d3 d4 n i w x) (hb : ∀ j : Nat, j < n → zr (h d1 j) ∧ zr (h d2 j) ∧ zr (h d3 j) ∧ zr (h d4 j)) : zr x := by
  rcases hi with ⟨-, e⟩ | ⟨h1, h2, q⟩
  · rw [e]; exact ⟨by decide, by decide⟩
  · have b := hb i.toNat (by omega)
    rcases q with ⟨-, e⟩ | ⟨-, e⟩ | ⟨-, e⟩ | ⟨-, e⟩ <;> rw [e]
    · exact b.1
    · exact b.2.1
    · exact b.2.2.1
    · exact b.2.2.2
theorem zTold_eq {m : Nat → Nat → Int} {n : Nat} {i w x y : Int} (hs : ∀ j : Nat, j < n → h 42 j = m 111 j ∧ h 43 j = m 112 j ∧ h 44 j = m 113 j ∧ h 45 j = m 114 j) (hx : zTold h 42 43 44 45 n i w x) (hy : zTold m 111 112 113 114 n i w y) : x = y := by
  rcases hx with ⟨h0, e⟩ | ⟨h1, h2, q⟩
  · rcases hy with ⟨k0, f⟩ | ⟨k1, k2, q⟩
    · omega
    · exfalso; omega
  · have b := hs i.toNat (by omega)
    rcases hy with ⟨k0, f⟩ | ⟨k1, k2, q2⟩
    · exfalso; omega
    · omega
theorem zT_told (hI : zLi X XL t p r h hl) {i w : Int} (hi : zr i) (hw : zr w) : zTw 75 [.inr (.inr (some 2)), .inl i, .inl w] 133 [.inr (.inr (some 104)), .inl i, .inl w] X XL t h hl := by
  have hIc := hI
  obtain ⟨x1, x2, tw, od, z38, z56, kd, kd2, st, st2, tr, tr2, b0, b1, b2, dy⟩ := hIc
  have twc := tw
  obtain ⟨hp6, hr15, h30, h31, hp3, hr4, hMe, hTB, hCn, hPo, hRd, hLk, hGr⟩ := twc
  have hdb := zDay_b dy
  have hP : 0 ≤ h 3 0 ∧ h 3 0 ≤ 6 := by omega
  have hon : zr (h 21 3) := ⟨by omega, by omega⟩
  obtain ⟨L, B, n, s, hJ⟩ := zDay_on dy
  obtain ⟨m, em⟩ : ∃ m, zup h 104 0 0 = m := ⟨_, rfl⟩
  obtain ⟨mo, mj, hIm⟩ := zLi_m hI em
  have twm := hIm.2.2.1
  have m3 := mj 3 (by decide)
  have m4 := mj 4 (by decide)
  have m9 := mj 9 (by decide)
  have m15 := mj 15 (by decide)
  have m11 := mj 11 (by decide)
  have hPm : 0 ≤ m 104 3 ∧ m 104 3 ≤ 6 := by omega
  have h9m : 0 ≤ m 104 9 ∧ m 104 9 ≤ 3 := by omega
  have h15m : 0 ≤ m 104 15 ∧ m 104 15 ≤ 12 := by omega
  have hJm : 0 < h 21 3 → zJ m hl p L B n s := fun q => zJ_same hp6 (hJ q) (fun c hc => mo c (by omega)) (fun j h0 _ => mj j h0)
  have hDm : 0 < m 104 9 → zMH m p L B n s ∧ zDm m hl p L B n s := fun q => ⟨zMH_of twm (hJm (by omega)), (hJm (by omega)).2.2⟩
  have hrb : ∀ j : Nat, (j : Int) < h 21 4 → (zr (h 42 j) ∧ zr (h 43 j) ∧ zr (h 44 j) ∧ zr (h 45 j)) ∧ h 42 j = m 111 j ∧ h 43 j = m 112 j ∧ h 44 j = m 113 j ∧ h 45 j = m 114 j := fun j hj => by
    have hj3 := hJ (by omega)
    have hj4 := hJm (by omega)
    obtain ⟨n12, dc, dm⟩ := hj3
    have hR := dc.1.2.2.2.2.2.2.2.2.2.2.2.1
    have l3 := dc.1.2.2.2.2.1
    have hLp := dc.1.1.1
    have a := hR j (by omega)
    have c0 := dc.2.2.2.1 0 j (by decide) (by omega)
    have c1 := dc.2.2.2.1 1 j (by decide) (by omega)
    have c2 := dc.2.2.2.1 2 j (by decide) (by omega)
    have c3 := dc.2.2.2.1 3 j (by decide) (by omega)
    have e0 := hj4.2.2.2.2.2.2.2.1 0 j (by decide) (by omega)
    have e1 := hj4.2.2.2.2.2.2.2.1 1 j (by decide) (by omega)
    have e2 := hj4.2.2.2.2.2.2.2.1 2 j (by decide) (by omega)
    have e3 := hj4.2.2.2.2.2.2.2.1 3 j (by decide) (by omega)
    refine ⟨⟨⟨by omega, by omega⟩, ⟨by omega, by omega⟩, ⟨by omega, by omega⟩, ⟨by omega, by omega⟩⟩, c0.trans e0.symm, c1.trans e1.symm, c2.trans e2.symm, c3.trans e3.symm⟩
  have hmo := p_toldO (hl := hl) (d := 7) em hi hw h15m
  refine zQ_imp (p_told (n := Int.toNat (h 21 4)) (d := 7) hi hw (by omega) (by omega)) (fun ρ σ' pc => ?_)
  obtain ⟨x, q, rfl, rfl⟩ := pc
  refine ⟨_, h, hl, rfl, (zTold_z q (fun j hj => (hrb j (by omega)).1)), rfl, x1, x2, zQ_imp hmo (fun r2 σ2 pm => ?_)⟩
  obtain ⟨y, w1, rfl, rfl⟩ := pm
  have eN : Int.toNat (m 104 15) = Int.toNat (h 21 4) := by omega
  rw [eN] at w1
  obtain rfl := zTold_eq (fun j hj => (hrb j (by omega)).2) q w1
  exact ⟨p, r, m, hl, rfl, rfl, zLi_up hIm⟩
theorem zT_cost (hI : zLi X XL t p r h hl) {l : Int} (hl1 : zr l) : zTw 76 [.inr (.inr (some 2)), .inl l] 135 [.inr (.inr (some 104)), .inl l] X XL t h hl := by
  have hIc := hI
  obtain ⟨x1, x2, tw, od, z38, z56, kd, kd2, st, st2, tr, tr2, b0, b1, b2, dy⟩ := hIc
  have twc := tw
  obtain ⟨hp6, hr15, h30, h31, hp3, hr4, hMe, hTB, hCn, hPo, hRd, hLk, hGr⟩ := twc
  have hdb := zDay_b dy
  have hP : 0 ≤ h 3 0 ∧ h 3 0 ≤ 6 := by omega
  have hon : zr (h 21 3) := ⟨by omega, by omega⟩
  obtain ⟨L, B, n, s, hJ⟩ := zDay_on dy
  obtain ⟨m, em⟩ : ∃ m, zup h 104 0 0 = m := ⟨_, rfl⟩
  obtain ⟨mo, mj, hIm⟩ := zLi_m hI em
  have twm := hIm.2.2.1
  have m3 := mj 3 (by decide)
  have m4 := mj 4 (by decide)
  have m9 := mj 9 (by decide)
  have m15 := mj 15 (by decide)
  have m11 := mj 11 (by decide)
  have hPm : 0 ≤ m 104 3 ∧ m 104 3 ≤ 6 := by omega
  have h9m : 0 ≤ m 104 9 ∧ m 104 9 ≤ 3 := by omega
  have h15m : 0 ≤ m 104 15 ∧ m 104 15 ≤ 12 := by omega
  have hJm : 0 < h 21 3 → zJ m hl p L B n s := fun q => zJ_same hp6 (hJ q) (fun c hc => mo c (by omega)) (fun j h0 _ => mj j h0)
  have hDm : 0 < m 104 9 → zMH m p L B n s ∧ zDm m hl p L B n s := fun q => ⟨zMH_of twm (hJm (by omega)), (hJm (by omega)).2.2⟩
  have hsm : ∀ j : Nat, j < 3 → 0 < h 21 3 → m 110 j = h 41 j ∧ 0 ≤ h 41 j ∧ h 41 j ≤ 18000 := fun j hj q => by
    have a := (hJ q).2.1.2.1 j hj
    have b := ((hJm q).2.2.2.2.2.2.1 j hj).2
    have c := zDI_bD (hJ q).2.1.1 j hj
    have n12 := (hJ q).1
    exact ⟨by omega, by omega, by omega⟩
  have hz : 0 < m 104 9 → ∀ l : Nat, m 104 9 ≤ (l : Int) → l < 3 → m 110 l = 0 := fun q l hl1 hl2 => by
    have q3 : 0 < h 21 3 := by omega
    rw [(hsm l hl2 q3).1]
    have dI := (hJ q3).2.1.1
    rw [dI.2.2.2.2.2.2.2.2.2.2.1 l hl2]
    have l2 := dI.2.2.2.1
    exact zSum_0 (by omega) n (fun j hj => (dI.2.2.2.2.2.2.2.2.2.2.2.1 j hj).2.1)
  have hmo := p_costO (hl := hl) (d := 7) em hl1 h9m hz
  refine zQ_imp (p_cost (d := 7) hl1 hdb.1 hon) (fun ρ σ' pc => ?_)
  rcases pc with ⟨q, rfl, rfl⟩ | ⟨q, q2, rfl, rfl⟩ | ⟨q, q2, rfl, rfl⟩ | ⟨q, q2, q3, rfl, rfl⟩
  · skip
    refine ⟨_, h, hl, rfl, ⟨by decide, by decide⟩, rfl, x1, x2, zQ_imp hmo (fun r2 σ2 pm => ?_)⟩
    rcases pm with ⟨w, rfl, rfl⟩ | ⟨w, w2, rfl, rfl⟩ | ⟨w, w2, rfl, rfl⟩ | ⟨w, w2, w3, rfl, rfl⟩
    · skip
      exact ⟨p, r, m, hl, rfl, rfl, zLi_up hIm⟩
    · skip
      exfalso; omega
    · skip
      exfalso; omega
    · skip
      exfalso; omega
  · skip
    refine ⟨_, h, hl, rfl, ⟨by decide, by decide⟩, rfl, x1, x2, zQ_imp hmo (fun r2 σ2 pm => ?_)⟩
    rcases pm with ⟨w, rfl, rfl⟩ | ⟨w, w2, rfl, rfl⟩ | ⟨w, w2, rfl, rfl⟩ | ⟨w, w2, w3, rfl, rfl⟩
    · skip
      exfalso; omega
    · skip
      exact ⟨p, r, m, hl, rfl, rfl, zLi_up hIm⟩
    · skip
      exfalso; omega
    · skip
      exfalso; omega
  · skip
    have s0 := hsm 0 (by decide) (by omega)
    have s1 := hsm 1 (by decide) (by omega)
    have s2 := hsm 2 (by decide) (by omega)
    refine ⟨_, h, hl, rfl, (by exact ⟨by omega, by omega⟩), rfl, x1, x2, zQ_imp hmo (fun r2 σ2 pm => ?_)⟩
    rcases pm with ⟨w, rfl, rfl⟩ | ⟨w, w2, rfl, rfl⟩ | ⟨w, w2, rfl, rfl⟩ | ⟨w, w2, w3, rfl, rfl⟩
    · skip
      exfalso; omega
    · skip
      exfalso; omega
    · skip
      rw [s0.1, s1.1, s2.1]
      exact ⟨p, r, m, hl, rfl, rfl, zLi_up hIm⟩
    · skip
      exfalso; omega
  · skip
    have sl := hsm (Int.toNat l) (by omega) (by omega)
    refine ⟨_, h, hl, rfl, (by exact ⟨by omega, by omega⟩), rfl, x1, x2, zQ_imp hmo (fun r2 σ2 pm => ?_)⟩
    rcases pm with ⟨w, rfl, rfl⟩ | ⟨w, w2, rfl, rfl⟩ | ⟨w, w2, rfl, rfl⟩ | ⟨w, w2, w3, rfl, rfl⟩
    · skip
      exfalso; omega
    · skip
      exfalso; omega
    · skip
      exfalso; omega
    · skip
      rw [sl.1]
      exact ⟨p, r, m, hl, rfl, rfl, zLi_up hIm⟩
theorem zT_moves (hI : zLi X XL t p r h hl) {a b : Int} (ha : zr a) (hb : zr b) : zTw 79 [.inr (.inr (some 2)), .inl a, .inl b] 136 [.inr (.inr (some 104)), .inl a, .inl b] X XL t h hl := by
  have hIc := hI
  obtain ⟨x1, x2, tw, od, z38, z56, kd, kd2, st, st2, tr, tr2, b0, b1, b2, dy⟩ := hIc
  have twc := tw
  obtain ⟨hp6, hr15, h30, h31, hp3, hr4, hMe, hTB, hCn, hPo, hRd, hLk, hGr⟩ := twc
  have hdb := zDay_b dy
  have hP : 0 ≤ h 3 0 ∧ h 3 0 ≤ 6 := by omega
  have hon : zr (h 21 3) := ⟨by omega, by omega⟩
  obtain ⟨L, B, n, s, hJ⟩ := zDay_on dy
  obtain ⟨m, em⟩ : ∃ m, zup h 104 0 0 = m := ⟨_, rfl⟩
  obtain ⟨mo, mj, hIm⟩ := zLi_m hI em
  have twm := hIm.2.2.1
  have m3 := mj 3 (by decide)
  have m4 := mj 4 (by decide)
  have m9 := mj 9 (by decide)
  have m15 := mj 15 (by decide)
  have m11 := mj 11 (by decide)
  have hPm : 0 ≤ m 104 3 ∧ m 104 3 ≤ 6 := by omega
  have h9m : 0 ≤ m 104 9 ∧ m 104 9 ≤ 3 := by omega
  have h15m : 0 ≤ m 104 15 ∧ m 104 15 ≤ 12 := by omega
  have hJm : 0 < h 21 3 → zJ m hl p L B n s := fun q => zJ_same hp6 (hJ q) (fun c hc => mo c (by omega)) (fun j h0 _ => mj j h0)
  have hDm : 0 < m 104 9 → zMH m p L B n s ∧ zDm m hl p L B n s := fun q => ⟨zMH_of twm (hJm (by omega)), (hJm (by omega)).2.2⟩
  have hmo := p_movesO (hl := hl) (d := 6) em ha hb hPm h9m h15m hDm
  refine zQ_imp (p_moves (d := 6) ha hb hon tw (fun q => (hJ q).2.1.1)) (fun ρ σ' pc => ?_)
  rcases pc with ⟨q, rfl, rfl⟩ | ⟨q, q2, rfl, rfl⟩ | ⟨q, X1, Y1, q2, q3, q4, q5, rfl, rfl⟩
  · skip
    refine ⟨_, h, hl, rfl, ⟨by decide, by decide⟩, rfl, x1, x2, zQ_imp hmo (fun r2 σ2 pm => ?_)⟩
    rcases pm with ⟨w, rfl, rfl⟩ | ⟨w, w2, rfl, rfl⟩ | ⟨w, X2, Y2, w2, w3, w4, w5, rfl, rfl⟩
    · skip
      exact ⟨p, r, m, hl, rfl, rfl, zLi_up hIm⟩
    · skip
      exfalso; omega
    · skip
      exfalso; omega
  · skip
    refine ⟨_, h, hl, rfl, ⟨by decide, by decide⟩, rfl, x1, x2, zQ_imp hmo (fun r2 σ2 pm => ?_)⟩
    rcases pm with ⟨w, rfl, rfl⟩ | ⟨w, w2, rfl, rfl⟩ | ⟨w, X2, Y2, w2, w3, w4, w5, rfl, rfl⟩
    · skip
      exfalso; omega
    · skip
      exact ⟨p, r, m, hl, rfl, rfl, zLi_up hIm⟩
    · skip
      exact absurd ⟨by rw [w2]; exact zSb_iff.mpr w4, by rw [w3]; exact zSb_iff.mpr w5⟩ q2
  · skip
    refine ⟨_, h, hl, rfl, (by have := zMv_b hp6 (hJ q).2.1.1.1.1 (hJ q).2.1.1.2.1 q4 q5; exact ⟨by omega, by omega⟩), rfl, x1, x2, zQ_imp hmo (fun r2 σ2 pm => ?_)⟩
    rcases pm with ⟨w, rfl, rfl⟩ | ⟨w, w2, rfl, rfl⟩ | ⟨w, X2, Y2, w2, w3, w4, w5, rfl, rfl⟩
    · skip
      exfalso; omega
    · skip
      exact absurd ⟨by rw [q2]; exact zSb_iff.mpr q4, by rw [q3]; exact zSb_iff.mpr q5⟩ w2
    · skip
      obtain rfl : X1 = X2 := by omega
      obtain rfl : Y1 = Y2 := by omega
      rw [show zMv m L X1 Y1 = zMv h L X1 Y1 from (zMv_same (fun c c1 c2 => mo c (by omega)))]
      exact ⟨p, r, m, hl, rfl, rfl, zLi_up hIm⟩
theorem zT_work (hI : zLi X XL t p r h hl) {a b : Int} (ha : zr a) (hb : zr b) : zTw 80 [.inr (.inr (some 2)), .inl a, .inl b] 137 [.inr (.inr (some 104)), .inl a, .inl b] X XL t h hl := by
  have hIc := hI
  obtain ⟨x1, x2, tw, od, z38, z56, kd, kd2, st, st2, tr, tr2, b0, b1, b2, dy⟩ := hIc
  have twc := tw
  obtain ⟨hp6, hr15, h30, h31, hp3, hr4, hMe, hTB, hCn, hPo, hRd, hLk, hGr⟩ := twc
  have hdb := zDay_b dy
  have hP : 0 ≤ h 3 0 ∧ h 3 0 ≤ 6 := by omega
  have hon : zr (h 21 3) := ⟨by omega, by omega⟩
  obtain ⟨L, B, n, s, hJ⟩ := zDay_on dy
  obtain ⟨m, em⟩ : ∃ m, zup h 104 0 0 = m := ⟨_, rfl⟩
  obtain ⟨mo, mj, hIm⟩ := zLi_m hI em
  have twm := hIm.2.2.1
  have m3 := mj 3 (by decide)
  have m4 := mj 4 (by decide)
  have m9 := mj 9 (by decide)
  have m15 := mj 15 (by decide)
  have m11 := mj 11 (by decide)
  have hPm : 0 ≤ m 104 3 ∧ m 104 3 ≤ 6 := by omega
  have h9m : 0 ≤ m 104 9 ∧ m 104 9 ≤ 3 := by omega
  have h15m : 0 ≤ m 104 15 ∧ m 104 15 ≤ 12 := by omega
  have hJm : 0 < h 21 3 → zJ m hl p L B n s := fun q => zJ_same hp6 (hJ q) (fun c hc => mo c (by omega)) (fun j h0 _ => mj j h0)
  have hDm : 0 < m 104 9 → zMH m p L B n s ∧ zDm m hl p L B n s := fun q => ⟨zMH_of twm (hJm (by omega)), (hJm (by omega)).2.2⟩
  have hpl : 0 < h 21 3 → ∀ j : Nat, j < n → zpl h j = Int.toNat (s.2.2.2.2 0 j) ∧ zpl h j < p := fun q j hj => by
    have c0 := (hJ q).2.1.2.2.2.1 0 j (by decide) hj
    have a := ((hJ q).2.1.1.2.2.2.2.2.2.2.2.2.2.2.1 j hj).1
    have c0 : h 42 j = s.2.2.2.2 0 j := c0
    unfold zpl
    rw [c0]
    exact ⟨rfl, by omega⟩
  have hmo := p_workO (hl := hl) (d := 5) em ha hb hPm h9m h15m hDm
  refine zQ_imp (p_work (d := 6) ha hb hdb.2.1 hon tw (fun q => (hJ q).2.1.1)) (fun ρ σ' pc => ?_)
  rcases pc with ⟨q, rfl, rfl⟩ | ⟨q, q2, rfl, rfl⟩ | ⟨q, u, Y1, q2, q3, q4, q5, rfl, rfl⟩
  · skip
    refine ⟨_, h, hl, rfl, ⟨by decide, by decide⟩, rfl, x1, x2, zQ_imp hmo (fun r2 σ2 pm => ?_)⟩
    rcases pm with ⟨w, rfl, rfl⟩ | ⟨w, w2, rfl, rfl⟩ | ⟨w, u2, Y2, w2, w3, w4, w5, rfl, rfl⟩
    · skip
      exact ⟨p, r, m, hl, rfl, rfl, zLi_up hIm⟩
    · skip
      exfalso; omega
    · skip
      exfalso; omega
  · skip
    refine ⟨_, h, hl, rfl, ⟨by decide, by decide⟩, rfl, x1, x2, zQ_imp hmo (fun r2 σ2 pm => ?_)⟩
    rcases pm with ⟨w, rfl, rfl⟩ | ⟨w, w2, rfl, rfl⟩ | ⟨w, u2, Y2, w2, w3, w4, w5, rfl, rfl⟩
    · skip
      exfalso; omega
    · skip
      exact ⟨p, r, m, hl, rfl, rfl, zLi_up hIm⟩
    · skip
      exact absurd ⟨by have := (hJ q).2.1.1.2.2.2.2.1; omega, by rw [w3]; exact zSb_iff.mpr w5⟩ q2
  · skip
    refine ⟨_, h, hl, rfl, (by have n12 := (hJ q).1; have := zWf_b hp6 (hJ q).2.1.1.1.1 (hJ q).2.1.1.2.1 (hJ q).2.1.1.2.2.1 u (fun i hi => (hpl q i (by omega)).2) Y1 q5; exact ⟨by omega, by omega⟩), rfl, x1, x2, zQ_imp hmo (fun r2 σ2 pm => ?_)⟩
    rcases pm with ⟨w, rfl, rfl⟩ | ⟨w, w2, rfl, rfl⟩ | ⟨w, u2, Y2, w2, w3, w4, w5, rfl, rfl⟩
    · skip
      exfalso; omega
    · skip
      exact absurd ⟨by have := (hJ q).2.1.1.2.2.2.2.1; omega, by rw [q3]; exact zSb_iff.mpr q5⟩ w2
    · skip
      obtain rfl : u = u2 := by omega
      obtain rfl : Y1 = Y2 := by omega
      rw [show zWf m L B (fun j => Int.toNat (s.2.2.2.2 0 j)) u Y1 = zWf h L B (zpl h) u Y1 from (zWf_same (fun c c1 c2 => mo c (by omega)) u (fun j hj => by have := hpl q j (by omega); exact ⟨this.1.symm, by omega⟩) Y1)]
      exact ⟨p, r, m, hl, rfl, rfl, zLi_up hIm⟩
theorem zLm_low {m : Nat → Nat → Int} {L B i : Nat} {s : zDS} {v w : Int} (hm : ∀ c : Nat, 12 ≤ c → c < 20 → m c = h c) (hpl : ∀ j : Nat, j < i → zpl h j = Int.toNat (s.2.2.2.2 0 j) ∧ zpl h j < 8) (h1 : zLow h p L B i v) (h2 : zLm m p L B (fun j => Int.toNat (s.2.2.2.2 0 j)) i w) : w = v := by
  have e : ∀ Y : Nat, zWf m L B (fun j => Int.toNat (s.2.2.2.2 0 j)) i Y = zWf h L B (zpl h) i Y := fun Y => zWf_same hm i (fun j hj => by have := hpl j hj; exact ⟨this.1.symm, by omega⟩) Y
  exact h2 v (fun Y hY hl => by rw [e]; exact h1.1 Y hY hl) (by obtain ⟨Y, a, b⟩ := h1.2; exact ⟨Y, a, by rw [e]; exact b⟩)
theorem zT_least (hI : zLi X XL t p r h hl) {a : Int} (ha : zr a) : zTw 81 [.inr (.inr (some 2)), .inl a] 138 [.inr (.inr (some 104)), .inl a] X XL t h hl := by
  have hIc := hI
  obtain ⟨x1, x2, tw, od, z38, z56, kd, kd2, st, st2, tr, tr2, b0, b1, b2, dy⟩ := hIc
  have twc := tw
  obtain ⟨hp6, hr15, h30, h31, hp3, hr4, hMe, hTB, hCn, hPo, hRd, hLk, hGr⟩ := twc
  have hdb := zDay_b dy
  have hP : 0 ≤ h 3 0 ∧ h 3 0 ≤ 6 := by omega
  have hon : zr (h 21 3) := ⟨by omega, by omega⟩
  obtain ⟨L, B, n, s, hJ⟩ := zDay_on dy
  obtain ⟨m, em⟩ : ∃ m, zup h 104 0 0 = m := ⟨_, rfl⟩
  obtain ⟨mo, mj, hIm⟩ := zLi_m hI em
  have twm := hIm.2.2.1
  have m3 := mj 3 (by decide)
  have m4 := mj 4 (by decide)
  have m9 := mj 9 (by decide)
  have m15 := mj 15 (by decide)
  have m11 := mj 11 (by decide)
  have hPm : 0 ≤ m 104 3 ∧ m 104 3 ≤ 6 := by omega
  have h9m : 0 ≤ m 104 9 ∧ m 104 9 ≤ 3 := by omega
  have h15m : 0 ≤ m 104 15 ∧ m 104 15 ≤ 12 := by omega
  have hJm : 0 < h 21 3 → zJ m hl p L B n s := fun q => zJ_same hp6 (hJ q) (fun c hc => mo c (by omega)) (fun j h0 _ => mj j h0)
  have hDm : 0 < m 104 9 → zMH m p L B n s ∧ zDm m hl p L B n s := fun q => ⟨zMH_of twm (hJm (by omega)), (hJm (by omega)).2.2⟩
  have hpl : 0 < h 21 3 → ∀ j : Nat, j < n → zpl h j = Int.toNat (s.2.2.2.2 0 j) ∧ zpl h j < p := fun q j hj => by
    have c0 := (hJ q).2.1.2.2.2.1 0 j (by decide) hj
    have a := ((hJ q).2.1.1.2.2.2.2.2.2.2.2.2.2.2.1 j hj).1
    have c0 : h 42 j = s.2.2.2.2 0 j := c0
    unfold zpl
    rw [c0]
    exact ⟨rfl, by omega⟩
  have hmo := p_leastO (hl := hl) (d := 6) em ha hPm h9m h15m hDm
  refine zQ_imp (p_least (d := 5) ha hdb.2.1 hon tw (fun q => (hJ q).2.1.1)) (fun ρ σ' pc => ?_)
  rcases pc with ⟨q, rfl, rfl⟩ | ⟨q, q2, rfl, rfl⟩ | ⟨q, u, v, q2, q3, q4, rfl, rfl⟩
  · skip
    refine ⟨_, h, hl, rfl, ⟨by decide, by decide⟩, rfl, x1, x2, zQ_imp hmo (fun r2 σ2 pm => ?_)⟩
    rcases pm with ⟨w, rfl, rfl⟩ | ⟨w, w2, rfl, rfl⟩ | ⟨w, u2, v2, w2, w3, w4, rfl, rfl⟩
    · skip
      exact ⟨p, r, m, hl, rfl, rfl, zLi_up hIm⟩
    · skip
      exfalso; omega
    · skip
      exfalso; omega
  · skip
    refine ⟨_, h, hl, rfl, ⟨by decide, by decide⟩, rfl, x1, x2, zQ_imp hmo (fun r2 σ2 pm => ?_)⟩
    rcases pm with ⟨w, rfl, rfl⟩ | ⟨w, w2, rfl, rfl⟩ | ⟨w, u2, v2, w2, w3, w4, rfl, rfl⟩
    · skip
      exfalso; omega
    · skip
      exact ⟨p, r, m, hl, rfl, rfl, zLi_up hIm⟩
    · skip
      have := (hJ q).2.1.1.2.2.2.2.1; exfalso; omega
  · skip
    refine ⟨_, h, hl, rfl, (by have n12 := (hJ q).1; obtain ⟨Y, y1, y2⟩ := q4.2; have := zWf_b hp6 (hJ q).2.1.1.1.1 (hJ q).2.1.1.2.1 (hJ q).2.1.1.2.2.1 u (fun i hi => (hpl q i (by omega)).2) Y y1; exact ⟨by omega, by omega⟩), rfl, x1, x2, zQ_imp hmo (fun r2 σ2 pm => ?_)⟩
    rcases pm with ⟨w, rfl, rfl⟩ | ⟨w, w2, rfl, rfl⟩ | ⟨w, u2, v2, w2, w3, w4, rfl, rfl⟩
    · skip
      exfalso; omega
    · skip
      have := (hJ q).2.1.1.2.2.2.2.1; exfalso; omega
    · skip
      obtain rfl : u = u2 := by omega
      obtain rfl := zLm_low (fun c c1 c2 => mo c (by omega)) (fun j hj => by have := hpl q j (by omega); exact ⟨this.1, by omega⟩) q4 w4
      exact ⟨p, r, m, hl, rfl, rfl, zLi_up hIm⟩
theorem zdiv_zr (x y : Int) : zr (zdiv x y) := by
  have h1 := Int32.le_toInt (Int32.ofInt x / Int32.ofInt y)
  have h2 := Int32.toInt_lt (Int32.ofInt x / Int32.ofInt y)
  exact ⟨by unfold zdiv; omega, by unfold zdiv; omega⟩
theorem zT_ratio (hI : zLi X XL t p r h hl) : zTw 83 [.inr (.inr (some 2))] 140 [.inr (.inr (some 104))] X XL t h hl := by
  have hIc := hI
  obtain ⟨x1, x2, tw, od, z38, z56, kd, kd2, st, st2, tr, tr2, b0, b1, b2, dy⟩ := hIc
  have twc := tw
  obtain ⟨hp6, hr15, h30, h31, hp3, hr4, hMe, hTB, hCn, hPo, hRd, hLk, hGr⟩ := twc
  have hdb := zDay_b dy
  have hP : 0 ≤ h 3 0 ∧ h 3 0 ≤ 6 := by omega
  have hon : zr (h 21 3) := ⟨by omega, by omega⟩
  obtain ⟨L, B, n, s, hJ⟩ := zDay_on dy
  obtain ⟨m, em⟩ : ∃ m, zup h 104 0 0 = m := ⟨_, rfl⟩
  obtain ⟨mo, mj, hIm⟩ := zLi_m hI em
  have twm := hIm.2.2.1
  have m3 := mj 3 (by decide)
  have m4 := mj 4 (by decide)
  have m9 := mj 9 (by decide)
  have m15 := mj 15 (by decide)
  have m11 := mj 11 (by decide)
  have hPm : 0 ≤ m 104 3 ∧ m 104 3 ≤ 6 := by omega
  have h9m : 0 ≤ m 104 9 ∧ m 104 9 ≤ 3 := by omega
  have h15m : 0 ≤ m 104 15 ∧ m 104 15 ≤ 12 := by omega
  have hJm : 0 < h 21 3 → zJ m hl p L B n s := fun q => zJ_same hp6 (hJ q) (fun c hc => mo c (by omega)) (fun j h0 _ => mj j h0)
  have hDm : 0 < m 104 9 → zMH m p L B n s ∧ zDm m hl p L B n s := fun q => ⟨zMH_of twm (hJm (by omega)), (hJm (by omega)).2.2⟩
  have hpl : 0 < h 21 3 → ∀ j : Nat, j < n → zpl h j = Int.toNat (s.2.2.2.2 0 j) ∧ zpl h j < p := fun q j hj => by
    have c0 := (hJ q).2.1.2.2.2.1 0 j (by decide) hj
    have a := ((hJ q).2.1.1.2.2.2.2.2.2.2.2.2.2.2.1 j hj).1
    have c0 : h 42 j = s.2.2.2.2 0 j := c0
    unfold zpl
    rw [c0]
    exact ⟨rfl, by omega⟩
  have hsm : ∀ j : Nat, j < 3 → 0 < h 21 3 → m 110 j = h 41 j ∧ 0 ≤ h 41 j ∧ h 41 j ≤ 18000 := fun j hj q => by
    have a := (hJ q).2.1.2.1 j hj
    have b := ((hJm q).2.2.2.2.2.2.1 j hj).2
    have c := zDI_bD (hJ q).2.1.1 j hj
    have n12 := (hJ q).1
    exact ⟨by omega, by omega, by omega⟩
  have hz : 0 < m 104 9 → ∀ l : Nat, m 104 9 ≤ (l : Int) → l < 3 → m 110 l = 0 := fun q l hl1 hl2 => by
    have q3 : 0 < h 21 3 := by omega
    rw [(hsm l hl2 q3).1]
    have dI := (hJ q3).2.1.1
    rw [dI.2.2.2.2.2.2.2.2.2.2.1 l hl2]
    have l2 := dI.2.2.2.1
    exact zSum_0 (by omega) n (fun j hj => (dI.2.2.2.2.2.2.2.2.2.2.2.1 j hj).2.1)
  have hmo := p_ratioO (hl := hl) (d := 6) em hPm h9m h15m hDm hz
  refine zQ_imp (p_ratio (d := 5) hdb.2.1 hon tw (fun q => (hJ q).2.1.1)) (fun ρ σ' pc => ?_)
  rcases pc with ⟨q, rfl, rfl⟩ | ⟨q, v, q2, pc⟩
  · refine ⟨_, h, hl, rfl, ⟨by decide, by decide⟩, rfl, x1, x2, zQ_imp hmo (fun r2 σ2 pm => ?_)⟩
    rcases pm with ⟨w, rfl, rfl⟩ | ⟨w, v2, w2, pm⟩
    · exact ⟨p, r, m, hl, rfl, rfl, zLi_up hIm⟩
    · exfalso; omega
  · have fin : ∀ {v2 : Int}, zLm m p L B (fun j => Int.toNat (s.2.2.2.2 0 j)) n v2 → v2 = v := fun w2 => zLm_low (s := s) (fun c c1 c2 => mo c (by omega)) (fun j hj => by have := hpl q j (by omega); exact ⟨this.1, by omega⟩) q2 w2
    have s0 := hsm 0 (by decide) (by omega)
    have s1 := hsm 1 (by decide) (by omega)
    have s2 := hsm 2 (by decide) (by omega)
    rcases pc with ⟨q3, rfl, rfl⟩ | ⟨q3, rfl, rfl⟩
    · refine ⟨_, h, hl, rfl, ⟨by decide, by decide⟩, rfl, x1, x2, zQ_imp hmo (fun r2 σ2 pm => ?_)⟩
      rcases pm with ⟨w, rfl, rfl⟩ | ⟨w, v2, w2, pm⟩
      · exfalso; omega
      · obtain rfl := fin w2
        rcases pm with ⟨w3, rfl, rfl⟩ | ⟨w3, rfl, rfl⟩
        · exact ⟨p, r, m, hl, rfl, rfl, zLi_up hIm⟩
        · exfalso; omega
    · refine ⟨_, h, hl, rfl, zdiv_zr _ _, rfl, x1, x2, zQ_imp hmo (fun r2 σ2 pm => ?_)⟩
      rcases pm with ⟨w, rfl, rfl⟩ | ⟨w, v2, w2, pm⟩
      · exfalso; omega
      · obtain rfl := fin w2
        rcases pm with ⟨w3, rfl, rfl⟩ | ⟨w3, rfl, rfl⟩
        · exfalso; omega
        · rw [s0.1, s1.1, s2.1]
          exact ⟨p, r, m, hl, rfl, rfl, zLi_up hIm⟩
theorem zPS_same {m : Nat → Nat → Int} {L B n : Nat} {pl ql : Nat → Nat} (hs : ∀ c : Nat, 12 ≤ c → c < 20 → m c = h c) (hq : ∀ j : Nat, j < n → pl j = ql j) : (∀ i s : Nat, i < n → zFg m L pl n i s = zFg h L ql n i s) ∧ ∀ i : Nat, i ≤ n → zPS m L B pl n i = zPS h L B ql n i := by
  have f : ∀ i s : Nat, i < n → zFg m L pl n i s = zFg h L ql n i s := fun i s hi => by
    have c : ∀ l : Nat, zPc m L pl n i s l = zPc h L ql n i s l := fun l => by
      unfold zPc
      rw [zPf_same hs (n - (i + 1)) (i + 1) (fun q h1 h2 => hq q (by omega)) _, hq i hi, hs _ (by omega) (by have := zdg_lt s l; omega)]
    unfold zFg
    rw [c 0, c 1, zPf_same hs (n - i) i (fun q h1 h2 => hq q (by omega)) s]
  refine ⟨f, fun i => ?_⟩
  induction i with
  | zero => intro _; rfl
  | succ i ih =>
    intro hi
    show zwd (zPS m L B pl n i) (zFg m L pl n i (zPS m L B pl n i)) (pl i) = zwd (zPS h L B ql n i) (zFg h L ql n i (zPS h L B ql n i)) (ql i)
    rw [ih (by omega), f i _ (by omega), hq i (by omega)]
theorem zPG_same {m : Nat → Nat → Int} {L B n i : Nat} {pl ql : Nat → Nat} (hs : ∀ c : Nat, 12 ≤ c → c < 20 → m c = h c) (hq : ∀ j : Nat, j < n → pl j = ql j) (hi : i < n) : zPG m L B pl n i = zPG h L B ql n i := by
  have e := zPS_same (L := L) (B := B) hs hq
  unfold zPG
  rw [e.2 i (by omega), e.1 i _ hi]
theorem zT_plan (hI : zLi X XL t p r h hl) {a b : Int} (ha : zr a) (hb : zr b) : zTw 82 [.inr (.inr (some 2)), .inl a, .inl b] 139 [.inr (.inr (some 104)), .inl a, .inl b] X XL t h hl := by
  have hIc := hI
  obtain ⟨x1, x2, tw, od, z38, z56, kd, kd2, st, st2, tr, tr2, b0, b1, b2, dy⟩ := hIc
  have twc := tw
  obtain ⟨hp6, hr15, h30, h31, hp3, hr4, hMe, hTB, hCn, hPo, hRd, hLk, hGr⟩ := twc
  have hdb := zDay_b dy
  have hP : 0 ≤ h 3 0 ∧ h 3 0 ≤ 6 := by omega
  have hon : zr (h 21 3) := ⟨by omega, by omega⟩
  obtain ⟨L, B, n, s, hJ⟩ := zDay_on dy
  obtain ⟨m, em⟩ : ∃ m, zup h 104 0 0 = m := ⟨_, rfl⟩
  obtain ⟨mo, mj, hIm⟩ := zLi_m hI em
  have twm := hIm.2.2.1
  have m3 := mj 3 (by decide)
  have m4 := mj 4 (by decide)
  have m9 := mj 9 (by decide)
  have m15 := mj 15 (by decide)
  have m11 := mj 11 (by decide)
  have hPm : 0 ≤ m 104 3 ∧ m 104 3 ≤ 6 := by omega
  have h9m : 0 ≤ m 104 9 ∧ m 104 9 ≤ 3 := by omega
  have h15m : 0 ≤ m 104 15 ∧ m 104 15 ≤ 12 := by omega
  have hJm : 0 < h 21 3 → zJ m hl p L B n s := fun q => zJ_same hp6 (hJ q) (fun c hc => mo c (by omega)) (fun j h0 _ => mj j h0)
  have hDm : 0 < m 104 9 → zMH m p L B n s ∧ zDm m hl p L B n s := fun q => ⟨zMH_of twm (hJm (by omega)), (hJm (by omega)).2.2⟩
  have hpl : 0 < h 21 3 → ∀ j : Nat, j < n → zpl h j = Int.toNat (s.2.2.2.2 0 j) ∧ zpl h j < p := fun q j hj => by
    have c0 := (hJ q).2.1.2.2.2.1 0 j (by decide) hj
    have a := ((hJ q).2.1.1.2.2.2.2.2.2.2.2.2.2.2.1 j hj).1
    have c0 : h 42 j = s.2.2.2.2 0 j := c0
    unfold zpl
    rw [c0]
    exact ⟨rfl, by omega⟩
  have hr0 : 0 < h 21 3 → ∀ j : Nat, j < n → 0 ≤ s.2.2.2.2 0 j := fun q j hj => by
    have c0 := (hJ q).2.1.2.2.2.1 0 j (by decide) hj
    have a := ((hJ q).2.1.1.2.2.2.2.2.2.2.2.2.2.2.1 j hj).1
    rw [← c0]
    exact a.1
  have hz56 : ∀ j : Nat, j < 4 → zr (m 56 j) := fun j hj => by rw [mo 56 (by decide)]; exact z56 j hj
  refine zQ_imp (p_plan (d := 3) ha hb hdb.2.1 hon tw (fun q => (hJ q).2.1.1)) (fun ρ σ' pc => ?_)
  by_cases q0 : 0 < h 21 3
  · have n4 := (hJ q0).2.1.1.2.2.2.2.1
    rcases pc with ⟨q, rfl, rfl⟩ | ⟨q, q2, rfl, rfl⟩ | ⟨q, u, v, q2, q3, q4, q5, rfl, g, rfl, hg⟩
    · exact absurd q0 q
    · refine ⟨_, h, hl, rfl, ⟨by decide, by decide⟩, rfl, x1, x2, zQ_imp (p_planO (hl := hl) (d := 6) em ha hb hPm h9m h15m hDm (hr0 q0)) (fun r2 σ2 pm => ?_)⟩
      rcases pm with ⟨w, rfl, rfl⟩ | ⟨w, w2, rfl, rfl⟩ | ⟨w, u2, v2, w2, w3, w4, w5, rfl, g2, rfl, hg2⟩
      · exfalso; omega
      · exact ⟨p, r, m, hl, rfl, rfl, zLi_up hIm⟩
      · exfalso; omega
    · have eg : ∀ c : Nat, c < 68 ∨ 80 < c → g c = h c := hg
      obtain ⟨k, ek⟩ : ∃ k, zup g 104 0 0 = k := ⟨_, rfl⟩
      have ko : ∀ c : Nat, c < 68 ∨ (80 < c ∧ c ≠ 104) → k c = h c := fun c hc => by rw [← eg c (by omega), ← ek]; funext q; exact zup_ne (by omega)
      have kj : ∀ j : Nat, j ≠ 0 → k 104 j = h 104 j := fun j hj => by rw [← eg 104 (by decide), ← ek]; exact zup_k hj
      have hIk : zLi X XL (t + 1) p r k hl := zLi_same hI (δ := 0) (by decide) (by omega) (fun c hc => ko c (by omega)) (by rw [ko 2 (by decide)]) ⟨by rw [ko 2 (by decide)]; exact st, by rw [kj 1 (by decide), ko 2 (by decide)]; exact st2⟩ (fun j hj => by rw [ko 56 (by decide)]; exact z56 j hj) (fun j h0 _ => kj j h0) (Or.inl (ko 108 (by decide))) (fun c _ _ => rfl) (Int.add_zero _).symm (Int.add_zero _).symm
      have hJk : zJ k hl p L B n s := zJ_same hp6 (hJ q0) (fun c hc => ko c (by omega)) (fun j h0 _ => kj j h0)
      have twk := hIk.2.2.1
      have k3 := kj 3 (by decide)
      have k9 := kj 9 (by decide)
      have k15 := kj 15 (by decide)
      refine ⟨_, g, hl, rfl, ⟨by omega, ?_⟩, rfl, by rw [eg 1 (by decide)]; exact x1, x2, zQ_imp (p_planO (d := 6) ek ha hb (by omega) (by omega) (by omega) (fun _ => ⟨zMH_of twk hJk, hJk.2.2⟩) (hr0 q0)) (fun r2 σ2 pm => ?_)⟩
      · have := zFg_lt (h := h) (pl := zpl h) (n := v) (i := u) (s := zPS h L B (zpl h) v u) (hJ q0).2.1.1.1.1 q4
        have e : zPG h L B (zpl h) v u = zFg h L (zpl h) v u (zPS h L B (zpl h) v u) := rfl
        have l3 := (hJ q0).2.1.1.1.1
        omega
      · rcases pm with ⟨w, rfl, rfl⟩ | ⟨w, w2, rfl, rfl⟩ | ⟨w, u2, v2, w2, w3, w4, w5, rfl, g2, rfl, hg2⟩
        · exfalso; omega
        · exfalso; omega
        · obtain rfl : u = u2 := by omega
          obtain rfl : v = v2 := by omega
          rw [zPG_same (h := h) (ql := zpl h) (fun c c1 c2 => ko c (by omega)) (fun j hj => (hpl q0 j (by omega)).1.symm) w4]
          refine ⟨p, r, g2, hl, rfl, rfl, zLi_same hI (δ := 0) (by decide) (by omega) (fun c hc => by rw [hg2 c (by omega)]; exact ko c (by omega)) (by rw [hg2 2 (by decide), ko 2 (by decide)]) ⟨by rw [hg2 2 (by decide), ko 2 (by decide)]; exact st, by rw [hg2 104 (by decide), hg2 2 (by decide), kj 1 (by decide), ko 2 (by decide)]; exact st2⟩ (fun j hj => by rw [hg2 56 (by decide), ko 56 (by decide)]; exact z56 j hj) (fun j h0 _ => by rw [hg2 104 (by decide)]; exact kj j h0) (Or.inl (by rw [hg2 108 (by decide)]; exact ko 108 (by decide))) (fun c _ _ => rfl) (Int.add_zero _).symm (Int.add_zero _).symm⟩
  · rcases pc with ⟨q, rfl, rfl⟩ | ⟨q, q2, rfl, rfl⟩ | ⟨q, u, v, q2, q3, q4, q5, rfl, g, rfl, hg⟩
    · refine ⟨_, h, hl, rfl, ⟨by decide, by decide⟩, rfl, x1, x2, zQ_imp (p_planO (d := 6) (n := 0) (s := s) (p := p) (L := L) (B := B) em ha hb hPm h9m h15m (fun q => absurd q (by omega)) (fun j hj => absurd hj (Nat.not_lt_zero j))) (fun r2 σ2 pm => ?_)⟩
      rcases pm with ⟨w, rfl, rfl⟩ | ⟨w, w2, rfl, rfl⟩ | ⟨w, u2, v2, w2, w3, w4, w5, rfl, g2, rfl, hg2⟩
      · exact ⟨p, r, m, hl, rfl, rfl, zLi_up hIm⟩
      · exfalso; omega
      · exfalso; omega
    · exact absurd q q0
    · exact absurd q q0
theorem zTorn_m {m : Nat → Nat → Int} (h3 : m 3 = h 3) (h12 : m 12 = h 12) : zTorn m ↔ zTorn h := by
  unfold zTorn
  rw [h3, h12]
theorem zAb_eq {m : Nat → Nat → Int} {w x y : Int} (e : m 104 3 = h 3 0 ∧ m 104 4 = h 3 1 ∧ m 104 9 = h 21 3 ∧ m 104 15 = h 21 4 ∧ m 104 11 = h 2 7) (et : zTorn m ↔ zTorn h) (hx : zAbt h w x) (hy : zAbO m w y) : x = y := by
  obtain ⟨e1, e2, e3, e4, e5⟩ := e
  rcases hx with ⟨a, b⟩ | ⟨a, b⟩ | ⟨a, b⟩ | ⟨a, b⟩ | ⟨a, b⟩ | ⟨a, b⟩ | ⟨a, b⟩ <;> rcases hy with ⟨c, d⟩ | ⟨c, d⟩ | ⟨c, d⟩ | ⟨c, d⟩ | ⟨c, d⟩ | ⟨c, d⟩ | ⟨c, d⟩ <;> first
    | omega
    | (rcases b with ⟨b1, b2⟩ | ⟨b1, b2⟩ <;> rcases d with ⟨d1, d2⟩ | ⟨d1, d2⟩ <;> first
        | omega
        | exact absurd (et.mp d1) b1
        | exact absurd (et.mpr b1) d1)
theorem zAbt_z {w x : Int} (hP : 0 ≤ h 3 0 ∧ h 3 0 ≤ 6) (hr : 0 ≤ h 3 1 ∧ h 3 1 ≤ 15) (h3 : 0 ≤ h 21 3 ∧ h 21 3 ≤ 3) (h4 : 0 ≤ h 21 4 ∧ h 21 4 ≤ 12) (h7 : 0 ≤ h 2 7 ∧ h 2 7 ≤ 3) (hx : zAbt h w x) : zr x := by
  rcases hx with ⟨a, b⟩ | ⟨a, b⟩ | ⟨a, b⟩ | ⟨a, b⟩ | ⟨a, b⟩ | ⟨a, b⟩ | ⟨a, b⟩ <;> first
    | exact ⟨by omega, by omega⟩
    | (rcases b with ⟨b1, b2⟩ | ⟨b1, b2⟩ <;> exact ⟨by omega, by omega⟩)
theorem zT_about (hI : zLi X XL t p r h hl) {w : Int} (hw : zr w) : zTw 97 [.inr (.inr (some 2)), .inl w] 150 [.inr (.inr (some 104)), .inl w] X XL t h hl := by
  have hIc := hI
  obtain ⟨x1, x2, tw, od, z38, z56, kd, kd2, st, st2, tr, tr2, b0, b1, b2, dy⟩ := hIc
  have twc := tw
  obtain ⟨hp6, hr15, h30, h31, hp3, hr4, hMe, hTB, hCn, hPo, hRd, hLk, hGr⟩ := twc
  have hdb := zDay_b dy
  have hP : 0 ≤ h 3 0 ∧ h 3 0 ≤ 6 := by omega
  have hon : zr (h 21 3) := ⟨by omega, by omega⟩
  obtain ⟨L, B, n, s, hJ⟩ := zDay_on dy
  obtain ⟨m, em⟩ : ∃ m, zup h 104 0 0 = m := ⟨_, rfl⟩
  obtain ⟨mo, mj, hIm⟩ := zLi_m hI em
  have twm := hIm.2.2.1
  have m3 := mj 3 (by decide)
  have m4 := mj 4 (by decide)
  have m9 := mj 9 (by decide)
  have m15 := mj 15 (by decide)
  have m11 := mj 11 (by decide)
  have hPm : 0 ≤ m 104 3 ∧ m 104 3 ≤ 6 := by omega
  have h9m : 0 ≤ m 104 9 ∧ m 104 9 ≤ 3 := by omega
  have h15m : 0 ≤ m 104 15 ∧ m 104 15 ≤ 12 := by omega
  have hJm : 0 < h 21 3 → zJ m hl p L B n s := fun q => zJ_same hp6 (hJ q) (fun c hc => mo c (by omega)) (fun j h0 _ => mj j h0)
  have hDm : 0 < m 104 9 → zMH m p L B n s ∧ zDm m hl p L B n s := fun q => ⟨zMH_of twm (hJm (by omega)), (hJm (by omega)).2.2⟩
  have hmo := p_aboutO (hl := hl) (d := 6) em hw twm
  refine zQ_imp (p_about (d := 6) hw tw) (fun ρ σ' pc => ?_)
  obtain ⟨x, q, rfl, rfl⟩ := pc
  refine ⟨_, h, hl, rfl, (zAbt_z hP ⟨by omega, by omega⟩ hdb.1 hdb.2.1 kd q), rfl, x1, x2, zQ_imp hmo (fun r2 σ2 pm => ?_)⟩
  obtain ⟨y, g2, w1, rfl, rfl, hg⟩ := pm
  obtain rfl := zAb_eq ⟨by omega, by omega, by omega, by omega, by omega⟩ (zTorn_m (mo 3 (by decide)) (mo 12 (by decide))) q w1
  exact ⟨p, r, g2, hl, rfl, rfl, zLi_108 hIm hg⟩
theorem zT_trace (hI : zLi X XL t p r h hl) (ht : t ≤ 1000)  : zTwl 98 [.inr (.inr (some 2))] 151 [.inr (.inr (some 104))] X XL t h hl := by
  have hIc := hI
  obtain ⟨x1, x2, tw, od, z38, z56, kd, kd2, st, st2, tr, tr2, b0, b1, b2, dy⟩ := hIc
  have twc := tw
  obtain ⟨hp6, hr15, h30, h31, hp3, hr4, hMe, hTB, hCn, hPo, hRd, hLk, hGr⟩ := twc
  have hdb := zDay_b dy
  have hP : 0 ≤ h 3 0 ∧ h 3 0 ≤ 6 := by omega
  have hon : zr (h 21 3) := ⟨by omega, by omega⟩
  obtain ⟨L, B, n, s, hJ⟩ := zDay_on dy
  obtain ⟨m, em⟩ : ∃ m, zup h 104 0 0 = m := ⟨_, rfl⟩
  obtain ⟨mo, mj, hIm⟩ := zLi_m hI em
  have twm := hIm.2.2.1
  have m3 := mj 3 (by decide)
  have m4 := mj 4 (by decide)
  have m9 := mj 9 (by decide)
  have m15 := mj 15 (by decide)
  have m11 := mj 11 (by decide)
  have hPm : 0 ≤ m 104 3 ∧ m 104 3 ≤ 6 := by omega
  have h9m : 0 ≤ m 104 9 ∧ m 104 9 ≤ 3 := by omega
  have h15m : 0 ≤ m 104 15 ∧ m 104 15 ≤ 12 := by omega
  have hJm : 0 < h 21 3 → zJ m hl p L B n s := fun q => zJ_same hp6 (hJ q) (fun c hc => mo c (by omega)) (fun j h0 _ => mj j h0)
  have hDm : 0 < m 104 9 → zMH m p L B n s ∧ zDm m hl p L B n s := fun q => ⟨zMH_of twm (hJm (by omega)), (hJm (by omega)).2.2⟩
  have hmo := p_traceO (hl := hl) (d := 8) em
  refine zQ_imp (p_trace (d := 8)) (fun ρ σ' pc => ?_)
  obtain ⟨rfl, rfl⟩ := pc
  refine ⟨_, h, hl, rfl, ⟨by omega, by omega⟩, rfl, x1, x2, zQ_imp hmo (fun r2 σ2 pm => ?_)⟩
  obtain ⟨rfl, rfl⟩ := pm
  rw [tr2]
  exact ⟨p, r, m, hl, rfl, rfl, zLi_up hIm⟩
theorem zT_status (hI : zLi X XL t p r h hl)  : zTw 99 [.inr (.inr (some 2))] 152 [.inr (.inr (some 104))] X XL t h hl := by
  have hIc := hI
  obtain ⟨x1, x2, tw, od, z38, z56, kd, kd2, st, st2, tr, tr2, b0, b1, b2, dy⟩ := hIc
  have twc := tw
  obtain ⟨hp6, hr15, h30, h31, hp3, hr4, hMe, hTB, hCn, hPo, hRd, hLk, hGr⟩ := twc
  have hdb := zDay_b dy
  have hP : 0 ≤ h 3 0 ∧ h 3 0 ≤ 6 := by omega
  have hon : zr (h 21 3) := ⟨by omega, by omega⟩
  obtain ⟨L, B, n, s, hJ⟩ := zDay_on dy
  obtain ⟨m, em⟩ : ∃ m, zup h 104 0 0 = m := ⟨_, rfl⟩
  obtain ⟨mo, mj, hIm⟩ := zLi_m hI em
  have twm := hIm.2.2.1
  have m3 := mj 3 (by decide)
  have m4 := mj 4 (by decide)
  have m9 := mj 9 (by decide)
  have m15 := mj 15 (by decide)
  have m11 := mj 11 (by decide)
  have hPm : 0 ≤ m 104 3 ∧ m 104 3 ≤ 6 := by omega
  have h9m : 0 ≤ m 104 9 ∧ m 104 9 ≤ 3 := by omega
  have h15m : 0 ≤ m 104 15 ∧ m 104 15 ≤ 12 := by omega
  have hJm : 0 < h 21 3 → zJ m hl p L B n s := fun q => zJ_same hp6 (hJ q) (fun c hc => mo c (by omega)) (fun j h0 _ => mj j h0)
  have hDm : 0 < m 104 9 → zMH m p L B n s ∧ zDm m hl p L B n s := fun q => ⟨zMH_of twm (hJm (by omega)), (hJm (by omega)).2.2⟩
  have hmo := p_statusO (hl := hl) (d := 8) em
  refine zQ_imp (p_status (d := 8)) (fun ρ σ' pc => ?_)
  obtain ⟨rfl, rfl⟩ := pc
  refine ⟨_, h, hl, rfl, st, rfl, x1, x2, zQ_imp hmo (fun r2 σ2 pm => ?_)⟩
  obtain ⟨rfl, rfl⟩ := pm
  rw [mj 1 (by decide), st2]
  exact ⟨p, r, m, hl, rfl, rfl, zLi_up hIm⟩
end ZTW
