/-! Call by call: both objects answer alike (5): roads and calls out of books. -/
section ZTW5
variable {X XL : Nat → Int} {t p r : Nat} {h hl g gl : Nat → Nat → Int}
theorem zT_roads0 (hI : zLi X XL t p r h hl) : zTw 90 [.inr (.inr (some 2)), .inl 0] 148 [.inr (.inr (some 104)), .inl 0] X XL t h hl := by
  have hIc := hI
  obtain ⟨x1, x2, tw, od, z38, z56, kd, kd2, st, st2, tr, tr2, b0, b1, b2, dy⟩ := hIc
  have hdb := zDay_b dy
  have hon : zr (h 21 3) := ⟨by omega, by omega⟩
  have twc := tw
  obtain ⟨hp6, hr15, h30, h31, hp3, hr4, hMe, hTB, hCn, hPo, hRd, hLk, hGr⟩ := twc
  have bc := b0
  obtain ⟨k1, k2, k3, k4, k5, k6, k7, k8, k9⟩ := bc
  have hZq : ∀ q : Nat, q < 4 → -1 ≤ h 84 q ∧ h 84 q ≤ 8 := fun q hq => by have := k8 q hq; omega
  have hVq : ∀ q i : Nat, q < 4 → i < 8 → zrl (hl (86 + q) i) := fun q i hq hi => (k9 q i hq hi).2
  refine zQ_imp (p_roadsB0 (d := 3) tw hon k3 hZq hVq) (fun ρ σ' pc => ?_)
  rcases pc with ⟨q, rfl, rfl⟩ | ⟨R, J, x, g, q1, rfl, rfl, q2, q3, q3b, q4, q5⟩
  · refine ⟨0, _, hl, rfl, ⟨by decide, by decide⟩, rfl, by rw [← x1]; funext q; exact zup_ne (by decide), x2, zQ_imp (p_roadsO0 (hl := hl) (d := 6) (r := r) rfl (zMbk_same (fun c c1 c2 => by funext q; rw [zup_ne (by omega), zup_ne (by omega)]) rfl (zBkR_M b0)) hr15 (by rw [zup_k (by decide), zup_ne (by decide)]; exact hr4) (by rw [zup_k (by decide), zup_ne (by decide)]; omega) (by rw [zup_k (by decide), zup_ne (by decide)]; exact ⟨by omega, by omega⟩)) (fun r2 σ2 pm => ?_)⟩
    rw [show (zup (zup h 2 8 (-11)) 104 0 0) 119 0 = h 119 0 from by rw [zup_ne (by decide), zup_ne (by decide)]] at pm
    rcases pm with ⟨w, rfl, rfl⟩ | ⟨w, -⟩
    · exact ⟨p, r, _, hl, rfl, rfl, zLi_F hI ⟨by decide, by decide⟩⟩
    · exfalso; omega
  · have hx0 : -12 ≤ x ∧ x ≤ 0 := by
      rcases q5 with ⟨-, e⟩ | ⟨-, -, e⟩
      · omega
      · exact zRDec_b e
    have hJ4 : J ≤ R ∧ R ≤ 4 := by omega
    have gf : ∀ c : Nat, c < 3 ∨ 18 ≤ c → g c = h c := q3
    refine ⟨_, _, hl, rfl, zr_nat (by omega), rfl, by rw [← x1, ← gf 1 (by omega)]; funext q; exact zup_ne (by decide), x2, zQ_imp (p_roadsO0 (hl := hl) (d := 6) (r := r) rfl (zMbk_same (fun c c1 c2 => by rw [← gf c (by omega)]; funext q; rw [zup_ne (by omega), zup_ne (by omega)]) rfl (zBkR_M b0)) hr15 (by rw [zup_k (by decide), zup_ne (by decide), gf 104 (by omega)]; exact hr4) (by rw [zup_k (by decide), zup_ne (by decide), gf 104 (by omega)]; omega) (by rw [zup_k (by decide), zup_ne (by decide), gf 104 (by omega)]; exact ⟨by omega, by omega⟩)) (fun r2 σ2 pm => ?_)⟩
    obtain ⟨k, ek⟩ : ∃ k, k = zup (zup g 2 8 x) 104 0 0 := ⟨_, rfl⟩
    rw [← ek] at pm
    have ko : ∀ c : Nat, c ≠ 2 → c ≠ 104 → k c = g c := fun c h1 h2 => by rw [ek]; funext q; rw [zup_ne h2, zup_ne h1]
    have kh : ∀ c : Nat, c ≠ 2 → c ≠ 104 → (c < 3 ∨ 18 ≤ c) → k c = h c := fun c h1 h2 h3 => by rw [ko c h1 h2]; exact gf c h3
    have kj : ∀ j : Nat, j ≠ 0 → k 104 j = h 104 j := fun j hj => by rw [ek, zup_k hj, zup_ne (by decide), gf 104 (by omega)]
    have k2s : k 2 7 = h 2 7 ∧ k 2 8 = x := by rw [ek, ← gf 2 (by omega)]; simp [zup_at]
    have k3 := kj 3 (by decide)
    have k9' := kj 9 (by decide)
    rw [kh 119 (by decide) (by decide) (by omega), kh 121 (by decide) (by decide) (by omega), kh 122 (by decide) (by decide) (by omega), k3, k9', hp3, hdb.2.2.1] at pm
    have hCv : ∀ q : Nat, q < 4 → hl 123 (0 + 8 * q) = hl (86 + q) 0 ∧ hl 123 (0 + 8 * q + 1) = hl (86 + q) 1 ∧ hl 123 (0 + 8 * q + 2) = hl (86 + q) 2 := fun q hq => ⟨(k9 q 0 hq (by decide)).1, (k9 q 1 hq (by decide)).1, (k9 q 2 hq (by decide)).1⟩
    have hdec : ∀ (q : Nat) (y : Int), q < 4 → zRDec (p : Int) (h 21 3) ((r + q : Nat) : Int) (h 122 (0 + q)) (hl 123 (0 + 8 * q)) (hl 123 (0 + 8 * q + 1)) (hl 123 (0 + 8 * q + 2)) y → zRDec (h 3 0) (h 21 3) ((r + q : Nat) : Int) (h 84 q) (hl (86 + q) 0) (hl (86 + q) 1) (hl (86 + q) 2) y := fun q y hq hz => by
      obtain ⟨v0, v1, v2⟩ := hCv q hq
      rw [v0, v1, v2, ← h30] at hz
      have k8q : (h 84 q = -1 ∧ h 122 (0 + q) = -9) ∨ (0 ≤ h 84 q ∧ h 84 q ≤ 8 ∧ h 122 (0 + q) = h 84 q) := k8 q hq
      refine zRDec_sz ?_ hz
      omega
    rcases pm with ⟨w, -⟩ | ⟨w, R2, J2, y, w1, rfl, w2, w3, w4⟩
    · exfalso; omega
    · obtain rfl : R = R2 := by omega
      have hJJ : J = J2 ∧ x = y := by
        rcases (show J < J2 ∨ J = J2 ∨ J2 < J by omega) with z | z | z
        · have a := hdec J 0 (by omega) (w3 J z)
          rcases q5 with ⟨e, -⟩ | ⟨e1, e2, e3⟩
          · exfalso; omega
          · exact absurd (zRDec_eq e3 a) e2
        · subst z
          refine ⟨rfl, ?_⟩
          rcases q5 with ⟨e1, e2⟩ | ⟨e1, e2, e3⟩ <;> rcases w4 with ⟨f1, f2, -⟩ | ⟨f1, f2, f3, -⟩
          · omega
          · exfalso; omega
          · exfalso; omega
          · exact zRDec_eq e3 (hdec J y (by omega) f3)
        · have a := q4 J2 z
          rcases w4 with ⟨f1, f2, -⟩ | ⟨f1, f2, f3, -⟩
          · exfalso; omega
          · exact absurd (zRDec_eq (hdec J2 y (by omega) f3) a) f2
      obtain ⟨rfl, rfl⟩ := hJJ
      obtain ⟨f, rfl, ef⟩ : ∃ f : Nat → Nat → Int, σ2 = zs f hl ∧ ((x = 0 ∧ f = zAR (zup k 104 1 0) (fun q i => hl 123 (0 + 8 * q + i)) r J) ∨ f = zup (zAR (zup k 104 1 0) (fun q i => hl 123 (0 + 8 * q + i)) r J) 104 1 x) := by
        rcases w4 with ⟨f1, f2, f3⟩ | ⟨f1, f2, f3, f4⟩
        · exact ⟨_, f3, Or.inl ⟨f2, rfl⟩⟩
        · exact ⟨_, f4, Or.inr rfl⟩
      have ao := zAR_o (h := zup k 104 1 0) (V := fun q i => hl 123 (0 + 8 * q + i)) (r := r) J
      have fc : ∀ c : Nat, c ≠ 104 → f c = zAR (zup k 104 1 0) (fun q i => hl 123 (0 + 8 * q + i)) r J c := fun c hc => by
        rcases ef with ⟨-, e⟩ | e
        · rw [e]
        · rw [e]; funext q; exact zup_ne hc
      have fo : ∀ c : Nat, c < 104 ∨ 107 < c → f c = k c := fun c hc => by rw [fc c (by omega), ao.1 c (by omega) (by omega) (by omega) (by omega)]; funext q; exact zup_ne (by omega)
      have fj : ∀ j : Nat, j ≠ 0 → j ≠ 1 → j ≠ 4 → f 104 j = h 104 j := fun j h0 h1 h4 => by
        rcases ef with ⟨-, e⟩ | e
        · rw [e, ao.2 j h4, zup_k h1]; exact kj j h0
        · rw [e, zup_k h1, ao.2 j h4, zup_k h1]; exact kj j h0
      have f1 : f 104 1 = x := by
        rcases ef with ⟨e0, e⟩ | e
        · rw [e, ao.2 1 (by decide), zup_eq, e0]
        · rw [e]; exact zup_eq
      have a4 := zAR_4 (h := zup k 104 1 0) (V := fun q i => hl 123 (0 + 8 * q + i)) (r := r) (by rw [zup_k (by decide), kj 4 (by decide)]; exact hr4) J
      have f4 : f 104 4 = ((r + J : Nat) : Int) := by
        rcases ef with ⟨e0, e⟩ | e
        · rw [e]; exact a4
        · rw [e, zup_k (by decide)]; exact a4
      have a4h := zAR_4 (h := h) (V := fun q i => hl (86 + q) i) hr4 J
      have aoh := zAR_o (h := h) (V := fun q i => hl (86 + q) i) (r := r) J
      have fA : ∀ c : Nat, 105 ≤ c → c ≤ 107 → f c = zAR h (fun q i => hl (86 + q) i) r J c := fun c c1 c2 => by
        rw [fc c (by omega)]
        exact zAR_eq (fun c c1 c2 => by rw [← kh c (by omega) (by omega) (by omega)]; funext q; exact zup_ne (by omega)) J (fun q hq => hCv q (by omega)) c c1 c2
      have twf : zTown f p (r + J) := zTown_same2 q2 (fun c hc => by rw [fo c (by omega), ko c (by omega) (by omega)]; exact (zov_l (by omega)).symm) ⟨by rw [fj 3 (by decide) (by decide) (by decide)]; exact ((congrFun (zov_r (Nat.le_refl 104)) 3).trans (aoh.2 3 (by decide))).symm, by rw [f4]; exact ((congrFun (zov_r (Nat.le_refl 104)) 4).trans a4h).symm⟩ ⟨by rw [fA 105 (by decide) (by decide)]; exact (zov_r (by decide)).symm, by rw [fA 106 (by decide) (by decide)]; exact (zov_r (by decide)).symm, by rw [fA 107 (by decide) (by decide)]; exact (zov_r (by decide)).symm⟩
      have fh : ∀ c : Nat, c ≠ 2 → (c < 3 ∨ (18 ≤ c ∧ c < 104) ∨ 107 < c) → f c = h c := fun c h1 h2 => by rw [fo c (by omega)]; exact kh c h1 (by omega) (by omega)
      have f2 : f 2 = k 2 := fo 2 (by omega)
      have e119 : ∀ c : Nat, 119 ≤ c → c ≤ 122 → f c = h c := fun c c1 c2 => fh c (by omega) (by omega)
      refine ⟨p, r + J, f, hl, rfl, rfl, by rw [fh 1 (by decide) (by omega)]; exact x1, x2, twf, fun j hj => by rw [fh 0 (by decide) (by omega)]; exact od j hj, fun j hj => by rw [fh 38 (by decide) (by omega)]; exact z38 j hj, fun j hj => by rw [fh 56 (by decide) (by omega)]; exact z56 j hj, by rw [f2, k2s.1]; exact kd, by rw [fj 11 (by decide) (by decide) (by decide), f2, k2s.1]; exact kd2, by rw [f2, k2s.2]; exact ⟨by omega, by omega⟩, by rw [f1, f2, k2s.2], by omega, tr2, zBkR_same (fh 83 (by decide) (by omega)) (fh 84 (by decide) (by omega)) e119 rfl (fun _ _ => rfl) b0, zBkR_same (fh 90 (by decide) (by omega)) (fh 91 (by decide) (by omega)) e119 rfl (fun _ _ => rfl) b1, zBkR_same (fh 97 (by decide) (by omega)) (fh 98 (by decide) (by omega)) e119 rfl (fun _ _ => rfl) b2, ?_⟩
      rcases dy with ⟨a1, a2, a3, a4⟩ | ⟨L, B, n, s, n12, dc, dm⟩
      · exact Or.inl ⟨by rw [fh 21 (by decide) (by omega)]; exact a1, by rw [fh 21 (by decide) (by omega)]; exact a2, by rw [fj 9 (by decide) (by decide) (by decide)]; exact a3, by rw [fj 15 (by decide) (by decide) (by decide)]; exact a4⟩
      · have l1 := dc.1.1.1
        have l2 := dc.1.2.2.2.1
        have J0 : J = 0 := Classical.byContradiction (fun w => by have := (zRDec_0 (q4 0 (by omega))).2.2.1; omega)
        have gh : g = h := q3b J0
        have fhh : ∀ c : Nat, c ≠ 2 → (c < 104 ∨ 107 < c) → f c = h c := fun c h1 h2 => by rw [fo c h2, ko c h1 (by omega), gh]
        exact Or.inr ⟨L, B, n, s, n12, zDc_up (fun c hc => fhh c (by omega) (by omega)) (fhh 0 (by decide) (by omega)) rfl dc, zDm_same dm (fun c hc => fhh c (by omega) (by omega)) (fun i j _ _ => by rw [fhh 108 (by decide) (by omega)]) ⟨fj 9 (by decide) (by decide) (by decide), fj 10 (by decide) (by decide) (by decide), fj 14 (by decide) (by decide) (by decide), fj 15 (by decide) (by decide) (by decide)⟩ rfl (fun j hj => by have := (zDc_b dc).2 j hj; omega)⟩
theorem zT_calls0 (hI : zLi X XL t p r h hl) {a : Int} (ha : zr a) : zTw 91 [.inr (.inr (some 2)), .inl 0, .inl a] 149 [.inr (.inr (some 104)), .inl 0, .inl a] X XL t h hl := by
  have hIc := hI
  obtain ⟨x1, x2, tw, od, z38, z56, kd, kd2, st, st2, tr, tr2, b0, b1, b2, dy⟩ := hIc
  have hdb := zDay_b dy
  have hon : zr (h 21 3) := ⟨by omega, by omega⟩
  have twc := tw
  obtain ⟨hp6, hr15, h30, h31, hp3, hr4, hMe, hTB, hCn, hPo, hRd, hLk, hGr⟩ := twc
  have bc := b0
  obtain ⟨k1, k2, k3, k4, k5, k6, k7, k8, k9⟩ := bc
  have hZq : ∀ q : Nat, q < 4 → -1 ≤ h 84 q ∧ h 84 q ≤ 8 := fun q hq => by have := k8 q hq; omega
  have hVq : ∀ q i : Nat, q < 4 → i < 8 → zrl (hl (86 + q) i) := fun q i hq hi => (k9 q i hq hi).2
  have hwhy : ∀ y : Int, zWhy h 83 84 a y → (y = -11 ↔ (h 119 0 = 0 ∨ ((0 ≤ a ∧ a < h 121 0) ∧ h 122 (0 + Int.toNat a) = -9))) ∧ (y = -12 ↔ (¬ h 119 0 = 0 ∧ ¬ (0 ≤ a ∧ a < h 121 0))) ∧ (y = 0 ∨ y = -11 ∨ y = -12) := fun y hy => by
    unfold zWhy zHasRow at hy
    by_cases hq : 0 ≤ a ∧ a < 4
    · have k8a : (h 84 a.toNat = -1 ∧ h 122 (0 + a.toNat) = -9) ∨ (0 ≤ h 84 a.toNat ∧ h 84 a.toNat ≤ 8 ∧ h 122 (0 + a.toNat) = h 84 a.toNat) := k8 a.toNat (by omega)
      omega
    · omega
  by_cases hq : 0 < h 21 3
  · -- a day
    rcases dy with ⟨a1, a2, a3, a4⟩ | ⟨L, B, n, s0, hj⟩
    · exfalso; omega
    · have n12 := hj.1
      have dc := hj.2.1
      have dm := hj.2.2
      have hb := zDc_b dc
      have hL3 := dc.1.1.1
      have l2 := dc.1.2.2.2.1
      have l3 := dc.1.2.2.2.2.1
      refine zQ_imp (p_callsN0 (d := 2) ha tw k3 hZq hVq dc n12 rfl kd) (fun ρ σ' pc => ?_)
      rcases pc with ⟨x, q0, q, rfl, rfl⟩ | ⟨R, S, J, x, s, g, gl, rfl, q1, q2, rfl, rfl, q3, q4, q5, q6, q7, q8⟩
      · have hz := hwhy x q
        have hHM := zHM_of (m := zup (zup h 2 8 x) 104 0 0) (ml := hl) tw hj (fun c hc => by funext q; rw [zup_ne (by omega), zup_ne (by omega)]) (fun c hc => by funext q; rw [zup_ne (by omega), zup_ne (by omega)]) (by funext q; rw [zup_ne (by omega), zup_ne (by omega)]) (fun j h0 _ => by rw [zup_k h0, zup_ne (by decide)]) rfl
        refine ⟨0, _, hl, rfl, ⟨by decide, by decide⟩, rfl, by rw [← x1]; funext q; exact zup_ne (by decide), x2, zQ_imp (p_callsON0 (hl := hl) (d := 3) rfl ha (zMbk_same (fun c c1 c2 => by funext q; rw [zup_ne (by omega), zup_ne (by omega)]) rfl (zBkR_M b0)) hHM.1 hHM.2 (fun i hi => by rw [← dc.2.1 i hi]; exact (zDI_bD dc.1 i hi).2) (K := h 2 7) (by rw [zup_k (by decide), zup_ne (by decide)]; exact kd2) kd) (fun r2 σ2 pm => ?_)⟩
        rw [show (zup (zup h 2 8 x) 104 0 0) 119 = h 119 from by funext q; rw [zup_ne (by decide), zup_ne (by decide)], show (zup (zup h 2 8 x) 104 0 0) 121 = h 121 from by funext q; rw [zup_ne (by decide), zup_ne (by decide)], show (zup (zup h 2 8 x) 104 0 0) 122 = h 122 from by funext q; rw [zup_ne (by decide), zup_ne (by decide)]] at pm
        rcases pm with ⟨w, rfl, rfl⟩ | ⟨w1, w2, rfl, rfl⟩ | ⟨R2, S2, J2, y, s2, g2, gl2, w1, w2, w3, w4, -⟩
        · obtain rfl := hz.1.mpr w
          exact ⟨p, r, _, hl, rfl, rfl, zLi_F hI ⟨by decide, by decide⟩⟩
        · obtain rfl := hz.2.1.mpr ⟨w1, w2⟩
          exact ⟨p, r, _, hl, rfl, rfl, zLi_F hI ⟨by decide, by decide⟩⟩
        · exfalso
          rcases hz.2.2 with e | e | e
          · exact q0 e
          · rcases hz.1.mp e with z | ⟨z1, z2⟩
            · exact w2 z
            · rw [w1, Int.toNat_natCast] at z2; omega
          · exact (hz.2.1.mp e).2 ⟨by omega, by omega⟩
      · have hz := hwhy 0 q1
        have hz11 : ¬ (h 119 0 = 0 ∨ ((0 ≤ (R : Int) ∧ (R : Int) < h 121 0) ∧ h 122 (0 + Int.toNat (R : Int)) = -9)) := fun w => absurd (hz.1.mpr w) (by decide)
        have hz12 : ¬ (¬ h 119 0 = 0 ∧ ¬ (0 ≤ (R : Int) ∧ (R : Int) < h 121 0)) := fun w => absurd (hz.2.1.mpr w) (by decide)
        have hy0 := zWhy_0 q1
        unfold zHasRow at hy0
        rw [Int.toNat_natCast] at hz11
        have hR4 : R < 4 := by omega
        have k8R : (h 84 R = -1 ∧ h 122 (0 + R) = -9) ∨ (0 ≤ h 84 R ∧ h 84 R ≤ 8 ∧ h 122 (0 + R) = h 84 R) := k8 R hR4
        have hx0 : -3 ≤ x ∧ x ≤ 0 := by
          rcases q8 with ⟨-, e⟩ | ⟨-, -, e⟩
          · omega
          · exact zCDec_b e
        have gf : ∀ c : Nat, c < 21 ∨ 47 < c → g c = h c := q5
        obtain ⟨k, ek⟩ : ∃ k, k = zup (zup g 2 8 x) 104 0 0 := ⟨_, rfl⟩
        have ko : ∀ c : Nat, c ≠ 2 → c ≠ 104 → k c = g c := fun c h1 h2 => by rw [ek]; funext q; rw [zup_ne h2, zup_ne h1]
        have kh : ∀ c : Nat, c ≠ 2 → c ≠ 104 → (c < 21 ∨ 47 < c) → k c = h c := fun c h1 h2 h3 => by rw [ko c h1 h2]; exact gf c h3
        have kj : ∀ j : Nat, j ≠ 0 → k 104 j = h 104 j := fun j hj => by rw [ek, zup_k hj, zup_ne (by decide), gf 104 (by omega)]
        have k2s : k 2 7 = h 2 7 ∧ k 2 8 = x := by rw [ek, ← gf 2 (by omega)]; simp [zup_at]
        have k3' := kj 3 (by decide)
        have k9' := kj 9 (by decide)
        have hHM := zHM_of (m := k) (ml := gl) tw hj (fun c hc => kh c (by omega) (by omega) (by omega)) (fun c hc => kh c (by omega) (by omega) (by omega)) (kh 108 (by decide) (by decide) (by omega)) (fun j h0 _ => kj j h0) (by rw [q6 104 (by decide)])
        refine ⟨_, _, gl, rfl, zr_nat (by omega), rfl, by rw [← x1, ← gf 1 (by omega)]; funext q; exact zup_ne (by decide), by rw [q6 1 (by decide)]; exact x2, zQ_imp (p_callsON0 (hl := gl) (d := 3) (K := h 2 7) (show zup (zup g 2 8 x) 104 0 0 = k from ek.symm) ha (zMbk_same (fun c c1 c2 => kh c (by omega) (by omega) (by omega)) (q6 123 (by decide)) (zBkR_M b0)) hHM.1 hHM.2 (fun i hi => by rw [← dc.2.1 i hi]; exact (zDI_bD dc.1 i hi).2) (by rw [kj 11 (by decide)]; exact kd2) kd) (fun r2 σ2 pm => ?_)⟩
        rw [kh 119 (by decide) (by decide) (by omega), kh 121 (by decide) (by decide) (by omega), kh 122 (by decide) (by decide) (by omega), k3', k9', hp3, hdb.2.2.1, q6 123 (by decide)] at pm
        rcases pm with ⟨w, rfl, rfl⟩ | ⟨w1, w2, rfl, rfl⟩ | ⟨R2, S2, J2, y, s2, g2, gl2, w1, w2, w3, w4, rfl, rfl, w5, w6, w7, w8, w9, w10, w11, w12, w13⟩
        · exact absurd (by rw [Int.toNat_natCast] at w; exact w) hz11
        · exact absurd ⟨w1, w2⟩ hz12
        · obtain rfl : R = R2 := by omega
          obtain rfl : S = S2 := by omega
          have hS8 : S ≤ 8 := by omega
          have hC : ∀ q : Nat, q < 8 → hl 123 (0 + 8 * R + q) = hl (86 + R) q := fun q hq => (k9 R q hR4 hq).1
          have hJJ : J = J2 ∧ x = y := by
            rcases (show J < J2 ∨ J = J2 ∨ J2 < J by omega) with z | z | z
            · have a' := w7 J z
              rcases q8 with ⟨e, -⟩ | ⟨e1, e2, e3⟩
              · exfalso; omega
              · rw [hC J (by omega), ← h30] at a'
                exact absurd (zCDec_eq e3 a') e2
            · subst z
              refine ⟨rfl, ?_⟩
              rcases q8 with ⟨e1, e2⟩ | ⟨e1, e2, e3⟩ <;> rcases w8 with ⟨f1, f2⟩ | ⟨f1, f2, f3⟩
              · omega
              · exfalso; omega
              · exfalso; omega
              · rw [hC J (by omega), ← h30] at f3
                exact zCDec_eq e3 f3
            · have a' := q7 J2 z
              rcases w8 with ⟨f1, f2⟩ | ⟨f1, f2, f3⟩
              · exfalso; omega
              · rw [hC J2 (by omega), ← h30] at f3
                exact absurd (zCDec_eq f3 a') f2
          obtain ⟨rfl, rfl⟩ := hJJ
          have hPP : ∀ q : Nat, q < J → Int.toNat (hl 123 (0 + 8 * R + q)) = Int.toNat (hl (86 + R) q) ∧ Int.toNat (hl 123 (0 + 8 * R + q)) < 6 := fun q hq => by
            have a' := zCDec_0 (q7 q hq)
            rw [hC q (by omega)]
            exact ⟨rfl, by omega⟩
          have hch := zCh_same (h := h) (P := fun q => Int.toNat (hl 123 (0 + 8 * R + q))) (Q := fun q => Int.toNat (hl (86 + R) q)) hL3.2 (fun c c1 c2 => kh c (by omega) (by omega) (by omega)) hb.1 (fun j hj => by have := hb.2 j hj; omega) J hPP s2 w6
          obtain rfl := zCh_eq J s s2 q4 hch.1
          have htr := zCh_tr J s q4
          have e81 : gl 81 0 = s.2.2.2.1 := q3.2.2.2.2
          have e81h : hl 81 0 = s0.2.2.2.1 := dc.2.2.2.2
          have e104 : gl2 104 2 = s.2.2.2.1 := w5.2.2.2.2.2.2.2.2
          have g2c : ∀ c : Nat, c < 104 → g2 c = k c := w9
          have g2h : ∀ c : Nat, c ≠ 2 → (c < 21 ∨ (47 < c ∧ c < 104) ∨ (104 < c ∧ c < 109) ∨ 118 ≤ c) → g2 c = h c := fun c h1 h2 => by
            rcases (show c < 104 ∨ 104 < c by omega) with z | z
            · rw [g2c c z]; exact kh c h1 (by omega) (by omega)
            · rw [w10 c (by omega)]; exact kh c h1 (by omega) (by omega)
          have g2j : ∀ j : Nat, j ≠ 0 → j ≠ 1 → j ≠ 14 → j ≠ 15 → g2 104 j = h 104 j := fun j h0 h1 h2 h3 => by rw [w11 j h1 h2 h3]; exact kj j h0
          have nJ : n + J ≤ 12 := by
            by_cases z : J = 0
            · omega
            · have a' := zCDec_0 (q7 (J - 1) (by omega))
              omega
          have htown : zTown g2 p r := zTown_same2 tw (fun c hc => g2h c (by omega) (by omega)) ⟨g2j 3 (by decide) (by decide) (by decide) (by decide), g2j 4 (by decide) (by decide) (by decide) (by decide)⟩ ⟨g2h 105 (by decide) (by omega), g2h 106 (by decide) (by omega), g2h 107 (by decide) (by omega)⟩
          have e119 : ∀ c : Nat, 119 ≤ c → c ≤ 122 → g2 c = h c := fun c c1 c2 => g2h c (by omega) (by omega)
          have elc : ∀ c : Nat, c ≠ 81 → c ≠ 104 → gl2 c = hl c := fun c h1 h2 => by rw [w13 c h2]; exact q6 c h1
          have dcg : zDc g2 gl2 p L B (n + J) s := zDc_up (fun c hc => by rw [g2c c (by omega), ko c (by omega) (by omega)]) (by rw [g2c 0 (by decide), ko 0 (by decide) (by decide)]) (by rw [w13 81 (by decide)]) q3
          refine ⟨p, r, g2, gl2, rfl, rfl, by rw [g2h 1 (by decide) (by omega)]; exact x1, by rw [elc 1 (by decide) (by decide)]; exact x2, htown, fun j hj => by rw [g2h 0 (by decide) (by omega)]; exact od j hj, fun j hj => by rw [g2c 38 (by decide), ko 38 (by decide) (by decide)]; exact q3.1.2.2.2.2.2.2.2.2.2.2.2.2.2.2.2 j hj, fun j hj => by rw [g2h 56 (by decide) (by omega)]; exact z56 j hj, by rw [g2c 2 (by decide), k2s.1]; exact kd, by rw [g2j 11 (by decide) (by decide) (by decide) (by decide), g2c 2 (by decide), k2s.1]; exact kd2, by rw [g2c 2 (by decide), k2s.2]; exact ⟨by omega, by omega⟩, by rw [w12, g2c 2 (by decide), k2s.2], ?_, ?_, zBkR_same (g2h 83 (by decide) (by omega)) (g2h 84 (by decide) (by omega)) e119 (elc 123 (by decide) (by decide)) (fun q hq => elc _ (by omega) (by omega)) b0, zBkR_same (g2h 90 (by decide) (by omega)) (g2h 91 (by decide) (by omega)) e119 (elc 123 (by decide) (by decide)) (fun q hq => elc _ (by omega) (by omega)) b1, zBkR_same (g2h 97 (by decide) (by omega)) (g2h 98 (by decide) (by omega)) e119 (elc 123 (by decide) (by decide)) (fun q hq => elc _ (by omega) (by omega)) b2, Or.inr ⟨L, B, n + J, s, nJ, dcg, w5⟩⟩
          · rw [w13 81 (by decide)]; omega
          · rw [w13 81 (by decide)]; omega
  · -- none
    have e9 : h 104 9 = 0 := by omega
    refine zQ_imp (p_callsF0 (d := 2) ha tw k3 hZq hVq hq hon hdb.2.1) (fun ρ σ' pc => ?_)
    rcases pc with ⟨x, q0, q, rfl, rfl⟩ | ⟨R, S, x, rfl, q1, q2, rfl, rfl, q3⟩
    · have hz := hwhy x q
      refine ⟨0, _, hl, rfl, ⟨by decide, by decide⟩, rfl, by rw [← x1]; funext q; exact zup_ne (by decide), x2, zQ_imp (p_callsOF0 (hl := hl) (d := 7) rfl ha (zMbk_same (fun c c1 c2 => by funext q; rw [zup_ne (by omega), zup_ne (by omega)]) rfl (zBkR_M b0)) (by rw [zup_k (by decide), zup_ne (by decide)]; omega) (by rw [zup_k (by decide), zup_ne (by decide)]; exact e9)) (fun r2 σ2 pm => ?_)⟩
      rw [show (zup (zup h 2 8 x) 104 0 0) 119 = h 119 from by funext q; rw [zup_ne (by decide), zup_ne (by decide)], show (zup (zup h 2 8 x) 104 0 0) 121 = h 121 from by funext q; rw [zup_ne (by decide), zup_ne (by decide)], show (zup (zup h 2 8 x) 104 0 0) 122 = h 122 from by funext q; rw [zup_ne (by decide), zup_ne (by decide)]] at pm
      rcases pm with ⟨w, rfl, rfl⟩ | ⟨w1, w2, rfl, rfl⟩ | ⟨R2, S2, y, w1, w2, w3, w4, -⟩
      · obtain rfl := hz.1.mpr w
        exact ⟨p, r, _, hl, rfl, rfl, zLi_F hI ⟨by decide, by decide⟩⟩
      · obtain rfl := hz.2.1.mpr ⟨w1, w2⟩
        exact ⟨p, r, _, hl, rfl, rfl, zLi_F hI ⟨by decide, by decide⟩⟩
      · exfalso
        rcases hz.2.2 with e | e | e
        · exact q0 e
        · rcases hz.1.mp e with z | ⟨z1, z2⟩
          · exact w2 z
          · rw [w1, Int.toNat_natCast] at z2; omega
        · exact (hz.2.1.mp e).2 ⟨by omega, by omega⟩
    · have hz := hwhy 0 q1
      have hz11 : ¬ (h 119 0 = 0 ∨ ((0 ≤ (R : Int) ∧ (R : Int) < h 121 0) ∧ h 122 (0 + Int.toNat (R : Int)) = -9)) := fun w => absurd (hz.1.mpr w) (by decide)
      have hz12 : ¬ (¬ h 119 0 = 0 ∧ ¬ (0 ≤ (R : Int) ∧ (R : Int) < h 121 0)) := fun w => absurd (hz.2.1.mpr w) (by decide)
      have hy0 := zWhy_0 q1
      unfold zHasRow at hy0
      rw [Int.toNat_natCast] at hz11
      have hR4 : R < 4 := by omega
      have k8R : (h 84 R = -1 ∧ h 122 (0 + R) = -9) ∨ (0 ≤ h 84 R ∧ h 84 R ≤ 8 ∧ h 122 (0 + R) = h 84 R) := k8 R hR4
      have hx0 : -3 ≤ x ∧ x ≤ 0 := by
        rcases q3 with ⟨-, e⟩ | ⟨-, -, e⟩
        · omega
        · exact zCDec_b e
      refine ⟨0, _, hl, rfl, ⟨by decide, by decide⟩, rfl, by rw [← x1]; funext q; exact zup_ne (by decide), x2, zQ_imp (p_callsOF0 (hl := hl) (d := 7) rfl ha (zMbk_same (fun c c1 c2 => by funext q; rw [zup_ne (by omega), zup_ne (by omega)]) rfl (zBkR_M b0)) (by rw [zup_k (by decide), zup_ne (by decide)]; omega) (by rw [zup_k (by decide), zup_ne (by decide)]; exact e9)) (fun r2 σ2 pm => ?_)⟩
      rw [show (zup (zup h 2 8 x) 104 0 0) 119 = h 119 from by funext q; rw [zup_ne (by decide), zup_ne (by decide)], show (zup (zup h 2 8 x) 104 0 0) 121 = h 121 from by funext q; rw [zup_ne (by decide), zup_ne (by decide)], show (zup (zup h 2 8 x) 104 0 0) 122 = h 122 from by funext q; rw [zup_ne (by decide), zup_ne (by decide)]] at pm
      rcases pm with ⟨w, rfl, rfl⟩ | ⟨w1, w2, rfl, rfl⟩ | ⟨R2, S2, y, w1, w2, w3, w4, rfl, w5⟩
      · exact absurd (by rw [Int.toNat_natCast] at w; exact w) hz11
      · exact absurd ⟨w1, w2⟩ hz12
      · obtain rfl : R = R2 := by omega
        obtain rfl : S = S2 := by omega
        rcases w5 with ⟨z1, z2, rfl⟩ | ⟨z1, z2, z3, rfl⟩
        · obtain rfl : x = 0 := by
            rcases q3 with ⟨-, e⟩ | ⟨e, -⟩
            · exact e
            · omega
          exact ⟨p, r, _, hl, rfl, rfl, zLi_F1 hI ⟨by decide, by decide⟩⟩
        · rcases q3 with ⟨e, -⟩ | ⟨e1, e2, e3⟩
          · exfalso; omega
          · rw [show (zup (zup h 2 8 x) 104 0 0) 104 3 = h 3 0 from by rw [zup_k (by decide), zup_ne (by decide)]; omega, show (zup (zup h 2 8 x) 104 0 0) 104 9 = h 21 3 from by rw [zup_k (by decide), zup_ne (by decide)]; omega, show (zup (zup h 2 8 x) 104 0 0) 104 15 = h 21 4 from by rw [zup_k (by decide), zup_ne (by decide)]; omega, show hl 123 (0 + 8 * R + 0) = hl (86 + R) 0 from (k9 R 0 hR4 (by decide)).1] at z3
            obtain rfl := zCDec_eq e3 z3
            exact ⟨p, r, _, hl, rfl, rfl, zLi_F hI ⟨by omega, by omega⟩⟩
theorem zT_roads1 (hI : zLi X XL t p r h hl) : zTw 90 [.inr (.inr (some 2)), .inl 1] 148 [.inr (.inr (some 104)), .inl 1] X XL t h hl := by
  have hIc := hI
  obtain ⟨x1, x2, tw, od, z38, z56, kd, kd2, st, st2, tr, tr2, b0, b1, b2, dy⟩ := hIc
  have hdb := zDay_b dy
  have hon : zr (h 21 3) := ⟨by omega, by omega⟩
  have twc := tw
  obtain ⟨hp6, hr15, h30, h31, hp3, hr4, hMe, hTB, hCn, hPo, hRd, hLk, hGr⟩ := twc
  have bc := b1
  obtain ⟨k1, k2, k3, k4, k5, k6, k7, k8, k9⟩ := bc
  have hZq : ∀ q : Nat, q < 4 → -1 ≤ h 91 q ∧ h 91 q ≤ 8 := fun q hq => by have := k8 q hq; omega
  have hVq : ∀ q i : Nat, q < 4 → i < 8 → zrl (hl (93 + q) i) := fun q i hq hi => (k9 q i hq hi).2
  refine zQ_imp (p_roadsB1 (d := 3) tw hon k3 hZq hVq) (fun ρ σ' pc => ?_)
  rcases pc with ⟨q, rfl, rfl⟩ | ⟨R, J, x, g, q1, rfl, rfl, q2, q3, q3b, q4, q5⟩
  · refine ⟨0, _, hl, rfl, ⟨by decide, by decide⟩, rfl, by rw [← x1]; funext q; exact zup_ne (by decide), x2, zQ_imp (p_roadsO1 (hl := hl) (d := 6) (r := r) rfl (zMbk_same (fun c c1 c2 => by funext q; rw [zup_ne (by omega), zup_ne (by omega)]) rfl (zBkR_M b1)) hr15 (by rw [zup_k (by decide), zup_ne (by decide)]; exact hr4) (by rw [zup_k (by decide), zup_ne (by decide)]; omega) (by rw [zup_k (by decide), zup_ne (by decide)]; exact ⟨by omega, by omega⟩)) (fun r2 σ2 pm => ?_)⟩
    rw [show (zup (zup h 2 8 (-11)) 104 0 0) 119 1 = h 119 1 from by rw [zup_ne (by decide), zup_ne (by decide)]] at pm
    rcases pm with ⟨w, rfl, rfl⟩ | ⟨w, -⟩
    · exact ⟨p, r, _, hl, rfl, rfl, zLi_F hI ⟨by decide, by decide⟩⟩
    · exfalso; omega
  · have hx0 : -12 ≤ x ∧ x ≤ 0 := by
      rcases q5 with ⟨-, e⟩ | ⟨-, -, e⟩
      · omega
      · exact zRDec_b e
    have hJ4 : J ≤ R ∧ R ≤ 4 := by omega
    have gf : ∀ c : Nat, c < 3 ∨ 18 ≤ c → g c = h c := q3
    refine ⟨_, _, hl, rfl, zr_nat (by omega), rfl, by rw [← x1, ← gf 1 (by omega)]; funext q; exact zup_ne (by decide), x2, zQ_imp (p_roadsO1 (hl := hl) (d := 6) (r := r) rfl (zMbk_same (fun c c1 c2 => by rw [← gf c (by omega)]; funext q; rw [zup_ne (by omega), zup_ne (by omega)]) rfl (zBkR_M b1)) hr15 (by rw [zup_k (by decide), zup_ne (by decide), gf 104 (by omega)]; exact hr4) (by rw [zup_k (by decide), zup_ne (by decide), gf 104 (by omega)]; omega) (by rw [zup_k (by decide), zup_ne (by decide), gf 104 (by omega)]; exact ⟨by omega, by omega⟩)) (fun r2 σ2 pm => ?_)⟩
    obtain ⟨k, ek⟩ : ∃ k, k = zup (zup g 2 8 x) 104 0 0 := ⟨_, rfl⟩
    rw [← ek] at pm
    have ko : ∀ c : Nat, c ≠ 2 → c ≠ 104 → k c = g c := fun c h1 h2 => by rw [ek]; funext q; rw [zup_ne h2, zup_ne h1]
    have kh : ∀ c : Nat, c ≠ 2 → c ≠ 104 → (c < 3 ∨ 18 ≤ c) → k c = h c := fun c h1 h2 h3 => by rw [ko c h1 h2]; exact gf c h3
    have kj : ∀ j : Nat, j ≠ 0 → k 104 j = h 104 j := fun j hj => by rw [ek, zup_k hj, zup_ne (by decide), gf 104 (by omega)]
    have k2s : k 2 7 = h 2 7 ∧ k 2 8 = x := by rw [ek, ← gf 2 (by omega)]; simp [zup_at]
    have k3 := kj 3 (by decide)
    have k9' := kj 9 (by decide)
    rw [kh 119 (by decide) (by decide) (by omega), kh 121 (by decide) (by decide) (by omega), kh 122 (by decide) (by decide) (by omega), k3, k9', hp3, hdb.2.2.1] at pm
    have hCv : ∀ q : Nat, q < 4 → hl 123 (32 + 8 * q) = hl (93 + q) 0 ∧ hl 123 (32 + 8 * q + 1) = hl (93 + q) 1 ∧ hl 123 (32 + 8 * q + 2) = hl (93 + q) 2 := fun q hq => ⟨(k9 q 0 hq (by decide)).1, (k9 q 1 hq (by decide)).1, (k9 q 2 hq (by decide)).1⟩
    have hdec : ∀ (q : Nat) (y : Int), q < 4 → zRDec (p : Int) (h 21 3) ((r + q : Nat) : Int) (h 122 (4 + q)) (hl 123 (32 + 8 * q)) (hl 123 (32 + 8 * q + 1)) (hl 123 (32 + 8 * q + 2)) y → zRDec (h 3 0) (h 21 3) ((r + q : Nat) : Int) (h 91 q) (hl (93 + q) 0) (hl (93 + q) 1) (hl (93 + q) 2) y := fun q y hq hz => by
      obtain ⟨v0, v1, v2⟩ := hCv q hq
      rw [v0, v1, v2, ← h30] at hz
      have k8q : (h 91 q = -1 ∧ h 122 (4 + q) = -9) ∨ (0 ≤ h 91 q ∧ h 91 q ≤ 8 ∧ h 122 (4 + q) = h 91 q) := k8 q hq
      refine zRDec_sz ?_ hz
      omega
    rcases pm with ⟨w, -⟩ | ⟨w, R2, J2, y, w1, rfl, w2, w3, w4⟩
    · exfalso; omega
    · obtain rfl : R = R2 := by omega
      have hJJ : J = J2 ∧ x = y := by
        rcases (show J < J2 ∨ J = J2 ∨ J2 < J by omega) with z | z | z
        · have a := hdec J 0 (by omega) (w3 J z)
          rcases q5 with ⟨e, -⟩ | ⟨e1, e2, e3⟩
          · exfalso; omega
          · exact absurd (zRDec_eq e3 a) e2
        · subst z
          refine ⟨rfl, ?_⟩
          rcases q5 with ⟨e1, e2⟩ | ⟨e1, e2, e3⟩ <;> rcases w4 with ⟨f1, f2, -⟩ | ⟨f1, f2, f3, -⟩
          · omega
          · exfalso; omega
          · exfalso; omega
          · exact zRDec_eq e3 (hdec J y (by omega) f3)
        · have a := q4 J2 z
          rcases w4 with ⟨f1, f2, -⟩ | ⟨f1, f2, f3, -⟩
          · exfalso; omega
          · exact absurd (zRDec_eq (hdec J2 y (by omega) f3) a) f2
      obtain ⟨rfl, rfl⟩ := hJJ
      obtain ⟨f, rfl, ef⟩ : ∃ f : Nat → Nat → Int, σ2 = zs f hl ∧ ((x = 0 ∧ f = zAR (zup k 104 1 0) (fun q i => hl 123 (32 + 8 * q + i)) r J) ∨ f = zup (zAR (zup k 104 1 0) (fun q i => hl 123 (32 + 8 * q + i)) r J) 104 1 x) := by
        rcases w4 with ⟨f1, f2, f3⟩ | ⟨f1, f2, f3, f4⟩
        · exact ⟨_, f3, Or.inl ⟨f2, rfl⟩⟩
        · exact ⟨_, f4, Or.inr rfl⟩
      have ao := zAR_o (h := zup k 104 1 0) (V := fun q i => hl 123 (32 + 8 * q + i)) (r := r) J
      have fc : ∀ c : Nat, c ≠ 104 → f c = zAR (zup k 104 1 0) (fun q i => hl 123 (32 + 8 * q + i)) r J c := fun c hc => by
        rcases ef with ⟨-, e⟩ | e
        · rw [e]
        · rw [e]; funext q; exact zup_ne hc
      have fo : ∀ c : Nat, c < 104 ∨ 107 < c → f c = k c := fun c hc => by rw [fc c (by omega), ao.1 c (by omega) (by omega) (by omega) (by omega)]; funext q; exact zup_ne (by omega)
      have fj : ∀ j : Nat, j ≠ 0 → j ≠ 1 → j ≠ 4 → f 104 j = h 104 j := fun j h0 h1 h4 => by
        rcases ef with ⟨-, e⟩ | e
        · rw [e, ao.2 j h4, zup_k h1]; exact kj j h0
        · rw [e, zup_k h1, ao.2 j h4, zup_k h1]; exact kj j h0
      have f1 : f 104 1 = x := by
        rcases ef with ⟨e0, e⟩ | e
        · rw [e, ao.2 1 (by decide), zup_eq, e0]
        · rw [e]; exact zup_eq
      have a4 := zAR_4 (h := zup k 104 1 0) (V := fun q i => hl 123 (32 + 8 * q + i)) (r := r) (by rw [zup_k (by decide), kj 4 (by decide)]; exact hr4) J
      have f4 : f 104 4 = ((r + J : Nat) : Int) := by
        rcases ef with ⟨e0, e⟩ | e
        · rw [e]; exact a4
        · rw [e, zup_k (by decide)]; exact a4
      have a4h := zAR_4 (h := h) (V := fun q i => hl (93 + q) i) hr4 J
      have aoh := zAR_o (h := h) (V := fun q i => hl (93 + q) i) (r := r) J
      have fA : ∀ c : Nat, 105 ≤ c → c ≤ 107 → f c = zAR h (fun q i => hl (93 + q) i) r J c := fun c c1 c2 => by
        rw [fc c (by omega)]
        exact zAR_eq (fun c c1 c2 => by rw [← kh c (by omega) (by omega) (by omega)]; funext q; exact zup_ne (by omega)) J (fun q hq => hCv q (by omega)) c c1 c2
      have twf : zTown f p (r + J) := zTown_same2 q2 (fun c hc => by rw [fo c (by omega), ko c (by omega) (by omega)]; exact (zov_l (by omega)).symm) ⟨by rw [fj 3 (by decide) (by decide) (by decide)]; exact ((congrFun (zov_r (Nat.le_refl 104)) 3).trans (aoh.2 3 (by decide))).symm, by rw [f4]; exact ((congrFun (zov_r (Nat.le_refl 104)) 4).trans a4h).symm⟩ ⟨by rw [fA 105 (by decide) (by decide)]; exact (zov_r (by decide)).symm, by rw [fA 106 (by decide) (by decide)]; exact (zov_r (by decide)).symm, by rw [fA 107 (by decide) (by decide)]; exact (zov_r (by decide)).symm⟩
      have fh : ∀ c : Nat, c ≠ 2 → (c < 3 ∨ (18 ≤ c ∧ c < 104) ∨ 107 < c) → f c = h c := fun c h1 h2 => by rw [fo c (by omega)]; exact kh c h1 (by omega) (by omega)
      have f2 : f 2 = k 2 := fo 2 (by omega)
      have e119 : ∀ c : Nat, 119 ≤ c → c ≤ 122 → f c = h c := fun c c1 c2 => fh c (by omega) (by omega)
      refine ⟨p, r + J, f, hl, rfl, rfl, by rw [fh 1 (by decide) (by omega)]; exact x1, x2, twf, fun j hj => by rw [fh 0 (by decide) (by omega)]; exact od j hj, fun j hj => by rw [fh 38 (by decide) (by omega)]; exact z38 j hj, fun j hj => by rw [fh 56 (by decide) (by omega)]; exact z56 j hj, by rw [f2, k2s.1]; exact kd, by rw [fj 11 (by decide) (by decide) (by decide), f2, k2s.1]; exact kd2, by rw [f2, k2s.2]; exact ⟨by omega, by omega⟩, by rw [f1, f2, k2s.2], by omega, tr2, zBkR_same (fh 83 (by decide) (by omega)) (fh 84 (by decide) (by omega)) e119 rfl (fun _ _ => rfl) b0, zBkR_same (fh 90 (by decide) (by omega)) (fh 91 (by decide) (by omega)) e119 rfl (fun _ _ => rfl) b1, zBkR_same (fh 97 (by decide) (by omega)) (fh 98 (by decide) (by omega)) e119 rfl (fun _ _ => rfl) b2, ?_⟩
      rcases dy with ⟨a1, a2, a3, a4⟩ | ⟨L, B, n, s, n12, dc, dm⟩
      · exact Or.inl ⟨by rw [fh 21 (by decide) (by omega)]; exact a1, by rw [fh 21 (by decide) (by omega)]; exact a2, by rw [fj 9 (by decide) (by decide) (by decide)]; exact a3, by rw [fj 15 (by decide) (by decide) (by decide)]; exact a4⟩
      · have l1 := dc.1.1.1
        have l2 := dc.1.2.2.2.1
        have J0 : J = 0 := Classical.byContradiction (fun w => by have := (zRDec_0 (q4 0 (by omega))).2.2.1; omega)
        have gh : g = h := q3b J0
        have fhh : ∀ c : Nat, c ≠ 2 → (c < 104 ∨ 107 < c) → f c = h c := fun c h1 h2 => by rw [fo c h2, ko c h1 (by omega), gh]
        exact Or.inr ⟨L, B, n, s, n12, zDc_up (fun c hc => fhh c (by omega) (by omega)) (fhh 0 (by decide) (by omega)) rfl dc, zDm_same dm (fun c hc => fhh c (by omega) (by omega)) (fun i j _ _ => by rw [fhh 108 (by decide) (by omega)]) ⟨fj 9 (by decide) (by decide) (by decide), fj 10 (by decide) (by decide) (by decide), fj 14 (by decide) (by decide) (by decide), fj 15 (by decide) (by decide) (by decide)⟩ rfl (fun j hj => by have := (zDc_b dc).2 j hj; omega)⟩
theorem zT_calls1 (hI : zLi X XL t p r h hl) {a : Int} (ha : zr a) : zTw 91 [.inr (.inr (some 2)), .inl 1, .inl a] 149 [.inr (.inr (some 104)), .inl 1, .inl a] X XL t h hl := by
  have hIc := hI
  obtain ⟨x1, x2, tw, od, z38, z56, kd, kd2, st, st2, tr, tr2, b0, b1, b2, dy⟩ := hIc
  have hdb := zDay_b dy
  have hon : zr (h 21 3) := ⟨by omega, by omega⟩
  have twc := tw
  obtain ⟨hp6, hr15, h30, h31, hp3, hr4, hMe, hTB, hCn, hPo, hRd, hLk, hGr⟩ := twc
  have bc := b1
  obtain ⟨k1, k2, k3, k4, k5, k6, k7, k8, k9⟩ := bc
  have hZq : ∀ q : Nat, q < 4 → -1 ≤ h 91 q ∧ h 91 q ≤ 8 := fun q hq => by have := k8 q hq; omega
  have hVq : ∀ q i : Nat, q < 4 → i < 8 → zrl (hl (93 + q) i) := fun q i hq hi => (k9 q i hq hi).2
  have hwhy : ∀ y : Int, zWhy h 90 91 a y → (y = -11 ↔ (h 119 1 = 0 ∨ ((0 ≤ a ∧ a < h 121 1) ∧ h 122 (4 + Int.toNat a) = -9))) ∧ (y = -12 ↔ (¬ h 119 1 = 0 ∧ ¬ (0 ≤ a ∧ a < h 121 1))) ∧ (y = 0 ∨ y = -11 ∨ y = -12) := fun y hy => by
    unfold zWhy zHasRow at hy
    by_cases hq : 0 ≤ a ∧ a < 4
    · have k8a : (h 91 a.toNat = -1 ∧ h 122 (4 + a.toNat) = -9) ∨ (0 ≤ h 91 a.toNat ∧ h 91 a.toNat ≤ 8 ∧ h 122 (4 + a.toNat) = h 91 a.toNat) := k8 a.toNat (by omega)
      omega
    · omega
  by_cases hq : 0 < h 21 3
  · -- a day
    rcases dy with ⟨a1, a2, a3, a4⟩ | ⟨L, B, n, s0, hj⟩
    · exfalso; omega
    · have n12 := hj.1
      have dc := hj.2.1
      have dm := hj.2.2
      have hb := zDc_b dc
      have hL3 := dc.1.1.1
      have l2 := dc.1.2.2.2.1
      have l3 := dc.1.2.2.2.2.1
      refine zQ_imp (p_callsN1 (d := 2) ha tw k3 hZq hVq dc n12 rfl kd) (fun ρ σ' pc => ?_)
      rcases pc with ⟨x, q0, q, rfl, rfl⟩ | ⟨R, S, J, x, s, g, gl, rfl, q1, q2, rfl, rfl, q3, q4, q5, q6, q7, q8⟩
      · have hz := hwhy x q
        have hHM := zHM_of (m := zup (zup h 2 8 x) 104 0 0) (ml := hl) tw hj (fun c hc => by funext q; rw [zup_ne (by omega), zup_ne (by omega)]) (fun c hc => by funext q; rw [zup_ne (by omega), zup_ne (by omega)]) (by funext q; rw [zup_ne (by omega), zup_ne (by omega)]) (fun j h0 _ => by rw [zup_k h0, zup_ne (by decide)]) rfl
        refine ⟨0, _, hl, rfl, ⟨by decide, by decide⟩, rfl, by rw [← x1]; funext q; exact zup_ne (by decide), x2, zQ_imp (p_callsON1 (hl := hl) (d := 3) rfl ha (zMbk_same (fun c c1 c2 => by funext q; rw [zup_ne (by omega), zup_ne (by omega)]) rfl (zBkR_M b1)) hHM.1 hHM.2 (fun i hi => by rw [← dc.2.1 i hi]; exact (zDI_bD dc.1 i hi).2) (K := h 2 7) (by rw [zup_k (by decide), zup_ne (by decide)]; exact kd2) kd) (fun r2 σ2 pm => ?_)⟩
        rw [show (zup (zup h 2 8 x) 104 0 0) 119 = h 119 from by funext q; rw [zup_ne (by decide), zup_ne (by decide)], show (zup (zup h 2 8 x) 104 0 0) 121 = h 121 from by funext q; rw [zup_ne (by decide), zup_ne (by decide)], show (zup (zup h 2 8 x) 104 0 0) 122 = h 122 from by funext q; rw [zup_ne (by decide), zup_ne (by decide)]] at pm
        rcases pm with ⟨w, rfl, rfl⟩ | ⟨w1, w2, rfl, rfl⟩ | ⟨R2, S2, J2, y, s2, g2, gl2, w1, w2, w3, w4, -⟩
        · obtain rfl := hz.1.mpr w
          exact ⟨p, r, _, hl, rfl, rfl, zLi_F hI ⟨by decide, by decide⟩⟩
        · obtain rfl := hz.2.1.mpr ⟨w1, w2⟩
          exact ⟨p, r, _, hl, rfl, rfl, zLi_F hI ⟨by decide, by decide⟩⟩
        · exfalso
          rcases hz.2.2 with e | e | e
          · exact q0 e
          · rcases hz.1.mp e with z | ⟨z1, z2⟩
            · exact w2 z
            · rw [w1, Int.toNat_natCast] at z2; omega
          · exact (hz.2.1.mp e).2 ⟨by omega, by omega⟩
      · have hz := hwhy 0 q1
        have hz11 : ¬ (h 119 1 = 0 ∨ ((0 ≤ (R : Int) ∧ (R : Int) < h 121 1) ∧ h 122 (4 + Int.toNat (R : Int)) = -9)) := fun w => absurd (hz.1.mpr w) (by decide)
        have hz12 : ¬ (¬ h 119 1 = 0 ∧ ¬ (0 ≤ (R : Int) ∧ (R : Int) < h 121 1)) := fun w => absurd (hz.2.1.mpr w) (by decide)
        have hy0 := zWhy_0 q1
        unfold zHasRow at hy0
        rw [Int.toNat_natCast] at hz11
        have hR4 : R < 4 := by omega
        have k8R : (h 91 R = -1 ∧ h 122 (4 + R) = -9) ∨ (0 ≤ h 91 R ∧ h 91 R ≤ 8 ∧ h 122 (4 + R) = h 91 R) := k8 R hR4
        have hx0 : -3 ≤ x ∧ x ≤ 0 := by
          rcases q8 with ⟨-, e⟩ | ⟨-, -, e⟩
          · omega
          · exact zCDec_b e
        have gf : ∀ c : Nat, c < 21 ∨ 47 < c → g c = h c := q5
        obtain ⟨k, ek⟩ : ∃ k, k = zup (zup g 2 8 x) 104 0 0 := ⟨_, rfl⟩
        have ko : ∀ c : Nat, c ≠ 2 → c ≠ 104 → k c = g c := fun c h1 h2 => by rw [ek]; funext q; rw [zup_ne h2, zup_ne h1]
        have kh : ∀ c : Nat, c ≠ 2 → c ≠ 104 → (c < 21 ∨ 47 < c) → k c = h c := fun c h1 h2 h3 => by rw [ko c h1 h2]; exact gf c h3
        have kj : ∀ j : Nat, j ≠ 0 → k 104 j = h 104 j := fun j hj => by rw [ek, zup_k hj, zup_ne (by decide), gf 104 (by omega)]
        have k2s : k 2 7 = h 2 7 ∧ k 2 8 = x := by rw [ek, ← gf 2 (by omega)]; simp [zup_at]
        have k3' := kj 3 (by decide)
        have k9' := kj 9 (by decide)
        have hHM := zHM_of (m := k) (ml := gl) tw hj (fun c hc => kh c (by omega) (by omega) (by omega)) (fun c hc => kh c (by omega) (by omega) (by omega)) (kh 108 (by decide) (by decide) (by omega)) (fun j h0 _ => kj j h0) (by rw [q6 104 (by decide)])
        refine ⟨_, _, gl, rfl, zr_nat (by omega), rfl, by rw [← x1, ← gf 1 (by omega)]; funext q; exact zup_ne (by decide), by rw [q6 1 (by decide)]; exact x2, zQ_imp (p_callsON1 (hl := gl) (d := 3) (K := h 2 7) (show zup (zup g 2 8 x) 104 0 0 = k from ek.symm) ha (zMbk_same (fun c c1 c2 => kh c (by omega) (by omega) (by omega)) (q6 123 (by decide)) (zBkR_M b1)) hHM.1 hHM.2 (fun i hi => by rw [← dc.2.1 i hi]; exact (zDI_bD dc.1 i hi).2) (by rw [kj 11 (by decide)]; exact kd2) kd) (fun r2 σ2 pm => ?_)⟩
        rw [kh 119 (by decide) (by decide) (by omega), kh 121 (by decide) (by decide) (by omega), kh 122 (by decide) (by decide) (by omega), k3', k9', hp3, hdb.2.2.1, q6 123 (by decide)] at pm
        rcases pm with ⟨w, rfl, rfl⟩ | ⟨w1, w2, rfl, rfl⟩ | ⟨R2, S2, J2, y, s2, g2, gl2, w1, w2, w3, w4, rfl, rfl, w5, w6, w7, w8, w9, w10, w11, w12, w13⟩
        · exact absurd (by rw [Int.toNat_natCast] at w; exact w) hz11
        · exact absurd ⟨w1, w2⟩ hz12
        · obtain rfl : R = R2 := by omega
          obtain rfl : S = S2 := by omega
          have hS8 : S ≤ 8 := by omega
          have hC : ∀ q : Nat, q < 8 → hl 123 (32 + 8 * R + q) = hl (93 + R) q := fun q hq => (k9 R q hR4 hq).1
          have hJJ : J = J2 ∧ x = y := by
            rcases (show J < J2 ∨ J = J2 ∨ J2 < J by omega) with z | z | z
            · have a' := w7 J z
              rcases q8 with ⟨e, -⟩ | ⟨e1, e2, e3⟩
              · exfalso; omega
              · rw [hC J (by omega), ← h30] at a'
                exact absurd (zCDec_eq e3 a') e2
            · subst z
              refine ⟨rfl, ?_⟩
              rcases q8 with ⟨e1, e2⟩ | ⟨e1, e2, e3⟩ <;> rcases w8 with ⟨f1, f2⟩ | ⟨f1, f2, f3⟩
              · omega
              · exfalso; omega
              · exfalso; omega
              · rw [hC J (by omega), ← h30] at f3
                exact zCDec_eq e3 f3
            · have a' := q7 J2 z
              rcases w8 with ⟨f1, f2⟩ | ⟨f1, f2, f3⟩
              · exfalso; omega
              · rw [hC J2 (by omega), ← h30] at f3
                exact absurd (zCDec_eq f3 a') f2
          obtain ⟨rfl, rfl⟩ := hJJ
          have hPP : ∀ q : Nat, q < J → Int.toNat (hl 123 (32 + 8 * R + q)) = Int.toNat (hl (93 + R) q) ∧ Int.toNat (hl 123 (32 + 8 * R + q)) < 6 := fun q hq => by
            have a' := zCDec_0 (q7 q hq)
            rw [hC q (by omega)]
            exact ⟨rfl, by omega⟩
          have hch := zCh_same (h := h) (P := fun q => Int.toNat (hl 123 (32 + 8 * R + q))) (Q := fun q => Int.toNat (hl (93 + R) q)) hL3.2 (fun c c1 c2 => kh c (by omega) (by omega) (by omega)) hb.1 (fun j hj => by have := hb.2 j hj; omega) J hPP s2 w6
          obtain rfl := zCh_eq J s s2 q4 hch.1
          have htr := zCh_tr J s q4
          have e81 : gl 81 0 = s.2.2.2.1 := q3.2.2.2.2
          have e81h : hl 81 0 = s0.2.2.2.1 := dc.2.2.2.2
          have e104 : gl2 104 2 = s.2.2.2.1 := w5.2.2.2.2.2.2.2.2
          have g2c : ∀ c : Nat, c < 104 → g2 c = k c := w9
          have g2h : ∀ c : Nat, c ≠ 2 → (c < 21 ∨ (47 < c ∧ c < 104) ∨ (104 < c ∧ c < 109) ∨ 118 ≤ c) → g2 c = h c := fun c h1 h2 => by
            rcases (show c < 104 ∨ 104 < c by omega) with z | z
            · rw [g2c c z]; exact kh c h1 (by omega) (by omega)
            · rw [w10 c (by omega)]; exact kh c h1 (by omega) (by omega)
          have g2j : ∀ j : Nat, j ≠ 0 → j ≠ 1 → j ≠ 14 → j ≠ 15 → g2 104 j = h 104 j := fun j h0 h1 h2 h3 => by rw [w11 j h1 h2 h3]; exact kj j h0
          have nJ : n + J ≤ 12 := by
            by_cases z : J = 0
            · omega
            · have a' := zCDec_0 (q7 (J - 1) (by omega))
              omega
          have htown : zTown g2 p r := zTown_same2 tw (fun c hc => g2h c (by omega) (by omega)) ⟨g2j 3 (by decide) (by decide) (by decide) (by decide), g2j 4 (by decide) (by decide) (by decide) (by decide)⟩ ⟨g2h 105 (by decide) (by omega), g2h 106 (by decide) (by omega), g2h 107 (by decide) (by omega)⟩
          have e119 : ∀ c : Nat, 119 ≤ c → c ≤ 122 → g2 c = h c := fun c c1 c2 => g2h c (by omega) (by omega)
          have elc : ∀ c : Nat, c ≠ 81 → c ≠ 104 → gl2 c = hl c := fun c h1 h2 => by rw [w13 c h2]; exact q6 c h1
          have dcg : zDc g2 gl2 p L B (n + J) s := zDc_up (fun c hc => by rw [g2c c (by omega), ko c (by omega) (by omega)]) (by rw [g2c 0 (by decide), ko 0 (by decide) (by decide)]) (by rw [w13 81 (by decide)]) q3
          refine ⟨p, r, g2, gl2, rfl, rfl, by rw [g2h 1 (by decide) (by omega)]; exact x1, by rw [elc 1 (by decide) (by decide)]; exact x2, htown, fun j hj => by rw [g2h 0 (by decide) (by omega)]; exact od j hj, fun j hj => by rw [g2c 38 (by decide), ko 38 (by decide) (by decide)]; exact q3.1.2.2.2.2.2.2.2.2.2.2.2.2.2.2.2 j hj, fun j hj => by rw [g2h 56 (by decide) (by omega)]; exact z56 j hj, by rw [g2c 2 (by decide), k2s.1]; exact kd, by rw [g2j 11 (by decide) (by decide) (by decide) (by decide), g2c 2 (by decide), k2s.1]; exact kd2, by rw [g2c 2 (by decide), k2s.2]; exact ⟨by omega, by omega⟩, by rw [w12, g2c 2 (by decide), k2s.2], ?_, ?_, zBkR_same (g2h 83 (by decide) (by omega)) (g2h 84 (by decide) (by omega)) e119 (elc 123 (by decide) (by decide)) (fun q hq => elc _ (by omega) (by omega)) b0, zBkR_same (g2h 90 (by decide) (by omega)) (g2h 91 (by decide) (by omega)) e119 (elc 123 (by decide) (by decide)) (fun q hq => elc _ (by omega) (by omega)) b1, zBkR_same (g2h 97 (by decide) (by omega)) (g2h 98 (by decide) (by omega)) e119 (elc 123 (by decide) (by decide)) (fun q hq => elc _ (by omega) (by omega)) b2, Or.inr ⟨L, B, n + J, s, nJ, dcg, w5⟩⟩
          · rw [w13 81 (by decide)]; omega
          · rw [w13 81 (by decide)]; omega
  · -- none
    have e9 : h 104 9 = 0 := by omega
    refine zQ_imp (p_callsF1 (d := 2) ha tw k3 hZq hVq hq hon hdb.2.1) (fun ρ σ' pc => ?_)
    rcases pc with ⟨x, q0, q, rfl, rfl⟩ | ⟨R, S, x, rfl, q1, q2, rfl, rfl, q3⟩
    · have hz := hwhy x q
      refine ⟨0, _, hl, rfl, ⟨by decide, by decide⟩, rfl, by rw [← x1]; funext q; exact zup_ne (by decide), x2, zQ_imp (p_callsOF1 (hl := hl) (d := 7) rfl ha (zMbk_same (fun c c1 c2 => by funext q; rw [zup_ne (by omega), zup_ne (by omega)]) rfl (zBkR_M b1)) (by rw [zup_k (by decide), zup_ne (by decide)]; omega) (by rw [zup_k (by decide), zup_ne (by decide)]; exact e9)) (fun r2 σ2 pm => ?_)⟩
      rw [show (zup (zup h 2 8 x) 104 0 0) 119 = h 119 from by funext q; rw [zup_ne (by decide), zup_ne (by decide)], show (zup (zup h 2 8 x) 104 0 0) 121 = h 121 from by funext q; rw [zup_ne (by decide), zup_ne (by decide)], show (zup (zup h 2 8 x) 104 0 0) 122 = h 122 from by funext q; rw [zup_ne (by decide), zup_ne (by decide)]] at pm
      rcases pm with ⟨w, rfl, rfl⟩ | ⟨w1, w2, rfl, rfl⟩ | ⟨R2, S2, y, w1, w2, w3, w4, -⟩
      · obtain rfl := hz.1.mpr w
        exact ⟨p, r, _, hl, rfl, rfl, zLi_F hI ⟨by decide, by decide⟩⟩
      · obtain rfl := hz.2.1.mpr ⟨w1, w2⟩
        exact ⟨p, r, _, hl, rfl, rfl, zLi_F hI ⟨by decide, by decide⟩⟩
      · exfalso
        rcases hz.2.2 with e | e | e
        · exact q0 e
        · rcases hz.1.mp e with z | ⟨z1, z2⟩
          · exact w2 z
          · rw [w1, Int.toNat_natCast] at z2; omega
        · exact (hz.2.1.mp e).2 ⟨by omega, by omega⟩
    · have hz := hwhy 0 q1
      have hz11 : ¬ (h 119 1 = 0 ∨ ((0 ≤ (R : Int) ∧ (R : Int) < h 121 1) ∧ h 122 (4 + Int.toNat (R : Int)) = -9)) := fun w => absurd (hz.1.mpr w) (by decide)
      have hz12 : ¬ (¬ h 119 1 = 0 ∧ ¬ (0 ≤ (R : Int) ∧ (R : Int) < h 121 1)) := fun w => absurd (hz.2.1.mpr w) (by decide)
      have hy0 := zWhy_0 q1
      unfold zHasRow at hy0
      rw [Int.toNat_natCast] at hz11
      have hR4 : R < 4 := by omega
      have k8R : (h 91 R = -1 ∧ h 122 (4 + R) = -9) ∨ (0 ≤ h 91 R ∧ h 91 R ≤ 8 ∧ h 122 (4 + R) = h 91 R) := k8 R hR4
      have hx0 : -3 ≤ x ∧ x ≤ 0 := by
        rcases q3 with ⟨-, e⟩ | ⟨-, -, e⟩
        · omega
        · exact zCDec_b e
      refine ⟨0, _, hl, rfl, ⟨by decide, by decide⟩, rfl, by rw [← x1]; funext q; exact zup_ne (by decide), x2, zQ_imp (p_callsOF1 (hl := hl) (d := 7) rfl ha (zMbk_same (fun c c1 c2 => by funext q; rw [zup_ne (by omega), zup_ne (by omega)]) rfl (zBkR_M b1)) (by rw [zup_k (by decide), zup_ne (by decide)]; omega) (by rw [zup_k (by decide), zup_ne (by decide)]; exact e9)) (fun r2 σ2 pm => ?_)⟩
      rw [show (zup (zup h 2 8 x) 104 0 0) 119 = h 119 from by funext q; rw [zup_ne (by decide), zup_ne (by decide)], show (zup (zup h 2 8 x) 104 0 0) 121 = h 121 from by funext q; rw [zup_ne (by decide), zup_ne (by decide)], show (zup (zup h 2 8 x) 104 0 0) 122 = h 122 from by funext q; rw [zup_ne (by decide), zup_ne (by decide)]] at pm
      rcases pm with ⟨w, rfl, rfl⟩ | ⟨w1, w2, rfl, rfl⟩ | ⟨R2, S2, y, w1, w2, w3, w4, rfl, w5⟩
      · exact absurd (by rw [Int.toNat_natCast] at w; exact w) hz11
      · exact absurd ⟨w1, w2⟩ hz12
      · obtain rfl : R = R2 := by omega
        obtain rfl : S = S2 := by omega
        rcases w5 with ⟨z1, z2, rfl⟩ | ⟨z1, z2, z3, rfl⟩
        · obtain rfl : x = 0 := by
            rcases q3 with ⟨-, e⟩ | ⟨e, -⟩
            · exact e
            · omega
          exact ⟨p, r, _, hl, rfl, rfl, zLi_F1 hI ⟨by decide, by decide⟩⟩
        · rcases q3 with ⟨e, -⟩ | ⟨e1, e2, e3⟩
          · exfalso; omega
          · rw [show (zup (zup h 2 8 x) 104 0 0) 104 3 = h 3 0 from by rw [zup_k (by decide), zup_ne (by decide)]; omega, show (zup (zup h 2 8 x) 104 0 0) 104 9 = h 21 3 from by rw [zup_k (by decide), zup_ne (by decide)]; omega, show (zup (zup h 2 8 x) 104 0 0) 104 15 = h 21 4 from by rw [zup_k (by decide), zup_ne (by decide)]; omega, show hl 123 (32 + 8 * R + 0) = hl (93 + R) 0 from (k9 R 0 hR4 (by decide)).1] at z3
            obtain rfl := zCDec_eq e3 z3
            exact ⟨p, r, _, hl, rfl, rfl, zLi_F hI ⟨by omega, by omega⟩⟩
theorem zT_roads2 (hI : zLi X XL t p r h hl) : zTw 90 [.inr (.inr (some 2)), .inl 2] 148 [.inr (.inr (some 104)), .inl 2] X XL t h hl := by
  have hIc := hI
  obtain ⟨x1, x2, tw, od, z38, z56, kd, kd2, st, st2, tr, tr2, b0, b1, b2, dy⟩ := hIc
  have hdb := zDay_b dy
  have hon : zr (h 21 3) := ⟨by omega, by omega⟩
  have twc := tw
  obtain ⟨hp6, hr15, h30, h31, hp3, hr4, hMe, hTB, hCn, hPo, hRd, hLk, hGr⟩ := twc
  have bc := b2
  obtain ⟨k1, k2, k3, k4, k5, k6, k7, k8, k9⟩ := bc
  have hZq : ∀ q : Nat, q < 4 → -1 ≤ h 98 q ∧ h 98 q ≤ 8 := fun q hq => by have := k8 q hq; omega
  have hVq : ∀ q i : Nat, q < 4 → i < 8 → zrl (hl (100 + q) i) := fun q i hq hi => (k9 q i hq hi).2
  refine zQ_imp (p_roadsB2 (d := 3) tw hon k3 hZq hVq) (fun ρ σ' pc => ?_)
  rcases pc with ⟨q, rfl, rfl⟩ | ⟨R, J, x, g, q1, rfl, rfl, q2, q3, q3b, q4, q5⟩
  · refine ⟨0, _, hl, rfl, ⟨by decide, by decide⟩, rfl, by rw [← x1]; funext q; exact zup_ne (by decide), x2, zQ_imp (p_roadsO2 (hl := hl) (d := 6) (r := r) rfl (zMbk_same (fun c c1 c2 => by funext q; rw [zup_ne (by omega), zup_ne (by omega)]) rfl (zBkR_M b2)) hr15 (by rw [zup_k (by decide), zup_ne (by decide)]; exact hr4) (by rw [zup_k (by decide), zup_ne (by decide)]; omega) (by rw [zup_k (by decide), zup_ne (by decide)]; exact ⟨by omega, by omega⟩)) (fun r2 σ2 pm => ?_)⟩
    rw [show (zup (zup h 2 8 (-11)) 104 0 0) 119 2 = h 119 2 from by rw [zup_ne (by decide), zup_ne (by decide)]] at pm
    rcases pm with ⟨w, rfl, rfl⟩ | ⟨w, -⟩
    · exact ⟨p, r, _, hl, rfl, rfl, zLi_F hI ⟨by decide, by decide⟩⟩
    · exfalso; omega
  · have hx0 : -12 ≤ x ∧ x ≤ 0 := by
      rcases q5 with ⟨-, e⟩ | ⟨-, -, e⟩
      · omega
      · exact zRDec_b e
    have hJ4 : J ≤ R ∧ R ≤ 4 := by omega
    have gf : ∀ c : Nat, c < 3 ∨ 18 ≤ c → g c = h c := q3
    refine ⟨_, _, hl, rfl, zr_nat (by omega), rfl, by rw [← x1, ← gf 1 (by omega)]; funext q; exact zup_ne (by decide), x2, zQ_imp (p_roadsO2 (hl := hl) (d := 6) (r := r) rfl (zMbk_same (fun c c1 c2 => by rw [← gf c (by omega)]; funext q; rw [zup_ne (by omega), zup_ne (by omega)]) rfl (zBkR_M b2)) hr15 (by rw [zup_k (by decide), zup_ne (by decide), gf 104 (by omega)]; exact hr4) (by rw [zup_k (by decide), zup_ne (by decide), gf 104 (by omega)]; omega) (by rw [zup_k (by decide), zup_ne (by decide), gf 104 (by omega)]; exact ⟨by omega, by omega⟩)) (fun r2 σ2 pm => ?_)⟩
    obtain ⟨k, ek⟩ : ∃ k, k = zup (zup g 2 8 x) 104 0 0 := ⟨_, rfl⟩
    rw [← ek] at pm
    have ko : ∀ c : Nat, c ≠ 2 → c ≠ 104 → k c = g c := fun c h1 h2 => by rw [ek]; funext q; rw [zup_ne h2, zup_ne h1]
    have kh : ∀ c : Nat, c ≠ 2 → c ≠ 104 → (c < 3 ∨ 18 ≤ c) → k c = h c := fun c h1 h2 h3 => by rw [ko c h1 h2]; exact gf c h3
    have kj : ∀ j : Nat, j ≠ 0 → k 104 j = h 104 j := fun j hj => by rw [ek, zup_k hj, zup_ne (by decide), gf 104 (by omega)]
    have k2s : k 2 7 = h 2 7 ∧ k 2 8 = x := by rw [ek, ← gf 2 (by omega)]; simp [zup_at]
    have k3 := kj 3 (by decide)
    have k9' := kj 9 (by decide)
    rw [kh 119 (by decide) (by decide) (by omega), kh 121 (by decide) (by decide) (by omega), kh 122 (by decide) (by decide) (by omega), k3, k9', hp3, hdb.2.2.1] at pm
    have hCv : ∀ q : Nat, q < 4 → hl 123 (64 + 8 * q) = hl (100 + q) 0 ∧ hl 123 (64 + 8 * q + 1) = hl (100 + q) 1 ∧ hl 123 (64 + 8 * q + 2) = hl (100 + q) 2 := fun q hq => ⟨(k9 q 0 hq (by decide)).1, (k9 q 1 hq (by decide)).1, (k9 q 2 hq (by decide)).1⟩
    have hdec : ∀ (q : Nat) (y : Int), q < 4 → zRDec (p : Int) (h 21 3) ((r + q : Nat) : Int) (h 122 (8 + q)) (hl 123 (64 + 8 * q)) (hl 123 (64 + 8 * q + 1)) (hl 123 (64 + 8 * q + 2)) y → zRDec (h 3 0) (h 21 3) ((r + q : Nat) : Int) (h 98 q) (hl (100 + q) 0) (hl (100 + q) 1) (hl (100 + q) 2) y := fun q y hq hz => by
      obtain ⟨v0, v1, v2⟩ := hCv q hq
      rw [v0, v1, v2, ← h30] at hz
      have k8q : (h 98 q = -1 ∧ h 122 (8 + q) = -9) ∨ (0 ≤ h 98 q ∧ h 98 q ≤ 8 ∧ h 122 (8 + q) = h 98 q) := k8 q hq
      refine zRDec_sz ?_ hz
      omega
    rcases pm with ⟨w, -⟩ | ⟨w, R2, J2, y, w1, rfl, w2, w3, w4⟩
    · exfalso; omega
    · obtain rfl : R = R2 := by omega
      have hJJ : J = J2 ∧ x = y := by
        rcases (show J < J2 ∨ J = J2 ∨ J2 < J by omega) with z | z | z
        · have a := hdec J 0 (by omega) (w3 J z)
          rcases q5 with ⟨e, -⟩ | ⟨e1, e2, e3⟩
          · exfalso; omega
          · exact absurd (zRDec_eq e3 a) e2
        · subst z
          refine ⟨rfl, ?_⟩
          rcases q5 with ⟨e1, e2⟩ | ⟨e1, e2, e3⟩ <;> rcases w4 with ⟨f1, f2, -⟩ | ⟨f1, f2, f3, -⟩
          · omega
          · exfalso; omega
          · exfalso; omega
          · exact zRDec_eq e3 (hdec J y (by omega) f3)
        · have a := q4 J2 z
          rcases w4 with ⟨f1, f2, -⟩ | ⟨f1, f2, f3, -⟩
          · exfalso; omega
          · exact absurd (zRDec_eq (hdec J2 y (by omega) f3) a) f2
      obtain ⟨rfl, rfl⟩ := hJJ
      obtain ⟨f, rfl, ef⟩ : ∃ f : Nat → Nat → Int, σ2 = zs f hl ∧ ((x = 0 ∧ f = zAR (zup k 104 1 0) (fun q i => hl 123 (64 + 8 * q + i)) r J) ∨ f = zup (zAR (zup k 104 1 0) (fun q i => hl 123 (64 + 8 * q + i)) r J) 104 1 x) := by
        rcases w4 with ⟨f1, f2, f3⟩ | ⟨f1, f2, f3, f4⟩
        · exact ⟨_, f3, Or.inl ⟨f2, rfl⟩⟩
        · exact ⟨_, f4, Or.inr rfl⟩
      have ao := zAR_o (h := zup k 104 1 0) (V := fun q i => hl 123 (64 + 8 * q + i)) (r := r) J
      have fc : ∀ c : Nat, c ≠ 104 → f c = zAR (zup k 104 1 0) (fun q i => hl 123 (64 + 8 * q + i)) r J c := fun c hc => by
        rcases ef with ⟨-, e⟩ | e
        · rw [e]
        · rw [e]; funext q; exact zup_ne hc
      have fo : ∀ c : Nat, c < 104 ∨ 107 < c → f c = k c := fun c hc => by rw [fc c (by omega), ao.1 c (by omega) (by omega) (by omega) (by omega)]; funext q; exact zup_ne (by omega)
      have fj : ∀ j : Nat, j ≠ 0 → j ≠ 1 → j ≠ 4 → f 104 j = h 104 j := fun j h0 h1 h4 => by
        rcases ef with ⟨-, e⟩ | e
        · rw [e, ao.2 j h4, zup_k h1]; exact kj j h0
        · rw [e, zup_k h1, ao.2 j h4, zup_k h1]; exact kj j h0
      have f1 : f 104 1 = x := by
        rcases ef with ⟨e0, e⟩ | e
        · rw [e, ao.2 1 (by decide), zup_eq, e0]
        · rw [e]; exact zup_eq
      have a4 := zAR_4 (h := zup k 104 1 0) (V := fun q i => hl 123 (64 + 8 * q + i)) (r := r) (by rw [zup_k (by decide), kj 4 (by decide)]; exact hr4) J
      have f4 : f 104 4 = ((r + J : Nat) : Int) := by
        rcases ef with ⟨e0, e⟩ | e
        · rw [e]; exact a4
        · rw [e, zup_k (by decide)]; exact a4
      have a4h := zAR_4 (h := h) (V := fun q i => hl (100 + q) i) hr4 J
      have aoh := zAR_o (h := h) (V := fun q i => hl (100 + q) i) (r := r) J
      have fA : ∀ c : Nat, 105 ≤ c → c ≤ 107 → f c = zAR h (fun q i => hl (100 + q) i) r J c := fun c c1 c2 => by
        rw [fc c (by omega)]
        exact zAR_eq (fun c c1 c2 => by rw [← kh c (by omega) (by omega) (by omega)]; funext q; exact zup_ne (by omega)) J (fun q hq => hCv q (by omega)) c c1 c2
      have twf : zTown f p (r + J) := zTown_same2 q2 (fun c hc => by rw [fo c (by omega), ko c (by omega) (by omega)]; exact (zov_l (by omega)).symm) ⟨by rw [fj 3 (by decide) (by decide) (by decide)]; exact ((congrFun (zov_r (Nat.le_refl 104)) 3).trans (aoh.2 3 (by decide))).symm, by rw [f4]; exact ((congrFun (zov_r (Nat.le_refl 104)) 4).trans a4h).symm⟩ ⟨by rw [fA 105 (by decide) (by decide)]; exact (zov_r (by decide)).symm, by rw [fA 106 (by decide) (by decide)]; exact (zov_r (by decide)).symm, by rw [fA 107 (by decide) (by decide)]; exact (zov_r (by decide)).symm⟩
      have fh : ∀ c : Nat, c ≠ 2 → (c < 3 ∨ (18 ≤ c ∧ c < 104) ∨ 107 < c) → f c = h c := fun c h1 h2 => by rw [fo c (by omega)]; exact kh c h1 (by omega) (by omega)
      have f2 : f 2 = k 2 := fo 2 (by omega)
      have e119 : ∀ c : Nat, 119 ≤ c → c ≤ 122 → f c = h c := fun c c1 c2 => fh c (by omega) (by omega)
      refine ⟨p, r + J, f, hl, rfl, rfl, by rw [fh 1 (by decide) (by omega)]; exact x1, x2, twf, fun j hj => by rw [fh 0 (by decide) (by omega)]; exact od j hj, fun j hj => by rw [fh 38 (by decide) (by omega)]; exact z38 j hj, fun j hj => by rw [fh 56 (by decide) (by omega)]; exact z56 j hj, by rw [f2, k2s.1]; exact kd, by rw [fj 11 (by decide) (by decide) (by decide), f2, k2s.1]; exact kd2, by rw [f2, k2s.2]; exact ⟨by omega, by omega⟩, by rw [f1, f2, k2s.2], by omega, tr2, zBkR_same (fh 83 (by decide) (by omega)) (fh 84 (by decide) (by omega)) e119 rfl (fun _ _ => rfl) b0, zBkR_same (fh 90 (by decide) (by omega)) (fh 91 (by decide) (by omega)) e119 rfl (fun _ _ => rfl) b1, zBkR_same (fh 97 (by decide) (by omega)) (fh 98 (by decide) (by omega)) e119 rfl (fun _ _ => rfl) b2, ?_⟩
      rcases dy with ⟨a1, a2, a3, a4⟩ | ⟨L, B, n, s, n12, dc, dm⟩
      · exact Or.inl ⟨by rw [fh 21 (by decide) (by omega)]; exact a1, by rw [fh 21 (by decide) (by omega)]; exact a2, by rw [fj 9 (by decide) (by decide) (by decide)]; exact a3, by rw [fj 15 (by decide) (by decide) (by decide)]; exact a4⟩
      · have l1 := dc.1.1.1
        have l2 := dc.1.2.2.2.1
        have J0 : J = 0 := Classical.byContradiction (fun w => by have := (zRDec_0 (q4 0 (by omega))).2.2.1; omega)
        have gh : g = h := q3b J0
        have fhh : ∀ c : Nat, c ≠ 2 → (c < 104 ∨ 107 < c) → f c = h c := fun c h1 h2 => by rw [fo c h2, ko c h1 (by omega), gh]
        exact Or.inr ⟨L, B, n, s, n12, zDc_up (fun c hc => fhh c (by omega) (by omega)) (fhh 0 (by decide) (by omega)) rfl dc, zDm_same dm (fun c hc => fhh c (by omega) (by omega)) (fun i j _ _ => by rw [fhh 108 (by decide) (by omega)]) ⟨fj 9 (by decide) (by decide) (by decide), fj 10 (by decide) (by decide) (by decide), fj 14 (by decide) (by decide) (by decide), fj 15 (by decide) (by decide) (by decide)⟩ rfl (fun j hj => by have := (zDc_b dc).2 j hj; omega)⟩
theorem zT_calls2 (hI : zLi X XL t p r h hl) {a : Int} (ha : zr a) : zTw 91 [.inr (.inr (some 2)), .inl 2, .inl a] 149 [.inr (.inr (some 104)), .inl 2, .inl a] X XL t h hl := by
  have hIc := hI
  obtain ⟨x1, x2, tw, od, z38, z56, kd, kd2, st, st2, tr, tr2, b0, b1, b2, dy⟩ := hIc
  have hdb := zDay_b dy
  have hon : zr (h 21 3) := ⟨by omega, by omega⟩
  have twc := tw
  obtain ⟨hp6, hr15, h30, h31, hp3, hr4, hMe, hTB, hCn, hPo, hRd, hLk, hGr⟩ := twc
  have bc := b2
  obtain ⟨k1, k2, k3, k4, k5, k6, k7, k8, k9⟩ := bc
  have hZq : ∀ q : Nat, q < 4 → -1 ≤ h 98 q ∧ h 98 q ≤ 8 := fun q hq => by have := k8 q hq; omega
  have hVq : ∀ q i : Nat, q < 4 → i < 8 → zrl (hl (100 + q) i) := fun q i hq hi => (k9 q i hq hi).2
  have hwhy : ∀ y : Int, zWhy h 97 98 a y → (y = -11 ↔ (h 119 2 = 0 ∨ ((0 ≤ a ∧ a < h 121 2) ∧ h 122 (8 + Int.toNat a) = -9))) ∧ (y = -12 ↔ (¬ h 119 2 = 0 ∧ ¬ (0 ≤ a ∧ a < h 121 2))) ∧ (y = 0 ∨ y = -11 ∨ y = -12) := fun y hy => by
    unfold zWhy zHasRow at hy
    by_cases hq : 0 ≤ a ∧ a < 4
    · have k8a : (h 98 a.toNat = -1 ∧ h 122 (8 + a.toNat) = -9) ∨ (0 ≤ h 98 a.toNat ∧ h 98 a.toNat ≤ 8 ∧ h 122 (8 + a.toNat) = h 98 a.toNat) := k8 a.toNat (by omega)
      omega
    · omega
  by_cases hq : 0 < h 21 3
  · -- a day
    rcases dy with ⟨a1, a2, a3, a4⟩ | ⟨L, B, n, s0, hj⟩
    · exfalso; omega
    · have n12 := hj.1
      have dc := hj.2.1
      have dm := hj.2.2
      have hb := zDc_b dc
      have hL3 := dc.1.1.1
      have l2 := dc.1.2.2.2.1
      have l3 := dc.1.2.2.2.2.1
      refine zQ_imp (p_callsN2 (d := 2) ha tw k3 hZq hVq dc n12 rfl kd) (fun ρ σ' pc => ?_)
      rcases pc with ⟨x, q0, q, rfl, rfl⟩ | ⟨R, S, J, x, s, g, gl, rfl, q1, q2, rfl, rfl, q3, q4, q5, q6, q7, q8⟩
      · have hz := hwhy x q
        have hHM := zHM_of (m := zup (zup h 2 8 x) 104 0 0) (ml := hl) tw hj (fun c hc => by funext q; rw [zup_ne (by omega), zup_ne (by omega)]) (fun c hc => by funext q; rw [zup_ne (by omega), zup_ne (by omega)]) (by funext q; rw [zup_ne (by omega), zup_ne (by omega)]) (fun j h0 _ => by rw [zup_k h0, zup_ne (by decide)]) rfl
        refine ⟨0, _, hl, rfl, ⟨by decide, by decide⟩, rfl, by rw [← x1]; funext q; exact zup_ne (by decide), x2, zQ_imp (p_callsON2 (hl := hl) (d := 3) rfl ha (zMbk_same (fun c c1 c2 => by funext q; rw [zup_ne (by omega), zup_ne (by omega)]) rfl (zBkR_M b2)) hHM.1 hHM.2 (fun i hi => by rw [← dc.2.1 i hi]; exact (zDI_bD dc.1 i hi).2) (K := h 2 7) (by rw [zup_k (by decide), zup_ne (by decide)]; exact kd2) kd) (fun r2 σ2 pm => ?_)⟩
        rw [show (zup (zup h 2 8 x) 104 0 0) 119 = h 119 from by funext q; rw [zup_ne (by decide), zup_ne (by decide)], show (zup (zup h 2 8 x) 104 0 0) 121 = h 121 from by funext q; rw [zup_ne (by decide), zup_ne (by decide)], show (zup (zup h 2 8 x) 104 0 0) 122 = h 122 from by funext q; rw [zup_ne (by decide), zup_ne (by decide)]] at pm
        rcases pm with ⟨w, rfl, rfl⟩ | ⟨w1, w2, rfl, rfl⟩ | ⟨R2, S2, J2, y, s2, g2, gl2, w1, w2, w3, w4, -⟩
        · obtain rfl := hz.1.mpr w
          exact ⟨p, r, _, hl, rfl, rfl, zLi_F hI ⟨by decide, by decide⟩⟩
        · obtain rfl := hz.2.1.mpr ⟨w1, w2⟩
          exact ⟨p, r, _, hl, rfl, rfl, zLi_F hI ⟨by decide, by decide⟩⟩
        · exfalso
          rcases hz.2.2 with e | e | e
          · exact q0 e
          · rcases hz.1.mp e with z | ⟨z1, z2⟩
            · exact w2 z
            · rw [w1, Int.toNat_natCast] at z2; omega
          · exact (hz.2.1.mp e).2 ⟨by omega, by omega⟩
      · have hz := hwhy 0 q1
        have hz11 : ¬ (h 119 2 = 0 ∨ ((0 ≤ (R : Int) ∧ (R : Int) < h 121 2) ∧ h 122 (8 + Int.toNat (R : Int)) = -9)) := fun w => absurd (hz.1.mpr w) (by decide)
        have hz12 : ¬ (¬ h 119 2 = 0 ∧ ¬ (0 ≤ (R : Int) ∧ (R : Int) < h 121 2)) := fun w => absurd (hz.2.1.mpr w) (by decide)
        have hy0 := zWhy_0 q1
        unfold zHasRow at hy0
        rw [Int.toNat_natCast] at hz11
        have hR4 : R < 4 := by omega
        have k8R : (h 98 R = -1 ∧ h 122 (8 + R) = -9) ∨ (0 ≤ h 98 R ∧ h 98 R ≤ 8 ∧ h 122 (8 + R) = h 98 R) := k8 R hR4
        have hx0 : -3 ≤ x ∧ x ≤ 0 := by
          rcases q8 with ⟨-, e⟩ | ⟨-, -, e⟩
          · omega
          · exact zCDec_b e
        have gf : ∀ c : Nat, c < 21 ∨ 47 < c → g c = h c := q5
        obtain ⟨k, ek⟩ : ∃ k, k = zup (zup g 2 8 x) 104 0 0 := ⟨_, rfl⟩
        have ko : ∀ c : Nat, c ≠ 2 → c ≠ 104 → k c = g c := fun c h1 h2 => by rw [ek]; funext q; rw [zup_ne h2, zup_ne h1]
        have kh : ∀ c : Nat, c ≠ 2 → c ≠ 104 → (c < 21 ∨ 47 < c) → k c = h c := fun c h1 h2 h3 => by rw [ko c h1 h2]; exact gf c h3
        have kj : ∀ j : Nat, j ≠ 0 → k 104 j = h 104 j := fun j hj => by rw [ek, zup_k hj, zup_ne (by decide), gf 104 (by omega)]
        have k2s : k 2 7 = h 2 7 ∧ k 2 8 = x := by rw [ek, ← gf 2 (by omega)]; simp [zup_at]
        have k3' := kj 3 (by decide)
        have k9' := kj 9 (by decide)
        have hHM := zHM_of (m := k) (ml := gl) tw hj (fun c hc => kh c (by omega) (by omega) (by omega)) (fun c hc => kh c (by omega) (by omega) (by omega)) (kh 108 (by decide) (by decide) (by omega)) (fun j h0 _ => kj j h0) (by rw [q6 104 (by decide)])
        refine ⟨_, _, gl, rfl, zr_nat (by omega), rfl, by rw [← x1, ← gf 1 (by omega)]; funext q; exact zup_ne (by decide), by rw [q6 1 (by decide)]; exact x2, zQ_imp (p_callsON2 (hl := gl) (d := 3) (K := h 2 7) (show zup (zup g 2 8 x) 104 0 0 = k from ek.symm) ha (zMbk_same (fun c c1 c2 => kh c (by omega) (by omega) (by omega)) (q6 123 (by decide)) (zBkR_M b2)) hHM.1 hHM.2 (fun i hi => by rw [← dc.2.1 i hi]; exact (zDI_bD dc.1 i hi).2) (by rw [kj 11 (by decide)]; exact kd2) kd) (fun r2 σ2 pm => ?_)⟩
        rw [kh 119 (by decide) (by decide) (by omega), kh 121 (by decide) (by decide) (by omega), kh 122 (by decide) (by decide) (by omega), k3', k9', hp3, hdb.2.2.1, q6 123 (by decide)] at pm
        rcases pm with ⟨w, rfl, rfl⟩ | ⟨w1, w2, rfl, rfl⟩ | ⟨R2, S2, J2, y, s2, g2, gl2, w1, w2, w3, w4, rfl, rfl, w5, w6, w7, w8, w9, w10, w11, w12, w13⟩
        · exact absurd (by rw [Int.toNat_natCast] at w; exact w) hz11
        · exact absurd ⟨w1, w2⟩ hz12
        · obtain rfl : R = R2 := by omega
          obtain rfl : S = S2 := by omega
          have hS8 : S ≤ 8 := by omega
          have hC : ∀ q : Nat, q < 8 → hl 123 (64 + 8 * R + q) = hl (100 + R) q := fun q hq => (k9 R q hR4 hq).1
          have hJJ : J = J2 ∧ x = y := by
            rcases (show J < J2 ∨ J = J2 ∨ J2 < J by omega) with z | z | z
            · have a' := w7 J z
              rcases q8 with ⟨e, -⟩ | ⟨e1, e2, e3⟩
              · exfalso; omega
              · rw [hC J (by omega), ← h30] at a'
                exact absurd (zCDec_eq e3 a') e2
            · subst z
              refine ⟨rfl, ?_⟩
              rcases q8 with ⟨e1, e2⟩ | ⟨e1, e2, e3⟩ <;> rcases w8 with ⟨f1, f2⟩ | ⟨f1, f2, f3⟩
              · omega
              · exfalso; omega
              · exfalso; omega
              · rw [hC J (by omega), ← h30] at f3
                exact zCDec_eq e3 f3
            · have a' := q7 J2 z
              rcases w8 with ⟨f1, f2⟩ | ⟨f1, f2, f3⟩
              · exfalso; omega
              · rw [hC J2 (by omega), ← h30] at f3
                exact absurd (zCDec_eq f3 a') f2
          obtain ⟨rfl, rfl⟩ := hJJ
          have hPP : ∀ q : Nat, q < J → Int.toNat (hl 123 (64 + 8 * R + q)) = Int.toNat (hl (100 + R) q) ∧ Int.toNat (hl 123 (64 + 8 * R + q)) < 6 := fun q hq => by
            have a' := zCDec_0 (q7 q hq)
            rw [hC q (by omega)]
            exact ⟨rfl, by omega⟩
          have hch := zCh_same (h := h) (P := fun q => Int.toNat (hl 123 (64 + 8 * R + q))) (Q := fun q => Int.toNat (hl (100 + R) q)) hL3.2 (fun c c1 c2 => kh c (by omega) (by omega) (by omega)) hb.1 (fun j hj => by have := hb.2 j hj; omega) J hPP s2 w6
          obtain rfl := zCh_eq J s s2 q4 hch.1
          have htr := zCh_tr J s q4
          have e81 : gl 81 0 = s.2.2.2.1 := q3.2.2.2.2
          have e81h : hl 81 0 = s0.2.2.2.1 := dc.2.2.2.2
          have e104 : gl2 104 2 = s.2.2.2.1 := w5.2.2.2.2.2.2.2.2
          have g2c : ∀ c : Nat, c < 104 → g2 c = k c := w9
          have g2h : ∀ c : Nat, c ≠ 2 → (c < 21 ∨ (47 < c ∧ c < 104) ∨ (104 < c ∧ c < 109) ∨ 118 ≤ c) → g2 c = h c := fun c h1 h2 => by
            rcases (show c < 104 ∨ 104 < c by omega) with z | z
            · rw [g2c c z]; exact kh c h1 (by omega) (by omega)
            · rw [w10 c (by omega)]; exact kh c h1 (by omega) (by omega)
          have g2j : ∀ j : Nat, j ≠ 0 → j ≠ 1 → j ≠ 14 → j ≠ 15 → g2 104 j = h 104 j := fun j h0 h1 h2 h3 => by rw [w11 j h1 h2 h3]; exact kj j h0
          have nJ : n + J ≤ 12 := by
            by_cases z : J = 0
            · omega
            · have a' := zCDec_0 (q7 (J - 1) (by omega))
              omega
          have htown : zTown g2 p r := zTown_same2 tw (fun c hc => g2h c (by omega) (by omega)) ⟨g2j 3 (by decide) (by decide) (by decide) (by decide), g2j 4 (by decide) (by decide) (by decide) (by decide)⟩ ⟨g2h 105 (by decide) (by omega), g2h 106 (by decide) (by omega), g2h 107 (by decide) (by omega)⟩
          have e119 : ∀ c : Nat, 119 ≤ c → c ≤ 122 → g2 c = h c := fun c c1 c2 => g2h c (by omega) (by omega)
          have elc : ∀ c : Nat, c ≠ 81 → c ≠ 104 → gl2 c = hl c := fun c h1 h2 => by rw [w13 c h2]; exact q6 c h1
          have dcg : zDc g2 gl2 p L B (n + J) s := zDc_up (fun c hc => by rw [g2c c (by omega), ko c (by omega) (by omega)]) (by rw [g2c 0 (by decide), ko 0 (by decide) (by decide)]) (by rw [w13 81 (by decide)]) q3
          refine ⟨p, r, g2, gl2, rfl, rfl, by rw [g2h 1 (by decide) (by omega)]; exact x1, by rw [elc 1 (by decide) (by decide)]; exact x2, htown, fun j hj => by rw [g2h 0 (by decide) (by omega)]; exact od j hj, fun j hj => by rw [g2c 38 (by decide), ko 38 (by decide) (by decide)]; exact q3.1.2.2.2.2.2.2.2.2.2.2.2.2.2.2.2 j hj, fun j hj => by rw [g2h 56 (by decide) (by omega)]; exact z56 j hj, by rw [g2c 2 (by decide), k2s.1]; exact kd, by rw [g2j 11 (by decide) (by decide) (by decide) (by decide), g2c 2 (by decide), k2s.1]; exact kd2, by rw [g2c 2 (by decide), k2s.2]; exact ⟨by omega, by omega⟩, by rw [w12, g2c 2 (by decide), k2s.2], ?_, ?_, zBkR_same (g2h 83 (by decide) (by omega)) (g2h 84 (by decide) (by omega)) e119 (elc 123 (by decide) (by decide)) (fun q hq => elc _ (by omega) (by omega)) b0, zBkR_same (g2h 90 (by decide) (by omega)) (g2h 91 (by decide) (by omega)) e119 (elc 123 (by decide) (by decide)) (fun q hq => elc _ (by omega) (by omega)) b1, zBkR_same (g2h 97 (by decide) (by omega)) (g2h 98 (by decide) (by omega)) e119 (elc 123 (by decide) (by decide)) (fun q hq => elc _ (by omega) (by omega)) b2, Or.inr ⟨L, B, n + J, s, nJ, dcg, w5⟩⟩
          · rw [w13 81 (by decide)]; omega
          · rw [w13 81 (by decide)]; omega
  · -- none
    have e9 : h 104 9 = 0 := by omega
    refine zQ_imp (p_callsF2 (d := 2) ha tw k3 hZq hVq hq hon hdb.2.1) (fun ρ σ' pc => ?_)
    rcases pc with ⟨x, q0, q, rfl, rfl⟩ | ⟨R, S, x, rfl, q1, q2, rfl, rfl, q3⟩
    · have hz := hwhy x q
      refine ⟨0, _, hl, rfl, ⟨by decide, by decide⟩, rfl, by rw [← x1]; funext q; exact zup_ne (by decide), x2, zQ_imp (p_callsOF2 (hl := hl) (d := 7) rfl ha (zMbk_same (fun c c1 c2 => by funext q; rw [zup_ne (by omega), zup_ne (by omega)]) rfl (zBkR_M b2)) (by rw [zup_k (by decide), zup_ne (by decide)]; omega) (by rw [zup_k (by decide), zup_ne (by decide)]; exact e9)) (fun r2 σ2 pm => ?_)⟩
      rw [show (zup (zup h 2 8 x) 104 0 0) 119 = h 119 from by funext q; rw [zup_ne (by decide), zup_ne (by decide)], show (zup (zup h 2 8 x) 104 0 0) 121 = h 121 from by funext q; rw [zup_ne (by decide), zup_ne (by decide)], show (zup (zup h 2 8 x) 104 0 0) 122 = h 122 from by funext q; rw [zup_ne (by decide), zup_ne (by decide)]] at pm
      rcases pm with ⟨w, rfl, rfl⟩ | ⟨w1, w2, rfl, rfl⟩ | ⟨R2, S2, y, w1, w2, w3, w4, -⟩
      · obtain rfl := hz.1.mpr w
        exact ⟨p, r, _, hl, rfl, rfl, zLi_F hI ⟨by decide, by decide⟩⟩
      · obtain rfl := hz.2.1.mpr ⟨w1, w2⟩
        exact ⟨p, r, _, hl, rfl, rfl, zLi_F hI ⟨by decide, by decide⟩⟩
      · exfalso
        rcases hz.2.2 with e | e | e
        · exact q0 e
        · rcases hz.1.mp e with z | ⟨z1, z2⟩
          · exact w2 z
          · rw [w1, Int.toNat_natCast] at z2; omega
        · exact (hz.2.1.mp e).2 ⟨by omega, by omega⟩
    · have hz := hwhy 0 q1
      have hz11 : ¬ (h 119 2 = 0 ∨ ((0 ≤ (R : Int) ∧ (R : Int) < h 121 2) ∧ h 122 (8 + Int.toNat (R : Int)) = -9)) := fun w => absurd (hz.1.mpr w) (by decide)
      have hz12 : ¬ (¬ h 119 2 = 0 ∧ ¬ (0 ≤ (R : Int) ∧ (R : Int) < h 121 2)) := fun w => absurd (hz.2.1.mpr w) (by decide)
      have hy0 := zWhy_0 q1
      unfold zHasRow at hy0
      rw [Int.toNat_natCast] at hz11
      have hR4 : R < 4 := by omega
      have k8R : (h 98 R = -1 ∧ h 122 (8 + R) = -9) ∨ (0 ≤ h 98 R ∧ h 98 R ≤ 8 ∧ h 122 (8 + R) = h 98 R) := k8 R hR4
      have hx0 : -3 ≤ x ∧ x ≤ 0 := by
        rcases q3 with ⟨-, e⟩ | ⟨-, -, e⟩
        · omega
        · exact zCDec_b e
      refine ⟨0, _, hl, rfl, ⟨by decide, by decide⟩, rfl, by rw [← x1]; funext q; exact zup_ne (by decide), x2, zQ_imp (p_callsOF2 (hl := hl) (d := 7) rfl ha (zMbk_same (fun c c1 c2 => by funext q; rw [zup_ne (by omega), zup_ne (by omega)]) rfl (zBkR_M b2)) (by rw [zup_k (by decide), zup_ne (by decide)]; omega) (by rw [zup_k (by decide), zup_ne (by decide)]; exact e9)) (fun r2 σ2 pm => ?_)⟩
      rw [show (zup (zup h 2 8 x) 104 0 0) 119 = h 119 from by funext q; rw [zup_ne (by decide), zup_ne (by decide)], show (zup (zup h 2 8 x) 104 0 0) 121 = h 121 from by funext q; rw [zup_ne (by decide), zup_ne (by decide)], show (zup (zup h 2 8 x) 104 0 0) 122 = h 122 from by funext q; rw [zup_ne (by decide), zup_ne (by decide)]] at pm
      rcases pm with ⟨w, rfl, rfl⟩ | ⟨w1, w2, rfl, rfl⟩ | ⟨R2, S2, y, w1, w2, w3, w4, rfl, w5⟩
      · exact absurd (by rw [Int.toNat_natCast] at w; exact w) hz11
      · exact absurd ⟨w1, w2⟩ hz12
      · obtain rfl : R = R2 := by omega
        obtain rfl : S = S2 := by omega
        rcases w5 with ⟨z1, z2, rfl⟩ | ⟨z1, z2, z3, rfl⟩
        · obtain rfl : x = 0 := by
            rcases q3 with ⟨-, e⟩ | ⟨e, -⟩
            · exact e
            · omega
          exact ⟨p, r, _, hl, rfl, rfl, zLi_F1 hI ⟨by decide, by decide⟩⟩
        · rcases q3 with ⟨e, -⟩ | ⟨e1, e2, e3⟩
          · exfalso; omega
          · rw [show (zup (zup h 2 8 x) 104 0 0) 104 3 = h 3 0 from by rw [zup_k (by decide), zup_ne (by decide)]; omega, show (zup (zup h 2 8 x) 104 0 0) 104 9 = h 21 3 from by rw [zup_k (by decide), zup_ne (by decide)]; omega, show (zup (zup h 2 8 x) 104 0 0) 104 15 = h 21 4 from by rw [zup_k (by decide), zup_ne (by decide)]; omega, show hl 123 (64 + 8 * R + 0) = hl (100 + R) 0 from (k9 R 0 hR4 (by decide)).1] at z3
            obtain rfl := zCDec_eq e3 z3
            exact ⟨p, r, _, hl, rfl, rfl, zLi_F hI ⟨by omega, by omega⟩⟩
end ZTW5
