/-! Call by call: both objects answer alike (3). -/
section ZTW3
variable {X XL : Nat → Int} {t p r : Nat} {h hl g gl : Nat → Nat → Int}
theorem zDay_on0 (hd : zDay h hl p) : ∃ (L B n : Nat) (s : zDS), (0 < h 21 3 → zJ h hl p L B n s) ∧ (¬ 0 < h 21 3 → ∀ u : Nat, ¬ n = u + 1) := by
  rcases hd with ⟨a, b, c, d⟩ | ⟨L, B, n, s, hj⟩
  · exact ⟨0, 0, 0, (fun _ => 0, fun _ => 0, 0, 0, fun _ _ => 0), fun q => absurd q (by omega), fun _ u => by omega⟩
  · refine ⟨L, B, n, s, fun _ => hj, fun q => absurd ?_ q⟩
    have l1 := hj.2.1.1.1.1
    have l2 := hj.2.1.1.2.2.2.1
    omega
/-- a CALL came to both -/
theorem zJ_call {L B n pp l l' : Nat} {K tr tr' : Int} {s : zDS} {k g' gl' : Nat → Nat → Int} (tw : zTown h p r) (hj : zJ h hl p L B n s) (hn : n < 12) (hpp : pp < p) (hl1 : l < L) (hsv : zServeP h hl g gl L B n pp s.1 K l tr 21 40 41 42 43 44 45 46 47 21 47) (hdi : zDID g p L B (n + 1) (fun i => if i = l then pp else s.1 i)) (ko : ∀ c : Nat, c ≠ 104 → k c = g c) (hpk : zPkS k L B K n pp s l' tr') (hdm : zDm g' gl' p L B (n + 1) (zUp k K n pp l' tr' s)) (c3 : ∀ c : Nat, c < 104 → g' c = k c) (c6 : ∀ c : Nat, c ≠ 104 → gl' c = gl c) : l' = l ∧ tr' = tr ∧ (1 ≤ tr ∧ tr ≤ 1010) ∧ gl 81 0 = hl 81 0 + tr ∧ gl' 104 2 = hl 104 2 + tr ∧ zJ g' gl' p L B (n + 1) (zUp h K n pp l tr s) := by
  have hj0 := hj
  obtain ⟨n12, dc, dm⟩ := hj
  have hb := zDc_b dc
  have hp6 := tw.1
  have sv := zDc_serve dc hl1 hpp hsv hdi
  have fr := hsv.2.2.1
  have kh : ∀ c : Nat, 12 ≤ c → c < 20 → k c = h c := fun c c1 c2 => by rw [ko c (by omega)]; exact fr c (by omega)
  have hpk2 : zPkS h L B K n pp s l' tr' := zPkS_same kh dc.1.1.1.2 hb.1 (by omega) (fun j hj => by have := hb.2 j hj; omega) hpk
  obtain ⟨rfl, rfl⟩ := zPkS_eq hpk2 sv.1
  have e : zUp k K n pp l' tr' s = zUp h K n pp l' tr' s := zUp_same kh (hb.1 l' (by have := dc.1.1.1; omega))
  rw [e] at hdm
  have ht := zPkR_tr sv.1.2
  have e2 : gl 81 0 = hl 81 0 + tr' := by rw [hsv.2.1]; exact zup_eq
  refine ⟨rfl, rfl, ht, e2, ?_, by omega, ?_, hdm⟩
  · have a := hdm.2.2.2.2.2.2.2.2
    have b := dm.2.2.2.2.2.2.2.2
    have c : (zUp h K n pp l' tr' s).2.2.2.1 = s.2.2.2.1 + tr' := rfl
    omega
  · have q := zDc_up (g2 := g') (gl2 := gl') (fun c hc => by rw [c3 c (by omega), ko c (by omega)]) (by rw [c3 0 (by decide), ko 0 (by decide)]) (by rw [c6 81 (by decide)]) sv.2
    exact q
theorem zT_call (hI : zLi X XL t p r h hl) {a : Int} (ha : zr a) : zTw 70 [.inr (.inr (some 2)), .inl a] 128 [.inr (.inr (some 104)), .inl a] X XL t h hl := by
  have hIc := hI
  obtain ⟨x1, x2, tw, od, z38, z56, kd, kd2, st, st2, tr, tr2, b0, b1, b2, dy⟩ := hIc
  have twc := tw
  obtain ⟨hp6, hr15, h30, h31, hp3, hr4, hMe, hTB, hCn, hPo, hRd, hLk, hGr⟩ := twc
  have hdb := zDay_b dy
  have hP : 0 ≤ h 3 0 ∧ h 3 0 ≤ 6 := by omega
  have hon : zr (h 21 3) := ⟨by omega, by omega⟩
  obtain ⟨L, B, n, s, hJ⟩ := zDay_on dy
  obtain ⟨m, em⟩ : ∃ m, zup h 104 0 0 = m := ⟨_, rfl⟩
  obtain ⟨mo, mj, hIm⟩ := zLi_m hI em
  have twm := hIm.2.2.1
  have m3 := mj 3 (by decide)
  have m4 := mj 4 (by decide)
  have m9 := mj 9 (by decide)
  have m15 := mj 15 (by decide)
  have m11 := mj 11 (by decide)
  have hPm : 0 ≤ m 104 3 ∧ m 104 3 ≤ 6 := by omega
  have h9m : 0 ≤ m 104 9 ∧ m 104 9 ≤ 3 := by omega
  have h15m : 0 ≤ m 104 15 ∧ m 104 15 ≤ 12 := by omega
  have hJm : 0 < h 21 3 → zJ m hl p L B n s := fun q => zJ_same hp6 (hJ q) (fun c hc => mo c (by omega)) (fun j h0 _ => mj j h0)
  have hDm : 0 < m 104 9 → zMH m p L B n s ∧ zDm m hl p L B n s := fun q => ⟨zMH_of twm (hJm (by omega)), (hJm (by omega)).2.2⟩
  refine zQ_imp (p_call (d := 2) (sp := s.1) ha hdb.2.1 hon rfl kd tw (fun q => (hJ q).2.1.1)) (fun ρ σ' pc => ?_)
  rcases pc with ⟨x, q0, q, rfl, rfl⟩ | ⟨q, l, tr2', g, gl, hlL, rfl, rfl, hsv, hdi⟩
  · refine ⟨_, h, hl, rfl, by unfold zNoCl at q; exact ⟨by omega, by omega⟩, rfl, x1, x2, zQ_imp (p_callO (hl := hl) (d := 3) (K := h 2 7) em ha hPm h9m h15m hDm (by omega) kd) (fun r2 σ2 pm => ?_)⟩
    rcases pm with ⟨y, w0, w, rfl, rfl⟩ | ⟨w, -⟩
    · obtain rfl : x = y := by unfold zNoCl at q; unfold zCDec at w; omega
      exact ⟨p, r, m, hl, rfl, rfl, zLi_up hIm⟩
    · exfalso; unfold zNoCl at q; unfold zCDec at w; omega
  · have hq : 0 < h 21 3 := by unfold zNoCl at q; omega
    have hq2 : 0 ≤ a ∧ a < h 3 0 ∧ h 21 4 < 12 := by unfold zNoCl at q; omega
    have n4 := (hJ hq).2.1.1.2.2.2.2.1
    have hL3 := (hJ hq).2.1.1.1.1
    obtain ⟨k, ek⟩ : ∃ k, zup g 104 0 0 = k := ⟨_, rfl⟩
    have ko : ∀ c : Nat, c ≠ 104 → k c = g c := fun c hc => by rw [← ek]; funext q; exact zup_ne hc
    have kj : ∀ j : Nat, j ≠ 0 → k 104 j = g 104 j := fun j hj => by rw [← ek]; exact zup_k hj
    have fr := hsv.2.2.1
    have e104 := fr 104 (by omega)
    have kjh : ∀ j : Nat, j ≠ 0 → k 104 j = h 104 j := fun j hj => by rw [kj j hj, e104]
    have k3 := kjh 3 (by decide)
    have k9 := kjh 9 (by decide)
    have k15 := kjh 15 (by decide)
    have k11 := kjh 11 (by decide)
    have kh : ∀ c : Nat, c < 21 ∨ (47 < c ∧ c ≠ 104) → k c = h c := fun c hc => by rw [ko c (by omega)]; exact fr c (by omega)
    have egl : gl 104 2 = hl 104 2 := by rw [hsv.2.1]; exact zup_ne (by decide)
    have hgo : ∀ c : Nat, c ≠ 81 → gl c = hl c := fun c hc => by rw [hsv.2.1]; funext q; exact zup_ne hc
    have hHM := zHM_of (m := k) (ml := gl) tw (hJ hq) (fun c hc => kh c (by omega)) (fun c hc => kh c (by omega)) (kh 108 (by omega)) (fun j h0 _ => kjh j h0) egl
    refine ⟨_, g, gl, rfl, zr_nat (by omega), rfl, by rw [fr 1 (by omega)]; exact x1, by rw [hgo 1 (by decide)]; exact x2, zQ_imp (p_callO (hl := gl) (d := 3) (K := h 2 7) ek ha (by omega) (by omega) (by omega) (fun _ => hHM) (by omega) kd) (fun r2 σ2 pm => ?_)⟩
    rcases pm with ⟨y, w0, w, rfl, rfl⟩ | ⟨w, l', tr', g', gl', c1, rfl, rfl, c2, c3, c4, c5, c6⟩
    · exfalso; unfold zCDec at w; omega
    · skip
      obtain ⟨rfl, rfl, z1, z2, z3, z4⟩ := zJ_call tw (hJ hq) (by omega) (by omega) hlL hsv hdi ko c1 c2 c3 c6
      refine ⟨p, r, g', gl', rfl, rfl, zLi_day hI (fun c hc => ?_) ?_ ⟨?_, ?_⟩ (fun j hj => ?_) (fun j hj => ?_) ⟨?_, ?_, ?_⟩ (fun c h1 h2 => by rw [c6 c h2]; exact hgo c h1) ?_ ?_ (Or.inr ⟨L, B, n + 1, _, z4⟩)⟩
      · rcases (show c < 104 ∨ 104 < c by omega) with w | w
        · rw [c3 c w]; exact kh c (by omega)
        · rw [c4 c (by omega)]; exact kh c (by omega)
      · rw [c3 2 (by decide), kh 2 (by omega)]; exact kd
      · rw [c3 2 (by decide), kh 2 (by omega)]; exact st
      · rw [c3 2 (by decide), kh 2 (by omega), c5 1 (by decide) (by decide), kjh 1 (by decide)]; exact st2
      · exact z4.2.1.1.2.2.2.2.2.2.2.2.2.2.2.2.2.2.2 j hj
      · rw [c3 56 (by decide), kh 56 (by omega)]; exact z56 j hj
      · rw [c5 3 (by decide) (by decide)]; exact k3
      · rw [c5 4 (by decide) (by decide)]; exact kjh 4 (by decide)
      · rw [c5 11 (by decide) (by decide), k11, c3 2 (by decide), kh 2 (by omega)]; exact kd2
      · rw [c6 81 (by decide), z2]; omega
      · rw [z3, c6 81 (by decide), z2]; omega
theorem zT_cruel (hI : zLi X XL t p r h hl) : zTw 72 [.inr (.inr (some 2))] 130 [.inr (.inr (some 104))] X XL t h hl := by
  have hIc := hI
  obtain ⟨x1, x2, tw, od, z38, z56, kd, kd2, st, st2, tr, tr2, b0, b1, b2, dy⟩ := hIc
  have twc := tw
  obtain ⟨hp6, hr15, h30, h31, hp3, hr4, hMe, hTB, hCn, hPo, hRd, hLk, hGr⟩ := twc
  have hdb := zDay_b dy
  have hP : 0 ≤ h 3 0 ∧ h 3 0 ≤ 6 := by omega
  have hon : zr (h 21 3) := ⟨by omega, by omega⟩
  obtain ⟨L, B, n, s, hJ⟩ := zDay_on dy
  obtain ⟨m, em⟩ : ∃ m, zup h 104 0 0 = m := ⟨_, rfl⟩
  obtain ⟨mo, mj, hIm⟩ := zLi_m hI em
  have twm := hIm.2.2.1
  have m3 := mj 3 (by decide)
  have m4 := mj 4 (by decide)
  have m9 := mj 9 (by decide)
  have m15 := mj 15 (by decide)
  have m11 := mj 11 (by decide)
  have hPm : 0 ≤ m 104 3 ∧ m 104 3 ≤ 6 := by omega
  have h9m : 0 ≤ m 104 9 ∧ m 104 9 ≤ 3 := by omega
  have h15m : 0 ≤ m 104 15 ∧ m 104 15 ≤ 12 := by omega
  have hJm : 0 < h 21 3 → zJ m hl p L B n s := fun q => zJ_same hp6 (hJ q) (fun c hc => mo c (by omega)) (fun j h0 _ => mj j h0)
  have hDm : 0 < m 104 9 → zMH m p L B n s ∧ zDm m hl p L B n s := fun q => ⟨zMH_of twm (hJm (by omega)), (hJm (by omega)).2.2⟩
  refine zQ_imp (p_cruel (d := 2) (sp := s.1) hdb.2.1 hon rfl kd tw (fun q => (hJ q).2.1.1)) (fun ρ σ' pc => ?_)
  rcases pc with ⟨q, rfl, rfl⟩ | ⟨q, q2, rfl, rfl⟩ | ⟨hq, u, q1, q2, q3, ⟨q4, rfl, rfl⟩ | ⟨q4, l, tr2', g, gl, hlL, rfl, rfl, hsv, hdi⟩⟩
  · refine ⟨_, h, hl, rfl, ⟨by decide, by decide⟩, rfl, x1, x2, zQ_imp (p_cruelO (hl := hl) (d := 3) (K := h 2 7) em hPm h9m h15m hDm (by omega) kd) (fun r2 σ2 pm => ?_)⟩
    rcases pm with ⟨w, rfl, rfl⟩ | ⟨w, w2, rfl, rfl⟩ | ⟨w, y, w1, w2, w3, w4⟩
    · exact ⟨p, r, m, hl, rfl, rfl, zLi_up hIm⟩
    · exfalso; omega
    · exfalso; omega
  · refine ⟨_, h, hl, rfl, ⟨by decide, by decide⟩, rfl, x1, x2, zQ_imp (p_cruelO (hl := hl) (d := 3) (K := h 2 7) em hPm h9m h15m hDm (by omega) kd) (fun r2 σ2 pm => ?_)⟩
    rcases pm with ⟨w, rfl, rfl⟩ | ⟨w, w2, rfl, rfl⟩ | ⟨w, y, w1, w2, w3, w4⟩
    · exfalso; omega
    · exact ⟨p, r, m, hl, rfl, rfl, zLi_up hIm⟩
    · exact absurd (q2 y w1) w3
  · refine ⟨_, h, hl, rfl, ⟨by decide, by decide⟩, rfl, x1, x2, zQ_imp (p_cruelO (hl := hl) (d := 3) (K := h 2 7) em hPm h9m h15m hDm (by omega) kd) (fun r2 σ2 pm => ?_)⟩
    rcases pm with ⟨w, rfl, rfl⟩ | ⟨w, w2, rfl, rfl⟩ | ⟨w, y, w1, w2, w3, ⟨w4, rfl, rfl⟩ | ⟨w4, -⟩⟩
    · exfalso; omega
    · exact absurd (w2 u q1) q3
    · exact ⟨p, r, m, hl, rfl, rfl, zLi_up hIm⟩
    · exfalso; omega
  · have n4 := (hJ hq).2.1.1.2.2.2.2.1
    have hL3 := (hJ hq).2.1.1.1.1
    obtain ⟨k, ek⟩ : ∃ k, zup g 104 0 0 = k := ⟨_, rfl⟩
    have ko : ∀ c : Nat, c ≠ 104 → k c = g c := fun c hc => by rw [← ek]; funext q; exact zup_ne hc
    have kj : ∀ j : Nat, j ≠ 0 → k 104 j = g 104 j := fun j hj => by rw [← ek]; exact zup_k hj
    have fr := hsv.2.2.1
    have e104 := fr 104 (by omega)
    have kjh : ∀ j : Nat, j ≠ 0 → k 104 j = h 104 j := fun j hj => by rw [kj j hj, e104]
    have k3 := kjh 3 (by decide)
    have k9 := kjh 9 (by decide)
    have k15 := kjh 15 (by decide)
    have k11 := kjh 11 (by decide)
    have kh : ∀ c : Nat, c < 21 ∨ (47 < c ∧ c ≠ 104) → k c = h c := fun c hc => by rw [ko c (by omega)]; exact fr c (by omega)
    have egl : gl 104 2 = hl 104 2 := by rw [hsv.2.1]; exact zup_ne (by decide)
    have hgo : ∀ c : Nat, c ≠ 81 → gl c = hl c := fun c hc => by rw [hsv.2.1]; funext q; exact zup_ne hc
    have hHM := zHM_of (m := k) (ml := gl) tw (hJ hq) (fun c hc => kh c (by omega)) (fun c hc => kh c (by omega)) (kh 108 (by omega)) (fun j h0 _ => kjh j h0) egl
    refine ⟨_, g, gl, rfl, zr_nat (by omega), rfl, by rw [fr 1 (by omega)]; exact x1, by rw [hgo 1 (by decide)]; exact x2, zQ_imp (p_cruelO (hl := gl) (d := 3) (K := h 2 7) ek (by omega) (by omega) (by omega) (fun _ => hHM) (by omega) kd) (fun r2 σ2 pm => ?_)⟩
    rcases pm with ⟨w, rfl, rfl⟩ | ⟨w, w2, rfl, rfl⟩ | ⟨w, y, w1, w2, w3, ⟨w4, rfl, rfl⟩ | ⟨w4, l', tr', g', gl', c1, rfl, rfl, c2, c3, c4, c5, c6⟩⟩
    · exfalso; omega
    · exact absurd (w2 u q1) q3
    · exfalso; omega
    · obtain rfl : u = y := by
        rcases (show u < y ∨ u = y ∨ y < u by omega) with z | z | z
        · exact absurd (w2 u z) q3
        · exact z
        · exact absurd (q2 y z) w3
      obtain ⟨rfl, rfl, z1, z2, z3, z4⟩ := zJ_call tw (hJ hq) (by omega) (by omega) hlL hsv hdi ko c1 c2 c3 c6
      refine ⟨p, r, g', gl', rfl, rfl, zLi_day hI (fun c hc => ?_) ?_ ⟨?_, ?_⟩ (fun j hj => ?_) (fun j hj => ?_) ⟨?_, ?_, ?_⟩ (fun c h1 h2 => by rw [c6 c h2]; exact hgo c h1) ?_ ?_ (Or.inr ⟨L, B, n + 1, _, z4⟩)⟩
      · rcases (show c < 104 ∨ 104 < c by omega) with w | w
        · rw [c3 c w]; exact kh c (by omega)
        · rw [c4 c (by omega)]; exact kh c (by omega)
      · rw [c3 2 (by decide), kh 2 (by omega)]; exact kd
      · rw [c3 2 (by decide), kh 2 (by omega)]; exact st
      · rw [c3 2 (by decide), kh 2 (by omega), c5 1 (by decide) (by decide), kjh 1 (by decide)]; exact st2
      · exact z4.2.1.1.2.2.2.2.2.2.2.2.2.2.2.2.2.2.2 j hj
      · rw [c3 56 (by decide), kh 56 (by omega)]; exact z56 j hj
      · rw [c5 3 (by decide) (by decide)]; exact k3
      · rw [c5 4 (by decide) (by decide)]; exact kjh 4 (by decide)
      · rw [c5 11 (by decide) (by decide), k11, c3 2 (by decide), kh 2 (by omega)]; exact kd2
      · rw [c6 81 (by decide), z2]; omega
      · rw [z3, c6 81 (by decide), z2]; omega
theorem zT_back (hI : zLi X XL t p r h hl) : zTw 71 [.inr (.inr (some 2))] 129 [.inr (.inr (some 104))] X XL t h hl := by
  have hIc := hI
  obtain ⟨x1, x2, tw, od, z38, z56, kd, kd2, st, st2, tr, tr2, b0, b1, b2, dy⟩ := hIc
  have twc := tw
  obtain ⟨hp6, hr15, h30, h31, hp3, hr4, hMe, hTB, hCn, hPo, hRd, hLk, hGr⟩ := twc
  have hdb := zDay_b dy
  have hP : 0 ≤ h 3 0 ∧ h 3 0 ≤ 6 := by omega
  have hon : zr (h 21 3) := ⟨by omega, by omega⟩
  obtain ⟨L, B, n, s, hJ, hn0⟩ := zDay_on0 dy
  obtain ⟨m, em⟩ : ∃ m, zup h 104 0 0 = m := ⟨_, rfl⟩
  obtain ⟨mo, mj, hIm⟩ := zLi_m hI em
  have twm := hIm.2.2.1
  have m3 := mj 3 (by decide)
  have m4 := mj 4 (by decide)
  have m9 := mj 9 (by decide)
  have m15 := mj 15 (by decide)
  have m11 := mj 11 (by decide)
  have hPm : 0 ≤ m 104 3 ∧ m 104 3 ≤ 6 := by omega
  have h9m : 0 ≤ m 104 9 ∧ m 104 9 ≤ 3 := by omega
  have h15m : 0 ≤ m 104 15 ∧ m 104 15 ≤ 12 := by omega
  have hJm : 0 < h 21 3 → zJ m hl p L B n s := fun q => zJ_same hp6 (hJ q) (fun c hc => mo c (by omega)) (fun j h0 _ => mj j h0)
  have hDm : 0 < m 104 9 → zMH m p L B n s ∧ zDm m hl p L B n s := fun q => ⟨zMH_of twm (hJm (by omega)), (hJm (by omega)).2.2⟩
  refine zQ_imp (p_back (d := 7) (sp := s.1) hdb.2.1 (fun q => (hJ (hdb.2.2.2.2 q)).2.1.1)) (fun ρ σ' pc => ?_)
  by_cases hq4 : 0 < h 21 4
  · have hq := hdb.2.2.2.2 hq4
    have hj := hJ hq
    have n4 := hj.2.1.1.2.2.2.2.1
    have hL3 := hj.2.1.1.1.1
    have n12 := hj.1
    have hrec : ∀ u : Nat, n = u + 1 → (0 ≤ s.2.2.2.2 1 u ∧ s.2.2.2.2 1 u < 3) ∧ 0 ≤ s.2.2.2.2 4 u := fun u hu => by
      have c1 := hj.2.1.2.2.2.1 1 u (by decide) (by omega)
      have c4 := hj.2.1.2.2.2.1 4 u (by decide) (by omega)
      have R := hj.2.1.1.2.2.2.2.2.2.2.2.2.2.2.1 u (by omega)
      have c1 : h 43 u = s.2.2.2.2 1 u := c1
      have c4 : h 46 u = s.2.2.2.2 4 u := c4
      omega
    rcases pc with ⟨q, rfl, rfl⟩ | ⟨u, l, q1, q2, rfl, g, rfl, q3, q4⟩
    · exfalso; omega
    · obtain ⟨f1, f6, f4, fj, ⟨fu, fs⟩, fno⟩ := q3
      obtain ⟨k, ek⟩ : ∃ k, zup g 104 0 0 = k := ⟨_, rfl⟩
      have ko : ∀ c : Nat, c ≠ 104 → k c = g c := fun c hc => by rw [← ek]; funext q; exact zup_ne hc
      have kj : ∀ j : Nat, j ≠ 0 → k 104 j = g 104 j := fun j hj => by rw [← ek]; exact zup_k hj
      have e104 := f1 104 (by decide) (by decide) (by decide)
      have kjh : ∀ j : Nat, j ≠ 0 → k 104 j = h 104 j := fun j hj => by rw [kj j hj, e104]
      have k3 := kjh 3 (by decide)
      have k9 := kjh 9 (by decide)
      have k15 := kjh 15 (by decide)
      have kh : ∀ c : Nat, c ≠ 21 → c ≠ 40 → c ≠ 41 → c ≠ 104 → k c = h c := fun c h1 h2 h3 h4 => by rw [ko c h4]; exact f1 c h1 h2 h3
      have hHM := zHM_of (m := k) (ml := hl) tw hj (fun c hc => kh c (by omega) (by omega) (by omega) (by omega)) (fun c hc => kh c (by omega) (by omega) (by omega) (by omega)) (kh 108 (by decide) (by decide) (by decide) (by decide)) (fun j h0 _ => kjh j h0) rfl
      refine ⟨_, g, hl, rfl, zr_nat (by omega), rfl, by rw [f1 1 (by decide) (by decide) (by decide)]; exact x1, x2, zQ_imp (p_backO (hl := hl) (d := 8) ek (by omega) (by omega) (by omega) (fun _ => hHM) hrec) (fun r2 σ2 pm => ?_)⟩
      rcases pm with ⟨w, rfl, rfl⟩ | ⟨v, w1, rfl, g', rfl, w2, w3, w4, w5⟩
      · exfalso; omega
      · obtain rfl : u = v := by omega
        have gc : ∀ c : Nat, c < 104 → g' c = g c := fun c hc => by rw [w3 c hc]; exact ko c (by omega)
        have gh : ∀ c : Nat, c < 104 → c ≠ 21 → c ≠ 40 → c ≠ 41 → g' c = h c := fun c h0 h1 h2 h3 => by rw [gc c h0]; exact f1 c h1 h2 h3
        have gb : ∀ c : Nat, (105 ≤ c ∧ c < 109) ∨ 111 ≤ c → g' c = h c := fun c hc => by rw [w4 c hc]; exact kh c (by omega) (by omega) (by omega) (by omega)
        have gj : ∀ j : Nat, j ≠ 0 → j ≠ 14 → j ≠ 15 → g' 104 j = h 104 j := fun j h0 h1 h2 => by rw [w5 j h1 h2]; exact kjh j h0
        have dch := hj.2.1
        have c1 : h 43 u = s.2.2.2.2 1 u := dch.2.2.2.1 1 u (by decide) (by omega)
        have c2 : h 44 u = s.2.2.2.2 2 u := dch.2.2.2.1 2 u (by decide) (by omega)
        have c4 : h 46 u = s.2.2.2.2 4 u := dch.2.2.2.1 4 u (by decide) (by omega)
        have c5 : h 47 u = s.2.2.2.2 5 u := dch.2.2.2.1 5 u (by decide) (by omega)
        have el : Int.toNat (s.2.2.2.2 1 u) = l := by omega
        have dcg : zDc g hl p L B u (zBkS u s) := by
          refine ⟨?_, fun i hi => ?_, ?_, fun c j hc hj => ?_, dch.2.2.2.2⟩
          · have e : (zBkS u s).1 = (fun i => if i = l then Int.toNat (h 46 u) else s.1 i) := by
              unfold zBkS
              dsimp only
              rw [el, c4]
            rw [e]
            exact q4
          · unfold zBkS
            dsimp only
            rw [el]
            by_cases w : i = l
            · rw [if_pos w, w, fu, c2, dch.2.1 l (by omega)]
            · rw [if_neg w, (fno i w).1]; exact dch.2.1 i hi
          · unfold zBkS
            dsimp only
            rw [f6, c5]
          · rw [f1 (42 + c) (by omega) (by omega) (by omega)]
            exact dch.2.2.2.1 c j hc (by omega)
        refine ⟨p, r, g', hl, rfl, rfl, zLi_day hI (fun c hc => ?_) (by rw [gh 2 (by decide) (by decide) (by decide) (by decide)]; exact kd) ⟨by rw [gh 2 (by decide) (by decide) (by decide) (by decide)]; exact st, by rw [gh 2 (by decide) (by decide) (by decide) (by decide), gj 1 (by decide) (by decide) (by decide)]; exact st2⟩ (fun j hj => by rw [gh 38 (by decide) (by decide) (by decide) (by decide)]; exact z38 j hj) (fun j hj => by rw [gh 56 (by decide) (by decide) (by decide) (by decide)]; exact z56 j hj) ⟨gj 3 (by decide) (by decide) (by decide), gj 4 (by decide) (by decide) (by decide), by rw [gh 2 (by decide) (by decide) (by decide) (by decide), gj 11 (by decide) (by decide) (by decide)]; exact kd2⟩ (fun c _ _ => rfl) (by omega) tr2 (Or.inr ⟨L, B, u, zBkS u s, by omega, zDc_up (fun c hc => gc c (by omega)) (gc 0 (by decide)) rfl dcg, w2⟩)⟩
        rcases (show c < 104 ∨ 104 < c by omega) with w | w
        · exact gh c w (by omega) (by omega) (by omega)
        · exact gb c (by omega)
  · rcases pc with ⟨q, rfl, rfl⟩ | ⟨u, l, q1, q2, rfl, g, rfl, q3, q4⟩
    · refine ⟨_, h, hl, rfl, ⟨by decide, by decide⟩, rfl, x1, x2, zQ_imp (p_backO (hl := hl) (d := 8) (n := n) em hPm h9m h15m hDm (fun u hu => ?_)) (fun r2 σ2 pm => ?_)⟩
      · by_cases hq : 0 < h 21 3
        · have n4 := (hJ hq).2.1.1.2.2.2.2.1
          exfalso; omega
        · exact absurd hu (hn0 hq u)
      · rcases pm with ⟨w, rfl, rfl⟩ | ⟨v, w1, rfl, g', rfl, w2, w3, w4, w5⟩
        · exact ⟨p, r, m, hl, rfl, rfl, zLi_up hIm⟩
        · exfalso
          have a := w2.2.2.2.1
          by_cases hq : 0 < h 21 3
          · have n4 := (hJ hq).2.1.1.2.2.2.2.1
            omega
          · exact absurd w1 (hn0 hq v)
    · by_cases hq : 0 < h 21 3
      · have n4 := (hJ hq).2.1.1.2.2.2.2.1
        exfalso; omega
      · exact absurd q1 (hn0 hq u)
theorem zT_ask (hI : zLi X XL t p r h hl) {a : Int} (ha : zr a) : zTw 73 [.inr (.inr (some 2)), .inl a] 131 [.inr (.inr (some 104)), .inl a] X XL t h hl := by
  have hIc := hI
  obtain ⟨x1, x2, tw, od, z38, z56, kd, kd2, st, st2, tr, tr2, b0, b1, b2, dy⟩ := hIc
  have twc := tw
  obtain ⟨hp6, hr15, h30, h31, hp3, hr4, hMe, hTB, hCn, hPo, hRd, hLk, hGr⟩ := twc
  have hdb := zDay_b dy
  have hP : 0 ≤ h 3 0 ∧ h 3 0 ≤ 6 := by omega
  have hon : zr (h 21 3) := ⟨by omega, by omega⟩
  obtain ⟨L, B, n, s, hJ⟩ := zDay_on dy
  obtain ⟨m, em⟩ : ∃ m, zup h 104 0 0 = m := ⟨_, rfl⟩
  obtain ⟨mo, mj, hIm⟩ := zLi_m hI em
  have twm := hIm.2.2.1
  have m3 := mj 3 (by decide)
  have m4 := mj 4 (by decide)
  have m9 := mj 9 (by decide)
  have m15 := mj 15 (by decide)
  have m11 := mj 11 (by decide)
  have hPm : 0 ≤ m 104 3 ∧ m 104 3 ≤ 6 := by omega
  have h9m : 0 ≤ m 104 9 ∧ m 104 9 ≤ 3 := by omega
  have h15m : 0 ≤ m 104 15 ∧ m 104 15 ≤ 12 := by omega
  have hJm : 0 < h 21 3 → zJ m hl p L B n s := fun q => zJ_same hp6 (hJ q) (fun c hc => mo c (by omega)) (fun j h0 _ => mj j h0)
  have hDm : 0 < m 104 9 → zMH m p L B n s ∧ zDm m hl p L B n s := fun q => ⟨zMH_of twm (hJm (by omega)), (hJm (by omega)).2.2⟩
  refine zQ_imp (p_ask (d := 3) (sp := s.1) ha hon rfl kd tw (fun q => (hJ q).2.1.1)) (fun ρ σ' pc => ?_)
  rcases pc with ⟨q, rfl, rfl⟩ | ⟨q, q2, rfl, rfl⟩ | ⟨q, hq, l, δ, g, rfl, rfl, q3, q4, q5, q6⟩
  · refine ⟨_, h, hl, rfl, ⟨by decide, by decide⟩, rfl, x1, x2, zQ_imp (p_askO (hl := hl) (d := 4) (K := h 2 7) em ha hPm h9m h15m hDm (by omega) kd) (fun r2 σ2 pm => ?_)⟩
    rcases pm with ⟨w, rfl, rfl⟩ | ⟨w, w2, rfl, rfl⟩ | ⟨w, w2, l', tr', g2, w3, rfl, rfl, w4⟩
    · exact ⟨p, r, m, hl, rfl, rfl, zLi_up hIm⟩
    · exfalso; omega
    · exfalso; omega
  · refine ⟨_, h, hl, rfl, ⟨by decide, by decide⟩, rfl, x1, x2, zQ_imp (p_askO (hl := hl) (d := 4) (K := h 2 7) em ha hPm h9m h15m hDm (by omega) kd) (fun r2 σ2 pm => ?_)⟩
    rcases pm with ⟨w, rfl, rfl⟩ | ⟨w, w2, rfl, rfl⟩ | ⟨w, w2, l', tr', g2, w3, rfl, rfl, w4⟩
    · exfalso; omega
    · exact ⟨p, r, m, hl, rfl, rfl, zLi_up hIm⟩
    · exfalso; omega
  · have hj := hJ hq
    have hL3 := hj.2.1.1.1.1
    have n12 := hj.1
    have hb := zDc_b hj.2.1
    have htu := hj.2.1.1.2.2.2.2.2.2.2.1
    have hlL := zPkR_lt hL3.1 htu.1 q3
    have hPk := zPkS_of hj.2.1 hlL (show Int.toNat a < p by omega) q3
    have htr := zPkR_tr q3
    have fr : ∀ c : Nat, c < 21 ∨ (47 < c) → g c = h c := fun c hc => q5 c (by omega) (by omega) (by omega) (by omega) (by omega)
    obtain ⟨k, ek⟩ : ∃ k, zup g 104 0 0 = k := ⟨_, rfl⟩
    have ko : ∀ c : Nat, c ≠ 104 → k c = g c := fun c hc => by rw [← ek]; funext q; exact zup_ne hc
    have kj : ∀ j : Nat, j ≠ 0 → k 104 j = g 104 j := fun j hj => by rw [← ek]; exact zup_k hj
    have e104 := fr 104 (by omega)
    have kjh : ∀ j : Nat, j ≠ 0 → k 104 j = h 104 j := fun j hj => by rw [kj j hj, e104]
    have k3 := kjh 3 (by decide)
    have k9 := kjh 9 (by decide)
    have k15 := kjh 15 (by decide)
    have k11 := kjh 11 (by decide)
    have kh : ∀ c : Nat, c < 21 ∨ (47 < c ∧ c ≠ 104) → k c = h c := fun c hc => by rw [ko c (by omega)]; exact fr c (by omega)
    obtain ⟨gl, egl⟩ : ∃ gl, gl = zup hl 81 0 (hl 81 0 + δ) := ⟨_, rfl⟩
    rw [← egl]
    have eg2 : gl 104 2 = hl 104 2 := by rw [egl]; exact zup_ne (by decide)
    have eg8 : gl 81 0 = hl 81 0 + δ := by rw [egl]; exact zup_eq
    have hgo : ∀ c : Nat, c ≠ 81 → gl c = hl c := fun c hc => by rw [egl]; funext q; exact zup_ne hc
    have hHM := zHM_of (m := k) (ml := gl) tw hj (fun c hc => kh c (by omega)) (fun c hc => kh c (by omega)) (kh 108 (by omega)) (fun j h0 _ => kjh j h0) eg2
    refine ⟨_, g, gl, rfl, zr_nat (by omega), rfl, by rw [fr 1 (by omega)]; exact x1, by rw [hgo 1 (by decide)]; exact x2, zQ_imp (p_askO (hl := gl) (d := 4) (K := h 2 7) ek ha (by omega) (by omega) (by omega) (fun _ => hHM) (by omega) kd) (fun r2 σ2 pm => ?_)⟩
    rcases pm with ⟨w, rfl, rfl⟩ | ⟨w, w2, rfl, rfl⟩ | ⟨w, w2, l', tr', g2, w3, rfl, rfl, w4⟩
    · exfalso; omega
    · exfalso; omega
    · have w3h : zPkS h L B (h 2 7) n (Int.toNat a) s l' tr' := zPkS_same (fun c c1 c2 => kh c (by omega)) hL3.2 hb.1 (by omega) (fun j hj => by have := hb.2 j hj; omega) w3
      obtain ⟨rfl, rfl⟩ := zPkS_eq w3h hPk
      have dch := hj.2.1
      have g2c : ∀ c : Nat, c ≠ 118 → c ≠ 104 → g2 c = g c := fun c h1 h2 => by rw [w4 c h1]; exact ko c h2
      have g2h : ∀ c : Nat, c < 21 ∨ (47 < c ∧ c ≠ 104 ∧ c ≠ 118) → g2 c = h c := fun c hc => by rw [w4 c (by omega)]; exact kh c (by omega)
      have g2j : ∀ j : Nat, j ≠ 0 → g2 104 j = h 104 j := fun j hj => by rw [w4 104 (by decide)]; exact kjh j hj
      obtain ⟨gl2, egl2⟩ : ∃ gl2, gl2 = zup gl 104 2 (gl 104 2 + tr') := ⟨_, rfl⟩
      rw [← egl2]
      have e2a : gl2 104 2 = hl 104 2 + tr' := by rw [egl2, zup_eq, eg2]
      have e2b : ∀ c : Nat, c ≠ 104 → gl2 c = gl c := fun c hc => by rw [egl2]; funext q; exact zup_ne hc
      have dc1 : zDc g gl2 p L B n (s.1, s.2.1, s.2.2.1, s.2.2.2.1 + tr', s.2.2.2.2) := by
        refine ⟨q4, fun i hi => ?_, ?_, fun c j hc hj => ?_, ?_⟩
        · rw [q5 41 (by decide) (by decide) (by decide) (by decide) (by omega)]; exact dch.2.1 i hi
        · rw [q6 6 (by decide)]; exact dch.2.2.1
        · rw [q5 (42 + c) (by omega) (by omega) (by omega) (by omega) (by omega)]; exact dch.2.2.2.1 c j hc hj
        · rw [e2b 81 (by decide), eg8, dch.2.2.2.2]
      refine ⟨p, r, g2, gl2, rfl, rfl, zLi_day hI (fun c hc => g2h c (by omega)) (by rw [g2h 2 (by omega)]; exact kd) ⟨by rw [g2h 2 (by omega)]; exact st, by rw [g2h 2 (by omega), g2j 1 (by decide)]; exact st2⟩ (fun j hj => by rw [g2c 38 (by decide) (by decide)]; exact q4.2.2.2.2.2.2.2.2.2.2.2.2.2.2.2 j hj) (fun j hj => by rw [g2h 56 (by omega)]; exact z56 j hj) ⟨g2j 3 (by decide), g2j 4 (by decide), by rw [g2h 2 (by omega), g2j 11 (by decide)]; exact kd2⟩ (fun c h1 h2 => by rw [e2b c h2]; exact hgo c h1) (by rw [e2b 81 (by decide), eg8]; omega) (by rw [e2a, e2b 81 (by decide), eg8]; omega) (Or.inr ⟨L, B, n, _, n12, zDc_up (fun c hc => g2c c (by omega) (by omega)) (g2c 0 (by decide) (by decide)) rfl dc1, zDm_same2 hj.2.2 (fun c hc => g2h c (by omega)) (fun i j _ _ => by rw [g2h 108 (by omega)]) ⟨g2j 9 (by decide), g2j 10 (by decide), g2j 14 (by decide), g2j 15 (by decide)⟩ e2a (fun j hj => by have := hb.2 j hj; omega)⟩)⟩
theorem zRS_sum {L B n q : Nat} {K : Int} (hp : p ≤ 6) (hL : 1 ≤ L ∧ L ≤ 3) (hT : zTD h p) (hB : zSb p L B = true) (hq : ∀ j : Nat, j < n → zrp n q j < p) : ∀ k : Nat, k ≤ n → ∀ s : zTS, zRS h L B K n q k s → (∀ i : Nat, i < L → s.1 i < p) ∧ (-1 ≤ s.2.2.1 ∧ s.2.2.1 < (L : Int)) ∧ ∀ i : Nat, i < 3 → 0 ≤ s.2.1 i ∧ s.2.1 i ≤ 1500 * (k : Int) := by
  intro k
  induction k with
  | zero => intro _ s e; rw [show s = _ from e]; exact ⟨fun i hi => zSb_dg hB hi, ⟨by dsimp only; omega, by dsimp only; omega⟩, fun i hi => ⟨by dsimp only; omega, by dsimp only; omega⟩⟩
  | succ k ih =>
    intro hk s e
    obtain ⟨s0, l, tt, e1, e2, e3, e4⟩ := e
    obtain ⟨i1, i2, i3⟩ := ih (by omega) s0 e1
    have f := hT.2.1 _ _ (i1 l e2) (hq k (by omega))
    have f0 := (hT.1 (s0.1 l) (zrp n q k) (by have := i1 l e2; omega) (by have := hq k (by omega); omega)).1
    rw [e4]
    refine ⟨fun i hi => ?_, ?_, fun i hi => ?_⟩
    · dsimp only
      by_cases w : i = l
      · rw [if_pos w]; exact hq k (by omega)
      · rw [if_neg w]; exact i1 i hi
    · dsimp only
      by_cases w : K = 2 ∧ 0 < h (12 + s0.1 l) (zrp n q k)
      · rw [if_pos w]; omega
      · rw [if_neg w]; exact i2
    · have := i3 i hi
      dsimp only
      by_cases w : i = l
      · rw [if_pos w]; rw [w] at this; rw [w]; omega
      · rw [if_neg w]; omega
theorem zRS_same {m : Nat → Nat → Int} {L B n q : Nat} {K : Int} (hs : ∀ c : Nat, 12 ≤ c → c < 20 → m c = h c) : ∀ (k : Nat) (s : zTS), zRS m L B K n q k s → zRS h L B K n q k s ∧ ∀ i : Nat, s.1 i < 8 := by
  intro k
  induction k with
  | zero => intro s e; exact ⟨e, fun i => by rw [show s = _ from e]; exact zdg_lt B i⟩
  | succ k ih =>
    intro s e
    obtain ⟨s0, l, tt, e1, e2, e3, e4⟩ := e
    obtain ⟨i1, i2⟩ := ih s0 e1
    have hq : zrp n q k < 8 := zdg_lt _ _
    have hg : ∀ l : Nat, m (12 + s0.1 l) = h (12 + s0.1 l) := fun l => hs _ (by omega) (by have := i2 l; omega)
    refine ⟨⟨s0, l, tt, i1, e2, zPkR_imp e3 (fun l hl => by rw [hg l]) (fun l hl => by rw [hg l]) (fun l hl => by rw [hg l]; congr 1; exact zWf_same hs (k + 1) (fun j hj => ⟨rfl, zdg_lt _ _⟩) _), by rw [← hg l]; exact e4⟩, fun i => ?_⟩
    rw [e4]
    dsimp only
    by_cases w : i = l
    · rw [if_pos w]; exact hq
    · rw [if_neg w]; exact i2 i
theorem zAc_same {m : Nat → Nat → Int} {L B n : Nat} {K : Int} (hs : ∀ c : Nat, 12 ≤ c → c < 20 → m c = h c) : ∀ (k : Nat) (a : zTA), zAc m p L B K n k a → zAc h p L B K n k a := by
  intro k
  induction k with
  | zero => intro a e; exact e
  | succ k ih =>
    intro a e
    obtain ⟨a0, c, mm, tt, e1, ⟨s, f1, f2, f3, f4, f5⟩, e3⟩ := e
    have ew : ∀ Y : Nat, zWf m L B (zrp n (znum p n k)) n Y = zWf h L B (zrp n (znum p n k)) n Y := fun Y => zWf_same hs n (fun j hj => ⟨rfl, zdg_lt _ _⟩) Y
    refine ⟨a0, c, mm, tt, ih a0 e1, ⟨s, (zRS_same hs n s f1).1, f2, f3, fun Y hY hl => by rw [← ew]; exact f4 Y hY hl, ?_⟩, e3⟩
    obtain ⟨Y, y1, y2⟩ := f5
    exact ⟨Y, y1, by rw [← ew]; exact y2⟩
theorem zAc_z {L B n : Nat} {K : Int} (hp : p ≤ 6) (hL : 1 ≤ L ∧ L ≤ 3) (hn : 1 ≤ n ∧ n ≤ 3) (hT : zTD h p) (hB : zSb p L B = true) : ∀ (k : Nat), k ≤ p ^ n → ∀ a : zTA, zAc h p L B K n k a → a.1 < 512 ∧ zr a.2.1 ∧ zr a.2.2.1 := by
  intro k
  induction k with
  | zero => intro _ a e; rw [show a = _ from e]; exact ⟨by decide, ⟨by decide, by decide⟩, ⟨by decide, by decide⟩⟩
  | succ k ih =>
    intro hk a e
    obtain ⟨a0, c, mm, tt, e1, ⟨s, f1, f2, f3, f4, f5⟩, e3⟩ := e
    have i := ih (by omega) a0 e1
    have h9 := zpw_le p (by omega) n (by omega)
    have hpl : ∀ j : Nat, j < n → zrp n (znum p n k) j < p := fun j hj => (znum_pl p (by omega) n (by omega) hn.1 k (by omega) (by omega) j (by omega) hj).2.1
    have hz := (znum_pl p (by omega) n (by omega) hn.1 k (by omega) (by omega) 0 (by omega) (by omega)).2.2
    have b := zRS_sum hp hL hT hB hpl n (Nat.le_refl n) s f1
    have s0 := b.2.2 0 (by decide)
    have s1 := b.2.2 1 (by decide)
    have s2 := b.2.2 2 (by decide)
    obtain ⟨Y, y1, y2⟩ := f5
    have w := zWf_b hp hL hT hB n hpl Y y1
    rw [e3]
    by_cases q : a0.2.2.2.1 < c - mm
    · rw [if_pos q]; exact ⟨hz, ⟨by dsimp only; omega, by dsimp only; omega⟩, ⟨by dsimp only; omega, by dsimp only; omega⟩⟩
    · rw [if_neg q]; exact i
theorem zT_worst (hI : zLi X XL t p r h hl) {a b : Int} (ha : zr a) (hb : zr b) : zTw 84 [.inr (.inr (some 2)), .inl a, .inl b] 141 [.inr (.inr (some 104)), .inl a, .inl b] X XL t h hl := by
  have hIc := hI
  obtain ⟨x1, x2, tw, od, z38, z56, kd, kd2, st, st2, tr, tr2, b0, b1, b2, dy⟩ := hIc
  have twc := tw
  obtain ⟨hp6, hr15, h30, h31, hp3, hr4, hMe, hTB, hCn, hPo, hRd, hLk, hGr⟩ := twc
  have hdb := zDay_b dy
  have hP : 0 ≤ h 3 0 ∧ h 3 0 ≤ 6 := by omega
  have hon : zr (h 21 3) := ⟨by omega, by omega⟩
  obtain ⟨L, B, n, s, hJ⟩ := zDay_on dy
  obtain ⟨m, em⟩ : ∃ m, zup h 104 0 0 = m := ⟨_, rfl⟩
  obtain ⟨mo, mj, hIm⟩ := zLi_m hI em
  have twm := hIm.2.2.1
  have m3 := mj 3 (by decide)
  have m4 := mj 4 (by decide)
  have m9 := mj 9 (by decide)
  have m15 := mj 15 (by decide)
  have m11 := mj 11 (by decide)
  have hPm : 0 ≤ m 104 3 ∧ m 104 3 ≤ 6 := by omega
  have h9m : 0 ≤ m 104 9 ∧ m 104 9 ≤ 3 := by omega
  have h15m : 0 ≤ m 104 15 ∧ m 104 15 ≤ 12 := by omega
  have hJm : 0 < h 21 3 → zJ m hl p L B n s := fun q => zJ_same hp6 (hJ q) (fun c hc => mo c (by omega)) (fun j h0 _ => mj j h0)
  have hDm : 0 < m 104 9 → zMH m p L B n s ∧ zDm m hl p L B n s := fun q => ⟨zMH_of twm (hJm (by omega)), (hJm (by omega)).2.2⟩
  refine zQ_imp (p_worst (d := 1) ha hb z56 hon rfl kd tw (fun q => (hJ q).2.1.1)) (fun ρ σ' pc => ?_)
  rcases pc with ⟨q, rfl, rfl⟩ | ⟨q, q2, rfl, rfl⟩ | ⟨hq, N, A, q2, q3, q4, q5, q6, g, gl, rfl, q7, q8, q9⟩
  · refine ⟨_, h, hl, rfl, ⟨by decide, by decide⟩, rfl, x1, x2, zQ_imp (p_worstO (hl := hl) (d := 4) (K := h 2 7) em ha hb hPm h9m h15m hDm (by omega) kd) (fun r2 σ2 pm => ?_)⟩
    rcases pm with ⟨w, rfl, rfl⟩ | ⟨w, w2, rfl, rfl⟩ | ⟨w, N2, A2, w2, w3, w4, w5, w6, g2, gl2, rfl, w7, w8⟩
    · exact ⟨p, r, m, hl, rfl, rfl, zLi_up hIm⟩
    · exfalso; omega
    · exfalso; omega
  · refine ⟨_, h, hl, rfl, ⟨by decide, by decide⟩, rfl, x1, x2, zQ_imp (p_worstO (hl := hl) (d := 4) (K := h 2 7) em ha hb hPm h9m h15m hDm (by omega) kd) (fun r2 σ2 pm => ?_)⟩
    rcases pm with ⟨w, rfl, rfl⟩ | ⟨w, w2, rfl, rfl⟩ | ⟨w, N2, A2, w2, w3, w4, w5, w6, g2, gl2, rfl, w7, w8⟩
    · exfalso; omega
    · exact ⟨p, r, m, hl, rfl, rfl, zLi_up hIm⟩
    · exfalso; omega
  · have hj := hJ hq
    have hS := hj.2.1.1.1
    have hL3 := hS.1
    have n12 := hj.1
    have hbb := zDc_b hj.2.1
    have az := zAc_z hp6 hL3 q3 hj.2.1.1.2.1 hj.2.1.1.2.2.1 (p ^ N) (Nat.le_refl _) A q5
    have at2 := zAc_tr (show N ≤ 3 by omega) (p ^ N) A q5
    have hpw := zpw_le p (by omega) N (by omega)
    obtain ⟨x, hx, hzx⟩ : ∃ x : Int, ρ = some (.inl x) ∧ ((b = 0 ∧ x = (A.1 : Int)) ∨ (b = 1 ∧ x = A.2.1) ∨ (b = 2 ∧ x = A.2.2.1)) := by
      rcases q6 with ⟨e1, e2⟩ | ⟨e1, e2⟩ | ⟨e1, e2⟩
      · exact ⟨_, e2, Or.inl ⟨e1, rfl⟩⟩
      · exact ⟨_, e2, Or.inr (Or.inl ⟨e1, rfl⟩)⟩
      · exact ⟨_, e2, Or.inr (Or.inr ⟨e1, rfl⟩)⟩
    obtain ⟨k, ek⟩ : ∃ k, zup g 104 0 0 = k := ⟨_, rfl⟩
    have ko : ∀ c : Nat, c ≠ 104 → k c = g c := fun c hc => by rw [← ek]; funext q; exact zup_ne hc
    have kj : ∀ j : Nat, j ≠ 0 → k 104 j = g 104 j := fun j hj => by rw [← ek]; exact zup_k hj
    have e104 := q8 104 (by omega)
    have kjh : ∀ j : Nat, j ≠ 0 → k 104 j = h 104 j := fun j hj => by rw [kj j hj, e104]
    have k3 := kjh 3 (by decide)
    have k9 := kjh 9 (by decide)
    have k15 := kjh 15 (by decide)
    have k11 := kjh 11 (by decide)
    have kh : ∀ c : Nat, c < 48 ∨ (65 < c ∧ c ≠ 104) → k c = h c := fun c hc => by rw [ko c (by omega)]; exact q8 c (by omega)
    have eg2 : gl 104 2 = hl 104 2 := by rw [q7]; exact zup_ne (by decide)
    have eg8 : gl 81 0 = hl 81 0 + A.2.2.2.2 := by rw [q7]; exact zup_eq
    have hgo : ∀ c : Nat, c ≠ 81 → gl c = hl c := fun c hc => by rw [q7]; funext q; exact zup_ne hc
    have hHM := zHM_of (m := k) (ml := gl) tw hj (fun c hc => kh c (by omega)) (fun c hc => kh c (by omega)) (kh 108 (by omega)) (fun j h0 _ => kjh j h0) eg2
    refine ⟨x, g, gl, hx, ?_, rfl, by rw [q8 1 (by omega)]; exact x1, by rw [hgo 1 (by decide)]; exact x2, zQ_imp (p_worstO (hl := gl) (d := 4) (K := h 2 7) ek ha hb (by omega) (by omega) (by omega) (fun _ => hHM) (by omega) kd) (fun r2 σ2 pm => ?_)⟩
    · rcases hzx with ⟨-, e⟩ | ⟨-, e⟩ | ⟨-, e⟩
      · rw [e]; exact zr_nat (by omega)
      · rw [e]; exact az.2.1
      · rw [e]; exact az.2.2
    · rcases pm with ⟨w, rfl, rfl⟩ | ⟨w, w2, rfl, rfl⟩ | ⟨w, N2, A2, w2, w3, w4, w5, w6, g2, gl2, rfl, w7, w8⟩
      · exfalso; omega
      · exfalso; omega
      · obtain rfl : N = N2 := by omega
        have w5h := zAc_same (fun c c1 c2 => kh c (by omega)) (p ^ N) A2 w5
        obtain rfl := zAc_eq hp6 hL3 q3 (p ^ N) (Nat.le_refl _) A A2 q5 w5h
        have ex : r2 = some (.inl x) := by
          rcases w6 with ⟨e1, e2⟩ | ⟨e1, e2⟩ | ⟨e1, e2⟩ <;> rcases hzx with ⟨f1, f2⟩ | ⟨f1, f2⟩ | ⟨f1, f2⟩ <;> first
            | (exfalso; omega)
            | (rw [e2, f2])
        have g2h : ∀ c : Nat, c < 48 ∨ (65 < c ∧ c ≠ 104 ∧ c ≠ 118 ∧ c ≠ 125 ∧ c ≠ 126) → g2 c = h c := fun c hc => by rw [w8 c (by omega) (by omega) (by omega)]; exact kh c (by omega)
        have g2j : ∀ j : Nat, j ≠ 0 → g2 104 j = h 104 j := fun j hj => by rw [w8 104 (by decide) (by decide) (by decide)]; exact kjh j hj
        have e2a : gl2 104 2 = hl 104 2 + A.2.2.2.2 := by rw [w7, zup_eq, eg2]
        have e2b : ∀ c : Nat, c ≠ 104 → gl2 c = gl c := fun c hc => by rw [w7]; funext q; exact zup_ne hc
        refine ⟨p, r, g2, gl2, ex, rfl, zLi_same hI (t' := t + 1) (δ := A.2.2.2.2) at2.1 (by omega) (fun c hc => g2h c (by omega)) (by rw [g2h 2 (by omega)]) ⟨by rw [g2h 2 (by omega)]; exact st, by rw [g2h 2 (by omega), g2j 1 (by decide)]; exact st2⟩ (fun j hj => by rw [w8 56 (by decide) (by decide) (by decide), ko 56 (by decide)]; exact q9 j hj) (fun j h0 _ => g2j j h0) (Or.inl (g2h 108 (by omega))) (fun c h1 h2 => by rw [e2b c h2]; exact hgo c h1) (by rw [e2b 81 (by decide), eg8]) e2a⟩
end ZTW3
