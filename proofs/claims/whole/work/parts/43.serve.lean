/-! A CALL is SERVED: heard, a LADDER picked, sent. -/
set_option maxRecDepth 100000 in
set_option maxHeartbeats 4000000 in
theorem p_serveD {d : Nat} {h hl : Nat → Nat → Int} {p L B n pp : Nat} {K : Int} {sp : Nat → Nat} (hD : zDID h p L B n sp) (hn1 : n < 12) (hpp : pp < p) (hK7 : h 2 7 = K) (hK : 0 ≤ K ∧ K ≤ 3) : zQ (d + 6) 78 [.inr (.inr (some 2)), .inr (.inr (some 21)), .inl (pp : Int)] (zs h hl) (fun r σ' => ∃ (l : Nat) (tr : Int) (g gl : Nat → Nat → Int), l < L ∧ r = some (.inl (l : Int)) ∧ σ' = zs g gl ∧ zServeP h hl g gl L B n pp sp K l tr 21 40 41 42 43 44 45 46 47 21 47 ∧ zDID g p L B (n + 1) (fun i => if i = l then pp else sp i)) := by
  have hDc := hD
  obtain ⟨hS, hT, hBs, hL, hn, hn2, hB, htu, hsp, hspL, hsu, hR, hW, hnk, hHE, hHz⟩ := hDc
  have hp6 := hS.2.1
  refine zQ_of (Nat.le_of_ble_eq_true rfl) ?_
  show zH (d + 5) 78 (0, [some (.inr (.inr (some 2))), some (.inr (.inr (some 21))), some (.inl (pp : Int)), none], [], (zs h hl)) _
  refine zH_go 2 (c' := (2, [some (.inr (.inr (some 2))), some (.inr (.inr (some 21))), some (.inl (pp : Int)), none], [.inl (pp : Int), .inr (.inr (some 21))], (zs h hl))) rfl ?_
  refine zH_call (M' := 16) (as := [.inr (.inr (some 21)), .inl (pp : Int)]) (T := []) rfl (p_hearD hS hT hBs (fun i hi => (hsp i hi).1) (fun i hi => (hsp i hi).2) hpp hn hn2 hW hnk hHz) (fun r σ' p1 => ?_)
  obtain ⟨rfl, g1, rfl, hg⟩ := p1
  have hD2 := zDI_hearD hD hpp hg
  have hg0 := hg
  obtain ⟨f1, f7, fj, ff, fW, fk, fHn, fHj⟩ := hg0
  have k27 : g1 2 7 = K := by rw [f1 2 (by decide) (by decide) (by decide) (by decide) (by omega)]; exact hK7
  have hD2' := hD2
  obtain ⟨gS, gT, gBs, gL, gn, gn2, gB, gtu, gsp, gspL, gsu, gR, gW, gnk, gHE, gHz⟩ := hD2'
  obtain ⟨kk, w1, w2, w3, w4⟩ := gW
  have hrow := zWI_b gS gT gBs (⟨kk, w1, w2, w3, w4⟩ : zWI g1 p L B 22 38 24 13) w1 (n := n + 1) (by omega) (by decide)
  have hfar : ∀ l : Nat, l < 3 → 0 ≤ g1 39 l ∧ g1 39 l ≤ 1000000 := fun l hl => by rw [ff l hl]; exact zFar_b hT.1 (fun i hi => (hsp i hi).2) (by omega) l hl
  have hsumb := zDI_bD hD2
  have hL3 := gS.1
  show zH _ _ (5, [some (.inr (.inr (some 2))), some (.inr (.inr (some 21))), some (.inl (pp : Int)), none], [], (zs g1 hl)) _
  refine zH_go 4 (c' := (13, [some (.inr (.inr (some 2))), some (.inr (.inr (some 21))), some (.inl (pp : Int)), none], [.inl (g1 2 7), .inr (.inr (some 81))], (zs g1 hl))) rfl ?_
  rw [k27]
  refine zH_go 1 (c' := (14, [some (.inr (.inr (some 2))), some (.inr (.inr (some 21))), some (.inl (pp : Int)), none], [.inr (.inr (some 21)), .inl K, .inr (.inr (some 81))], (zs g1 hl))) rfl ?_
  refine zH_call (M' := 35) (as := [.inr (.inr (some 81)), .inl K, .inr (.inr (some 21))]) (T := []) rfl (p_pickD hK hL3 gL hfar f7 (fun i hi => (gsp i (by omega)).1) (fun l hl => by have := hsumb l hl; omega) gS gn hn2 hpp gspL hrow ⟨gtu.1, by omega⟩) (fun r σ' p2 => ?_)
  obtain ⟨l, tr, hpk, rfl, rfl⟩ := p2
  have hlL := zPkR_lt hL3.1 gtu.1 hpk
  show zH _ _ (17, [some (.inr (.inr (some 2))), some (.inr (.inr (some 21))), some (.inl (pp : Int)), none], [.inl (l : Int)], (zs g1 (zup hl 81 0 (hl 81 0 + tr)))) _
  refine zH_go 5 (c' := (24, [some (.inr (.inr (some 2))), some (.inr (.inr (some 21))), some (.inl (pp : Int)), some (.inl (l : Int))], [.inl (g1 2 7), .inl (l : Int), .inr (.inr (some 21))], (zs g1 (zup hl 81 0 (hl 81 0 + tr))))) rfl ?_
  rw [k27]
  refine zH_call (M' := 17) (as := [.inr (.inr (some 21)), .inl (l : Int), .inl K]) (T := []) rfl (p_sendD (by omega) hK gn hn1 (by have := hfar l (by omega); exact ⟨by omega, by omega⟩)) (fun r σ' p3 => ?_)
  obtain ⟨rfl, g, rfl, hs⟩ := p3
  show zH _ _ (27, [some (.inr (.inr (some 2))), some (.inr (.inr (some 21))), some (.inl (pp : Int)), some (.inl (l : Int))], [], (zs g (zup hl 81 0 (hl 81 0 + tr)))) _
  refine zH_go 1 (c' := (28, [some (.inr (.inr (some 2))), some (.inr (.inr (some 21))), some (.inl (pp : Int)), some (.inl (l : Int))], [.inl (l : Int)], (zs g (zup hl 81 0 (hl 81 0 + tr))))) rfl ?_
  refine zH_ret (v := some (.inl (l : Int))) rfl (fun q => absurd q (by decide)) ?_
  have hD3 := zDI_sendD hD2 hn1 hpp hK hlL f7 (fun i hi => by rw [ff i hi, f1 (12 + sp i) (by have := (hsp i hi).2; omega) (by have := (hsp i hi).2; omega) (by have := (hsp i hi).2; omega) (by have := (hsp i hi).2; omega) (by have := (hsp i hi).2; omega)]) fk fHn hs
  have fr : ∀ c : Nat, c ≠ 21 → c ≠ 39 → c ≠ 22 → c ≠ 38 → (c ≤ 24 ∨ 24 + 13 < c) → g1 c = h c := fun c h1 h2 h3 h4 h5 => f1 c h1 h2 h3 h4 (by omega)
  have e41 := fr 41 (by decide) (by decide) (by decide) (by decide) (by decide)
  have e40 := fr 40 (by decide) (by decide) (by decide) (by decide) (by decide)
  have e42 := fr 42 (by decide) (by decide) (by decide) (by decide) (by decide)
  have e43 := fr 43 (by decide) (by decide) (by decide) (by decide) (by decide)
  have e44 := fr 44 (by decide) (by decide) (by decide) (by decide) (by decide)
  have e45 := fr 45 (by decide) (by decide) (by decide) (by decide) (by decide)
  have e46 := fr 46 (by decide) (by decide) (by decide) (by decide) (by decide)
  have e47 := fr 47 (by decide) (by decide) (by decide) (by decide) (by decide)
  have el := ff l (by omega)
  obtain ⟨s1, ⟨a1, a2, a3, a4, a5, a6⟩, so, s6, s4, sj, ⟨su, ss⟩, sno⟩ := hs
  refine ⟨l, tr, g, _, hlL, rfl, rfl, ⟨?_, rfl, fun c hc => ?_, ⟨by rw [a1, f7], a2, by rw [a3, el], a4, by rw [a5, e40]; exact (hsp l (by omega)).1, by rw [a6, fj 6 (by decide)]⟩, fun j hj => ?_, by rw [s6, el, fj 6 (by decide)], ⟨by rw [su, el, e41], by rw [ss, f7]⟩, fun j hj => by rw [(sno j hj).1, (sno j hj).2, e41, e40]; exact ⟨rfl, rfl⟩⟩, hD3⟩
  · have hpk2 := zPkR_imp hpk (gn := fun l => h (12 + sp l) pp) (ge := fun l => h 41 l + h (12 + sp l) pp) (ga := fun l => zWf h L B (zPl h 42 n pp) (n + 1) (zwd (zStn L sp) l pp) + h (12 + sp l) pp) (fun q hq => ff q (by omega)) (fun q hq => by rw [e41, ff q (by omega)]) (fun q hq => by rw [zWk_D hD hpp hq hg, ff q (by omega)])
    rw [fj 6 (by decide)] at hpk2
    exact hpk2
  · rw [s1 c (by omega) (by omega) (by omega) (by omega) (by omega) (by omega) (by omega) (by omega) (by omega), f1 c (by omega) (by omega) (by omega) (by omega) (by omega)]
  · obtain ⟨q1, q2, q3, q4, q5, q6⟩ := so j (by omega)
    rw [q1, q2, q3, q4, q5, q6, e42, e43, e44, e45, e46, e47]
    exact ⟨rfl, rfl, rfl, rfl, rfl, rfl⟩
set_option maxRecDepth 100000 in
set_option maxHeartbeats 4000000 in
theorem p_serveT {d : Nat} {h hl : Nat → Nat → Int} {p L B n pp : Nat} {K : Int} {sp : Nat → Nat} (hD : zDIT h p L B n sp) (hn1 : n < 3) (hpp : pp < p) (hK7 : h 2 7 = K) (hK : 0 ≤ K ∧ K ≤ 3) : zQ (d + 6) 78 [.inr (.inr (some 2)), .inr (.inr (some 48)), .inl (pp : Int)] (zs h hl) (fun r σ' => ∃ (l : Nat) (tr : Int) (g gl : Nat → Nat → Int), l < L ∧ r = some (.inl (l : Int)) ∧ σ' = zs g gl ∧ zServeP h hl g gl L B n pp sp K l tr 48 58 59 60 61 62 63 64 65 48 65 ∧ zDIT g p L B (n + 1) (fun i => if i = l then pp else sp i)) := by
  have hDc := hD
  obtain ⟨hS, hT, hBs, hL, hn, hn2, hB, htu, hsp, hspL, hsu, hR, hW, hnk, hHE, hHz⟩ := hDc
  have hp6 := hS.2.1
  refine zQ_of (Nat.le_of_ble_eq_true rfl) ?_
  show zH (d + 5) 78 (0, [some (.inr (.inr (some 2))), some (.inr (.inr (some 48))), some (.inl (pp : Int)), none], [], (zs h hl)) _
  refine zH_go 2 (c' := (2, [some (.inr (.inr (some 2))), some (.inr (.inr (some 48))), some (.inl (pp : Int)), none], [.inl (pp : Int), .inr (.inr (some 48))], (zs h hl))) rfl ?_
  refine zH_call (M' := 16) (as := [.inr (.inr (some 48)), .inl (pp : Int)]) (T := []) rfl (p_hearT hS hT hBs (fun i hi => (hsp i hi).1) (fun i hi => (hsp i hi).2) hpp hn hn2 hW hnk hHz) (fun r σ' p1 => ?_)
  obtain ⟨rfl, g1, rfl, hg⟩ := p1
  have hD2 := zDI_hearT hD hpp hg
  have hg0 := hg
  obtain ⟨f1, f7, fj, ff, fW, fk, fHn, fHj⟩ := hg0
  have k27 : g1 2 7 = K := by rw [f1 2 (by decide) (by decide) (by decide) (by decide) (by omega)]; exact hK7
  have hD2' := hD2
  obtain ⟨gS, gT, gBs, gL, gn, gn2, gB, gtu, gsp, gspL, gsu, gR, gW, gnk, gHE, gHz⟩ := hD2'
  obtain ⟨kk, w1, w2, w3, w4⟩ := gW
  have hrow := zWI_b gS gT gBs (⟨kk, w1, w2, w3, w4⟩ : zWI g1 p L B 49 56 51 4) w1 (n := n + 1) (by omega) (by decide)
  have hfar : ∀ l : Nat, l < 3 → 0 ≤ g1 57 l ∧ g1 57 l ≤ 1000000 := fun l hl => by rw [ff l hl]; exact zFar_b hT.1 (fun i hi => (hsp i hi).2) (by omega) l hl
  have hsumb := zDI_bT hD2
  have hL3 := gS.1
  show zH _ _ (5, [some (.inr (.inr (some 2))), some (.inr (.inr (some 48))), some (.inl (pp : Int)), none], [], (zs g1 hl)) _
  refine zH_go 4 (c' := (13, [some (.inr (.inr (some 2))), some (.inr (.inr (some 48))), some (.inl (pp : Int)), none], [.inl (g1 2 7), .inr (.inr (some 81))], (zs g1 hl))) rfl ?_
  rw [k27]
  refine zH_go 1 (c' := (14, [some (.inr (.inr (some 2))), some (.inr (.inr (some 48))), some (.inl (pp : Int)), none], [.inr (.inr (some 48)), .inl K, .inr (.inr (some 81))], (zs g1 hl))) rfl ?_
  refine zH_call (M' := 35) (as := [.inr (.inr (some 81)), .inl K, .inr (.inr (some 48))]) (T := []) rfl (p_pickT hK hL3 gL hfar f7 (fun i hi => (gsp i (by omega)).1) (fun l hl => by have := hsumb l hl; omega) gS gn hn2 hpp gspL hrow ⟨gtu.1, by omega⟩) (fun r σ' p2 => ?_)
  obtain ⟨l, tr, hpk, rfl, rfl⟩ := p2
  have hlL := zPkR_lt hL3.1 gtu.1 hpk
  show zH _ _ (17, [some (.inr (.inr (some 2))), some (.inr (.inr (some 48))), some (.inl (pp : Int)), none], [.inl (l : Int)], (zs g1 (zup hl 81 0 (hl 81 0 + tr)))) _
  refine zH_go 5 (c' := (24, [some (.inr (.inr (some 2))), some (.inr (.inr (some 48))), some (.inl (pp : Int)), some (.inl (l : Int))], [.inl (g1 2 7), .inl (l : Int), .inr (.inr (some 48))], (zs g1 (zup hl 81 0 (hl 81 0 + tr))))) rfl ?_
  rw [k27]
  refine zH_call (M' := 17) (as := [.inr (.inr (some 48)), .inl (l : Int), .inl K]) (T := []) rfl (p_sendT (by omega) hK gn hn1 (by have := hfar l (by omega); exact ⟨by omega, by omega⟩)) (fun r σ' p3 => ?_)
  obtain ⟨rfl, g, rfl, hs⟩ := p3
  show zH _ _ (27, [some (.inr (.inr (some 2))), some (.inr (.inr (some 48))), some (.inl (pp : Int)), some (.inl (l : Int))], [], (zs g (zup hl 81 0 (hl 81 0 + tr)))) _
  refine zH_go 1 (c' := (28, [some (.inr (.inr (some 2))), some (.inr (.inr (some 48))), some (.inl (pp : Int)), some (.inl (l : Int))], [.inl (l : Int)], (zs g (zup hl 81 0 (hl 81 0 + tr))))) rfl ?_
  refine zH_ret (v := some (.inl (l : Int))) rfl (fun q => absurd q (by decide)) ?_
  have hD3 := zDI_sendT hD2 hn1 hpp hK hlL f7 (fun i hi => by rw [ff i hi, f1 (12 + sp i) (by have := (hsp i hi).2; omega) (by have := (hsp i hi).2; omega) (by have := (hsp i hi).2; omega) (by have := (hsp i hi).2; omega) (by have := (hsp i hi).2; omega)]) fk fHn hs
  have fr : ∀ c : Nat, c ≠ 48 → c ≠ 57 → c ≠ 49 → c ≠ 56 → (c ≤ 51 ∨ 51 + 4 < c) → g1 c = h c := fun c h1 h2 h3 h4 h5 => f1 c h1 h2 h3 h4 (by omega)
  have e59 := fr 59 (by decide) (by decide) (by decide) (by decide) (by decide)
  have e58 := fr 58 (by decide) (by decide) (by decide) (by decide) (by decide)
  have e60 := fr 60 (by decide) (by decide) (by decide) (by decide) (by decide)
  have e61 := fr 61 (by decide) (by decide) (by decide) (by decide) (by decide)
  have e62 := fr 62 (by decide) (by decide) (by decide) (by decide) (by decide)
  have e63 := fr 63 (by decide) (by decide) (by decide) (by decide) (by decide)
  have e64 := fr 64 (by decide) (by decide) (by decide) (by decide) (by decide)
  have e65 := fr 65 (by decide) (by decide) (by decide) (by decide) (by decide)
  have el := ff l (by omega)
  obtain ⟨s1, ⟨a1, a2, a3, a4, a5, a6⟩, so, s6, s4, sj, ⟨su, ss⟩, sno⟩ := hs
  refine ⟨l, tr, g, _, hlL, rfl, rfl, ⟨?_, rfl, fun c hc => ?_, ⟨by rw [a1, f7], a2, by rw [a3, el], a4, by rw [a5, e58]; exact (hsp l (by omega)).1, by rw [a6, fj 6 (by decide)]⟩, fun j hj => ?_, by rw [s6, el, fj 6 (by decide)], ⟨by rw [su, el, e59], by rw [ss, f7]⟩, fun j hj => by rw [(sno j hj).1, (sno j hj).2, e59, e58]; exact ⟨rfl, rfl⟩⟩, hD3⟩
  · have hpk2 := zPkR_imp hpk (gn := fun l => h (12 + sp l) pp) (ge := fun l => h 59 l + h (12 + sp l) pp) (ga := fun l => zWf h L B (zPl h 60 n pp) (n + 1) (zwd (zStn L sp) l pp) + h (12 + sp l) pp) (fun q hq => ff q (by omega)) (fun q hq => by rw [e59, ff q (by omega)]) (fun q hq => by rw [zWk_T hD hpp hq hg, ff q (by omega)])
    rw [fj 6 (by decide)] at hpk2
    exact hpk2
  · rw [s1 c (by omega) (by omega) (by omega) (by omega) (by omega) (by omega) (by omega) (by omega) (by omega), f1 c (by omega) (by omega) (by omega) (by omega) (by omega)]
  · obtain ⟨q1, q2, q3, q4, q5, q6⟩ := so j (by omega)
    rw [q1, q2, q3, q4, q5, q6, e60, e61, e62, e63, e64, e65]
    exact ⟨rfl, rfl, rfl, rfl, rfl, rfl⟩
