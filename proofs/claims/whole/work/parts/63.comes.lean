/-! The model: a CALL comes. -/
/-- what stands when the model has a day -/
def zMH (m : Nat → Nat → Int) (p L B n : Nat) (s : zDS) : Prop := (1 ≤ L ∧ L ≤ 3) ∧ p ≤ 6 ∧ m 104 3 = (p : Int) ∧ zTD m p ∧ zFE m p ∧ zSb p L B = true ∧ n ≤ 12 ∧ (∀ i : Nat, i < 3 → s.1 i < 6) ∧ (∀ i : Nat, i < L → s.1 i < p) ∧ (∀ i : Nat, i < 3 → 0 ≤ s.2.1 i ∧ s.2.1 i ≤ 1000000) ∧ (-1 ≤ s.2.2.1 ∧ s.2.2.1 < (L : Int)) ∧ (∀ j : Nat, j < n → Int.toNat (s.2.2.2.2 0 j) < p) ∧ (∀ i : Nat, i < 6 → m (12 + i) i = 0) ∧ ∀ i j : Nat, i < 6 → j < 6 → i ≠ j → 1 ≤ m (12 + i) j
theorem zRk_same {h g : Nat → Nat → Int} {p L B n : Nat} {pl ql : Nat → Nat} {ρ τ : Nat → Int} (hc : ∀ c : Nat, 12 ≤ c → c < 20 → g c = h c) (hpl : ∀ j : Nat, j < n → ql j = pl j ∧ ql j < 8) (hρ : ∀ q : Nat, q < 512 → τ q = ρ q) (hR : zRk h p L B pl n ρ) : zRk g p L B ql n τ := by
  obtain ⟨r1, r2, r3⟩ := hR
  have ew : ∀ X : Nat, zWf g L B ql n X = zWf h L B pl n X := fun X => zWf_same hc n hpl X
  have em : ∀ s X : Nat, zMv g L s X = zMv h L s X := fun s X => zMv_same hc
  refine ⟨fun s hs => by rw [hρ s hs]; exact r1 s hs, fun s hs hr => ?_, fun X hX => ⟨fun s hs hr => ?_, ?_⟩⟩
  · rw [hρ s hs] at hr ⊢
    exact r2 s hs hr
  · rw [hρ s hs] at hr ⊢
    rw [ew, em]
    exact (r3 X hX).1 s hs hr
  · obtain ⟨s, s1, s2, s3⟩ := (r3 X hX).2
    exact ⟨s, s1, by rw [hρ s s1]; exact s2, by rw [hρ s s1, ew, em]; exact s3⟩
theorem zIs_le {L : Nat} {f : Nat → Int} {r j : Nat} (h : zIs L f r) (hj : j < L) : f r ≤ f j := by
  rcases h with ⟨rfl, rfl⟩ | ⟨rfl, z⟩ | ⟨rfl, z⟩
  · obtain rfl : j = 0 := by omega
    exact Int.le_refl _
  · rcases (show j = 0 ∨ j = 1 by omega) with rfl | rfl <;> rcases z with ⟨rfl, z⟩ | ⟨rfl, z⟩ <;> omega
  · rcases (show j = 0 ∨ j = 1 ∨ j = 2 by omega) with rfl | rfl | rfl <;> rcases z with ⟨rfl, z⟩ | ⟨rfl, z⟩ | ⟨rfl, z⟩ <;> omega
theorem zCov_far {m : Nat → Nat → Int} {p L B n pp l : Nat} {s : zDS} {K tr : Int} (hH : zMH m p L B n s) (hpp : pp < p) (hK : K = 2) (hP : zPkS m L B K n pp s l tr) : zCov L s.1 pp ↔ ¬ 0 < m (12 + s.1 l) pp := by
  obtain ⟨hL3, hp6, h3, hT, hF, hBs, hn, hs6, hsp, hsu, htu, hpl, hdg, hpo⟩ := hH
  obtain ⟨hl, hP⟩ := hP
  constructor
  · rintro ⟨i, hi, e⟩
    have z : zIs L (fun l => m (12 + s.1 l) pp) l := by
      rcases hP with ⟨h1, h2, h3⟩ | ⟨h1, h2, h3, h4⟩ | ⟨h1, h2, h3, h4⟩ | ⟨h1, h2, h3, h4⟩ | ⟨h1, h2, h3, h4⟩ | ⟨h1, h2, h3, h4⟩ | ⟨h1, h2, h3, h4, h5⟩ | ⟨h1, h2, h3, h4, h5⟩
      · omega
      · omega
      · omega
      · exact h3
      · exact absurd ⟨i, hi, e⟩ h2
      · omega
      · omega
      · omega
    have d0 := hdg pp (by omega)
    have le : ∀ j : Nat, j < L → m (12 + s.1 l) pp ≤ m (12 + s.1 j) pp := fun j hj => zIs_le z hj
    have := le i hi
    rw [e, d0] at this
    omega
  · intro q
    refine ⟨l, hl, ?_⟩
    have a := hs6 l (by omega)
    have c := fun w : s.1 l ≠ pp => hpo (s.1 l) pp a (by omega) w
    by_cases w : s.1 l = pp
    · exact w
    · exact absurd (c w) (by omega)
set_option maxRecDepth 100000 in
set_option maxHeartbeats 4000000 in
theorem p_comes {d : Nat} {m ml : Nat → Nat → Int} {p L B n : Nat} {s : zDS} (hH : zMH m p L B n s) (hM : zDm m ml p L B n s) (hn1 : n < 12) {pp : Nat} (hpp : pp < p) {K : Int} (hK11 : m 104 11 = K) (hK : 0 ≤ K ∧ K ≤ 3) : zQ (d + 5) 127 [.inr (.inr (some 104)), .inl (pp : Int)] (zs m ml) (fun r' σ' => ∃ (l : Nat) (tr : Int) (g gl : Nat → Nat → Int), zPkS m L B K n pp s l tr ∧ r' = some (.inl (l : Int)) ∧ σ' = zs g gl ∧ zDm g gl p L B (n + 1) (zUp m K n pp l tr s) ∧ (∀ c : Nat, c < 104 → g c = m c) ∧ (∀ c : Nat, (105 ≤ c ∧ c < 109) ∨ 118 ≤ c → g c = m c) ∧ (∀ j : Nat, j ≠ 14 → j ≠ 15 → g 104 j = m 104 j) ∧ ∀ c : Nat, c ≠ 104 → gl c = ml c) := by
  have hHc := hH
  obtain ⟨hL3, hp6, h3, hT, hF, hBs, hn12, hs6, hsp, hsu, htu, hpl, hdg, hpo⟩ := hHc
  have hMc := hM
  obtain ⟨m9, m10, m14, m15, mas, mrec, mfa, mrow, mtr⟩ := hMc
  refine zQ_of (Nat.le_of_ble_eq_true rfl) ?_
  show zH (d + 4) 127 (0, [some (.inr (.inr (some 104))), some (.inl (pp : Int)), none], [], (zs m ml)) _
  refine zH_go 7 (c' := (13, [some (.inr (.inr (some 104))), some (.inl (pp : Int)), none], [.inl (m 104 14), .inr (.inr (some 110)), .inr (.inr (some 109)), .inr (.inr (some 104))], (zs m ml))) rfl ?_
  rw [m14]
  refine zH_go 5 (c' := (24, [some (.inr (.inr (some 104))), some (.inl (pp : Int)), none], [.inl (m 104 15), .inl 512, .inr (.inr (some 117)), .inl s.2.2.1, .inr (.inr (some 110)), .inr (.inr (some 109)), .inr (.inr (some 104))], (zs m ml))) rfl ?_
  rw [m15]
  refine zH_go 2 (c' := (26, [some (.inr (.inr (some 104))), some (.inl (pp : Int)), none], [.inl (pp : Int), .inl (512 * (n : Int)), .inr (.inr (some 117)), .inl s.2.2.1, .inr (.inr (some 110)), .inr (.inr (some 109)), .inr (.inr (some 104))], (zs m ml))) rfl ?_
  have hrn : zRk m p L B (zpl2 s n pp) n (fun q => m 117 (512 * n + q)) := zRk_same (fun c _ _ => rfl) (fun j hj => by unfold zpl2; rw [if_neg (by omega)]; have := hpl j hj; exact ⟨rfl, by omega⟩) (fun q hq => rfl) (mrow n (Nat.le_refl n))
  refine zH_call (M' := 123) (as := [.inr (.inr (some 104)), .inr (.inr (some 109)), .inr (.inr (some 110)), .inl s.2.2.1, .inr (.inr (some 117)), .inl (512 * (n : Int)), .inl (pp : Int)]) (T := []) rfl (p_ch109117 (L := L) (p := p) (pp := pp) (sp := s.1) (B := B) (n := n) (fr := 512 * n) (pl := zpl2 s n pp) (K := K) hL3 hpp hp6 m9 (fun i hi => (mas i (by omega)).1) hsp hF hT.1 (fun l hl => by rw [(mas l (by omega)).2]; exact hsu l (by omega)) htu hT (by omega) hn12 (by unfold zpl2; exact if_pos rfl) hrn hBs (fun i hi => by unfold zpl2; exact (show (if i = n then pp else Int.toNat (s.2.2.2.2 0 i)) < p by by_cases q : i = n <;> first | (rw [if_pos q]; exact hpp) | (rw [if_neg q]; exact hpl i (by omega)))) hK hK11) (fun r' σ' pc => ?_)
  obtain ⟨l, tr, g, q1, rfl, rfl, f1, f2⟩ := pc
  have hPk : zPkS m L B K n pp s l tr := ⟨zPkR_lt hL3.1 htu.1 q1, zPkR_imp q1 (fun l hl => rfl) (fun l hl => by rw [(mas l (by omega)).2]) (fun l hl => rfl)⟩
  have hlL := hPk.1
  have g11 : g 104 11 = K := by rw [f1 104 (by decide)]; exact hK11
  have g14 : g 104 14 = s.2.2.1 := by rw [f1 104 (by decide)]; exact m14
  have g15 : g 104 15 = (n : Int) := by rw [f1 104 (by decide)]; exact m15
  have ga : g 109 l = ((s.1 l : Nat) : Int) := by rw [f1 109 (by decide)]; exact (mas l (by omega)).1
  have hsl := hsp l hlL
  have gF : g 108 (6 * s.1 l + pp) = m (12 + s.1 l) pp := by rw [f1 108 (by decide)]; exact hF _ _ hsl hpp
  show zH _ _ (29, [some (.inr (.inr (some 104))), some (.inl (pp : Int)), none], [.inl (l : Int)], (zs g (zup ml 104 2 (ml 104 2 + tr)))) _
  refine zH_go 5 (c' := (38, [some (.inr (.inr (some 104))), some (.inl (pp : Int)), some (.inl (l : Int))], [.inl (g 104 15), .inr (.inr (some 111))], (zs g (zup ml 104 2 (ml 104 2 + tr))))) rfl ?_
  rw [g15]
  refine zH_go 1 (c' := (39, [some (.inr (.inr (some 104))), some (.inl (pp : Int)), some (.inl (l : Int))], [.inl (pp : Int), .inl (n : Int), .inr (.inr (some 111))], (zs g (zup ml 104 2 (ml 104 2 + tr))))) rfl ?_
  refine zH_np (P := 0 ≤ (n : Int) ∧ (n : Int) < ((12 : Nat) : Int)) (c' := (40, [some (.inr (.inr (some 104))), some (.inl (pp : Int)), some (.inl (l : Int))], [], (zs (zup g 111 n (pp : Int)) (zup ml 104 2 (ml 104 2 + tr))))) rfl ⟨by omega, by omega⟩ ?_
  refine zH_go 4 (c' := (48, [some (.inr (.inr (some 104))), some (.inl (pp : Int)), some (.inl (l : Int))], [.inl (g 104 15), .inr (.inr (some 112))], (zs (zup g 111 n (pp : Int)) (zup ml 104 2 (ml 104 2 + tr))))) rfl ?_
  rw [g15]
  refine zH_go 1 (c' := (49, [some (.inr (.inr (some 104))), some (.inl (pp : Int)), some (.inl (l : Int))], [.inl (l : Int), .inl (n : Int), .inr (.inr (some 112))], (zs (zup g 111 n (pp : Int)) (zup ml 104 2 (ml 104 2 + tr))))) rfl ?_
  refine zH_np (P := 0 ≤ (n : Int) ∧ (n : Int) < ((12 : Nat) : Int)) (c' := (50, [some (.inr (.inr (some 104))), some (.inl (pp : Int)), some (.inl (l : Int))], [], (zs (zup (zup g 111 n (pp : Int)) 112 n (l : Int)) (zup ml 104 2 (ml 104 2 + tr))))) rfl ⟨by omega, by omega⟩ ?_
  refine zH_go 4 (c' := (58, [some (.inr (.inr (some 104))), some (.inl (pp : Int)), some (.inl (l : Int))], [.inl (g 104 15), .inr (.inr (some 113))], (zs (zup (zup g 111 n (pp : Int)) 112 n (l : Int)) (zup ml 104 2 (ml 104 2 + tr))))) rfl ?_
  rw [g15]
  refine zH_go 6 (c' := (69, [some (.inr (.inr (some 104))), some (.inl (pp : Int)), some (.inl (l : Int))], [.inl (l : Int), .inr (.inr (some 109)), .inl 6, .inr (.inr (some 108)), .inl (n : Int), .inr (.inr (some 113))], (zs (zup (zup g 111 n (pp : Int)) 112 n (l : Int)) (zup ml 104 2 (ml 104 2 + tr))))) rfl ?_
  refine zH_np (P := 0 ≤ (l : Int) ∧ (l : Int) < ((3 : Nat) : Int)) (c' := (70, [some (.inr (.inr (some 104))), some (.inl (pp : Int)), some (.inl (l : Int))], [.inl (g 109 l), .inl 6, .inr (.inr (some 108)), .inl (n : Int), .inr (.inr (some 113))], (zs (zup (zup g 111 n (pp : Int)) 112 n (l : Int)) (zup ml 104 2 (ml 104 2 + tr))))) rfl ⟨by omega, by omega⟩ ?_
  rw [ga]
  refine zH_go 3 (c' := (73, [some (.inr (.inr (some 104))), some (.inl (pp : Int)), some (.inl (l : Int))], [.inl ((6 * ((s.1 l : Nat) : Int)) + (pp : Int)), .inr (.inr (some 108)), .inl (n : Int), .inr (.inr (some 113))], (zs (zup (zup g 111 n (pp : Int)) 112 n (l : Int)) (zup ml 104 2 (ml 104 2 + tr))))) rfl ?_
  refine zH_np (P := 0 ≤ ((6 * ((s.1 l : Nat) : Int)) + (pp : Int)) ∧ ((6 * ((s.1 l : Nat) : Int)) + (pp : Int)) < ((36 : Nat) : Int)) (c' := (74, [some (.inr (.inr (some 104))), some (.inl (pp : Int)), some (.inl (l : Int))], [.inl (g 108 ((6 * (s.1 l)) + pp)), .inl (n : Int), .inr (.inr (some 113))], (zs (zup (zup g 111 n (pp : Int)) 112 n (l : Int)) (zup ml 104 2 (ml 104 2 + tr))))) rfl ⟨by omega, by omega⟩ ?_
  rw [gF]
  refine zH_np (P := 0 ≤ (n : Int) ∧ (n : Int) < ((12 : Nat) : Int)) (c' := (75, [some (.inr (.inr (some 104))), some (.inl (pp : Int)), some (.inl (l : Int))], [], (zs (zup (zup (zup g 111 n (pp : Int)) 112 n (l : Int)) 113 n (m (12 + s.1 l) pp)) (zup ml 104 2 (ml 104 2 + tr))))) rfl ⟨by omega, by omega⟩ ?_
  refine zH_go 4 (c' := (83, [some (.inr (.inr (some 104))), some (.inl (pp : Int)), some (.inl (l : Int))], [.inl (g 104 15), .inr (.inr (some 114))], (zs (zup (zup (zup g 111 n (pp : Int)) 112 n (l : Int)) 113 n (m (12 + s.1 l) pp)) (zup ml 104 2 (ml 104 2 + tr))))) rfl ?_
  rw [g15]
  refine zH_go 2 (c' := (87, [some (.inr (.inr (some 104))), some (.inl (pp : Int)), some (.inl (l : Int))], [.inl (g 104 11), .inl (n : Int), .inr (.inr (some 114))], (zs (zup (zup (zup g 111 n (pp : Int)) 112 n (l : Int)) 113 n (m (12 + s.1 l) pp)) (zup ml 104 2 (ml 104 2 + tr))))) rfl ?_
  rw [g11]
  refine zH_np (P := 0 ≤ (n : Int) ∧ (n : Int) < ((12 : Nat) : Int)) (c' := (88, [some (.inr (.inr (some 104))), some (.inl (pp : Int)), some (.inl (l : Int))], [], (zs (zup (zup (zup (zup g 111 n (pp : Int)) 112 n (l : Int)) 113 n (m (12 + s.1 l) pp)) 114 n K) (zup ml 104 2 (ml 104 2 + tr))))) rfl ⟨by omega, by omega⟩ ?_
  refine zH_go 4 (c' := (96, [some (.inr (.inr (some 104))), some (.inl (pp : Int)), some (.inl (l : Int))], [.inl (g 104 15), .inr (.inr (some 115))], (zs (zup (zup (zup (zup g 111 n (pp : Int)) 112 n (l : Int)) 113 n (m (12 + s.1 l) pp)) 114 n K) (zup ml 104 2 (ml 104 2 + tr))))) rfl ?_
  rw [g15]
  refine zH_go 3 (c' := (101, [some (.inr (.inr (some 104))), some (.inl (pp : Int)), some (.inl (l : Int))], [.inl (l : Int), .inr (.inr (some 109)), .inl (n : Int), .inr (.inr (some 115))], (zs (zup (zup (zup (zup g 111 n (pp : Int)) 112 n (l : Int)) 113 n (m (12 + s.1 l) pp)) 114 n K) (zup ml 104 2 (ml 104 2 + tr))))) rfl ?_
  refine zH_np (P := 0 ≤ (l : Int) ∧ (l : Int) < ((3 : Nat) : Int)) (c' := (102, [some (.inr (.inr (some 104))), some (.inl (pp : Int)), some (.inl (l : Int))], [.inl (g 109 l), .inl (n : Int), .inr (.inr (some 115))], (zs (zup (zup (zup (zup g 111 n (pp : Int)) 112 n (l : Int)) 113 n (m (12 + s.1 l) pp)) 114 n K) (zup ml 104 2 (ml 104 2 + tr))))) rfl ⟨by omega, by omega⟩ ?_
  rw [ga]
  refine zH_np (P := 0 ≤ (n : Int) ∧ (n : Int) < ((12 : Nat) : Int)) (c' := (103, [some (.inr (.inr (some 104))), some (.inl (pp : Int)), some (.inl (l : Int))], [], (zs (zup (zup (zup (zup (zup g 111 n (pp : Int)) 112 n (l : Int)) 113 n (m (12 + s.1 l) pp)) 114 n K) 115 n ((s.1 l : Nat) : Int)) (zup ml 104 2 (ml 104 2 + tr))))) rfl ⟨by omega, by omega⟩ ?_
  refine zH_go 4 (c' := (111, [some (.inr (.inr (some 104))), some (.inl (pp : Int)), some (.inl (l : Int))], [.inl (g 104 15), .inr (.inr (some 116))], (zs (zup (zup (zup (zup (zup g 111 n (pp : Int)) 112 n (l : Int)) 113 n (m (12 + s.1 l) pp)) 114 n K) 115 n ((s.1 l : Nat) : Int)) (zup ml 104 2 (ml 104 2 + tr))))) rfl ?_
  rw [g15]
  refine zH_go 2 (c' := (115, [some (.inr (.inr (some 104))), some (.inl (pp : Int)), some (.inl (l : Int))], [.inl (g 104 14), .inl (n : Int), .inr (.inr (some 116))], (zs (zup (zup (zup (zup (zup g 111 n (pp : Int)) 112 n (l : Int)) 113 n (m (12 + s.1 l) pp)) 114 n K) 115 n ((s.1 l : Nat) : Int)) (zup ml 104 2 (ml 104 2 + tr))))) rfl ?_
  rw [g14]
  refine zH_np (P := 0 ≤ (n : Int) ∧ (n : Int) < ((12 : Nat) : Int)) (c' := (116, [some (.inr (.inr (some 104))), some (.inl (pp : Int)), some (.inl (l : Int))], [], (zs (zup (zup (zup (zup (zup (zup g 111 n (pp : Int)) 112 n (l : Int)) 113 n (m (12 + s.1 l) pp)) 114 n K) 115 n ((s.1 l : Nat) : Int)) 116 n (s.2.2.1)) (zup ml 104 2 (ml 104 2 + tr))))) rfl ⟨by omega, by omega⟩ ?_
  obtain ⟨g2, e2⟩ : ∃ g2, g2 = (zup (zup (zup (zup (zup (zup g 111 n (pp : Int)) 112 n (l : Int)) 113 n (m (12 + s.1 l) pp)) 114 n K) 115 n ((s.1 l : Nat) : Int)) 116 n (s.2.2.1)) := ⟨_, rfl⟩
  rw [← e2]
  have k1 : ∀ c : Nat, c < 111 ∨ 117 ≤ c → g2 c = g c := fun c hc => by rw [e2]; funext q; rw [zup_ne (by omega), zup_ne (by omega), zup_ne (by omega), zup_ne (by omega), zup_ne (by omega), zup_ne (by omega)]
  have kn : g2 111 n = (pp : Int) ∧ g2 112 n = (l : Int) ∧ g2 113 n = m (12 + s.1 l) pp ∧ g2 114 n = K ∧ g2 115 n = ((s.1 l : Nat) : Int) ∧ g2 116 n = s.2.2.1 := by rw [e2]; simp [zup_at]
  have ko : ∀ j : Nat, j ≠ n → g2 111 j = g 111 j ∧ g2 112 j = g 112 j ∧ g2 113 j = g 113 j ∧ g2 114 j = g 114 j ∧ g2 115 j = g 115 j ∧ g2 116 j = g 116 j := fun j hj => by rw [e2]; simp [zup_at, hj]
  have c11 : g2 104 11 = K := by rw [k1 104 (by decide)]; exact g11
  have c14 : g2 104 14 = s.2.2.1 := by rw [k1 104 (by decide)]; exact g14
  have c15 : g2 104 15 = (n : Int) := by rw [k1 104 (by decide)]; exact g15
  clear e2
  show zH _ _ (116, [some (.inr (.inr (some 104))), some (.inl (pp : Int)), some (.inl (l : Int))], [], (zs g2 (zup ml 104 2 (ml 104 2 + tr)))) _
  refine zH_go 3 (c' := (121, [some (.inr (.inr (some 104))), some (.inl (pp : Int)), some (.inl (l : Int))], [.inl (g2 104 11), .inr (.inr (some 104))], (zs g2 (zup ml 104 2 (ml 104 2 + tr))))) rfl ?_
  rw [c11]
  refine zH_go 1 (c' := (122, [some (.inr (.inr (some 104))), some (.inl (pp : Int)), some (.inl (l : Int))], [.inl 2, .inl K, .inr (.inr (some 104))], (zs g2 (zup ml 104 2 (ml 104 2 + tr))))) rfl ?_
  refine zH_mg (F := fun mq => (145, [some (.inr (.inr (some 104))), some (.inl (pp : Int)), some (.inl (l : Int))], [.inl mq, .inr (.inr (some 104))], (zs g2 (zup ml 104 2 (ml 104 2 + tr))))) (R := fun mq => mq = (if K = 2 ∧ 0 < m (12 + s.1 l) pp then (l : Int) else s.2.2.1)) (fun m_1 fm_1 => ?_) (fun kk => ?_)
  · replace fm_1 : m_1 = (if K = 2 ∧ 0 < m (12 + s.1 l) pp then (l : Int) else s.2.2.1) := fm_1
    show zH _ _ (145, [some (.inr (.inr (some 104))), some (.inl (pp : Int)), some (.inl (l : Int))], [.inl m_1, .inr (.inr (some 104))], (zs g2 (zup ml 104 2 (ml 104 2 + tr)))) _
    refine zH_go 7 (c' := (160, [some (.inr (.inr (some 104))), some (.inl (pp : Int)), some (.inl (l : Int))], [.inl (g2 104 15), .inl 512, .inr (.inr (some 117)), .inr (.inr (some 104))], (zs (zup g2 104 14 m_1) (zup ml 104 2 (ml 104 2 + tr))))) rfl ?_
    rw [c15]
    refine zH_go 2 (c' := (162, [some (.inr (.inr (some 104))), some (.inl (pp : Int)), some (.inl (l : Int))], [.inl (pp : Int), .inl (512 * (n : Int)), .inr (.inr (some 117)), .inr (.inr (some 104))], (zs (zup g2 104 14 m_1) (zup ml 104 2 (ml 104 2 + tr))))) rfl ?_
    obtain ⟨g3, e3⟩ : ∃ g3, g3 = (zup g2 104 14 m_1) := ⟨_, rfl⟩
    rw [← e3]
    have k3 : ∀ c : Nat, c ≠ 104 → g3 c = g2 c := fun c hc => by rw [e3]; funext q; exact zup_ne hc
    have k34 : ∀ j : Nat, j ≠ 14 → g3 104 j = g2 104 j := fun j hj => by rw [e3]; exact zup_k hj
    have k314 : g3 104 14 = m_1 := by rw [e3]; exact zup_eq
    clear e3
    have t3 : ∀ c : Nat, c < 104 → g3 c = m c := fun c hc => by rw [k3 c (by omega), k1 c (by omega), f1 c (by omega)]
    have r3 : ∀ j : Nat, j < 512 * n + 512 → g3 117 j = m 117 j := fun j hj => by rw [k3 117 (by decide), k1 117 (by decide), f2 j (Or.inl hj)]
    have hrn0 := mrow n (Nat.le_refl n)
    have hT3 := zTD_same (g := g3) hp6 hT (fun c hc => t3 c (by omega))
    have hF3 : zFE g3 p := fun i j hi hj => by rw [k3 108 (by decide), k1 108 (by decide), f1 108 (by decide), t3 (12 + i) (by omega)]; exact hF i j hi hj
    refine zH_call (M' := 116) (as := [.inr (.inr (some 104)), .inr (.inr (some 117)), .inl (512 * (n : Int)), .inl (pp : Int)]) (T := []) rfl (p_serves117 (h := g3) (L := L) (fr := 512 * n) (by omega) hL3 hp6 hpp (by rw [k34 9 (by decide), k1 104 (by decide), f1 104 (by decide)]; exact m9) hF3 hT3 (fun j hj => by rw [r3 _ (by omega)]; exact hrn0.1 j hj) (fun j hj hr => by rw [r3 _ (by omega)] at hr ⊢; have := hrn0.2.1 j hj hr; dsimp only at this; exact ⟨this.1, by omega⟩)) (fun r' σ' ps => ?_)
    obtain ⟨rfl, g4, rfl, s1, s2, s3⟩ := ps
    have q15 : g4 104 15 = (n : Int) := by rw [s1 104 (by decide), k34 15 (by decide)]; exact c15
    have q113 : g4 113 n = m (12 + s.1 l) pp := by rw [s1 113 (by decide), k3 113 (by decide)]; exact kn.2.2.1
    have q110 : g4 110 l = s.2.1 l := by rw [s1 110 (by decide), k3 110 (by decide), k1 110 (by decide), f1 110 (by decide)]; exact (mas l (by omega)).2
    show zH _ _ (165, [some (.inr (.inr (some 104))), some (.inl (pp : Int)), some (.inl (l : Int))], [], (zs g4 (zup ml 104 2 (ml 104 2 + tr)))) _
    refine zH_go 4 (c' := (171, [some (.inr (.inr (some 104))), some (.inl (pp : Int)), some (.inl (l : Int))], [.inl (l : Int), .inr (.inr (some 110)), .inl (l : Int), .inr (.inr (some 110))], (zs g4 (zup ml 104 2 (ml 104 2 + tr))))) rfl ?_
    refine zH_np (P := 0 ≤ (l : Int) ∧ (l : Int) < ((3 : Nat) : Int)) (c' := (172, [some (.inr (.inr (some 104))), some (.inl (pp : Int)), some (.inl (l : Int))], [.inl (g4 110 l), .inl (l : Int), .inr (.inr (some 110))], (zs g4 (zup ml 104 2 (ml 104 2 + tr))))) rfl ⟨by omega, by omega⟩ ?_
    rw [q110]
    refine zH_go 4 (c' := (180, [some (.inr (.inr (some 104))), some (.inl (pp : Int)), some (.inl (l : Int))], [.inl (g4 104 15), .inr (.inr (some 113)), .inl (s.2.1 l), .inl (l : Int), .inr (.inr (some 110))], (zs g4 (zup ml 104 2 (ml 104 2 + tr))))) rfl ?_
    rw [q15]
    refine zH_np (P := 0 ≤ (n : Int) ∧ (n : Int) < ((12 : Nat) : Int)) (c' := (181, [some (.inr (.inr (some 104))), some (.inl (pp : Int)), some (.inl (l : Int))], [.inl (g4 113 n), .inl (s.2.1 l), .inl (l : Int), .inr (.inr (some 110))], (zs g4 (zup ml 104 2 (ml 104 2 + tr))))) rfl ⟨by omega, by omega⟩ ?_
    rw [q113]
    refine zH_go 1 (c' := (182, [some (.inr (.inr (some 104))), some (.inl (pp : Int)), some (.inl (l : Int))], [.inl ((s.2.1 l) + (m (12 + s.1 l) pp)), .inl (l : Int), .inr (.inr (some 110))], (zs g4 (zup ml 104 2 (ml 104 2 + tr))))) rfl ?_
    refine zH_np (P := 0 ≤ (l : Int) ∧ (l : Int) < ((3 : Nat) : Int)) (c' := (183, [some (.inr (.inr (some 104))), some (.inl (pp : Int)), some (.inl (l : Int))], [], (zs (zup g4 110 l ((s.2.1 l) + (m (12 + s.1 l) pp))) (zup ml 104 2 (ml 104 2 + tr))))) rfl ⟨by omega, by omega⟩ ?_
    refine zH_go 4 (c' := (189, [some (.inr (.inr (some 104))), some (.inl (pp : Int)), some (.inl (l : Int))], [.inl (pp : Int), .inl (l : Int), .inr (.inr (some 109))], (zs (zup g4 110 l ((s.2.1 l) + (m (12 + s.1 l) pp))) (zup ml 104 2 (ml 104 2 + tr))))) rfl ?_
    refine zH_np (P := 0 ≤ (l : Int) ∧ (l : Int) < ((3 : Nat) : Int)) (c' := (190, [some (.inr (.inr (some 104))), some (.inl (pp : Int)), some (.inl (l : Int))], [], (zs (zup (zup g4 110 l ((s.2.1 l) + (m (12 + s.1 l) pp))) 109 l (pp : Int)) (zup ml 104 2 (ml 104 2 + tr))))) rfl ⟨by omega, by omega⟩ ?_
    refine zH_go 3 (c' := (195, [some (.inr (.inr (some 104))), some (.inl (pp : Int)), some (.inl (l : Int))], [.inl (g4 104 15), .inr (.inr (some 104))], (zs (zup (zup g4 110 l ((s.2.1 l) + (m (12 + s.1 l) pp))) 109 l (pp : Int)) (zup ml 104 2 (ml 104 2 + tr))))) rfl ?_
    rw [q15]
    refine zH_go 4 (c' := (201, [some (.inr (.inr (some 104))), some (.inl (pp : Int)), some (.inl (l : Int))], [.inl (l : Int)], (zs (zup (zup (zup g4 110 l ((s.2.1 l) + (m (12 + s.1 l) pp))) 109 l (pp : Int)) 104 15 ((n : Int) + 1)) (zup ml 104 2 (ml 104 2 + tr))))) rfl ?_
    refine zH_ret (v := some (.inl (l : Int))) rfl (fun q => absurd q (by decide)) ?_
    refine ⟨l, tr, _, _, hPk, rfl, rfl, ?_, fun c hc => ?_, fun c hc => ?_, fun j hj1 hj2 => ?_, fun c hc => by funext q; exact zup_ne hc⟩
    · have u1 : ∀ c : Nat, c ≠ 104 → c ≠ 109 → c ≠ 110 → (zup (zup (zup g4 110 l ((s.2.1 l) + (m (12 + s.1 l) pp))) 109 l (pp : Int)) 104 15 ((n : Int) + 1)) c = g4 c := fun c h1 h2 h3 => by funext q; rw [zup_ne h1, zup_ne h2, zup_ne h3]
      have t4 : ∀ c : Nat, c < 104 → (zup (zup (zup g4 110 l ((s.2.1 l) + (m (12 + s.1 l) pp))) 109 l (pp : Int)) 104 15 ((n : Int) + 1)) c = m c := fun c hc => by rw [u1 c (by omega) (by omega) (by omega), s1 c (by omega)]; exact t3 c hc
      have uj : ∀ j : Nat, j ≠ 15 → (zup (zup (zup g4 110 l ((s.2.1 l) + (m (12 + s.1 l) pp))) 109 l (pp : Int)) 104 15 ((n : Int) + 1)) 104 j = g3 104 j := fun j hj => by rw [zup_k hj, zup_ne (by decide), zup_ne (by decide), s1 104 (by decide)]
      have mj : ∀ j : Nat, j ≠ 14 → j ≠ 15 → (zup (zup (zup g4 110 l ((s.2.1 l) + (m (12 + s.1 l) pp))) 109 l (pp : Int)) 104 15 ((n : Int) + 1)) 104 j = m 104 j := fun j h1 h2 => by rw [uj j h2, k34 j h1, k1 104 (by decide), f1 104 (by decide)]
      refine ⟨by rw [mj 9 (by decide) (by decide)]; exact m9, by rw [mj 10 (by decide) (by decide)]; exact m10, by rw [uj 14 (by decide), k314, fm_1]; rfl, zup_eq, fun i hi => ?_, fun c j hc hj => ?_, fun i j hi hj => ?_, fun i hi => ?_, ?_⟩
      · unfold zUp
        dsimp only
        by_cases w : i = l
        · rw [w, if_pos rfl, if_pos rfl, zup_ne (by decide), zup_eq, zup_ne (by decide), zup_ne (by decide), zup_eq]
          exact ⟨rfl, rfl⟩
        · rw [if_neg w, if_neg w, zup_ne (by decide), zup_k w, zup_ne (by decide), zup_ne (by decide), zup_ne (by decide), zup_k w, s1 109 (by decide), s1 110 (by decide), k3 109 (by decide), k3 110 (by decide), k1 109 (by decide), k1 110 (by decide), f1 109 (by decide), f1 110 (by decide)]
          exact mas i hi
      · unfold zUp
        dsimp only
        rw [u1 (111 + c) (by omega) (by omega) (by omega), s1 (111 + c) (by omega), k3 (111 + c) (by omega)]
        by_cases w : j = n
        · rw [if_pos w, w]
          rcases (show c = 0 ∨ c = 1 ∨ c = 2 ∨ c = 3 ∨ c = 4 ∨ c = 5 by omega) with rfl | rfl | rfl | rfl | rfl | rfl
          · rw [if_pos rfl]; exact kn.1
          · rw [if_neg (by decide), if_pos rfl]; exact kn.2.1
          · rw [if_neg (by decide), if_neg (by decide), if_pos rfl]; exact kn.2.2.1
          · rw [if_neg (by decide), if_neg (by decide), if_neg (by decide), if_pos rfl]; exact kn.2.2.2.1
          · rw [if_neg (by decide), if_neg (by decide), if_neg (by decide), if_neg (by decide), if_pos rfl]; exact kn.2.2.2.2.1
          · rw [if_neg (by decide), if_neg (by decide), if_neg (by decide), if_neg (by decide), if_neg (by decide)]; exact kn.2.2.2.2.2
        · rw [if_neg w, ← mrec c j hc (by omega)]
          have o := ko j w
          have fo := f1 (111 + c) (by omega)
          rw [← fo]
          rcases (show c = 0 ∨ c = 1 ∨ c = 2 ∨ c = 3 ∨ c = 4 ∨ c = 5 by omega) with rfl | rfl | rfl | rfl | rfl | rfl
          · exact o.1
          · exact o.2.1
          · exact o.2.2.1
          · exact o.2.2.2.1
          · exact o.2.2.2.2.1
          · exact o.2.2.2.2.2
      · rw [u1 108 (by decide) (by decide) (by decide), s1 108 (by decide), k3 108 (by decide), k1 108 (by decide), f1 108 (by decide), mfa i j hi hj]
        unfold zFa
        rw [t4 (12 + i) (by omega)]
      · have hcs : ∀ c : Nat, 12 ≤ c → c < 20 → (zup (zup (zup g4 110 l ((s.2.1 l) + (m (12 + s.1 l) pp))) 109 l (pp : Int)) 104 15 ((n : Int) + 1)) c = m c := fun c c1 c2 => t4 c (by omega)
        have hplu : ∀ j : Nat, j < n → Int.toNat ((zUp m K n pp l tr s).2.2.2.2 0 j) = Int.toNat (s.2.2.2.2 0 j) := fun j hj => by unfold zUp; dsimp only; rw [if_neg (by omega)]
        by_cases w : i = n + 1
        · rw [w]
          have hst := zRk_step (n := n) (ρ' := fun t => g4 117 (512 * n + 512 + t)) hL3 hp6 hT (by omega) (by unfold zpl2; rw [if_pos rfl]; exact hpp) hrn (zNxI_same (h := g3) (ρ := fun q => g3 117 (512 * n + q)) (fun c c1 c2 => (t3 c (by omega)).symm) (fun t ht => (r3 _ (by omega)).symm) (fun t ht => rfl) (fun s' l' h1 h2 => zwd_lt s' h1 l' (by omega) _ (by unfold zpl2; rw [if_pos rfl]; omega)) (by unfold zpl2; rw [if_pos rfl]; exact s3))
          refine zRk_same hcs (fun j hj => ?_) (fun q hq => ?_) hst
          · unfold zpl2
            by_cases z : j = n
            · rw [z, if_pos rfl]
              have : Int.toNat ((zUp m K n pp l tr s).2.2.2.2 0 n) = pp := by unfold zUp; dsimp only; rw [if_pos rfl, if_pos rfl]; rfl
              rw [this]
              exact ⟨rfl, by omega⟩
            · rw [if_neg z, hplu j (by omega)]
              exact ⟨rfl, by have := hpl j (by omega); omega⟩
          · rw [u1 117 (by decide) (by decide) (by decide)]
            show g4 117 (512 * (n + 1) + q) = g4 117 (512 * n + 512 + q)
            rw [show 512 * (n + 1) + q = 512 * n + 512 + q by omega]
        · refine zRk_same hcs (fun j hj => ?_) (fun q hq => ?_) (mrow i (by omega))
          · rw [hplu j (by omega)]
            exact ⟨rfl, by have := hpl j (by omega); omega⟩
          · rw [u1 117 (by decide) (by decide) (by decide), s2 _ (Or.inl (by omega))]
            exact r3 _ (by omega)
      · unfold zUp
        dsimp only
        rw [zup_eq, mtr]
    · funext q; rw [zup_ne (by omega), zup_ne (by omega), zup_ne (by omega), s1 c (by omega)]; exact congrFun (t3 c hc) q
    · funext q; rw [zup_ne (by omega), zup_ne (by omega), zup_ne (by omega), s1 c (by omega), k3 c (by omega), k1 c (by omega), f1 c (by omega)]
    · rw [zup_k hj2, zup_ne (by decide), zup_ne (by decide), s1 104 (by decide), k34 j hj1, k1 104 (by decide), f1 104 (by decide)]
  · refine zH_br (x := K) (y := 2) (k := .ne) (c1 := (141, [some (.inr (.inr (some 104))), some (.inl (pp : Int)), some (.inl (l : Int))], [.inr (.inr (some 104))], (zs g2 (zup ml 104 2 (ml 104 2 + tr))))) (c2 := (125, [some (.inr (.inr (some 104))), some (.inl (pp : Int)), some (.inl (l : Int))], [.inr (.inr (some 104))], (zs g2 (zup ml 104 2 (ml 104 2 + tr))))) rfl (by first | assumption | (unfold zr; omega)) ⟨by decide, by decide⟩ (fun (b_2 : ¬ K = 2) => ?_) (fun (b_2 : ¬ (¬ K = 2)) => ?_)
    · refine zH_go 2 (c' := (145, [some (.inr (.inr (some 104))), some (.inl (pp : Int)), some (.inl (l : Int))], [.inl (g2 104 14), .inr (.inr (some 104))], (zs g2 (zup ml 104 2 (ml 104 2 + tr))))) rfl ?_
      rw [c14]
      refine kk (s.2.2.1) ?_
      show s.2.2.1 = (if K = 2 ∧ 0 < m (12 + s.1 l) pp then (l : Int) else s.2.2.1)
      rw [if_neg (fun q => by first | exact absurd q.1 (by assumption) | exact absurd q.2 ((zCov_far hH hpp q.1 hPk).mp (by assumption)))]
    · refine zH_go 4 (c' := (131, [some (.inr (.inr (some 104))), some (.inl (pp : Int)), some (.inl (l : Int))], [.inl (pp : Int), .inr (.inr (some 109)), .inr (.inr (some 104)), .inr (.inr (some 104))], (zs g2 (zup ml 104 2 (ml 104 2 + tr))))) rfl ?_
      refine zH_call (M' := 121) (as := [.inr (.inr (some 104)), .inr (.inr (some 109)), .inl (pp : Int)]) (T := [.inr (.inr (some 104))]) rfl (p_thO109 (h := g2) (L := L) (p := p) (sp := s.1) hL3 hpp hp6 (by rw [k1 104 (by decide), f1 104 (by decide)]; exact m9) (fun i hi => by rw [k1 109 (by decide), f1 109 (by decide)]; exact (mas i (by omega)).1) hsp (fun i j hi hj => by rw [k1 108 (by decide), f1 108 (by decide), k1 (12 + i) (by omega), f1 (12 + i) (by omega)]; exact hF i j hi hj) (fun i j hi hj => by rw [k1 (12 + i) (by omega), f1 (12 + i) (by omega), k1 (5 + i) (by omega), f1 (5 + i) (by omega)]; exact hT.1 i j hi hj)) (fun r σ' p_3 => ?_)
      rcases p_3 with ⟨rfl, b_4, rfl⟩ | ⟨rfl, b_4, rfl⟩
      · show zH _ _ (134, [some (.inr (.inr (some 104))), some (.inl (pp : Int)), some (.inl (l : Int))], [.inl 1, .inr (.inr (some 104))], (zs g2 (zup ml 104 2 (ml 104 2 + tr)))) _
        refine zH_bt (x := 1) (y := 0) (k := .ne) (c1 := (141, [some (.inr (.inr (some 104))), some (.inl (pp : Int)), some (.inl (l : Int))], [.inr (.inr (some 104))], (zs g2 (zup ml 104 2 (ml 104 2 + tr))))) (c2 := (137, [some (.inr (.inr (some 104))), some (.inl (pp : Int)), some (.inl (l : Int))], [.inr (.inr (some 104))], (zs g2 (zup ml 104 2 (ml 104 2 + tr))))) rfl ⟨by decide, by decide⟩ ⟨by decide, by decide⟩ (by show ¬ 1 = 0; decide) ?_
        refine zH_go 2 (c' := (145, [some (.inr (.inr (some 104))), some (.inl (pp : Int)), some (.inl (l : Int))], [.inl (g2 104 14), .inr (.inr (some 104))], (zs g2 (zup ml 104 2 (ml 104 2 + tr))))) rfl ?_
        rw [c14]
        refine kk (s.2.2.1) ?_
        show s.2.2.1 = (if K = 2 ∧ 0 < m (12 + s.1 l) pp then (l : Int) else s.2.2.1)
        rw [if_neg (fun q => by first | exact absurd q.1 (by assumption) | exact absurd q.2 ((zCov_far hH hpp q.1 hPk).mp (by assumption)))]
      · show zH _ _ (134, [some (.inr (.inr (some 104))), some (.inl (pp : Int)), some (.inl (l : Int))], [.inl 0, .inr (.inr (some 104))], (zs g2 (zup ml 104 2 (ml 104 2 + tr)))) _
        refine zH_bf (x := 0) (y := 0) (k := .ne) (c1 := (141, [some (.inr (.inr (some 104))), some (.inl (pp : Int)), some (.inl (l : Int))], [.inr (.inr (some 104))], (zs g2 (zup ml 104 2 (ml 104 2 + tr))))) (c2 := (137, [some (.inr (.inr (some 104))), some (.inl (pp : Int)), some (.inl (l : Int))], [.inr (.inr (some 104))], (zs g2 (zup ml 104 2 (ml 104 2 + tr))))) rfl ⟨by decide, by decide⟩ ⟨by decide, by decide⟩ (by show ¬ (¬ 0 = 0); decide) ?_
        refine zH_go 2 (c' := (145, [some (.inr (.inr (some 104))), some (.inl (pp : Int)), some (.inl (l : Int))], [.inl (l : Int), .inr (.inr (some 104))], (zs g2 (zup ml 104 2 (ml 104 2 + tr))))) rfl ?_
        refine kk (l : Int) ?_
        show (l : Int) = (if K = 2 ∧ 0 < m (12 + s.1 l) pp then (l : Int) else s.2.2.1)
        rw [if_pos ⟨by omega, Classical.byContradiction (fun w => (by assumption : ¬ zCov L s.1 pp) ((zCov_far hH hpp (by omega) hPk).mpr w))⟩]
