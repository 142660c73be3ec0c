/-! LadderCalls: a day, by its calls. -/
/-- the PLACES of the CALLS that came -/
def zpl (h : Nat → Nat → Int) : Nat → Nat := fun j => Int.toNat (h 42 j)
/-- the least WORK of all -/
def zLow (h : Nat → Nat → Int) (p L B i : Nat) (v : Int) : Prop := (∀ X : Nat, zSb p L X = true → zLL X = X → v ≤ zWf h L B (zpl h) i X) ∧ ∃ X : Nat, zSb p L X = true ∧ v = zWf h L B (zpl h) i X
theorem zSI_has {h : Nat → Nat → Int} {p L : Nat} (hS : zSI h p L) {x : Int} : 0 ≤ (if 0 ≤ x ∧ x < 512 then h 20 x.toNat else -1) ↔ zStd (p : Int) L x := by
  obtain ⟨h1, h2, h3, h4, h5, h6, h7⟩ := hS
  by_cases q : 0 ≤ x ∧ x < 512
  · rw [if_pos q]
    obtain ⟨n, rfl⟩ := Int.eq_ofNat_of_zero_le q.1
    rw [zSb_iff, Int.toNat_natCast]
    cases e : zSb p L n with
    | true => exact ⟨fun _ => rfl, fun _ => (h5 n (by omega) e).1⟩
    | false =>
      have := h6 n (by omega) e
      exact ⟨fun w => by omega, fun w => absurd w (by decide)⟩
  · rw [if_neg q]
    constructor
    · intro w; omega
    · intro w
      exfalso
      have a := w.1
      have b := w.2.1
      have : ((8 ^ L : Nat) : Int) ≤ 512 := by
        rcases (show L = 1 ∨ L = 2 ∨ L = 3 by omega) with rfl | rfl | rfl <;> decide
      omega
theorem zpl_lt {h : Nat → Nat → Int} {p L B n : Nat} {sp : Nat → Nat} (hD : zDID h p L B n sp) {j : Nat} (hj : j < n) : zpl h j < p ∧ h 42 j = ((zpl h j : Nat) : Int) := by
  obtain ⟨hS, hT, hBs, hL, hn, hn2, hB, htu, hsp, hspL, hsu, hR, hW, hnk, hHE, hHz⟩ := hD
  have := (hR j hj).1
  unfold zpl
  omega
theorem zWork_D {h : Nat → Nat → Int} {p L B n i X : Nat} {sp : Nat → Nat} (hD : zDID h p L B n sp) (hi : i ≤ n) (hX : zSb p L X = true) : h (24 + i) (Int.toNat (h 20 X)) = zWf h L B (zpl h) i X := by
  have hD0 := hD
  obtain ⟨hS, hT, hBs, hL, hn, hn2, hB, htu, hsp, hspL, hsu, hR, hW, hnk, hHE, hHz⟩ := hD
  obtain ⟨k, k1, k2, k3, k4⟩ := hW
  rw [zWI_at hS ⟨k, k1, k2, k3, k4⟩ k1 (by omega) hX]
  refine zWf_same (fun c _ _ => rfl) i (fun j hj => ?_) X
  rw [hHE j (by omega)]
  have a := (zpl_lt hD0 (show j < n by omega)).1
  have := hS.2.1
  exact ⟨rfl, by unfold zpl at a; omega⟩
theorem zLow_D {h : Nat → Nat → Int} {p L B n i : Nat} {sp : Nat → Nat} {v : Int} (hD : zDID h p L B n sp) (hi : i ≤ n) (h1 : ∀ j : Nat, (j : Int) < h 18 2 → v ≤ h (24 + i) j) (h2 : ∃ j : Nat, (j : Int) < h 18 2 ∧ v = h (24 + i) j) : zLow h p L B i v := by
  have hS := hD.1
  obtain ⟨hL3, hp6, s1, s2, s3, s4, s5⟩ := hS
  refine ⟨fun X hX hl => ?_, ?_⟩
  · have a := s3 X (zSb_lt hL3.2 hX) hX
    have b := h1 (Int.toNat (h 20 X)) (by omega)
    rw [zWork_D hD hi hX] at b
    exact b
  · obtain ⟨j, j1, j2⟩ := h2
    obtain ⟨X, x1, x2, x3, x4, x5⟩ := s5 j j1
    have := zWork_D hD hi x2
    rw [x5, Int.toNat_natCast] at this
    exact ⟨X, x2, by rw [j2, this]⟩
theorem zSum_0 {h : Nat → Nat → Int} {GO WA l L : Nat} (hl : L ≤ l) : ∀ n : Nat, (∀ j : Nat, j < n → 0 ≤ h GO j ∧ h GO j < (L : Int)) → zSum h GO WA n l = 0 := by
  intro n
  induction n with
  | zero => intro _; rfl
  | succ n ih =>
    intro hw
    have a := ih (fun j hj => hw j (by omega))
    have b := hw n (by omega)
    have e : zSum h GO WA (n + 1) l = zSum h GO WA n l + (if h GO n = (l : Int) then h WA n else 0) := rfl
    rw [e, a, if_neg (by omega)]
    rfl
theorem zDI_startD {h g g2 : Nat → Nat → Int} {p L B : Nat} (hS : zSI g p L) (hT : zTD g p) (hBs : zSb p L B = true) (hz : ∀ j : Nat, j < 13 → zr (g 38 j)) (hg : zStartP g g2 L B 21 40 41 22 24) : zDID g2 p L B 0 (fun i => zdg B i) := by
  obtain ⟨f1, f3, f5, f4, f7, f6, fs, fu, fW, fR⟩ := hg
  have hL3 := hS.1
  have hp6 := hS.2.1
  have hBl := zSb_lt hL3.2 hBs
  have hd : ∀ i : Nat, i < 3 → zdg B i < 6 := fun i hi => by
    by_cases q : i < L
    · have := zSb_dg hBs q; omega
    · have a := (zdg_hi B hBl L (by omega)).mp (by
        unfold zSb at hBs
        rw [Bool.and_eq_true, decide_eq_true_eq] at hBs
        exact hBs.1) i hi (by omega)
      omega
  have fr : ∀ c : Nat, c ≠ 21 → c ≠ 40 → c ≠ 41 → c ≠ 22 → c ≠ 24 → g2 c = g c := f1
  have e18 := fr 18 (by decide) (by decide) (by decide) (by decide) (by decide)
  have e19 := fr 19 (by decide) (by decide) (by decide) (by decide) (by decide)
  have e38 := fr 38 (by decide) (by decide) (by decide) (by decide) (by decide)
  refine ⟨zSI_same hS e18 e19 (fr 20 (by decide) (by decide) (by decide) (by decide) (by decide)), zTD_same hp6 hT (fun c hc => fr c (by omega) (by omega) (by omega) (by omega) (by omega)), hBs, f3, f4, by decide, f5, by rw [f6]; omega, fun i hi => ⟨fs i hi, hd i hi⟩, fun i hi => zSb_dg hBs hi, fun l hl => fu l hl, fun j hj => absurd hj (Nat.not_lt_zero j), ⟨0, fW, by decide, fun i hi => absurd hi (Nat.not_lt_zero i), fun i hi s hs => ?_⟩, by rw [fW]; exact Int.le_refl 0, fun j hj => absurd hj (Nat.not_lt_zero j), fun j hj => by rw [e38]; exact hz j hj⟩
  obtain rfl : i = 0 := by omega
  rw [e18] at hs
  rw [e19]
  show g2 24 s = zMv g2 L B _
  rw [fR s hs]
  exact (zMv_same (fun c h1 h2 => fr c (by omega) (by omega) (by omega) (by omega) (by omega))).symm
theorem zDI_backD {h g : Nat → Nat → Int} {p L B n l : Nat} {sp : Nat → Nat} (hD : zDID h p L B (n + 1) sp) (hl : h 43 n = (l : Int)) (hg : zBackP h g n l 21 40 41 44 46 47) : zDID g p L B n (fun i => if i = l then Int.toNat (h 46 n) else sp i) := by
  obtain ⟨hS, hT, hBs, hL, hn, hn2, hB, htu, hsp, hspL, hsu, hR, hW, hnk, hHE, hHz⟩ := hD
  obtain ⟨f1, f6, f4, fj, ⟨fu, fs⟩, fno⟩ := hg
  have hp6 := hS.2.1
  have fr : ∀ c : Nat, c ≠ 21 → c ≠ 40 → c ≠ 41 → g c = h c := f1
  have rn := hR n (by omega)
  have hlL : l < L := by omega
  refine ⟨zSI_same hS (fr 18 (by decide) (by decide) (by decide)) (fr 19 (by decide) (by decide) (by decide)) (fr 20 (by decide) (by decide) (by decide)), zTD_same hp6 hT (fun c hc => fr c (by omega) (by omega) (by omega)), hBs, by rw [fj 3 (by decide) (by decide)]; exact hL, f4, by omega, by rw [fj 5 (by decide) (by decide)]; exact hB, by rw [f6]; exact rn.2.2.2.2.2, fun i hi => ?_, fun i hi => ?_, fun q hq => ?_, fun j hj => ?_, zWI_same (fr 22 (by decide) (by decide) (by decide)) (fr 38 (by decide) (by decide) (by decide)) (fun i hi => fr (24 + i) (by omega) (by omega) (by omega)) (fun c h1 h2 => fr c (by omega) (by omega) (by omega)) hp6 hW, by rw [fr 22 (by decide) (by decide) (by decide)]; omega, fun j hj => ?_, fun j hj => by rw [fr 38 (by decide) (by decide) (by decide)]; exact hHz j hj⟩
  · dsimp only
    by_cases q : i = l
    · subst q
      rw [fs, if_pos rfl]
      omega
    · rw [(fno i q).2, if_neg q]; exact hsp i hi
  · dsimp only
    by_cases q : i = l
    · rw [if_pos q]; omega
    · rw [if_neg q]; exact hspL i hi
  · have e : zSum h 43 44 (n + 1) q = zSum h 43 44 n q + (if h 43 n = (q : Int) then h 44 n else 0) := rfl
    have s := hsu q hq
    rw [e] at s
    rw [zSum_same (g := g) (h := h) n (fun j hj => ⟨by rw [fr 43 (by decide) (by decide) (by decide)], by rw [fr 44 (by decide) (by decide) (by decide)]⟩)]
    by_cases w : q = l
    · subst w
      rw [if_pos hl] at s
      rw [fu]; omega
    · rw [if_neg (by omega)] at s
      rw [(fno q w).1]; omega
  · rw [fr 42 (by decide) (by decide) (by decide), fr 43 (by decide) (by decide) (by decide), fr 44 (by decide) (by decide) (by decide), fr 45 (by decide) (by decide) (by decide), fr 46 (by decide) (by decide) (by decide), fr 47 (by decide) (by decide) (by decide)]
    exact hR j (by omega)
  · rw [fr 38 (by decide) (by decide) (by decide), fr 42 (by decide) (by decide) (by decide)]
    exact hHE j (by omega)
set_option maxRecDepth 100000 in
set_option maxHeartbeats 4000000 in
theorem p_road {d : Nat} {h hl : Nat → Nat → Int} {a b len : Int} (ha : zr a) (hb : zr b) (hlen : zr len) (hon : zr (h 21 3)) {p r : Nat} (hW : zTown h p r) : zQ (d + 3) 63 [.inr (.inr (some 2)), .inl a, .inl b, .inl len] (zs h hl) (fun r' σ' => (∃ x : Int, ¬ x = 0 ∧ zNoRd h a b len x ∧ r' = some (.inl x) ∧ σ' = zs h hl) ∨ (zNoRd h a b len 0 ∧ zRoadP h hl (Int.toNat a) (Int.toNat b) len r' σ')) := by
  have hWc := hW
  obtain ⟨hp6, hr15, h30, h31, hp3, hr4, hMe, hTB, hCn, hPo, hRd, hLk, hGr⟩ := hWc
  have hP : 0 ≤ h 3 0 ∧ h 3 0 ≤ 6 := by omega
  refine zQ_of (Nat.le_of_ble_eq_true rfl) ?_
  show zH (d + 2) 63 (0, [some (.inr (.inr (some 2))), some (.inl a), some (.inl b), some (.inl len), none], [], (zs h hl)) _
  refine zH_go 4 (c' := (4, [some (.inr (.inr (some 2))), some (.inl a), some (.inl b), some (.inl len), none], [.inl len, .inl b, .inl a, .inr (.inr (some 2))], (zs h hl))) rfl ?_
  refine zH_call (M' := 66) (as := [.inr (.inr (some 2)), .inl a, .inl b, .inl len]) (T := []) rfl (p_noRoad ha hb hlen (by omega) hP hon) (fun r' σ' pm => ?_)
  obtain ⟨x, hx, rfl, rfl⟩ := pm
  have hxr : -3 ≤ x ∧ x ≤ 0 := by unfold zNoRd at hx; omega
  show zH _ _ (7, [some (.inr (.inr (some 2))), some (.inl a), some (.inl b), some (.inl len), none], [.inl x], (zs h hl)) _
  refine zH_go 2 (c' := (11, [some (.inr (.inr (some 2))), some (.inl a), some (.inl b), some (.inl len), some (.inl x)], [.inl x], (zs h hl))) rfl ?_
  refine zH_br (x := x) (y := 0) (k := .eq) (c1 := (19, [some (.inr (.inr (some 2))), some (.inl a), some (.inl b), some (.inl len), some (.inl x)], [], (zs h hl))) (c2 := (14, [some (.inr (.inr (some 2))), some (.inl a), some (.inl b), some (.inl len), some (.inl x)], [], (zs h hl))) rfl (by first | assumption | (unfold zr; omega)) ⟨by decide, by decide⟩ (fun (b_1 : x = 0) => ?_) (fun (b_1 : ¬ (x = 0)) => ?_)
  · obtain rfl : x = 0 := by assumption
    have hok : zRdOk h a b len ∧ ¬ 0 < h 21 3 ∧ h 3 1 < 15 := by unfold zNoRd at hx; unfold zRdOk zPl2 at hx ⊢; omega
    have hok2 := hok.1
    unfold zRdOk zPl2 at hok2
    obtain ⟨u, rfl⟩ := Int.eq_ofNat_of_zero_le (show 0 ≤ a by omega)
    obtain ⟨v, rfl⟩ := Int.eq_ofNat_of_zero_le (show 0 ≤ b by omega)
    show zH _ _ (19, [some (.inr (.inr (some 2))), some (.inl (u : Int)), some (.inl (v : Int)), some (.inl len), some (.inl 0)], [], (zs h hl)) _
    refine zH_go 5 (c' := (26, [some (.inr (.inr (some 2))), some (.inl (u : Int)), some (.inl (v : Int)), some (.inl len), some (.inl 0)], [.inl len, .inl (v : Int), .inl (u : Int), .inr (.inr (some 3))], (zs h hl))) rfl ?_
    refine zH_call (M' := 51) (as := [.inr (.inr (some 3)), .inl (u : Int), .inl (v : Int), .inl len]) (T := []) rfl (p_addRoad (a := u) (b := v) (by omega) (by omega) (by omega) (by omega) (by omega) hP hMe hTB) (fun r' σ' pm => ?_)
    obtain ⟨rfl, g, rfl, pm2⟩ := pm
    show zH _ _ (29, [some (.inr (.inr (some 2))), some (.inl (u : Int)), some (.inl (v : Int)), some (.inl len), some (.inl 0)], [.inl (h 3 1 + 1)], (zs g hl)) _
    refine zH_ret (v := some (.inl (h 3 1 + 1))) rfl (fun q => absurd q (by decide)) ?_
    exact Or.inr ⟨hx, by rw [Int.toNat_natCast, Int.toNat_natCast]; exact ⟨rfl, g, rfl, pm2⟩⟩
  · refine zH_go 2 (c' := (29, [some (.inr (.inr (some 2))), some (.inl a), some (.inl b), some (.inl len), some (.inl x)], [.inl x], (zs h hl))) rfl ?_
    refine zH_ret (v := some (.inl x)) rfl (fun q => absurd q (by decide)) ?_
    exact Or.inl ⟨x, by assumption, hx, rfl, rfl⟩
set_option maxRecDepth 100000 in
set_option maxHeartbeats 4000000 in
theorem p_way {d : Nat} {h hl : Nat → Nat → Int} {a b : Int} (ha : zr a) (hb : zr b) {p r : Nat} (hW : zTown h p r) : zQ (d + 3) 65 [.inr (.inr (some 2)), .inl a, .inl b] (zs h hl) (fun r' σ' => (¬ zPl2 h a b ∧ r' = some (.inl (-1)) ∧ σ' = zs h hl) ∨ (zPl2 h a b ∧ ∃ x : Int, zNext h (Int.toNat a) (Int.toNat b) x ∧ r' = some (.inl x) ∧ σ' = zs h hl)) := by
  have hWc := hW
  obtain ⟨hp6, hr15, h30, h31, hp3, hr4, hMe, hTB, hCn, hPo, hRd, hLk, hGr⟩ := hWc
  have hP : 0 ≤ h 3 0 ∧ h 3 0 ≤ 6 := by omega
  refine zQ_of (Nat.le_of_ble_eq_true rfl) ?_
  show zH (d + 2) 65 (0, [some (.inr (.inr (some 2))), some (.inl a), some (.inl b)], [], (zs h hl)) _
  refine zH_go 3 (c' := (5, [some (.inr (.inr (some 2))), some (.inl a), some (.inl b)], [.inl a, .inr (.inr (some 3))], (zs h hl))) rfl ?_
  refine zH_call (M' := 48) (as := [.inr (.inr (some 3)), .inl a]) (T := []) rfl (p_has (by first | assumption | (unfold zr; omega)) hP) (fun r σ' p_1 => ?_)
  rcases p_1 with ⟨rfl, b_2, rfl⟩ | ⟨rfl, b_2, rfl⟩
  · show zH _ _ (8, [some (.inr (.inr (some 2))), some (.inl a), some (.inl b)], [.inl 1], (zs h hl)) _
    refine zH_bf (x := 1) (y := 0) (k := .eq) (c1 := (22, [some (.inr (.inr (some 2))), some (.inl a), some (.inl b)], [], (zs h hl))) (c2 := (11, [some (.inr (.inr (some 2))), some (.inl a), some (.inl b)], [], (zs h hl))) rfl ⟨by decide, by decide⟩ ⟨by decide, by decide⟩ (by show ¬ (1 = 0); decide) ?_
    refine zH_go 3 (c' := (16, [some (.inr (.inr (some 2))), some (.inl a), some (.inl b)], [.inl b, .inr (.inr (some 3))], (zs h hl))) rfl ?_
    refine zH_call (M' := 48) (as := [.inr (.inr (some 3)), .inl b]) (T := []) rfl (p_has (by first | assumption | (unfold zr; omega)) hP) (fun r σ' p_3 => ?_)
    rcases p_3 with ⟨rfl, b_4, rfl⟩ | ⟨rfl, b_4, rfl⟩
    · show zH _ _ (19, [some (.inr (.inr (some 2))), some (.inl a), some (.inl b)], [.inl 1], (zs h hl)) _
      refine zH_bt (x := 1) (y := 0) (k := .ne) (c1 := (24, [some (.inr (.inr (some 2))), some (.inl a), some (.inl b)], [], (zs h hl))) (c2 := (22, [some (.inr (.inr (some 2))), some (.inl a), some (.inl b)], [], (zs h hl))) rfl ⟨by decide, by decide⟩ ⟨by decide, by decide⟩ (by show ¬ 1 = 0; decide) ?_
      obtain ⟨u, rfl⟩ := Int.eq_ofNat_of_zero_le (show 0 ≤ a by omega)
      obtain ⟨v, rfl⟩ := Int.eq_ofNat_of_zero_le (show 0 ≤ b by omega)
      show zH _ _ (24, [some (.inr (.inr (some 2))), some (.inl (u : Int)), some (.inl (v : Int))], [], (zs h hl)) _
      refine zH_go 4 (c' := (30, [some (.inr (.inr (some 2))), some (.inl (u : Int)), some (.inl (v : Int))], [.inl (v : Int), .inl (u : Int), .inr (.inr (some 3))], (zs h hl))) rfl ?_
      refine zH_call (M' := 53) (as := [.inr (.inr (some 3)), .inl (u : Int), .inl (v : Int)]) (T := []) rfl (p_next (a := u) (b := v) (by omega) (by omega) (by omega) hP hTB) (fun r' σ' pm => ?_)
      obtain ⟨x, hx, rfl, rfl⟩ := pm
      show zH _ _ (33, [some (.inr (.inr (some 2))), some (.inl (u : Int)), some (.inl (v : Int))], [.inl x], (zs h hl)) _
      refine zH_ret (v := some (.inl x)) rfl (fun q => absurd q (by decide)) ?_
      exact Or.inr ⟨by unfold zPl2; omega, x, by rw [Int.toNat_natCast, Int.toNat_natCast]; exact hx, rfl, rfl⟩
    · show zH _ _ (19, [some (.inr (.inr (some 2))), some (.inl a), some (.inl b)], [.inl 0], (zs h hl)) _
      refine zH_bf (x := 0) (y := 0) (k := .ne) (c1 := (24, [some (.inr (.inr (some 2))), some (.inl a), some (.inl b)], [], (zs h hl))) (c2 := (22, [some (.inr (.inr (some 2))), some (.inl a), some (.inl b)], [], (zs h hl))) rfl ⟨by decide, by decide⟩ ⟨by decide, by decide⟩ (by show ¬ (¬ 0 = 0); decide) ?_
      refine zH_go 1 (c' := (23, [some (.inr (.inr (some 2))), some (.inl a), some (.inl b)], [.inl (-1)], (zs h hl))) rfl ?_
      refine zH_ret (v := some (.inl (-1))) rfl (fun q => absurd q (by decide)) ?_
      exact Or.inl ⟨by unfold zPl2; omega, rfl, rfl⟩
  · show zH _ _ (8, [some (.inr (.inr (some 2))), some (.inl a), some (.inl b)], [.inl 0], (zs h hl)) _
    refine zH_bt (x := 0) (y := 0) (k := .eq) (c1 := (22, [some (.inr (.inr (some 2))), some (.inl a), some (.inl b)], [], (zs h hl))) (c2 := (11, [some (.inr (.inr (some 2))), some (.inl a), some (.inl b)], [], (zs h hl))) rfl ⟨by decide, by decide⟩ ⟨by decide, by decide⟩ (by show 0 = 0; decide) ?_
    refine zH_go 1 (c' := (23, [some (.inr (.inr (some 2))), some (.inl a), some (.inl b)], [.inl (-1)], (zs h hl))) rfl ?_
    refine zH_ret (v := some (.inl (-1))) rfl (fun q => absurd q (by decide)) ?_
    exact Or.inl ⟨by unfold zPl2; omega, rfl, rfl⟩
theorem zFin {h : Nat → Nat → Int} {p r : Nat} (hW : zTown h p r) (hn : ¬ zTorn h) {i j : Nat} (hi : i < p) (hj : j < p) : h (12 + i) j ≤ 1500 := by
  have hp6 := hW.1
  have z := zFa_spec hW (show i < 6 by omega) (show j < 6 by omega)
  have q : ¬ zFa h i j = 100000000 := fun q => hn ((zTorn_iff hW).mpr ⟨i, j, hi, hj, q⟩)
  omega
set_option maxRecDepth 100000 in
set_option maxHeartbeats 4000000 in
theorem p_begin {d : Nat} {h hl : Nat → Nat → Int} {n stand : Int} (hn : zr n) (hst : zr stand) (hO : zOr h) (hz : ∀ j : Nat, j < 13 → zr (h 38 j)) {p r : Nat} (hW : zTown h p r) : zQ (d + 5) 67 [.inr (.inr (some 2)), .inl n, .inl stand] (zs h hl) (fun r' σ' => (¬ (1 ≤ n ∧ n ≤ 3 ∧ zStd (h 3 0) (Int.toNat n) stand) ∧ r' = some (.inl (-1)) ∧ σ' = zs h hl) ∨ ((1 ≤ n ∧ n ≤ 3 ∧ zStd (h 3 0) (Int.toNat n) stand) ∧ zTorn h ∧ r' = some (.inl (-2)) ∧ σ' = zs h hl) ∨ ((1 ≤ n ∧ n ≤ 3 ∧ zStd (h 3 0) (Int.toNat n) stand) ∧ ¬ zTorn h ∧ r' = some (.inl 1) ∧ ∃ (L B : Nat) (g : Nat → Nat → Int), n = (L : Int) ∧ stand = (B : Int) ∧ σ' = zs g hl ∧ zDID g p L B 0 (fun i => zdg B i) ∧ ∀ c : Nat, c < 18 ∨ 47 < c → g c = h c)) := by
  have hWc := hW
  obtain ⟨hp6, hr15, h30, h31, hp3, hr4, hMe, hTB, hCn, hPo, hRd, hLk, hGr⟩ := hWc
  have hP : 0 ≤ h 3 0 ∧ h 3 0 ≤ 6 := by omega
  refine zQ_of (Nat.le_of_ble_eq_true rfl) ?_
  show zH (d + 4) 67 (0, [some (.inr (.inr (some 2))), some (.inl n), some (.inl stand)], [], (zs h hl)) _
  refine zH_go 2 (c' := (2, [some (.inr (.inr (some 2))), some (.inl n), some (.inl stand)], [.inl 1, .inl n], (zs h hl))) rfl ?_
  refine zH_br (x := n) (y := 1) (k := .lt) (c1 := (22, [some (.inr (.inr (some 2))), some (.inl n), some (.inl stand)], [], (zs h hl))) (c2 := (5, [some (.inr (.inr (some 2))), some (.inl n), some (.inl stand)], [], (zs h hl))) rfl (by first | assumption | (unfold zr; omega)) ⟨by decide, by decide⟩ (fun (b_1 : n < 1) => ?_) (fun (b_1 : ¬ (n < 1)) => ?_)
  · refine zH_go 1 (c' := (23, [some (.inr (.inr (some 2))), some (.inl n), some (.inl stand)], [.inl (-1)], (zs h hl))) rfl ?_
    refine zH_ret (v := some (.inl (-1))) rfl (fun q => absurd q (by decide)) ?_
    exact Or.inl ⟨fun q => by have := q.1; have := q.2.1; omega, rfl, rfl⟩
  · refine zH_go 2 (c' := (7, [some (.inr (.inr (some 2))), some (.inl n), some (.inl stand)], [.inl 3, .inl n], (zs h hl))) rfl ?_
    refine zH_br (x := n) (y := 3) (k := .gt) (c1 := (22, [some (.inr (.inr (some 2))), some (.inl n), some (.inl stand)], [], (zs h hl))) (c2 := (10, [some (.inr (.inr (some 2))), some (.inl n), some (.inl stand)], [], (zs h hl))) rfl (by first | assumption | (unfold zr; omega)) ⟨by decide, by decide⟩ (fun (b_2 : 3 < n) => ?_) (fun (b_2 : ¬ (3 < n)) => ?_)
    · refine zH_go 1 (c' := (23, [some (.inr (.inr (some 2))), some (.inl n), some (.inl stand)], [.inl (-1)], (zs h hl))) rfl ?_
      refine zH_ret (v := some (.inl (-1))) rfl (fun q => absurd q (by decide)) ?_
      exact Or.inl ⟨fun q => by have := q.1; have := q.2.1; omega, rfl, rfl⟩
    · obtain ⟨L, rfl⟩ := Int.eq_ofNat_of_zero_le (show 0 ≤ n by omega)
      show zH _ _ (10, [some (.inr (.inr (some 2))), some (.inl (L : Int)), some (.inl stand)], [], (zs h hl)) _
      refine zH_go 4 (c' := (16, [some (.inr (.inr (some 2))), some (.inl (L : Int)), some (.inl stand)], [.inl (L : Int), .inl stand, .inr (.inr (some 3))], (zs h hl))) rfl ?_
      refine zH_call (M' := 49) (as := [.inr (.inr (some 3)), .inl stand, .inl (L : Int)]) (T := []) rfl (p_hasAll (L := L) (by omega) hst hP) (fun r σ' p_3 => ?_)
      rcases p_3 with ⟨rfl, b_4, rfl⟩ | ⟨rfl, b_4, rfl⟩
      · show zH _ _ (19, [some (.inr (.inr (some 2))), some (.inl (L : Int)), some (.inl stand)], [.inl 1], (zs h hl)) _
        refine zH_bt (x := 1) (y := 0) (k := .ne) (c1 := (24, [some (.inr (.inr (some 2))), some (.inl (L : Int)), some (.inl stand)], [], (zs h hl))) (c2 := (22, [some (.inr (.inr (some 2))), some (.inl (L : Int)), some (.inl stand)], [], (zs h hl))) rfl ⟨by decide, by decide⟩ ⟨by decide, by decide⟩ (by show ¬ 1 = 0; decide) ?_
        refine zH_go 2 (c' := (28, [some (.inr (.inr (some 2))), some (.inl (L : Int)), some (.inl stand)], [.inr (.inr (some 3))], (zs h hl))) rfl ?_
        refine zH_call (M' := 54) (as := [.inr (.inr (some 3))]) (T := []) rfl (p_isTorn hP hTB) (fun r σ' p_5 => ?_)
        rcases p_5 with ⟨rfl, b_6, rfl⟩ | ⟨rfl, b_6, rfl⟩
        · show zH _ _ (31, [some (.inr (.inr (some 2))), some (.inl (L : Int)), some (.inl stand)], [.inl 1], (zs h hl)) _
          refine zH_bf (x := 1) (y := 0) (k := .eq) (c1 := (37, [some (.inr (.inr (some 2))), some (.inl (L : Int)), some (.inl stand)], [], (zs h hl))) (c2 := (34, [some (.inr (.inr (some 2))), some (.inl (L : Int)), some (.inl stand)], [], (zs h hl))) rfl ⟨by decide, by decide⟩ ⟨by decide, by decide⟩ (by show ¬ (1 = 0); decide) ?_
          refine zH_go 1 (c' := (36, [some (.inr (.inr (some 2))), some (.inl (L : Int)), some (.inl stand)], [.inl (-2)], (zs h hl))) rfl ?_
          refine zH_ret (v := some (.inl (-2))) rfl (fun q => absurd q (by decide)) ?_
          exact Or.inr (Or.inl ⟨⟨by omega, by omega, by rw [Int.toNat_natCast]; assumption⟩, by assumption, rfl, rfl⟩)
        · show zH _ _ (31, [some (.inr (.inr (some 2))), some (.inl (L : Int)), some (.inl stand)], [.inl 0], (zs h hl)) _
          refine zH_bt (x := 0) (y := 0) (k := .eq) (c1 := (37, [some (.inr (.inr (some 2))), some (.inl (L : Int)), some (.inl stand)], [], (zs h hl))) (c2 := (34, [some (.inr (.inr (some 2))), some (.inl (L : Int)), some (.inl stand)], [], (zs h hl))) rfl ⟨by decide, by decide⟩ ⟨by decide, by decide⟩ (by show 0 = 0; decide) ?_
          refine zH_go 3 (c' := (42, [some (.inr (.inr (some 2))), some (.inl (L : Int)), some (.inl stand)], [.inl (L : Int), .inr (.inr (some 18))], (zs h hl))) rfl ?_
          have hsd := (by assumption : zStd (h 3 0) L stand)
          have hsd0 := hsd.1
          refine zH_call (M' := 41) (as := [.inr (.inr (some 18)), .inl (L : Int)]) (T := []) rfl (p_layOut (p := p) (by omega) hp6 h30) (fun r' σ' pm => ?_)
          obtain ⟨rfl, g, hLI, rfl⟩ := pm
          obtain ⟨B, rfl⟩ := Int.eq_ofNat_of_zero_le hsd0
          have hL3 : 1 ≤ L ∧ L ≤ 3 := by omega
          have hSg := zSI_of hL3 hp6 hLI
          have fg := hLI.2.2.2.2.2
          have hBs : zSb p L B = true := zSb_iff.mp (by rw [← h30]; exact hsd)
          have hBl := zSb_lt hL3.2 hBs
          have hTg : zTD g p := zTD_same (h := h) hp6 ⟨hTB, fun i j hi hj => zFin hW (by assumption) hi hj, hO⟩ (fun c hc => fg c (by omega) (by omega) (by omega))
          show zH _ _ (45, [some (.inr (.inr (some 2))), some (.inl (L : Int)), some (.inl (B : Int))], [], (zs g hl)) _
          refine zH_go 3 (c' := (50, [some (.inr (.inr (some 2))), some (.inl (L : Int)), some (.inl (B : Int))], [.inl (B : Int), .inr (.inr (some 21))], (zs g hl))) rfl ?_
          refine zH_call (M' := 13) (as := [.inr (.inr (some 21)), .inl (B : Int)]) (T := []) rfl (p_startD hSg hTg hBs hBl) (fun r' σ' pm => ?_)
          obtain ⟨rfl, g2, rfl, hg2⟩ := pm
          have hD := zDI_startD (h := h) hSg hTg hBs (fun j hj => by rw [fg 38 (by decide) (by decide) (by decide)]; exact hz j hj) hg2
          show zH _ _ (53, [some (.inr (.inr (some 2))), some (.inl (L : Int)), some (.inl (B : Int))], [], (zs g2 hl)) _
          refine zH_go 1 (c' := (54, [some (.inr (.inr (some 2))), some (.inl (L : Int)), some (.inl (B : Int))], [.inl 1], (zs g2 hl))) rfl ?_
          refine zH_ret (v := some (.inl 1)) rfl (fun q => absurd q (by decide)) ?_
          exact Or.inr (Or.inr ⟨⟨by omega, by omega, by rw [Int.toNat_natCast]; assumption⟩, by assumption, rfl, L, B, g2, rfl, rfl, rfl, hD, fun c hc => by rw [hg2.1 c (by omega) (by omega) (by omega) (by omega) (by omega), fg c (by omega) (by omega) (by omega)]⟩)
      · show zH _ _ (19, [some (.inr (.inr (some 2))), some (.inl (L : Int)), some (.inl stand)], [.inl 0], (zs h hl)) _
        refine zH_bf (x := 0) (y := 0) (k := .ne) (c1 := (24, [some (.inr (.inr (some 2))), some (.inl (L : Int)), some (.inl stand)], [], (zs h hl))) (c2 := (22, [some (.inr (.inr (some 2))), some (.inl (L : Int)), some (.inl stand)], [], (zs h hl))) rfl ⟨by decide, by decide⟩ ⟨by decide, by decide⟩ (by show ¬ (¬ 0 = 0); decide) ?_
        refine zH_go 1 (c' := (23, [some (.inr (.inr (some 2))), some (.inl (L : Int)), some (.inl stand)], [.inl (-1)], (zs h hl))) rfl ?_
        refine zH_ret (v := some (.inl (-1))) rfl (fun q => absurd q (by decide)) ?_
        exact Or.inl ⟨fun q => (by assumption : ¬ zStd (h 3 0) L stand) (by have := q.2.2; rw [Int.toNat_natCast] at this; exact this), rfl, rfl⟩
