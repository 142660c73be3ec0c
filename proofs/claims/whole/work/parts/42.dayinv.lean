/-! A day as a whole: what stands between its CALLS; a CALL is SERVED. -/
def zSum (h : Nat → Nat → Int) (GO WA : Nat) : Nat → Nat → Int
  | 0, _ => 0
  | n + 1, l => zSum h GO WA n l + (if h GO n = (l : Int) then h WA n else 0)
theorem zSum_b {h : Nat → Nat → Int} {GO WA l : Nat} : ∀ n : Nat, (∀ j : Nat, j < n → 0 ≤ h WA j ∧ h WA j ≤ 1500) → 0 ≤ zSum h GO WA n l ∧ zSum h GO WA n l ≤ 1500 * (n : Int) := by
  intro n
  induction n with
  | zero => intro _; exact ⟨Int.le_refl 0, Int.le_refl 0⟩
  | succ n ih =>
    intro hw
    have a := ih (fun j hj => hw j (by omega))
    have b := hw n (by omega)
    have e : zSum h GO WA (n + 1) l = zSum h GO WA n l + (if h GO n = (l : Int) then h WA n else 0) := rfl
    rw [e]
    by_cases q : h GO n = (l : Int)
    · rw [if_pos q]; omega
    · rw [if_neg q]; omega
theorem zSum_same {h g : Nat → Nat → Int} {GO WA l : Nat} : ∀ n : Nat, (∀ j : Nat, j < n → g GO j = h GO j ∧ g WA j = h WA j) → zSum g GO WA n l = zSum h GO WA n l := by
  intro n
  induction n with
  | zero => intro _; rfl
  | succ n ih =>
    intro hs
    have e : ∀ f : Nat → Nat → Int, zSum f GO WA (n + 1) l = zSum f GO WA n l + (if f GO n = (l : Int) then f WA n else 0) := fun f => rfl
    rw [e, e, ih (fun j hj => hs j (by omega)), (hs n (by omega)).1, (hs n (by omega)).2]
/-- what is told of CALLS -/
def zDR (h : Nat → Nat → Int) (p L n PL GO WA KI SB TB : Nat) : Prop := ∀ j : Nat, j < n → (0 ≤ h PL j ∧ h PL j < (p : Int)) ∧ (0 ≤ h GO j ∧ h GO j < (L : Int)) ∧ (0 ≤ h WA j ∧ h WA j ≤ 1500) ∧ (0 ≤ h KI j ∧ h KI j ≤ 3) ∧ (0 ≤ h SB j ∧ h SB j < (p : Int)) ∧ -1 ≤ h TB j ∧ h TB j < (L : Int)
theorem zDR_same {h g : Nat → Nat → Int} {p L n PL GO WA KI SB TB : Nat} (hs : ∀ j : Nat, j < n → g PL j = h PL j ∧ g GO j = h GO j ∧ g WA j = h WA j ∧ g KI j = h KI j ∧ g SB j = h SB j ∧ g TB j = h TB j) (hR : zDR h p L n PL GO WA KI SB TB) : zDR g p L n PL GO WA KI SB TB := fun j hj => by
  obtain ⟨e1, e2, e3, e4, e5, e6⟩ := hs j hj
  rw [e1, e2, e3, e4, e5, e6]
  exact hR j hj
/-- what stands between CALLS -/
def zDI (h : Nat → Nat → Int) (p L B n : Nat) (sp : Nat → Nat) (DY SP SU PL GO WA KI SB TB W HE R nH : Nat) : Prop := zSI h p L ∧ zTD h p ∧ zSb p L B = true ∧ h DY 3 = (L : Int) ∧ h DY 4 = (n : Int) ∧ n < nH ∧ h DY 5 = (B : Int) ∧ (-1 ≤ h DY 6 ∧ h DY 6 < (L : Int)) ∧ (∀ i : Nat, i < 3 → h SP i = ((sp i : Nat) : Int) ∧ sp i < 6) ∧ (∀ i : Nat, i < L → sp i < p) ∧ (∀ l : Nat, l < 3 → h SU l = zSum h GO WA n l) ∧ zDR h p L n PL GO WA KI SB TB ∧ zWI h p L B W HE R nH ∧ (n : Int) ≤ h W 4 ∧ (∀ j : Nat, j < n → h HE j = h PL j) ∧ ∀ j : Nat, j < nH → zr (h HE j)
/-- the PLACES of the first n CALLS, and of one more -/
def zPl (h : Nat → Nat → Int) (PL n pp : Nat) : Nat → Nat := fun j => if j = n then pp else Int.toNat (h PL j)
/-- what SERVING changes -/
def zServeP (h hl g gl : Nat → Nat → Int) (L B n pp : Nat) (sp : Nat → Nat) (K : Int) (l : Nat) (tr : Int) (DY SP SU PL GO WA KI SB TB LO HI : Nat) : Prop := zPkR K L (zCov L sp pp) (fun l => h (12 + sp l) pp) (fun l => h SU l + h (12 + sp l) pp) (fun l => zWf h L B (zPl h PL n pp) (n + 1) (zwd (zStn L sp) l pp) + h (12 + sp l) pp) (h DY 6) l tr ∧ gl = zup hl 81 0 (hl 81 0 + tr) ∧ (∀ c : Nat, c < LO ∨ HI < c → g c = h c) ∧ (g PL n = (pp : Int) ∧ g GO n = (l : Int) ∧ g WA n = h (12 + sp l) pp ∧ g KI n = K ∧ g SB n = ((sp l : Nat) : Int) ∧ g TB n = h DY 6) ∧ (∀ j : Nat, j < n → g PL j = h PL j ∧ g GO j = h GO j ∧ g WA j = h WA j ∧ g KI j = h KI j ∧ g SB j = h SB j ∧ g TB j = h TB j) ∧ g DY 6 = (if K = 2 ∧ 0 < h (12 + sp l) pp then (l : Int) else h DY 6) ∧ (g SU l = h SU l + h (12 + sp l) pp ∧ g SP l = (pp : Int)) ∧ ∀ j : Nat, j ≠ l → g SU j = h SU j ∧ g SP j = h SP j
theorem zIs_imp {L : Nat} {f g : Nat → Int} {r : Nat} (h : zIs L f r) (he : ∀ l : Nat, l < L → f l = g l) : zIs L g r := by
  have hr := zIs_lt h
  rcases h with ⟨rfl, h⟩ | ⟨rfl, h⟩ | ⟨rfl, h⟩
  · exact Or.inl ⟨rfl, h⟩
  · have e0 := he 0 (by decide)
    have e1 := he 1 (by decide)
    rw [e0, e1] at h
    exact Or.inr (Or.inl ⟨rfl, h⟩)
  · have e0 := he 0 (by decide)
    have e1 := he 1 (by decide)
    have e2 := he 2 (by decide)
    rw [e0, e1, e2] at h
    exact Or.inr (Or.inr ⟨rfl, h⟩)
theorem zPkR_imp {k : Int} {L : Nat} {cov : Prop} {fn fe fa gn ge ga : Nat → Int} {t : Int} {l : Nat} {tr : Int} (h : zPkR k L cov fn fe fa t l tr) (hn : ∀ l : Nat, l < L → fn l = gn l) (he : ∀ l : Nat, l < L → fe l = ge l) (ha : ∀ l : Nat, l < L → fa l = ga l) : zPkR k L cov gn ge ga t l tr := by
  rcases h with ⟨h1, h2, h3⟩ | ⟨h1, h2, h3, h4⟩ | ⟨h1, h2, h3, h4⟩ | ⟨h1, h2, h3, h4⟩ | h5 | ⟨h1, h2, h3, h4⟩ | ⟨h1, h2, h3, h4, h5⟩ | ⟨h1, h2, h3, h4, h5⟩
  · exact Or.inl ⟨h1, zIs_imp h2 hn, h3⟩
  · exact Or.inr (Or.inl ⟨h1, h2, zIs_imp h3 hn, h4⟩)
  · exact Or.inr (Or.inr (Or.inl ⟨h1, h2, zIs_imp h3 he, h4⟩))
  · exact Or.inr (Or.inr (Or.inr (Or.inl ⟨h1, h2, zIs_imp h3 hn, h4⟩)))
  · exact Or.inr (Or.inr (Or.inr (Or.inr (Or.inl h5))))
  · exact Or.inr (Or.inr (Or.inr (Or.inr (Or.inr (Or.inl ⟨h1, h2, zIs_imp h3 hn, h4⟩)))))
  · exact Or.inr (Or.inr (Or.inr (Or.inr (Or.inr (Or.inr (Or.inl ⟨h1, h2, h3, zIs_imp h4 he, h5⟩))))))
  · exact Or.inr (Or.inr (Or.inr (Or.inr (Or.inr (Or.inr (Or.inr ⟨h1, h2, h3, zIs_imp h4 ha, h5⟩))))))
theorem zPkR_eq {k : Int} {L : Nat} {cov : Prop} {fn fe fa : Nat → Int} {t : Int} {l l' : Nat} {tr tr' : Int} (h : zPkR k L cov fn fe fa t l tr) (h' : zPkR k L cov fn fe fa t l' tr') : l = l' ∧ tr = tr' := by
  rcases h with ⟨h1, h2, h3⟩ | ⟨h1, h2, h3, h4⟩ | ⟨h1, h2, h3, h4⟩ | ⟨h1, h2, h3, h4⟩ | ⟨h1, h2, h3, h4⟩ | ⟨h1, h2, h3, h4⟩ | ⟨h1, h2, h3, h4, h5⟩ | ⟨h1, h2, h3, h4, h5⟩ <;> rcases h' with ⟨k1, k2, k3⟩ | ⟨k1, k2, k3, k4⟩ | ⟨k1, k2, k3, k4⟩ | ⟨k1, k2, k3, k4⟩ | ⟨k1, k2, k3, k4⟩ | ⟨k1, k2, k3, k4⟩ | ⟨k1, k2, k3, k4, k5⟩ | ⟨k1, k2, k3, k4, k5⟩ <;> first
    | (exfalso; omega)
    | exact absurd k2 h2
    | exact absurd h2 k2
    | exact absurd k3 h3
    | exact absurd h3 k3
    | exact ⟨zIs_eq h2 k2 (fun _ _ => rfl), h3.trans k3.symm⟩
    | exact ⟨zIs_eq h3 k3 (fun _ _ => rfl), h4.trans k4.symm⟩
    | exact ⟨zIs_eq h4 k4 (fun _ _ => rfl), h5.trans k5.symm⟩
    | exact ⟨by omega, h4.trans k4.symm⟩

abbrev zDID (h : Nat → Nat → Int) (p L B n : Nat) (sp : Nat → Nat) : Prop := zDI h p L B n sp 21 40 41 42 43 44 45 46 47 22 38 24 13
theorem zDI_hearD {h g : Nat → Nat → Int} {p L B n pp : Nat} {sp : Nat → Nat} (hD : zDID h p L B n sp) (hpp : pp < p) (hg : zHearP h g p L B n pp sp 21 39 22 38 24 13) : zDID g p L B n sp := by
  obtain ⟨hS, hT, hBs, hL, hn, hn2, hB, htu, hsp, hspL, hsu, hR, hW, hnk, hHE, hHz⟩ := hD
  obtain ⟨f1, f7, fj, ff, fW, fk, fHn, fHj⟩ := hg
  have hp6 := hS.2.1
  have fr : ∀ c : Nat, c ≠ 21 → c ≠ 39 → c ≠ 22 → c ≠ 38 → (c ≤ 24 ∨ 24 + 13 < c) → g c = h c := fun c h1 h2 h3 h4 h5 => f1 c h1 h2 h3 h4 (by omega)
  have e42 := fr 42 (by decide) (by decide) (by decide) (by decide) (by decide)
  have e43 := fr 43 (by decide) (by decide) (by decide) (by decide) (by decide)
  have e44 := fr 44 (by decide) (by decide) (by decide) (by decide) (by decide)
  have e45 := fr 45 (by decide) (by decide) (by decide) (by decide) (by decide)
  have e46 := fr 46 (by decide) (by decide) (by decide) (by decide) (by decide)
  have e47 := fr 47 (by decide) (by decide) (by decide) (by decide) (by decide)
  refine ⟨zSI_same hS (fr 18 (by decide) (by decide) (by decide) (by decide) (by decide)) (fr 19 (by decide) (by decide) (by decide) (by decide) (by decide)) (fr 20 (by decide) (by decide) (by decide) (by decide) (by decide)), zTD_same hp6 hT (fun c hc => fr c (by omega) (by omega) (by omega) (by omega) (by omega)), hBs, by rw [fj 3 (by decide)]; exact hL, by rw [fj 4 (by decide)]; exact hn, hn2, by rw [fj 5 (by decide)]; exact hB, by rw [fj 6 (by decide)]; exact htu, fun i hi => by rw [fr 40 (by decide) (by decide) (by decide) (by decide) (by decide)]; exact hsp i hi, hspL, fun l hl => ?_, zDR_same (fun j _ => by rw [e42, e43, e44, e45, e46, e47]; exact ⟨rfl, rfl, rfl, rfl, rfl, rfl⟩) hR, fW, by omega, fun j hj => by rw [fHj j (by omega), e42]; exact hHE j hj, fun j hj => ?_⟩
  · rw [fr 41 (by decide) (by decide) (by decide) (by decide) (by decide), hsu l hl]
    exact (zSum_same n (fun j _ => by rw [e43, e44]; exact ⟨rfl, rfl⟩)).symm
  · by_cases q : j = n
    · subst q
      rw [fHn]
      exact ⟨by omega, by omega⟩
    · rw [fHj j q]; exact hHz j hj
theorem zDI_sendD {h g : Nat → Nat → Int} {p L B n pp l : Nat} {K : Int} {sp : Nat → Nat} (hD : zDID h p L B n sp) (hn1 : n < 12) (hpp : pp < p) (hK : 0 ≤ K ∧ K ≤ 3) (hl : l < L) (h7 : h 21 7 = (pp : Int)) (hf : ∀ i : Nat, i < 3 → h 39 i = h (12 + sp i) pp) (hk : (n : Int) + 1 ≤ h 22 4) (hHn : h 38 n = (pp : Int)) (hg : zSendP h g n l K 21 39 40 41 42 43 44 45 46 47) : zDID g p L B (n + 1) (fun i => if i = l then pp else sp i) := by
  obtain ⟨hS, hT, hBs, hL, hn, hn2, hB, htu, hsp, hspL, hsu, hR, hW, hnk, hHE, hHz⟩ := hD
  obtain ⟨f1, ⟨a1, a2, a3, a4, a5, a6⟩, fo, f6, f4, fj, ⟨fu, fs⟩, fno⟩ := hg
  have hp6 := hS.2.1
  have hL3 := hS.1
  have fr : ∀ c : Nat, c ≠ 21 → (c < 40 ∨ 47 < c) → g c = h c := fun c h1 h2 => f1 c h1 (by omega) (by omega) (by omega) (by omega) (by omega) (by omega) (by omega) (by omega)
  have hwl : h (12 + sp l) pp ≤ 1500 := hT.2.1 _ _ (hspL l hl) hpp
  have hwl0 := (hT.1 (sp l) pp (by have := hspL l hl; omega) (by omega)).1
  have hfl := hf l (by omega)
  have hspl := hsp l (by omega)
  refine ⟨zSI_same hS (fr 18 (by decide) (by decide)) (fr 19 (by decide) (by decide)) (fr 20 (by decide) (by decide)), zTD_same hp6 hT (fun c hc => fr c (by omega) (by omega)), hBs, by rw [fj 3 (by decide) (by decide)]; exact hL, by rw [f4]; omega, by omega, by rw [fj 5 (by decide) (by decide)]; exact hB, ?_, fun i hi => ?_, fun i hi => ?_, fun q hq => ?_, fun j hj => ?_, zWI_same (fr 22 (by decide) (by decide)) (fr 38 (by decide) (by decide)) (fun i hi => fr (24 + i) (by omega) (by omega)) (fun c h1 h2 => fr c (by omega) (by omega)) hp6 hW, by rw [fr 22 (by decide) (by decide)]; omega, fun j hj => ?_, fun j hj => by rw [fr 38 (by decide) (by decide)]; exact hHz j hj⟩
  · rw [f6]
    by_cases q : K = 2 ∧ 0 < h 39 l
    · rw [if_pos q]; omega
    · rw [if_neg q]; exact htu
  · dsimp only
    by_cases q : i = l
    · subst q
      rw [fs, h7, if_pos rfl]
      exact ⟨rfl, by omega⟩
    · rw [(fno i q).2, if_neg q]; exact hsp i hi
  · dsimp only
    by_cases q : i = l
    · rw [if_pos q]; exact hpp
    · rw [if_neg q]; exact hspL i hi
  · have e : zSum g 43 44 (n + 1) q = zSum g 43 44 n q + (if g 43 n = (q : Int) then g 44 n else 0) := rfl
    rw [e, zSum_same n (fun j hj => ⟨(fo j (by omega)).2.1, (fo j (by omega)).2.2.1⟩), a2, a3]
    by_cases w : q = l
    · subst w
      rw [fu, if_pos rfl, hsu q hq]
    · rw [(fno q w).1, if_neg (by omega), hsu q hq]; omega
  · by_cases q : j = n
    · subst q
      rw [a1, a2, a3, a4, a5, a6, h7, hfl, hspl.1]
      have := hspL l hl
      exact ⟨by omega, by omega, by omega, hK, by omega, htu⟩
    · obtain ⟨e1, e2, e3, e4, e5, e6⟩ := fo j q
      rw [e1, e2, e3, e4, e5, e6]
      exact hR j (by omega)
  · rw [fr 38 (by decide) (by decide)]
    by_cases q : j = n
    · subst q; rw [a1, h7]; exact hHn
    · rw [(fo j q).1]; exact hHE j (by omega)
theorem zDI_bD {h : Nat → Nat → Int} {p L B n : Nat} {sp : Nat → Nat} (hD : zDID h p L B n sp) : ∀ l : Nat, l < 3 → 0 ≤ h 41 l ∧ h 41 l ≤ 1500 * (n : Int) := by
  obtain ⟨hS, hT, hBs, hL, hn, hn2, hB, htu, hsp, hspL, hsu, hR, hW, hnk, hHE, hHz⟩ := hD
  intro l hl
  rw [hsu l hl]
  exact zSum_b n (fun j hj => (hR j hj).2.2.1)
theorem zFar_b {h : Nat → Nat → Int} {sp : Nat → Nat} {pp : Nat} (hT : zTB h) (hs6 : ∀ i : Nat, i < 3 → sp i < 6) (hpp : pp < 6) : ∀ l : Nat, l < 3 → 0 ≤ h (12 + sp l) pp ∧ h (12 + sp l) pp ≤ 1000000 := fun l hl => by
  have := hT (sp l) pp (hs6 l hl) hpp
  exact ⟨this.1, this.2.1⟩
/-- WORK of the STAND that a LADDER would make -/
theorem zWk_D {h g : Nat → Nat → Int} {p L B n pp l : Nat} {sp : Nat → Nat} (hD : zDID h p L B n sp) (hpp : pp < p) (hl : l < L) (hg : zHearP h g p L B n pp sp 21 39 22 38 24 13) : g (24 + (n + 1)) (Int.toNat (g 20 (zwd (zStn L sp) l pp))) = zWf h L B (zPl h 42 n pp) (n + 1) (zwd (zStn L sp) l pp) := by
  have hD2 := zDI_hearD hD hpp hg
  obtain ⟨hS, hT, hBs, hL, hn, hn2, hB, htu, hsp, hspL, hsu, hR, hW, hnk, hHE, hHz⟩ := hD
  obtain ⟨gS, gT, gBs, gL, gn, gn2, gB, gtu, gsp, gspL, gsu, gR, gW, gnk, gHE, gHz⟩ := hD2
  obtain ⟨f1, f7, fj, ff, fW, fk, fHn, fHj⟩ := hg
  have hX := zStn_sb hS.2.1 hS.1 hspL
  obtain ⟨k, k1, k2, k3, k4⟩ := fW
  rw [zWI_at gS ⟨k, k1, k2, k3, k4⟩ k1 (by omega) (zSb_wd hS.2.1 hS.1.2 hX hl hpp)]
  refine zWf_same (fun c h1 h2 => f1 c (by omega) (by omega) (by omega) (by omega) (by omega)) (n + 1) (fun i hi => ?_) _
  unfold zPl
  by_cases q : i = n
  · subst q
    rw [if_pos rfl, fHn, Int.toNat_natCast]
    exact ⟨rfl, by have := hS.2.1; omega⟩
  · rw [if_neg q, fHj i q, hHE i (by omega)]
    have := (hR i (by omega)).1
    exact ⟨rfl, by have := hS.2.1; omega⟩

abbrev zDIT (h : Nat → Nat → Int) (p L B n : Nat) (sp : Nat → Nat) : Prop := zDI h p L B n sp 48 58 59 60 61 62 63 64 65 49 56 51 4
theorem zDI_hearT {h g : Nat → Nat → Int} {p L B n pp : Nat} {sp : Nat → Nat} (hD : zDIT h p L B n sp) (hpp : pp < p) (hg : zHearP h g p L B n pp sp 48 57 49 56 51 4) : zDIT g p L B n sp := by
  obtain ⟨hS, hT, hBs, hL, hn, hn2, hB, htu, hsp, hspL, hsu, hR, hW, hnk, hHE, hHz⟩ := hD
  obtain ⟨f1, f7, fj, ff, fW, fk, fHn, fHj⟩ := hg
  have hp6 := hS.2.1
  have fr : ∀ c : Nat, c ≠ 48 → c ≠ 57 → c ≠ 49 → c ≠ 56 → (c ≤ 51 ∨ 51 + 4 < c) → g c = h c := fun c h1 h2 h3 h4 h5 => f1 c h1 h2 h3 h4 (by omega)
  have e60 := fr 60 (by decide) (by decide) (by decide) (by decide) (by decide)
  have e61 := fr 61 (by decide) (by decide) (by decide) (by decide) (by decide)
  have e62 := fr 62 (by decide) (by decide) (by decide) (by decide) (by decide)
  have e63 := fr 63 (by decide) (by decide) (by decide) (by decide) (by decide)
  have e64 := fr 64 (by decide) (by decide) (by decide) (by decide) (by decide)
  have e65 := fr 65 (by decide) (by decide) (by decide) (by decide) (by decide)
  refine ⟨zSI_same hS (fr 18 (by decide) (by decide) (by decide) (by decide) (by decide)) (fr 19 (by decide) (by decide) (by decide) (by decide) (by decide)) (fr 20 (by decide) (by decide) (by decide) (by decide) (by decide)), zTD_same hp6 hT (fun c hc => fr c (by omega) (by omega) (by omega) (by omega) (by omega)), hBs, by rw [fj 3 (by decide)]; exact hL, by rw [fj 4 (by decide)]; exact hn, hn2, by rw [fj 5 (by decide)]; exact hB, by rw [fj 6 (by decide)]; exact htu, fun i hi => by rw [fr 58 (by decide) (by decide) (by decide) (by decide) (by decide)]; exact hsp i hi, hspL, fun l hl => ?_, zDR_same (fun j _ => by rw [e60, e61, e62, e63, e64, e65]; exact ⟨rfl, rfl, rfl, rfl, rfl, rfl⟩) hR, fW, by omega, fun j hj => by rw [fHj j (by omega), e60]; exact hHE j hj, fun j hj => ?_⟩
  · rw [fr 59 (by decide) (by decide) (by decide) (by decide) (by decide), hsu l hl]
    exact (zSum_same n (fun j _ => by rw [e61, e62]; exact ⟨rfl, rfl⟩)).symm
  · by_cases q : j = n
    · subst q
      rw [fHn]
      exact ⟨by omega, by omega⟩
    · rw [fHj j q]; exact hHz j hj
theorem zDI_sendT {h g : Nat → Nat → Int} {p L B n pp l : Nat} {K : Int} {sp : Nat → Nat} (hD : zDIT h p L B n sp) (hn1 : n < 3) (hpp : pp < p) (hK : 0 ≤ K ∧ K ≤ 3) (hl : l < L) (h7 : h 48 7 = (pp : Int)) (hf : ∀ i : Nat, i < 3 → h 57 i = h (12 + sp i) pp) (hk : (n : Int) + 1 ≤ h 49 4) (hHn : h 56 n = (pp : Int)) (hg : zSendP h g n l K 48 57 58 59 60 61 62 63 64 65) : zDIT g p L B (n + 1) (fun i => if i = l then pp else sp i) := by
  obtain ⟨hS, hT, hBs, hL, hn, hn2, hB, htu, hsp, hspL, hsu, hR, hW, hnk, hHE, hHz⟩ := hD
  obtain ⟨f1, ⟨a1, a2, a3, a4, a5, a6⟩, fo, f6, f4, fj, ⟨fu, fs⟩, fno⟩ := hg
  have hp6 := hS.2.1
  have hL3 := hS.1
  have fr : ∀ c : Nat, c ≠ 48 → (c < 58 ∨ 65 < c) → g c = h c := fun c h1 h2 => f1 c h1 (by omega) (by omega) (by omega) (by omega) (by omega) (by omega) (by omega) (by omega)
  have hwl : h (12 + sp l) pp ≤ 1500 := hT.2.1 _ _ (hspL l hl) hpp
  have hwl0 := (hT.1 (sp l) pp (by have := hspL l hl; omega) (by omega)).1
  have hfl := hf l (by omega)
  have hspl := hsp l (by omega)
  refine ⟨zSI_same hS (fr 18 (by decide) (by decide)) (fr 19 (by decide) (by decide)) (fr 20 (by decide) (by decide)), zTD_same hp6 hT (fun c hc => fr c (by omega) (by omega)), hBs, by rw [fj 3 (by decide) (by decide)]; exact hL, by rw [f4]; omega, by omega, by rw [fj 5 (by decide) (by decide)]; exact hB, ?_, fun i hi => ?_, fun i hi => ?_, fun q hq => ?_, fun j hj => ?_, zWI_same (fr 49 (by decide) (by decide)) (fr 56 (by decide) (by decide)) (fun i hi => fr (51 + i) (by omega) (by omega)) (fun c h1 h2 => fr c (by omega) (by omega)) hp6 hW, by rw [fr 49 (by decide) (by decide)]; omega, fun j hj => ?_, fun j hj => by rw [fr 56 (by decide) (by decide)]; exact hHz j hj⟩
  · rw [f6]
    by_cases q : K = 2 ∧ 0 < h 57 l
    · rw [if_pos q]; omega
    · rw [if_neg q]; exact htu
  · dsimp only
    by_cases q : i = l
    · subst q
      rw [fs, h7, if_pos rfl]
      exact ⟨rfl, by omega⟩
    · rw [(fno i q).2, if_neg q]; exact hsp i hi
  · dsimp only
    by_cases q : i = l
    · rw [if_pos q]; exact hpp
    · rw [if_neg q]; exact hspL i hi
  · have e : zSum g 61 62 (n + 1) q = zSum g 61 62 n q + (if g 61 n = (q : Int) then g 62 n else 0) := rfl
    rw [e, zSum_same n (fun j hj => ⟨(fo j (by omega)).2.1, (fo j (by omega)).2.2.1⟩), a2, a3]
    by_cases w : q = l
    · subst w
      rw [fu, if_pos rfl, hsu q hq]
    · rw [(fno q w).1, if_neg (by omega), hsu q hq]; omega
  · by_cases q : j = n
    · subst q
      rw [a1, a2, a3, a4, a5, a6, h7, hfl, hspl.1]
      have := hspL l hl
      exact ⟨by omega, by omega, by omega, hK, by omega, htu⟩
    · obtain ⟨e1, e2, e3, e4, e5, e6⟩ := fo j q
      rw [e1, e2, e3, e4, e5, e6]
      exact hR j (by omega)
  · rw [fr 56 (by decide) (by decide)]
    by_cases q : j = n
    · subst q; rw [a1, h7]; exact hHn
    · rw [(fo j q).1]; exact hHE j (by omega)
theorem zDI_bT {h : Nat → Nat → Int} {p L B n : Nat} {sp : Nat → Nat} (hD : zDIT h p L B n sp) : ∀ l : Nat, l < 3 → 0 ≤ h 59 l ∧ h 59 l ≤ 1500 * (n : Int) := by
  obtain ⟨hS, hT, hBs, hL, hn, hn2, hB, htu, hsp, hspL, hsu, hR, hW, hnk, hHE, hHz⟩ := hD
  intro l hl
  rw [hsu l hl]
  exact zSum_b n (fun j hj => (hR j hj).2.2.1)
/-- WORK of the STAND that a LADDER would make -/
theorem zWk_T {h g : Nat → Nat → Int} {p L B n pp l : Nat} {sp : Nat → Nat} (hD : zDIT h p L B n sp) (hpp : pp < p) (hl : l < L) (hg : zHearP h g p L B n pp sp 48 57 49 56 51 4) : g (51 + (n + 1)) (Int.toNat (g 20 (zwd (zStn L sp) l pp))) = zWf h L B (zPl h 60 n pp) (n + 1) (zwd (zStn L sp) l pp) := by
  have hD2 := zDI_hearT hD hpp hg
  obtain ⟨hS, hT, hBs, hL, hn, hn2, hB, htu, hsp, hspL, hsu, hR, hW, hnk, hHE, hHz⟩ := hD
  obtain ⟨gS, gT, gBs, gL, gn, gn2, gB, gtu, gsp, gspL, gsu, gR, gW, gnk, gHE, gHz⟩ := hD2
  obtain ⟨f1, f7, fj, ff, fW, fk, fHn, fHj⟩ := hg
  have hX := zStn_sb hS.2.1 hS.1 hspL
  obtain ⟨k, k1, k2, k3, k4⟩ := fW
  rw [zWI_at gS ⟨k, k1, k2, k3, k4⟩ k1 (by omega) (zSb_wd hS.2.1 hS.1.2 hX hl hpp)]
  refine zWf_same (fun c h1 h2 => f1 c (by omega) (by omega) (by omega) (by omega) (by omega)) (n + 1) (fun i hi => ?_) _
  unfold zPl
  by_cases q : i = n
  · subst q
    rw [if_pos rfl, fHn, Int.toNat_natCast]
    exact ⟨rfl, by have := hS.2.1; omega⟩
  · rw [if_neg q, fHj i q, hHE i (by omega)]
    have := (hR i (by omega)).1
    exact ⟨rfl, by have := hS.2.1; omega⟩
