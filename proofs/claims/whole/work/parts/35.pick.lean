/-! RULES: the pick. -/
/-- the LADDER that goes by a RULE of a KIND, and what THE TRACE gets -/
def zPkR (k : Int) (L : Nat) (cov : Prop) (fn fe fa : Nat → Int) (t : Int) (l : Nat) (tr : Int) : Prop :=
  (k = 0 ∧ zIs L fn l ∧ tr = 1) ∨ (k = 1 ∧ cov ∧ zIs L fn l ∧ tr = 11) ∨ (k = 1 ∧ ¬ cov ∧ zIs L fe l ∧ tr = 10) ∨ (k = 2 ∧ cov ∧ zIs L fn l ∧ tr = 101) ∨ (k = 2 ∧ ¬ cov ∧ (l : Int) = (if t + 1 < (L : Int) then t + 1 else 0) ∧ tr = 100) ∨ (k = 3 ∧ cov ∧ zIs L fn l ∧ tr = 1001) ∨ (k = 3 ∧ ¬ cov ∧ L = 1 ∧ zIs L fe l ∧ tr = 1010) ∨ (k = 3 ∧ ¬ cov ∧ ¬ L = 1 ∧ zIs L fa l ∧ tr = 1000)
theorem zPkR_lt {k : Int} {L : Nat} {cov : Prop} {fn fe fa : Nat → Int} {t : Int} {l : Nat} {tr : Int} (hL : 1 ≤ L) (ht : -1 ≤ t) (h : zPkR k L cov fn fe fa t l tr) : l < L := by
  rcases h with ⟨-, h, -⟩ | ⟨-, -, h, -⟩ | ⟨-, -, h, -⟩ | ⟨-, -, h, -⟩ | ⟨-, -, h, -⟩ | ⟨-, -, h, -⟩ | ⟨-, -, -, h, -⟩ | ⟨-, -, -, h, -⟩
  all_goals first
    | exact zIs_lt h
    | (by_cases q : t + 1 < (L : Int)
       · rw [if_pos q] at h; omega
       · rw [if_neg q] at h; omega)
set_option maxRecDepth 100000 in
set_option maxHeartbeats 4000000 in
theorem p_pickD0 {d : Nat} {h hl : Nat → Nat → Int} {L : Nat} (hL3 : 1 ≤ L ∧ L ≤ 3) (hL : h 21 3 = (L : Int)) (hf : ∀ l : Nat, l < 3 → 0 ≤ h 39 l ∧ h 39 l ≤ 1000000) {pp : Nat} {sp : Nat → Nat} (h7 : h 21 7 = (pp : Int)) (hsp : ∀ i : Nat, i < L → h 40 i = ((sp i : Nat) : Int)) (hw : ∀ l : Nat, l < 3 → 0 ≤ h 41 l ∧ h 41 l ≤ 1000000) {p n : Nat} (hS : zSI h p L) (hn : h 21 4 = (n : Int)) (hn2 : n < 13) (hpp : pp < p) (hsp6 : ∀ i : Nat, i < L → sp i < p) (hA : ∀ k : Nat, (k : Int) < h 18 2 → 0 ≤ h (24 + (n + 1)) k ∧ h (24 + (n + 1)) k ≤ 100000) (ht : -1 ≤ h 21 6 ∧ h 21 6 ≤ 3) : zQ (d + 5) 35 [.inr (.inr (some 81)), .inl 0, .inr (.inr (some 21))] (zs h hl) (fun r σ' => ∃ (l : Nat) (tr : Int), zPkR 0 L (zCov L sp pp) (fun l => h 39 l) (fun l => h 41 l + h 39 l) (fun l => h (24 + (n + 1)) (Int.toNat (h 20 (zwd (zStn L sp) l pp))) + h 39 l) (h 21 6) l tr ∧ r = some (.inl (l : Int)) ∧ σ' = zs h (zup hl 81 0 (hl 81 0 + tr))) := by
  have hp6 := hS.2.1
  have hs6 : ∀ i : Nat, i < L → sp i < 6 := fun i hi => Nat.lt_of_lt_of_le (hsp6 i hi) hp6
  refine zQ_of (Nat.le_of_ble_eq_true rfl) ?_
  show zH (d + 4) 35 (0, [some (.inr (.inr (some 81))), some (.inl 0), some (.inr (.inr (some 21)))], [], (zs h hl)) _
  refine zH_go 1 (c' := (1, [some (.inr (.inr (some 81))), some (.inl 0), some (.inr (.inr (some 21)))], [.inl 0], (zs h hl))) rfl ?_
  refine zH_sw rfl ⟨by decide, by decide⟩ (tgt := 46) rfl ?_
  show zH _ _ (46, [some (.inr (.inr (some 81))), some (.inl 0), some (.inr (.inr (some 21)))], [], (zs h hl)) _
  refine zH_go 2 (c' := (48, [some (.inr (.inr (some 81))), some (.inl 0), some (.inr (.inr (some 21)))], [.inr (.inr (some 21)), .inr (.inr (some 81))], (zs h hl))) rfl ?_
  refine zH_call (M' := 36) (as := [.inr (.inr (some 81)), .inr (.inr (some 21))]) (T := []) rfl (p_nearD hL3 hL hf) (fun r σ' p_1 => ?_)
  obtain ⟨l, hl1, rfl, rfl⟩ := p_1
  show zH _ _ (51, [some (.inr (.inr (some 81))), some (.inl 0), some (.inr (.inr (some 21)))], [.inl (l : Int)], (zs h (zup hl 81 0 (hl 81 0 + 1)))) _
  refine zH_ret (v := some (.inl (l : Int))) rfl (fun q => absurd q (by decide)) ?_
  exact ⟨l, 1, Or.inl ⟨rfl, hl1, rfl⟩, rfl, rfl⟩
set_option maxRecDepth 100000 in
set_option maxHeartbeats 4000000 in
theorem p_pickD1 {d : Nat} {h hl : Nat → Nat → Int} {L : Nat} (hL3 : 1 ≤ L ∧ L ≤ 3) (hL : h 21 3 = (L : Int)) (hf : ∀ l : Nat, l < 3 → 0 ≤ h 39 l ∧ h 39 l ≤ 1000000) {pp : Nat} {sp : Nat → Nat} (h7 : h 21 7 = (pp : Int)) (hsp : ∀ i : Nat, i < L → h 40 i = ((sp i : Nat) : Int)) (hw : ∀ l : Nat, l < 3 → 0 ≤ h 41 l ∧ h 41 l ≤ 1000000) {p n : Nat} (hS : zSI h p L) (hn : h 21 4 = (n : Int)) (hn2 : n < 13) (hpp : pp < p) (hsp6 : ∀ i : Nat, i < L → sp i < p) (hA : ∀ k : Nat, (k : Int) < h 18 2 → 0 ≤ h (24 + (n + 1)) k ∧ h (24 + (n + 1)) k ≤ 100000) (ht : -1 ≤ h 21 6 ∧ h 21 6 ≤ 3) : zQ (d + 5) 35 [.inr (.inr (some 81)), .inl 1, .inr (.inr (some 21))] (zs h hl) (fun r σ' => ∃ (l : Nat) (tr : Int), zPkR 1 L (zCov L sp pp) (fun l => h 39 l) (fun l => h 41 l + h 39 l) (fun l => h (24 + (n + 1)) (Int.toNat (h 20 (zwd (zStn L sp) l pp))) + h 39 l) (h 21 6) l tr ∧ r = some (.inl (l : Int)) ∧ σ' = zs h (zup hl 81 0 (hl 81 0 + tr))) := by
  have hp6 := hS.2.1
  have hs6 : ∀ i : Nat, i < L → sp i < 6 := fun i hi => Nat.lt_of_lt_of_le (hsp6 i hi) hp6
  refine zQ_of (Nat.le_of_ble_eq_true rfl) ?_
  show zH (d + 4) 35 (0, [some (.inr (.inr (some 81))), some (.inl 1), some (.inr (.inr (some 21)))], [], (zs h hl)) _
  refine zH_go 1 (c' := (1, [some (.inr (.inr (some 81))), some (.inl 1), some (.inr (.inr (some 21)))], [.inl 1], (zs h hl))) rfl ?_
  refine zH_sw rfl ⟨by decide, by decide⟩ (tgt := 28) rfl ?_
  show zH _ _ (28, [some (.inr (.inr (some 81))), some (.inl 1), some (.inr (.inr (some 21)))], [], (zs h hl)) _
  refine zH_go 2 (c' := (30, [some (.inr (.inr (some 81))), some (.inl 1), some (.inr (.inr (some 21)))], [.inr (.inr (some 21)), .inr (.inr (some 81))], (zs h hl))) rfl ?_
  refine zH_call (M' := 37) (as := [.inr (.inr (some 81)), .inr (.inr (some 21))]) (T := []) rfl (p_evenD hL3 hL hf (pp := pp) (sp := sp) (by omega) h7 hsp hs6 hw) (fun r σ' p_1 => ?_)
  rcases p_1 with ⟨hc, l, hl1, rfl, rfl⟩ | ⟨hc, l, hl1, rfl, rfl⟩
  · show zH _ _ (33, [some (.inr (.inr (some 81))), some (.inl 1), some (.inr (.inr (some 21)))], [.inl (l : Int)], (zs h (zup hl 81 0 (hl 81 0 + 11)))) _
    refine zH_ret (v := some (.inl (l : Int))) rfl (fun q => absurd q (by decide)) ?_
    exact ⟨l, 11, Or.inr (Or.inl ⟨rfl, hc, hl1, rfl⟩), rfl, rfl⟩
  · show zH _ _ (33, [some (.inr (.inr (some 81))), some (.inl 1), some (.inr (.inr (some 21)))], [.inl (l : Int)], (zs h (zup hl 81 0 (hl 81 0 + 10)))) _
    refine zH_ret (v := some (.inl (l : Int))) rfl (fun q => absurd q (by decide)) ?_
    exact ⟨l, 10, Or.inr (Or.inr (Or.inl ⟨rfl, hc, hl1, rfl⟩)), rfl, rfl⟩
set_option maxRecDepth 100000 in
set_option maxHeartbeats 4000000 in
theorem p_pickD2 {d : Nat} {h hl : Nat → Nat → Int} {L : Nat} (hL3 : 1 ≤ L ∧ L ≤ 3) (hL : h 21 3 = (L : Int)) (hf : ∀ l : Nat, l < 3 → 0 ≤ h 39 l ∧ h 39 l ≤ 1000000) {pp : Nat} {sp : Nat → Nat} (h7 : h 21 7 = (pp : Int)) (hsp : ∀ i : Nat, i < L → h 40 i = ((sp i : Nat) : Int)) (hw : ∀ l : Nat, l < 3 → 0 ≤ h 41 l ∧ h 41 l ≤ 1000000) {p n : Nat} (hS : zSI h p L) (hn : h 21 4 = (n : Int)) (hn2 : n < 13) (hpp : pp < p) (hsp6 : ∀ i : Nat, i < L → sp i < p) (hA : ∀ k : Nat, (k : Int) < h 18 2 → 0 ≤ h (24 + (n + 1)) k ∧ h (24 + (n + 1)) k ≤ 100000) (ht : -1 ≤ h 21 6 ∧ h 21 6 ≤ 3) : zQ (d + 5) 35 [.inr (.inr (some 81)), .inl 2, .inr (.inr (some 21))] (zs h hl) (fun r σ' => ∃ (l : Nat) (tr : Int), zPkR 2 L (zCov L sp pp) (fun l => h 39 l) (fun l => h 41 l + h 39 l) (fun l => h (24 + (n + 1)) (Int.toNat (h 20 (zwd (zStn L sp) l pp))) + h 39 l) (h 21 6) l tr ∧ r = some (.inl (l : Int)) ∧ σ' = zs h (zup hl 81 0 (hl 81 0 + tr))) := by
  have hp6 := hS.2.1
  have hs6 : ∀ i : Nat, i < L → sp i < 6 := fun i hi => Nat.lt_of_lt_of_le (hsp6 i hi) hp6
  refine zQ_of (Nat.le_of_ble_eq_true rfl) ?_
  show zH (d + 4) 35 (0, [some (.inr (.inr (some 81))), some (.inl 2), some (.inr (.inr (some 21)))], [], (zs h hl)) _
  refine zH_go 1 (c' := (1, [some (.inr (.inr (some 81))), some (.inl 2), some (.inr (.inr (some 21)))], [.inl 2], (zs h hl))) rfl ?_
  refine zH_sw rfl ⟨by decide, by decide⟩ (tgt := 34) rfl ?_
  show zH _ _ (34, [some (.inr (.inr (some 81))), some (.inl 2), some (.inr (.inr (some 21)))], [], (zs h hl)) _
  refine zH_go 2 (c' := (36, [some (.inr (.inr (some 81))), some (.inl 2), some (.inr (.inr (some 21)))], [.inr (.inr (some 21)), .inr (.inr (some 81))], (zs h hl))) rfl ?_
  refine zH_call (M' := 38) (as := [.inr (.inr (some 81)), .inr (.inr (some 21))]) (T := []) rfl (p_turnD hL3 hL hf (pp := pp) (sp := sp) (by omega) h7 hsp hs6 ht) (fun r σ' p_1 => ?_)
  rcases p_1 with ⟨hc, l, hl1, rfl, rfl⟩ | ⟨hc, l, hl1, rfl, rfl⟩
  · show zH _ _ (39, [some (.inr (.inr (some 81))), some (.inl 2), some (.inr (.inr (some 21)))], [.inl (l : Int)], (zs h (zup hl 81 0 (hl 81 0 + 101)))) _
    refine zH_ret (v := some (.inl (l : Int))) rfl (fun q => absurd q (by decide)) ?_
    exact ⟨l, 101, Or.inr (Or.inr (Or.inr (Or.inl ⟨rfl, hc, hl1, rfl⟩))), rfl, rfl⟩
  · show zH _ _ (39, [some (.inr (.inr (some 81))), some (.inl 2), some (.inr (.inr (some 21)))], [.inl (l : Int)], (zs h (zup hl 81 0 (hl 81 0 + 100)))) _
    refine zH_ret (v := some (.inl (l : Int))) rfl (fun q => absurd q (by decide)) ?_
    exact ⟨l, 100, Or.inr (Or.inr (Or.inr (Or.inr (Or.inl ⟨rfl, hc, hl1, rfl⟩)))), rfl, rfl⟩
set_option maxRecDepth 100000 in
set_option maxHeartbeats 4000000 in
theorem p_pickD3 {d : Nat} {h hl : Nat → Nat → Int} {L : Nat} (hL3 : 1 ≤ L ∧ L ≤ 3) (hL : h 21 3 = (L : Int)) (hf : ∀ l : Nat, l < 3 → 0 ≤ h 39 l ∧ h 39 l ≤ 1000000) {pp : Nat} {sp : Nat → Nat} (h7 : h 21 7 = (pp : Int)) (hsp : ∀ i : Nat, i < L → h 40 i = ((sp i : Nat) : Int)) (hw : ∀ l : Nat, l < 3 → 0 ≤ h 41 l ∧ h 41 l ≤ 1000000) {p n : Nat} (hS : zSI h p L) (hn : h 21 4 = (n : Int)) (hn2 : n < 13) (hpp : pp < p) (hsp6 : ∀ i : Nat, i < L → sp i < p) (hA : ∀ k : Nat, (k : Int) < h 18 2 → 0 ≤ h (24 + (n + 1)) k ∧ h (24 + (n + 1)) k ≤ 100000) (ht : -1 ≤ h 21 6 ∧ h 21 6 ≤ 3) : zQ (d + 5) 35 [.inr (.inr (some 81)), .inl 3, .inr (.inr (some 21))] (zs h hl) (fun r σ' => ∃ (l : Nat) (tr : Int), zPkR 3 L (zCov L sp pp) (fun l => h 39 l) (fun l => h 41 l + h 39 l) (fun l => h (24 + (n + 1)) (Int.toNat (h 20 (zwd (zStn L sp) l pp))) + h 39 l) (h 21 6) l tr ∧ r = some (.inl (l : Int)) ∧ σ' = zs h (zup hl 81 0 (hl 81 0 + tr))) := by
  have hp6 := hS.2.1
  have hs6 : ∀ i : Nat, i < L → sp i < 6 := fun i hi => Nat.lt_of_lt_of_le (hsp6 i hi) hp6
  refine zQ_of (Nat.le_of_ble_eq_true rfl) ?_
  show zH (d + 4) 35 (0, [some (.inr (.inr (some 81))), some (.inl 3), some (.inr (.inr (some 21)))], [], (zs h hl)) _
  refine zH_go 1 (c' := (1, [some (.inr (.inr (some 81))), some (.inl 3), some (.inr (.inr (some 21)))], [.inl 3], (zs h hl))) rfl ?_
  refine zH_sw rfl ⟨by decide, by decide⟩ (tgt := 40) rfl ?_
  show zH _ _ (40, [some (.inr (.inr (some 81))), some (.inl 3), some (.inr (.inr (some 21)))], [], (zs h hl)) _
  refine zH_go 2 (c' := (42, [some (.inr (.inr (some 81))), some (.inl 3), some (.inr (.inr (some 21)))], [.inr (.inr (some 21)), .inr (.inr (some 81))], (zs h hl))) rfl ?_
  refine zH_call (M' := 39) (as := [.inr (.inr (some 81)), .inr (.inr (some 21))]) (T := []) rfl (p_aheadD hL3 hL hf h7 hsp hw hS hn hn2 hpp hsp6 hA) (fun r σ' p_1 => ?_)
  rcases p_1 with ⟨hc, l, hl1, rfl, rfl⟩ | ⟨hc, hl0, l, hl1, rfl, rfl⟩ | ⟨hc, hl0, l, hl1, rfl, rfl⟩
  · show zH _ _ (45, [some (.inr (.inr (some 81))), some (.inl 3), some (.inr (.inr (some 21)))], [.inl (l : Int)], (zs h (zup hl 81 0 (hl 81 0 + 1001)))) _
    refine zH_ret (v := some (.inl (l : Int))) rfl (fun q => absurd q (by decide)) ?_
    exact ⟨l, 1001, Or.inr (Or.inr (Or.inr (Or.inr (Or.inr (Or.inl ⟨rfl, hc, hl1, rfl⟩))))), rfl, rfl⟩
  · show zH _ _ (45, [some (.inr (.inr (some 81))), some (.inl 3), some (.inr (.inr (some 21)))], [.inl (l : Int)], (zs h (zup hl 81 0 (hl 81 0 + 1010)))) _
    refine zH_ret (v := some (.inl (l : Int))) rfl (fun q => absurd q (by decide)) ?_
    exact ⟨l, 1010, Or.inr (Or.inr (Or.inr (Or.inr (Or.inr (Or.inr (Or.inl ⟨rfl, hc, hl0, hl1, rfl⟩)))))), rfl, rfl⟩
  · show zH _ _ (45, [some (.inr (.inr (some 81))), some (.inl 3), some (.inr (.inr (some 21)))], [.inl (l : Int)], (zs h (zup hl 81 0 (hl 81 0 + 1000)))) _
    refine zH_ret (v := some (.inl (l : Int))) rfl (fun q => absurd q (by decide)) ?_
    exact ⟨l, 1000, Or.inr (Or.inr (Or.inr (Or.inr (Or.inr (Or.inr (Or.inr ⟨rfl, hc, hl0, hl1, rfl⟩)))))), rfl, rfl⟩
theorem p_pickD {d : Nat} {h hl : Nat → Nat → Int} {K : Int} (hK : 0 ≤ K ∧ K ≤ 3) {L : Nat} (hL3 : 1 ≤ L ∧ L ≤ 3) (hL : h 21 3 = (L : Int)) (hf : ∀ l : Nat, l < 3 → 0 ≤ h 39 l ∧ h 39 l ≤ 1000000) {pp : Nat} {sp : Nat → Nat} (h7 : h 21 7 = (pp : Int)) (hsp : ∀ i : Nat, i < L → h 40 i = ((sp i : Nat) : Int)) (hw : ∀ l : Nat, l < 3 → 0 ≤ h 41 l ∧ h 41 l ≤ 1000000) {p n : Nat} (hS : zSI h p L) (hn : h 21 4 = (n : Int)) (hn2 : n < 13) (hpp : pp < p) (hsp6 : ∀ i : Nat, i < L → sp i < p) (hA : ∀ k : Nat, (k : Int) < h 18 2 → 0 ≤ h (24 + (n + 1)) k ∧ h (24 + (n + 1)) k ≤ 100000) (ht : -1 ≤ h 21 6 ∧ h 21 6 ≤ 3) : zQ (d + 5) 35 [.inr (.inr (some 81)), .inl K, .inr (.inr (some 21))] (zs h hl) (fun r σ' => ∃ (l : Nat) (tr : Int), zPkR K L (zCov L sp pp) (fun l => h 39 l) (fun l => h 41 l + h 39 l) (fun l => h (24 + (n + 1)) (Int.toNat (h 20 (zwd (zStn L sp) l pp))) + h 39 l) (h 21 6) l tr ∧ r = some (.inl (l : Int)) ∧ σ' = zs h (zup hl 81 0 (hl 81 0 + tr))) := by
  rcases (show K = 0 ∨ K = 1 ∨ K = 2 ∨ K = 3 by omega) with rfl | rfl | rfl | rfl
  · exact p_pickD0 hL3 hL hf h7 hsp hw hS hn hn2 hpp hsp6 hA ht
  · exact p_pickD1 hL3 hL hf h7 hsp hw hS hn hn2 hpp hsp6 hA ht
  · exact p_pickD2 hL3 hL hf h7 hsp hw hS hn hn2 hpp hsp6 hA ht
  · exact p_pickD3 hL3 hL hf h7 hsp hw hS hn hn2 hpp hsp6 hA ht
set_option maxRecDepth 100000 in
set_option maxHeartbeats 4000000 in
theorem p_pickT0 {d : Nat} {h hl : Nat → Nat → Int} {L : Nat} (hL3 : 1 ≤ L ∧ L ≤ 3) (hL : h 48 3 = (L : Int)) (hf : ∀ l : Nat, l < 3 → 0 ≤ h 57 l ∧ h 57 l ≤ 1000000) {pp : Nat} {sp : Nat → Nat} (h7 : h 48 7 = (pp : Int)) (hsp : ∀ i : Nat, i < L → h 58 i = ((sp i : Nat) : Int)) (hw : ∀ l : Nat, l < 3 → 0 ≤ h 59 l ∧ h 59 l ≤ 1000000) {p n : Nat} (hS : zSI h p L) (hn : h 48 4 = (n : Int)) (hn2 : n < 4) (hpp : pp < p) (hsp6 : ∀ i : Nat, i < L → sp i < p) (hA : ∀ k : Nat, (k : Int) < h 18 2 → 0 ≤ h (51 + (n + 1)) k ∧ h (51 + (n + 1)) k ≤ 100000) (ht : -1 ≤ h 48 6 ∧ h 48 6 ≤ 3) : zQ (d + 5) 35 [.inr (.inr (some 81)), .inl 0, .inr (.inr (some 48))] (zs h hl) (fun r σ' => ∃ (l : Nat) (tr : Int), zPkR 0 L (zCov L sp pp) (fun l => h 57 l) (fun l => h 59 l + h 57 l) (fun l => h (51 + (n + 1)) (Int.toNat (h 20 (zwd (zStn L sp) l pp))) + h 57 l) (h 48 6) l tr ∧ r = some (.inl (l : Int)) ∧ σ' = zs h (zup hl 81 0 (hl 81 0 + tr))) := by
  have hp6 := hS.2.1
  have hs6 : ∀ i : Nat, i < L → sp i < 6 := fun i hi => Nat.lt_of_lt_of_le (hsp6 i hi) hp6
  refine zQ_of (Nat.le_of_ble_eq_true rfl) ?_
  show zH (d + 4) 35 (0, [some (.inr (.inr (some 81))), some (.inl 0), some (.inr (.inr (some 48)))], [], (zs h hl)) _
  refine zH_go 1 (c' := (1, [some (.inr (.inr (some 81))), some (.inl 0), some (.inr (.inr (some 48)))], [.inl 0], (zs h hl))) rfl ?_
  refine zH_sw rfl ⟨by decide, by decide⟩ (tgt := 46) rfl ?_
  show zH _ _ (46, [some (.inr (.inr (some 81))), some (.inl 0), some (.inr (.inr (some 48)))], [], (zs h hl)) _
  refine zH_go 2 (c' := (48, [some (.inr (.inr (some 81))), some (.inl 0), some (.inr (.inr (some 48)))], [.inr (.inr (some 48)), .inr (.inr (some 81))], (zs h hl))) rfl ?_
  refine zH_call (M' := 36) (as := [.inr (.inr (some 81)), .inr (.inr (some 48))]) (T := []) rfl (p_nearT hL3 hL hf) (fun r σ' p_1 => ?_)
  obtain ⟨l, hl1, rfl, rfl⟩ := p_1
  show zH _ _ (51, [some (.inr (.inr (some 81))), some (.inl 0), some (.inr (.inr (some 48)))], [.inl (l : Int)], (zs h (zup hl 81 0 (hl 81 0 + 1)))) _
  refine zH_ret (v := some (.inl (l : Int))) rfl (fun q => absurd q (by decide)) ?_
  exact ⟨l, 1, Or.inl ⟨rfl, hl1, rfl⟩, rfl, rfl⟩
set_option maxRecDepth 100000 in
set_option maxHeartbeats 4000000 in
theorem p_pickT1 {d : Nat} {h hl : Nat → Nat → Int} {L : Nat} (hL3 : 1 ≤ L ∧ L ≤ 3) (hL : h 48 3 = (L : Int)) (hf : ∀ l : Nat, l < 3 → 0 ≤ h 57 l ∧ h 57 l ≤ 1000000) {pp : Nat} {sp : Nat → Nat} (h7 : h 48 7 = (pp : Int)) (hsp : ∀ i : Nat, i < L → h 58 i = ((sp i : Nat) : Int)) (hw : ∀ l : Nat, l < 3 → 0 ≤ h 59 l ∧ h 59 l ≤ 1000000) {p n : Nat} (hS : zSI h p L) (hn : h 48 4 = (n : Int)) (hn2 : n < 4) (hpp : pp < p) (hsp6 : ∀ i : Nat, i < L → sp i < p) (hA : ∀ k : Nat, (k : Int) < h 18 2 → 0 ≤ h (51 + (n + 1)) k ∧ h (51 + (n + 1)) k ≤ 100000) (ht : -1 ≤ h 48 6 ∧ h 48 6 ≤ 3) : zQ (d + 5) 35 [.inr (.inr (some 81)), .inl 1, .inr (.inr (some 48))] (zs h hl) (fun r σ' => ∃ (l : Nat) (tr : Int), zPkR 1 L (zCov L sp pp) (fun l => h 57 l) (fun l => h 59 l + h 57 l) (fun l => h (51 + (n + 1)) (Int.toNat (h 20 (zwd (zStn L sp) l pp))) + h 57 l) (h 48 6) l tr ∧ r = some (.inl (l : Int)) ∧ σ' = zs h (zup hl 81 0 (hl 81 0 + tr))) := by
  have hp6 := hS.2.1
  have hs6 : ∀ i : Nat, i < L → sp i < 6 := fun i hi => Nat.lt_of_lt_of_le (hsp6 i hi) hp6
  refine zQ_of (Nat.le_of_ble_eq_true rfl) ?_
  show zH (d + 4) 35 (0, [some (.inr (.inr (some 81))), some (.inl 1), some (.inr (.inr (some 48)))], [], (zs h hl)) _
  refine zH_go 1 (c' := (1, [some (.inr (.inr (some 81))), some (.inl 1), some (.inr (.inr (some 48)))], [.inl 1], (zs h hl))) rfl ?_
  refine zH_sw rfl ⟨by decide, by decide⟩ (tgt := 28) rfl ?_
  show zH _ _ (28, [some (.inr (.inr (some 81))), some (.inl 1), some (.inr (.inr (some 48)))], [], (zs h hl)) _
  refine zH_go 2 (c' := (30, [some (.inr (.inr (some 81))), some (.inl 1), some (.inr (.inr (some 48)))], [.inr (.inr (some 48)), .inr (.inr (some 81))], (zs h hl))) rfl ?_
  refine zH_call (M' := 37) (as := [.inr (.inr (some 81)), .inr (.inr (some 48))]) (T := []) rfl (p_evenT hL3 hL hf (pp := pp) (sp := sp) (by omega) h7 hsp hs6 hw) (fun r σ' p_1 => ?_)
  rcases p_1 with ⟨hc, l, hl1, rfl, rfl⟩ | ⟨hc, l, hl1, rfl, rfl⟩
  · show zH _ _ (33, [some (.inr (.inr (some 81))), some (.inl 1), some (.inr (.inr (some 48)))], [.inl (l : Int)], (zs h (zup hl 81 0 (hl 81 0 + 11)))) _
    refine zH_ret (v := some (.inl (l : Int))) rfl (fun q => absurd q (by decide)) ?_
    exact ⟨l, 11, Or.inr (Or.inl ⟨rfl, hc, hl1, rfl⟩), rfl, rfl⟩
  · show zH _ _ (33, [some (.inr (.inr (some 81))), some (.inl 1), some (.inr (.inr (some 48)))], [.inl (l : Int)], (zs h (zup hl 81 0 (hl 81 0 + 10)))) _
    refine zH_ret (v := some (.inl (l : Int))) rfl (fun q => absurd q (by decide)) ?_
    exact ⟨l, 10, Or.inr (Or.inr (Or.inl ⟨rfl, hc, hl1, rfl⟩)), rfl, rfl⟩
set_option maxRecDepth 100000 in
set_option maxHeartbeats 4000000 in
theorem p_pickT2 {d : Nat} {h hl : Nat → Nat → Int} {L : Nat} (hL3 : 1 ≤ L ∧ L ≤ 3) (hL : h 48 3 = (L : Int)) (hf : ∀ l : Nat, l < 3 → 0 ≤ h 57 l ∧ h 57 l ≤ 1000000) {pp : Nat} {sp : Nat → Nat} (h7 : h 48 7 = (pp : Int)) (hsp : ∀ i : Nat, i < L → h 58 i = ((sp i : Nat) : Int)) (hw : ∀ l : Nat, l < 3 → 0 ≤ h 59 l ∧ h 59 l ≤ 1000000) {p n : Nat} (hS : zSI h p L) (hn : h 48 4 = (n : Int)) (hn2 : n < 4) (hpp : pp < p) (hsp6 : ∀ i : Nat, i < L → sp i < p) (hA : ∀ k : Nat, (k : Int) < h 18 2 → 0 ≤ h (51 + (n + 1)) k ∧ h (51 + (n + 1)) k ≤ 100000) (ht : -1 ≤ h 48 6 ∧ h 48 6 ≤ 3) : zQ (d + 5) 35 [.inr (.inr (some 81)), .inl 2, .inr (.inr (some 48))] (zs h hl) (fun r σ' => ∃ (l : Nat) (tr : Int), zPkR 2 L (zCov L sp pp) (fun l => h 57 l) (fun l => h 59 l + h 57 l) (fun l => h (51 + (n + 1)) (Int.toNat (h 20 (zwd (zStn L sp) l pp))) + h 57 l) (h 48 6) l tr ∧ r = some (.inl (l : Int)) ∧ σ' = zs h (zup hl 81 0 (hl 81 0 + tr))) := by
  have hp6 := hS.2.1
  have hs6 : ∀ i : Nat, i < L → sp i < 6 := fun i hi => Nat.lt_of_lt_of_le (hsp6 i hi) hp6
  refine zQ_of (Nat.le_of_ble_eq_true rfl) ?_
  show zH (d + 4) 35 (0, [some (.inr (.inr (some 81))), some (.inl 2), some (.inr (.inr (some 48)))], [], (zs h hl)) _
  refine zH_go 1 (c' := (1, [some (.inr (.inr (some 81))), some (.inl 2), some (.inr (.inr (some 48)))], [.inl 2], (zs h hl))) rfl ?_
  refine zH_sw rfl ⟨by decide, by decide⟩ (tgt := 34) rfl ?_
  show zH _ _ (34, [some (.inr (.inr (some 81))), some (.inl 2), some (.inr (.inr (some 48)))], [], (zs h hl)) _
  refine zH_go 2 (c' := (36, [some (.inr (.inr (some 81))), some (.inl 2), some (.inr (.inr (some 48)))], [.inr (.inr (some 48)), .inr (.inr (some 81))], (zs h hl))) rfl ?_
  refine zH_call (M' := 38) (as := [.inr (.inr (some 81)), .inr (.inr (some 48))]) (T := []) rfl (p_turnT hL3 hL hf (pp := pp) (sp := sp) (by omega) h7 hsp hs6 ht) (fun r σ' p_1 => ?_)
  rcases p_1 with ⟨hc, l, hl1, rfl, rfl⟩ | ⟨hc, l, hl1, rfl, rfl⟩
  · show zH _ _ (39, [some (.inr (.inr (some 81))), some (.inl 2), some (.inr (.inr (some 48)))], [.inl (l : Int)], (zs h (zup hl 81 0 (hl 81 0 + 101)))) _
    refine zH_ret (v := some (.inl (l : Int))) rfl (fun q => absurd q (by decide)) ?_
    exact ⟨l, 101, Or.inr (Or.inr (Or.inr (Or.inl ⟨rfl, hc, hl1, rfl⟩))), rfl, rfl⟩
  · show zH _ _ (39, [some (.inr (.inr (some 81))), some (.inl 2), some (.inr (.inr (some 48)))], [.inl (l : Int)], (zs h (zup hl 81 0 (hl 81 0 + 100)))) _
    refine zH_ret (v := some (.inl (l : Int))) rfl (fun q => absurd q (by decide)) ?_
    exact ⟨l, 100, Or.inr (Or.inr (Or.inr (Or.inr (Or.inl ⟨rfl, hc, hl1, rfl⟩)))), rfl, rfl⟩
set_option maxRecDepth 100000 in
set_option maxHeartbeats 4000000 in
theorem p_pickT3 {d : Nat} {h hl : Nat → Nat → Int} {L : Nat} (hL3 : 1 ≤ L ∧ L ≤ 3) (hL : h 48 3 = (L : Int)) (hf : ∀ l : Nat, l < 3 → 0 ≤ h 57 l ∧ h 57 l ≤ 1000000) {pp : Nat} {sp : Nat → Nat} (h7 : h 48 7 = (pp : Int)) (hsp : ∀ i : Nat, i < L → h 58 i = ((sp i : Nat) : Int)) (hw : ∀ l : Nat, l < 3 → 0 ≤ h 59 l ∧ h 59 l ≤ 1000000) {p n : Nat} (hS : zSI h p L) (hn : h 48 4 = (n : Int)) (hn2 : n < 4) (hpp : pp < p) (hsp6 : ∀ i : Nat, i < L → sp i < p) (hA : ∀ k : Nat, (k : Int) < h 18 2 → 0 ≤ h (51 + (n + 1)) k ∧ h (51 + (n + 1)) k ≤ 100000) (ht : -1 ≤ h 48 6 ∧ h 48 6 ≤ 3) : zQ (d + 5) 35 [.inr (.inr (some 81)), .inl 3, .inr (.inr (some 48))] (zs h hl) (fun r σ' => ∃ (l : Nat) (tr : Int), zPkR 3 L (zCov L sp pp) (fun l => h 57 l) (fun l => h 59 l + h 57 l) (fun l => h (51 + (n + 1)) (Int.toNat (h 20 (zwd (zStn L sp) l pp))) + h 57 l) (h 48 6) l tr ∧ r = some (.inl (l : Int)) ∧ σ' = zs h (zup hl 81 0 (hl 81 0 + tr))) := by
  have hp6 := hS.2.1
  have hs6 : ∀ i : Nat, i < L → sp i < 6 := fun i hi => Nat.lt_of_lt_of_le (hsp6 i hi) hp6
  refine zQ_of (Nat.le_of_ble_eq_true rfl) ?_
  show zH (d + 4) 35 (0, [some (.inr (.inr (some 81))), some (.inl 3), some (.inr (.inr (some 48)))], [], (zs h hl)) _
  refine zH_go 1 (c' := (1, [some (.inr (.inr (some 81))), some (.inl 3), some (.inr (.inr (some 48)))], [.inl 3], (zs h hl))) rfl ?_
  refine zH_sw rfl ⟨by decide, by decide⟩ (tgt := 40) rfl ?_
  show zH _ _ (40, [some (.inr (.inr (some 81))), some (.inl 3), some (.inr (.inr (some 48)))], [], (zs h hl)) _
  refine zH_go 2 (c' := (42, [some (.inr (.inr (some 81))), some (.inl 3), some (.inr (.inr (some 48)))], [.inr (.inr (some 48)), .inr (.inr (some 81))], (zs h hl))) rfl ?_
  refine zH_call (M' := 39) (as := [.inr (.inr (some 81)), .inr (.inr (some 48))]) (T := []) rfl (p_aheadT hL3 hL hf h7 hsp hw hS hn hn2 hpp hsp6 hA) (fun r σ' p_1 => ?_)
  rcases p_1 with ⟨hc, l, hl1, rfl, rfl⟩ | ⟨hc, hl0, l, hl1, rfl, rfl⟩ | ⟨hc, hl0, l, hl1, rfl, rfl⟩
  · show zH _ _ (45, [some (.inr (.inr (some 81))), some (.inl 3), some (.inr (.inr (some 48)))], [.inl (l : Int)], (zs h (zup hl 81 0 (hl 81 0 + 1001)))) _
    refine zH_ret (v := some (.inl (l : Int))) rfl (fun q => absurd q (by decide)) ?_
    exact ⟨l, 1001, Or.inr (Or.inr (Or.inr (Or.inr (Or.inr (Or.inl ⟨rfl, hc, hl1, rfl⟩))))), rfl, rfl⟩
  · show zH _ _ (45, [some (.inr (.inr (some 81))), some (.inl 3), some (.inr (.inr (some 48)))], [.inl (l : Int)], (zs h (zup hl 81 0 (hl 81 0 + 1010)))) _
    refine zH_ret (v := some (.inl (l : Int))) rfl (fun q => absurd q (by decide)) ?_
    exact ⟨l, 1010, Or.inr (Or.inr (Or.inr (Or.inr (Or.inr (Or.inr (Or.inl ⟨rfl, hc, hl0, hl1, rfl⟩)))))), rfl, rfl⟩
  · show zH _ _ (45, [some (.inr (.inr (some 81))), some (.inl 3), some (.inr (.inr (some 48)))], [.inl (l : Int)], (zs h (zup hl 81 0 (hl 81 0 + 1000)))) _
    refine zH_ret (v := some (.inl (l : Int))) rfl (fun q => absurd q (by decide)) ?_
    exact ⟨l, 1000, Or.inr (Or.inr (Or.inr (Or.inr (Or.inr (Or.inr (Or.inr ⟨rfl, hc, hl0, hl1, rfl⟩)))))), rfl, rfl⟩
theorem p_pickT {d : Nat} {h hl : Nat → Nat → Int} {K : Int} (hK : 0 ≤ K ∧ K ≤ 3) {L : Nat} (hL3 : 1 ≤ L ∧ L ≤ 3) (hL : h 48 3 = (L : Int)) (hf : ∀ l : Nat, l < 3 → 0 ≤ h 57 l ∧ h 57 l ≤ 1000000) {pp : Nat} {sp : Nat → Nat} (h7 : h 48 7 = (pp : Int)) (hsp : ∀ i : Nat, i < L → h 58 i = ((sp i : Nat) : Int)) (hw : ∀ l : Nat, l < 3 → 0 ≤ h 59 l ∧ h 59 l ≤ 1000000) {p n : Nat} (hS : zSI h p L) (hn : h 48 4 = (n : Int)) (hn2 : n < 4) (hpp : pp < p) (hsp6 : ∀ i : Nat, i < L → sp i < p) (hA : ∀ k : Nat, (k : Int) < h 18 2 → 0 ≤ h (51 + (n + 1)) k ∧ h (51 + (n + 1)) k ≤ 100000) (ht : -1 ≤ h 48 6 ∧ h 48 6 ≤ 3) : zQ (d + 5) 35 [.inr (.inr (some 81)), .inl K, .inr (.inr (some 48))] (zs h hl) (fun r σ' => ∃ (l : Nat) (tr : Int), zPkR K L (zCov L sp pp) (fun l => h 57 l) (fun l => h 59 l + h 57 l) (fun l => h (51 + (n + 1)) (Int.toNat (h 20 (zwd (zStn L sp) l pp))) + h 57 l) (h 48 6) l tr ∧ r = some (.inl (l : Int)) ∧ σ' = zs h (zup hl 81 0 (hl 81 0 + tr))) := by
  rcases (show K = 0 ∨ K = 1 ∨ K = 2 ∨ K = 3 by omega) with rfl | rfl | rfl | rfl
  · exact p_pickT0 hL3 hL hf h7 hsp hw hS hn hn2 hpp hsp6 hA ht
  · exact p_pickT1 hL3 hL hf h7 hsp hw hS hn hn2 hpp hsp6 hA ht
  · exact p_pickT2 hL3 hL hf h7 hsp hw hS hn hn2 hpp hsp6 hA ht
  · exact p_pickT3 hL3 hL hf h7 hsp hw hS hn hn2 hpp hsp6 hA ht
