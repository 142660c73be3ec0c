/-! LadderCalls: roads and calls out of books. -/
theorem zMe_ov {g m : Nat → Nat → Int} (h : zMe (zov g m)) : zMe g := by
  obtain ⟨a, b, c⟩ := h
  refine ⟨fun i hi => ?_, fun i j hi hj => ?_, fun i j k hi hj hk => ?_⟩
  · have := a i hi
    rw [zov_l (show 12 + i < 104 by omega)] at this
    exact this
  · have := b i j hi hj
    rw [zov_l (show 12 + i < 104 by omega), zov_l (show 12 + j < 104 by omega)] at this
    exact this
  · have := c i j k hi hj hk
    rw [zov_l (show 12 + i < 104 by omega), zov_l (show 12 + j < 104 by omega)] at this
    exact this
theorem zTB_ov {g m : Nat → Nat → Int} (h : zTB (zov g m)) : zTB g := fun i j hi hj => by
  have := h i j hi hj
  rw [zov_l (show 12 + i < 104 by omega), zov_l (show 5 + i < 104 by omega)] at this
  exact this
theorem zRDec_0 {p on rr sz a b c : Int} (h : zRDec p on rr sz a b c 0) : 3 ≤ sz ∧ (((0 ≤ a ∧ a < p) ∧ 0 ≤ b ∧ b < p) ∧ a ≠ b ∧ 1 ≤ c ∧ c ≤ 100) ∧ ¬ 0 < on ∧ rr < 15 := by
  unfold zRDec at h
  omega
theorem zRDec_b {p on rr sz a b c x : Int} (h : zRDec p on rr sz a b c x) : -12 ≤ x ∧ x ≤ 0 := by
  unfold zRDec at h
  omega
theorem zNoRd_b {h : Nat → Nat → Int} {a b c x : Int} (hx : zNoRd h a b c x) : -3 ≤ x ∧ x ≤ 0 := by
  unfold zNoRd at hx
  omega
theorem zNoRd_D {h : Nat → Nat → Int} {a b c x sz : Int} (hx : zNoRd h a b c x) (hz : 3 ≤ sz) : zRDec (h 3 0) (h 21 3) (h 3 1) sz a b c x := by
  rcases hx with ⟨q, e⟩ | ⟨q, q2, e⟩ | ⟨q, q2, q3, e⟩ | ⟨q, q2, q3, e⟩
  · exact Or.inr (Or.inr (Or.inl ⟨hz, q, e⟩))
  · exact Or.inr (Or.inr (Or.inr (Or.inl ⟨hz, q, q2, e⟩)))
  · exact Or.inr (Or.inr (Or.inr (Or.inr (Or.inl ⟨hz, q, q2, q3, e⟩))))
  · exact Or.inr (Or.inr (Or.inr (Or.inr (Or.inr ⟨hz, q, q2, q3, e⟩))))
set_option maxRecDepth 100000 in
set_option maxHeartbeats 4000000 in
theorem p_rf0 {d : Nat} {h hl : Nat → Nat → Int} {j : Nat} (hj : (j : Int) < h 83 1) (hR : -1 ≤ h 83 1 ∧ h 83 1 ≤ 4) (hZ : ∀ q : Nat, q < 4 → -1 ≤ h 84 q ∧ h 84 q ≤ 8) (hV : ∀ q i : Nat, q < 4 → i < 8 → zrl (hl (86 + q) i)) (hP : 0 ≤ h 3 0 ∧ h 3 0 ≤ 6) (hMe : zMe h) (hTB : zTB h) (h31 : 0 ≤ h 3 1 ∧ h 3 1 ≤ 15) (hon : zr (h 21 3)) : zQ (d + 5) 95 [.inr (.inr (some 2)), .inr (.inr (some 83)), .inl (j : Int)] (zs h hl) (fun r' σ' => ∃ x : Int, zRDec (h 3 0) (h 21 3) (h 3 1) (h 84 j) (hl (86 + j) 0) (hl (86 + j) 1) (hl (86 + j) 2) x ∧ r' = some (.inl x) ∧ ((¬ x = 0 ∧ σ' = zs h hl) ∨ (x = 0 ∧ ∃ u v : Nat, hl (86 + j) 0 = (u : Int) ∧ hl (86 + j) 1 = (v : Int) ∧ ∃ g : Nat → Nat → Int, σ' = zs g hl ∧ (∀ i q : Nat, i < 6 → q < 6 → g (12 + i) q = zGn h u v (hl (86 + j) 2) i q) ∧ (∀ i q : Nat, i < 6 → q < 6 → g (5 + i) q = if (i = u ∧ q = v) ∨ (i = v ∧ q = u) then min (h (5 + u) v) (hl (86 + j) 2) else h (5 + i) q) ∧ g 3 0 = h 3 0 ∧ g 3 1 = h 3 1 + 1 ∧ ∀ c : Nat, (c < 3 ∨ 18 ≤ c) → g c = h c))) := by
  refine zQ_of (Nat.le_of_ble_eq_true rfl) ?_
  show zH (d + 4) 95 (0, [some (.inr (.inr (some 2))), some (.inr (.inr (some 83))), some (.inl (j : Int)), none, none, none, none, none, none, none], [], (zs h hl)) _
  refine zH_go 2 (c' := (2, [some (.inr (.inr (some 2))), some (.inr (.inr (some 83))), some (.inl (j : Int)), none, none, none, none, none, none, none], [.inl (j : Int), .inr (.inr (some 83))], (zs h hl))) rfl ?_
  refine zH_call (M' := 5) (as := [.inr (.inr (some 83)), .inl (j : Int)]) (T := []) rfl (p_bWhy0 ⟨by omega, by omega⟩ hR hZ) (fun r' σ' pm => ?_)
  obtain ⟨x, hx, rfl, rfl⟩ := pm
  have hrw : zHasRow h 83 (j : Int) := ⟨by omega, by omega, by omega⟩
  have hx2 : (h 84 j < 0 ∧ x = -11) ∨ (0 ≤ h 84 j ∧ x = 0) := by
    rcases hx with ⟨q, -⟩ | ⟨-, q, -⟩ | ⟨-, -, q, e⟩ | ⟨-, -, q, e⟩
    · exfalso; omega
    · exact absurd hrw q
    · exact Or.inl ⟨q, e⟩
    · exact Or.inr ⟨q, e⟩
  show zH _ _ (5, [some (.inr (.inr (some 2))), some (.inr (.inr (some 83))), some (.inl (j : Int)), none, none, none, none, none, none, none], [.inl x], (zs h hl)) _
  refine zH_go 2 (c' := (7, [some (.inr (.inr (some 2))), some (.inr (.inr (some 83))), some (.inl (j : Int)), some (.inl x), none, none, none, none, none, none], [.inl x], (zs h hl))) rfl ?_
  refine zH_br (x := x) (y := 0) (k := .eq) (c1 := (12, [some (.inr (.inr (some 2))), some (.inr (.inr (some 83))), some (.inl (j : Int)), some (.inl x), none, none, none, none, none, none], [], (zs h hl))) (c2 := (10, [some (.inr (.inr (some 2))), some (.inr (.inr (some 83))), some (.inl (j : Int)), some (.inl x), none, none, none, none, none, none], [], (zs h hl))) rfl (by first | assumption | (unfold zr; omega)) ⟨by decide, by decide⟩ (fun (b_1 : x = 0) => ?_) (fun (b_1 : ¬ (x = 0)) => ?_)
  · refine zH_go 2 (c' := (14, [some (.inr (.inr (some 2))), some (.inr (.inr (some 83))), some (.inl (j : Int)), some (.inl x), none, none, none, none, none, none], [.inl (j : Int), .inr (.inr (some 83))], (zs h hl))) rfl ?_
    have hz0 : 0 ≤ h 84 j := by rcases hx2 with ⟨-, e⟩ | ⟨q, -⟩ <;> first | exact q | (exfalso; omega)
    clear hx hx2
    refine zH_call (M' := 4) (as := [.inr (.inr (some 83)), .inl (j : Int)]) (T := []) rfl (p_bSize0 ⟨by omega, by omega⟩ hR hZ) (fun r' σ' pm => ?_)
    obtain ⟨y, hy, rfl, rfl⟩ := pm
    have hyy : y = h 84 j := by rcases hy with ⟨-, e⟩ | ⟨e, -⟩ <;> first | exact e | exact absurd hrw e
    have hyb := hZ j (by omega)
    show zH _ _ (17, [some (.inr (.inr (some 2))), some (.inr (.inr (some 83))), some (.inl (j : Int)), some (.inl x), none, none, none, none, none, none], [.inl y], (zs h hl)) _
    refine zH_go 1 (c' := (18, [some (.inr (.inr (some 2))), some (.inr (.inr (some 83))), some (.inl (j : Int)), some (.inl x), none, none, none, none, none, none], [.inl 3, .inl y], (zs h hl))) rfl ?_
    refine zH_br (x := y) (y := 3) (k := .ge) (c1 := (24, [some (.inr (.inr (some 2))), some (.inr (.inr (some 83))), some (.inl (j : Int)), some (.inl x), none, none, none, none, none, none], [], (zs h hl))) (c2 := (21, [some (.inr (.inr (some 2))), some (.inr (.inr (some 83))), some (.inl (j : Int)), some (.inl x), none, none, none, none, none, none], [], (zs h hl))) rfl (by first | assumption | (unfold zr; omega)) ⟨by decide, by decide⟩ (fun (b_2 : ¬ y < 3) => ?_) (fun (b_2 : ¬ (¬ y < 3)) => ?_)
    · refine zH_go 3 (c' := (27, [some (.inr (.inr (some 2))), some (.inr (.inr (some 83))), some (.inl (j : Int)), some (.inl x), none, none, none, none, none, none], [.inl 0, .inl (j : Int), .inr (.inr (some 83))], (zs h hl))) rfl ?_
      have hnum0 : zHasNum h 83 84 (j : Int) 0 := ⟨hrw, by decide, by show 0 < h 84 j; omega, by decide⟩
      refine zH_call (M' := 9) (as := [.inr (.inr (some 83)), .inl (j : Int), .inl 0]) (T := []) rfl (p_bRead0 ⟨by omega, by omega⟩ ⟨by decide, by decide⟩ hR hZ) (fun r' σ' pm => ?_)
      obtain ⟨a, hy0, rfl, rfl⟩ := pm
      have ea : a = hl (86 + j) 0 := by rcases hy0 with ⟨-, e⟩ | ⟨e, -⟩ <;> first | exact e | exact absurd hnum0 e
      have za : zrl a := by rw [ea]; exact hV j 0 (by omega) (by decide)
      show zH _ _ (30, [some (.inr (.inr (some 2))), some (.inr (.inr (some 83))), some (.inl (j : Int)), some (.inl x), none, none, none, none, none, none], [.inr (.inl a)], (zs h hl)) _
      refine zH_go 4 (c' := (35, [some (.inr (.inr (some 2))), some (.inr (.inr (some 83))), some (.inl (j : Int)), some (.inl x), some (.inr (.inl a)), none, none, none, none, none], [.inl 1, .inl (j : Int), .inr (.inr (some 83))], (zs h hl))) rfl ?_
      have hnum1 : zHasNum h 83 84 (j : Int) 1 := ⟨hrw, by decide, by show 1 < h 84 j; omega, by decide⟩
      refine zH_call (M' := 9) (as := [.inr (.inr (some 83)), .inl (j : Int), .inl 1]) (T := []) rfl (p_bRead0 ⟨by omega, by omega⟩ ⟨by decide, by decide⟩ hR hZ) (fun r' σ' pm => ?_)
      obtain ⟨b, hy1, rfl, rfl⟩ := pm
      have eb : b = hl (86 + j) 1 := by rcases hy1 with ⟨-, e⟩ | ⟨e, -⟩ <;> first | exact e | exact absurd hnum1 e
      have zb : zrl b := by rw [eb]; exact hV j 1 (by omega) (by decide)
      show zH _ _ (38, [some (.inr (.inr (some 2))), some (.inr (.inr (some 83))), some (.inl (j : Int)), some (.inl x), some (.inr (.inl a)), none, none, none, none, none], [.inr (.inl b)], (zs h hl)) _
      refine zH_go 4 (c' := (43, [some (.inr (.inr (some 2))), some (.inr (.inr (some 83))), some (.inl (j : Int)), some (.inl x), some (.inr (.inl a)), none, some (.inr (.inl b)), none, none, none], [.inl 2, .inl (j : Int), .inr (.inr (some 83))], (zs h hl))) rfl ?_
      have hnum2 : zHasNum h 83 84 (j : Int) 2 := ⟨hrw, by decide, by show 2 < h 84 j; omega, by decide⟩
      refine zH_call (M' := 9) (as := [.inr (.inr (some 83)), .inl (j : Int), .inl 2]) (T := []) rfl (p_bRead0 ⟨by omega, by omega⟩ ⟨by decide, by decide⟩ hR hZ) (fun r' σ' pm => ?_)
      obtain ⟨c, hy2, rfl, rfl⟩ := pm
      have ec : c = hl (86 + j) 2 := by rcases hy2 with ⟨-, e⟩ | ⟨e, -⟩ <;> first | exact e | exact absurd hnum2 e
      have zc : zrl c := by rw [ec]; exact hV j 2 (by omega) (by decide)
      show zH _ _ (46, [some (.inr (.inr (some 2))), some (.inr (.inr (some 83))), some (.inl (j : Int)), some (.inl x), some (.inr (.inl a)), none, some (.inr (.inl b)), none, none, none], [.inr (.inl c)], (zs h hl)) _
      refine zH_go 2 (c' := (50, [some (.inr (.inr (some 2))), some (.inr (.inr (some 83))), some (.inl (j : Int)), some (.inl x), some (.inr (.inl a)), none, some (.inr (.inl b)), none, some (.inr (.inl c)), none], [.inr (.inl a)], (zs h hl))) rfl ?_
      refine zH_call (M' := 96) (as := [.inr (.inl a)]) (T := []) rfl (p_fits za) (fun r σ' p_3 => ?_)
      rcases p_3 with ⟨rfl, b_4, rfl⟩ | ⟨rfl, b_4, rfl⟩
      · show zH _ _ (53, [some (.inr (.inr (some 2))), some (.inr (.inr (some 83))), some (.inl (j : Int)), some (.inl x), some (.inr (.inl a)), none, some (.inr (.inl b)), none, some (.inr (.inl c)), none], [.inl 1], (zs h hl)) _
        refine zH_bf (x := 1) (y := 0) (k := .eq) (c1 := (72, [some (.inr (.inr (some 2))), some (.inr (.inr (some 83))), some (.inl (j : Int)), some (.inl x), some (.inr (.inl a)), none, some (.inr (.inl b)), none, some (.inr (.inl c)), none], [], (zs h hl))) (c2 := (56, [some (.inr (.inr (some 2))), some (.inr (.inr (some 83))), some (.inl (j : Int)), some (.inl x), some (.inr (.inl a)), none, some (.inr (.inl b)), none, some (.inr (.inl c)), none], [], (zs h hl))) rfl ⟨by decide, by decide⟩ ⟨by decide, by decide⟩ (by show ¬ (1 = 0); decide) ?_
        refine zH_go 1 (c' := (58, [some (.inr (.inr (some 2))), some (.inr (.inr (some 83))), some (.inl (j : Int)), some (.inl x), some (.inr (.inl a)), none, some (.inr (.inl b)), none, some (.inr (.inl c)), none], [.inr (.inl b)], (zs h hl))) rfl ?_
        refine zH_call (M' := 96) (as := [.inr (.inl b)]) (T := []) rfl (p_fits zb) (fun r σ' p_5 => ?_)
        rcases p_5 with ⟨rfl, b_6, rfl⟩ | ⟨rfl, b_6, rfl⟩
        · show zH _ _ (61, [some (.inr (.inr (some 2))), some (.inr (.inr (some 83))), some (.inl (j : Int)), some (.inl x), some (.inr (.inl a)), none, some (.inr (.inl b)), none, some (.inr (.inl c)), none], [.inl 1], (zs h hl)) _
          refine zH_bf (x := 1) (y := 0) (k := .eq) (c1 := (72, [some (.inr (.inr (some 2))), some (.inr (.inr (some 83))), some (.inl (j : Int)), some (.inl x), some (.inr (.inl a)), none, some (.inr (.inl b)), none, some (.inr (.inl c)), none], [], (zs h hl))) (c2 := (64, [some (.inr (.inr (some 2))), some (.inr (.inr (some 83))), some (.inl (j : Int)), some (.inl x), some (.inr (.inl a)), none, some (.inr (.inl b)), none, some (.inr (.inl c)), none], [], (zs h hl))) rfl ⟨by decide, by decide⟩ ⟨by decide, by decide⟩ (by show ¬ (1 = 0); decide) ?_
          refine zH_go 1 (c' := (66, [some (.inr (.inr (some 2))), some (.inr (.inr (some 83))), some (.inl (j : Int)), some (.inl x), some (.inr (.inl a)), none, some (.inr (.inl b)), none, some (.inr (.inl c)), none], [.inr (.inl c)], (zs h hl))) rfl ?_
          refine zH_call (M' := 96) (as := [.inr (.inl c)]) (T := []) rfl (p_fits zc) (fun r σ' p_7 => ?_)
          rcases p_7 with ⟨rfl, b_8, rfl⟩ | ⟨rfl, b_8, rfl⟩
          · show zH _ _ (69, [some (.inr (.inr (some 2))), some (.inr (.inr (some 83))), some (.inl (j : Int)), some (.inl x), some (.inr (.inl a)), none, some (.inr (.inl b)), none, some (.inr (.inl c)), none], [.inl 1], (zs h hl)) _
            refine zH_bt (x := 1) (y := 0) (k := .ne) (c1 := (74, [some (.inr (.inr (some 2))), some (.inr (.inr (some 83))), some (.inl (j : Int)), some (.inl x), some (.inr (.inl a)), none, some (.inr (.inl b)), none, some (.inr (.inl c)), none], [], (zs h hl))) (c2 := (72, [some (.inr (.inr (some 2))), some (.inr (.inr (some 83))), some (.inl (j : Int)), some (.inl x), some (.inr (.inl a)), none, some (.inr (.inl b)), none, some (.inr (.inl c)), none], [], (zs h hl))) rfl ⟨by decide, by decide⟩ ⟨by decide, by decide⟩ (by show ¬ 1 = 0; decide) ?_
            refine zH_go 7 (c' := (84, [some (.inr (.inr (some 2))), some (.inr (.inr (some 83))), some (.inl (j : Int)), some (.inl x), some (.inr (.inl a)), none, some (.inr (.inl b)), none, some (.inr (.inl c)), none], [.inl (Int.bmod c 4294967296), .inl (Int.bmod b 4294967296), .inl (Int.bmod a 4294967296), .inr (.inr (some 2))], (zs h hl))) rfl ?_
            rw [zbm_id (show zr a by assumption)]
            rw [zbm_id (show zr b by assumption)]
            rw [zbm_id (show zr c by assumption)]
            refine zH_call (M' := 66) (as := [.inr (.inr (some 2)), .inl a, .inl b, .inl c]) (T := []) rfl (p_noRoad (by assumption) (by assumption) (by assumption) h31 hP hon) (fun r' σ' pm => ?_)
            obtain ⟨w, hw, rfl, rfl⟩ := pm
            have hwr := zNoRd_b hw
            have hdw := zNoRd_D hw (show 3 ≤ h 84 j by omega)
            clear hw
            show zH _ _ (87, [some (.inr (.inr (some 2))), some (.inr (.inr (some 83))), some (.inl (j : Int)), some (.inl x), some (.inr (.inl a)), none, some (.inr (.inl b)), none, some (.inr (.inl c)), none], [.inl w], (zs h hl)) _
            refine zH_go 2 (c' := (89, [some (.inr (.inr (some 2))), some (.inr (.inr (some 83))), some (.inl (j : Int)), some (.inl w), some (.inr (.inl a)), none, some (.inr (.inl b)), none, some (.inr (.inl c)), none], [.inl w], (zs h hl))) rfl ?_
            refine zH_br (x := w) (y := 0) (k := .ne) (c1 := (109, [some (.inr (.inr (some 2))), some (.inr (.inr (some 83))), some (.inl (j : Int)), some (.inl w), some (.inr (.inl a)), none, some (.inr (.inl b)), none, some (.inr (.inl c)), none], [], (zs h hl))) (c2 := (92, [some (.inr (.inr (some 2))), some (.inr (.inr (some 83))), some (.inl (j : Int)), some (.inl w), some (.inr (.inl a)), none, some (.inr (.inl b)), none, some (.inr (.inl c)), none], [], (zs h hl))) rfl (by first | assumption | (unfold zr; omega)) ⟨by decide, by decide⟩ (fun (b_9 : ¬ w = 0) => ?_) (fun (b_9 : ¬ (¬ w = 0)) => ?_)
            · refine zH_go 1 (c' := (110, [some (.inr (.inr (some 2))), some (.inr (.inr (some 83))), some (.inl (j : Int)), some (.inl w), some (.inr (.inl a)), none, some (.inr (.inl b)), none, some (.inr (.inl c)), none], [.inl w], (zs h hl))) rfl ?_
              refine zH_ret (v := some (.inl w)) rfl (fun q => absurd q (by decide)) ?_
              rw [← ea, ← eb, ← ec]
              exact ⟨w, hdw, rfl, Or.inl ⟨by assumption, rfl⟩⟩
            · obtain rfl : w = 0 := by omega
              have hok := zRDec_0 hdw
              obtain ⟨u, rfl⟩ := Int.eq_ofNat_of_zero_le (show 0 ≤ a by omega)
              obtain ⟨v, rfl⟩ := Int.eq_ofNat_of_zero_le (show 0 ≤ b by omega)
              show zH _ _ (92, [some (.inr (.inr (some 2))), some (.inr (.inr (some 83))), some (.inl (j : Int)), some (.inl 0), some (.inr (.inl (u : Int))), none, some (.inr (.inl (v : Int))), none, some (.inr (.inl c)), none], [], (zs h hl)) _
              refine zH_go 8 (c' := (105, [some (.inr (.inr (some 2))), some (.inr (.inr (some 83))), some (.inl (j : Int)), some (.inl 0), some (.inr (.inl (u : Int))), none, some (.inr (.inl (v : Int))), none, some (.inr (.inl c)), none], [.inl (Int.bmod c 4294967296), .inl (Int.bmod (v : Int) 4294967296), .inl (Int.bmod (u : Int) 4294967296), .inr (.inr (some 3))], (zs h hl))) rfl ?_
              rw [zbm_id (show zr (u : Int) by first | assumption | exact ⟨by omega, by omega⟩)]
              rw [zbm_id (show zr (v : Int) by first | assumption | exact ⟨by omega, by omega⟩)]
              rw [zbm_id (show zr c by first | assumption | exact ⟨by omega, by omega⟩)]
              refine zH_call (M' := 51) (as := [.inr (.inr (some 3)), .inl (u : Int), .inl (v : Int), .inl c]) (T := []) rfl (p_addRoad (a := u) (b := v) (by omega) (by omega) (by omega) (by omega) (by omega) hP hMe hTB) (fun r' σ' pm => ?_)
              obtain ⟨rfl, g, rfl, pm2⟩ := pm
              show zH _ _ (108, [some (.inr (.inr (some 2))), some (.inr (.inr (some 83))), some (.inl (j : Int)), some (.inl 0), some (.inr (.inl (u : Int))), none, some (.inr (.inl (v : Int))), none, some (.inr (.inl c)), none], [.inl (h 3 1 + 1)], (zs g hl)) _
              refine zH_go 2 (c' := (110, [some (.inr (.inr (some 2))), some (.inr (.inr (some 83))), some (.inl (j : Int)), some (.inl 0), some (.inr (.inl (u : Int))), none, some (.inr (.inl (v : Int))), none, some (.inr (.inl c)), none], [.inl 0], (zs g hl))) rfl ?_
              refine zH_ret (v := some (.inl 0)) rfl (fun q => absurd q (by decide)) ?_
              rw [← ea, ← eb, ← ec]
              exact ⟨_, hdw, rfl, Or.inr ⟨rfl, u, v, rfl, rfl, g, rfl, pm2⟩⟩
          · show zH _ _ (69, [some (.inr (.inr (some 2))), some (.inr (.inr (some 83))), some (.inl (j : Int)), some (.inl x), some (.inr (.inl a)), none, some (.inr (.inl b)), none, some (.inr (.inl c)), none], [.inl 0], (zs h hl)) _
            refine zH_bf (x := 0) (y := 0) (k := .ne) (c1 := (74, [some (.inr (.inr (some 2))), some (.inr (.inr (some 83))), some (.inl (j : Int)), some (.inl x), some (.inr (.inl a)), none, some (.inr (.inl b)), none, some (.inr (.inl c)), none], [], (zs h hl))) (c2 := (72, [some (.inr (.inr (some 2))), some (.inr (.inr (some 83))), some (.inl (j : Int)), some (.inl x), some (.inr (.inl a)), none, some (.inr (.inl b)), none, some (.inr (.inl c)), none], [], (zs h hl))) rfl ⟨by decide, by decide⟩ ⟨by decide, by decide⟩ (by show ¬ (¬ 0 = 0); decide) ?_
            have hz9 : ¬ (((0 ≤ a ∧ a < h 3 0) ∧ 0 ≤ b ∧ b < h 3 0) ∧ a ≠ b ∧ 1 ≤ c ∧ c ≤ 100) := fun q => by
              have qa : zr a := ⟨by omega, by omega⟩
              have qb : zr b := ⟨by omega, by omega⟩
              have qc : zr c := ⟨by omega, by omega⟩
              first | exact absurd qa (by assumption) | exact absurd qb (by assumption) | exact absurd qc (by assumption)
            refine zH_go 1 (c' := (73, [some (.inr (.inr (some 2))), some (.inr (.inr (some 83))), some (.inl (j : Int)), some (.inl x), some (.inr (.inl a)), none, some (.inr (.inl b)), none, some (.inr (.inl c)), none], [.inl (-1)], (zs h hl))) rfl ?_
            refine zH_ret (v := some (.inl (-1))) rfl (fun q => absurd q (by decide)) ?_
            rw [← ea, ← eb, ← ec]
            exact ⟨_, Or.inr (Or.inr (Or.inl ⟨by omega, hz9, rfl⟩)), rfl, Or.inl ⟨by decide, rfl⟩⟩
        · show zH _ _ (61, [some (.inr (.inr (some 2))), some (.inr (.inr (some 83))), some (.inl (j : Int)), some (.inl x), some (.inr (.inl a)), none, some (.inr (.inl b)), none, some (.inr (.inl c)), none], [.inl 0], (zs h hl)) _
          refine zH_bt (x := 0) (y := 0) (k := .eq) (c1 := (72, [some (.inr (.inr (some 2))), some (.inr (.inr (some 83))), some (.inl (j : Int)), some (.inl x), some (.inr (.inl a)), none, some (.inr (.inl b)), none, some (.inr (.inl c)), none], [], (zs h hl))) (c2 := (64, [some (.inr (.inr (some 2))), some (.inr (.inr (some 83))), some (.inl (j : Int)), some (.inl x), some (.inr (.inl a)), none, some (.inr (.inl b)), none, some (.inr (.inl c)), none], [], (zs h hl))) rfl ⟨by decide, by decide⟩ ⟨by decide, by decide⟩ (by show 0 = 0; decide) ?_
          have hz9 : ¬ (((0 ≤ a ∧ a < h 3 0) ∧ 0 ≤ b ∧ b < h 3 0) ∧ a ≠ b ∧ 1 ≤ c ∧ c ≤ 100) := fun q => by
            have qa : zr a := ⟨by omega, by omega⟩
            have qb : zr b := ⟨by omega, by omega⟩
            have qc : zr c := ⟨by omega, by omega⟩
            first | exact absurd qa (by assumption) | exact absurd qb (by assumption) | exact absurd qc (by assumption)
          refine zH_go 1 (c' := (73, [some (.inr (.inr (some 2))), some (.inr (.inr (some 83))), some (.inl (j : Int)), some (.inl x), some (.inr (.inl a)), none, some (.inr (.inl b)), none, some (.inr (.inl c)), none], [.inl (-1)], (zs h hl))) rfl ?_
          refine zH_ret (v := some (.inl (-1))) rfl (fun q => absurd q (by decide)) ?_
          rw [← ea, ← eb, ← ec]
          exact ⟨_, Or.inr (Or.inr (Or.inl ⟨by omega, hz9, rfl⟩)), rfl, Or.inl ⟨by decide, rfl⟩⟩
      · show zH _ _ (53, [some (.inr (.inr (some 2))), some (.inr (.inr (some 83))), some (.inl (j : Int)), some (.inl x), some (.inr (.inl a)), none, some (.inr (.inl b)), none, some (.inr (.inl c)), none], [.inl 0], (zs h hl)) _
        refine zH_bt (x := 0) (y := 0) (k := .eq) (c1 := (72, [some (.inr (.inr (some 2))), some (.inr (.inr (some 83))), some (.inl (j : Int)), some (.inl x), some (.inr (.inl a)), none, some (.inr (.inl b)), none, some (.inr (.inl c)), none], [], (zs h hl))) (c2 := (56, [some (.inr (.inr (some 2))), some (.inr (.inr (some 83))), some (.inl (j : Int)), some (.inl x), some (.inr (.inl a)), none, some (.inr (.inl b)), none, some (.inr (.inl c)), none], [], (zs h hl))) rfl ⟨by decide, by decide⟩ ⟨by decide, by decide⟩ (by show 0 = 0; decide) ?_
        have hz9 : ¬ (((0 ≤ a ∧ a < h 3 0) ∧ 0 ≤ b ∧ b < h 3 0) ∧ a ≠ b ∧ 1 ≤ c ∧ c ≤ 100) := fun q => by
          have qa : zr a := ⟨by omega, by omega⟩
          have qb : zr b := ⟨by omega, by omega⟩
          have qc : zr c := ⟨by omega, by omega⟩
          first | exact absurd qa (by assumption) | exact absurd qb (by assumption) | exact absurd qc (by assumption)
        refine zH_go 1 (c' := (73, [some (.inr (.inr (some 2))), some (.inr (.inr (some 83))), some (.inl (j : Int)), some (.inl x), some (.inr (.inl a)), none, some (.inr (.inl b)), none, some (.inr (.inl c)), none], [.inl (-1)], (zs h hl))) rfl ?_
        refine zH_ret (v := some (.inl (-1))) rfl (fun q => absurd q (by decide)) ?_
        rw [← ea, ← eb, ← ec]
        exact ⟨_, Or.inr (Or.inr (Or.inl ⟨by omega, hz9, rfl⟩)), rfl, Or.inl ⟨by decide, rfl⟩⟩
    · refine zH_go 1 (c' := (23, [some (.inr (.inr (some 2))), some (.inr (.inr (some 83))), some (.inl (j : Int)), some (.inl x), none, none, none, none, none, none], [.inl (-12)], (zs h hl))) rfl ?_
      refine zH_ret (v := some (.inl (-12))) rfl (fun q => absurd q (by decide)) ?_
      exact ⟨_, Or.inr (Or.inl ⟨hz0, by omega, rfl⟩), rfl, Or.inl ⟨by decide, rfl⟩⟩
  · refine zH_go 1 (c' := (11, [some (.inr (.inr (some 2))), some (.inr (.inr (some 83))), some (.inl (j : Int)), some (.inl x), none, none, none, none, none, none], [.inl x], (zs h hl))) rfl ?_
    refine zH_ret (v := some (.inl x)) rfl (fun q => absurd q (by decide)) ?_
    exact ⟨x, by rcases hx2 with ⟨q, e⟩ | ⟨q, e⟩ <;> first | exact Or.inl ⟨q, e⟩ | exact absurd e (by assumption), rfl, Or.inl ⟨by assumption, rfl⟩⟩
set_option maxRecDepth 100000 in
set_option maxHeartbeats 4000000 in
theorem p_roads0 {d : Nat} {h hl : Nat → Nat → Int} {p r : Nat} (hW : zTown h p r) (hon : zr (h 21 3)) (hR : -1 ≤ h 83 1 ∧ h 83 1 ≤ 4) (hZ : ∀ q : Nat, q < 4 → -1 ≤ h 84 q ∧ h 84 q ≤ 8) (hV : ∀ q i : Nat, q < 4 → i < 8 → zrl (hl (86 + q) i)) : zQ (d + 6) 90 [.inr (.inr (some 2)), .inl 0] (zs h hl) (fun r' σ' => (h 83 1 < 0 ∧ r' = some (.inl 0) ∧ σ' = zs (zup h 2 8 (-11)) hl) ∨ ∃ (R J : Nat) (x : Int) (g : Nat → Nat → Int), h 83 1 = (R : Int) ∧ r' = some (.inl (J : Int)) ∧ σ' = zs (zup g 2 8 x) hl ∧ zTown (zov g (zAR h (fun q i => hl (86 + q) i) r J)) p (r + J) ∧ (∀ c : Nat, c < 3 ∨ 18 ≤ c → g c = h c) ∧ (∀ q : Nat, q < J → zRDec (h 3 0) (h 21 3) ((r + q : Nat) : Int) (h 84 q) (hl (86 + q) 0) (hl (86 + q) 1) (hl (86 + q) 2) 0) ∧ ((J = R ∧ x = 0) ∨ (J < R ∧ ¬ x = 0 ∧ zRDec (h 3 0) (h 21 3) ((r + J : Nat) : Int) (h 84 J) (hl (86 + J) 0) (hl (86 + J) 1) (hl (86 + J) 2) x))) := by
  have hWc := hW
  obtain ⟨hp6, hr15, h30, h31, hp3, hr4, hMe, hTB, hCn, hPo, hRd, hLk, hGr⟩ := hWc
  have hP : 0 ≤ h 3 0 ∧ h 3 0 ≤ 6 := by omega
  refine zQ_of (Nat.le_of_ble_eq_true rfl) ?_
  show zH (d + 5) 90 (0, [some (.inr (.inr (some 2))), some (.inl 0), none, none, none, none], [], (zs h hl)) _
  refine zH_go 1 (c' := (1, [some (.inr (.inr (some 2))), some (.inl 0), none, none, none, none], [.inl 0], (zs h hl))) rfl ?_
  refine zH_call (M' := 92) (as := [.inl 0]) (T := []) rfl (p_isBook ⟨by decide, by decide⟩) (fun r' σ' pm => ?_)
  obtain ⟨rfl, rfl⟩ : r' = some (.inl 1) ∧ σ' = _ := by rcases pm with ⟨a, -, b⟩ | ⟨-, b, -⟩ <;> first | exact ⟨a, b⟩ | (exfalso; omega)
  show zH _ _ (4, [some (.inr (.inr (some 2))), some (.inl 0), none, none, none, none], [.inl 1], (zs h hl)) _
  refine zH_bt (x := 1) (y := 0) (k := .ne) (c1 := (13, [some (.inr (.inr (some 2))), some (.inl 0), none, none, none, none], [], (zs h hl))) (c2 := (7, [some (.inr (.inr (some 2))), some (.inl 0), none, none, none, none], [], (zs h hl))) rfl ⟨by decide, by decide⟩ ⟨by decide, by decide⟩ (by show ¬ 1 = 0; decide) ?_
  refine zH_go 3 (c' := (18, [some (.inr (.inr (some 2))), some (.inl 0), none, none, none, none], [.inl 0, .inr (.inr (some 82))], (zs h hl))) rfl ?_
  refine zH_np (P := 0 ≤ 0 ∧ 0 < ((3 : Nat) : Int)) (c' := (19, [some (.inr (.inr (some 2))), some (.inl 0), none, none, none, none], [.inr (.inr (some 83))], (zs h hl))) rfl ⟨by decide, by decide⟩ ?_
  refine zH_go 2 (c' := (21, [some (.inr (.inr (some 2))), some (.inl 0), some (.inr (.inr (some 83))), none, none, none], [.inr (.inr (some 83))], (zs h hl))) rfl ?_
  refine zH_call (M' := 1) (as := [.inr (.inr (some 83))]) (T := []) rfl (p_bThere0 hR) (fun r σ' p_1 => ?_)
  rcases p_1 with ⟨rfl, b_2, rfl⟩ | ⟨rfl, b_2, rfl⟩
  · show zH _ _ (24, [some (.inr (.inr (some 2))), some (.inl 0), some (.inr (.inr (some 83))), none, none, none], [.inl 1], (zs h hl)) _
    refine zH_bf (x := 1) (y := 0) (k := .eq) (c1 := (31, [some (.inr (.inr (some 2))), some (.inl 0), some (.inr (.inr (some 83))), none, none, none], [], (zs h hl))) (c2 := (27, [some (.inr (.inr (some 2))), some (.inl 0), some (.inr (.inr (some 83))), none, none, none], [], (zs h hl))) rfl ⟨by decide, by decide⟩ ⟨by decide, by decide⟩ (by show ¬ (1 = 0); decide) ?_
    refine zH_go 7 (c' := (40, [some (.inr (.inr (some 2))), some (.inl 0), some (.inr (.inr (some 83))), some (.inl 0), some (.inl 0), some (.inl 0)], [], (zs h hl))) rfl ?_
    obtain ⟨R, hRR⟩ := Int.eq_ofNat_of_zero_le (show 0 ≤ h 83 1 by assumption)
    refine zH_lp (X := (Nat → Nat → Int)) (F := fun (kq : Nat) (x : (Nat → Nat → Int)) => (40, [some (.inr (.inr (some 2))), some (.inl 0), some (.inr (.inr (some 83))), some (.inl 0), some (.inl (kq : Int)), some (.inl (kq : Int))], [], (zs x hl))) (I := fun (kq : Nat) (x : (Nat → Nat → Int)) => zTown (zov x (zAR h (fun q i => hl (86 + q) i) r kq)) p (r + kq) ∧ (∀ c : Nat, c < 3 ∨ 18 ≤ c → x c = h c) ∧ ∀ q : Nat, q < kq → zRDec (h 3 0) (h 21 3) ((r + q : Nat) : Int) (h 84 q) (hl (86 + q) 0) (hl (86 + q) 1) (hl (86 + q) 2) 0) (N := R) (fun k g hk hI ih => ?_) (fun g hI => ?_) 0 h (by omega) ?_
    · skip
      replace hI : zTown (zov g (zAR h (fun q i => hl (86 + q) i) r k)) p (r + k) ∧ (∀ c : Nat, c < 3 ∨ 18 ≤ c → g c = h c) ∧ ∀ q : Nat, q < k → zRDec (h 3 0) (h 21 3) ((r + q : Nat) : Int) (h 84 q) (hl (86 + q) 0) (hl (86 + q) 1) (hl (86 + q) 2) 0 := hI
      show zH _ _ (40, [some (.inr (.inr (some 2))), some (.inl 0), some (.inr (.inr (some 83))), some (.inl 0), some (.inl (k : Int)), some (.inl (k : Int))], [], (zs g hl)) _
      have gR : g 83 1 = (R : Int) := by rw [hI.2.1 83 (by decide)]; exact hRR
      have hWg := hI.1
      obtain ⟨gp6, gr15, g30, g31, gp3, gr4, gMe, gTB, gCn, gPo, gRd, gLk, gGr⟩ := hWg
      rw [zov_l (show 3 < 104 by decide)] at g30 g31
      have gMe2 := zMe_ov gMe
      have gTB2 := zTB_ov gTB
      have gZ : g 84 = h 84 := hI.2.1 84 (by decide)
      have g21 : g 21 = h 21 := hI.2.1 21 (by decide)
      refine zH_go 1 (c' := (41, [some (.inr (.inr (some 2))), some (.inl 0), some (.inr (.inr (some 83))), some (.inl 0), some (.inl (k : Int)), some (.inl (k : Int))], [.inl 0], (zs g hl))) rfl ?_
      refine zH_bf (x := 0) (y := 0) (k := .ne) (c1 := (74, [some (.inr (.inr (some 2))), some (.inl 0), some (.inr (.inr (some 83))), some (.inl 0), some (.inl (k : Int)), some (.inl (k : Int))], [], (zs g hl))) (c2 := (44, [some (.inr (.inr (some 2))), some (.inl 0), some (.inr (.inr (some 83))), some (.inl 0), some (.inl (k : Int)), some (.inl (k : Int))], [], (zs g hl))) rfl ⟨by decide, by decide⟩ ⟨by decide, by decide⟩ (by show ¬ (¬ 0 = 0); decide) ?_
      refine zH_go 3 (c' := (50, [some (.inr (.inr (some 2))), some (.inl 0), some (.inr (.inr (some 83))), some (.inl 0), some (.inl (k : Int)), some (.inl (k : Int))], [.inl (g 83 1), .inl (k : Int)], (zs g hl))) rfl ?_
      rw [gR]
      refine zH_bf (x := (k : Int)) (y := (R : Int)) (k := .ge) (c1 := (74, [some (.inr (.inr (some 2))), some (.inl 0), some (.inr (.inr (some 83))), some (.inl 0), some (.inl (k : Int)), some (.inl (k : Int))], [], (zs g hl))) (c2 := (53, [some (.inr (.inr (some 2))), some (.inl 0), some (.inr (.inr (some 83))), some (.inl 0), some (.inl (k : Int)), some (.inl (k : Int))], [], (zs g hl))) rfl (by first | assumption | (unfold zr; omega)) (by first | assumption | (unfold zr; omega)) (by show ¬ (¬ (k : Int) < (R : Int)); omega) ?_
      refine zH_go 3 (c' := (57, [some (.inr (.inr (some 2))), some (.inl 0), some (.inr (.inr (some 83))), some (.inl 0), some (.inl (k : Int)), some (.inl (k : Int))], [.inl (k : Int), .inr (.inr (some 83)), .inr (.inr (some 2))], (zs g hl))) rfl ?_
      refine zH_call (M' := 95) (as := [.inr (.inr (some 2)), .inr (.inr (some 83)), .inl (k : Int)]) (T := []) rfl (p_rf0 (j := k) (by rw [gR]; omega) (by rw [gR]; omega) (by rw [gZ]; exact hZ) hV (by omega) gMe2 gTB2 (by omega) (by rw [g21]; exact hon)) (fun r' σ' pm => ?_)
      obtain ⟨x, hx, rfl, hcase⟩ := pm
      rw [g30, g31, gZ, g21, ← h30] at hx
      have hxr := zRDec_b hx
      rcases hcase with ⟨hx0, rfl⟩ | ⟨hx0, u, v, eu, ev, g', rfl, pm2⟩
      · show zH _ _ (60, [some (.inr (.inr (some 2))), some (.inl 0), some (.inr (.inr (some 83))), some (.inl 0), some (.inl (k : Int)), some (.inl (k : Int))], [.inl x], (zs g hl)) _
        refine zH_go 2 (c' := (62, [some (.inr (.inr (some 2))), some (.inl 0), some (.inr (.inr (some 83))), some (.inl x), some (.inl (k : Int)), some (.inl (k : Int))], [.inl x], (zs g hl))) rfl ?_
        refine zH_bt (x := x) (y := 0) (k := .ne) (c1 := (68, [some (.inr (.inr (some 2))), some (.inl 0), some (.inr (.inr (some 83))), some (.inl x), some (.inl (k : Int)), some (.inl (k : Int))], [], (zs g hl))) (c2 := (65, [some (.inr (.inr (some 2))), some (.inl 0), some (.inr (.inr (some 83))), some (.inl x), some (.inl (k : Int)), some (.inl (k : Int))], [], (zs g hl))) rfl (by first | assumption | (unfold zr; omega)) ⟨by decide, by decide⟩ (by show ¬ x = 0; omega) ?_
        refine zH_go 2 (c' := (40, [some (.inr (.inr (some 2))), some (.inl 0), some (.inr (.inr (some 83))), some (.inl x), some (.inl (k : Int)), some (.inl ((k : Int) + 1))], [], (zs g hl))) rfl ?_
        refine zH_go 1 (c' := (41, [some (.inr (.inr (some 2))), some (.inl 0), some (.inr (.inr (some 83))), some (.inl x), some (.inl (k : Int)), some (.inl ((k : Int) + 1))], [.inl x], (zs g hl))) rfl ?_
        refine zH_bt (x := x) (y := 0) (k := .ne) (c1 := (74, [some (.inr (.inr (some 2))), some (.inl 0), some (.inr (.inr (some 83))), some (.inl x), some (.inl (k : Int)), some (.inl ((k : Int) + 1))], [], (zs g hl))) (c2 := (44, [some (.inr (.inr (some 2))), some (.inl 0), some (.inr (.inr (some 83))), some (.inl x), some (.inl (k : Int)), some (.inl ((k : Int) + 1))], [], (zs g hl))) rfl (by first | assumption | (unfold zr; omega)) ⟨by decide, by decide⟩ (by show ¬ x = 0; omega) ?_
        refine zH_go 4 (c' := (81, [some (.inr (.inr (some 2))), some (.inl 0), some (.inr (.inr (some 83))), some (.inl x), some (.inl (k : Int)), some (.inl ((k : Int) + 1))], [.inl (k : Int)], (zs (zup g 2 8 x) hl))) rfl ?_
        refine zH_ret (v := some (.inl (k : Int))) rfl (fun q => absurd q (by decide)) ?_
        exact Or.inr ⟨R, k, x, g, hRR, rfl, rfl, hI.1, hI.2.1, hI.2.2, Or.inr ⟨hk, hx0, hx⟩⟩
      · obtain rfl : x = 0 := hx0
        show zH _ _ (60, [some (.inr (.inr (some 2))), some (.inl 0), some (.inr (.inr (some 83))), some (.inl 0), some (.inl (k : Int)), some (.inl (k : Int))], [.inl 0], (zs g' hl)) _
        refine zH_go 2 (c' := (62, [some (.inr (.inr (some 2))), some (.inl 0), some (.inr (.inr (some 83))), some (.inl 0), some (.inl (k : Int)), some (.inl (k : Int))], [.inl 0], (zs g' hl))) rfl ?_
        refine zH_bf (x := 0) (y := 0) (k := .ne) (c1 := (68, [some (.inr (.inr (some 2))), some (.inl 0), some (.inr (.inr (some 83))), some (.inl 0), some (.inl (k : Int)), some (.inl (k : Int))], [], (zs g' hl))) (c2 := (65, [some (.inr (.inr (some 2))), some (.inl 0), some (.inr (.inr (some 83))), some (.inl 0), some (.inl (k : Int)), some (.inl (k : Int))], [], (zs g' hl))) rfl ⟨by decide, by decide⟩ ⟨by decide, by decide⟩ (by show ¬ (¬ 0 = 0); decide) ?_
        refine zH_go 3 (c' := (40, [some (.inr (.inr (some 2))), some (.inl 0), some (.inr (.inr (some 83))), some (.inl 0), some (.inl ((k : Int) + 1)), some (.inl ((k : Int) + 1))], [], (zs g' hl))) rfl ?_
        refine ih g' ?_
        show zTown (zov g' (zAR h (fun q i => hl (86 + q) i) r (k + 1))) p (r + (k + 1)) ∧ (∀ c : Nat, c < 3 ∨ 18 ≤ c → g' c = h c) ∧ ∀ q : Nat, q < (k + 1) → zRDec (h 3 0) (h 21 3) ((r + q : Nat) : Int) (h 84 q) (hl (86 + q) 0) (hl (86 + q) 1) (hl (86 + q) 2) 0
        have hok := zRDec_0 hx
        rw [eu, ev] at hok
        refine ⟨zTown_AR (g := g) (a := u) (b := v) hI.1 hr4 (by omega) (by omega) (by omega) (by omega) (len := hl (86 + k) 2) hok.2.1.2.2 eu ev rfl ⟨pm2.1, pm2.2.1, pm2.2.2.1, pm2.2.2.2.1⟩, fun c hc => by rw [pm2.2.2.2.2 c hc]; exact hI.2.1 c hc, fun q hq => ?_⟩
        by_cases w : q = k
        · rw [w]; exact hx
        · exact hI.2.2 q (by omega)
    · skip
      replace hI : zTown (zov g (zAR h (fun q i => hl (86 + q) i) r R)) p (r + R) ∧ (∀ c : Nat, c < 3 ∨ 18 ≤ c → g c = h c) ∧ ∀ q : Nat, q < R → zRDec (h 3 0) (h 21 3) ((r + q : Nat) : Int) (h 84 q) (hl (86 + q) 0) (hl (86 + q) 1) (hl (86 + q) 2) 0 := hI
      show zH _ _ (40, [some (.inr (.inr (some 2))), some (.inl 0), some (.inr (.inr (some 83))), some (.inl 0), some (.inl (R : Int)), some (.inl (R : Int))], [], (zs g hl)) _
      have gR : g 83 1 = (R : Int) := by rw [hI.2.1 83 (by decide)]; exact hRR
      refine zH_go 1 (c' := (41, [some (.inr (.inr (some 2))), some (.inl 0), some (.inr (.inr (some 83))), some (.inl 0), some (.inl (R : Int)), some (.inl (R : Int))], [.inl 0], (zs g hl))) rfl ?_
      refine zH_bf (x := 0) (y := 0) (k := .ne) (c1 := (74, [some (.inr (.inr (some 2))), some (.inl 0), some (.inr (.inr (some 83))), some (.inl 0), some (.inl (R : Int)), some (.inl (R : Int))], [], (zs g hl))) (c2 := (44, [some (.inr (.inr (some 2))), some (.inl 0), some (.inr (.inr (some 83))), some (.inl 0), some (.inl (R : Int)), some (.inl (R : Int))], [], (zs g hl))) rfl ⟨by decide, by decide⟩ ⟨by decide, by decide⟩ (by show ¬ (¬ 0 = 0); decide) ?_
      refine zH_go 3 (c' := (50, [some (.inr (.inr (some 2))), some (.inl 0), some (.inr (.inr (some 83))), some (.inl 0), some (.inl (R : Int)), some (.inl (R : Int))], [.inl (g 83 1), .inl (R : Int)], (zs g hl))) rfl ?_
      rw [gR]
      refine zH_bt (x := (R : Int)) (y := (R : Int)) (k := .ge) (c1 := (74, [some (.inr (.inr (some 2))), some (.inl 0), some (.inr (.inr (some 83))), some (.inl 0), some (.inl (R : Int)), some (.inl (R : Int))], [], (zs g hl))) (c2 := (53, [some (.inr (.inr (some 2))), some (.inl 0), some (.inr (.inr (some 83))), some (.inl 0), some (.inl (R : Int)), some (.inl (R : Int))], [], (zs g hl))) rfl (by first | assumption | (unfold zr; omega)) (by first | assumption | (unfold zr; omega)) (by show ¬ (R : Int) < (R : Int); omega) ?_
      refine zH_go 4 (c' := (81, [some (.inr (.inr (some 2))), some (.inl 0), some (.inr (.inr (some 83))), some (.inl 0), some (.inl (R : Int)), some (.inl (R : Int))], [.inl (R : Int)], (zs (zup g 2 8 0) hl))) rfl ?_
      refine zH_ret (v := some (.inl (R : Int))) rfl (fun q => absurd q (by decide)) ?_
      exact Or.inr ⟨R, R, 0, g, hRR, rfl, rfl, hI.1, hI.2.1, hI.2.2, Or.inl ⟨rfl, rfl⟩⟩
    · show zTown (zov h (zAR h (fun q i => hl (86 + q) i) r 0)) p (r + 0) ∧ (∀ c : Nat, c < 3 ∨ 18 ≤ c → h c = h c) ∧ ∀ q : Nat, q < 0 → zRDec (h 3 0) (h 21 3) ((r + q : Nat) : Int) (h 84 q) (hl (86 + q) 0) (hl (86 + q) 1) (hl (86 + q) 2) 0
      exact ⟨zTown_same hW (fun c hc => zov_l (by omega)) ⟨congrFun (zov_r (Nat.le_refl 104)) 3, congrFun (zov_r (Nat.le_refl 104)) 4⟩ ⟨zov_r (by decide), zov_r (by decide), zov_r (by decide)⟩, fun c hc => rfl, fun q hq => absurd hq (Nat.not_lt_zero q)⟩
  · show zH _ _ (24, [some (.inr (.inr (some 2))), some (.inl 0), some (.inr (.inr (some 83))), none, none, none], [.inl 0], (zs h hl)) _
    refine zH_bt (x := 0) (y := 0) (k := .eq) (c1 := (31, [some (.inr (.inr (some 2))), some (.inl 0), some (.inr (.inr (some 83))), none, none, none], [], (zs h hl))) (c2 := (27, [some (.inr (.inr (some 2))), some (.inl 0), some (.inr (.inr (some 83))), none, none, none], [], (zs h hl))) rfl ⟨by decide, by decide⟩ ⟨by decide, by decide⟩ (by show 0 = 0; decide) ?_
    refine zH_go 6 (c' := (40, [some (.inr (.inr (some 2))), some (.inl 0), some (.inr (.inr (some 83))), some (.inl (-11)), some (.inl 0), some (.inl 0)], [], (zs h hl))) rfl ?_
    refine zH_go 1 (c' := (41, [some (.inr (.inr (some 2))), some (.inl 0), some (.inr (.inr (some 83))), some (.inl (-11)), some (.inl 0), some (.inl 0)], [.inl (-11)], (zs h hl))) rfl ?_
    refine zH_bt (x := (-11)) (y := 0) (k := .ne) (c1 := (74, [some (.inr (.inr (some 2))), some (.inl 0), some (.inr (.inr (some 83))), some (.inl (-11)), some (.inl 0), some (.inl 0)], [], (zs h hl))) (c2 := (44, [some (.inr (.inr (some 2))), some (.inl 0), some (.inr (.inr (some 83))), some (.inl (-11)), some (.inl 0), some (.inl 0)], [], (zs h hl))) rfl ⟨by decide, by decide⟩ ⟨by decide, by decide⟩ (by show ¬ (-11) = 0; decide) ?_
    refine zH_go 4 (c' := (81, [some (.inr (.inr (some 2))), some (.inl 0), some (.inr (.inr (some 83))), some (.inl (-11)), some (.inl 0), some (.inl 0)], [.inl 0], (zs (zup h 2 8 (-11)) hl))) rfl ?_
    refine zH_ret (v := some (.inl 0)) rfl (fun q => absurd q (by decide)) ?_
    exact Or.inl ⟨by omega, rfl, rfl⟩
set_option maxRecDepth 100000 in
set_option maxHeartbeats 4000000 in
theorem p_rf1 {d : Nat} {h hl : Nat → Nat → Int} {j : Nat} (hj : (j : Int) < h 90 1) (hR : -1 ≤ h 90 1 ∧ h 90 1 ≤ 4) (hZ : ∀ q : Nat, q < 4 → -1 ≤ h 91 q ∧ h 91 q ≤ 8) (hV : ∀ q i : Nat, q < 4 → i < 8 → zrl (hl (93 + q) i)) (hP : 0 ≤ h 3 0 ∧ h 3 0 ≤ 6) (hMe : zMe h) (hTB : zTB h) (h31 : 0 ≤ h 3 1 ∧ h 3 1 ≤ 15) (hon : zr (h 21 3)) : zQ (d + 5) 95 [.inr (.inr (some 2)), .inr (.inr (some 90)), .inl (j : Int)] (zs h hl) (fun r' σ' => ∃ x : Int, zRDec (h 3 0) (h 21 3) (h 3 1) (h 91 j) (hl (93 + j) 0) (hl (93 + j) 1) (hl (93 + j) 2) x ∧ r' = some (.inl x) ∧ ((¬ x = 0 ∧ σ' = zs h hl) ∨ (x = 0 ∧ ∃ u v : Nat, hl (93 + j) 0 = (u : Int) ∧ hl (93 + j) 1 = (v : Int) ∧ ∃ g : Nat → Nat → Int, σ' = zs g hl ∧ (∀ i q : Nat, i < 6 → q < 6 → g (12 + i) q = zGn h u v (hl (93 + j) 2) i q) ∧ (∀ i q : Nat, i < 6 → q < 6 → g (5 + i) q = if (i = u ∧ q = v) ∨ (i = v ∧ q = u) then min (h (5 + u) v) (hl (93 + j) 2) else h (5 + i) q) ∧ g 3 0 = h 3 0 ∧ g 3 1 = h 3 1 + 1 ∧ ∀ c : Nat, (c < 3 ∨ 18 ≤ c) → g c = h c))) := by
  refine zQ_of (Nat.le_of_ble_eq_true rfl) ?_
  show zH (d + 4) 95 (0, [some (.inr (.inr (some 2))), some (.inr (.inr (some 90))), some (.inl (j : Int)), none, none, none, none, none, none, none], [], (zs h hl)) _
  refine zH_go 2 (c' := (2, [some (.inr (.inr (some 2))), some (.inr (.inr (some 90))), some (.inl (j : Int)), none, none, none, none, none, none, none], [.inl (j : Int), .inr (.inr (some 90))], (zs h hl))) rfl ?_
  refine zH_call (M' := 5) (as := [.inr (.inr (some 90)), .inl (j : Int)]) (T := []) rfl (p_bWhy1 ⟨by omega, by omega⟩ hR hZ) (fun r' σ' pm => ?_)
  obtain ⟨x, hx, rfl, rfl⟩ := pm
  have hrw : zHasRow h 90 (j : Int) := ⟨by omega, by omega, by omega⟩
  have hx2 : (h 91 j < 0 ∧ x = -11) ∨ (0 ≤ h 91 j ∧ x = 0) := by
    rcases hx with ⟨q, -⟩ | ⟨-, q, -⟩ | ⟨-, -, q, e⟩ | ⟨-, -, q, e⟩
    · exfalso; omega
    · exact absurd hrw q
    · exact Or.inl ⟨q, e⟩
    · exact Or.inr ⟨q, e⟩
  show zH _ _ (5, [some (.inr (.inr (some 2))), some (.inr (.inr (some 90))), some (.inl (j : Int)), none, none, none, none, none, none, none], [.inl x], (zs h hl)) _
  refine zH_go 2 (c' := (7, [some (.inr (.inr (some 2))), some (.inr (.inr (some 90))), some (.inl (j : Int)), some (.inl x), none, none, none, none, none, none], [.inl x], (zs h hl))) rfl ?_
  refine zH_br (x := x) (y := 0) (k := .eq) (c1 := (12, [some (.inr (.inr (some 2))), some (.inr (.inr (some 90))), some (.inl (j : Int)), some (.inl x), none, none, none, none, none, none], [], (zs h hl))) (c2 := (10, [some (.inr (.inr (some 2))), some (.inr (.inr (some 90))), some (.inl (j : Int)), some (.inl x), none, none, none, none, none, none], [], (zs h hl))) rfl (by first | assumption | (unfold zr; omega)) ⟨by decide, by decide⟩ (fun (b_1 : x = 0) => ?_) (fun (b_1 : ¬ (x = 0)) => ?_)
  · refine zH_go 2 (c' := (14, [some (.inr (.inr (some 2))), some (.inr (.inr (some 90))), some (.inl (j : Int)), some (.inl x), none, none, none, none, none, none], [.inl (j : Int), .inr (.inr (some 90))], (zs h hl))) rfl ?_
    have hz0 : 0 ≤ h 91 j := by rcases hx2 with ⟨-, e⟩ | ⟨q, -⟩ <;> first | exact q | (exfalso; omega)
    clear hx hx2
    refine zH_call (M' := 4) (as := [.inr (.inr (some 90)), .inl (j : Int)]) (T := []) rfl (p_bSize1 ⟨by omega, by omega⟩ hR hZ) (fun r' σ' pm => ?_)
    obtain ⟨y, hy, rfl, rfl⟩ := pm
    have hyy : y = h 91 j := by rcases hy with ⟨-, e⟩ | ⟨e, -⟩ <;> first | exact e | exact absurd hrw e
    have hyb := hZ j (by omega)
    show zH _ _ (17, [some (.inr (.inr (some 2))), some (.inr (.inr (some 90))), some (.inl (j : Int)), some (.inl x), none, none, none, none, none, none], [.inl y], (zs h hl)) _
    refine zH_go 1 (c' := (18, [some (.inr (.inr (some 2))), some (.inr (.inr (some 90))), some (.inl (j : Int)), some (.inl x), none, none, none, none, none, none], [.inl 3, .inl y], (zs h hl))) rfl ?_
    refine zH_br (x := y) (y := 3) (k := .ge) (c1 := (24, [some (.inr (.inr (some 2))), some (.inr (.inr (some 90))), some (.inl (j : Int)), some (.inl x), none, none, none, none, none, none], [], (zs h hl))) (c2 := (21, [some (.inr (.inr (some 2))), some (.inr (.inr (some 90))), some (.inl (j : Int)), some (.inl x), none, none, none, none, none, none], [], (zs h hl))) rfl (by first | assumption | (unfold zr; omega)) ⟨by decide, by decide⟩ (fun (b_2 : ¬ y < 3) => ?_) (fun (b_2 : ¬ (¬ y < 3)) => ?_)
    · refine zH_go 3 (c' := (27, [some (.inr (.inr (some 2))), some (.inr (.inr (some 90))), some (.inl (j : Int)), some (.inl x), none, none, none, none, none, none], [.inl 0, .inl (j : Int), .inr (.inr (some 90))], (zs h hl))) rfl ?_
      have hnum0 : zHasNum h 90 91 (j : Int) 0 := ⟨hrw, by decide, by show 0 < h 91 j; omega, by decide⟩
      refine zH_call (M' := 9) (as := [.inr (.inr (some 90)), .inl (j : Int), .inl 0]) (T := []) rfl (p_bRead1 ⟨by omega, by omega⟩ ⟨by decide, by decide⟩ hR hZ) (fun r' σ' pm => ?_)
      obtain ⟨a, hy0, rfl, rfl⟩ := pm
      have ea : a = hl (93 + j) 0 := by rcases hy0 with ⟨-, e⟩ | ⟨e, -⟩ <;> first | exact e | exact absurd hnum0 e
      have za : zrl a := by rw [ea]; exact hV j 0 (by omega) (by decide)
      show zH _ _ (30, [some (.inr (.inr (some 2))), some (.inr (.inr (some 90))), some (.inl (j : Int)), some (.inl x), none, none, none, none, none, none], [.inr (.inl a)], (zs h hl)) _
      refine zH_go 4 (c' := (35, [some (.inr (.inr (some 2))), some (.inr (.inr (some 90))), some (.inl (j : Int)), some (.inl x), some (.inr (.inl a)), none, none, none, none, none], [.inl 1, .inl (j : Int), .inr (.inr (some 90))], (zs h hl))) rfl ?_
      have hnum1 : zHasNum h 90 91 (j : Int) 1 := ⟨hrw, by decide, by show 1 < h 91 j; omega, by decide⟩
      refine zH_call (M' := 9) (as := [.inr (.inr (some 90)), .inl (j : Int), .inl 1]) (T := []) rfl (p_bRead1 ⟨by omega, by omega⟩ ⟨by decide, by decide⟩ hR hZ) (fun r' σ' pm => ?_)
      obtain ⟨b, hy1, rfl, rfl⟩ := pm
      have eb : b = hl (93 + j) 1 := by rcases hy1 with ⟨-, e⟩ | ⟨e, -⟩ <;> first | exact e | exact absurd hnum1 e
      have zb : zrl b := by rw [eb]; exact hV j 1 (by omega) (by decide)
      show zH _ _ (38, [some (.inr (.inr (some 2))), some (.inr (.inr (some 90))), some (.inl (j : Int)), some (.inl x), some (.inr (.inl a)), none, none, none, none, none], [.inr (.inl b)], (zs h hl)) _
      refine zH_go 4 (c' := (43, [some (.inr (.inr (some 2))), some (.inr (.inr (some 90))), some (.inl (j : Int)), some (.inl x), some (.inr (.inl a)), none, some (.inr (.inl b)), none, none, none], [.inl 2, .inl (j : Int), .inr (.inr (some 90))], (zs h hl))) rfl ?_
      have hnum2 : zHasNum h 90 91 (j : Int) 2 := ⟨hrw, by decide, by show 2 < h 91 j; omega, by decide⟩
      refine zH_call (M' := 9) (as := [.inr (.inr (some 90)), .inl (j : Int), .inl 2]) (T := []) rfl (p_bRead1 ⟨by omega, by omega⟩ ⟨by decide, by decide⟩ hR hZ) (fun r' σ' pm => ?_)
      obtain ⟨c, hy2, rfl, rfl⟩ := pm
      have ec : c = hl (93 + j) 2 := by rcases hy2 with ⟨-, e⟩ | ⟨e, -⟩ <;> first | exact e | exact absurd hnum2 e
      have zc : zrl c := by rw [ec]; exact hV j 2 (by omega) (by decide)
      show zH _ _ (46, [some (.inr (.inr (some 2))), some (.inr (.inr (some 90))), some (.inl (j : Int)), some (.inl x), some (.inr (.inl a)), none, some (.inr (.inl b)), none, none, none], [.inr (.inl c)], (zs h hl)) _
      refine zH_go 2 (c' := (50, [some (.inr (.inr (some 2))), some (.inr (.inr (some 90))), some (.inl (j : Int)), some (.inl x), some (.inr (.inl a)), none, some (.inr (.inl b)), none, some (.inr (.inl c)), none], [.inr (.inl a)], (zs h hl))) rfl ?_
      refine zH_call (M' := 96) (as := [.inr (.inl a)]) (T := []) rfl (p_fits za) (fun r σ' p_3 => ?_)
      rcases p_3 with ⟨rfl, b_4, rfl⟩ | ⟨rfl, b_4, rfl⟩
      · show zH _ _ (53, [some (.inr (.inr (some 2))), some (.inr (.inr (some 90))), some (.inl (j : Int)), some (.inl x), some (.inr (.inl a)), none, some (.inr (.inl b)), none, some (.inr (.inl c)), none], [.inl 1], (zs h hl)) _
        refine zH_bf (x := 1) (y := 0) (k := .eq) (c1 := (72, [some (.inr (.inr (some 2))), some (.inr (.inr (some 90))), some (.inl (j : Int)), some (.inl x), some (.inr (.inl a)), none, some (.inr (.inl b)), none, some (.inr (.inl c)), none], [], (zs h hl))) (c2 := (56, [some (.inr (.inr (some 2))), some (.inr (.inr (some 90))), some (.inl (j : Int)), some (.inl x), some (.inr (.inl a)), none, some (.inr (.inl b)), none, some (.inr (.inl c)), none], [], (zs h hl))) rfl ⟨by decide, by decide⟩ ⟨by decide, by decide⟩ (by show ¬ (1 = 0); decide) ?_
        refine zH_go 1 (c' := (58, [some (.inr (.inr (some 2))), some (.inr (.inr (some 90))), some (.inl (j : Int)), some (.inl x), some (.inr (.inl a)), none, some (.inr (.inl b)), none, some (.inr (.inl c)), none], [.inr (.inl b)], (zs h hl))) rfl ?_
        refine zH_call (M' := 96) (as := [.inr (.inl b)]) (T := []) rfl (p_fits zb) (fun r σ' p_5 => ?_)
        rcases p_5 with ⟨rfl, b_6, rfl⟩ | ⟨rfl, b_6, rfl⟩
        · show zH _ _ (61, [some (.inr (.inr (some 2))), some (.inr (.inr (some 90))), some (.inl (j : Int)), some (.inl x), some (.inr (.inl a)), none, some (.inr (.inl b)), none, some (.inr (.inl c)), none], [.inl 1], (zs h hl)) _
          refine zH_bf (x := 1) (y := 0) (k := .eq) (c1 := (72, [some (.inr (.inr (some 2))), some (.inr (.inr (some 90))), some (.inl (j : Int)), some (.inl x), some (.inr (.inl a)), none, some (.inr (.inl b)), none, some (.inr (.inl c)), none], [], (zs h hl))) (c2 := (64, [some (.inr (.inr (some 2))), some (.inr (.inr (some 90))), some (.inl (j : Int)), some (.inl x), some (.inr (.inl a)), none, some (.inr (.inl b)), none, some (.inr (.inl c)), none], [], (zs h hl))) rfl ⟨by decide, by decide⟩ ⟨by decide, by decide⟩ (by show ¬ (1 = 0); decide) ?_
          refine zH_go 1 (c' := (66, [some (.inr (.inr (some 2))), some (.inr (.inr (some 90))), some (.inl (j : Int)), some (.inl x), some (.inr (.inl a)), none, some (.inr (.inl b)), none, some (.inr (.inl c)), none], [.inr (.inl c)], (zs h hl))) rfl ?_
          refine zH_call (M' := 96) (as := [.inr (.inl c)]) (T := []) rfl (p_fits zc) (fun r σ' p_7 => ?_)
          rcases p_7 with ⟨rfl, b_8, rfl⟩ | ⟨rfl, b_8, rfl⟩
          · show zH _ _ (69, [some (.inr (.inr (some 2))), some (.inr (.inr (some 90))), some (.inl (j : Int)), some (.inl x), some (.inr (.inl a)), none, some (.inr (.inl b)), none, some (.inr (.inl c)), none], [.inl 1], (zs h hl)) _
            refine zH_bt (x := 1) (y := 0) (k := .ne) (c1 := (74, [some (.inr (.inr (some 2))), some (.inr (.inr (some 90))), some (.inl (j : Int)), some (.inl x), some (.inr (.inl a)), none, some (.inr (.inl b)), none, some (.inr (.inl c)), none], [], (zs h hl))) (c2 := (72, [some (.inr (.inr (some 2))), some (.inr (.inr (some 90))), some (.inl (j : Int)), some (.inl x), some (.inr (.inl a)), none, some (.inr (.inl b)), none, some (.inr (.inl c)), none], [], (zs h hl))) rfl ⟨by decide, by decide⟩ ⟨by decide, by decide⟩ (by show ¬ 1 = 0; decide) ?_
            refine zH_go 7 (c' := (84, [some (.inr (.inr (some 2))), some (.inr (.inr (some 90))), some (.inl (j : Int)), some (.inl x), some (.inr (.inl a)), none, some (.inr (.inl b)), none, some (.inr (.inl c)), none], [.inl (Int.bmod c 4294967296), .inl (Int.bmod b 4294967296), .inl (Int.bmod a 4294967296), .inr (.inr (some 2))], (zs h hl))) rfl ?_
            rw [zbm_id (show zr a by assumption)]
            rw [zbm_id (show zr b by assumption)]
            rw [zbm_id (show zr c by assumption)]
            refine zH_call (M' := 66) (as := [.inr (.inr (some 2)), .inl a, .inl b, .inl c]) (T := []) rfl (p_noRoad (by assumption) (by assumption) (by assumption) h31 hP hon) (fun r' σ' pm => ?_)
            obtain ⟨w, hw, rfl, rfl⟩ := pm
            have hwr := zNoRd_b hw
            have hdw := zNoRd_D hw (show 3 ≤ h 91 j by omega)
            clear hw
            show zH _ _ (87, [some (.inr (.inr (some 2))), some (.inr (.inr (some 90))), some (.inl (j : Int)), some (.inl x), some (.inr (.inl a)), none, some (.inr (.inl b)), none, some (.inr (.inl c)), none], [.inl w], (zs h hl)) _
            refine zH_go 2 (c' := (89, [some (.inr (.inr (some 2))), some (.inr (.inr (some 90))), some (.inl (j : Int)), some (.inl w), some (.inr (.inl a)), none, some (.inr (.inl b)), none, some (.inr (.inl c)), none], [.inl w], (zs h hl))) rfl ?_
            refine zH_br (x := w) (y := 0) (k := .ne) (c1 := (109, [some (.inr (.inr (some 2))), some (.inr (.inr (some 90))), some (.inl (j : Int)), some (.inl w), some (.inr (.inl a)), none, some (.inr (.inl b)), none, some (.inr (.inl c)), none], [], (zs h hl))) (c2 := (92, [some (.inr (.inr (some 2))), some (.inr (.inr (some 90))), some (.inl (j : Int)), some (.inl w), some (.inr (.inl a)), none, some (.inr (.inl b)), none, some (.inr (.inl c)), none], [], (zs h hl))) rfl (by first | assumption | (unfold zr; omega)) ⟨by decide, by decide⟩ (fun (b_9 : ¬ w = 0) => ?_) (fun (b_9 : ¬ (¬ w = 0)) => ?_)
            · refine zH_go 1 (c' := (110, [some (.inr (.inr (some 2))), some (.inr (.inr (some 90))), some (.inl (j : Int)), some (.inl w), some (.inr (.inl a)), none, some (.inr (.inl b)), none, some (.inr (.inl c)), none], [.inl w], (zs h hl))) rfl ?_
              refine zH_ret (v := some (.inl w)) rfl (fun q => absurd q (by decide)) ?_
              rw [← ea, ← eb, ← ec]
              exact ⟨w, hdw, rfl, Or.inl ⟨by assumption, rfl⟩⟩
            · obtain rfl : w = 0 := by omega
              have hok := zRDec_0 hdw
              obtain ⟨u, rfl⟩ := Int.eq_ofNat_of_zero_le (show 0 ≤ a by omega)
              obtain ⟨v, rfl⟩ := Int.eq_ofNat_of_zero_le (show 0 ≤ b by omega)
              show zH _ _ (92, [some (.inr (.inr (some 2))), some (.inr (.inr (some 90))), some (.inl (j : Int)), some (.inl 0), some (.inr (.inl (u : Int))), none, some (.inr (.inl (v : Int))), none, some (.inr (.inl c)), none], [], (zs h hl)) _
              refine zH_go 8 (c' := (105, [some (.inr (.inr (some 2))), some (.inr (.inr (some 90))), some (.inl (j : Int)), some (.inl 0), some (.inr (.inl (u : Int))), none, some (.inr (.inl (v : Int))), none, some (.inr (.inl c)), none], [.inl (Int.bmod c 4294967296), .inl (Int.bmod (v : Int) 4294967296), .inl (Int.bmod (u : Int) 4294967296), .inr (.inr (some 3))], (zs h hl))) rfl ?_
              rw [zbm_id (show zr (u : Int) by first | assumption | exact ⟨by omega, by omega⟩)]
              rw [zbm_id (show zr (v : Int) by first | assumption | exact ⟨by omega, by omega⟩)]
              rw [zbm_id (show zr c by first | assumption | exact ⟨by omega, by omega⟩)]
              refine zH_call (M' := 51) (as := [.inr (.inr (some 3)), .inl (u : Int), .inl (v : Int), .inl c]) (T := []) rfl (p_addRoad (a := u) (b := v) (by omega) (by omega) (by omega) (by omega) (by omega) hP hMe hTB) (fun r' σ' pm => ?_)
              obtain ⟨rfl, g, rfl, pm2⟩ := pm
              show zH _ _ (108, [some (.inr (.inr (some 2))), some (.inr (.inr (some 90))), some (.inl (j : Int)), some (.inl 0), some (.inr (.inl (u : Int))), none, some (.inr (.inl (v : Int))), none, some (.inr (.inl c)), none], [.inl (h 3 1 + 1)], (zs g hl)) _
              refine zH_go 2 (c' := (110, [some (.inr (.inr (some 2))), some (.inr (.inr (some 90))), some (.inl (j : Int)), some (.inl 0), some (.inr (.inl (u : Int))), none, some (.inr (.inl (v : Int))), none, some (.inr (.inl c)), none], [.inl 0], (zs g hl))) rfl ?_
              refine zH_ret (v := some (.inl 0)) rfl (fun q => absurd q (by decide)) ?_
              rw [← ea, ← eb, ← ec]
              exact ⟨_, hdw, rfl, Or.inr ⟨rfl, u, v, rfl, rfl, g, rfl, pm2⟩⟩
          · show zH _ _ (69, [some (.inr (.inr (some 2))), some (.inr (.inr (some 90))), some (.inl (j : Int)), some (.inl x), some (.inr (.inl a)), none, some (.inr (.inl b)), none, some (.inr (.inl c)), none], [.inl 0], (zs h hl)) _
            refine zH_bf (x := 0) (y := 0) (k := .ne) (c1 := (74, [some (.inr (.inr (some 2))), some (.inr (.inr (some 90))), some (.inl (j : Int)), some (.inl x), some (.inr (.inl a)), none, some (.inr (.inl b)), none, some (.inr (.inl c)), none], [], (zs h hl))) (c2 := (72, [some (.inr (.inr (some 2))), some (.inr (.inr (some 90))), some (.inl (j : Int)), some (.inl x), some (.inr (.inl a)), none, some (.inr (.inl b)), none, some (.inr (.inl c)), none], [], (zs h hl))) rfl ⟨by decide, by decide⟩ ⟨by decide, by decide⟩ (by show ¬ (¬ 0 = 0); decide) ?_
            have hz9 : ¬ (((0 ≤ a ∧ a < h 3 0) ∧ 0 ≤ b ∧ b < h 3 0) ∧ a ≠ b ∧ 1 ≤ c ∧ c ≤ 100) := fun q => by
              have qa : zr a := ⟨by omega, by omega⟩
              have qb : zr b := ⟨by omega, by omega⟩
              have qc : zr c := ⟨by omega, by omega⟩
              first | exact absurd qa (by assumption) | exact absurd qb (by assumption) | exact absurd qc (by assumption)
            refine zH_go 1 (c' := (73, [some (.inr (.inr (some 2))), some (.inr (.inr (some 90))), some (.inl (j : Int)), some (.inl x), some (.inr (.inl a)), none, some (.inr (.inl b)), none, some (.inr (.inl c)), none], [.inl (-1)], (zs h hl))) rfl ?_
            refine zH_ret (v := some (.inl (-1))) rfl (fun q => absurd q (by decide)) ?_
            rw [← ea, ← eb, ← ec]
            exact ⟨_, Or.inr (Or.inr (Or.inl ⟨by omega, hz9, rfl⟩)), rfl, Or.inl ⟨by decide, rfl⟩⟩
        · show zH _ _ (61, [some (.inr (.inr (some 2))), some (.inr (.inr (some 90))), some (.inl (j : Int)), some (.inl x), some (.inr (.inl a)), none, some (.inr (.inl b)), none, some (.inr (.inl c)), none], [.inl 0], (zs h hl)) _
          refine zH_bt (x := 0) (y := 0) (k := .eq) (c1 := (72, [some (.inr (.inr (some 2))), some (.inr (.inr (some 90))), some (.inl (j : Int)), some (.inl x), some (.inr (.inl a)), none, some (.inr (.inl b)), none, some (.inr (.inl c)), none], [], (zs h hl))) (c2 := (64, [some (.inr (.inr (some 2))), some (.inr (.inr (some 90))), some (.inl (j : Int)), some (.inl x), some (.inr (.inl a)), none, some (.inr (.inl b)), none, some (.inr (.inl c)), none], [], (zs h hl))) rfl ⟨by decide, by decide⟩ ⟨by decide, by decide⟩ (by show 0 = 0; decide) ?_
          have hz9 : ¬ (((0 ≤ a ∧ a < h 3 0) ∧ 0 ≤ b ∧ b < h 3 0) ∧ a ≠ b ∧ 1 ≤ c ∧ c ≤ 100) := fun q => by
            have qa : zr a := ⟨by omega, by omega⟩
            have qb : zr b := ⟨by omega, by omega⟩
            have qc : zr c := ⟨by omega, by omega⟩
            first | exact absurd qa (by assumption) | exact absurd qb (by assumption) | exact absurd qc (by assumption)
          refine zH_go 1 (c' := (73, [some (.inr (.inr (some 2))), some (.inr (.inr (some 90))), some (.inl (j : Int)), some (.inl x), some (.inr (.inl a)), none, some (.inr (.inl b)), none, some (.inr (.inl c)), none], [.inl (-1)], (zs h hl))) rfl ?_
          refine zH_ret (v := some (.inl (-1))) rfl (fun q => absurd q (by decide)) ?_
          rw [← ea, ← eb, ← ec]
          exact ⟨_, Or.inr (Or.inr (Or.inl ⟨by omega, hz9, rfl⟩)), rfl, Or.inl ⟨by decide, rfl⟩⟩
      · show zH _ _ (53, [some (.inr (.inr (some 2))), some (.inr (.inr (some 90))), some (.inl (j : Int)), some (.inl x), some (.inr (.inl a)), none, some (.inr (.inl b)), none, some (.inr (.inl c)), none], [.inl 0], (zs h hl)) _
        refine zH_bt (x := 0) (y := 0) (k := .eq) (c1 := (72, [some (.inr (.inr (some 2))), some (.inr (.inr (some 90))), some (.inl (j : Int)), some (.inl x), some (.inr (.inl a)), none, some (.inr (.inl b)), none, some (.inr (.inl c)), none], [], (zs h hl))) (c2 := (56, [some (.inr (.inr (some 2))), some (.inr (.inr (some 90))), some (.inl (j : Int)), some (.inl x), some (.inr (.inl a)), none, some (.inr (.inl b)), none, some (.inr (.inl c)), none], [], (zs h hl))) rfl ⟨by decide, by decide⟩ ⟨by decide, by decide⟩ (by show 0 = 0; decide) ?_
        have hz9 : ¬ (((0 ≤ a ∧ a < h 3 0) ∧ 0 ≤ b ∧ b < h 3 0) ∧ a ≠ b ∧ 1 ≤ c ∧ c ≤ 100) := fun q => by
          have qa : zr a := ⟨by omega, by omega⟩
          have qb : zr b := ⟨by omega, by omega⟩
          have qc : zr c := ⟨by omega, by omega⟩
          first | exact absurd qa (by assumption) | exact absurd qb (by assumption) | exact absurd qc (by assumption)
        refine zH_go 1 (c' := (73, [some (.inr (.inr (some 2))), some (.inr (.inr (some 90))), some (.inl (j : Int)), some (.inl x), some (.inr (.inl a)), none, some (.inr (.inl b)), none, some (.inr (.inl c)), none], [.inl (-1)], (zs h hl))) rfl ?_
        refine zH_ret (v := some (.inl (-1))) rfl (fun q => absurd q (by decide)) ?_
        rw [← ea, ← eb, ← ec]
        exact ⟨_, Or.inr (Or.inr (Or.inl ⟨by omega, hz9, rfl⟩)), rfl, Or.inl ⟨by decide, rfl⟩⟩
    · refine zH_go 1 (c' := (23, [some (.inr (.inr (some 2))), some (.inr (.inr (some 90))), some (.inl (j : Int)), some (.inl x), none, none, none, none, none, none], [.inl (-12)], (zs h hl))) rfl ?_
      refine zH_ret (v := some (.inl (-12))) rfl (fun q => absurd q (by decide)) ?_
      exact ⟨_, Or.inr (Or.inl ⟨hz0, by omega, rfl⟩), rfl, Or.inl ⟨by decide, rfl⟩⟩
  · refine zH_go 1 (c' := (11, [some (.inr (.inr (some 2))), some (.inr (.inr (some 90))), some (.inl (j : Int)), some (.inl x), none, none, none, none, none, none], [.inl x], (zs h hl))) rfl ?_
    refine zH_ret (v := some (.inl x)) rfl (fun q => absurd q (by decide)) ?_
    exact ⟨x, by rcases hx2 with ⟨q, e⟩ | ⟨q, e⟩ <;> first | exact Or.inl ⟨q, e⟩ | exact absurd e (by assumption), rfl, Or.inl ⟨by assumption, rfl⟩⟩
set_option maxRecDepth 100000 in
set_option maxHeartbeats 4000000 in
theorem p_roads1 {d : Nat} {h hl : Nat → Nat → Int} {p r : Nat} (hW : zTown h p r) (hon : zr (h 21 3)) (hR : -1 ≤ h 90 1 ∧ h 90 1 ≤ 4) (hZ : ∀ q : Nat, q < 4 → -1 ≤ h 91 q ∧ h 91 q ≤ 8) (hV : ∀ q i : Nat, q < 4 → i < 8 → zrl (hl (93 + q) i)) : zQ (d + 6) 90 [.inr (.inr (some 2)), .inl 1] (zs h hl) (fun r' σ' => (h 90 1 < 0 ∧ r' = some (.inl 0) ∧ σ' = zs (zup h 2 8 (-11)) hl) ∨ ∃ (R J : Nat) (x : Int) (g : Nat → Nat → Int), h 90 1 = (R : Int) ∧ r' = some (.inl (J : Int)) ∧ σ' = zs (zup g 2 8 x) hl ∧ zTown (zov g (zAR h (fun q i => hl (93 + q) i) r J)) p (r + J) ∧ (∀ c : Nat, c < 3 ∨ 18 ≤ c → g c = h c) ∧ (∀ q : Nat, q < J → zRDec (h 3 0) (h 21 3) ((r + q : Nat) : Int) (h 91 q) (hl (93 + q) 0) (hl (93 + q) 1) (hl (93 + q) 2) 0) ∧ ((J = R ∧ x = 0) ∨ (J < R ∧ ¬ x = 0 ∧ zRDec (h 3 0) (h 21 3) ((r + J : Nat) : Int) (h 91 J) (hl (93 + J) 0) (hl (93 + J) 1) (hl (93 + J) 2) x))) := by
  have hWc := hW
  obtain ⟨hp6, hr15, h30, h31, hp3, hr4, hMe, hTB, hCn, hPo, hRd, hLk, hGr⟩ := hWc
  have hP : 0 ≤ h 3 0 ∧ h 3 0 ≤ 6 := by omega
  refine zQ_of (Nat.le_of_ble_eq_true rfl) ?_
  show zH (d + 5) 90 (0, [some (.inr (.inr (some 2))), some (.inl 1), none, none, none, none], [], (zs h hl)) _
  refine zH_go 1 (c' := (1, [some (.inr (.inr (some 2))), some (.inl 1), none, none, none, none], [.inl 1], (zs h hl))) rfl ?_
  refine zH_call (M' := 92) (as := [.inl 1]) (T := []) rfl (p_isBook ⟨by decide, by decide⟩) (fun r' σ' pm => ?_)
  obtain ⟨rfl, rfl⟩ : r' = some (.inl 1) ∧ σ' = _ := by rcases pm with ⟨a, -, b⟩ | ⟨-, b, -⟩ <;> first | exact ⟨a, b⟩ | (exfalso; omega)
  show zH _ _ (4, [some (.inr (.inr (some 2))), some (.inl 1), none, none, none, none], [.inl 1], (zs h hl)) _
  refine zH_bt (x := 1) (y := 0) (k := .ne) (c1 := (13, [some (.inr (.inr (some 2))), some (.inl 1), none, none, none, none], [], (zs h hl))) (c2 := (7, [some (.inr (.inr (some 2))), some (.inl 1), none, none, none, none], [], (zs h hl))) rfl ⟨by decide, by decide⟩ ⟨by decide, by decide⟩ (by show ¬ 1 = 0; decide) ?_
  refine zH_go 3 (c' := (18, [some (.inr (.inr (some 2))), some (.inl 1), none, none, none, none], [.inl 1, .inr (.inr (some 82))], (zs h hl))) rfl ?_
  refine zH_np (P := 0 ≤ 1 ∧ 1 < ((3 : Nat) : Int)) (c' := (19, [some (.inr (.inr (some 2))), some (.inl 1), none, none, none, none], [.inr (.inr (some 90))], (zs h hl))) rfl ⟨by decide, by decide⟩ ?_
  refine zH_go 2 (c' := (21, [some (.inr (.inr (some 2))), some (.inl 1), some (.inr (.inr (some 90))), none, none, none], [.inr (.inr (some 90))], (zs h hl))) rfl ?_
  refine zH_call (M' := 1) (as := [.inr (.inr (some 90))]) (T := []) rfl (p_bThere1 hR) (fun r σ' p_1 => ?_)
  rcases p_1 with ⟨rfl, b_2, rfl⟩ | ⟨rfl, b_2, rfl⟩
  · show zH _ _ (24, [some (.inr (.inr (some 2))), some (.inl 1), some (.inr (.inr (some 90))), none, none, none], [.inl 1], (zs h hl)) _
    refine zH_bf (x := 1) (y := 0) (k := .eq) (c1 := (31, [some (.inr (.inr (some 2))), some (.inl 1), some (.inr (.inr (some 90))), none, none, none], [], (zs h hl))) (c2 := (27, [some (.inr (.inr (some 2))), some (.inl 1), some (.inr (.inr (some 90))), none, none, none], [], (zs h hl))) rfl ⟨by decide, by decide⟩ ⟨by decide, by decide⟩ (by show ¬ (1 = 0); decide) ?_
    refine zH_go 7 (c' := (40, [some (.inr (.inr (some 2))), some (.inl 1), some (.inr (.inr (some 90))), some (.inl 0), some (.inl 0), some (.inl 0)], [], (zs h hl))) rfl ?_
    obtain ⟨R, hRR⟩ := Int.eq_ofNat_of_zero_le (show 0 ≤ h 90 1 by assumption)
    refine zH_lp (X := (Nat → Nat → Int)) (F := fun (kq : Nat) (x : (Nat → Nat → Int)) => (40, [some (.inr (.inr (some 2))), some (.inl 1), some (.inr (.inr (some 90))), some (.inl 0), some (.inl (kq : Int)), some (.inl (kq : Int))], [], (zs x hl))) (I := fun (kq : Nat) (x : (Nat → Nat → Int)) => zTown (zov x (zAR h (fun q i => hl (93 + q) i) r kq)) p (r + kq) ∧ (∀ c : Nat, c < 3 ∨ 18 ≤ c → x c = h c) ∧ ∀ q : Nat, q < kq → zRDec (h 3 0) (h 21 3) ((r + q : Nat) : Int) (h 91 q) (hl (93 + q) 0) (hl (93 + q) 1) (hl (93 + q) 2) 0) (N := R) (fun k g hk hI ih => ?_) (fun g hI => ?_) 0 h (by omega) ?_
    · skip
      replace hI : zTown (zov g (zAR h (fun q i => hl (93 + q) i) r k)) p (r + k) ∧ (∀ c : Nat, c < 3 ∨ 18 ≤ c → g c = h c) ∧ ∀ q : Nat, q < k → zRDec (h 3 0) (h 21 3) ((r + q : Nat) : Int) (h 91 q) (hl (93 + q) 0) (hl (93 + q) 1) (hl (93 + q) 2) 0 := hI
      show zH _ _ (40, [some (.inr (.inr (some 2))), some (.inl 1), some (.inr (.inr (some 90))), some (.inl 0), some (.inl (k : Int)), some (.inl (k : Int))], [], (zs g hl)) _
      have gR : g 90 1 = (R : Int) := by rw [hI.2.1 90 (by decide)]; exact hRR
      have hWg := hI.1
      obtain ⟨gp6, gr15, g30, g31, gp3, gr4, gMe, gTB, gCn, gPo, gRd, gLk, gGr⟩ := hWg
      rw [zov_l (show 3 < 104 by decide)] at g30 g31
      have gMe2 := zMe_ov gMe
      have gTB2 := zTB_ov gTB
      have gZ : g 91 = h 91 := hI.2.1 91 (by decide)
      have g21 : g 21 = h 21 := hI.2.1 21 (by decide)
      refine zH_go 1 (c' := (41, [some (.inr (.inr (some 2))), some (.inl 1), some (.inr (.inr (some 90))), some (.inl 0), some (.inl (k : Int)), some (.inl (k : Int))], [.inl 0], (zs g hl))) rfl ?_
      refine zH_bf (x := 0) (y := 0) (k := .ne) (c1 := (74, [some (.inr (.inr (some 2))), some (.inl 1), some (.inr (.inr (some 90))), some (.inl 0), some (.inl (k : Int)), some (.inl (k : Int))], [], (zs g hl))) (c2 := (44, [some (.inr (.inr (some 2))), some (.inl 1), some (.inr (.inr (some 90))), some (.inl 0), some (.inl (k : Int)), some (.inl (k : Int))], [], (zs g hl))) rfl ⟨by decide, by decide⟩ ⟨by decide, by decide⟩ (by show ¬ (¬ 0 = 0); decide) ?_
      refine zH_go 3 (c' := (50, [some (.inr (.inr (some 2))), some (.inl 1), some (.inr (.inr (some 90))), some (.inl 0), some (.inl (k : Int)), some (.inl (k : Int))], [.inl (g 90 1), .inl (k : Int)], (zs g hl))) rfl ?_
      rw [gR]
      refine zH_bf (x := (k : Int)) (y := (R : Int)) (k := .ge) (c1 := (74, [some (.inr (.inr (some 2))), some (.inl 1), some (.inr (.inr (some 90))), some (.inl 0), some (.inl (k : Int)), some (.inl (k : Int))], [], (zs g hl))) (c2 := (53, [some (.inr (.inr (some 2))), some (.inl 1), some (.inr (.inr (some 90))), some (.inl 0), some (.inl (k : Int)), some (.inl (k : Int))], [], (zs g hl))) rfl (by first | assumption | (unfold zr; omega)) (by first | assumption | (unfold zr; omega)) (by show ¬ (¬ (k : Int) < (R : Int)); omega) ?_
      refine zH_go 3 (c' := (57, [some (.inr (.inr (some 2))), some (.inl 1), some (.inr (.inr (some 90))), some (.inl 0), some (.inl (k : Int)), some (.inl (k : Int))], [.inl (k : Int), .inr (.inr (some 90)), .inr (.inr (some 2))], (zs g hl))) rfl ?_
      refine zH_call (M' := 95) (as := [.inr (.inr (some 2)), .inr (.inr (some 90)), .inl (k : Int)]) (T := []) rfl (p_rf1 (j := k) (by rw [gR]; omega) (by rw [gR]; omega) (by rw [gZ]; exact hZ) hV (by omega) gMe2 gTB2 (by omega) (by rw [g21]; exact hon)) (fun r' σ' pm => ?_)
      obtain ⟨x, hx, rfl, hcase⟩ := pm
      rw [g30, g31, gZ, g21, ← h30] at hx
      have hxr := zRDec_b hx
      rcases hcase with ⟨hx0, rfl⟩ | ⟨hx0, u, v, eu, ev, g', rfl, pm2⟩
      · show zH _ _ (60, [some (.inr (.inr (some 2))), some (.inl 1), some (.inr (.inr (some 90))), some (.inl 0), some (.inl (k : Int)), some (.inl (k : Int))], [.inl x], (zs g hl)) _
        refine zH_go 2 (c' := (62, [some (.inr (.inr (some 2))), some (.inl 1), some (.inr (.inr (some 90))), some (.inl x), some (.inl (k : Int)), some (.inl (k : Int))], [.inl x], (zs g hl))) rfl ?_
        refine zH_bt (x := x) (y := 0) (k := .ne) (c1 := (68, [some (.inr (.inr (some 2))), some (.inl 1), some (.inr (.inr (some 90))), some (.inl x), some (.inl (k : Int)), some (.inl (k : Int))], [], (zs g hl))) (c2 := (65, [some (.inr (.inr (some 2))), some (.inl 1), some (.inr (.inr (some 90))), some (.inl x), some (.inl (k : Int)), some (.inl (k : Int))], [], (zs g hl))) rfl (by first | assumption | (unfold zr; omega)) ⟨by decide, by decide⟩ (by show ¬ x = 0; omega) ?_
        refine zH_go 2 (c' := (40, [some (.inr (.inr (some 2))), some (.inl 1), some (.inr (.inr (some 90))), some (.inl x), some (.inl (k : Int)), some (.inl ((k : Int) + 1))], [], (zs g hl))) rfl ?_
        refine zH_go 1 (c' := (41, [some (.inr (.inr (some 2))), some (.inl 1), some (.inr (.inr (some 90))), some (.inl x), some (.inl (k : Int)), some (.inl ((k : Int) + 1))], [.inl x], (zs g hl))) rfl ?_
        refine zH_bt (x := x) (y := 0) (k := .ne) (c1 := (74, [some (.inr (.inr (some 2))), some (.inl 1), some (.inr (.inr (some 90))), some (.inl x), some (.inl (k : Int)), some (.inl ((k : Int) + 1))], [], (zs g hl))) (c2 := (44, [some (.inr (.inr (some 2))), some (.inl 1), some (.inr (.inr (some 90))), some (.inl x), some (.inl (k : Int)), some (.inl ((k : Int) + 1))], [], (zs g hl))) rfl (by first | assumption | (unfold zr; omega)) ⟨by decide, by decide⟩ (by show ¬ x = 0; omega) ?_
        refine zH_go 4 (c' := (81, [some (.inr (.inr (some 2))), some (.inl 1), some (.inr (.inr (some 90))), some (.inl x), some (.inl (k : Int)), some (.inl ((k : Int) + 1))], [.inl (k : Int)], (zs (zup g 2 8 x) hl))) rfl ?_
        refine zH_ret (v := some (.inl (k : Int))) rfl (fun q => absurd q (by decide)) ?_
        exact Or.inr ⟨R, k, x, g, hRR, rfl, rfl, hI.1, hI.2.1, hI.2.2, Or.inr ⟨hk, hx0, hx⟩⟩
      · obtain rfl : x = 0 := hx0
        show zH _ _ (60, [some (.inr (.inr (some 2))), some (.inl 1), some (.inr (.inr (some 90))), some (.inl 0), some (.inl (k : Int)), some (.inl (k : Int))], [.inl 0], (zs g' hl)) _
        refine zH_go 2 (c' := (62, [some (.inr (.inr (some 2))), some (.inl 1), some (.inr (.inr (some 90))), some (.inl 0), some (.inl (k : Int)), some (.inl (k : Int))], [.inl 0], (zs g' hl))) rfl ?_
        refine zH_bf (x := 0) (y := 0) (k := .ne) (c1 := (68, [some (.inr (.inr (some 2))), some (.inl 1), some (.inr (.inr (some 90))), some (.inl 0), some (.inl (k : Int)), some (.inl (k : Int))], [], (zs g' hl))) (c2 := (65, [some (.inr (.inr (some 2))), some (.inl 1), some (.inr (.inr (some 90))), some (.inl 0), some (.inl (k : Int)), some (.inl (k : Int))], [], (zs g' hl))) rfl ⟨by decide, by decide⟩ ⟨by decide, by decide⟩ (by show ¬ (¬ 0 = 0); decide) ?_
        refine zH_go 3 (c' := (40, [some (.inr (.inr (some 2))), some (.inl 1), some (.inr (.inr (some 90))), some (.inl 0), some (.inl ((k : Int) + 1)), some (.inl ((k : Int) + 1))], [], (zs g' hl))) rfl ?_
        refine ih g' ?_
        show zTown (zov g' (zAR h (fun q i => hl (93 + q) i) r (k + 1))) p (r + (k + 1)) ∧ (∀ c : Nat, c < 3 ∨ 18 ≤ c → g' c = h c) ∧ ∀ q : Nat, q < (k + 1) → zRDec (h 3 0) (h 21 3) ((r + q : Nat) : Int) (h 91 q) (hl (93 + q) 0) (hl (93 + q) 1) (hl (93 + q) 2) 0
        have hok := zRDec_0 hx
        rw [eu, ev] at hok
        refine ⟨zTown_AR (g := g) (a := u) (b := v) hI.1 hr4 (by omega) (by omega) (by omega) (by omega) (len := hl (93 + k) 2) hok.2.1.2.2 eu ev rfl ⟨pm2.1, pm2.2.1, pm2.2.2.1, pm2.2.2.2.1⟩, fun c hc => by rw [pm2.2.2.2.2 c hc]; exact hI.2.1 c hc, fun q hq => ?_⟩
        by_cases w : q = k
        · rw [w]; exact hx
        · exact hI.2.2 q (by omega)
    · skip
      replace hI : zTown (zov g (zAR h (fun q i => hl (93 + q) i) r R)) p (r + R) ∧ (∀ c : Nat, c < 3 ∨ 18 ≤ c → g c = h c) ∧ ∀ q : Nat, q < R → zRDec (h 3 0) (h 21 3) ((r + q : Nat) : Int) (h 91 q) (hl (93 + q) 0) (hl (93 + q) 1) (hl (93 + q) 2) 0 := hI
      show zH _ _ (40, [some (.inr (.inr (some 2))), some (.inl 1), some (.inr (.inr (some 90))), some (.inl 0), some (.inl (R : Int)), some (.inl (R : Int))], [], (zs g hl)) _
      have gR : g 90 1 = (R : Int) := by rw [hI.2.1 90 (by decide)]; exact hRR
      refine zH_go 1 (c' := (41, [some (.inr (.inr (some 2))), some (.inl 1), some (.inr (.inr (some 90))), some (.inl 0), some (.inl (R : Int)), some (.inl (R : Int))], [.inl 0], (zs g hl))) rfl ?_
      refine zH_bf (x := 0) (y := 0) (k := .ne) (c1 := (74, [some (.inr (.inr (some 2))), some (.inl 1), some (.inr (.inr (some 90))), some (.inl 0), some (.inl (R : Int)), some (.inl (R : Int))], [], (zs g hl))) (c2 := (44, [some (.inr (.inr (some 2))), some (.inl 1), some (.inr (.inr (some 90))), some (.inl 0), some (.inl (R : Int)), some (.inl (R : Int))], [], (zs g hl))) rfl ⟨by decide, by decide⟩ ⟨by decide, by decide⟩ (by show ¬ (¬ 0 = 0); decide) ?_
      refine zH_go 3 (c' := (50, [some (.inr (.inr (some 2))), some (.inl 1), some (.inr (.inr (some 90))), some (.inl 0), some (.inl (R : Int)), some (.inl (R : Int))], [.inl (g 90 1), .inl (R : Int)], (zs g hl))) rfl ?_
      rw [gR]
      refine zH_bt (x := (R : Int)) (y := (R : Int)) (k := .ge) (c1 := (74, [some (.inr (.inr (some 2))), some (.inl 1), some (.inr (.inr (some 90))), some (.inl 0), some (.inl (R : Int)), some (.inl (R : Int))], [], (zs g hl))) (c2 := (53, [some (.inr (.inr (some 2))), some (.inl 1), some (.inr (.inr (some 90))), some (.inl 0), some (.inl (R : Int)), some (.inl (R : Int))], [], (zs g hl))) rfl (by first | assumption | (unfold zr; omega)) (by first | assumption | (unfold zr; omega)) (by show ¬ (R : Int) < (R : Int); omega) ?_
      refine zH_go 4 (c' := (81, [some (.inr (.inr (some 2))), some (.inl 1), some (.inr (.inr (some 90))), some (.inl 0), some (.inl (R : Int)), some (.inl (R : Int))], [.inl (R : Int)], (zs (zup g 2 8 0) hl))) rfl ?_
      refine zH_ret (v := some (.inl (R : Int))) rfl (fun q => absurd q (by decide)) ?_
      exact Or.inr ⟨R, R, 0, g, hRR, rfl, rfl, hI.1, hI.2.1, hI.2.2, Or.inl ⟨rfl, rfl⟩⟩
    · show zTown (zov h (zAR h (fun q i => hl (93 + q) i) r 0)) p (r + 0) ∧ (∀ c : Nat, c < 3 ∨ 18 ≤ c → h c = h c) ∧ ∀ q : Nat, q < 0 → zRDec (h 3 0) (h 21 3) ((r + q : Nat) : Int) (h 91 q) (hl (93 + q) 0) (hl (93 + q) 1) (hl (93 + q) 2) 0
      exact ⟨zTown_same hW (fun c hc => zov_l (by omega)) ⟨congrFun (zov_r (Nat.le_refl 104)) 3, congrFun (zov_r (Nat.le_refl 104)) 4⟩ ⟨zov_r (by decide), zov_r (by decide), zov_r (by decide)⟩, fun c hc => rfl, fun q hq => absurd hq (Nat.not_lt_zero q)⟩
  · show zH _ _ (24, [some (.inr (.inr (some 2))), some (.inl 1), some (.inr (.inr (some 90))), none, none, none], [.inl 0], (zs h hl)) _
    refine zH_bt (x := 0) (y := 0) (k := .eq) (c1 := (31, [some (.inr (.inr (some 2))), some (.inl 1), some (.inr (.inr (some 90))), none, none, none], [], (zs h hl))) (c2 := (27, [some (.inr (.inr (some 2))), some (.inl 1), some (.inr (.inr (some 90))), none, none, none], [], (zs h hl))) rfl ⟨by decide, by decide⟩ ⟨by decide, by decide⟩ (by show 0 = 0; decide) ?_
    refine zH_go 6 (c' := (40, [some (.inr (.inr (some 2))), some (.inl 1), some (.inr (.inr (some 90))), some (.inl (-11)), some (.inl 0), some (.inl 0)], [], (zs h hl))) rfl ?_
    refine zH_go 1 (c' := (41, [some (.inr (.inr (some 2))), some (.inl 1), some (.inr (.inr (some 90))), some (.inl (-11)), some (.inl 0), some (.inl 0)], [.inl (-11)], (zs h hl))) rfl ?_
    refine zH_bt (x := (-11)) (y := 0) (k := .ne) (c1 := (74, [some (.inr (.inr (some 2))), some (.inl 1), some (.inr (.inr (some 90))), some (.inl (-11)), some (.inl 0), some (.inl 0)], [], (zs h hl))) (c2 := (44, [some (.inr (.inr (some 2))), some (.inl 1), some (.inr (.inr (some 90))), some (.inl (-11)), some (.inl 0), some (.inl 0)], [], (zs h hl))) rfl ⟨by decide, by decide⟩ ⟨by decide, by decide⟩ (by show ¬ (-11) = 0; decide) ?_
    refine zH_go 4 (c' := (81, [some (.inr (.inr (some 2))), some (.inl 1), some (.inr (.inr (some 90))), some (.inl (-11)), some (.inl 0), some (.inl 0)], [.inl 0], (zs (zup h 2 8 (-11)) hl))) rfl ?_
    refine zH_ret (v := some (.inl 0)) rfl (fun q => absurd q (by decide)) ?_
    exact Or.inl ⟨by omega, rfl, rfl⟩
set_option maxRecDepth 100000 in
set_option maxHeartbeats 4000000 in
theorem p_rf2 {d : Nat} {h hl : Nat → Nat → Int} {j : Nat} (hj : (j : Int) < h 97 1) (hR : -1 ≤ h 97 1 ∧ h 97 1 ≤ 4) (hZ : ∀ q : Nat, q < 4 → -1 ≤ h 98 q ∧ h 98 q ≤ 8) (hV : ∀ q i : Nat, q < 4 → i < 8 → zrl (hl (100 + q) i)) (hP : 0 ≤ h 3 0 ∧ h 3 0 ≤ 6) (hMe : zMe h) (hTB : zTB h) (h31 : 0 ≤ h 3 1 ∧ h 3 1 ≤ 15) (hon : zr (h 21 3)) : zQ (d + 5) 95 [.inr (.inr (some 2)), .inr (.inr (some 97)), .inl (j : Int)] (zs h hl) (fun r' σ' => ∃ x : Int, zRDec (h 3 0) (h 21 3) (h 3 1) (h 98 j) (hl (100 + j) 0) (hl (100 + j) 1) (hl (100 + j) 2) x ∧ r' = some (.inl x) ∧ ((¬ x = 0 ∧ σ' = zs h hl) ∨ (x = 0 ∧ ∃ u v : Nat, hl (100 + j) 0 = (u : Int) ∧ hl (100 + j) 1 = (v : Int) ∧ ∃ g : Nat → Nat → Int, σ' = zs g hl ∧ (∀ i q : Nat, i < 6 → q < 6 → g (12 + i) q = zGn h u v (hl (100 + j) 2) i q) ∧ (∀ i q : Nat, i < 6 → q < 6 → g (5 + i) q = if (i = u ∧ q = v) ∨ (i = v ∧ q = u) then min (h (5 + u) v) (hl (100 + j) 2) else h (5 + i) q) ∧ g 3 0 = h 3 0 ∧ g 3 1 = h 3 1 + 1 ∧ ∀ c : Nat, (c < 3 ∨ 18 ≤ c) → g c = h c))) := by
  refine zQ_of (Nat.le_of_ble_eq_true rfl) ?_
  show zH (d + 4) 95 (0, [some (.inr (.inr (some 2))), some (.inr (.inr (some 97))), some (.inl (j : Int)), none, none, none, none, none, none, none], [], (zs h hl)) _
  refine zH_go 2 (c' := (2, [some (.inr (.inr (some 2))), some (.inr (.inr (some 97))), some (.inl (j : Int)), none, none, none, none, none, none, none], [.inl (j : Int), .inr (.inr (some 97))], (zs h hl))) rfl ?_
  refine zH_call (M' := 5) (as := [.inr (.inr (some 97)), .inl (j : Int)]) (T := []) rfl (p_bWhy2 ⟨by omega, by omega⟩ hR hZ) (fun r' σ' pm => ?_)
  obtain ⟨x, hx, rfl, rfl⟩ := pm
  have hrw : zHasRow h 97 (j : Int) := ⟨by omega, by omega, by omega⟩
  have hx2 : (h 98 j < 0 ∧ x = -11) ∨ (0 ≤ h 98 j ∧ x = 0) := by
    rcases hx with ⟨q, -⟩ | ⟨-, q, -⟩ | ⟨-, -, q, e⟩ | ⟨-, -, q, e⟩
    · exfalso; omega
    · exact absurd hrw q
    · exact Or.inl ⟨q, e⟩
    · exact Or.inr ⟨q, e⟩
  show zH _ _ (5, [some (.inr (.inr (some 2))), some (.inr (.inr (some 97))), some (.inl (j : Int)), none, none, none, none, none, none, none], [.inl x], (zs h hl)) _
  refine zH_go 2 (c' := (7, [some (.inr (.inr (some 2))), some (.inr (.inr (some 97))), some (.inl (j : Int)), some (.inl x), none, none, none, none, none, none], [.inl x], (zs h hl))) rfl ?_
  refine zH_br (x := x) (y := 0) (k := .eq) (c1 := (12, [some (.inr (.inr (some 2))), some (.inr (.inr (some 97))), some (.inl (j : Int)), some (.inl x), none, none, none, none, none, none], [], (zs h hl))) (c2 := (10, [some (.inr (.inr (some 2))), some (.inr (.inr (some 97))), some (.inl (j : Int)), some (.inl x), none, none, none, none, none, none], [], (zs h hl))) rfl (by first | assumption | (unfold zr; omega)) ⟨by decide, by decide⟩ (fun (b_1 : x = 0) => ?_) (fun (b_1 : ¬ (x = 0)) => ?_)
  · refine zH_go 2 (c' := (14, [some (.inr (.inr (some 2))), some (.inr (.inr (some 97))), some (.inl (j : Int)), some (.inl x), none, none, none, none, none, none], [.inl (j : Int), .inr (.inr (some 97))], (zs h hl))) rfl ?_
    have hz0 : 0 ≤ h 98 j := by rcases hx2 with ⟨-, e⟩ | ⟨q, -⟩ <;> first | exact q | (exfalso; omega)
    clear hx hx2
    refine zH_call (M' := 4) (as := [.inr (.inr (some 97)), .inl (j : Int)]) (T := []) rfl (p_bSize2 ⟨by omega, by omega⟩ hR hZ) (fun r' σ' pm => ?_)
    obtain ⟨y, hy, rfl, rfl⟩ := pm
    have hyy : y = h 98 j := by rcases hy with ⟨-, e⟩ | ⟨e, -⟩ <;> first | exact e | exact absurd hrw e
    have hyb := hZ j (by omega)
    show zH _ _ (17, [some (.inr (.inr (some 2))), some (.inr (.inr (some 97))), some (.inl (j : Int)), some (.inl x), none, none, none, none, none, none], [.inl y], (zs h hl)) _
    refine zH_go 1 (c' := (18, [some (.inr (.inr (some 2))), some (.inr (.inr (some 97))), some (.inl (j : Int)), some (.inl x), none, none, none, none, none, none], [.inl 3, .inl y], (zs h hl))) rfl ?_
    refine zH_br (x := y) (y := 3) (k := .ge) (c1 := (24, [some (.inr (.inr (some 2))), some (.inr (.inr (some 97))), some (.inl (j : Int)), some (.inl x), none, none, none, none, none, none], [], (zs h hl))) (c2 := (21, [some (.inr (.inr (some 2))), some (.inr (.inr (some 97))), some (.inl (j : Int)), some (.inl x), none, none, none, none, none, none], [], (zs h hl))) rfl (by first | assumption | (unfold zr; omega)) ⟨by decide, by decide⟩ (fun (b_2 : ¬ y < 3) => ?_) (fun (b_2 : ¬ (¬ y < 3)) => ?_)
    · refine zH_go 3 (c' := (27, [some (.inr (.inr (some 2))), some (.inr (.inr (some 97))), some (.inl (j : Int)), some (.inl x), none, none, none, none, none, none], [.inl 0, .inl (j : Int), .inr (.inr (some 97))], (zs h hl))) rfl ?_
      have hnum0 : zHasNum h 97 98 (j : Int) 0 := ⟨hrw, by decide, by show 0 < h 98 j; omega, by decide⟩
      refine zH_call (M' := 9) (as := [.inr (.inr (some 97)), .inl (j : Int), .inl 0]) (T := []) rfl (p_bRead2 ⟨by omega, by omega⟩ ⟨by decide, by decide⟩ hR hZ) (fun r' σ' pm => ?_)
      obtain ⟨a, hy0, rfl, rfl⟩ := pm
      have ea : a = hl (100 + j) 0 := by rcases hy0 with ⟨-, e⟩ | ⟨e, -⟩ <;> first | exact e | exact absurd hnum0 e
      have za : zrl a := by rw [ea]; exact hV j 0 (by omega) (by decide)
      show zH _ _ (30, [some (.inr (.inr (some 2))), some (.inr (.inr (some 97))), some (.inl (j : Int)), some (.inl x), none, none, none, none, none, none], [.inr (.inl a)], (zs h hl)) _
      refine zH_go 4 (c' := (35, [some (.inr (.inr (some 2))), some (.inr (.inr (some 97))), some (.inl (j : Int)), some (.inl x), some (.inr (.inl a)), none, none, none, none, none], [.inl 1, .inl (j : Int), .inr (.inr (some 97))], (zs h hl))) rfl ?_
      have hnum1 : zHasNum h 97 98 (j : Int) 1 := ⟨hrw, by decide, by show 1 < h 98 j; omega, by decide⟩
      refine zH_call (M' := 9) (as := [.inr (.inr (some 97)), .inl (j : Int), .inl 1]) (T := []) rfl (p_bRead2 ⟨by omega, by omega⟩ ⟨by decide, by decide⟩ hR hZ) (fun r' σ' pm => ?_)
      obtain ⟨b, hy1, rfl, rfl⟩ := pm
      have eb : b = hl (100 + j) 1 := by rcases hy1 with ⟨-, e⟩ | ⟨e, -⟩ <;> first | exact e | exact absurd hnum1 e
      have zb : zrl b := by rw [eb]; exact hV j 1 (by omega) (by decide)
      show zH _ _ (38, [some (.inr (.inr (some 2))), some (.inr (.inr (some 97))), some (.inl (j : Int)), some (.inl x), some (.inr (.inl a)), none, none, none, none, none], [.inr (.inl b)], (zs h hl)) _
      refine zH_go 4 (c' := (43, [some (.inr (.inr (some 2))), some (.inr (.inr (some 97))), some (.inl (j : Int)), some (.inl x), some (.inr (.inl a)), none, some (.inr (.inl b)), none, none, none], [.inl 2, .inl (j : Int), .inr (.inr (some 97))], (zs h hl))) rfl ?_
      have hnum2 : zHasNum h 97 98 (j : Int) 2 := ⟨hrw, by decide, by show 2 < h 98 j; omega, by decide⟩
      refine zH_call (M' := 9) (as := [.inr (.inr (some 97)), .inl (j : Int), .inl 2]) (T := []) rfl (p_bRead2 ⟨by omega, by omega⟩ ⟨by decide, by decide⟩ hR hZ) (fun r' σ' pm => ?_)
      obtain ⟨c, hy2, rfl, rfl⟩ := pm
      have ec : c = hl (100 + j) 2 := by rcases hy2 with ⟨-, e⟩ | ⟨e, -⟩ <;> first | exact e | exact absurd hnum2 e
      have zc : zrl c := by rw [ec]; exact hV j 2 (by omega) (by decide)
      show zH _ _ (46, [some (.inr (.inr (some 2))), some (.inr (.inr (some 97))), some (.inl (j : Int)), some (.inl x), some (.inr (.inl a)), none, some (.inr (.inl b)), none, none, none], [.inr (.inl c)], (zs h hl)) _
      refine zH_go 2 (c' := (50, [some (.inr (.inr (some 2))), some (.inr (.inr (some 97))), some (.inl (j : Int)), some (.inl x), some (.inr (.inl a)), none, some (.inr (.inl b)), none, some (.inr (.inl c)), none], [.inr (.inl a)], (zs h hl))) rfl ?_
      refine zH_call (M' := 96) (as := [.inr (.inl a)]) (T := []) rfl (p_fits za) (fun r σ' p_3 => ?_)
      rcases p_3 with ⟨rfl, b_4, rfl⟩ | ⟨rfl, b_4, rfl⟩
      · show zH _ _ (53, [some (.inr (.inr (some 2))), some (.inr (.inr (some 97))), some (.inl (j : Int)), some (.inl x), some (.inr (.inl a)), none, some (.inr (.inl b)), none, some (.inr (.inl c)), none], [.inl 1], (zs h hl)) _
        refine zH_bf (x := 1) (y := 0) (k := .eq) (c1 := (72, [some (.inr (.inr (some 2))), some (.inr (.inr (some 97))), some (.inl (j : Int)), some (.inl x), some (.inr (.inl a)), none, some (.inr (.inl b)), none, some (.inr (.inl c)), none], [], (zs h hl))) (c2 := (56, [some (.inr (.inr (some 2))), some (.inr (.inr (some 97))), some (.inl (j : Int)), some (.inl x), some (.inr (.inl a)), none, some (.inr (.inl b)), none, some (.inr (.inl c)), none], [], (zs h hl))) rfl ⟨by decide, by decide⟩ ⟨by decide, by decide⟩ (by show ¬ (1 = 0); decide) ?_
        refine zH_go 1 (c' := (58, [some (.inr (.inr (some 2))), some (.inr (.inr (some 97))), some (.inl (j : Int)), some (.inl x), some (.inr (.inl a)), none, some (.inr (.inl b)), none, some (.inr (.inl c)), none], [.inr (.inl b)], (zs h hl))) rfl ?_
        refine zH_call (M' := 96) (as := [.inr (.inl b)]) (T := []) rfl (p_fits zb) (fun r σ' p_5 => ?_)
        rcases p_5 with ⟨rfl, b_6, rfl⟩ | ⟨rfl, b_6, rfl⟩
        · show zH _ _ (61, [some (.inr (.inr (some 2))), some (.inr (.inr (some 97))), some (.inl (j : Int)), some (.inl x), some (.inr (.inl a)), none, some (.inr (.inl b)), none, some (.inr (.inl c)), none], [.inl 1], (zs h hl)) _
          refine zH_bf (x := 1) (y := 0) (k := .eq) (c1 := (72, [some (.inr (.inr (some 2))), some (.inr (.inr (some 97))), some (.inl (j : Int)), some (.inl x), some (.inr (.inl a)), none, some (.inr (.inl b)), none, some (.inr (.inl c)), none], [], (zs h hl))) (c2 := (64, [some (.inr (.inr (some 2))), some (.inr (.inr (some 97))), some (.inl (j : Int)), some (.inl x), some (.inr (.inl a)), none, some (.inr (.inl b)), none, some (.inr (.inl c)), none], [], (zs h hl))) rfl ⟨by decide, by decide⟩ ⟨by decide, by decide⟩ (by show ¬ (1 = 0); decide) ?_
          refine zH_go 1 (c' := (66, [some (.inr (.inr (some 2))), some (.inr (.inr (some 97))), some (.inl (j : Int)), some (.inl x), some (.inr (.inl a)), none, some (.inr (.inl b)), none, some (.inr (.inl c)), none], [.inr (.inl c)], (zs h hl))) rfl ?_
          refine zH_call (M' := 96) (as := [.inr (.inl c)]) (T := []) rfl (p_fits zc) (fun r σ' p_7 => ?_)
          rcases p_7 with ⟨rfl, b_8, rfl⟩ | ⟨rfl, b_8, rfl⟩
          · show zH _ _ (69, [some (.inr (.inr (some 2))), some (.inr (.inr (some 97))), some (.inl (j : Int)), some (.inl x), some (.inr (.inl a)), none, some (.inr (.inl b)), none, some (.inr (.inl c)), none], [.inl 1], (zs h hl)) _
            refine zH_bt (x := 1) (y := 0) (k := .ne) (c1 := (74, [some (.inr (.inr (some 2))), some (.inr (.inr (some 97))), some (.inl (j : Int)), some (.inl x), some (.inr (.inl a)), none, some (.inr (.inl b)), none, some (.inr (.inl c)), none], [], (zs h hl))) (c2 := (72, [some (.inr (.inr (some 2))), some (.inr (.inr (some 97))), some (.inl (j : Int)), some (.inl x), some (.inr (.inl a)), none, some (.inr (.inl b)), none, some (.inr (.inl c)), none], [], (zs h hl))) rfl ⟨by decide, by decide⟩ ⟨by decide, by decide⟩ (by show ¬ 1 = 0; decide) ?_
            refine zH_go 7 (c' := (84, [some (.inr (.inr (some 2))), some (.inr (.inr (some 97))), some (.inl (j : Int)), some (.inl x), some (.inr (.inl a)), none, some (.inr (.inl b)), none, some (.inr (.inl c)), none], [.inl (Int.bmod c 4294967296), .inl (Int.bmod b 4294967296), .inl (Int.bmod a 4294967296), .inr (.inr (some 2))], (zs h hl))) rfl ?_
            rw [zbm_id (show zr a by assumption)]
            rw [zbm_id (show zr b by assumption)]
            rw [zbm_id (show zr c by assumption)]
            refine zH_call (M' := 66) (as := [.inr (.inr (some 2)), .inl a, .inl b, .inl c]) (T := []) rfl (p_noRoad (by assumption) (by assumption) (by assumption) h31 hP hon) (fun r' σ' pm => ?_)
            obtain ⟨w, hw, rfl, rfl⟩ := pm
            have hwr := zNoRd_b hw
            have hdw := zNoRd_D hw (show 3 ≤ h 98 j by omega)
            clear hw
            show zH _ _ (87, [some (.inr (.inr (some 2))), some (.inr (.inr (some 97))), some (.inl (j : Int)), some (.inl x), some (.inr (.inl a)), none, some (.inr (.inl b)), none, some (.inr (.inl c)), none], [.inl w], (zs h hl)) _
            refine zH_go 2 (c' := (89, [some (.inr (.inr (some 2))), some (.inr (.inr (some 97))), some (.inl (j : Int)), some (.inl w), some (.inr (.inl a)), none, some (.inr (.inl b)), none, some (.inr (.inl c)), none], [.inl w], (zs h hl))) rfl ?_
            refine zH_br (x := w) (y := 0) (k := .ne) (c1 := (109, [some (.inr (.inr (some 2))), some (.inr (.inr (some 97))), some (.inl (j : Int)), some (.inl w), some (.inr (.inl a)), none, some (.inr (.inl b)), none, some (.inr (.inl c)), none], [], (zs h hl))) (c2 := (92, [some (.inr (.inr (some 2))), some (.inr (.inr (some 97))), some (.inl (j : Int)), some (.inl w), some (.inr (.inl a)), none, some (.inr (.inl b)), none, some (.inr (.inl c)), none], [], (zs h hl))) rfl (by first | assumption | (unfold zr; omega)) ⟨by decide, by decide⟩ (fun (b_9 : ¬ w = 0) => ?_) (fun (b_9 : ¬ (¬ w = 0)) => ?_)
            · refine zH_go 1 (c' := (110, [some (.inr (.inr (some 2))), some (.inr (.inr (some 97))), some (.inl (j : Int)), some (.inl w), some (.inr (.inl a)), none, some (.inr (.inl b)), none, some (.inr (.inl c)), none], [.inl w], (zs h hl))) rfl ?_
              refine zH_ret (v := some (.inl w)) rfl (fun q => absurd q (by decide)) ?_
              rw [← ea, ← eb, ← ec]
              exact ⟨w, hdw, rfl, Or.inl ⟨by assumption, rfl⟩⟩
            · obtain rfl : w = 0 := by omega
              have hok := zRDec_0 hdw
              obtain ⟨u, rfl⟩ := Int.eq_ofNat_of_zero_le (show 0 ≤ a by omega)
              obtain ⟨v, rfl⟩ := Int.eq_ofNat_of_zero_le (show 0 ≤ b by omega)
              show zH _ _ (92, [some (.inr (.inr (some 2))), some (.inr (.inr (some 97))), some (.inl (j : Int)), some (.inl 0), some (.inr (.inl (u : Int))), none, some (.inr (.inl (v : Int))), none, some (.inr (.inl c)), none], [], (zs h hl)) _
              refine zH_go 8 (c' := (105, [some (.inr (.inr (some 2))), some (.inr (.inr (some 97))), some (.inl (j : Int)), some (.inl 0), some (.inr (.inl (u : Int))), none, some (.inr (.inl (v : Int))), none, some (.inr (.inl c)), none], [.inl (Int.bmod c 4294967296), .inl (Int.bmod (v : Int) 4294967296), .inl (Int.bmod (u : Int) 4294967296), .inr (.inr (some 3))], (zs h hl))) rfl ?_
              rw [zbm_id (show zr (u : Int) by first | assumption | exact ⟨by omega, by omega⟩)]
              rw [zbm_id (show zr (v : Int) by first | assumption | exact ⟨by omega, by omega⟩)]
              rw [zbm_id (show zr c by first | assumption | exact ⟨by omega, by omega⟩)]
              refine zH_call (M' := 51) (as := [.inr (.inr (some 3)), .inl (u : Int), .inl (v : Int), .inl c]) (T := []) rfl (p_addRoad (a := u) (b := v) (by omega) (by omega) (by omega) (by omega) (by omega) hP hMe hTB) (fun r' σ' pm => ?_)
              obtain ⟨rfl, g, rfl, pm2⟩ := pm
              show zH _ _ (108, [some (.inr (.inr (some 2))), some (.inr (.inr (some 97))), some (.inl (j : Int)), some (.inl 0), some (.inr (.inl (u : Int))), none, some (.inr (.inl (v : Int))), none, some (.inr (.inl c)), none], [.inl (h 3 1 + 1)], (zs g hl)) _
              refine zH_go 2 (c' := (110, [some (.inr (.inr (some 2))), some (.inr (.inr (some 97))), some (.inl (j : Int)), some (.inl 0), some (.inr (.inl (u : Int))), none, some (.inr (.inl (v : Int))), none, some (.inr (.inl c)), none], [.inl 0], (zs g hl))) rfl ?_
              refine zH_ret (v := some (.inl 0)) rfl (fun q => absurd q (by decide)) ?_
              rw [← ea, ← eb, ← ec]
              exact ⟨_, hdw, rfl, Or.inr ⟨rfl, u, v, rfl, rfl, g, rfl, pm2⟩⟩
          · show zH _ _ (69, [some (.inr (.inr (some 2))), some (.inr (.inr (some 97))), some (.inl (j : Int)), some (.inl x), some (.inr (.inl a)), none, some (.inr (.inl b)), none, some (.inr (.inl c)), none], [.inl 0], (zs h hl)) _
            refine zH_bf (x := 0) (y := 0) (k := .ne) (c1 := (74, [some (.inr (.inr (some 2))), some (.inr (.inr (some 97))), some (.inl (j : Int)), some (.inl x), some (.inr (.inl a)), none, some (.inr (.inl b)), none, some (.inr (.inl c)), none], [], (zs h hl))) (c2 := (72, [some (.inr (.inr (some 2))), some (.inr (.inr (some 97))), some (.inl (j : Int)), some (.inl x), some (.inr (.inl a)), none, some (.inr (.inl b)), none, some (.inr (.inl c)), none], [], (zs h hl))) rfl ⟨by decide, by decide⟩ ⟨by decide, by decide⟩ (by show ¬ (¬ 0 = 0); decide) ?_
            have hz9 : ¬ (((0 ≤ a ∧ a < h 3 0) ∧ 0 ≤ b ∧ b < h 3 0) ∧ a ≠ b ∧ 1 ≤ c ∧ c ≤ 100) := fun q => by
              have qa : zr a := ⟨by omega, by omega⟩
              have qb : zr b := ⟨by omega, by omega⟩
              have qc : zr c := ⟨by omega, by omega⟩
              first | exact absurd qa (by assumption) | exact absurd qb (by assumption) | exact absurd qc (by assumption)
            refine zH_go 1 (c' := (73, [some (.inr (.inr (some 2))), some (.inr (.inr (some 97))), some (.inl (j : Int)), some (.inl x), some (.inr (.inl a)), none, some (.inr (.inl b)), none, some (.inr (.inl c)), none], [.inl (-1)], (zs h hl))) rfl ?_
            refine zH_ret (v := some (.inl (-1))) rfl (fun q => absurd q (by decide)) ?_
            rw [← ea, ← eb, ← ec]
            exact ⟨_, Or.inr (Or.inr (Or.inl ⟨by omega, hz9, rfl⟩)), rfl, Or.inl ⟨by decide, rfl⟩⟩
        · show zH _ _ (61, [some (.inr (.inr (some 2))), some (.inr (.inr (some 97))), some (.inl (j : Int)), some (.inl x), some (.inr (.inl a)), none, some (.inr (.inl b)), none, some (.inr (.inl c)), none], [.inl 0], (zs h hl)) _
          refine zH_bt (x := 0) (y := 0) (k := .eq) (c1 := (72, [some (.inr (.inr (some 2))), some (.inr (.inr (some 97))), some (.inl (j : Int)), some (.inl x), some (.inr (.inl a)), none, some (.inr (.inl b)), none, some (.inr (.inl c)), none], [], (zs h hl))) (c2 := (64, [some (.inr (.inr (some 2))), some (.inr (.inr (some 97))), some (.inl (j : Int)), some (.inl x), some (.inr (.inl a)), none, some (.inr (.inl b)), none, some (.inr (.inl c)), none], [], (zs h hl))) rfl ⟨by decide, by decide⟩ ⟨by decide, by decide⟩ (by show 0 = 0; decide) ?_
          have hz9 : ¬ (((0 ≤ a ∧ a < h 3 0) ∧ 0 ≤ b ∧ b < h 3 0) ∧ a ≠ b ∧ 1 ≤ c ∧ c ≤ 100) := fun q => by
            have qa : zr a := ⟨by omega, by omega⟩
            have qb : zr b := ⟨by omega, by omega⟩
            have qc : zr c := ⟨by omega, by omega⟩
            first | exact absurd qa (by assumption) | exact absurd qb (by assumption) | exact absurd qc (by assumption)
          refine zH_go 1 (c' := (73, [some (.inr (.inr (some 2))), some (.inr (.inr (some 97))), some (.inl (j : Int)), some (.inl x), some (.inr (.inl a)), none, some (.inr (.inl b)), none, some (.inr (.inl c)), none], [.inl (-1)], (zs h hl))) rfl ?_
          refine zH_ret (v := some (.inl (-1))) rfl (fun q => absurd q (by decide)) ?_
          rw [← ea, ← eb, ← ec]
          exact ⟨_, Or.inr (Or.inr (Or.inl ⟨by omega, hz9, rfl⟩)), rfl, Or.inl ⟨by decide, rfl⟩⟩
      · show zH _ _ (53, [some (.inr (.inr (some 2))), some (.inr (.inr (some 97))), some (.inl (j : Int)), some (.inl x), some (.inr (.inl a)), none, some (.inr (.inl b)), none, some (.inr (.inl c)), none], [.inl 0], (zs h hl)) _
        refine zH_bt (x := 0) (y := 0) (k := .eq) (c1 := (72, [some (.inr (.inr (some 2))), some (.inr (.inr (some 97))), some (.inl (j : Int)), some (.inl x), some (.inr (.inl a)), none, some (.inr (.inl b)), none, some (.inr (.inl c)), none], [], (zs h hl))) (c2 := (56, [some (.inr (.inr (some 2))), some (.inr (.inr (some 97))), some (.inl (j : Int)), some (.inl x), some (.inr (.inl a)), none, some (.inr (.inl b)), none, some (.inr (.inl c)), none], [], (zs h hl))) rfl ⟨by decide, by decide⟩ ⟨by decide, by decide⟩ (by show 0 = 0; decide) ?_
        have hz9 : ¬ (((0 ≤ a ∧ a < h 3 0) ∧ 0 ≤ b ∧ b < h 3 0) ∧ a ≠ b ∧ 1 ≤ c ∧ c ≤ 100) := fun q => by
          have qa : zr a := ⟨by omega, by omega⟩
          have qb : zr b := ⟨by omega, by omega⟩
          have qc : zr c := ⟨by omega, by omega⟩
          first | exact absurd qa (by assumption) | exact absurd qb (by assumption) | exact absurd qc (by assumption)
        refine zH_go 1 (c' := (73, [some (.inr (.inr (some 2))), some (.inr (.inr (some 97))), some (.inl (j : Int)), some (.inl x), some (.inr (.inl a)), none, some (.inr (.inl b)), none, some (.inr (.inl c)), none], [.inl (-1)], (zs h hl))) rfl ?_
        refine zH_ret (v := some (.inl (-1))) rfl (fun q => absurd q (by decide)) ?_
        rw [← ea, ← eb, ← ec]
        exact ⟨_, Or.inr (Or.inr (Or.inl ⟨by omega, hz9, rfl⟩)), rfl, Or.inl ⟨by decide, rfl⟩⟩
    · refine zH_go 1 (c' := (23, [some (.inr (.inr (some 2))), some (.inr (.inr (some 97))), some (.inl (j : Int)), some (.inl x), none, none, none, none, none, none], [.inl (-12)], (zs h hl))) rfl ?_
      refine zH_ret (v := some (.inl (-12))) rfl (fun q => absurd q (by decide)) ?_
      exact ⟨_, Or.inr (Or.inl ⟨hz0, by omega, rfl⟩), rfl, Or.inl ⟨by decide, rfl⟩⟩
  · refine zH_go 1 (c' := (11, [some (.inr (.inr (some 2))), some (.inr (.inr (some 97))), some (.inl (j : Int)), some (.inl x), none, none, none, none, none, none], [.inl x], (zs h hl))) rfl ?_
    refine zH_ret (v := some (.inl x)) rfl (fun q => absurd q (by decide)) ?_
    exact ⟨x, by rcases hx2 with ⟨q, e⟩ | ⟨q, e⟩ <;> first | exact Or.inl ⟨q, e⟩ | exact absurd e (by assumption), rfl, Or.inl ⟨by assumption, rfl⟩⟩
set_option maxRecDepth 100000 in
set_option maxHeartbeats 4000000 in
theorem p_roads2 {d : Nat} {h hl : Nat → Nat → Int} {p r : Nat} (hW : zTown h p r) (hon : zr (h 21 3)) (hR : -1 ≤ h 97 1 ∧ h 97 1 ≤ 4) (hZ : ∀ q : Nat, q < 4 → -1 ≤ h 98 q ∧ h 98 q ≤ 8) (hV : ∀ q i : Nat, q < 4 → i < 8 → zrl (hl (100 + q) i)) : zQ (d + 6) 90 [.inr (.inr (some 2)), .inl 2] (zs h hl) (fun r' σ' => (h 97 1 < 0 ∧ r' = some (.inl 0) ∧ σ' = zs (zup h 2 8 (-11)) hl) ∨ ∃ (R J : Nat) (x : Int) (g : Nat → Nat → Int), h 97 1 = (R : Int) ∧ r' = some (.inl (J : Int)) ∧ σ' = zs (zup g 2 8 x) hl ∧ zTown (zov g (zAR h (fun q i => hl (100 + q) i) r J)) p (r + J) ∧ (∀ c : Nat, c < 3 ∨ 18 ≤ c → g c = h c) ∧ (∀ q : Nat, q < J → zRDec (h 3 0) (h 21 3) ((r + q : Nat) : Int) (h 98 q) (hl (100 + q) 0) (hl (100 + q) 1) (hl (100 + q) 2) 0) ∧ ((J = R ∧ x = 0) ∨ (J < R ∧ ¬ x = 0 ∧ zRDec (h 3 0) (h 21 3) ((r + J : Nat) : Int) (h 98 J) (hl (100 + J) 0) (hl (100 + J) 1) (hl (100 + J) 2) x))) := by
  have hWc := hW
  obtain ⟨hp6, hr15, h30, h31, hp3, hr4, hMe, hTB, hCn, hPo, hRd, hLk, hGr⟩ := hWc
  have hP : 0 ≤ h 3 0 ∧ h 3 0 ≤ 6 := by omega
  refine zQ_of (Nat.le_of_ble_eq_true rfl) ?_
  show zH (d + 5) 90 (0, [some (.inr (.inr (some 2))), some (.inl 2), none, none, none, none], [], (zs h hl)) _
  refine zH_go 1 (c' := (1, [some (.inr (.inr (some 2))), some (.inl 2), none, none, none, none], [.inl 2], (zs h hl))) rfl ?_
  refine zH_call (M' := 92) (as := [.inl 2]) (T := []) rfl (p_isBook ⟨by decide, by decide⟩) (fun r' σ' pm => ?_)
  obtain ⟨rfl, rfl⟩ : r' = some (.inl 1) ∧ σ' = _ := by rcases pm with ⟨a, -, b⟩ | ⟨-, b, -⟩ <;> first | exact ⟨a, b⟩ | (exfalso; omega)
  show zH _ _ (4, [some (.inr (.inr (some 2))), some (.inl 2), none, none, none, none], [.inl 1], (zs h hl)) _
  refine zH_bt (x := 1) (y := 0) (k := .ne) (c1 := (13, [some (.inr (.inr (some 2))), some (.inl 2), none, none, none, none], [], (zs h hl))) (c2 := (7, [some (.inr (.inr (some 2))), some (.inl 2), none, none, none, none], [], (zs h hl))) rfl ⟨by decide, by decide⟩ ⟨by decide, by decide⟩ (by show ¬ 1 = 0; decide) ?_
  refine zH_go 3 (c' := (18, [some (.inr (.inr (some 2))), some (.inl 2), none, none, none, none], [.inl 2, .inr (.inr (some 82))], (zs h hl))) rfl ?_
  refine zH_np (P := 0 ≤ 2 ∧ 2 < ((3 : Nat) : Int)) (c' := (19, [some (.inr (.inr (some 2))), some (.inl 2), none, none, none, none], [.inr (.inr (some 97))], (zs h hl))) rfl ⟨by decide, by decide⟩ ?_
  refine zH_go 2 (c' := (21, [some (.inr (.inr (some 2))), some (.inl 2), some (.inr (.inr (some 97))), none, none, none], [.inr (.inr (some 97))], (zs h hl))) rfl ?_
  refine zH_call (M' := 1) (as := [.inr (.inr (some 97))]) (T := []) rfl (p_bThere2 hR) (fun r σ' p_1 => ?_)
  rcases p_1 with ⟨rfl, b_2, rfl⟩ | ⟨rfl, b_2, rfl⟩
  · show zH _ _ (24, [some (.inr (.inr (some 2))), some (.inl 2), some (.inr (.inr (some 97))), none, none, none], [.inl 1], (zs h hl)) _
    refine zH_bf (x := 1) (y := 0) (k := .eq) (c1 := (31, [some (.inr (.inr (some 2))), some (.inl 2), some (.inr (.inr (some 97))), none, none, none], [], (zs h hl))) (c2 := (27, [some (.inr (.inr (some 2))), some (.inl 2), some (.inr (.inr (some 97))), none, none, none], [], (zs h hl))) rfl ⟨by decide, by decide⟩ ⟨by decide, by decide⟩ (by show ¬ (1 = 0); decide) ?_
    refine zH_go 7 (c' := (40, [some (.inr (.inr (some 2))), some (.inl 2), some (.inr (.inr (some 97))), some (.inl 0), some (.inl 0), some (.inl 0)], [], (zs h hl))) rfl ?_
    obtain ⟨R, hRR⟩ := Int.eq_ofNat_of_zero_le (show 0 ≤ h 97 1 by assumption)
    refine zH_lp (X := (Nat → Nat → Int)) (F := fun (kq : Nat) (x : (Nat → Nat → Int)) => (40, [some (.inr (.inr (some 2))), some (.inl 2), some (.inr (.inr (some 97))), some (.inl 0), some (.inl (kq : Int)), some (.inl (kq : Int))], [], (zs x hl))) (I := fun (kq : Nat) (x : (Nat → Nat → Int)) => zTown (zov x (zAR h (fun q i => hl (100 + q) i) r kq)) p (r + kq) ∧ (∀ c : Nat, c < 3 ∨ 18 ≤ c → x c = h c) ∧ ∀ q : Nat, q < kq → zRDec (h 3 0) (h 21 3) ((r + q : Nat) : Int) (h 98 q) (hl (100 + q) 0) (hl (100 + q) 1) (hl (100 + q) 2) 0) (N := R) (fun k g hk hI ih => ?_) (fun g hI => ?_) 0 h (by omega) ?_
    · skip
      replace hI : zTown (zov g (zAR h (fun q i => hl (100 + q) i) r k)) p (r + k) ∧ (∀ c : Nat, c < 3 ∨ 18 ≤ c → g c = h c) ∧ ∀ q : Nat, q < k → zRDec (h 3 0) (h 21 3) ((r + q : Nat) : Int) (h 98 q) (hl (100 + q) 0) (hl (100 + q) 1) (hl (100 + q) 2) 0 := hI
      show zH _ _ (40, [some (.inr (.inr (some 2))), some (.inl 2), some (.inr (.inr (some 97))), some (.inl 0), some (.inl (k : Int)), some (.inl (k : Int))], [], (zs g hl)) _
      have gR : g 97 1 = (R : Int) := by rw [hI.2.1 97 (by decide)]; exact hRR
      have hWg := hI.1
      obtain ⟨gp6, gr15, g30, g31, gp3, gr4, gMe, gTB, gCn, gPo, gRd, gLk, gGr⟩ := hWg
      rw [zov_l (show 3 < 104 by decide)] at g30 g31
      have gMe2 := zMe_ov gMe
      have gTB2 := zTB_ov gTB
      have gZ : g 98 = h 98 := hI.2.1 98 (by decide)
      have g21 : g 21 = h 21 := hI.2.1 21 (by decide)
      refine zH_go 1 (c' := (41, [some (.inr (.inr (some 2))), some (.inl 2), some (.inr (.inr (some 97))), some (.inl 0), some (.inl (k : Int)), some (.inl (k : Int))], [.inl 0], (zs g hl))) rfl ?_
      refine zH_bf (x := 0) (y := 0) (k := .ne) (c1 := (74, [some (.inr (.inr (some 2))), some (.inl 2), some (.inr (.inr (some 97))), some (.inl 0), some (.inl (k : Int)), some (.inl (k : Int))], [], (zs g hl))) (c2 := (44, [some (.inr (.inr (some 2))), some (.inl 2), some (.inr (.inr (some 97))), some (.inl 0), some (.inl (k : Int)), some (.inl (k : Int))], [], (zs g hl))) rfl ⟨by decide, by decide⟩ ⟨by decide, by decide⟩ (by show ¬ (¬ 0 = 0); decide) ?_
      refine zH_go 3 (c' := (50, [some (.inr (.inr (some 2))), some (.inl 2), some (.inr (.inr (some 97))), some (.inl 0), some (.inl (k : Int)), some (.inl (k : Int))], [.inl (g 97 1), .inl (k : Int)], (zs g hl))) rfl ?_
      rw [gR]
      refine zH_bf (x := (k : Int)) (y := (R : Int)) (k := .ge) (c1 := (74, [some (.inr (.inr (some 2))), some (.inl 2), some (.inr (.inr (some 97))), some (.inl 0), some (.inl (k : Int)), some (.inl (k : Int))], [], (zs g hl))) (c2 := (53, [some (.inr (.inr (some 2))), some (.inl 2), some (.inr (.inr (some 97))), some (.inl 0), some (.inl (k : Int)), some (.inl (k : Int))], [], (zs g hl))) rfl (by first | assumption | (unfold zr; omega)) (by first | assumption | (unfold zr; omega)) (by show ¬ (¬ (k : Int) < (R : Int)); omega) ?_
      refine zH_go 3 (c' := (57, [some (.inr (.inr (some 2))), some (.inl 2), some (.inr (.inr (some 97))), some (.inl 0), some (.inl (k : Int)), some (.inl (k : Int))], [.inl (k : Int), .inr (.inr (some 97)), .inr (.inr (some 2))], (zs g hl))) rfl ?_
      refine zH_call (M' := 95) (as := [.inr (.inr (some 2)), .inr (.inr (some 97)), .inl (k : Int)]) (T := []) rfl (p_rf2 (j := k) (by rw [gR]; omega) (by rw [gR]; omega) (by rw [gZ]; exact hZ) hV (by omega) gMe2 gTB2 (by omega) (by rw [g21]; exact hon)) (fun r' σ' pm => ?_)
      obtain ⟨x, hx, rfl, hcase⟩ := pm
      rw [g30, g31, gZ, g21, ← h30] at hx
      have hxr := zRDec_b hx
      rcases hcase with ⟨hx0, rfl⟩ | ⟨hx0, u, v, eu, ev, g', rfl, pm2⟩
      · show zH _ _ (60, [some (.inr (.inr (some 2))), some (.inl 2), some (.inr (.inr (some 97))), some (.inl 0), some (.inl (k : Int)), some (.inl (k : Int))], [.inl x], (zs g hl)) _
        refine zH_go 2 (c' := (62, [some (.inr (.inr (some 2))), some (.inl 2), some (.inr (.inr (some 97))), some (.inl x), some (.inl (k : Int)), some (.inl (k : Int))], [.inl x], (zs g hl))) rfl ?_
        refine zH_bt (x := x) (y := 0) (k := .ne) (c1 := (68, [some (.inr (.inr (some 2))), some (.inl 2), some (.inr (.inr (some 97))), some (.inl x), some (.inl (k : Int)), some (.inl (k : Int))], [], (zs g hl))) (c2 := (65, [some (.inr (.inr (some 2))), some (.inl 2), some (.inr (.inr (some 97))), some (.inl x), some (.inl (k : Int)), some (.inl (k : Int))], [], (zs g hl))) rfl (by first | assumption | (unfold zr; omega)) ⟨by decide, by decide⟩ (by show ¬ x = 0; omega) ?_
        refine zH_go 2 (c' := (40, [some (.inr (.inr (some 2))), some (.inl 2), some (.inr (.inr (some 97))), some (.inl x), some (.inl (k : Int)), some (.inl ((k : Int) + 1))], [], (zs g hl))) rfl ?_
        refine zH_go 1 (c' := (41, [some (.inr (.inr (some 2))), some (.inl 2), some (.inr (.inr (some 97))), some (.inl x), some (.inl (k : Int)), some (.inl ((k : Int) + 1))], [.inl x], (zs g hl))) rfl ?_
        refine zH_bt (x := x) (y := 0) (k := .ne) (c1 := (74, [some (.inr (.inr (some 2))), some (.inl 2), some (.inr (.inr (some 97))), some (.inl x), some (.inl (k : Int)), some (.inl ((k : Int) + 1))], [], (zs g hl))) (c2 := (44, [some (.inr (.inr (some 2))), some (.inl 2), some (.inr (.inr (some 97))), some (.inl x), some (.inl (k : Int)), some (.inl ((k : Int) + 1))], [], (zs g hl))) rfl (by first | assumption | (unfold zr; omega)) ⟨by decide, by decide⟩ (by show ¬ x = 0; omega) ?_
        refine zH_go 4 (c' := (81, [some (.inr (.inr (some 2))), some (.inl 2), some (.inr (.inr (some 97))), some (.inl x), some (.inl (k : Int)), some (.inl ((k : Int) + 1))], [.inl (k : Int)], (zs (zup g 2 8 x) hl))) rfl ?_
        refine zH_ret (v := some (.inl (k : Int))) rfl (fun q => absurd q (by decide)) ?_
        exact Or.inr ⟨R, k, x, g, hRR, rfl, rfl, hI.1, hI.2.1, hI.2.2, Or.inr ⟨hk, hx0, hx⟩⟩
      · obtain rfl : x = 0 := hx0
        show zH _ _ (60, [some (.inr (.inr (some 2))), some (.inl 2), some (.inr (.inr (some 97))), some (.inl 0), some (.inl (k : Int)), some (.inl (k : Int))], [.inl 0], (zs g' hl)) _
        refine zH_go 2 (c' := (62, [some (.inr (.inr (some 2))), some (.inl 2), some (.inr (.inr (some 97))), some (.inl 0), some (.inl (k : Int)), some (.inl (k : Int))], [.inl 0], (zs g' hl))) rfl ?_
        refine zH_bf (x := 0) (y := 0) (k := .ne) (c1 := (68, [some (.inr (.inr (some 2))), some (.inl 2), some (.inr (.inr (some 97))), some (.inl 0), some (.inl (k : Int)), some (.inl (k : Int))], [], (zs g' hl))) (c2 := (65, [some (.inr (.inr (some 2))), some (.inl 2), some (.inr (.inr (some 97))), some (.inl 0), some (.inl (k : Int)), some (.inl (k : Int))], [], (zs g' hl))) rfl ⟨by decide, by decide⟩ ⟨by decide, by decide⟩ (by show ¬ (¬ 0 = 0); decide) ?_
        refine zH_go 3 (c' := (40, [some (.inr (.inr (some 2))), some (.inl 2), some (.inr (.inr (some 97))), some (.inl 0), some (.inl ((k : Int) + 1)), some (.inl ((k : Int) + 1))], [], (zs g' hl))) rfl ?_
        refine ih g' ?_
        show zTown (zov g' (zAR h (fun q i => hl (100 + q) i) r (k + 1))) p (r + (k + 1)) ∧ (∀ c : Nat, c < 3 ∨ 18 ≤ c → g' c = h c) ∧ ∀ q : Nat, q < (k + 1) → zRDec (h 3 0) (h 21 3) ((r + q : Nat) : Int) (h 98 q) (hl (100 + q) 0) (hl (100 + q) 1) (hl (100 + q) 2) 0
        have hok := zRDec_0 hx
        rw [eu, ev] at hok
        refine ⟨zTown_AR (g := g) (a := u) (b := v) hI.1 hr4 (by omega) (by omega) (by omega) (by omega) (len := hl (100 + k) 2) hok.2.1.2.2 eu ev rfl ⟨pm2.1, pm2.2.1, pm2.2.2.1, pm2.2.2.2.1⟩, fun c hc => by rw [pm2.2.2.2.2 c hc]; exact hI.2.1 c hc, fun q hq => ?_⟩
        by_cases w : q = k
        · rw [w]; exact hx
        · exact hI.2.2 q (by omega)
    · skip
      replace hI : zTown (zov g (zAR h (fun q i => hl (100 + q) i) r R)) p (r + R) ∧ (∀ c : Nat, c < 3 ∨ 18 ≤ c → g c = h c) ∧ ∀ q : Nat, q < R → zRDec (h 3 0) (h 21 3) ((r + q : Nat) : Int) (h 98 q) (hl (100 + q) 0) (hl (100 + q) 1) (hl (100 + q) 2) 0 := hI
      show zH _ _ (40, [some (.inr (.inr (some 2))), some (.inl 2), some (.inr (.inr (some 97))), some (.inl 0), some (.inl (R : Int)), some (.inl (R : Int))], [], (zs g hl)) _
      have gR : g 97 1 = (R : Int) := by rw [hI.2.1 97 (by decide)]; exact hRR
      refine zH_go 1 (c' := (41, [some (.inr (.inr (some 2))), some (.inl 2), some (.inr (.inr (some 97))), some (.inl 0), some (.inl (R : Int)), some (.inl (R : Int))], [.inl 0], (zs g hl))) rfl ?_
      refine zH_bf (x := 0) (y := 0) (k := .ne) (c1 := (74, [some (.inr (.inr (some 2))), some (.inl 2), some (.inr (.inr (some 97))), some (.inl 0), some (.inl (R : Int)), some (.inl (R : Int))], [], (zs g hl))) (c2 := (44, [some (.inr (.inr (some 2))), some (.inl 2), some (.inr (.inr (some 97))), some (.inl 0), some (.inl (R : Int)), some (.inl (R : Int))], [], (zs g hl))) rfl ⟨by decide, by decide⟩ ⟨by decide, by decide⟩ (by show ¬ (¬ 0 = 0); decide) ?_
      refine zH_go 3 (c' := (50, [some (.inr (.inr (some 2))), some (.inl 2), some (.inr (.inr (some 97))), some (.inl 0), some (.inl (R : Int)), some (.inl (R : Int))], [.inl (g 97 1), .inl (R : Int)], (zs g hl))) rfl ?_
      rw [gR]
      refine zH_bt (x := (R : Int)) (y := (R : Int)) (k := .ge) (c1 := (74, [some (.inr (.inr (some 2))), some (.inl 2), some (.inr (.inr (some 97))), some (.inl 0), some (.inl (R : Int)), some (.inl (R : Int))], [], (zs g hl))) (c2 := (53, [some (.inr (.inr (some 2))), some (.inl 2), some (.inr (.inr (some 97))), some (.inl 0), some (.inl (R : Int)), some (.inl (R : Int))], [], (zs g hl))) rfl (by first | assumption | (unfold zr; omega)) (by first | assumption | (unfold zr; omega)) (by show ¬ (R : Int) < (R : Int); omega) ?_
      refine zH_go 4 (c' := (81, [some (.inr (.inr (some 2))), some (.inl 2), some (.inr (.inr (some 97))), some (.inl 0), some (.inl (R : Int)), some (.inl (R : Int))], [.inl (R : Int)], (zs (zup g 2 8 0) hl))) rfl ?_
      refine zH_ret (v := some (.inl (R : Int))) rfl (fun q => absurd q (by decide)) ?_
      exact Or.inr ⟨R, R, 0, g, hRR, rfl, rfl, hI.1, hI.2.1, hI.2.2, Or.inl ⟨rfl, rfl⟩⟩
    · show zTown (zov h (zAR h (fun q i => hl (100 + q) i) r 0)) p (r + 0) ∧ (∀ c : Nat, c < 3 ∨ 18 ≤ c → h c = h c) ∧ ∀ q : Nat, q < 0 → zRDec (h 3 0) (h 21 3) ((r + q : Nat) : Int) (h 98 q) (hl (100 + q) 0) (hl (100 + q) 1) (hl (100 + q) 2) 0
      exact ⟨zTown_same hW (fun c hc => zov_l (by omega)) ⟨congrFun (zov_r (Nat.le_refl 104)) 3, congrFun (zov_r (Nat.le_refl 104)) 4⟩ ⟨zov_r (by decide), zov_r (by decide), zov_r (by decide)⟩, fun c hc => rfl, fun q hq => absurd hq (Nat.not_lt_zero q)⟩
  · show zH _ _ (24, [some (.inr (.inr (some 2))), some (.inl 2), some (.inr (.inr (some 97))), none, none, none], [.inl 0], (zs h hl)) _
    refine zH_bt (x := 0) (y := 0) (k := .eq) (c1 := (31, [some (.inr (.inr (some 2))), some (.inl 2), some (.inr (.inr (some 97))), none, none, none], [], (zs h hl))) (c2 := (27, [some (.inr (.inr (some 2))), some (.inl 2), some (.inr (.inr (some 97))), none, none, none], [], (zs h hl))) rfl ⟨by decide, by decide⟩ ⟨by decide, by decide⟩ (by show 0 = 0; decide) ?_
    refine zH_go 6 (c' := (40, [some (.inr (.inr (some 2))), some (.inl 2), some (.inr (.inr (some 97))), some (.inl (-11)), some (.inl 0), some (.inl 0)], [], (zs h hl))) rfl ?_
    refine zH_go 1 (c' := (41, [some (.inr (.inr (some 2))), some (.inl 2), some (.inr (.inr (some 97))), some (.inl (-11)), some (.inl 0), some (.inl 0)], [.inl (-11)], (zs h hl))) rfl ?_
    refine zH_bt (x := (-11)) (y := 0) (k := .ne) (c1 := (74, [some (.inr (.inr (some 2))), some (.inl 2), some (.inr (.inr (some 97))), some (.inl (-11)), some (.inl 0), some (.inl 0)], [], (zs h hl))) (c2 := (44, [some (.inr (.inr (some 2))), some (.inl 2), some (.inr (.inr (some 97))), some (.inl (-11)), some (.inl 0), some (.inl 0)], [], (zs h hl))) rfl ⟨by decide, by decide⟩ ⟨by decide, by decide⟩ (by show ¬ (-11) = 0; decide) ?_
    refine zH_go 4 (c' := (81, [some (.inr (.inr (some 2))), some (.inl 2), some (.inr (.inr (some 97))), some (.inl (-11)), some (.inl 0), some (.inl 0)], [.inl 0], (zs (zup h 2 8 (-11)) hl))) rfl ?_
    refine zH_ret (v := some (.inl 0)) rfl (fun q => absurd q (by decide)) ?_
    exact Or.inl ⟨by omega, rfl, rfl⟩
