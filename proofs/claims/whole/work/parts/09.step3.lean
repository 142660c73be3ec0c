/-! Arrays: reading and writing. -/
theorem zE_i {g : zG} {σ : zS} {a n : Nat} (h : zSh a = .inr (0, n)) : zE g σ a = .inl (g.2.2 0, zLn σ a n, .inl (fun j => Int32.ofInt (σ.2.2.1 a j))) := zE_a h
theorem zE_z {g : zG} {σ : zS} {a n : Nat} (h : zSh a = .inr (2, n)) : zE g σ a = .inl (g.2.2 2, zLn σ a n, .inl (fun j => Int32.ofInt (σ.2.2.1 a j))) := zE_a h
theorem zE_l {g : zG} {σ : zS} {a n : Nat} (h : zSh a = .inr (1, n)) : zE g σ a = .inl (g.2.2 1, zLn σ a n, .inr (.inl (fun j => Int64.ofInt (σ.2.2.2.1 a j)))) := zE_a h
theorem zE_q {g : zG} {σ : zS} {a t n : Nat} (h : zSh a = .inr (t, n)) (ht : 3 ≤ t) : zE g σ a = .inl (g.2.2 t, zLn σ a n, .inr (.inr (.inr (.inr (fun j => (σ.2.2.2.2 a j).map (zad g)))))) := by
  rw [zE_a h]
  match t, ht with
  | t + 3, _ => rfl
theorem zad_inj {g : zG} {a b : Nat} (ha : 2 ≤ a) (hb : 2 ≤ b) (h : zad g a = zad g b) : a = b := by
  rw [zad_lt ha, zad_lt hb] at h
  omega
section ZS
variable {p : Program} {l : Launch} {e : Env} {R : Room} {s : State} {m : MethodId} {args : Array Value} {below : List Frame} {meth : Method} {c : Code} {Q : State → Prop} {g : zG} {M c0 d0 : Nat}
theorem zty_at {f : Nat → ClassId} {t : Nat} (ht : t ≤ 5) : ((List.range 6).map (fun t => (f t, zTy t)))[t]? = some (f t, zTy t) := by
  rw [List.getElem?_map, List.getElem?_range (by omega)]
  rfl
set_option maxHeartbeats 4000000 in
set_option maxRecDepth 100000 in
theorem z_step3 (hF : zFix p s m args meth c g M) {pc : Nat} {L : List (Option zV)} {S : List zV} {σ : zS} {i : zI} {P : Prop} {c' : zC} (hT : zTab M pc = some i) (h : zstep i (pc, L, S, σ) = some (P, c')) (hP : P)
    (kk : zK p l e R s m args below meth c Q g M c0 d0 c')
    (hi : (match i.1 with
      | .iaload => true | .baload => true | .laload => true | .aaload => true | .iastore => true | .bastore => true | .lastore => true | .aastore => true | _ => false) = true) : zK p l e R s m args below meth c Q g M c0 d0 (pc, L, S, σ) := by
  obtain ⟨hx, hb, hml, hown, hts, hnm, hU, hO⟩ := hF
  obtain ⟨hd, hck, hln, hax⟩ := zcode hT
  obtain ⟨ins, ln, e1, e2⟩ := i
  intro H locs cells slots ls hL hW hS hc hs
  dsimp only at hd hi hL hW hc hs ⊢
  cases ins
  case iaload =>
    obtain rfl : ln = 1 := zn1 hln
    obtain ⟨a, j, T, rfl, h⟩ := zqi_inv h
    obtain ⟨n, hsh, ha, h⟩ := zarr_inv h
    cases h
    have hkk := kk H locs cells slots ls hL hW hS hc hs
    dsimp only at hkk
    match a, hsh, ha, hP, hkk with
    | 0, hsh, ha, hP, hkk =>
      cases hsh
      have h9 : zLen σ 0 18 = ((18 : Nat) : Int) := rfl
      rw [h9] at hP
      obtain ⟨hin, hcl⟩ := z_in hP.1 hP.2 (by omega)
      obtain ⟨cell, b1, b2, b3, b4, b5, b6, b7⟩ := zOld0 hO hS
      have hv : cell.slots[(Int32.ofInt j).toNatClampNeg]? = some (ztr g (.inl (σ.2.2.1 0 j.toNat))) := by
        rw [hcl, b6 j.toNat (by omega), ztr_i, hW.2.2.2.2.2 0 j.toNat (by omega)]
      exact W.iald hx hb b1 b2 b3 (fun q => hin (q.imp id (fun z => Nat.le_trans b4 z))) hv rfl rfl hd hkk
    | 1, hsh, ha, hP, hkk =>
      cases hsh
      have h9 : zLen σ 1 0 = (g.1.2.2.2.2 : Int) := hW.2.2.2.2.1
      have h8 := hW.2.2.2.1.2
      have h7 := hW.2.2.2.2.1
      rw [h9] at hP
      obtain ⟨hin, hcl⟩ := z_in hP.1 hP.2 (by omega)
      obtain ⟨cell, b1, b2, b3, b4, b5, b6, b7⟩ := zOld1 hO hS
      have hv : cell.slots[(Int32.ofInt j).toNatClampNeg]? = some (ztr g (.inl (σ.2.2.1 1 j.toNat))) := by
        rw [hcl, b6 j.toNat (by omega), ztr_i, hW.2.2.2.2.2 1 j.toNat (by omega)]
      exact W.iald hx hb b1 b2 b3 (fun q => hin (q.imp id (fun z => Nat.le_trans b4 z))) hv rfl rfl hd hkk
    | a + 2, hsh, ha, hP, hkk =>
      have hn := zLen_eq hW (a + 2) n (zSh_n hsh).1
      rw [hn.1] at hP
      obtain ⟨hin, hcl⟩ := z_in hP.1 hP.2 hn.2
      have hat := hW.2.2.1 (a + 2) (by omega) ha
      rw [zE_i hsh] at hat
      refine va_iald hx hb hU.1 (va_P1 hat) 0 0 rfl (zty_at (by omega)) hin hd ?_
      rw [hcl]
      exact hkk
  case baload =>
    obtain rfl : ln = 1 := zn1 hln
    obtain ⟨a, j, T, rfl, h⟩ := zqi_inv h
    obtain ⟨n, hsh, ha, h⟩ := zarr_inv h
    cases h
    have hn := zLen_eq hW a n (zSh_n hsh).1
    rw [hn.1] at hP
    obtain ⟨hin, hcl⟩ := z_in hP.1 hP.2 hn.2
    have hat := hW.2.2.1 a (zSh_2 hsh (by omega)) ha
    rw [zE_z hsh] at hat
    refine va_zald hx hb hU.1 (va_P1 hat) 0 2 rfl (zty_at (by omega)) hin hd ?_
    rw [hcl]
    exact kk H locs cells slots ls hL hW hS hc hs
  case laload =>
    obtain rfl : ln = 1 := zn1 hln
    obtain ⟨a, j, T, rfl, h⟩ := zqi_inv h
    obtain ⟨n, hsh, ha, h⟩ := zarr_inv h
    cases h
    have hn := zLen_eq hW a n (zSh_n hsh).1
    rw [hn.1] at hP
    obtain ⟨hin, hcl⟩ := z_in hP.1 hP.2 hn.2
    have hat := hW.2.2.1 a (zSh_2 hsh (by omega)) ha
    rw [zE_l hsh] at hat
    refine va_lald hx hb hU.1 (va_P1 hat) 0 1 rfl (zty_at (by omega)) hin hd ?_
    rw [hcl]
    exact kk H locs cells slots ls hL hW hS hc hs
  case aaload =>
    obtain rfl : ln = 1 := zn1 hln
    obtain ⟨a, j, T, rfl, h⟩ := zqi_inv h
    replace h : zaal pc L σ a j T = some (P, c') := h
    unfold zaal at h
    split at h
    · rename_i t n hsh
      split at h
      · rename_i hr
        cases h
        obtain ⟨t3, t5, ha2, ha⟩ := hr
        obtain ⟨hin, hcl⟩ := z_in hP.1 hP.2 (Nat.le_trans (zSh_n hsh).1 (by omega))
        have hat := hW.2.2.1 a ha2 ha
        rw [zE_q hsh t3, zLn_n (by omega)] at hat
        have hlt : (Int32.ofInt j).toNatClampNeg < n := by rw [hcl]; omega
        have href : (zTy t).isReference = true := by
          rcases (show t = 3 ∨ t = 4 ∨ t = 5 by omega) with rfl | rfl | rfl <;> rfl
        have hst : (arrV (g.2.2 t) n (fun k => va_rf ((σ.2.2.2.2 a k).map (zad g)))).slots[(Int32.ofInt j).toNatClampNeg]? = some (ztr g (.inr (.inr (σ.2.2.2.2 a j.toNat)))) := by
          rw [arrV_read _ _ hlt, hcl]
          rfl
        exact W.aald (v := ztr g (.inr (.inr (σ.2.2.2.2 a j.toNat)))) (ty := zTy t) hx hb hat ((hU.1.2 t _ (zty_at (by omega))).1 n (fun k => va_rf ((σ.2.2.2.2 a k).map (zad g)))) href (fun q => by cases q) (by show ¬ (_ ∨ (arrV _ _ _).slots.size ≤ _); rw [arrV_size]; exact hin) hst rfl rfl hd (kk H locs cells slots ls hL hW hS hc hs)
      · cases h
    · cases h
  case iastore =>
    obtain rfl : ln = 1 := zn1 hln
    obtain ⟨a, j, v, T, rfl, h⟩ := zqiv_inv h
    rcases v with x | x | x
    · obtain ⟨n, hsh, ha, h⟩ := zarr_inv h
      split at h
      · rename_i ha2
        cases h
        obtain ⟨hin, hcl⟩ := z_in hP.1 hP.2 (Nat.le_trans (zSh_n hsh).1 (by omega))
        have hat := hW.2.2.1 a ha2 ha
        rw [zE_i hsh, zLn_n (by omega)] at hat
        refine W.iast hx hb hat ((hU.1.2 0 _ (zty_at (by omega))).1 n (fun k => .int (Int32.ofInt (σ.2.2.1 a k)))) (fun q => by cases q) (by show ¬ (_ ∨ (arrV _ _ _).slots.size ≤ _); rw [arrV_size]; exact hin) rfl rfl hd fun H1 e1' z oq => ?_
        refine kk H1 _ cells slots ls hL ?_ (zSput hS z oq ha2) hc hs
        refine zWd_set hW ha2 rfl rfl z oq ?_ (fun b hb => zE_congr (fun k => zup_ne hb) (fun _ => rfl) (fun _ => rfl) rfl) (fun b k hb => zup_ne (by omega))
        rw [zE_i hsh]
        show H1[zad g a]? = some (vp_cell _ _)
        rw [e1', hcl, vp_cell_i, vp_cell_i, arrV_store, zLn_n (by omega)]
        congr 2
        funext q
        by_cases hq : q = j.toNat
        · subst hq
          simp [updV, zup]
        · simp [updV, zup, hq]
      · cases h
    · cases h
    · cases h
  case bastore =>
    obtain rfl : ln = 1 := zn1 hln
    obtain ⟨a, j, v, T, rfl, h⟩ := zqiv_inv h
    rcases v with x | x | x
    · obtain ⟨n, hsh, ha, h⟩ := zarr_inv h
      split at h
      · rename_i ha2
        cases h
        obtain ⟨hP1, hx01⟩ := hP
        obtain ⟨hin, hcl⟩ := z_in hP1.1 hP1.2 (Nat.le_trans (zSh_n hsh).1 (by omega))
        have hat := hW.2.2.1 a ha2 ha
        rw [zE_z hsh, zLn_n (by omega)] at hat
        have hnar : narrow .boolean (.int (Int32.ofInt x)) = .int (Int32.ofInt x) := by
          rcases hx01 with rfl | rfl <;> rfl
        refine W.zast hx hb hat ((hU.1.2 2 _ (zty_at (by omega))).1 n (fun k => .int (Int32.ofInt (σ.2.2.1 a k)))) (fun q => by cases q) (by show ¬ (_ ∨ (arrV _ _ _).slots.size ≤ _); rw [arrV_size]; exact hin) rfl rfl hd fun H1 e1' z oq => ?_
        refine kk H1 _ cells slots ls hL ?_ (zSput hS z oq ha2) hc hs
        refine zWd_set hW ha2 rfl rfl z oq ?_ (fun b hb => zE_congr (fun k => zup_ne hb) (fun _ => rfl) (fun _ => rfl) rfl) (fun b k hb => zup_ne (by omega))
        rw [zE_z hsh]
        show H1[zad g a]? = some (vp_cell _ _)
        rw [e1', hcl, hnar, vp_cell_i, vp_cell_i, arrV_store, zLn_n (by omega)]
        congr 2
        funext q
        by_cases hq : q = j.toNat
        · subst hq
          simp [updV, zup]
        · simp [updV, zup, hq]
      · cases h
    · cases h
    · cases h
  case lastore =>
    obtain rfl : ln = 1 := zn1 hln
    obtain ⟨a, j, v, T, rfl, h⟩ := zqiv_inv h
    rcases v with x | x | x
    · cases h
    · obtain ⟨n, hsh, ha, h⟩ := zarr_inv h
      split at h
      · rename_i ha2
        cases h
        obtain ⟨hin, hcl⟩ := z_in hP.1 hP.2 (Nat.le_trans (zSh_n hsh).1 (by omega))
        have hat := hW.2.2.1 a ha2 ha
        have ha1 : a ≠ 1 := by
          intro q
          have := (zSh_n hsh).2.2.1 q
          omega
        rw [zE_l hsh, zLn_n ha1] at hat
        refine W.last hx hb hat ((hU.1.2 1 _ (zty_at (by omega))).1 n (fun k => .long (Int64.ofInt (σ.2.2.2.1 a k)))) (fun q => by cases q) (by show ¬ (_ ∨ (arrV _ _ _).slots.size ≤ _); rw [arrV_size]; exact hin) rfl rfl hd fun H1 e1' z oq => ?_
        refine kk H1 _ cells slots ls hL ?_ (zSput hS z oq ha2) hc hs
        refine zWd_set hW ha2 rfl (zup_ne (by omega)) z oq ?_ (fun b hb => zE_congr (fun _ => rfl) (fun k => zup_ne hb) (fun _ => rfl) (zup_ne (by omega))) (fun _ _ _ => rfl)
        rw [zE_l hsh]
        show H1[zad g a]? = some (vp_cell _ _)
        rw [e1', hcl, vp_cell_l, vp_cell_l, arrV_store, zLn_n ha1]
        congr 2
        funext q
        by_cases hq : q = j.toNat
        · subst hq
          simp [updV, zup]
        · simp [updV, zup, hq]
      · cases h
    · cases h
  case aastore =>
    obtain rfl : ln = 1 := zn1 hln
    obtain ⟨a, j, v, T, rfl, h⟩ := zqiv_inv h
    rcases v with x | x | _ | x
    · cases h
    · cases h
    · cases h
    · obtain ⟨n, hsh, ha, h⟩ := zarr_inv h
      split at h
      · rename_i hr
        cases h
        obtain ⟨ha2, hb2, hbn, hbs⟩ := hr
        obtain ⟨hin, hcl⟩ := z_in hP.1 hP.2 (Nat.le_trans (zSh_n hsh).1 (by omega))
        have hat := hW.2.2.1 a ha2 ha
        rw [zE_q hsh (by omega), zLn_n (by omega)] at hat
        have hbt := hW.2.2.1 x hb2 hbn
        rw [zE_o hbs] at hbt
        have hlt : (Int32.ofInt j).toNatClampNeg < n := by rw [hcl]; omega
        have h0 : ¬ Int32.ofInt j < 0 := fun q => hin (Or.inl q)
        obtain ⟨r', hr', cellV, g1, g2, g3, -⟩ := hbt
        have hc0 : vwCl[0]? = some (RX0, TX0, 4) := rfl
        have hcls := (hU.1.1 0 _ hc0).2
        obtain ⟨kA, comp, k1, k2, k3, -⟩ : va_RA s (g.2.2 5) (.object "LadderCalls$Book") := (hU.1.2 5 _ (zty_at (by omega))).2
        have hcomp : comp = g.2.1.1 0 := Option.some.inj (k3.symm.trans hcls.1)
        subst hcomp
        obtain ⟨kC, hkC, -⟩ := hcls.2
        refine W.aast hx hb hat (fun q h => by cases h) (fun h => by cases h) k1 k2 rfl hkC ⟨h0, by show _ < (arrV _ _ _).slots.size; rw [arrV_size]; exact hlt⟩ g1 (fun q h => by rw [g3] at h; cases h) (by rw [g2]; exact hkC) (by rw [g2]; exact va_assign hcls) rfl rfl hd fun H1 e1' z oq => ?_
        refine kk H1 _ cells slots ls hL ?_ (zSput hS z oq ha2) hc hs
        refine zWd_set hW ha2 rfl rfl z oq ?_ (fun b hb => zE_congr (fun _ => rfl) (fun _ => rfl) (fun k => zupr_ne hb) rfl) (fun _ _ _ => rfl)
        rw [zE_q hsh (by omega)]
        show H1[zad g a]? = some (vp_cell _ _)
        rw [e1', hcl, vp_cell_q, vp_cell_q, arrV_store, zLn_n (by omega)]
        congr 2
        funext q
        by_cases hq : q = j.toNat
        · subst hq
          simp [updV, zupr, va_rf]
        · simp [updV, zupr, hq]
      · cases h
  all_goals exact absurd (show false = true from hi) (by decide)
end ZS
