/-! The run of a method of the small machine gives the method's contract. -/
theorem zret_inv {i : zI} {S : List zV} {v : Option zV} (h : zret i S = some v) : S = v.toList ∧ ((∃ x : Int, v = some (.inl x) ∧ i.1 = .ireturn) ∨ (∃ x : Int, v = some (.inr (.inl x)) ∧ i.1 = .lreturn) ∨ (v = none ∧ i.1 = .return_)) := by
  obtain ⟨ins, ln, e1, e2⟩ := i
  unfold zret at h
  dsimp only at h ⊢
  split at h
  · cases h
    exact ⟨rfl, Or.inl ⟨_, rfl, rfl⟩⟩
  · cases h
    exact ⟨rfl, Or.inr (Or.inl ⟨_, rfl, rfl⟩)⟩
  · cases h
    exact ⟨rfl, Or.inr (Or.inr ⟨rfl, rfl⟩)⟩
  · cases h
section ZQ
variable {p : Program} {l : Launch} {e : Env} {R : Room} {s : State} {m : MethodId} {args : Array Value} {below : List Frame} {meth : Method} {c : Code} {Q : State → Prop} {g : zG} {M c0 d0 : Nat}
set_option maxHeartbeats 4000000 in
theorem z_cmp (hF : zFix p s m args meth c g M) {pc : Nat} {L : List (Option zV)} {S T : List zV} {σ : zS} {i : zI} {x y off : Int} {k : Jvm.ClassFile.Cond} (hT : zTab M pc = some i) (h : zcmp i S = some (x, y, k, off, T)) (hx0 : zr x) (hy0 : zr y)
    (kt : zrel k x y → zK p l e R s m args below meth c Q g M c0 d0 (((pc : Int) + off).toNat, L, T, σ)) (kf : ¬ zrel k x y → zK p l e R s m args below meth c Q g M c0 d0 (pc + 3, L, T, σ)) : zK p l e R s m args below meth c Q g M c0 d0 (pc, L, S, σ) := by
  obtain ⟨hx, hb, hml, hown, hts, hnm, hU, hO⟩ := hF
  obtain ⟨hd, hck, hln, hax⟩ := zcode hT
  obtain ⟨ins, ln, e1, e2⟩ := i
  intro H locs cells slots ls hL hW hS hc hs
  dsimp only at hd hL hW hc hs ⊢
  have hz0 : zr 0 := ⟨by omega, by omega⟩
  have e0 : Int32.ofInt 0 = 0 := rfl
  unfold zcmp at h
  dsimp only at h
  split at h
  · rename_i k' off' x' T'
    cases h
    obtain rfl : ln = 3 := Nat.eq_of_beq_eq_true hln
    have h0 : ((pc : Int) + off) = (((pc : Int) + off).toNat : Int) := (Int.toNat_of_nonneg (of_decide_eq_true hax)).symm
    have kt' := fun q => kt q H locs cells slots ls hL hW hS hc hs
    have kf' := fun q => kf q H locs cells slots ls hL hW hS hc hs
    cases k
    · exact lv_if_eq hx hb hd h0 (fun q => kt' ((zi_eq hx0 hz0).mp q)) (fun q => kf' (fun z => q ((zi_eq hx0 hz0).mpr z)))
    · exact lv_if_ne hx hb hd h0 (fun q => kt' (fun z => q ((zi_eq hx0 hz0).mpr z))) (fun q => kf' (fun z => z ((zi_eq hx0 hz0).mp q)))
    · exact lv_if_lt hx hb hd h0 (fun q => kt' ((zi_lt hx0 hz0).mp q)) (fun q => kf' (fun z => q ((zi_lt hx0 hz0).mpr z)))
    · exact lv_if_ge hx hb hd h0 (fun q => kt' (Int.not_lt.mpr ((zi_le hz0 hx0).mp q))) (fun q => kf' (fun z => q ((zi_le hz0 hx0).mpr (Int.not_lt.mp z))))
    · exact lv_if_gt hx hb hd h0 (fun q => kt' ((zi_lt hz0 hx0).mp q)) (fun q => kf' (fun z => q ((zi_lt hz0 hx0).mpr z)))
    · exact lv_if_le hx hb hd h0 (fun q => kt' (Int.not_lt.mpr ((zi_le hx0 hz0).mp q))) (fun q => kf' (fun z => q ((zi_le hx0 hz0).mpr (Int.not_lt.mp z))))
  · rename_i k' off' y' x' T'
    cases h
    obtain rfl : ln = 3 := Nat.eq_of_beq_eq_true hln
    have h0 : ((pc : Int) + off) = (((pc : Int) + off).toNat : Int) := (Int.toNat_of_nonneg (of_decide_eq_true hax)).symm
    have kt' := fun q => kt q H locs cells slots ls hL hW hS hc hs
    have kf' := fun q => kf q H locs cells slots ls hL hW hS hc hs
    cases k
    · exact lv_icmp_eq hx hb hd h0 (fun q => kt' ((zi_eq hx0 hy0).mp q)) (fun q => kf' (fun z => q ((zi_eq hx0 hy0).mpr z)))
    · exact lv_icmp_ne hx hb hd h0 (fun q => kt' (fun z => q ((zi_eq hx0 hy0).mpr z))) (fun q => kf' (fun z => z ((zi_eq hx0 hy0).mp q)))
    · exact lv_icmp_lt hx hb hd h0 (fun q => kt' ((zi_lt hx0 hy0).mp q)) (fun q => kf' (fun z => q ((zi_lt hx0 hy0).mpr z)))
    · exact lv_icmp_ge hx hb hd h0 (fun q => kt' (Int.not_lt.mpr ((zi_le hy0 hx0).mp q))) (fun q => kf' (fun z => q ((zi_le hy0 hx0).mpr (Int.not_lt.mp z))))
    · exact lv_icmp_gt hx hb hd h0 (fun q => kt' ((zi_lt hy0 hx0).mp q)) (fun q => kf' (fun z => q ((zi_lt hy0 hx0).mpr z)))
    · exact lv_icmp_le hx hb hd h0 (fun q => kt' (Int.not_lt.mpr ((zi_le hx0 hy0).mp q))) (fun q => kf' (fun z => q ((zi_le hx0 hy0).mpr (Int.not_lt.mp z))))
  · cases h
set_option maxHeartbeats 4000000 in
theorem z_stepA (hF : zFix p s m args meth c g M) {pc : Nat} {L : List (Option zV)} {S : List zV} {σ : zS} {i : zI} {P : Prop} {c' : zC} (hT : zTab M pc = some i) (h : zstep i (pc, L, S, σ) = some (P, c')) (hP : P)
    (hRc : c'.2.2.2.1 ≤ R.cells + c0) (hRs : c'.2.2.2.2.1 ≤ R.slots + d0) (hRf : 1 ≤ R.frames) (hRl : 21 ≤ R.locals)
    (kk : zK p l e R s m args below meth c Q g M c0 d0 c') : zK p l e R s m args below meth c Q g M c0 d0 (pc, L, S, σ) := by
  have hm := zstep_mono h
  have a1 := z_step1 (l := l) (e := e) (R := R) (below := below) (Q := Q) (c0 := c0) (d0 := d0) hF hT h hP kk
  have a2 := z_step2 (l := l) (e := e) (R := R) (below := below) (Q := Q) (c0 := c0) (d0 := d0) hF hT h hP kk
  have a3 := z_step3 (l := l) (e := e) (R := R) (below := below) (Q := Q) (c0 := c0) (d0 := d0) hF hT h hP kk
  have a4 := z_step4 (l := l) (e := e) (R := R) (below := below) (Q := Q) (c0 := c0) (d0 := d0) hF hT h hP hRc hRs (Nat.le_trans hm.1 hRc) (Nat.le_trans hm.2 hRs) hRf hRl kk
  obtain ⟨ins, ln, e1, e2⟩ := i
  cases ins <;> first | exact a1 rfl | exact a2 rfl | exact a3 rfl | exact a4 rfl | exact absurd h (by intro q; cases q)
set_option maxHeartbeats 4000000 in
theorem z_sound {d : Nat} {K : Nat → List zV → zS → Option zV → zS → Prop} (hF : zFix p s m args meth c g M) (hK : ∀ M as σ r σ', K M as σ r σ' → σ.1 ≤ σ'.1 ∧ σ.2.1 ≤ σ'.2.1) (hI : ∀ M' as σ r σ', K M' as σ r σ' → M' < 153 → zMet l g d M' as σ r σ') (hRf : d + 1 ≤ R.frames) (hRl : 38 * d + 46 ≤ R.locals)
    {r : Option zV} {σ' : zS} (hRc : σ'.1 ≤ R.cells + c0) (hRs : σ'.2.1 ≤ R.slots + d0)
    (hE : ∀ (pc' : Nat) (i : zI) (H' : Heap) (locs' : List Loc) (cells' slots' : Nat) (ls' : Array Slot), zTab M pc' = some i → ((∃ x : Int, r = some (.inl x) ∧ i.1 = .ireturn) ∨ (∃ x : Int, r = some (.inr (.inl x)) ∧ i.1 = .lreturn) ∨ (r = none ∧ i.1 = .return_)) → zrok M r → zWd g σ' H' → va_S (fun q : Nat => g.1.1 ≤ q) s.heap H' locs' → cells' + c0 = σ'.1 → slots' + d0 = σ'.2.1 → W p l e R s m args below meth c H' locs' cells' slots' Q (F0 m pc' ls' (r.toList.map (ztr g)))) :
    ∀ (n pc : Nat) (L : List (Option zV)) (S : List zV) (σ : zS), zR K M n (pc, L, S, σ) r σ' → zK p l e R s m args below meth c Q g M c0 d0 (pc, L, S, σ) := by
  intro n
  induction n with
  | zero => intro pc L S σ h; exact absurd h (fun q => q)
  | succ n ih =>
    intro pc L S σ h
    unfold zR at h
    split at h
    · exact h.elim
    · rename_i i hT
      split at h
      · rename_i v hr
        obtain ⟨⟨rfl, rfl⟩, hok⟩ := h
        obtain ⟨hS, hv⟩ := zret_inv hr
        subst hS
        intro H locs cells slots ls hL hW hS hc hs
        exact hE pc i H locs cells slots ls hT hv hok hW hS hc hs
      · split at h
        · rename_i x y k off T hcm
          obtain ⟨hxy, h1, h2⟩ := h
          exact z_cmp hF hT hcm hxy.1 hxy.2 (fun q => ih _ _ _ _ (h1 q)) (fun q => ih _ _ _ _ (h2 q))
        · split at h
          · rename_i M' as T hcl
            obtain ⟨r1, σ1, h1, h2⟩ := h
            have b := zR_mono hK _ _ _ _ _ _ _ h2
            exact z_call hF hT hcl (hI _ _ _ _ _ h1) (Nat.le_trans b.1 hRc) (Nat.le_trans b.2 hRs) hRf hRl (ih _ _ _ _ h2)
          · split at h
            · rename_i P c' hst
              obtain ⟨pc', L', S', σ2⟩ := c'
              have b := zR_mono hK _ _ _ _ _ _ _ h.2
              exact z_stepA hF hT hst h.1 (Nat.le_trans b.1 hRc) (Nat.le_trans b.2 hRs) (by omega) (by omega) (ih _ _ _ _ h.2)
            · exact h.elim
end ZQ
theorem zlay_sl {g : zG} (as : List zV) : (lg_sl (as.map (ztr g))).length = (zlay as).length := by
  induction as with
  | nil => rfl
  | cons v as ih =>
    have h1 : lg_sl ((v :: as).map (ztr g)) = (if (ztr g v).category = 2 then [.val (ztr g v), .second] else [.val (ztr g v)]) ++ lg_sl (as.map (ztr g)) := rfl
    have h2 : zlay (v :: as) = (if zcat v = 2 then [some v, none] else [some v]) ++ zlay as := rfl
    rw [h1, h2, List.length_append, List.length_append, ih, ztr_cat]
    by_cases hc : zcat v = 2
    · rw [if_pos hc, if_pos hc]
      rfl
    · rw [if_neg hc, if_neg hc]
      rfl
theorem zlay_args {g : zG} (as : List zV) : ∀ (o i : Nat) (v : zV), (zlay as)[i]? = some (some v) → (o + i, ztr g v) ∈ lv_args o (as.map (ztr g)) := by
  induction as with
  | nil => intro o i v h; cases h
  | cons w as ih =>
    intro o i v h
    have h2 : zlay (w :: as) = (if zcat w = 2 then [some w, none] else [some w]) ++ zlay as := rfl
    have h3 : lv_args o ((w :: as).map (ztr g)) = (o, ztr g w) :: lv_args (if (ztr g w).category = 2 then o + 2 else o + 1) (as.map (ztr g)) := rfl
    rw [h2] at h
    rw [h3, ztr_cat]
    by_cases hc : zcat w = 2
    · rw [if_pos hc] at h ⊢
      match i, h with
      | 0, h =>
        cases h
        exact List.mem_cons_self
      | 1, h => cases h
      | i + 2, h =>
        have h5 := ih (o + 2) i v h
        rw [show o + 2 + i = o + (i + 2) by omega] at h5
        exact List.mem_cons_of_mem _ h5
    · rw [if_neg hc] at h ⊢
      match i, h with
      | 0, h =>
        cases h
        exact List.mem_cons_self
      | i + 1, h =>
        have h5 := ih (o + 1) i v h
        rw [show o + 1 + i = o + (i + 1) by omega] at h5
        exact List.mem_cons_of_mem _ h5
theorem zent_L {g : zG} {M : Nat} {as : List zV} (h : (zlay as).length ≤ zMx M) : zL g ((lg_sl (as.map (ztr g)) ++ List.replicate (zMx M - (lg_sl (as.map (ztr g))).length) Slot.unset).toArray) (zMx M) (zent M as) := by
  refine zL_of (lv_entry (as.map (ztr g)) (n := zMx M) (by rw [zlay_sl]; exact h)) (by unfold zent; rw [List.length_append, List.length_replicate]; omega) (fun i v hv => ?_)
  unfold zent at hv
  by_cases hi : i < (zlay as).length
  · rw [List.getElem?_append_left hi] at hv
    have h1 := zlay_args (g := g) as 0 i v hv
    rw [Nat.zero_add] at h1
    exact h1
  · rw [List.getElem?_append_right (by omega), List.getElem?_replicate] at hv
    split at hv <;> cases hv
set_option maxHeartbeats 4000000 in
theorem z_met (l : Launch) (g : zG) : ∀ (d M : Nat) (as : List zV) (σ : zS) (r : Option zV) (σ' : zS), zRun d M as σ r σ' → M < 153 → zMet l g d M as σ r σ' := by
  intro d
  induction d with
  | zero => intro M as σ r σ' h; exact absurd h (fun q => q)
  | succ d ih =>
    intro M as σ r σ' hrun hM
    have hmo := zRun_mono _ _ _ _ _ _ hrun
    obtain ⟨hlay, n, hz⟩ := hrun
    obtain ⟨mc, hmc⟩ : ∃ mc, σ'.1 = σ.1 + mc := ⟨σ'.1 - σ.1, by omega⟩
    obtain ⟨ms, hms⟩ : ∃ ms, σ'.2.1 = σ.2.1 + ms := ⟨σ'.2.1 - σ.2.1, by omega⟩
    refine ⟨mc, ms, hmc, hms, ?_⟩
    have hpl := zm_ok M hM
    unfold zmOk at hpl
    simp only [Bool.and_eq_true, decide_eq_true_eq] at hpl
    refine Met.ofW (cc := zMb M) (maxL := zMx M) (ret := zMr M) hpl.1.1.1.1.1.1.1 rfl ?_
    intro p e s m args below meth c s₁ B hml hv
    obtain ⟨rfl, hW, hU, hO⟩ := hv
    have hts0 := atoms_spec (ws := zWs M) B.pre
    have hr := B.returns
    have hlocks := B.notSynchronized
    have hF : zFix p s m ((as.map (ztr g)).toArray) meth c g M := ⟨B.exec, B.bytes, hml, findClass_of_methodNamed B.named, fun w hw => hts0 w (List.mem_cons_of_mem _ hw), fun hn => (name_of_methodNamed B.named B.method).1.trans hn, hU, hO⟩
    rw [lg_entry_eq]
    refine z_sound (R := zRm (d + 1) mc ms) (d := d) (K := zRun d) (c0 := σ.1) (d0 := σ.2.1) hF (fun M as σ r σ' h => zRun_mono d M as σ r σ' h) (fun M' as σ r σ' h hlt => ih M' as σ r σ' h hlt) (Nat.le_refl _) (by show 38 * d + 46 ≤ 38 * (d + 1) + 8; omega) (by show σ'.1 ≤ mc + σ.1; omega) (by show σ'.2.1 ≤ ms + σ.2.1; omega) ?_ n 0 (zent M as) [] σ hz s.heap [] 0 0 _ (zent_L hlay) hW va_S.rf (Nat.zero_add _) (Nat.zero_add _)
    intro pc' i H' locs' cells' slots' ls' hT' hret hok hW' hS' hc' hs'
    obtain rfl : cells' = mc := by omega
    obtain rfl : slots' = ms := by omega
    obtain ⟨hd', -, hln, -⟩ := zcode hT'
    have hro := zret_ok M hM pc'
    unfold zretOk at hro
    rw [hT'] at hro
    obtain ⟨ins, ln, e1, e2⟩ := i
    dsimp only at hd' hret hro
    have hpost : ∀ t : State, t.heap = H' → zPost g r σ' ((as.map (ztr g)).toArray) s (.returned (r.map (ztr g))) t := fun t ht => ⟨rfl, by rw [ht]; exact hW', fun q hq => by
      rw [ht]
      exact hS'.2.1 q (by have := hW.1; have := hW.2.1; omega) (by show ¬ g.1.1 ≤ q; omega)⟩
    rcases hret with ⟨x, rfl, rfl⟩ | ⟨x, rfl, rfl⟩ | ⟨rfl, rfl⟩
    · obtain rfl : ln = 1 := Nat.eq_of_beq_eq_true hln
      have hro2 : ((decide (zMr M = some .int) && !(zBo M)) || (decide (zMr M = some .boolean) && zBo M)) = true := hro
      simp only [Bool.or_eq_true, Bool.and_eq_true, decide_eq_true_eq] at hro2
      rcases hro2 with ⟨h1, -⟩ | ⟨h1, h2⟩
      · exact W.iret B.exec B.bytes (hr.trans h1) (fun t ht hw => hpost t ht) hS'.2.2 hd'
      · have hnar : narrow .boolean (.int (Int32.ofInt x)) = .int (Int32.ofInt x) := by
          rcases hok h2 with q | q <;> (cases q; rfl)
        exact W.zret B.exec B.bytes (hr.trans h1) hnar (fun t ht hw => hpost t ht) hS'.2.2 hd'
    · obtain rfl : ln = 1 := Nat.eq_of_beq_eq_true hln
      have hro2 : decide (zMr M = some .long) = true := hro
      exact W.lret B.exec B.bytes (hr.trans (of_decide_eq_true hro2)) (fun t ht hw => hpost t ht) hS'.2.2 hd'
    · obtain rfl : ln = 1 := Nat.eq_of_beq_eq_true hln
      have hro2 : decide (zMr M = none) = true := hro
      exact W.vret B.exec B.bytes (hr.trans (of_decide_eq_true hro2)) (fun t ht hw => hpost t ht) hS'.2.2 hd'
