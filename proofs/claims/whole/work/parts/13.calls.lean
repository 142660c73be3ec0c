section ZC
variable {p : Program} {l : Launch} {e : Env} {R : Room} {s : State} {m : MethodId} {args : Array Value} {below : List Frame} {meth : Method} {c : Code} {Q : State → Prop} {g : zG} {M c0 d0 : Nat}
theorem z_after {σ σ1 : zS} {r : Option zV} {H : Heap} {locs : List Loc} {cells slots mc ms pc : Nat} {ls : Array Slot} {st0 : List Value} {T : List zV} {a : Array Value}
    (hr : va_Run p l e R s m args below meth c H locs cells slots mc ms (F0 m pc ls st0) (T.map (ztr g)) (zPost g r σ1 a) (fun q => g.1.1 ≤ q))
    (kk : ∀ (H1 : Heap) (L : List Loc), zWd g σ1 H1 → (∀ q : Nat, q < g.1.1 → H1[q]? = H[q]?) → (∀ q ∈ L, g.1.1 ≤ q.base) → W p l e R s m args below meth c H1 (locs ++ L) (cells + mc) (slots + ms) Q (F0 m (pc + 3) ls ((r.toList ++ T).map (ztr g)))) :
    W p l e R s m args below meth c H locs cells slots Q (F0 m pc ls st0) := by
  intro TT hT X
  obtain ⟨v, st₀, t, T', L, h0, X', hL, e1, e2, ⟨hv, hw, hk⟩, st⟩ := hr TT hT X
  cases hv
  obtain ⟨t2, a1, b1⟩ := kk T'.heap L (by rw [e1]; exact hw) (fun q hq => by rw [e1, hk q hq, h0]) hL T' rfl X'
  refine ⟨t2, st t2 ?_, b1⟩
  have e9 : (r.map (ztr g)).toList ++ T.map (ztr g) = (r.toList ++ T).map (ztr g) := by cases r <;> rfl
  rw [e9]
  exact a1
theorem zcall_inv {i : zI} {S : List zV} {σ : zS} {M' : Nat} {as T : List zV} (h : zcall i S σ = some (M', as, T)) : M' = i.2.2.1 ∧ (T.map zcat).sum ≤ 8 ∧ ∃ A : List zV, S = A ++ (S.drop (zNa M')) ∧ A.length = zNa M' ∧
    ((∃ x a, i.1 = .invokevirtual x ∧ S.drop (zNa M') = .inr (.inr (some a)) :: T ∧ as = .inr (.inr (some a)) :: A.reverse ∧ zSh a = .inl (zMc M') ∧ a < σ.1 ∧ i.2.2.2 = 0) ∨
     (∃ x a, i.1 = .invokespecial x ∧ S.drop (zNa M') = .inr (.inr (some a)) :: T ∧ as = .inr (.inr (some a)) :: A.reverse ∧ i.2.2.2 = 0) ∨
     (∃ x, i.1 = .invokestatic x ∧ S.drop (zNa M') = T ∧ as = A.reverse ∧ (i.2.2.2 = 0 ∨ i.2.2.2 = 4))) := by
  obtain ⟨ins, ln, e1, e2⟩ := i
  have hlen : ∀ {v : zV} {T0 : List zV}, S.drop (zNa e1) = v :: T0 → (S.take (zNa e1)).length = zNa e1 := by
    intro v T0 hd
    have h1 : (S.drop (zNa e1)).length = T0.length + 1 := by rw [hd]; rfl
    rw [List.length_drop] at h1
    rw [List.length_take]
    omega
  cases ins
  case invokevirtual x =>
    replace h : (match S.drop (zNa e1) with
      | .inr (.inr (some a)) :: T => if zSh a = .inl (zMc e1) ∧ a < σ.1 ∧ (T.map zcat).sum ≤ 8 ∧ e2 = 0 then some (e1, .inr (.inr (some a)) :: (S.take (zNa e1)).reverse, T) else none
      | _ => none) = some (M', as, T) := h
    split at h
    · rename_i a T0 hd
      obtain ⟨hc, h⟩ := zif h
      cases h
      exact ⟨rfl, hc.2.2.1, S.take (zNa M'), (List.take_append_drop _ _).symm, hlen hd, Or.inl ⟨x, a, rfl, hd, rfl, hc.1, hc.2.1, hc.2.2.2⟩⟩
    · cases h
  case invokespecial x =>
    replace h : (match S.drop (zNa e1) with
      | .inr (.inr (some a)) :: T => if (T.map zcat).sum ≤ 8 ∧ e2 = 0 then some (e1, .inr (.inr (some a)) :: (S.take (zNa e1)).reverse, T) else none
      | _ => none) = some (M', as, T) := h
    split at h
    · rename_i a T0 hd
      obtain ⟨hc, h⟩ := zif h
      cases h
      exact ⟨rfl, hc.1, S.take (zNa M'), (List.take_append_drop _ _).symm, hlen hd, Or.inr (Or.inl ⟨x, a, rfl, hd, rfl, hc.2⟩)⟩
    · cases h
  case invokestatic x =>
    obtain ⟨hc, h⟩ := zif h
    cases h
    exact ⟨rfl, hc.2.1, S.take (zNa e1), (List.take_append_drop _ _).symm, by rw [List.length_take]; exact Nat.min_eq_left hc.1, Or.inr (Or.inr ⟨x, rfl, rfl, rfl, hc.2.2⟩)⟩
  all_goals exact absurd h (by intro q; cases q)
set_option maxHeartbeats 4000000 in
set_option maxRecDepth 100000 in
theorem z_call (hF : zFix p s m args meth c g M) {pc d : Nat} {L : List (Option zV)} {S : List zV} {σ σ1 : zS} {i : zI} {M' : Nat} {as T : List zV} {r : Option zV} (hT : zTab M pc = some i) (h : zcall i S σ = some (M', as, T))
    (hM : M' < 153 → zMet l g d M' as σ r σ1) (hRc : σ1.1 ≤ R.cells + c0) (hRs : σ1.2.1 ≤ R.slots + d0) (hRf : d + 1 ≤ R.frames) (hRl : 38 * d + 46 ≤ R.locals)
    (kk : zK p l e R s m args below meth c Q g M c0 d0 (pc + 3, L, r.toList ++ T, σ1)) : zK p l e R s m args below meth c Q g M c0 d0 (pc, L, S, σ) := by
  obtain ⟨hx, hb, hml, hown, hts, hnm, hU, hO⟩ := hF
  obtain ⟨hd, hck, hln, hax⟩ := zcode hT
  obtain ⟨hM', hcat, A, hSA, hAl, hcase⟩ := zcall_inv h
  obtain ⟨ins, ln, e1, e2⟩ := i
  dsimp only at hM' hd hcase
  subst hM'
  intro H locs cells slots ls hL hW hS hc hs
  dsimp only at hL hW hc hs ⊢
  have hlt : M' < 153 := by
    rcases hcase with ⟨x, a, rfl, -, -, -, -, rfl⟩ | ⟨x, a, rfl, -, -, rfl⟩ | ⟨x, rfl, -, -, rfl | rfl⟩
    all_goals
      have hw := hck
      unfold zchkI at hw
      simp only [Bool.and_eq_true] at hw
      first | exact Nat.le_of_ble_eq_true hw.1.1.1 | exact Nat.le_of_ble_eq_true hw.1.1.1.1 | exact Nat.le_of_ble_eq_true hw.1.1
  obtain ⟨mc, ms, hmc, hms, hMet⟩ := hM hlt
  have hmo := zm_ok M' hlt
  unfold zmOk at hmo
  simp only [Bool.and_eq_true, decide_eq_true_eq] at hmo
  obtain ⟨⟨⟨⟨⟨⟨⟨o1, o2⟩, o3⟩, o4⟩, o5⟩, o6⟩, o7⟩, o8⟩ := hmo
  have o7 : zMc M' < 9 := Nat.le_of_ble_eq_true o7
  have o8 : zMx M' ≤ 19 := Nat.le_of_ble_eq_true o8
  have hcw : Cond.code (zMy M') (zMb M') (zMx M') (zMr M') ∈ zT := zcw M' hlt
  have hpay : ∀ w ∈ zWs M', ∀ (a' : Array Value) (U : State), s.WarmedH U.vm → w.before a' U = true := pay_in hts (fun w hw => by
    rcases List.mem_cons.mp hw with rfl | hw
    · exact ⟨hcw, good_of_word (zT_good hcw)⟩
    · exact ⟨hw, good_of_word (zT_good hw)⟩)
  have hlen : ∀ sig, parseMethodDescriptor (zMy M').desc = some sig → zNa M' = sig.parameters.length := fun sig hq => by
    rw [hq] at o4
    exact (Option.some.inj o4).symm
  have hR2 : 8 + (zMx M' + 11) + (zRm d mc ms).locals ≤ R.locals := by show 8 + (zMx M' + 11) + (38 * d + 8) ≤ R.locals; omega
  have hpre : ∀ (V : List Value), V = as.map (ztr g) → ∀ U : State, U.heap = H → s.WarmedH U.vm → zPre g σ as V.toArray U := fun V hV U hUH hUW => ⟨by rw [hV], by rw [hUH]; exact hW, zU_warm hUW hU, by rw [hUH]; exact zOrd_same hUW.alike (zOrd_kept hO (fun a h1 h2 => hS.2.1 a h1 h2))⟩
  have hroom : cells + mc ≤ R.cells ∧ slots + ms ≤ R.slots := ⟨by omega, by omega⟩
  have hrest : 2 * (F0 m pc ls (S.map (ztr g))).monitorRoom + ((T.map (ztr g)).map fun v => v.category).sum ≤ 8 := by
    show 2 * 0 + _ ≤ 8
    rw [ztr_cats]
    omega
  have hA : (A.reverse.map (ztr g)).length = zNa M' := by rw [List.length_map, List.length_reverse]; exact hAl
  have hrev : (A.reverse.map (ztr g)).reverse = A.map (ztr g) := by rw [List.map_reverse, List.reverse_reverse]
  have hend : ∀ (a : Array Value), va_Run p l e R s m args below meth c H locs cells slots mc ms (F0 m pc ls (S.map (ztr g))) (T.map (ztr g)) (zPost g r σ1 a) (fun q => g.1.1 ≤ q) → W p l e R s m args below meth c H locs cells slots Q (F0 m pc ls (S.map (ztr g))) := fun a hr => by
    refine z_after (σ := σ) hr (fun H1 L1 hw1 hk1 hL1 => ?_)
    refine kk H1 (locs ++ L1) (cells + mc) (slots + ms) ls hL hw1 ?_ (by dsimp only; omega) (by dsimp only; omega)
    refine ⟨?_, fun q h1 h2 => ?_, fun q hq => ?_⟩
    · have h1 := hS.1
      have h2 := hW.1
      have h3 := hw1.1
      omega
    · rw [hk1 q (by have h9 : ¬ g.1.1 ≤ q := h2; omega)]
      exact hS.2.1 q h1 h2
    · rcases List.mem_append.mp hq with h1 | h1
      · exact hS.2.2 q h1
      · exact hL1 q h1
  have hcb : ∀ {own : String} {x : Nat}, (Cond.methodLink own x (zMy M')).before args s = true → CallB R s args own x (zMy M') (zMb M') (zMx M') (zMr M') (zWs M') (zRm d mc ms) mc ms (zNa M') := fun hl =>
    ⟨rfl, rfl, hRf, hR2, hpay, List.mem_cons_self, hts _ hcw, hts _ (zT_has o5), ⟨o2, o3⟩, hlen, hl⟩
  rcases hcase with ⟨x, a, rfl, hdr, has, hsh, ha, rfl⟩ | ⟨x, a, rfl, hdr, has, rfl⟩ | ⟨x, rfl, hdr, has, he⟩
  · obtain rfl : ln = 3 := Nat.eq_of_beq_eq_true hln
    have hw : (Nat.blt M' 153 && zhas (zMc M) (.methodLink (zMy M).cls x (zMy M')) && zhas (10 + zMc M') (.instanceMethod (zMy M')) && zhas (10 + zMc M') (.selects (zMy M').cls (zMy M') (zMy M'))) = true := hck
    simp only [Bool.and_eq_true] at hw
    obtain ⟨⟨⟨-, w2⟩, w3⟩, w4⟩ := hw
    have hat := hW.2.2.1 a (zSh_o hsh) ha
    rw [zE_o hsh] at hat
    obtain ⟨r', hr', cellB, g1, g2, g3, -⟩ := hat
    obtain ⟨-, -, -, k4, -, -⟩ := zcls (zMc M') o7
    obtain rfl : r' = ((zCl (zMc M')).1, (zCl (zMc M')).2.1, (zCl (zMc M')).2.2) := Option.some.inj (hr'.symm.trans k4)
    have hfc := (hU.1.1 (zMc M') _ k4).2.1
    dsimp only at hfc
    rw [o6] at hfc
    refine hend _ (va_runV (C := (zMy M').cls) (b := zad g a) (As := A.reverse.map (ztr g)) (rest := T.map (ztr g)) ⟨hx, hb, hml, hown, hts⟩ hMet ⟨hcb (hts _ (zT_has w2)), hts _ (zT_has w3), hts _ (zT_has w4)⟩ ⟨zPre_blind, ⟨cellB, g1, by rw [g3]; rfl, by rw [g2]; exact hfc⟩, hpre _ (by rw [has]; rfl)⟩ rfl hA hL.1 ?_ hrest hd hroom)
    show S.map (ztr g) = _
    rw [hrev, hSA, hdr, List.map_append]
    rfl
  · obtain rfl : ln = 3 := Nat.eq_of_beq_eq_true hln
    have hw : (Nat.blt M' 153 && zhas (zMc M) (.methodLink (zMy M).cls x (zMy M')) && zhas (10 + zMc M') (.instanceMethod (zMy M')) && ((zMy M').name == "<init>") && decide (zMr M' = none)) = true := hck
    simp only [Bool.and_eq_true, beq_iff_eq, decide_eq_true_eq] at hw
    obtain ⟨⟨⟨⟨-, w2⟩, w3⟩, w4⟩, w5⟩ := hw
    have hcb1 := hcb (hts _ (zT_has w2))
    rw [w5] at hcb1
    refine hend _ (va_runI (b := zad g a) (As := A.reverse.map (ztr g)) (rest := T.map (ztr g)) ⟨hx, hb, hml, hown, hts⟩ hMet ⟨hcb1, w4, hts _ (zT_has w3)⟩ ⟨zPre_blind, hpre _ (by rw [has]; rfl)⟩ rfl hA hL.1 ?_ hrest hd hroom)
    show S.map (ztr g) = _
    rw [hrev, hSA, hdr, List.map_append]
    rfl
  · obtain rfl : ln = 3 := Nat.eq_of_beq_eq_true hln
    have hst : S.map (ztr g) = (A.reverse.map (ztr g)).reverse ++ T.map (ztr g) := by
      rw [hrev, ← hdr, ← List.map_append, ← hSA]
    rcases he with rfl | rfl
    · have hw : (Nat.blt M' 153 && zhas (zMc M) (.methodLink (zMy M).cls x (zMy M')) && zhas (10 + zMc M') (.static (zMy M')) && ((zMy M').cls == (zMy M).cls)) = true := hck
      simp only [Bool.and_eq_true, beq_iff_eq] at hw
      obtain ⟨⟨⟨-, w2⟩, w3⟩, w4⟩ := hw
      exact hend _ (va_runS (As := A.reverse.map (ztr g)) (rest := T.map (ztr g)) ⟨hx, hb, hml, hown, hts⟩ hMet ⟨hcb (hts _ (zT_has w2)), hts _ (zT_has w3)⟩ ⟨zPre_blind, hpre _ (by rw [has])⟩ rfl hA hL.1 hst hrest hd hroom)
    · have hw : (Nat.blt M' 153 && zhas (10 + zMc M') (.static (zMy M')) && decide (((zMy M).cls, x, zMy M', "LadderCalls") ∈ zNest)) = true := hck
      simp only [Bool.and_eq_true, decide_eq_true_eq] at hw
      obtain ⟨⟨-, w3⟩, w4⟩ := hw
      have hn := hU.2.1 _ w4
      exact hend _ (va_runSN (host := "LadderCalls") (As := A.reverse.map (ztr g)) (rest := T.map (ztr g)) ⟨hx, hb, hml, hown, hts⟩ hMet ⟨⟨⟨rfl, rfl, hRf, hR2, hpay, List.mem_cons_self⟩, hts _ hcw, hts _ (zT_has o5), ⟨o2, o3⟩, hlen, va_Nw.use rfl hn⟩, hts _ (zT_has w3), trivial⟩ ⟨zPre_blind, hpre _ (by rw [has])⟩ rfl hA hL.1 hst hrest hd hroom)
end ZC
