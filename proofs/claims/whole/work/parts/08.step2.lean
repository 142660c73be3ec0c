/-! Instructions that read, write and make cells. -/
theorem zSh_n {a t n : Nat} (h : zSh a = .inr (t, n)) : n ≤ 10000 ∧ t ≤ 5 ∧ (a = 1 → t = 0) ∧ (a = 0 → t = 0) := by
  have h1 : ∀ a, a < 127 → (match zSh a with | .inr (t, n) => decide (n ≤ 10000 ∧ t ≤ 5 ∧ (a = 1 → t = 0) ∧ (a = 0 → t = 0)) | .inl _ => true) = true := by decide +kernel
  by_cases ha : a < 127
  · have h2 := h1 a ha
    rw [h] at h2
    exact of_decide_eq_true h2
  · have h3 : zSh a = .inl 99 := by
      unfold zSh
      rw [List.getD_eq_getElem?_getD, List.getElem?_eq_none (by show 127 ≤ a; omega)]
      rfl
    rw [h3] at h
    cases h
theorem zSh_o {a ci : Nat} (h : zSh a = .inl ci) : 2 ≤ a := by
  match a, h with
  | 0, h => cases h
  | 1, h => cases h
  | a + 2, _ => omega
theorem zE_o {g : zG} {σ : zS} {a ci : Nat} (h : zSh a = .inl ci) : zE g σ a = .inr (ci, zFs g σ ci a) := by
  unfold zE
  rw [h]
theorem zE_a {g : zG} {σ : zS} {a t n : Nat} (h : zSh a = .inr (t, n)) : zE g σ a = .inl (g.2.2 t, zLn σ a n, zArr g σ a t) := by
  unfold zE
  rw [h]
theorem zE_congr {g : zG} {σ σ' : zS} {b : Nat} (h1 : ∀ k : Nat, σ'.2.2.1 b k = σ.2.2.1 b k) (h2 : ∀ k : Nat, σ'.2.2.2.1 b k = σ.2.2.2.1 b k) (h3 : ∀ k : Nat, σ'.2.2.2.2 b k = σ.2.2.2.2 b k) (h4 : σ'.2.2.2.1 1 0 = σ.2.2.2.1 1 0) : zE g σ' b = zE g σ b := by
  have e1 : ∀ t k : Nat, zFv σ' b t k = zFv σ b t k := by
    intro t k
    unfold zFv
    split
    · rw [h1]
    · rw [h2]
    · rw [h3]
  have e2 : ∀ t : Nat, zArr g σ' b t = zArr g σ b t := by
    intro t
    unfold zArr
    split
    · simp only [h1]
    · simp only [h2]
    · simp only [h1]
    · simp only [h3]
  unfold zE zFs zLn
  simp only [e1, e2, h4]
theorem zFs_len {g : zG} {σ : zS} {ci a : Nat} : (zFs g σ ci a).length = (zKs.getD ci []).length := by
  unfold zFs
  rw [List.length_map, List.length_range]
theorem zFs_at {g : zG} {σ : zS} {ci a k : Nat} (h : k < (zKs.getD ci []).length) : (zFs g σ ci a)[k]? = some (ztr g (zFv σ a (zKind ci k) k)) := by
  unfold zFs
  rw [List.getElem?_map, List.getElem?_range h]
  rfl
theorem zFs_set {g : zG} {σ σ' : zS} {ci a k : Nat} {v : zV} (hk : k < (zKs.getD ci []).length) (hv : zFv σ' a (zKind ci k) k = v) (ho : ∀ t j : Nat, j ≠ k → zFv σ' a t j = zFv σ a t j) : zFs g σ' ci a = (zFs g σ ci a).set k (ztr g v) := by
  apply List.ext_getElem?
  intro j
  by_cases hj : j < (zKs.getD ci []).length
  · rw [zFs_at hj]
    by_cases e : j = k
    · subst e
      rw [hv, List.getElem?_set_self (by rw [zFs_len]; exact hj)]
    · rw [List.getElem?_set_ne (fun q => e q.symm), zFs_at hj, ho _ _ e]
  · rw [List.getElem?_eq_none (by rw [zFs_len]; omega), List.getElem?_eq_none (by rw [List.length_set, zFs_len]; omega)]
theorem zup_ne {h : Nat → Nat → Int} {a k : Nat} {v : Int} {b j : Nat} (hb : b ≠ a) : zup h a k v b j = h b j := by
  unfold zup
  rw [if_neg hb]
theorem zup_k {h : Nat → Nat → Int} {a k : Nat} {v : Int} {j : Nat} (hb : j ≠ k) : zup h a k v a j = h a j := by
  unfold zup
  rw [if_pos rfl, if_neg hb]
theorem zup_eq {h : Nat → Nat → Int} {a k : Nat} {v : Int} : zup h a k v a k = v := by
  unfold zup
  rw [if_pos rfl, if_pos rfl]
theorem zupr_ne {h : Nat → Nat → Option Nat} {a k : Nat} {v : Option Nat} {b j : Nat} (hb : b ≠ a) : zupr h a k v b j = h b j := by
  unfold zupr
  rw [if_neg hb]
theorem zupr_k {h : Nat → Nat → Option Nat} {a k : Nat} {v : Option Nat} {j : Nat} (hb : j ≠ k) : zupr h a k v a j = h a j := by
  unfold zupr
  rw [if_pos rfl, if_neg hb]
theorem zupr_eq {h : Nat → Nat → Option Nat} {a k : Nat} {v : Option Nat} : zupr h a k v a k = v := by
  unfold zupr
  rw [if_pos rfl, if_pos rfl]
theorem zLen_eq {g : zG} {σ : zS} {H : Heap} (hW : zWd g σ H) (a n : Nat) (hn : n ≤ 10000) : zLen σ a n = ((zLn σ a n : Nat) : Int) ∧ zLn σ a n ≤ 100000 := by
  obtain ⟨-, -, -, ⟨h1, h2⟩, -⟩ := hW
  unfold zLen zLn
  split
  · exact ⟨(Int.toNat_of_nonneg h1).symm, by omega⟩
  · exact ⟨rfl, by omega⟩
theorem zLn_n {σ : zS} {a n : Nat} (h : a ≠ 1) : zLn σ a n = n := by
  unfold zLn
  rw [if_neg h]
theorem zk0 {ci k : Nat} (h : zkOk ci k = true) (hk : zKind ci k = 0) : zty ci k = .int := by
  unfold zkOk at h
  rw [hk] at h
  cases e : zty ci k <;> rw [e] at h <;> first | rfl | exact absurd (show false = true from h) (by decide)
theorem zk1 {ci k : Nat} (h : zkOk ci k = true) (hk : zKind ci k = 1) : zty ci k = .long := by
  unfold zkOk at h
  rw [hk] at h
  cases e : zty ci k <;> rw [e] at h <;> first | rfl | exact absurd (show false = true from h) (by decide)
theorem zk2 {ci k : Nat} (h : zkOk ci k = true) (hk : zKind ci k = 2) : (∃ C, zty ci k = .object C) ∨ (∃ t, zty ci k = .array t) := by
  unfold zkOk at h
  rw [hk] at h
  cases e : zty ci k <;> rw [e] at h <;> first | exact Or.inl ⟨_, rfl⟩ | exact Or.inr ⟨_, rfl⟩ | exact absurd (show false = true from h) (by decide)
theorem zk3 {ci k : Nat} (h : zkOk ci k = true) : zKind ci k = 0 ∨ zKind ci k = 1 ∨ zKind ci k = 2 := by
  unfold zkOk at h
  split at h
  · exact Or.inl (by assumption)
  · exact Or.inr (Or.inl (by assumption))
  · exact Or.inr (Or.inr (by assumption))
  · exact Or.inr (Or.inr (by assumption))
  · cases h
theorem zFv_i {σ : zS} {a k : Nat} {x : Int} : zFv (σ.1, σ.2.1, zup σ.2.2.1 a k x, σ.2.2.2.1, σ.2.2.2.2) a 0 k = .inl x := congrArg Sum.inl zup_eq
theorem zFv_l {σ : zS} {a k : Nat} {x : Int} : zFv (σ.1, σ.2.1, σ.2.2.1, zup σ.2.2.2.1 a k x, σ.2.2.2.2) a 1 k = .inr (.inl x) := congrArg (fun z => Sum.inr (Sum.inl z)) zup_eq
theorem zFv_q {σ : zS} {a k : Nat} {x : Option Nat} : zFv (σ.1, σ.2.1, σ.2.2.1, σ.2.2.2.1, zupr σ.2.2.2.2 a k x) a 2 k = .inr (.inr x) := congrArg (fun z => Sum.inr (Sum.inr z)) zupr_eq
theorem zFv_io {σ : zS} {a k t j : Nat} {x : Int} (hj : j ≠ k) : zFv (σ.1, σ.2.1, zup σ.2.2.1 a k x, σ.2.2.2.1, σ.2.2.2.2) a t j = zFv σ a t j := by
  unfold zFv
  split
  · exact congrArg Sum.inl (zup_k hj)
  · rfl
  · rfl
theorem zFv_lo {σ : zS} {a k t j : Nat} {x : Int} (hj : j ≠ k) : zFv (σ.1, σ.2.1, σ.2.2.1, zup σ.2.2.2.1 a k x, σ.2.2.2.2) a t j = zFv σ a t j := by
  unfold zFv
  split
  · rfl
  · exact congrArg (fun z => Sum.inr (Sum.inl z)) (zup_k hj)
  · rfl
theorem zFv_qo {σ : zS} {a k t j : Nat} {x : Option Nat} (hj : j ≠ k) : zFv (σ.1, σ.2.1, σ.2.2.1, σ.2.2.2.1, zupr σ.2.2.2.2 a k x) a t j = zFv σ a t j := by
  unfold zFv
  split
  · rfl
  · rfl
  · exact congrArg (fun z => Sum.inr (Sum.inr z)) (zupr_k hj)
section ZS
variable {p : Program} {l : Launch} {e : Env} {R : Room} {s : State} {m : MethodId} {args : Array Value} {below : List Frame} {meth : Method} {c : Code} {Q : State → Prop} {g : zG} {M c0 d0 : Nat}
theorem zSput {s : State} {H H1 : Heap} {locs : List Loc} {a : Nat} {k : Nat} (hS : va_S (fun q : Nat => g.1.1 ≤ q) s.heap H locs) (z : H1.size = H.size) (oq : ∀ q : Nat, q ≠ zad g a → H1[q]? = H[q]?) (ha : 2 ≤ a) : va_S (fun q : Nat => g.1.1 ≤ q) s.heap H1 (locs ++ [⟨zad g a, k⟩]) := hS.put z oq (zad_ge ha)
theorem zOld0 {H : Heap} {locs : List Loc} (hO : zOrd g s s.heap) (hS : va_S (fun q : Nat => g.1.1 ≤ q) s.heap H locs) : va_T .int g.1.2.1 18 (fun j => .int (Int32.ofInt (g.1.2.2.2.1 0 j))) (fun q => g.1.1 ≤ q) s H := hO.2.1.kept (fun a h1 h2 => hS.2.1 a h1 h2)
theorem zOld1 {H : Heap} {locs : List Loc} (hO : zOrd g s s.heap) (hS : va_S (fun q : Nat => g.1.1 ≤ q) s.heap H locs) : va_T .int g.1.2.2.1 g.1.2.2.2.2 (fun j => .int (Int32.ofInt (g.1.2.2.2.1 1 j))) (fun q => g.1.1 ≤ q) s H := hO.2.2.kept (fun a h1 h2 => hS.2.1 a h1 h2)
theorem zSh_2 {a t n : Nat} (h : zSh a = .inr (t, n)) (ht : t ≠ 0) : 2 ≤ a := by
  obtain ⟨-, -, h1, h0⟩ := zSh_n h
  by_cases a1 : a = 1
  · exact absurd (h1 a1) ht
  · by_cases a0 : a = 0
    · exact absurd (h0 a0) ht
    · omega
set_option maxHeartbeats 4000000 in
set_option maxRecDepth 100000 in
/-- fields -/
theorem z_step2 (hF : zFix p s m args meth c g M) {pc : Nat} {L : List (Option zV)} {S : List zV} {σ : zS} {i : zI} {P : Prop} {c' : zC} (hT : zTab M pc = some i) (h : zstep i (pc, L, S, σ) = some (P, c')) (hP : P)
    (kk : zK p l e R s m args below meth c Q g M c0 d0 c')
    (hi : (match i.1 with
      | .getfield _ => true | .putfield _ => true | .getstatic _ => true | .arraylength => true | _ => false) = true) : zK p l e R s m args below meth c Q g M c0 d0 (pc, L, S, σ) := by
  obtain ⟨hx, hb, hml, hown, hts, hnm, hU, hO⟩ := hF
  obtain ⟨hd, hck, hln, hax⟩ := zcode hT
  obtain ⟨ins, ln, e1, e2⟩ := i
  intro H locs cells slots ls hL hW hS hc hs
  dsimp only at hd hi hL hW hc hs ⊢
  cases ins
  case getfield x =>
    obtain rfl : ln = 3 := Nat.eq_of_beq_eq_true hln
    obtain ⟨a, T, rfl, h⟩ := zq1_inv h
    replace h : zget pc L σ e1 e2 a T = some (P, c') := h
    unfold zget at h
    split at h
    · rename_i hr
      cases h
      have hw : (Nat.blt e1 9 && Nat.blt e2 (zCl e1).2.2 && zhas (zMc M) (.fieldLink (zMy M).cls x (zFl e1 e2).1 (zFl e1 e2).2.1 (zFl e1 e2).2.2.1)) = true := hck
      simp only [Bool.and_eq_true] at hw
      obtain ⟨⟨w1, w2⟩, w3⟩ := hw
      have w1 : e1 < 9 := Nat.le_of_ble_eq_true w1
      have w2 : e2 < (zCl e1).2.2 := Nat.le_of_ble_eq_true w2
      obtain ⟨k1, k2, k3, k4, k5, k6⟩ := zcls e1 w1
      have hat := hW.2.2.1 a (zSh_o hr.1) hr.2
      rw [zE_o hr.1] at hat
      exact va_get (D := g.2.1) (cl := vwCl) (ci := e1) (v := ztr g (zFv σ a (zKind e1 e2) e2)) (C := (zCl e1).1) (T := (zCl e1).2.1) (N := (zCl e1).2.2) hx hb hts k1 hown hU.1 (va_P1 hat) 0 rfl k4 e2 w2 (hts _ (zT_has w3)) (fun _ h9 => h9) (zFs_at (by rw [k5]; exact w2)) hd (kk H locs cells slots ls hL hW hS hc hs)
    · cases h
  case putfield x =>
    obtain rfl : ln = 3 := Nat.eq_of_beq_eq_true hln
    obtain ⟨a, v, T, rfl, h⟩ := zqv_inv h
    replace h : zput pc L σ e1 e2 a v T = some (P, c') := h
    unfold zput at h
    split at h
    · rename_i hr
      have hw : (Nat.blt e1 9 && Nat.blt e2 (zCl e1).2.2 && zhas (zMc M) (.fieldLink (zMy M).cls x (zFl e1 e2).1 (zFl e1 e2).2.1 (zFl e1 e2).2.2.1) && (!(zFl e1 e2).2.2.2 || ((zMy M).name == "<init>" && (zFl e1 e2).1 == (zMy M).cls))) = true := hck
      simp only [Bool.and_eq_true, Bool.or_eq_true, Bool.not_eq_true', beq_iff_eq] at hw
      obtain ⟨⟨⟨w1, w2⟩, w3⟩, w4⟩ := hw
      have w1 : e1 < 9 := Nat.le_of_ble_eq_true w1
      have w2 : e2 < (zCl e1).2.2 := Nat.le_of_ble_eq_true w2
      obtain ⟨k1, k2, k3, k4, k5, k6⟩ := zcls e1 w1
      have hat := hW.2.2.1 a (zSh_o hr.1) hr.2
      rw [zE_o hr.1] at hat
      have h2 := zSh_o hr.1
      have hlen : e2 < (zKs.getD e1 []).length := by rw [k5]; exact w2
      have hfin : ((zCl e1).2.1 e2).2.2.2 = false ∨ (meth.name = "<init>" ∧ ((zCl e1).2.1 e2).1 = (zMy M).cls) := by
        rcases w4 with w4 | w4
        · exact Or.inl w4
        · exact Or.inr ⟨hnm w4.1, w4.2⟩
      rcases zk3 (k6 e2 w2) with hk | hk | hk
      · rw [hk] at h
        rcases v with x1 | x1 | _ | x1
        · cases h
          refine z_putrow (ci := e1) (C := (zCl e1).1) (T := (zCl e1).2.1) (N := (zCl e1).2.2) hx hb hts k1 (zty e1) k2 k3 hown hU.1 hat k4 e2 w2 (hts _ (zT_has w3)) hfin (by rw [zk0 (k6 e2 w2) hk]; rfl) (by rw [zk0 (k6 e2 w2) hk]; rfl) (by rw [zFs_len]; exact hlen) hd (fun H1 hat1 z1 o1 j => ?_)
          refine kk H1 _ cells slots ls hL ?_ (zSput hS z1 o1 h2) hc hs
          refine zWd_set hW h2 rfl rfl z1 o1 ?_ (fun b hb => zE_congr (fun k => zup_ne hb) (fun _ => rfl) (fun _ => rfl) rfl) (fun b k hb => zup_ne (by omega))
          rw [zE_o hr.1, zFs_set (σ := σ) (v := .inl x1) hlen (by rw [hk]; exact zFv_i) (fun t j hj => zFv_io hj)]
          exact hat1
        · cases h
        · cases h
        · cases h
      · rw [hk] at h
        rcases v with x1 | x1 | _ | x1
        · cases h
        · cases h
          refine z_putrow (ci := e1) (C := (zCl e1).1) (T := (zCl e1).2.1) (N := (zCl e1).2.2) hx hb hts k1 (zty e1) k2 k3 hown hU.1 hat k4 e2 w2 (hts _ (zT_has w3)) hfin (by rw [zk1 (k6 e2 w2) hk]; rfl) (by rw [zk1 (k6 e2 w2) hk]; rfl) (by rw [zFs_len]; exact hlen) hd (fun H1 hat1 z1 o1 j => ?_)
          refine kk H1 _ cells slots ls hL ?_ (zSput hS z1 o1 h2) hc hs
          refine zWd_set hW h2 rfl (zup_ne (by omega)) z1 o1 ?_ (fun b hb => zE_congr (fun _ => rfl) (fun k => zup_ne hb) (fun _ => rfl) (zup_ne (by omega))) (fun _ _ _ => rfl)
          rw [zE_o hr.1, zFs_set (σ := σ) (v := .inr (.inl x1)) hlen (by rw [hk]; exact zFv_l) (fun t j hj => zFv_lo hj)]
          exact hat1
        · cases h
        · cases h
      · rw [hk] at h
        rcases v with x1 | x1 | _ | x1
        · cases h
        · cases h
        · cases h
        · cases h
          refine z_putrow (ci := e1) (C := (zCl e1).1) (T := (zCl e1).2.1) (N := (zCl e1).2.2) hx hb hts k1 (zty e1) k2 k3 hown hU.1 hat k4 e2 w2 (hts _ (zT_has w3)) hfin (by rcases zk2 (k6 e2 w2) hk with ⟨C, q⟩ | ⟨C, q⟩ <;> (rw [q]; rfl)) (by rcases zk2 (k6 e2 w2) hk with ⟨C, q⟩ | ⟨C, q⟩ <;> (rw [q]; rfl)) (by rw [zFs_len]; exact hlen) hd (fun H1 hat1 z1 o1 j => ?_)
          refine kk H1 _ cells slots ls hL ?_ (zSput hS z1 o1 h2) hc hs
          refine zWd_set hW h2 rfl rfl z1 o1 ?_ (fun b hb => zE_congr (fun _ => rfl) (fun _ => rfl) (fun k => zupr_ne hb) rfl) (fun _ _ _ => rfl)
          rw [zE_o hr.1, zFs_set (σ := σ) (v := .inr (.inr (some x1))) hlen (by rw [hk]; exact zFv_q) (fun t j hj => zFv_qo hj)]
          exact hat1
    · cases h
  case getstatic x =>
    obtain rfl : ln = 3 := Nat.eq_of_beq_eq_true hln
    cases h
    have hw : zhas (zMc M) (.fieldLink (zMy M).cls x "LadderCalls$Stands" "ORDERS" "[I") = true := hck
    exact va_gets hx hb hO.1 hS hown (hts _ (zT_has hw)) (fun _ h9 => h9) hd (kk H locs cells slots ls hL hW hS hc hs)
  case arraylength =>
    obtain rfl : ln = 1 := zn1 hln
    obtain ⟨a, T, rfl, h⟩ := zq1_inv h
    replace h : zaln pc L σ a T = some (P, c') := h
    unfold zaln at h
    split at h
    · rename_i t n e
      split at h
      · rename_i hr
        cases h
        have hkk := kk H locs cells slots ls hL hW hS hc hs
        dsimp only at hkk
        match a, e, hr, hkk with
        | 0, e, hr, hkk =>
          cases e
          obtain ⟨cell, b1, b2, b3, b4, b5, b6, b7⟩ := zOld0 hO hS
          exact W.alen (n := Int32.ofInt 18) hx hb b1 b2 (b5.trans Int32.ofInt_eq_ofNat.symm) rfl rfl hd hkk
        | 1, e, hr, hkk =>
          cases e
          obtain ⟨cell, b1, b2, b3, b4, b5, b6, b7⟩ := zOld1 hO hS
          have h9 : zLen σ 1 0 = (g.1.2.2.2.2 : Int) := hW.2.2.2.2.1
          rw [h9] at hkk
          exact W.alen (n := Int32.ofInt (g.1.2.2.2.2 : Int)) hx hb b1 b2 (b5.trans Int32.ofInt_eq_ofNat.symm) rfl rfl hd hkk
        | a + 2, e, hr, hkk =>
        have hat := hW.2.2.1 (a + 2) (by omega) hr.2
        rw [zE_a e] at hat
        have hn := zLen_eq hW (a + 2) n (zSh_n e).1
        refine va_alen (ty := zTy t) (v := Int32.ofInt (zLen σ (a + 2) n)) hx hb hU.1 (va_P1 hat) 0 t rfl ?_ ?_ hd hkk
        · rw [List.getElem?_map, List.getElem?_range (by omega)]
          rfl
        · rw [hn.1, Int32.ofInt_eq_ofNat]
      · cases h
    · cases h
  all_goals exact absurd (show false = true from hi) (by decide)
end ZS
