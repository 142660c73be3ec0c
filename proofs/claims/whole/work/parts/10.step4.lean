/-! Making cells; the JDK's few. -/
theorem zWd_new {g : zG} {σ σ' : zS} {H H1 : Heap} {n : Nat} (h : zWd g σ H) (hN : σ'.1 = σ.1 + n) (hs : H1.size = H.size + n) (ho : ∀ q : Nat, q < H.size → H1[q]? = H[q]?)
    (e1 : ∀ a k : Nat, a < σ.1 → σ'.2.2.1 a k = σ.2.2.1 a k) (e2 : ∀ a k : Nat, a < σ.1 → σ'.2.2.2.1 a k = σ.2.2.2.1 a k) (e3 : ∀ a k : Nat, a < σ.1 → σ'.2.2.2.2 a k = σ.2.2.2.2 a k)
    (hc : ∀ j : Nat, j < n → va_at g.2.1 vwCl (H.size + j, zE g σ' (σ.1 + j)) H1) : zWd g σ' H1 := by
  obtain ⟨h1, h2, h3, h4, h5, h6⟩ := h
  have h10 : σ'.2.2.2.1 1 0 = σ.2.2.2.1 1 0 := e2 1 0 (by omega)
  refine ⟨by rw [hs, hN]; omega, by rw [hN]; omega, fun b hb2 hb => ?_, by rw [h10]; exact h4, by rw [h10]; exact h5, fun b k hb => (e1 b k (by omega)).trans (h6 b k hb)⟩
  by_cases hlt : b < σ.1
  · rw [zE_congr (fun k => e1 b k hlt) (fun k => e2 b k hlt) (fun k => e3 b k hlt) h10]
    exact (h3 b hb2 hlt).kept (ho _ (h3 b hb2 hlt).lt)
  · have hj := hc (b - σ.1) (by omega)
    rw [show σ.1 + (b - σ.1) = b by omega] at hj
    rw [zad_lt (by omega), show g.1.1 + (b - 2) = H.size + (b - σ.1) by omega]
    exact hj
theorem zclr_lt {N : Nat} {h : Nat → Nat → Int} {a k : Nat} (ha : a < N) : zclr N h a k = h a k := if_pos ha
theorem zclr_ge {N : Nat} {h : Nat → Nat → Int} {a k : Nat} (ha : ¬ a < N) : zclr N h a k = 0 := if_neg ha
theorem zclq_lt {N : Nat} {h : Nat → Nat → Option Nat} {a k : Nat} (ha : a < N) : zclq N h a k = h a k := if_pos ha
theorem zclq_ge {N : Nat} {h : Nat → Nat → Option Nat} {a k : Nat} (ha : ¬ a < N) : zclq N h a k = none := if_neg ha
theorem zrow_lt {N n : Nat} {h : Nat → Nat → Option Nat} {a k : Nat} (ha : a < N) : zrow N n h a k = h a k := if_pos ha
theorem zwMin1 : Cond.static Lib.Math.min.name ∈ zT := zT_in [320] (ws := [Cond.static Lib.Math.min.name]) (by decide +kernel) (by decide +kernel) _ List.mem_cons_self
theorem zwMax1 : Cond.static Lib.Math.max.name ∈ zT := zT_in [363] (ws := [Cond.static Lib.Math.max.name]) (by decide +kernel) (by decide +kernel) _ List.mem_cons_self
theorem zwMath : Cond.initialized "java/lang/Math" ∈ zT := zT_in [45] (ws := [Cond.initialized "java/lang/Math"]) (by decide +kernel) (by decide +kernel) _ List.mem_cons_self
theorem zwObj1 : Cond.instanceMethod objectInit ∈ zT := zT_in [52] (ws := [Cond.instanceMethod objectInit]) (by decide +kernel) (by decide +kernel) _ List.mem_cons_self
set_option maxRecDepth 100000 in
theorem zwMin2 : Cond.code Lib.Math.min.name Lib.Math.min.code 2 (some .int) ∈ zT := List.mem_filter.mpr ⟨List.mem_of_getElem? (i := 321) rfl, rfl⟩
set_option maxRecDepth 100000 in
theorem zwMax2 : Cond.code Lib.Math.max.name Lib.Math.max.code 2 (some .int) ∈ zT := List.mem_filter.mpr ⟨List.mem_of_getElem? (i := 364) rfl, rfl⟩
set_option maxRecDepth 100000 in
theorem zwObj2 : Cond.code objectInit ⟨#[0xb1]⟩ 1 none ∈ zT := List.mem_filter.mpr ⟨List.mem_of_getElem? (i := 53) rfl, rfl⟩
section ZS
variable {p : Program} {l : Launch} {e : Env} {R : Room} {s : State} {m : MethodId} {args : Array Value} {below : List Frame} {meth : Method} {c : Code} {Q : State → Prop} {g : zG} {M c0 d0 : Nat}
theorem zad_N {σ : zS} {H : Heap} (hW : zWd g σ H) : zad g σ.1 = H.size := by
  obtain ⟨h1, h2, -⟩ := hW
  rw [zad_lt h2]
  omega
theorem zSnew {H H1 : Heap} {locs : List Loc} {n : Nat} (hS : va_S (fun q : Nat => g.1.1 ≤ q) s.heap H locs) (z : H1.size = H.size + n) (ho : ∀ q : Nat, q < H.size → H1[q]? = H[q]?) : va_S (fun q : Nat => g.1.1 ≤ q) s.heap H1 locs :=
  ⟨by have := hS.1; omega, fun q h1 h2 => (ho q (Nat.lt_of_lt_of_le h1 hS.1)).trans (hS.2.1 q h1 h2), hS.2.2⟩
set_option maxHeartbeats 4000000 in
set_option maxRecDepth 100000 in
theorem z_step4 (hF : zFix p s m args meth c g M) {pc : Nat} {L : List (Option zV)} {S : List zV} {σ : zS} {i : zI} {P : Prop} {c' : zC} (hT : zTab M pc = some i) (h : zstep i (pc, L, S, σ) = some (P, c')) (hP : P)
    (hRc : c'.2.2.2.1 ≤ R.cells + c0) (hRs : c'.2.2.2.2.1 ≤ R.slots + d0) (hcr : σ.1 ≤ R.cells + c0) (hsr : σ.2.1 ≤ R.slots + d0) (hRf : 1 ≤ R.frames) (hRl : 21 ≤ R.locals)
    (kk : zK p l e R s m args below meth c Q g M c0 d0 c')
    (hi : (match i.1 with
      | .new _ => true | .newarray _ => true | .anewarray _ => true | .multianewarray _ _ => true | .invokestatic _ => true | .invokespecial _ => true | _ => false) = true) : zK p l e R s m args below meth c Q g M c0 d0 (pc, L, S, σ) := by
  obtain ⟨hx, hb, hml, hown, hts, hnm, hU, hO⟩ := hF
  obtain ⟨hd, hck, hln, hax⟩ := zcode hT
  obtain ⟨ins, ln, e1, e2⟩ := i
  intro H locs cells slots ls hL hW hS hc hs
  dsimp only at hd hi hL hW hc hs ⊢
  cases ins
  case new x =>
    obtain rfl : ln = 3 := Nat.eq_of_beq_eq_true hln
    replace h : znew pc L S σ e1 = some (P, c') := h
    unfold znew at h
    split at h
    · rename_i hr
      cases h
      have hw : (Nat.blt e1 9 && zhas (zMc M) (.classLink (zMy M).cls x (zCl e1).1) && zhas 30 (.instantiable (zCl e1).1 (zCl e1).2.2) && zhas 30 (.initialized (zCl e1).1)) = true := hck
      simp only [Bool.and_eq_true] at hw
      obtain ⟨⟨⟨w1, w2⟩, w3⟩, w4⟩ := hw
      have w1 : e1 < 9 := Nat.le_of_ble_eq_true w1
      obtain ⟨k1, k2, k3, k4, k5, k6⟩ := zcls e1 w1
      have hKn := hU.1.1 e1 _ k4
      dsimp only at hRc hRs
      rw [k5] at hRs
      refine W.newcK hx hb hown (hts _ (zT_has w2)) (hts _ (zT_has w3)) (hts _ (zT_has w4)) rfl hd (by omega) (by omega) hKn.2.1 rfl fun H1 kC hkC b1 z1 o1 => ?_
      have hk := kk H1 locs (cells + 1) (slots + (zCl e1).2.2) ls hL (zWd_new (n := 1) hW rfl z1 o1 (fun a k ha => zclr_lt ha) (fun a k ha => zclr_lt ha) (fun a k ha => zclq_lt ha) (fun j hj => ?_)) (zSnew hS z1 o1) (by dsimp only; omega) (by dsimp only; rw [k5]; omega)
      · dsimp only at hk
        rw [List.map_cons, ztr_q, zad_N hW] at hk
        exact hk
      · obtain rfl : j = 0 := by omega
        rw [zE_o (show zSh (σ.1 + 0) = .inl e1 from hr.1)]
        refine ⟨_, k4, (u_born (zty e1) hts k1 hKn hkC b1 k2).to (fun j hj => ?_)⟩
        show defaultValue (zty e1 j) = (zFs g _ e1 (σ.1 + 0)).getD j .null
        rw [List.getD_eq_getElem?_getD, zFs_at (by rw [k5]; exact hj)]
        rcases zk3 (k6 j hj) with hk | hk | hk
        · rw [zk0 (k6 j hj) hk, hk]
          show _ = Value.int (Int32.ofInt (zclr σ.1 σ.2.2.1 (σ.1 + 0) j))
          rw [zclr_ge (by omega)]
          rfl
        · rw [zk1 (k6 j hj) hk, hk]
          show _ = Value.long (Int64.ofInt (zclr σ.1 σ.2.2.2.1 (σ.1 + 0) j))
          rw [zclr_ge (by omega)]
          rfl
        · rw [hk]
          show _ = va_rf ((zclq σ.1 σ.2.2.2.2 (σ.1 + 0) j).map (zad g))
          rw [zclq_ge (by omega)]
          rcases zk2 (k6 j hj) hk with ⟨C, q⟩ | ⟨C, q⟩ <;> (rw [q]; rfl)
    · cases h
  case newarray x =>
    obtain rfl : ln = 2 := Nat.eq_of_beq_eq_true hln
    obtain ⟨n, T, rfl, h⟩ := zb1_inv h
    replace h : (if e1 ≤ 2 then znar pc 2 L T σ e1 n else none) = some (P, c') := h
    split at h
    · rename_i he1
      unfold znar at h
      split at h
      · rename_i hr
        cases h
        obtain ⟨hsh, hn0, hn1, hN2⟩ := hr
        have hw : (Nat.blt e1 3 && decide (newarray.typeOf x = zTy e1) && zhas 30 (.arrayClass (newarray.typeOf x))) = true := hck
        simp only [Bool.and_eq_true, decide_eq_true_eq] at hw
        obtain ⟨⟨w1, w2⟩, w3⟩ := hw
        dsimp only at hRc hRs
        have hz : (Int32.ofInt n).toInt = n := zi_toInt ⟨by omega, by omega⟩
        have hcn : (Int32.ofInt n).toNatClampNeg = n.toNat := by rw [← Int32.toNat_toInt, hz]
        have hcb : componentBytes (newarray.typeOf x) ≤ 8 := by
          rw [w2]
          rcases (show e1 = 0 ∨ e1 = 1 ∨ e1 = 2 by omega) with rfl | rfl | rfl <;> decide
        refine va_newaK hx hb (hts _ (zT_has w3)) rfl hd rfl (by rw [Int32.lt_iff_toInt_lt, hz, show (0 : Int32).toInt = 0 from rfl]; omega) hcn (by have : n.toNat * componentBytes (newarray.typeOf x) ≤ 100000 * 8 := Nat.mul_le_mul (by omega) hcb; omega) (by omega) (by omega) rfl fun H1 cA b1 z1 o1 hAr hNm => ?_
        have hcA : cA = g.2.2 e1 := by
          have h9 := (hU.1.2 e1 _ (zty_at (by omega))).2
          rw [← w2] at h9
          have h8 : s.vm.findClass ("[" ++ (newarray.typeOf x).toString) = some (g.2.2 e1) := by
            rcases (show e1 = 0 ∨ e1 = 1 ∨ e1 = 2 by omega) with rfl | rfl | rfl <;> (rw [w2] at h9 ⊢; exact h9)
          exact Option.some.inj (hNm.symm.trans h8)
        have hk := kk H1 locs (cells + 1) (slots + n.toNat) ls hL (zWd_new (n := 1) hW rfl z1 o1 (fun a k ha => zclr_lt ha) (fun a k ha => zclr_lt ha) (fun a k ha => zclq_lt ha) (fun j hj => ?_)) (zSnew hS z1 o1) (by dsimp only; omega) (by dsimp only; omega)
        · dsimp only at hk
          rw [List.map_cons, ztr_q, zad_N hW] at hk
          exact hk
        · obtain rfl : j = 0 := by omega
          have hsh0 : zSh (σ.1 + 0) = .inr (e1, n.toNat) := hsh
          rw [zE_a hsh0, zLn_n (by omega)]
          rw [hcA, w2] at b1
          rcases (show e1 = 0 ∨ e1 = 1 ∨ e1 = 2 by omega) with rfl | rfl | rfl
          · show H1[H.size + 0]? = some (vp_cell _ (_, .inl (fun j => Int32.ofInt (zclr σ.1 σ.2.2.1 (σ.1 + 0) j))))
            rw [show (fun j => Int32.ofInt (zclr σ.1 σ.2.2.1 (σ.1 + 0) j)) = fun _ => (0 : Int32) from funext fun j => by rw [zclr_ge (by omega)]; rfl]
            exact b1
          · show H1[H.size + 0]? = some (vp_cell _ (_, .inr (.inl (fun j => Int64.ofInt (zclr σ.1 σ.2.2.2.1 (σ.1 + 0) j)))))
            rw [show (fun j => Int64.ofInt (zclr σ.1 σ.2.2.2.1 (σ.1 + 0) j)) = fun _ => (0 : Int64) from funext fun j => by rw [zclr_ge (by omega)]; rfl]
            exact b1
          · show H1[H.size + 0]? = some (vp_cell _ (_, .inl (fun j => Int32.ofInt (zclr σ.1 σ.2.2.1 (σ.1 + 0) j))))
            rw [show (fun j => Int32.ofInt (zclr σ.1 σ.2.2.1 (σ.1 + 0) j)) = fun _ => (0 : Int32) from funext fun j => by rw [zclr_ge (by omega)]; rfl]
            exact b1
      · cases h
    · cases h
  case anewarray x =>
    obtain rfl : ln = 3 := Nat.eq_of_beq_eq_true hln
    obtain ⟨n, T, rfl, h⟩ := zb1_inv h
    replace h : (if e1 = 5 then znar pc 3 L T σ 5 n else none) = some (P, c') := h
    split at h
    · rename_i he1
      unfold znar at h
      split at h
      · rename_i hr
        cases h
        obtain ⟨hsh, hn0, hn1, hN2⟩ := hr
        have hw : zhas (zMc M) (.classLink (zMy M).cls x "LadderCalls$Book") = true := hck
        dsimp only at hRc hRs
        have hz : (Int32.ofInt n).toInt = n := zi_toInt ⟨by omega, by omega⟩
        have hcn : (Int32.ofInt n).toNatClampNeg = n.toNat := by rw [← Int32.toNat_toInt, hz]
        refine W.anew hx hb hown (hts _ (zT_has hw)) (va_AO.use hU.2.2.2.2) rfl hd rfl (by rw [Int32.lt_iff_toInt_lt, hz, show (0 : Int32).toInt = 0 from rfl]; omega) (by rw [hcn]; omega) (by omega) (by rw [hcn]; omega) fun cA kA comp f1 f2 f3 f4 => ?_
        obtain ⟨kA', comp', y1, y2, y3, y4⟩ : va_RA s (g.2.2 5) (.object "LadderCalls$Book") := (hU.1.2 5 _ (zty_at (by omega))).2
        obtain rfl : cA = g.2.2 5 := Option.some.inj (f1.symm.trans y4)
        rw [hcn]
        generalize hH1 : H.push ({ cls := g.2.2 5, slots := Array.replicate n.toNat .null, vm := .none } : Cell) = H1
        have z1 : H1.size = H.size + 1 := by rw [← hH1, Array.size_push]
        have b1 : H1[H.size]? = some (arrV (g.2.2 5) n.toNat (fun _ => .null)) := by rw [← hH1, Array.getElem?_push_size, ← arrV_new]
        have o1 : ∀ q : Nat, q < H.size → H1[q]? = H[q]? := fun q hq => by rw [← hH1, Array.getElem?_push, if_neg (Nat.ne_of_lt hq)]
        have hk := kk H1 locs (cells + 1) (slots + n.toNat) ls hL (zWd_new (n := 1) hW rfl z1 o1 (fun a k ha => zclr_lt ha) (fun a k ha => zclr_lt ha) (fun a k ha => zclq_lt ha) (fun j hj => ?_)) (zSnew hS z1 o1) (by dsimp only; omega) (by dsimp only; omega)
        · dsimp only at hk
          rw [List.map_cons, ztr_q, zad_N hW] at hk
          exact hk
        · obtain rfl : j = 0 := by omega
          have hsh0 : zSh (σ.1 + 0) = .inr (5, n.toNat) := hsh
          rw [zE_q hsh0 (by omega), zLn_n (by omega)]
          show H1[H.size + 0]? = some (vp_cell _ (_, .inr (.inr (.inr (.inr (fun j => (zclq σ.1 σ.2.2.2.2 (σ.1 + 0) j).map (zad g)))))))
          rw [show (fun j => (zclq σ.1 σ.2.2.2.2 (σ.1 + 0) j).map (zad g)) = fun _ => none from funext fun j => by rw [zclq_ge (by omega)]; rfl]
          exact b1
      · cases h
    · cases h
  case multianewarray x y =>
    obtain rfl : ln = 4 := Nat.eq_of_beq_eq_true hln
    obtain ⟨n, k, T, rfl, h⟩ := zb2_inv h
    replace h : zmna pc L T σ e1 n k = some (P, c') := h
    unfold zmna at h
    split at h
    · rename_i hr
      cases h
      obtain ⟨ht, hsh, hn0, hn1, hk0, hk1, hN2, hin⟩ := hr
      have hw : (Nat.beq y 2 && zhas (zMc M) (.classLink (zMy M).cls x (if e1 = 3 then "[[I" else "[[J")) && zhas 30 (.arrayClass (zTy (e1 - 3)))) = true := hck
      simp only [Bool.and_eq_true] at hw
      obtain ⟨⟨w1, w2⟩, w3⟩ := hw
      obtain rfl : y = 2 := Nat.eq_of_beq_eq_true w1
      dsimp only at hRc hRs
      have hzn : (Int32.ofInt n).toInt = n := zi_toInt ⟨by omega, by omega⟩
      have hcn : (Int32.ofInt n).toNatClampNeg = n.toNat := by rw [← Int32.toNat_toInt, hzn]
      have hzk : (Int32.ofInt k).toInt = k := zi_toInt ⟨by omega, by omega⟩
      have hck2 : (Int32.ofInt k).toNatClampNeg = k.toNat := by rw [← Int32.toNat_toInt, hzk]
      have hnk : n.toNat * k.toNat ≤ 1000 * 1000 := Nat.mul_le_mul (by omega) (by omega)
      have hinn : ∀ j : Nat, j < n.toNat → zSh (σ.1 + 1 + j) = .inr (e1 - 3, k.toNat) := fun j hj => of_decide_eq_true (List.all_eq_true.mp hin j (List.mem_range.mpr hj))
      have key : ∀ (ty : FieldType) (z : vp_A) (e0 : Nat), e0 ≤ 2 → e1 = e0 + 3 → zTy e0 = ty → zTy e1 = .array ty → va_RA s (g.2.2 e0) ty → va_RA s (g.2.2 e1) (.array ty) → (∀ cA : ClassId, s.vm.findClass ("[" ++ ty.toString) = some cA → va_RA s (g.2.2 e0) ty → cA = g.2.2 e0) → zOA (.array ty) s →
          (Cond.classLink (zMy M).cls x ("[" ++ (FieldType.array ty).toString)).before args s = true → (Cond.arrayClass ty).before args s = true → componentBytes ty ≤ 8 → fits ty (defaultValue ty) = true → (defaultValue ty).isDefault = true → (∀ cA : ClassId, Jvm.Free.Multi.innerC cA k.toNat (defaultValue ty) = vp_cell cA z) →
          (∀ j : Nat, j < n.toNat → zE g (σ.1 + 1 + n.toNat, σ.2.1 + n.toNat + n.toNat * k.toNat, zclr σ.1 σ.2.2.1, zclr σ.1 σ.2.2.2.1, zrow σ.1 n.toNat σ.2.2.2.2) (σ.1 + 1 + j) = .inl (g.2.2 e0, z)) →
          W p l e R s m args below meth c H locs cells slots Q (F0 m pc ls (.int (Int32.ofInt k) :: .int (Int32.ofInt n) :: T.map (ztr g))) := by
        intro ty z e0 he0 hee ht0 ht1 hR0 hR1 hun hov hcl hac hcb hfd hdd hz hE
        intro TT hTT Xs
        obtain ⟨vm₁, cA, comp, -, fA, fC, hOO, -, X', step⟩ := Xs.multianewarray2F hx hown hcl hov hac (g := F0 m pc ls (.int (Int32.ofInt k) :: .int (Int32.ofInt n) :: T.map (ztr g))) rfl (by rw [hb]; exact hd) rfl (by rw [Int32.lt_iff_toInt_lt, hzn, show (0 : Int32).toInt = 0 from rfl]; omega) (by rw [Int32.lt_iff_toInt_lt, hzk, show (0 : Int32).toInt = 0 from rfl]; omega) (by rw [hcn]; omega) (by rw [hck2]; have : k.toNat * componentBytes ty ≤ 1000 * 8 := Nat.mul_le_mul (by omega) hcb; omega) (by rw [hck2]; omega) hfd hdd (by rw [hcn]; omega) (by rw [hcn, hck2]; omega)
        rw [hcn, hck2] at X' step
        obtain rfl : cA = g.2.2 e1 := Option.some.inj (fA.symm.trans hR1)
        obtain rfl : comp = g.2.2 e0 := hun comp fC hR0
        generalize hF : Jvm.Free.Multi.fill (TT.setVm vm₁) (g.2.2 e1) (g.2.2 e0) n.toNat k.toNat (defaultValue ty) n.toNat = F at X' step
        have hTh : (TT.setVm vm₁).heap = H := hTT
        obtain ⟨f1, f2, -, -⟩ := Jvm.Free.Multi.fill_facts (TT.setVm vm₁) (g.2.2 e1) (g.2.2 e0) n.toNat k.toNat (defaultValue ty) n.toNat
        rw [hF, hTh] at f1 f2
        have hold : ∀ q : Nat, q < H.size → F.heap[q]? = H[q]? := fun q hq => by
          have := Jvm.Free.Multi.fill_old (TT.setVm vm₁) (g.2.2 e1) (g.2.2 e0) n.toNat k.toNat (defaultValue ty) (a := q) (by rw [hTh]; exact hq) n.toNat
          rw [hF, hTh] at this
          exact this
        have hrow : ∀ j : Nat, j < n.toNat → F.heap[H.size + 1 + j]? = some (vp_cell (g.2.2 e0) z) := fun j hj => by
          have := Jvm.Free.Multi.fill_inner (TT.setVm vm₁) (g.2.2 e1) (g.2.2 e0) n.toNat k.toNat (defaultValue ty) n.toNat j hj
          rw [hF, hTh, hz] at this
          exact this
        rw [vr_outer] at f2
        have hz1 : F.heap.size = H.size + (1 + n.toNat) := by rw [f1]; omega
        have hk := kk F.heap locs (cells + 1 + n.toNat) (slots + n.toNat + n.toNat * k.toNat) ls hL (zWd_new (n := 1 + n.toNat) hW (by show σ.1 + 1 + n.toNat = _; omega) hz1 hold (fun a k ha => zclr_lt ha) (fun a k ha => zclr_lt ha) (fun a k ha => zrow_lt ha) (fun j hj => ?_)) (zSnew hS hz1 hold) (by dsimp only; omega) (by dsimp only; omega)
        · dsimp only at hk
          rw [List.map_cons, ztr_q, zad_N hW] at hk
          obtain ⟨t, a1, b1⟩ := hk F rfl X'
          refine ⟨t, step t ?_, b1⟩
          have ee : TT.heap.size = H.size := by rw [hTT]
          rw [ee]
          exact a1
        · by_cases hj0 : j = 0
          · subst hj0
            have hsh0 : zSh (σ.1 + 0) = .inr (e1, n.toNat) := hsh
            rw [zE_q hsh0 (by omega), zLn_n (by omega)]
            show F.heap[H.size + 0]? = some (vp_cell _ (_, .inr (.inr (.inr (.inr (fun j => (zrow σ.1 n.toNat σ.2.2.2.2 (σ.1 + 0) j).map (zad g)))))))
            rw [vp_cell_q]
            refine f2.trans (congrArg some (congrArg (arrV _ _) (funext fun j => ?_)))
            unfold zrow
            rw [if_neg (show ¬ σ.1 + 0 < σ.1 by omega), if_pos (show σ.1 + 0 = σ.1 by omega)]
            by_cases hjn : j < n.toNat
            · rw [if_pos hjn, if_pos hjn]
              show va_rf (some (H.size + 1 + j)) = va_rf (some (zad g (σ.1 + 1 + j)))
              have h1 := hW.1
              rw [zad_lt (by omega), show g.1.1 + (σ.1 + 1 + j - 2) = H.size + 1 + j by omega]
            · rw [if_neg hjn, if_neg hjn]
              rfl
          · have hE1 := hE (j - 1) (by omega)
            rw [show σ.1 + 1 + (j - 1) = σ.1 + j by omega] at hE1
            rw [hE1]
            have h2 := hrow (j - 1) (by omega)
            rw [show H.size + 1 + (j - 1) = H.size + j by omega] at h2
            exact h2
      rcases ht with rfl | rfl
      · refine key .int (k.toNat, .inl (fun _ => 0)) 0 (by omega) rfl rfl rfl (hU.1.2 0 _ (zty_at (by omega))).2 (hU.1.2 3 _ (zty_at (by omega))).2 (fun cA q1 q2 => Option.some.inj (q1.symm.trans q2)) hU.2.2.1 (hts _ (zT_has w2)) (hts _ (zT_has w3)) (by decide) rfl rfl (fun cA => ?_) (fun j hj => ?_)
        · show ({ cls := cA, slots := Array.replicate k.toNat (.int 0), vm := .none } : Cell) = _
          rw [arrV_new]
          rfl
        · rw [zE_i (hinn j hj), zLn_n (by omega)]
          show (Sum.inl (g.2.2 0, k.toNat, Sum.inl (fun q => Int32.ofInt (zclr σ.1 σ.2.2.1 (σ.1 + 1 + j) q))) : va_E) = _
          rw [show (fun q => Int32.ofInt (zclr σ.1 σ.2.2.1 (σ.1 + 1 + j) q)) = fun _ => (0 : Int32) from funext fun q => by rw [zclr_ge (by omega)]; rfl]
      · refine key .long (k.toNat, .inr (.inl (fun _ => 0))) 1 (by omega) rfl rfl rfl (hU.1.2 1 _ (zty_at (by omega))).2 (hU.1.2 4 _ (zty_at (by omega))).2 (fun cA q1 q2 => Option.some.inj (q1.symm.trans q2)) hU.2.2.2.1 (hts _ (zT_has w2)) (hts _ (zT_has w3)) (by decide) rfl rfl (fun cA => ?_) (fun j hj => ?_)
        · show ({ cls := cA, slots := Array.replicate k.toNat (.long 0), vm := .none } : Cell) = _
          rw [arrV_new]
          rfl
        · rw [zE_l (hinn j hj), zLn_n (by omega)]
          show (Sum.inl (g.2.2 1, k.toNat, Sum.inr (Sum.inl (fun q => Int64.ofInt (zclr σ.1 σ.2.2.2.1 (σ.1 + 1 + j) q)))) : va_E) = _
          rw [show (fun q => Int64.ofInt (zclr σ.1 σ.2.2.2.1 (σ.1 + 1 + j) q)) = fun _ => (0 : Int64) from funext fun q => by rw [zclr_ge (by omega)]; rfl]
    · cases h
  case invokestatic x =>
    obtain rfl : ln = 3 := Nat.eq_of_beq_eq_true hln
    match e2, h, hck with
    | 0, h, _ => cases h
    | 1, h, _ => cases h
    | 2, h, hck =>
      obtain ⟨x1, y1, T, rfl, h7⟩ := zb2_inv h
      split at h7
      · rename_i hr
        cases h7
        have hw : zhas (zMc M) (.methodLink (zMy M).cls x Lib.Math.min.name) = true := hck
        refine va_mmin hx hb (hml.trans hL.1.symm) hown (hts _ (zT_has hw)) (hts _ zwMin1) (hts _ zwMath) (hts _ zwMin2) hRf (by rw [ztr_cats]; omega) (by omega) (by omega) hd ?_
        have hk := kk H locs cells slots ls hL hW hS hc hs
        simp only [zi_lt hP.2 hP.1]
        by_cases hlt : y1 < x1
        · rw [if_pos hlt]
          dsimp only at hk
          rw [if_pos hlt] at hk
          exact hk
        · rw [if_neg hlt]
          dsimp only at hk
          rw [if_neg hlt] at hk
          exact hk
      · cases h7
    | 3, h, hck =>
      obtain ⟨x1, y1, T, rfl, h7⟩ := zb2_inv h
      split at h7
      · rename_i hr
        cases h7
        have hw : zhas (zMc M) (.methodLink (zMy M).cls x Lib.Math.max.name) = true := hck
        refine va_mmax hx hb (hml.trans hL.1.symm) hown (hts _ (zT_has hw)) (hts _ zwMax1) (hts _ zwMath) (hts _ zwMax2) hRf (by rw [ztr_cats]; omega) (by omega) (by omega) hd ?_
        have hk := kk H locs cells slots ls hL hW hS hc hs
        simp only [zi_lt hP.1 hP.2]
        by_cases hlt : x1 < y1
        · rw [if_pos hlt]
          dsimp only at hk
          rw [if_pos hlt] at hk
          exact hk
        · rw [if_neg hlt]
          dsimp only at hk
          rw [if_neg hlt] at hk
          exact hk
      · cases h7
    | n + 4, h, _ => cases h
  case invokespecial x =>
    obtain rfl : ln = 3 := Nat.eq_of_beq_eq_true hln
    match e2, h, hck with
    | 0, h, _ => cases h
    | 1, h, hck =>
      obtain ⟨a, T, rfl, h7⟩ := zq1_inv h
      split at h7
      · rename_i hr
        cases h7
        have hw : zhas (zMc M) (.methodLink (zMy M).cls x objectInit) = true := hck
        exact W.objInit hx hb hown (hts _ (zT_has hw)) (hts _ zwObj1) (hts _ zwObj2) rfl (hL.1.trans hml.symm) rfl hd hRf (by show 2 * 0 + _ + 12 ≤ _; rw [ztr_cats]; omega) (kk H locs cells slots ls hL hW hS hc hs)
      · cases h7
    | n + 2, h, _ => cases h
  all_goals exact absurd (show false = true from hi) (by decide)
end ZS
