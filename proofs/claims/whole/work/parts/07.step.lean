/-! Each instruction of the small machine is one of the real one. -/
theorem zb1_inv {S : List zV} {k : Int → List zV → Option (Prop × zC)} {q : Prop × zC} (h : zb1 S k = some q) : ∃ (y : Int) (T : List zV), S = .inl y :: T ∧ k y T = some q := by
  unfold zb1 at h
  split at h
  · exact ⟨_, _, rfl, h⟩
  · cases h
theorem zb2_inv {S : List zV} {k : Int → Int → List zV → Option (Prop × zC)} {q : Prop × zC} (h : zb2 S k = some q) : ∃ (x y : Int) (T : List zV), S = .inl y :: .inl x :: T ∧ k x y T = some q := by
  unfold zb2 at h
  split at h
  · exact ⟨_, _, _, rfl, h⟩
  · cases h
theorem zl1_inv {S : List zV} {k : Int → List zV → Option (Prop × zC)} {q : Prop × zC} (h : zl1 S k = some q) : ∃ (y : Int) (T : List zV), S = .inr (.inl y) :: T ∧ k y T = some q := by
  unfold zl1 at h
  split at h
  · exact ⟨_, _, rfl, h⟩
  · cases h
theorem zl2_inv {S : List zV} {k : Int → Int → List zV → Option (Prop × zC)} {q : Prop × zC} (h : zl2 S k = some q) : ∃ (x y : Int) (T : List zV), S = .inr (.inl y) :: .inr (.inl x) :: T ∧ k x y T = some q := by
  unfold zl2 at h
  split at h
  · exact ⟨_, _, _, rfl, h⟩
  · cases h
theorem zli_inv {S : List zV} {k : Int → Int → List zV → Option (Prop × zC)} {q : Prop × zC} (h : zli S k = some q) : ∃ (x y : Int) (T : List zV), S = .inl y :: .inr (.inl x) :: T ∧ k x y T = some q := by
  unfold zli at h
  split at h
  · exact ⟨_, _, _, rfl, h⟩
  · cases h
theorem zq1_inv {S : List zV} {k : Nat → List zV → Option (Prop × zC)} {q : Prop × zC} (h : zq1 S k = some q) : ∃ (a : Nat) (T : List zV), S = .inr (.inr (some a)) :: T ∧ k a T = some q := by
  unfold zq1 at h
  split at h
  · exact ⟨_, _, rfl, h⟩
  · cases h
theorem zqi_inv {S : List zV} {k : Nat → Int → List zV → Option (Prop × zC)} {q : Prop × zC} (h : zqi S k = some q) : ∃ (a : Nat) (i : Int) (T : List zV), S = .inl i :: .inr (.inr (some a)) :: T ∧ k a i T = some q := by
  unfold zqi at h
  split at h
  · exact ⟨_, _, _, rfl, h⟩
  · cases h
theorem zqv_inv {S : List zV} {k : Nat → zV → List zV → Option (Prop × zC)} {q : Prop × zC} (h : zqv S k = some q) : ∃ (a : Nat) (v : zV) (T : List zV), S = v :: .inr (.inr (some a)) :: T ∧ k a v T = some q := by
  unfold zqv at h
  split at h
  · exact ⟨_, _, _, rfl, h⟩
  · cases h
theorem zqiv_inv {S : List zV} {k : Nat → Int → zV → List zV → Option (Prop × zC)} {q : Prop × zC} (h : zqiv S k = some q) : ∃ (a : Nat) (i : Int) (v : zV) (T : List zV), S = v :: .inl i :: .inr (.inr (some a)) :: T ∧ k a i v T = some q := by
  unfold zqiv at h
  split at h
  · exact ⟨_, _, _, _, rfl, h⟩
  · cases h
theorem zldi_inv {L : List (Option zV)} {i : Nat} {k : Int → Option (Prop × zC)} {q : Prop × zC} (h : zldi L i k = some q) : ∃ x : Int, L[i]? = some (some (.inl x)) ∧ k x = some q := by
  unfold zldi at h
  split at h
  · exact ⟨_, by assumption, h⟩
  · cases h
theorem zldl_inv {L : List (Option zV)} {i : Nat} {k : Int → Option (Prop × zC)} {q : Prop × zC} (h : zldl L i k = some q) : ∃ x : Int, L[i]? = some (some (.inr (.inl x))) ∧ k x = some q := by
  unfold zldl at h
  split at h
  · exact ⟨_, by assumption, h⟩
  · cases h
theorem zldq_inv {L : List (Option zV)} {i : Nat} {k : Nat → Option (Prop × zC)} {q : Prop × zC} (h : zldq L i k = some q) : ∃ x : Nat, L[i]? = some (some (.inr (.inr (some x)))) ∧ k x = some q := by
  unfold zldq at h
  split at h
  · exact ⟨_, by assumption, h⟩
  · cases h
theorem zarr_inv {σ : zS} {a t : Nat} {k : Nat → Option (Prop × zC)} {q : Prop × zC} (h : zarr σ a t k = some q) : ∃ n : Nat, zSh a = .inr (t, n) ∧ a < σ.1 ∧ k n = some q := by
  unfold zarr at h
  split at h
  · rename_i t' n e
    split at h
    · rename_i hc
      exact ⟨n, by rw [e, hc.1], hc.2, h⟩
    · cases h
  · cases h
def zFix (p : Program) (s : State) (m : MethodId) (args : Array Value) (meth : Method) (c : Code) (g : zG) (M : Nat) : Prop :=
  p.tables.exec = Jvm.exec ∧ c.code = zMb M ∧ c.maxLocals = zMx M ∧ s.vm.findClass (zMy M).cls = some m.cls ∧ (∀ w ∈ zT, w.before args s = true) ∧ ((zMy M).name = "<init>" → meth.name = "<init>") ∧ zU g s ∧ zOrd g s s.heap
/-- the real machine goes on from this place of the small one -/
def zK (p : Program) (l : Launch) (e : Env) (R : Room) (s : State) (m : MethodId) (args : Array Value) (below : List Frame) (meth : Method) (c : Code) (Q : State → Prop) (g : zG) (M c0 d0 : Nat) (cf : zC) : Prop :=
  ∀ (H : Heap) (locs : List Loc) (cells slots : Nat) (ls : Array Slot), zL g ls (zMx M) cf.2.1 → zWd g cf.2.2.2 H → va_S (fun q : Nat => g.1.1 ≤ q) s.heap H locs → cells + c0 = cf.2.2.2.1 → slots + d0 = cf.2.2.2.2.1 → W p l e R s m args below meth c H locs cells slots Q (F0 m cf.1 ls (cf.2.2.1.map (ztr g)))
section ZS
variable {p : Program} {l : Launch} {e : Env} {R : Room} {s : State} {m : MethodId} {args : Array Value} {below : List Frame} {meth : Method} {c : Code} {Q : State → Prop} {g : zG} {M c0 d0 : Nat}
theorem zT_has {k : Nat} {w : Cond} (h : zhas k w = true) : w ∈ zT := zW_in k w (of_decide_eq_true h)
theorem zn1 {a : Nat} (h : Nat.beq a 1 = true) : a = 1 := Nat.eq_of_beq_eq_true h
set_option maxHeartbeats 4000000 in
set_option maxRecDepth 100000 in
/-- constants, locals, arithmetic -/
theorem z_step1 (hF : zFix p s m args meth c g M) {pc : Nat} {L : List (Option zV)} {S : List zV} {σ : zS} {i : zI} {P : Prop} {c' : zC} (hT : zTab M pc = some i) (h : zstep i (pc, L, S, σ) = some (P, c')) (hP : P)
    (kk : zK p l e R s m args below meth c Q g M c0 d0 c')
    (hi : (match i.1 with
      | .iconst _ => true | .bipush _ => true | .sipush _ => true | .lconst _ => true | .ldc _ => true | .ldc2_w _ => true | .iload_n _ => true | .iload _ => true | .lload_n _ => true | .lload _ => true | .aload_n _ => true | .aload _ => true
      | .istore_n _ => true | .istore _ => true | .lstore_n _ => true | .lstore _ => true | .astore_n _ => true | .astore _ => true | .iinc _ _ => true | .iadd => true | .isub => true | .imul => true | .iand => true | .ior => true | .ixor => true
      | .ishl => true | .ishr => true | .idiv => true | .irem => true | .ladd => true | .land => true | .lor => true | .lshl => true | .i2l => true | .l2i => true | .i2b => true | .i2s => true | .lcmp => true | .goto _ => true | .tableswitch _ _ _ _ => true
      | .dup => true | .dup2 => true | .pop => true | _ => false) = true) : zK p l e R s m args below meth c Q g M c0 d0 (pc, L, S, σ) := by
  obtain ⟨hx, hb, hml, hown, hts, hnm, hU, hO⟩ := hF
  obtain ⟨hd, hck, hln, hax⟩ := zcode hT
  obtain ⟨ins, ln, e1, e2⟩ := i
  intro H locs cells slots ls hL hW hS hc hs
  dsimp only at hd hi hL hW hc hs ⊢
  cases ins
  case iconst n =>
    obtain rfl : ln = 1 := zn1 hln
    cases h
    exact lv_iconst hx hb hd rfl (kk H locs cells slots ls hL hW hS hc hs)
  case bipush n =>
    obtain rfl : ln = 2 := Nat.eq_of_beq_eq_true hln
    replace h : (if -128 ≤ n ∧ n ≤ 127 then some (True, pc + 2, L, (.inl n :: S : List zV), σ) else none) = some (P, c') := h
    split at h
    · rename_i hr
      cases h
      refine lv_bipush hx hb hd ?_ (kk H locs cells slots ls hL hW hS hc hs)
      rw [← Int32.ofInt_int8ToInt, Int8.toInt_ofInt_of_le (by omega) (by omega)]
    · cases h
  case sipush n =>
    obtain rfl : ln = 3 := Nat.eq_of_beq_eq_true hln
    replace h : (if -32768 ≤ n ∧ n ≤ 32767 then some (True, pc + 3, L, (.inl n :: S : List zV), σ) else none) = some (P, c') := h
    split at h
    · rename_i hr
      cases h
      refine lv_sipush hx hb hd ?_ (kk H locs cells slots ls hL hW hS hc hs)
      rw [← Int32.ofInt_int16ToInt, Int16.toInt_ofInt_of_le (by omega) (by omega)]
    · cases h
  case lconst n =>
    obtain rfl : ln = 1 := zn1 hln
    cases h
    exact lv_lconst hx hb hd (Int64.ofInt_eq_ofNat).symm (kk H locs cells slots ls hL hW hS hc hs)
  case ldc n =>
    obtain rfl : ln = 2 := Nat.eq_of_beq_eq_true hln
    cases h
    have hw : (Nat.blt e1 2147483648 && zhas (zMc M) (.constant (zMy M).cls n (Int32.ofNat e1))) = true := hck
    rw [Bool.and_eq_true] at hw
    have hk := kk H locs cells slots ls hL hW hS hc hs
    refine lv_ldc hx hb hown (hts _ (zT_has hw.2)) hd ?_
    rw [← Int32.ofInt_eq_ofNat]
    exact hk
  case ldc2_w n =>
    obtain rfl : ln = 3 := Nat.eq_of_beq_eq_true hln
    cases h
    have hw : (Nat.blt e1 9223372036854775808 && zhas (zMc M) (.constantLong (zMy M).cls n (Int64.ofNat e1))) = true := hck
    rw [Bool.and_eq_true] at hw
    have hk := kk H locs cells slots ls hL hW hS hc hs
    refine lv_ldc2 hx hb hown (hts _ (zT_has hw.2)) hd ?_
    rw [← Int64.ofInt_eq_ofNat]
    exact hk
  case iload_n k =>
    obtain rfl : ln = 1 := zn1 hln
    obtain ⟨x, hl, h⟩ := zldi_inv h
    cases h
    exact lv_iload_n hx hb hd rfl (hL.2.2.2 _ _ hl) (kk H locs cells slots ls hL hW hS hc hs)
  case iload k =>
    obtain rfl : ln = 2 := Nat.eq_of_beq_eq_true hln
    obtain ⟨x, hl, h⟩ := zldi_inv h
    cases h
    exact lv_iload hx hb hd (hL.2.2.2 _ _ hl) (kk H locs cells slots ls hL hW hS hc hs)
  case lload_n k =>
    obtain rfl : ln = 1 := zn1 hln
    obtain ⟨x, hl, h⟩ := zldl_inv h
    cases h
    exact lv_lload_n hx hb hd rfl (hL.2.2.2 _ _ hl) (kk H locs cells slots ls hL hW hS hc hs)
  case lload k =>
    obtain rfl : ln = 2 := Nat.eq_of_beq_eq_true hln
    obtain ⟨x, hl, h⟩ := zldl_inv h
    cases h
    exact lv_lload hx hb hd (hL.2.2.2 _ _ hl) (kk H locs cells slots ls hL hW hS hc hs)
  case aload_n k =>
    obtain rfl : ln = 1 := zn1 hln
    obtain ⟨x, hl, h⟩ := zldq_inv h
    cases h
    exact lv_aload_n hx hb hd rfl (hL.2.2.2 _ _ hl) (kk H locs cells slots ls hL hW hS hc hs)
  case aload k =>
    obtain rfl : ln = 2 := Nat.eq_of_beq_eq_true hln
    obtain ⟨x, hl, h⟩ := zldq_inv h
    cases h
    exact lv_aload hx hb hd (hL.2.2.2 _ _ hl) (kk H locs cells slots ls hL hW hS hc hs)
  case istore_n k =>
    obtain rfl : ln = 1 := zn1 hln
    obtain ⟨x, T, rfl, h⟩ := zb1_inv h
    cases h
    exact lv_istore_n hx hb hd rfl (zL_has hL) (Nat.le_of_ble_eq_true hax) rfl (fun ls' h' => kk H locs cells slots ls' (zL_st (v := .inl x) hL h') hW hS hc hs)
  case istore k =>
    obtain rfl : ln = 2 := Nat.eq_of_beq_eq_true hln
    obtain ⟨x, T, rfl, h⟩ := zb1_inv h
    cases h
    exact lv_istore hx hb hd (zL_has hL) (Nat.le_of_ble_eq_true hax) rfl (fun ls' h' => kk H locs cells slots ls' (zL_st (v := .inl x) hL h') hW hS hc hs)
  case lstore_n k =>
    obtain rfl : ln = 1 := zn1 hln
    obtain ⟨x, T, rfl, h⟩ := zl1_inv h
    cases h
    exact lv_lstore_n hx hb hd rfl (zL_has hL) (Nat.le_of_ble_eq_true hax) rfl (fun ls' h' => kk H locs cells slots ls' (zL_st2 (v := .inr (.inl x)) hL h') hW hS hc hs)
  case lstore k =>
    obtain rfl : ln = 2 := Nat.eq_of_beq_eq_true hln
    obtain ⟨x, T, rfl, h⟩ := zl1_inv h
    cases h
    exact lv_lstore hx hb hd (zL_has hL) (Nat.le_of_ble_eq_true hax) rfl (fun ls' h' => kk H locs cells slots ls' (zL_st2 (v := .inr (.inl x)) hL h') hW hS hc hs)
  case astore_n k =>
    obtain rfl : ln = 1 := zn1 hln
    obtain ⟨x, T, rfl, h⟩ := zq1_inv h
    cases h
    exact lv_astore_n hx hb hd rfl (zL_has hL) (Nat.le_of_ble_eq_true hax) rfl (fun ls' h' => kk H locs cells slots ls' (zL_st (v := .inr (.inr (some x))) hL h') hW hS hc hs)
  case astore k =>
    obtain rfl : ln = 2 := Nat.eq_of_beq_eq_true hln
    obtain ⟨x, T, rfl, h⟩ := zq1_inv h
    cases h
    exact lv_astore hx hb hd (zL_has hL) (Nat.le_of_ble_eq_true hax) rfl (fun ls' h' => kk H locs cells slots ls' (zL_st (v := .inr (.inr (some x))) hL h') hW hS hc hs)
  case iinc k n =>
    obtain rfl : ln = 3 := Nat.eq_of_beq_eq_true hln
    obtain ⟨x, hl, h⟩ := zldi_inv h
    cases h
    obtain ⟨j, hj⟩ := List.getElem?_of_mem (zlv_mem.mpr ⟨_, hl, rfl⟩ : (k, ztr g (.inl x)) ∈ zlv g L)
    exact lv_iinc (k := j) (v := Int32.ofInt (x + n)) hx hb hd (zL_has hL) hj (Int32.ofInt_add x n).symm (Nat.le_of_ble_eq_true hax) rfl (fun ls' h' => kk H locs cells slots ls' (zL_st (v := .inl (x + n)) hL h') hW hS hc hs)
  case iadd =>
    obtain rfl : ln = 1 := zn1 hln
    obtain ⟨x, y, T, rfl, h⟩ := zb2_inv h
    cases h
    refine lv_iadd hx hb hd ?_
    rw [← Int32.ofInt_add]
    exact kk H locs cells slots ls hL hW hS hc hs
  case isub =>
    obtain rfl : ln = 1 := zn1 hln
    obtain ⟨x, y, T, rfl, h⟩ := zb2_inv h
    cases h
    refine lv_isub hx hb hd ?_
    rw [← Int32.ofInt_sub]
    exact kk H locs cells slots ls hL hW hS hc hs
  case imul =>
    obtain rfl : ln = 1 := zn1 hln
    obtain ⟨x, y, T, rfl, h⟩ := zb2_inv h
    cases h
    refine lv_imul hx hb hd ?_
    rw [← Int32.ofInt_mul]
    exact kk H locs cells slots ls hL hW hS hc hs
  case iand =>
    obtain rfl : ln = 1 := zn1 hln
    obtain ⟨x, y, T, rfl, h⟩ := zb2_inv h
    cases h
    refine lv_iand hx hb hd ?_
    rw [← Int32.ofInt_toInt (Int32.ofInt x &&& Int32.ofInt y)]
    exact kk H locs cells slots ls hL hW hS hc hs
  case ior =>
    obtain rfl : ln = 1 := zn1 hln
    obtain ⟨x, y, T, rfl, h⟩ := zb2_inv h
    cases h
    refine lv_ior hx hb hd ?_
    rw [← Int32.ofInt_toInt (Int32.ofInt x ||| Int32.ofInt y)]
    exact kk H locs cells slots ls hL hW hS hc hs
  case ixor =>
    obtain rfl : ln = 1 := zn1 hln
    obtain ⟨x, y, T, rfl, h⟩ := zb2_inv h
    cases h
    refine lv_ixor hx hb hd ?_
    rw [← Int32.ofInt_toInt (Int32.ofInt x ^^^ Int32.ofInt y)]
    exact kk H locs cells slots ls hL hW hS hc hs
  case ishl =>
    obtain rfl : ln = 1 := zn1 hln
    obtain ⟨x, y, T, rfl, h⟩ := zb2_inv h
    cases h
    refine lv_ishl hx hb hd ?_
    rw [← Int32.ofInt_toInt (Int32.ofInt x <<< (Int32.ofInt y &&& 31))]
    exact kk H locs cells slots ls hL hW hS hc hs
  case ishr =>
    obtain rfl : ln = 1 := zn1 hln
    obtain ⟨x, y, T, rfl, h⟩ := zb2_inv h
    cases h
    refine lv_ishr hx hb hd ?_
    rw [← Int32.ofInt_toInt (Int32.ofInt x >>> (Int32.ofInt y &&& 31))]
    exact kk H locs cells slots ls hL hW hS hc hs
  case idiv =>
    obtain rfl : ln = 1 := zn1 hln
    obtain ⟨x, y, T, rfl, h⟩ := zb2_inv h
    cases h
    refine lv_idiv hx hb hd (fun q => hP.2 ?_) ?_
    · exact (zi_eq hP.1 ⟨by omega, by omega⟩).mp (q.trans rfl)
    · rw [← Int32.ofInt_toInt (Int32.ofInt x / Int32.ofInt y)]
      exact kk H locs cells slots ls hL hW hS hc hs
  case irem =>
    obtain rfl : ln = 1 := zn1 hln
    obtain ⟨x, y, T, rfl, h⟩ := zb2_inv h
    cases h
    refine lv_irem hx hb hd (fun q => hP.2 ?_) ?_
    · exact (zi_eq hP.1 ⟨by omega, by omega⟩).mp (q.trans rfl)
    · rw [← Int32.ofInt_toInt (Int32.ofInt x - Int32.ofInt x / Int32.ofInt y * Int32.ofInt y)]
      exact kk H locs cells slots ls hL hW hS hc hs
  case ladd =>
    obtain rfl : ln = 1 := zn1 hln
    obtain ⟨x, y, T, rfl, h⟩ := zl2_inv h
    cases h
    refine lv_ladd hx hb hd ?_
    rw [← Int64.ofInt_add]
    exact kk H locs cells slots ls hL hW hS hc hs
  case land =>
    obtain rfl : ln = 1 := zn1 hln
    obtain ⟨x, y, T, rfl, h⟩ := zl2_inv h
    cases h
    refine lv_land hx hb hd ?_
    rw [← Int64.ofInt_toInt (Int64.ofInt x &&& Int64.ofInt y)]
    exact kk H locs cells slots ls hL hW hS hc hs
  case lor =>
    obtain rfl : ln = 1 := zn1 hln
    obtain ⟨x, y, T, rfl, h⟩ := zl2_inv h
    cases h
    refine lv_lor hx hb hd ?_
    rw [← Int64.ofInt_toInt (Int64.ofInt x ||| Int64.ofInt y)]
    exact kk H locs cells slots ls hL hW hS hc hs
  case lshl =>
    obtain rfl : ln = 1 := zn1 hln
    obtain ⟨x, y, T, rfl, h⟩ := zli_inv h
    cases h
    exact lv_lshl hx hb hd (Int64.ofInt_toInt _).symm (kk H locs cells slots ls hL hW hS hc hs)
  case i2l =>
    obtain rfl : ln = 1 := zn1 hln
    obtain ⟨x, T, rfl, h⟩ := zb1_inv h
    cases h
    exact lv_i2l hx hb hd (zi2l hP) (kk H locs cells slots ls hL hW hS hc hs)
  case l2i =>
    obtain rfl : ln = 1 := zn1 hln
    obtain ⟨x, T, rfl, h⟩ := zl1_inv h
    cases h
    exact lv_l2i hx hb hd (Int64.toInt32_ofInt.trans (zbm x).symm) (kk H locs cells slots ls hL hW hS hc hs)
  case i2b =>
    obtain rfl : ln = 1 := zn1 hln
    obtain ⟨x, T, rfl, h⟩ := zb1_inv h
    cases h
    exact lv_i2b hx hb hd (zi2b x) (kk H locs cells slots ls hL hW hS hc hs)
  case i2s =>
    obtain rfl : ln = 1 := zn1 hln
    obtain ⟨x, T, rfl, h⟩ := zb1_inv h
    cases h
    exact lv_i2s hx hb hd (zi2s x) (kk H locs cells slots ls hL hW hS hc hs)
  case lcmp =>
    obtain rfl : ln = 1 := zn1 hln
    obtain ⟨x, y, T, rfl, h⟩ := zl2_inv h
    cases h
    refine W.lcmp hx hb hd ?_
    rw [zlcmp hP.1 hP.2]
    exact kk H locs cells slots ls hL hW hS hc hs
  case goto off =>
    obtain rfl : ln = 3 := Nat.eq_of_beq_eq_true hln
    cases h
    have h0 : 0 ≤ (pc : Int) + off := of_decide_eq_true hax
    exact lv_goto hx hb hd (Int.toNat_of_nonneg h0).symm (kk H locs cells slots ls hL hW hS hc hs)
  case tableswitch d lo hi' offs =>
    obtain ⟨x, T, rfl, h⟩ := zb1_inv h
    cases h
    have hz : (Int32.ofInt x).toInt = x := zi_toInt hP
    have ha : (decide (0 ≤ (pc : Int) + d) && offs.toList.all (fun o => decide (0 ≤ (pc : Int) + o)) && decide (offs.size = (hi' - lo + 1).toNat) && decide (lo ≤ hi')) = true := hax
    simp only [Bool.and_eq_true, decide_eq_true_eq] at ha
    obtain ⟨⟨⟨a1, a2⟩, a3⟩, a4⟩ := ha
    have hk := kk H locs cells slots ls hL hW hS hc hs
    by_cases ho : x < lo ∨ hi' < x
    · refine lv_tableOut (tgt := ((pc : Int) + d).toNat) hx hb hd (by rw [hz]; exact ho) (Int.toNat_of_nonneg a1).symm ?_
      dsimp only at hk
      rw [if_pos ho] at hk
      exact hk
    · have hlt : (x - lo).toNat < offs.size := by rw [a3]; omega
      have hg : offs[(x - lo).toNat]? = some (offs.getD (x - lo).toNat d) := by
        rw [Array.getD_eq_getD_getElem?, Array.getElem?_eq_getElem hlt]
        rfl
      have hm : 0 ≤ (pc : Int) + offs.getD (x - lo).toNat d := by
        have h9 := List.all_eq_true.mp a2 (offs.getD (x - lo).toNat d) (by rw [Array.mem_toList_iff]; exact Array.mem_of_getElem? hg)
        exact of_decide_eq_true h9
      refine lv_tableIn (off := offs.getD (x - lo).toNat d) (tgt := ((pc : Int) + offs.getD (x - lo).toNat d).toNat) hx hb hd (by rw [hz]; omega) (by rw [hz]; omega) (by rw [hz]; exact hg) (Int.toNat_of_nonneg hm).symm ?_
      dsimp only at hk
      rw [if_neg ho] at hk
      exact hk
  case dup =>
    obtain rfl : ln = 1 := zn1 hln
    rcases S with _ | ⟨v, T⟩
    · cases h
    · replace h : (if zcat v = 1 then some (True, pc + 1, L, (v :: v :: T : List zV), σ) else none) = some (P, c') := h
      split at h
      · rename_i hr
        cases h
        exact lv_dup hx hb hd ((ztr_cat g v).trans hr) (kk H locs cells slots ls hL hW hS hc hs)
      · cases h
  case dup2 =>
    obtain rfl : ln = 1 := zn1 hln
    rcases S with _ | ⟨v, _ | ⟨w, T⟩⟩
    · cases h
    · cases h
    · replace h : (if zcat v = 1 ∧ zcat w = 1 then some (True, pc + 1, L, (v :: w :: v :: w :: T : List zV), σ) else none) = some (P, c') := h
      split at h
      · rename_i hr
        cases h
        exact lv_dup2_11 hx hb hd ((ztr_cat g v).trans hr.1) ((ztr_cat g w).trans hr.2) (kk H locs cells slots ls hL hW hS hc hs)
      · cases h
  case pop =>
    obtain rfl : ln = 1 := zn1 hln
    rcases S with _ | ⟨v, T⟩
    · cases h
    · replace h : (if zcat v = 1 then some (True, pc + 1, L, T, σ) else none) = some (P, c') := h
      split at h
      · rename_i hr
        cases h
        exact lv_pop hx hb hd ((ztr_cat g v).trans hr) (kk H locs cells slots ls hL hW hS hc hs)
      · cases h
  all_goals exact absurd (show false = true from hi) (by decide)
end ZS
