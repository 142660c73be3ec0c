/-! Rows of the memory over the cells. -/
def zty (ci : Nat) : Nat → FieldType := match ci with
  | 0 => tyX0
  | 1 => tyX1
  | 2 => tyX2
  | 3 => tyX3
  | 4 => tyX4
  | 5 => tyX5
  | 6 => tyX6
  | 7 => tyX7
  | _ => tyX8
def zkOk (ci k : Nat) : Bool := match zKind ci k, zty ci k with
  | 0, .int => true
  | 1, .long => true
  | 2, .object _ => true
  | 2, .array _ => true
  | _, _ => false
def zClOk (ci : Nat) : Prop := (∀ w ∈ u_ws (zCl ci).1 (zCl ci).2.1 (zCl ci).2.2, w ∈ zT) ∧ (∀ k, k < (zCl ci).2.2 → parseFieldDescriptor ((zCl ci).2.1 k).2.2.1 = some (zty ci k)) ∧ (∀ a, a < (zCl ci).2.2 → ∀ b, b < (zCl ci).2.2 → a ≠ b → ((zCl ci).2.1 a).2.1 ≠ ((zCl ci).2.1 b).2.1) ∧ vwCl[ci]? = some ((zCl ci).1, (zCl ci).2.1, (zCl ci).2.2) ∧ (zKs.getD ci []).length = (zCl ci).2.2 ∧ (∀ k, k < (zCl ci).2.2 → zkOk ci k = true)
theorem zcls (ci : Nat) (h : ci < 9) : zClOk ci := by
  match ci, h with
  | 0, _ => exact ⟨zin_0, tyX0_ok, nmX0, rfl, rfl, by decide +kernel⟩
  | 1, _ => exact ⟨zin_1, tyX1_ok, nmX1, rfl, rfl, by decide +kernel⟩
  | 2, _ => exact ⟨zin_2, tyX2_ok, nmX2, rfl, rfl, by decide +kernel⟩
  | 3, _ => exact ⟨zin_3, tyX3_ok, nmX3, rfl, rfl, by decide +kernel⟩
  | 4, _ => exact ⟨zin_4, tyX4_ok, nmX4, rfl, rfl, by decide +kernel⟩
  | 5, _ => exact ⟨zin_5, tyX5_ok, nmX5, rfl, rfl, by decide +kernel⟩
  | 6, _ => exact ⟨zin_6, tyX6_ok, nmX6, rfl, rfl, by decide +kernel⟩
  | 7, _ => exact ⟨zin_7, tyX7_ok, nmX7, rfl, rfl, by decide +kernel⟩
  | 8, _ => exact ⟨zin_8, tyX8_ok, nmX8, rfl, rfl, by decide +kernel⟩
  | n + 9, h => exact absurd h (by omega)
/-- an int that is within its bounds -/
theorem zi_toInt {x : Int} (h : zr x) : (Int32.ofInt x).toInt = x := Int32.toInt_ofInt_of_le (by have := h.1; omega) (by have := h.2; omega)
theorem zl_toInt {x : Int} (h : zrl x) : (Int64.ofInt x).toInt = x := Int64.toInt_ofInt_of_le (by have := h.1; omega) (by have := h.2; omega)
theorem zi_lt {x y : Int} (hx : zr x) (hy : zr y) : Int32.ofInt x < Int32.ofInt y ↔ x < y := by rw [Int32.lt_iff_toInt_lt, zi_toInt hx, zi_toInt hy]
theorem zi_le {x y : Int} (hx : zr x) (hy : zr y) : Int32.ofInt x ≤ Int32.ofInt y ↔ x ≤ y := by rw [Int32.le_iff_toInt_le, zi_toInt hx, zi_toInt hy]
theorem zi_eq {x y : Int} (hx : zr x) (hy : zr y) : Int32.ofInt x = Int32.ofInt y ↔ x = y := by rw [← Int32.toInt_inj, zi_toInt hx, zi_toInt hy]
theorem zl_lt {x y : Int} (hx : zrl x) (hy : zrl y) : Int64.ofInt x < Int64.ofInt y ↔ x < y := by rw [Int64.lt_iff_toInt_lt, zl_toInt hx, zl_toInt hy]
theorem zl_eq {x y : Int} (hx : zrl x) (hy : zrl y) : Int64.ofInt x = Int64.ofInt y ↔ x = y := by rw [← Int64.toInt_inj, zl_toInt hx, zl_toInt hy]
theorem z_in {j : Int} {n : Nat} (h0 : 0 ≤ j) (h1 : j < (n : Int)) (hn : n ≤ 100000) : vp_in (Int32.ofInt j) n ∧ (Int32.ofInt j).toNatClampNeg = j.toNat := by
  have hz : (Int32.ofInt j).toInt = j := zi_toInt ⟨by omega, by omega⟩
  have hc : (Int32.ofInt j).toNatClampNeg = j.toNat := by rw [← Int32.toNat_toInt, hz]
  refine ⟨?_, hc⟩
  unfold vp_in
  rw [hc, Int32.lt_iff_toInt_lt, hz, show (0 : Int32).toInt = 0 from rfl]
  omega
theorem zlcmp {x y : Int} (hx : zrl x) (hy : zrl y) : lg_cmp (Int64.ofInt x) (Int64.ofInt y) = Int32.ofInt (if x < y then -1 else if x = y then 0 else 1) := by
  unfold lg_cmp
  simp only [gt_iff_lt, zl_lt hy hx, zl_eq hx hy]
  by_cases h1 : y < x
  · rw [if_pos h1, if_neg (by omega), if_neg (by omega)]
    rfl
  · rw [if_neg h1]
    by_cases h2 : x = y
    · rw [if_pos h2, if_neg (by omega), if_pos h2]
      rfl
    · rw [if_neg h2, if_pos (by omega)]
      rfl
theorem zbm (x : Int) : Int32.ofInt (Int.bmod x 4294967296) = Int32.ofInt x := by
  rw [← Int32.toInt_inj, Int32.toInt_ofInt, Int32.toInt_ofInt]
  exact Int.bmod_bmod
theorem zi2b (x : Int) : (Int32.ofInt x).toInt8.toInt32 = Int32.ofInt (Int.bmod x 256) := by
  rw [Int32.toInt8_ofInt, ← Int32.ofInt_int8ToInt, Int8.toInt_ofInt]
theorem zi2s (x : Int) : (Int32.ofInt x).toInt16.toInt32 = Int32.ofInt (Int.bmod x 65536) := by
  rw [Int32.toInt16_ofInt, ← Int32.ofInt_int16ToInt, Int16.toInt_ofInt]
theorem zi2l {x : Int} (h : zr x) : (Int32.ofInt x).toInt64 = Int64.ofInt x := by
  rw [← Int64.toInt_inj, Int32.toInt_toInt64, zi_toInt h, zl_toInt ⟨by have := h.1; omega, by have := h.2; omega⟩]
section ZM
variable {p : Program} {l : Launch} {e : Env} {R : Room} {s : State} {m : MethodId} {args : Array Value} {below : List Frame} {meth : Method} {c : Code} {H : Heap} {locs : List Loc} {cells slots : Nat} {Q : State → Prop}
variable {cc : ByteArray} {pc : Nat} {ls : Array Slot} {rest : List Value} {D : va_G} {cl : List vw_C} {a : Nat} {tys : List (ClassId × FieldType)}
theorem va_P1 {q : Nat × va_E} (h : va_at D cl q H) : va_P D cl [q] H := by
  intro k x hk
  have h0 : k < 1 := (List.getElem?_eq_some_iff.mp hk).1
  rw [show k = 0 by omega] at hk
  cases hk
  exact h
theorem z_putrow (hexec : p.tables.exec = Jvm.exec) (hb : c.code = cc) {own C : String} {T : u_T} {N ci index : Nat} {Ts : List Cond} (hts : ∀ w ∈ Ts, w.before args s = true) (hin : ∀ w ∈ u_ws C T N, w ∈ Ts) (ty0 : Nat → FieldType) (hty : ∀ k, k < N → parseFieldDescriptor (T k).2.2.1 = some (ty0 k)) (hnm : ∀ a, a < N → ∀ b, b < N → a ≠ b → (T a).2.1 ≠ (T b).2.1) (hown : s.vm.findClass own = some m.cls) (hK : va_K D cl tys s) {fs : List Value} (hat : va_at D cl (a, .inr (ci, fs)) H) (hc : cl[ci]? = some (C, T, N)) (k : Nat) (hk : k < N) (hlink : (Cond.fieldLink own index (T k).1 (T k).2.1 (T k).2.2.1).before args s = true)
    (hfin : (T k).2.2.2 = false ∨ (meth.name = "<init>" ∧ (T k).1 = own)) {v : Value} (hn : narrow (ty0 k) v = v) (hfit : fits (ty0 k) v = true) (hl : k < fs.length) (hdg : decode cc pc = .ok (.putfield index, 3))
    (kk : ∀ (H1 : Heap), va_at D cl (a, .inr (ci, fs.set k v)) H1 → H1.size = H.size → (∀ q : Nat, q ≠ a → H1[q]? = H[q]?) → ∀ j : Nat, W p l e R s m args below meth c H1 (locs ++ [⟨a, j⟩]) cells slots Q (F0 m (pc + 3) ls rest)) : W p l e R s m args below meth c H locs cells slots Q (F0 m pc ls (v :: .ref a :: rest)) := by
  have hap := va_apart (own := own) hts hin ty0 hty hnm hK hc
  obtain ⟨r, h1, cell, q1, q2, q3, q4⟩ := hat
  have hr : r = (C, T, N) := Option.some.inj (h1.symm.trans hc)
  subst hr
  obtain ⟨hS, hfc, kC, hkC, hkind⟩ := hK.1 ci _ hc
  obtain ⟨cf, kf, fi, f, hi, hsl⟩ := hS k hk
  have hst := (u_facts hfc hkC (u_lays hts hin hk) hi).1
  have hlay := hts _ (hin _ (u_in_lay hk))
  unfold u_lay at hlay
  cases hf : (T k).2.2.2 with
  | false =>
    rw [if_neg (by rw [hf]; decide)] at hlay
    have h6 := u_store hfc hkC hkind hlay hi (hty k hk) hn hfit
    refine W.putK hexec hb (f := f) ⟨hown, hlink, ⟨_, _, _, hi⟩, hst⟩ (by rw [q2]; exact h6) q1 q3 (by rw [hsl]; exact k2_hasslot (q4 k hk)) rfl rfl hdg fun H' e1 e2 e3 => ?_
    rw [hsl] at e1 ⊢
    exact kk H' ⟨_, hc, t_OB.to (V := updV (vp_V fs) k v) ⟨_, e1, q2, q3, t_set q4 hap hk v⟩ (fun j _ => vp_updV_set hl v j)⟩ e2 e3 _
  | true =>
    rcases hfin with h0 | ⟨hin2, hdecl⟩
    · rw [hf] at h0
      cases h0
    · rw [if_pos hf] at hlay
      have hcf : m.cls = cf := by
        obtain ⟨_, _, c', _, _, _, -, -, hf', -, -, -, hown2, -⟩ := Cond.laysFinal_spec hlay
        have e1 : c' = cf := by have := hi.symm.trans hf'; simp at this; exact this.1.symm
        rw [hdecl] at hown2
        rw [← e1]; exact Option.some.inj (hown.symm.trans hown2)
      have h6 := u_fits hfc hkC hkind (Or.inr hlay) hi (hty k hk) hn hfit
      refine W.putFinK hexec hb hown hlink hi hst hcf hin2 (by rw [q2]; exact h6) q1 q3 (by rw [hsl]; exact k2_hasslot (q4 k hk)) rfl rfl hdg fun H' e1 e2 e3 => ?_
      rw [hsl] at e1 ⊢
      exact kk H' ⟨_, hc, t_OB.to (V := updV (vp_V fs) k v) ⟨_, e1, q2, q3, t_set q4 hap hk v⟩ (fun j _ => vp_updV_set hl v j)⟩ e2 e3 _
end ZM
