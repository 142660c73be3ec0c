/-! The law's start: what the Statement gives there, as the small machine's cells; what is left is a run of the small machine. -/
def zOrdL : List Int := [0, 1, 2, 1, 0, 2, 0, 2, 1, 1, 2, 0, 2, 0, 1, 2, 1, 0]
def zExt (xs : Nat → Int) : Nat → Nat → Int := fun b k => if b = 0 then zOrdL.getD k 0 else if b = 1 then xs k else 0
def zS0 (xs : Nat → Int) (L : Nat) : zS := (2, 0, zExt xs, fun a k => if a = 1 then (if k = 0 then (L : Int) else 0) else 0, fun _ _ => none)
def zLawOk : Prop := ∀ (xs : Nat → Int) (L : Nat), L ≤ 3584 → (∀ i : Nat, zr (xs i)) → ∃ (n : Nat) (σ' : zS), zR (zRun 9) 153 n (0, zent 153 [.inr (.inr (some 1))], [], zS0 xs L) (some (.inl 1)) σ' ∧ σ'.1 ≤ 600002 ∧ σ'.2.1 ≤ 7302250
theorem zt_arr {args : Array Value} {s : State} {ty : FieldType} (h : (Cond.arrayClass ty).before args s = true) (hu : ∀ cA : ClassId, s.vm.findClass ("[" ++ ty.toString) = some cA → va_RA s cA ty) : ∃ cA : ClassId, ArrOfT s cA ty ∧ va_RA s cA ty := by
  obtain ⟨c, k, comp, h1, h2, h3⟩ := Cond.arrayClass_spec h
  exact ⟨c, fun n z => ⟨(fun q hq => by cases hq), k, h2, comp, h3⟩, hu c h1⟩
theorem zt_arrA {args : Array Value} {s : State} {ty : FieldType} (h : (Cond.arrayOver (.array ty)).before args s = true) : ∃ cA : ClassId, ArrOfT s cA (.array ty) ∧ va_RA s cA (.array ty) := by
  obtain ⟨comp, c, k, h1, h2, h3, h4, h5⟩ := arrayOverA_spec h
  exact ⟨c, fun n z => ⟨(fun q hq => by cases hq), k, h3, comp, h4⟩, h5⟩
theorem zt_arrO {args : Array Value} {s : State} {C : String} (h : (Cond.arrayOver (.object C)).before args s = true) : ∃ cA : ClassId, ArrOfT s cA (.object C) ∧ va_RA s cA (.object C) := by
  obtain ⟨comp, c, k, h1, h2, h3, h4, h5⟩ := Cond.arrayOver_spec h
  exact ⟨c, fun n z => ⟨(fun q hq => by cases hq), k, h3, comp, h4⟩, k, comp, h3, h4, h1, h5⟩
theorem zin_tbl {ws : List Cond} (ps : List Nat) (hp : ws = ps.filterMap (fun i => lw_tbl[i]?)) : ∀ w ∈ ws, w ∈ lw_tbl := by
  intro w hw
  rw [hp] at hw
  obtain ⟨i, -, hi⟩ := List.mem_filterMap.mp hw
  exact List.mem_of_getElem? hi
theorem zmisc : ∀ w ∈ [Cond.arrayOver (.array .int), Cond.arrayOver (.array .long), Cond.arrayOver (.object "LadderCalls$Book"), Cond.laysStatic "LadderCalls$Stands" "ORDERS" "[I", Cond.initialized "LadderCalls$Stands"], w ∈ lw_tbl := zin_tbl [61, 245, 238, 384, 38] (by decide +kernel)
theorem znestw : ∀ w ∈ zNest.map (fun q => Cond.methodLinkNest q.1 q.2.1 q.2.2.1 q.2.2.2), w ∈ lw_tbl := zin_tbl [144, 348, 361, 421, 428, 472, 473, 573, 575] (by decide +kernel)
theorem zinst : ∀ ci : Nat, ci < 9 → zhas 30 (.instantiable (zCl ci).1 (zCl ci).2.2) = true := by decide +kernel
theorem zarrw : zhas 30 (.arrayClass .int) = true ∧ zhas 30 (.arrayClass .long) = true ∧ zhas 30 (.arrayClass .boolean) = true := by decide +kernel
def zOrdC (j : Nat) : Cond := .eq (.elem (.static "LadderCalls$Stands" "ORDERS" "[I") (.int (Int32.ofNat j))) (.int (Int32.ofInt (zOrdL.getD j 0)))
theorem zord_el {args : Array Value} {s : State} (hs : ∀ w ∈ flatC (Jvm.Cond.and given_1 narrow_1), w.before args s = true) : ∀ j : Nat, j < 18 → (Term.elem (.static "LadderCalls$Stands" "ORDERS" "[I") (.int (Int32.ofNat j))).eval args s none [] s = some (.int (Int32.ofInt (zOrdL.getD j 0))) := by
  have h1 : ∀ j : Nat, j < 18 → zOrdC j ∈ flatC (Jvm.Cond.and given_1 narrow_1) := by decide +kernel
  intro j hj
  exact va_eqt (hs _ (h1 j hj))
set_option maxHeartbeats 4000000 in
set_option maxRecDepth 100000 in
theorem whole_open (hlaw : zLawOk) {p : Program} {e : Env} {s : State} {m : MethodId} {below : List Frame} {meth : Method} {c : Code} (l : Launch) {b L : Nat} {xs : Nat → Int32} (hL : L ≤ 3584)
    (hx : p.tables.exec = Jvm.exec) (hb : c.code = code) (hml : c.maxLocals = 4) (hown : s.vm.findClass "LadderCallsLaw" = some m.cls) (hts : ∀ w ∈ lw_tbl, w.before #[Value.ref b] s = true) (hX : va_X b L xs s s.heap) (hgv : (Jvm.Cond.and given_1 narrow_1).before #[Value.ref b] s = true) {Q : State → Prop}
    (hE : ∀ (pc : Nat) (H : Heap) (ls : Array Slot), decode code pc = .ok (.ireturn, 1) → W p l e room_1 s m #[Value.ref b] below meth c H [] 600000 7302250 Q (F0 m pc ls [.int 1])) : W p l e room_1 s m #[Value.ref b] below meth c s.heap [] 0 0 Q (entryFrame m ([Value.ref b] : List Value).toArray 4) := by
  have htz : ∀ w ∈ zT, w.before #[Value.ref b] s = true := fun w hw => hts w (zT_lw hw)
  have hk : ∀ ci : Nat, ∃ q : ClassId × (Nat → Nat), ci < 9 → u_Kn s (zCl ci).1 (zCl ci).2.1 (zCl ci).2.2 q.1 q.2 := by
    intro ci
    by_cases hc : ci < 9
    · obtain ⟨k1, -⟩ := zcls ci hc
      obtain ⟨cC, iS, h⟩ := u_known htz k1 (htz _ (zT_has (zinst ci hc)))
      exact ⟨(cC, iS), fun _ => h⟩
    · exact ⟨(0, fun _ => 0), fun h => absurd h hc⟩
  obtain ⟨fK, hfK⟩ := Classical.axiomOfChoice hk
  have ha : ∀ t : Nat, ∃ cA : ClassId, t < 6 → ArrOfT s cA (zTy t) ∧ va_RA s cA (zTy t) := by
    intro t
    match t with
    | 0 => obtain ⟨cA, h⟩ := zt_arr (htz _ (zT_has zarrw.1)) (fun cA h => h); exact ⟨cA, fun _ => h⟩
    | 1 => obtain ⟨cA, h⟩ := zt_arr (htz _ (zT_has zarrw.2.1)) (fun cA h => h); exact ⟨cA, fun _ => h⟩
    | 2 => obtain ⟨cA, h⟩ := zt_arr (htz _ (zT_has zarrw.2.2)) (fun cA h => h); exact ⟨cA, fun _ => h⟩
    | 3 => obtain ⟨cA, h⟩ := zt_arrA (hts _ (zmisc _ (List.mem_of_getElem? (i := 0) rfl))); exact ⟨cA, fun _ => h⟩
    | 4 => obtain ⟨cA, h⟩ := zt_arrA (hts _ (zmisc _ (List.mem_of_getElem? (i := 1) rfl))); exact ⟨cA, fun _ => h⟩
    | 5 => obtain ⟨cA, h⟩ := zt_arrO (hts _ (zmisc _ (List.mem_of_getElem? (i := 2) rfl))); exact ⟨cA, fun _ => h⟩
    | n + 6 => exact ⟨0, fun h => absurd h (by omega)⟩
  obtain ⟨fA, hfA⟩ := Classical.axiomOfChoice ha
  have hflat := flat_of_before _ hgv
  have hA : ∀ a : Nat, a < s.heap.size → ¬ s.heap.size ≤ a := fun a h => Nat.not_le.mpr h
  obtain ⟨t, ht, hT⟩ := va_Tof (tm := .static "LadderCalls$Stands" "ORDERS" "[I") (ty := .int) (N := 18) (f := fun j => .int (Int32.ofInt (zOrdL.getD j 0))) (A := fun q => s.heap.size ≤ q) (by decide) (hflat _ (by decide +kernel)) (va_eqt (z := Int32.ofNat 18) (hflat _ (by decide +kernel))) (zord_el hflat) hA
  have hZ : va_Z "LadderCalls$Stands" "ORDERS" "[I" (.ref t) (fun q => s.heap.size ≤ q) s s.heap := va_Zof (hts _ (zmisc _ (List.mem_of_getElem? (i := 3) rfl))) (hts _ (zmisc _ (List.mem_of_getElem? (i := 4) rfl))) ht hA
  obtain ⟨scr, b1, b2, b3, b4, b5⟩ := hX
  have hbl : b < s.heap.size := (Array.getElem?_eq_some_iff.mp b1).1
  have hzx : ∀ i : Nat, zr ((xs i).toInt) := fun i => by
    have h1 := Int32.le_toInt (xs i)
    have h2 := Int32.toInt_lt (xs i)
    exact ⟨by omega, by omega⟩
  obtain ⟨n, σ', hrun, hN, hZl⟩ := hlaw (fun i => (xs i).toInt) L hL hzx
  let g : zG := ((s.heap.size, t, b, zExt (fun i => (xs i).toInt), L), (fun ci => (fK ci).1, fun ci => (fK ci).2), fA)
  have hU : zU g s := by
    refine ⟨⟨fun ci q hq => ?_, fun k q hq => ?_⟩, fun q hq => ?_, ?_, ?_, ?_⟩
    · have hci : ci < 9 := (List.getElem?_eq_some_iff.mp hq).1
      obtain ⟨-, -, -, k4, -, -⟩ := zcls ci hci
      obtain rfl : q = ((zCl ci).1, (zCl ci).2.1, (zCl ci).2.2) := Option.some.inj (hq.symm.trans k4)
      exact hfK ci hci
    · have hlt : k < 6 := by
        have := (List.getElem?_eq_some_iff.mp hq).1
        simpa using this
      obtain rfl : q = (fA k, zTy k) := by
        rw [zty_at (f := fA) (by omega)] at hq
        exact (Option.some.inj hq).symm
      exact hfA k hlt
    · exact va_Nw.of rfl (hts _ (znestw _ (List.mem_map.mpr ⟨q, hq, rfl⟩)))
    · exact hts _ (zmisc _ (List.mem_of_getElem? (i := 0) rfl))
    · exact hts _ (zmisc _ (List.mem_of_getElem? (i := 1) rfl))
    · exact hts _ (zmisc _ (List.mem_of_getElem? (i := 2) rfl))
  have hO : zOrd g s s.heap := by
    refine ⟨hZ, hT, scr, b1, b2, b3, Nat.le_of_eq b4.symm, by rw [b4], fun j hj => ?_, hA b hbl⟩
    rw [b5 j hj]
    show _ = some (Value.int (Int32.ofInt (xs j).toInt))
    rw [Int32.ofInt_toInt]
  have hF : zFix p s m #[Value.ref b] meth c g 153 := ⟨hx, hb, hml, hown, htz, fun h => absurd h (by decide), hU, hO⟩
  have hW : zWd g (zS0 (fun i => (xs i).toInt) L) s.heap := by
    refine ⟨rfl, Nat.le_refl 2, fun a h1 h2 => ?_, ⟨?_, ?_⟩, rfl, fun _ _ _ => rfl⟩
    · have h3 : a < 2 := h2
      omega
    · show (0 : Int) ≤ (L : Int)
      omega
    · show (L : Int) ≤ 3584
      omega
  rw [lg_entry_eq]
  refine z_sound (R := room_1) (d := 9) (K := zRun 9) (g := g) (M := 153) (c0 := 2) (d0 := 0) hF (fun M as σ r σ' h => zRun_mono 9 M as σ r σ' h) (fun M' as σ r σ' h hlt => z_met l g 9 M' as σ r σ' h hlt) (Nat.le_of_ble_eq_true rfl) (Nat.le_of_ble_eq_true rfl) hN (by show σ'.2.1 ≤ 7302250 + 0; omega) ?_ n 0 _ [] _ hrun s.heap [] 0 0 _ (zent_L (g := g) (M := 153) (as := [.inr (.inr (some 1))]) (Nat.le_of_ble_eq_true rfl)) hW va_S.rf rfl rfl
  intro pc' i H' locs' cells' slots' ls' hT' hret hok hW' hS' hc' hs'
  obtain ⟨hd', -, hln, -⟩ := zcode hT'
  obtain ⟨ins, ln, e1, e2⟩ := i
  dsimp only at hd' hret
  rcases hret with ⟨x, h0, rfl⟩ | ⟨x, h0, rfl⟩ | ⟨h0, rfl⟩
  · cases h0
    obtain rfl : ln = 1 := Nat.eq_of_beq_eq_true hln
    refine va_forget (fun q hq => hS'.2.2 q hq) ?_
    exact W.widen (k := 600000) (n := 7302250) (by omega) (by omega) (hE pc' H' ls' hd')
  · cases h0
  · cases h0
