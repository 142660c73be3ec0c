/-! The small machine against the real one: values, cells, locals. -/
abbrev zG : Type := (Nat × Nat × Nat × (Nat → Nat → Int) × Nat) × va_G × (Nat → ClassId)
def zad (g : zG) (a : Nat) : Nat := match a with
  | 0 => g.1.2.1
  | 1 => g.1.2.2.1
  | a + 2 => g.1.1 + a
def ztr (g : zG) (v : zV) : Value := match v with
  | .inl x => .int (Int32.ofInt x)
  | .inr (.inl x) => .long (Int64.ofInt x)
  | .inr (.inr o) => va_rf (o.map (zad g))
theorem ztr_i (g : zG) (x : Int) : ztr g (.inl x) = .int (Int32.ofInt x) := rfl
theorem ztr_l (g : zG) (x : Int) : ztr g (.inr (.inl x)) = .long (Int64.ofInt x) := rfl
theorem ztr_q (g : zG) (a : Nat) : ztr g (.inr (.inr (some a))) = .ref (zad g a) := rfl
theorem ztr_cat (g : zG) (v : zV) : (ztr g v).category = zcat v := by
  rcases v with x | x | _ | a <;> rfl
theorem ztr_cats (g : zG) (T : List zV) : ((T.map (ztr g)).map fun v => v.category).sum = (T.map zcat).sum := by
  rw [List.map_map]
  congr 1
  exact List.map_congr_left (fun v _ => ztr_cat g v)
def zLn (σ : zS) (a n : Nat) : Nat := if a = 1 then (σ.2.2.2.1 1 0).toNat else n
def zArr (g : zG) (σ : zS) (a t : Nat) : (Nat → Int32) ⊕ (Nat → Int64) ⊕ (Nat → UInt32) ⊕ (Nat → UInt64) ⊕ (Nat → Option Nat) := match t with
  | 0 => .inl (fun j => Int32.ofInt (σ.2.2.1 a j))
  | 1 => .inr (.inl (fun j => Int64.ofInt (σ.2.2.2.1 a j)))
  | 2 => .inl (fun j => Int32.ofInt (σ.2.2.1 a j))
  | _ => .inr (.inr (.inr (.inr (fun j => (σ.2.2.2.2 a j).map (zad g)))))
def zFs (g : zG) (σ : zS) (ci a : Nat) : List Value := (List.range (zKs.getD ci []).length).map (fun k => ztr g (zFv σ a (zKind ci k) k))
def zE (g : zG) (σ : zS) (a : Nat) : va_E := match zSh a with
  | .inl ci => .inr (ci, zFs g σ ci a)
  | .inr (t, n) => .inl (g.2.2 t, zLn σ a n, zArr g σ a t)
/-- the heap holds the cells -/
def zWd (g : zG) (σ : zS) (H : Heap) : Prop := H.size + 2 = g.1.1 + σ.1 ∧ 2 ≤ σ.1 ∧ (∀ a : Nat, 2 ≤ a → a < σ.1 → va_at g.2.1 vwCl (zad g a, zE g σ a) H) ∧ (0 ≤ σ.2.2.2.1 1 0 ∧ σ.2.2.2.1 1 0 ≤ 3584) ∧ σ.2.2.2.1 1 0 = (g.1.2.2.2.2 : Int) ∧ (∀ b k : Nat, b < 2 → σ.2.2.1 b k = g.1.2.2.2.1 b k)
/-- what the tables say, told at a state -/
def zOA (t : FieldType) (U : State) : Prop := (Cond.arrayOver t).before #[] U = true
def zU (g : zG) (U : State) : Prop := va_K g.2.1 vwCl ((List.range 6).map (fun t => (g.2.2 t, zTy t))) U ∧ (∀ q ∈ zNest, va_Nw (.methodLinkNest q.1 q.2.1 q.2.2.1 q.2.2.2) U) ∧ zOA (.array .int) U ∧ zOA (.array .long) U ∧ zOA (.object "LadderCalls$Book") U
def zOrd (g : zG) (U : State) (H : Heap) : Prop := va_Z "LadderCalls$Stands" "ORDERS" "[I" (.ref g.1.2.1) (fun q => g.1.1 ≤ q) U H ∧ va_T .int g.1.2.1 18 (fun j => .int (Int32.ofInt (g.1.2.2.2.1 0 j))) (fun q => g.1.1 ≤ q) U H ∧ va_T .int g.1.2.2.1 g.1.2.2.2.2 (fun j => .int (Int32.ofInt (g.1.2.2.2.1 1 j))) (fun q => g.1.1 ≤ q) U H
theorem zOA_movedA {t : FieldType} {u U : State} (hvm : u.vm.Alike U.vm) (h : zOA (.array t) u) : zOA (.array t) U := by
  have h0 := h
  unfold zOA Cond.before Cond.holds at h0
  simp only [Cond.value, beq_iff_eq] at h0
  unfold zOA Cond.before Cond.holds
  simp only [Cond.value, beq_iff_eq]
  cases hc : u.vm.findClass (FieldType.array t).toString with
  | none => rw [hc] at h0; simp at h0
  | some comp =>
    rw [hc, Option.bind_some] at h0
    rw [hvm.findClass, hc, Option.bind_some]
    obtain ⟨c, hi, k, hk, hb⟩ : ∃ c, (u.vm.classes.findIdx? fun (x : Class) => match x.kind with | .array component _ => component == comp | _ => false) = some c ∧ ∃ k, u.vm.classes[c]? = some k ∧ (match k.kind with | .array _ ty => decide (ty = FieldType.array t) && decide (u.vm.findClass ("[" ++ (FieldType.array t).toString) = some c) | _ => false) = true := by
      simp only [Option.bind_eq_some_iff, Option.map_eq_some_iff] at h0
      exact h0
    obtain ⟨k', hk', he⟩ := hvm.2.2 _ _ hk
    have hi2 : (U.vm.classes.findIdx? fun (x : Class) => match x.kind with | .array component _ => component == comp | _ => false) = some c := by
      have e1 := va_idx_bare U.vm comp
      have e2 := va_idx_bare u.vm comp
      have e3 : U.vm.bare = u.vm.bare := by first | exact hvm.bare_eq | exact hvm.bare_eq.symm
      rw [e3] at e1
      exact e1.symm.trans (e2.trans hi)
    refine (congrArg (fun o : Option Nat => (o.bind (fun c => (U.vm.classes[c]?).map fun (k : Class) => match k.kind with | .array _ ty => decide (ty = FieldType.array t) && decide (U.vm.findClass ("[" ++ (FieldType.array t).toString) = some c) | _ => false))) hi2).trans ?_
    have hkk : k'.kind = k.kind := by rw [he]
    rw [Option.bind_some, hk', Option.map_some, hkk, hvm.findClass]
    rw [hb]
theorem zU_warm {g : zG} {u U : State} (hW : u.WarmedH U.vm) (h : zU g u) : zU g U := by
  obtain ⟨h1, h2, h3, h4, h5⟩ := h
  exact ⟨h1.moved hW.alike, fun q hq => (h2 q hq).warmM hW, zOA_movedA hW.alike h3, zOA_movedA hW.alike h4, va_AO.moved hW.alike h5⟩
theorem zad_lt {g : zG} {a : Nat} (ha : 2 ≤ a) : zad g a = g.1.1 + (a - 2) := by
  match a, ha with
  | a + 2, _ => rfl
theorem zad_ge {g : zG} {a : Nat} (ha : 2 ≤ a) : g.1.1 ≤ zad g a := by
  rw [zad_lt ha]
  omega
theorem zad_ne {g : zG} {a b : Nat} (ha : 2 ≤ a) (hb : 2 ≤ b) (h : b ≠ a) : zad g b ≠ zad g a := by
  rw [zad_lt ha, zad_lt hb]
  omega
/-- a change of one cell -/
theorem zWd_set {g : zG} {σ σ' : zS} {H H1 : Heap} {a : Nat} (h : zWd g σ H) (ha : 2 ≤ a) (hN : σ'.1 = σ.1) (hl : σ'.2.2.2.1 1 0 = σ.2.2.2.1 1 0) (hs : H1.size = H.size) (ho : ∀ q : Nat, q ≠ zad g a → H1[q]? = H[q]?)
    (hc : va_at g.2.1 vwCl (zad g a, zE g σ' a) H1) (he : ∀ b : Nat, b ≠ a → zE g σ' b = zE g σ b) (hx : ∀ b k : Nat, b < 2 → σ'.2.2.1 b k = σ.2.2.1 b k) : zWd g σ' H1 := by
  obtain ⟨h1, h2, h3, h4, h5, h6⟩ := h
  refine ⟨by rw [hs, hN]; exact h1, by rw [hN]; exact h2, fun b hb2 hb => ?_, by rw [hl]; exact h4, by rw [hl]; exact h5, fun b k hb => (hx b k hb).trans (h6 b k hb)⟩
  by_cases hab : b = a
  · rw [hab]
    exact hc
  · rw [he b hab]
    exact (h3 b hb2 (by rw [← hN]; exact hb)).kept (ho _ (zad_ne ha hb2 hab))
/-- locals -/
def zL (g : zG) (ls : Array Slot) (nL : Nat) (L : List (Option zV)) : Prop := ls.size = nL ∧ L.length = nL ∧ lv_wf ls ∧ ∀ (i : Nat) (v : zV), L[i]? = some (some v) → ls[i]? = some (.val (ztr g v))
def zlv (g : zG) (L : List (Option zV)) : List (Nat × Value) := (List.range L.length).filterMap fun i => match L[i]? with
  | some (some v) => some (i, ztr g v)
  | _ => none
theorem zlv_mem {g : zG} {L : List (Option zV)} {i : Nat} {x : Value} : (i, x) ∈ zlv g L ↔ ∃ v : zV, L[i]? = some (some v) ∧ x = ztr g v := by
  unfold zlv
  rw [List.mem_filterMap]
  constructor
  · rintro ⟨j, -, hj⟩
    split at hj
    · cases hj
      exact ⟨_, by assumption, rfl⟩
    · cases hj
  · rintro ⟨v, hv, rfl⟩
    refine ⟨i, ?_, ?_⟩
    · rw [List.mem_range]
      exact (List.getElem?_eq_some_iff.mp hv).1
    · rw [hv]
theorem zL_has {g : zG} {ls : Array Slot} {nL : Nat} {L : List (Option zV)} (h : zL g ls nL L) : lv_has ls nL (zlv g L) := by
  obtain ⟨h1, h2, h3, h4⟩ := h
  refine ⟨h1, h3, ?_⟩
  rintro ⟨i, x⟩ hq
  obtain ⟨v, hv, rfl⟩ := zlv_mem.mp hq
  exact h4 i v hv
theorem zL_of {g : zG} {ls : Array Slot} {nL : Nat} {L : List (Option zV)} {lv : List (Nat × Value)} (h : lv_has ls nL lv) (hn : L.length = nL) (hm : ∀ (i : Nat) (v : zV), L[i]? = some (some v) → (i, ztr g v) ∈ lv) : zL g ls nL L :=
  ⟨h.1, hn, h.2.1, fun i v hv => h.2.2 (i, ztr g v) (hm i v hv)⟩
theorem zcl2_len (L : List (Option zV)) (i : Nat) : (zcl2 L i).length = L.length := by
  unfold zcl2
  split
  · rfl
  · split
    · rw [List.length_set]
    · rfl
theorem zcl2_at {L : List (Option zV)} {i j : Nat} {v : zV} (h : (zcl2 L i)[j]? = some (some v)) : L[j]? = some (some v) ∧ ¬ (j + 1 = i ∧ zcat v = 2) := by
  unfold zcl2 at h
  split at h
  · exact ⟨h, fun q => by omega⟩
  · rename_i i k
    split at h
    · rename_i x hx
      by_cases hj : j = k
      · subst hj
        rw [List.getElem?_set] at h
        simp at h
      · rw [List.getElem?_set_ne (fun q => hj q.symm)] at h
        exact ⟨h, fun q => hj (by omega)⟩
    · rename_i hno
      refine ⟨h, fun q => ?_⟩
      have hk : j = k := by omega
      subst hk
      rcases v with x | x | x
      · exact absurd (show (1 : Nat) = 2 from q.2) (by decide)
      · exact hno x h
      · exact absurd (show (1 : Nat) = 2 from q.2) (by decide)
theorem zL_st {g : zG} {ls ls' : Array Slot} {nL i : Nat} {L : List (Option zV)} {v : zV} (h : zL g ls nL L) (h' : lv_has ls' nL ((i, ztr g v) :: (zlv g L).filter (fun q => !(q.1 == i) && !(q.1 + 1 == i && q.2.category == 2)))) : zL g ls' nL (zst L i v) := by
  refine zL_of h' (by rw [zst, List.length_set, zcl2_len]; exact h.2.1) (fun j w hw => ?_)
  unfold zst at hw
  by_cases hj : j = i
  · subst hj
    rw [List.getElem?_set] at hw
    simp only [if_true] at hw
    split at hw
    · cases hw
      exact List.mem_cons_self
    · cases hw
  · rw [List.getElem?_set_ne (fun q => hj q.symm)] at hw
    obtain ⟨h1, h2⟩ := zcl2_at hw
    refine List.mem_cons_of_mem _ (List.mem_filter.mpr ⟨zlv_mem.mpr ⟨w, h1, rfl⟩, ?_⟩)
    simp only [ztr_cat, Bool.and_eq_true, Bool.not_eq_true', beq_eq_false_iff_ne, ne_eq, Bool.and_eq_false_iff]
    refine ⟨hj, ?_⟩
    by_cases q : j + 1 = i
    · exact Or.inr (fun z => h2 ⟨q, z⟩)
    · exact Or.inl q
theorem zL_st2 {g : zG} {ls ls' : Array Slot} {nL i : Nat} {L : List (Option zV)} {v : zV} (h : zL g ls nL L) (h' : lv_has ls' nL ((i, ztr g v) :: (zlv g L).filter (fun q => !(q.1 == i) && (!(q.1 == i + 1) && !(q.1 + 1 == i && q.2.category == 2))))) : zL g ls' nL (zst2 L i v) := by
  refine zL_of h' (by rw [zst2, List.length_set, List.length_set, zcl2_len]; exact h.2.1) (fun j w hw => ?_)
  unfold zst2 at hw
  by_cases hj : j = i
  · subst hj
    rw [List.getElem?_set] at hw
    simp only [if_true] at hw
    split at hw
    · cases hw
      exact List.mem_cons_self
    · cases hw
  · rw [List.getElem?_set_ne (fun q => hj q.symm)] at hw
    by_cases hj1 : j = i + 1
    · subst hj1
      rw [List.getElem?_set] at hw
      simp at hw
    · rw [List.getElem?_set_ne (fun q => hj1 q.symm)] at hw
      obtain ⟨h1, h2⟩ := zcl2_at hw
      refine List.mem_cons_of_mem _ (List.mem_filter.mpr ⟨zlv_mem.mpr ⟨w, h1, rfl⟩, ?_⟩)
      simp only [ztr_cat, Bool.and_eq_true, Bool.not_eq_true', beq_eq_false_iff_ne, ne_eq, Bool.and_eq_false_iff]
      refine ⟨hj, hj1, ?_⟩
      by_cases q : j + 1 = i
      · exact Or.inr (fun z => h2 ⟨q, z⟩)
      · exact Or.inl q
