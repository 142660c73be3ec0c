/-! The instruction tables are the methods' code, and what the instructions link is in the tables' words. -/
def zCl (ci : Nat) : vw_C := vwCl.getD ci ("", (fun _ => ("", "", "", false)), 0)
def zTy (t : Nat) : FieldType := match t with
  | 0 => .int
  | 1 => .long
  | 2 => .boolean
  | 3 => .array .int
  | 4 => .array .long
  | _ => .object "LadderCalls$Book"
def zNest : List (String × Nat × MethodName × String) := [("LadderCalls$Day", 85, ⟨"LadderCalls", "digit", "(II)I"⟩, "LadderCalls"), ("LadderCalls$Town", 27, ⟨"LadderCalls", "digit", "(II)I"⟩, "LadderCalls"), ("LadderCalls$Stands", 39, ⟨"LadderCalls", "digit", "(II)I"⟩, "LadderCalls"), ("LadderCalls$Works", 53, ⟨"LadderCalls", "withDigit", "(III)I"⟩, "LadderCalls"), ("LadderCalls$Works", 60, ⟨"LadderCalls", "digit", "(II)I"⟩, "LadderCalls"), ("LadderCalls$Day", 102, ⟨"LadderCalls", "withDigit", "(III)I"⟩, "LadderCalls"), ("LadderCalls$Rules", 62, ⟨"LadderCalls", "withDigit", "(III)I"⟩, "LadderCalls"), ("LadderCalls$Planner", 57, ⟨"LadderCalls", "digit", "(II)I"⟩, "LadderCalls"), ("LadderCalls$Planner", 65, ⟨"LadderCalls", "withDigit", "(III)I"⟩, "LadderCalls")]
def zFl (ci k : Nat) : String × String × String × Bool := (zCl ci).2.1 k
def zhas (k : Nat) (w : Cond) : Bool := decide (w ∈ zW k)
def zchkI (M : Nat) (i : zI) : Bool := match i.1 with
  | .getfield x => Nat.blt i.2.2.1 9 && Nat.blt i.2.2.2 (zCl i.2.2.1).2.2 && zhas (zMc M) (.fieldLink (zMy M).cls x (zFl i.2.2.1 i.2.2.2).1 (zFl i.2.2.1 i.2.2.2).2.1 (zFl i.2.2.1 i.2.2.2).2.2.1)
  | .putfield x => Nat.blt i.2.2.1 9 && Nat.blt i.2.2.2 (zCl i.2.2.1).2.2 && zhas (zMc M) (.fieldLink (zMy M).cls x (zFl i.2.2.1 i.2.2.2).1 (zFl i.2.2.1 i.2.2.2).2.1 (zFl i.2.2.1 i.2.2.2).2.2.1) && (!(zFl i.2.2.1 i.2.2.2).2.2.2 || ((zMy M).name == "<init>" && (zFl i.2.2.1 i.2.2.2).1 == (zMy M).cls))
  | .getstatic x => zhas (zMc M) (.fieldLink (zMy M).cls x "LadderCalls$Stands" "ORDERS" "[I")
  | .ldc x => Nat.blt i.2.2.1 2147483648 && zhas (zMc M) (.constant (zMy M).cls x (Int32.ofNat i.2.2.1))
  | .ldc2_w x => Nat.blt i.2.2.1 9223372036854775808 && zhas (zMc M) (.constantLong (zMy M).cls x (Int64.ofNat i.2.2.1))
  | .new x => Nat.blt i.2.2.1 9 && zhas (zMc M) (.classLink (zMy M).cls x (zCl i.2.2.1).1) && zhas 30 (.instantiable (zCl i.2.2.1).1 (zCl i.2.2.1).2.2) && zhas 30 (.initialized (zCl i.2.2.1).1)
  | .newarray a => Nat.blt i.2.2.1 3 && decide (newarray.typeOf a = zTy i.2.2.1) && zhas 30 (.arrayClass (newarray.typeOf a))
  | .anewarray x => zhas (zMc M) (.classLink (zMy M).cls x "LadderCalls$Book")
  | .multianewarray x n => Nat.beq n 2 && zhas (zMc M) (.classLink (zMy M).cls x (if i.2.2.1 = 3 then "[[I" else "[[J")) && zhas 30 (.arrayClass (zTy (i.2.2.1 - 3)))
  | .invokevirtual x => Nat.blt i.2.2.1 153 && zhas (zMc M) (.methodLink (zMy M).cls x (zMy i.2.2.1)) && zhas (10 + zMc i.2.2.1) (.instanceMethod (zMy i.2.2.1)) && zhas (10 + zMc i.2.2.1) (.selects (zMy i.2.2.1).cls (zMy i.2.2.1) (zMy i.2.2.1))
  | .invokespecial x => match i.2.2.2 with
    | 0 => Nat.blt i.2.2.1 153 && zhas (zMc M) (.methodLink (zMy M).cls x (zMy i.2.2.1)) && zhas (10 + zMc i.2.2.1) (.instanceMethod (zMy i.2.2.1)) && ((zMy i.2.2.1).name == "<init>") && decide (zMr i.2.2.1 = none)
    | 1 => zhas (zMc M) (.methodLink (zMy M).cls x objectInit)
    | _ => true
  | .invokestatic x => match i.2.2.2 with
    | 0 => Nat.blt i.2.2.1 153 && zhas (zMc M) (.methodLink (zMy M).cls x (zMy i.2.2.1)) && zhas (10 + zMc i.2.2.1) (.static (zMy i.2.2.1)) && ((zMy i.2.2.1).cls == (zMy M).cls)
    | 4 => Nat.blt i.2.2.1 153 && zhas (10 + zMc i.2.2.1) (.static (zMy i.2.2.1)) && decide (((zMy M).cls, x, zMy i.2.2.1, "LadderCalls") ∈ zNest)
    | 2 => zhas (zMc M) (.methodLink (zMy M).cls x Lib.Math.min.name)
    | 3 => zhas (zMc M) (.methodLink (zMy M).cls x Lib.Math.max.name)
    | _ => true
  | _ => true
def zlen (i : zI) : Bool := match i.1 with
  | .tableswitch _ _ _ _ => true
  | .bipush _ => Nat.beq i.2.1 2
  | .iload _ => Nat.beq i.2.1 2
  | .lload _ => Nat.beq i.2.1 2
  | .aload _ => Nat.beq i.2.1 2
  | .istore _ => Nat.beq i.2.1 2
  | .lstore _ => Nat.beq i.2.1 2
  | .astore _ => Nat.beq i.2.1 2
  | .ldc _ => Nat.beq i.2.1 2
  | .newarray _ => Nat.beq i.2.1 2
  | .sipush _ => Nat.beq i.2.1 3
  | .iinc _ _ => Nat.beq i.2.1 3
  | .goto _ => Nat.beq i.2.1 3
  | .ifCond _ _ => Nat.beq i.2.1 3
  | .if_icmp _ _ => Nat.beq i.2.1 3
  | .getfield _ => Nat.beq i.2.1 3
  | .putfield _ => Nat.beq i.2.1 3
  | .getstatic _ => Nat.beq i.2.1 3
  | .invokevirtual _ => Nat.beq i.2.1 3
  | .invokespecial _ => Nat.beq i.2.1 3
  | .invokestatic _ => Nat.beq i.2.1 3
  | .new _ => Nat.beq i.2.1 3
  | .anewarray _ => Nat.beq i.2.1 3
  | .ldc2_w _ => Nat.beq i.2.1 3
  | .multianewarray _ _ => Nat.beq i.2.1 4
  | _ => Nat.beq i.2.1 1
def zaux (M pc : Nat) (i : zI) : Bool := match i.1 with
  | .istore_n k => Nat.blt k (zMx M)
  | .astore_n k => Nat.blt k (zMx M)
  | .istore k => Nat.blt k (zMx M)
  | .astore k => Nat.blt k (zMx M)
  | .iinc k _ => Nat.blt k (zMx M)
  | .lstore_n k => Nat.blt (k + 1) (zMx M)
  | .lstore k => Nat.blt (k + 1) (zMx M)
  | .goto o => decide (0 ≤ (pc : Int) + o)
  | .ifCond _ o => decide (0 ≤ (pc : Int) + o)
  | .if_icmp _ o => decide (0 ≤ (pc : Int) + o)
  | .tableswitch d lo hi offs => decide (0 ≤ (pc : Int) + d) && offs.toList.all (fun o => decide (0 ≤ (pc : Int) + o)) && decide (offs.size = (hi - lo + 1).toNat) && decide (lo ≤ hi)
  | _ => true
def zchk (M pc : Nat) : Bool := match zTab M pc with
  | none => true
  | some i => decide (decode (zMb M) pc = .ok (i.1, i.2.1)) && (zchkI M i && (zlen i && zaux M pc i))
theorem zblt {a b : Nat} (h : ¬ a < b) : Nat.blt a b = false := by
  rw [Bool.eq_false_iff]
  exact fun q => h (Nat.le_of_ble_eq_true q)
theorem zchk_of {M B : Nat} {f : Nat → Option zI} (h : ∀ pc : Nat, zTab M pc = bif Nat.blt pc B then f pc else none) (d : ∀ pc : Nat, pc < B → zchk M pc = true) : ∀ pc : Nat, zchk M pc = true := by
  intro pc
  by_cases hp : pc < B
  · exact d pc hp
  · unfold zchk
    rw [h, zblt hp]
    rfl
theorem zchk_b0 {M : Nat} : ∀ pc : Nat, pc < 0 → zchk M pc = true := fun pc h => absurd h (Nat.not_lt_zero pc)
theorem zchk_b1 {M b n : Nat} (h : ∀ pc : Nat, pc < b → zchk M pc = true) (d : ∀ k : Nat, k < n → zchk M (b + k) = true) : ∀ pc : Nat, pc < b + n → zchk M pc = true := by
  intro pc hp
  by_cases hb : pc < b
  · exact h pc hb
  · have h1 := d (pc - b) (by omega)
    rw [show b + (pc - b) = pc by omega] at h1
    exact h1
set_option maxRecDepth 100000 in
theorem zok_0 : ∀ pc : Nat, zchk 0 pc = true := zchk_of (B := 33) (f := zc_0) (fun _ => rfl) (by decide +kernel)
set_option maxRecDepth 100000 in
theorem zok_1 : ∀ pc : Nat, zchk 1 pc = true := zchk_of (B := 13) (f := zc_1) (fun _ => rfl) (by decide +kernel)
set_option maxRecDepth 100000 in
theorem zok_2 : ∀ pc : Nat, zchk 2 pc = true := zchk_of (B := 23) (f := zc_2) (fun _ => rfl) (by decide +kernel)
set_option maxRecDepth 100000 in
theorem zok_3 : ∀ pc : Nat, zchk 3 pc = true := zchk_of (B := 25) (f := zc_3) (fun _ => rfl) (by decide +kernel)
set_option maxRecDepth 100000 in
theorem zok_4 : ∀ pc : Nat, zchk 4 pc = true := zchk_of (B := 19) (f := zc_4) (fun _ => rfl) (by decide +kernel)
set_option maxRecDepth 100000 in
theorem zok_5 : ∀ pc : Nat, zchk 5 pc = true := zchk_of (B := 36) (f := zc_5) (fun _ => rfl) (by decide +kernel)
set_option maxRecDepth 100000 in
theorem zok_6 : ∀ pc : Nat, zchk 6 pc = true := zchk_of (B := 35) (f := zc_6) (fun _ => rfl) (by decide +kernel)
set_option maxRecDepth 100000 in
theorem zok_7 : ∀ pc : Nat, zchk 7 pc = true := zchk_of (B := 40) (f := zc_7) (fun _ => rfl) (by decide +kernel)
set_option maxRecDepth 100000 in
theorem zok_8 : ∀ pc : Nat, zchk 8 pc = true := zchk_of (B := 31) (f := zc_8) (fun _ => rfl) (by decide +kernel)
set_option maxRecDepth 100000 in
theorem zok_9 : ∀ pc : Nat, zchk 9 pc = true := zchk_of (B := 30) (f := zc_9) (fun _ => rfl) (by decide +kernel)
set_option maxRecDepth 100000 in
theorem zok_10 : ∀ pc : Nat, zchk 10 pc = true := zchk_of (B := 48) (f := zc_10) (fun _ => rfl) (by decide +kernel)
set_option maxRecDepth 100000 in
theorem zok_11 : ∀ pc : Nat, zchk 11 pc = true := zchk_of (B := 98) (f := zc_11) (fun _ => rfl) (by decide +kernel)
set_option maxRecDepth 100000 in
theorem zok_12 : ∀ pc : Nat, zchk 12 pc = true := zchk_of (B := 13) (f := zc_12) (fun _ => rfl) (by decide +kernel)
set_option maxRecDepth 100000 in
theorem zok_13 : ∀ pc : Nat, zchk 13 pc = true := zchk_of (B := 29) (f := zc_13) (fun _ => rfl) (by decide +kernel)
set_option maxRecDepth 100000 in
theorem zok_14 : ∀ pc : Nat, zchk 14 pc = true := zchk_of (B := 50) (f := zc_14) (fun _ => rfl) (by decide +kernel)
set_option maxRecDepth 100000 in
theorem zok_15 : ∀ pc : Nat, zchk 15 pc = true := zchk_of (B := 15) (f := zc_15) (fun _ => rfl) (by decide +kernel)
set_option maxRecDepth 100000 in
theorem zok_16 : ∀ pc : Nat, zchk 16 pc = true := zchk_of (B := 51) (f := zc_16) (fun _ => rfl) (by decide +kernel)
set_option maxRecDepth 100000 in
theorem zok_17 : ∀ pc : Nat, zchk 17 pc = true := zchk_of (B := 151) (f := zc_17) (fun _ => rfl) (by decide +kernel)
set_option maxRecDepth 100000 in
theorem zok_18 : ∀ pc : Nat, zchk 18 pc = true := zchk_of (B := 97) (f := zc_18) (fun _ => rfl) (by decide +kernel)
set_option maxRecDepth 100000 in
theorem zok_19 : ∀ pc : Nat, zchk 19 pc = true := zchk_of (B := 37) (f := zc_19) (fun _ => rfl) (by decide +kernel)
set_option maxRecDepth 100000 in
theorem zok_20 : ∀ pc : Nat, zchk 20 pc = true := zchk_of (B := 21) (f := zc_20) (fun _ => rfl) (by decide +kernel)
set_option maxRecDepth 100000 in
theorem zok_21 : ∀ pc : Nat, zchk 21 pc = true := zchk_of (B := 20) (f := zc_21) (fun _ => rfl) (by decide +kernel)
set_option maxRecDepth 100000 in
theorem zok_22 : ∀ pc : Nat, zchk 22 pc = true := zchk_of (B := 26) (f := zc_22) (fun _ => rfl) (by decide +kernel)
set_option maxRecDepth 100000 in
theorem zok_23 : ∀ pc : Nat, zchk 23 pc = true := zchk_of (B := 32) (f := zc_23) (fun _ => rfl) (by decide +kernel)
set_option maxRecDepth 100000 in
theorem zok_24 : ∀ pc : Nat, zchk 24 pc = true := zchk_of (B := 86) (f := zc_24) (fun _ => rfl) (by decide +kernel)
set_option maxRecDepth 100000 in
theorem zok_25 : ∀ pc : Nat, zchk 25 pc = true := zchk_of (B := 35) (f := zc_25) (fun _ => rfl) (by decide +kernel)
set_option maxRecDepth 100000 in
theorem zok_26 : ∀ pc : Nat, zchk 26 pc = true := zchk_of (B := 29) (f := zc_26) (fun _ => rfl) (by decide +kernel)
set_option maxRecDepth 100000 in
theorem zok_27 : ∀ pc : Nat, zchk 27 pc = true := zchk_of (B := 27) (f := zc_27) (fun _ => rfl) (by decide +kernel)
set_option maxRecDepth 100000 in
theorem zok_28 : ∀ pc : Nat, zchk 28 pc = true := zchk_of (B := 79) (f := zc_28) (fun _ => rfl) (by decide +kernel)
set_option maxRecDepth 100000 in
theorem zok_29 : ∀ pc : Nat, zchk 29 pc = true := zchk_of (B := 44) (f := zc_29) (fun _ => rfl) (by decide +kernel)
set_option maxRecDepth 100000 in
theorem zok_30 : ∀ pc : Nat, zchk 30 pc = true := zchk_of (B := 39) (f := zc_30) (fun _ => rfl) (by decide +kernel)
set_option maxRecDepth 100000 in
theorem zok_31 : ∀ pc : Nat, zchk 31 pc = true := zchk_of (B := 44) (f := zc_31) (fun _ => rfl) (by decide +kernel)
set_option maxRecDepth 100000 in
theorem zok_32 : ∀ pc : Nat, zchk 32 pc = true := zchk_of (B := 56) (f := zc_32) (fun _ => rfl) (by decide +kernel)
set_option maxRecDepth 100000 in
theorem zok_33 : ∀ pc : Nat, zchk 33 pc = true := zchk_of (B := 48) (f := zc_33) (fun _ => rfl) (by decide +kernel)
set_option maxRecDepth 100000 in
theorem zok_34 : ∀ pc : Nat, zchk 34 pc = true := zchk_of (B := 10) (f := zc_34) (fun _ => rfl) (by decide +kernel)
set_option maxRecDepth 100000 in
theorem zok_35 : ∀ pc : Nat, zchk 35 pc = true := zchk_of (B := 52) (f := zc_35) (fun _ => rfl) (by decide +kernel)
set_option maxRecDepth 100000 in
theorem zok_36 : ∀ pc : Nat, zchk 36 pc = true := zchk_of (B := 45) (f := zc_36) (fun _ => rfl) (by decide +kernel)
set_option maxRecDepth 100000 in
theorem zok_37 : ∀ pc : Nat, zchk 37 pc = true := zchk_of (B := 76) (f := zc_37) (fun _ => rfl) (by decide +kernel)
set_option maxRecDepth 100000 in
theorem zok_38 : ∀ pc : Nat, zchk 38 pc = true := zchk_of (B := 53) (f := zc_38) (fun _ => rfl) (by decide +kernel)
set_option maxRecDepth 100000 in
theorem zok_39 : ∀ pc : Nat, zchk 39 pc = true := zchk_of (B := 119) (f := zc_39) (fun _ => rfl) (by decide +kernel)
set_option maxRecDepth 100000 in
theorem zok_40 : ∀ pc : Nat, zchk 40 pc = true := zchk_of (B := 37) (f := zc_40) (fun _ => rfl) (by decide +kernel)
set_option maxRecDepth 100000 in
theorem zok_41 : ∀ pc : Nat, zchk 41 pc = true := zchk_of (B := 121) (f := zc_41) (fun _ => rfl) (by decide +kernel)
set_option maxRecDepth 100000 in
theorem zok_42 : ∀ pc : Nat, zchk 42 pc = true := zchk_of (B := 64) (f := zc_42) (fun _ => rfl) (by decide +kernel)
set_option maxRecDepth 100000 in
theorem zok_43 : ∀ pc : Nat, zchk 43 pc = true := zchk_of (B := 14) (f := zc_43) (fun _ => rfl) (by decide +kernel)
set_option maxRecDepth 100000 in
theorem zok_44 : ∀ pc : Nat, zchk 44 pc = true := zchk_of (B := 24) (f := zc_44) (fun _ => rfl) (by decide +kernel)
set_option maxRecDepth 100000 in
theorem zok_45 : ∀ pc : Nat, zchk 45 pc = true := zchk_of (B := 32) (f := zc_45) (fun _ => rfl) (by decide +kernel)
set_option maxRecDepth 100000 in
theorem zok_46 : ∀ pc : Nat, zchk 46 pc = true := zchk_of (B := 113) (f := zc_46) (fun _ => rfl) (by decide +kernel)
set_option maxRecDepth 100000 in
theorem zok_47 : ∀ pc : Nat, zchk 47 pc = true := zchk_of (B := 96) (f := zc_47) (fun _ => rfl) (by decide +kernel)
set_option maxRecDepth 100000 in
theorem zok_48 : ∀ pc : Nat, zchk 48 pc = true := zchk_of (B := 24) (f := zc_48) (fun _ => rfl) (by decide +kernel)
set_option maxRecDepth 100000 in
theorem zok_49 : ∀ pc : Nat, zchk 49 pc = true := zchk_of (B := 43) (f := zc_49) (fun _ => rfl) (by decide +kernel)
set_option maxRecDepth 100000 in
theorem zok_50 : ∀ pc : Nat, zchk 50 pc = true := zchk_of (B := 17) (f := zc_50) (fun _ => rfl) (by decide +kernel)
set_option maxRecDepth 100000 in
theorem zok_51 : ∀ pc : Nat, zchk 51 pc = true := zchk_of (B := 180) (f := zc_51) (fun _ => rfl) (by decide +kernel)
set_option maxRecDepth 100000 in
theorem zok_52 : ∀ pc : Nat, zchk 52 pc = true := zchk_of (B := 32) (f := zc_52) (fun _ => rfl) (by decide +kernel)
set_option maxRecDepth 100000 in
theorem zok_53 : ∀ pc : Nat, zchk 53 pc = true := zchk_of (B := 74) (f := zc_53) (fun _ => rfl) (by decide +kernel)
set_option maxRecDepth 100000 in
theorem zok_54 : ∀ pc : Nat, zchk 54 pc = true := zchk_of (B := 31) (f := zc_54) (fun _ => rfl) (by decide +kernel)
set_option maxRecDepth 100000 in
theorem zok_55 : ∀ pc : Nat, zchk 55 pc = true := zchk_of (B := 40) (f := zc_55) (fun _ => rfl) (by decide +kernel)
set_option maxRecDepth 100000 in
theorem zok_56 : ∀ pc : Nat, zchk 56 pc = true := zchk_of (B := 55) (f := zc_56) (fun _ => rfl) (by decide +kernel)
set_option maxRecDepth 100000 in
theorem zok_57 : ∀ pc : Nat, zchk 57 pc = true := zchk_of (B := 110) (f := zc_57) (fun _ => rfl) (by decide +kernel)
set_option maxRecDepth 100000 in
theorem zok_58 : ∀ pc : Nat, zchk 58 pc = true := zchk_of (B := 82) (f := zc_58) (fun _ => rfl) (by decide +kernel)
set_option maxRecDepth 100000 in
theorem zok_59 : ∀ pc : Nat, zchk 59 pc = true := zchk_of (B := 44) (f := zc_59) (fun _ => rfl) (by decide +kernel)
set_option maxRecDepth 100000 in
theorem zok_60 : ∀ pc : Nat, zchk 60 pc = true := zchk_of (B := 42) (f := zc_60) (fun _ => rfl) (by decide +kernel)
set_option maxRecDepth 100000 in
theorem zok_61 : ∀ pc : Nat, zchk 61 pc = true := zchk_of (B := 150) (f := zc_61) (fun _ => rfl) (by decide +kernel)
set_option maxRecDepth 100000 in
theorem zok_62 : ∀ pc : Nat, zchk 62 pc = true := zchk_of (B := 36) (f := zc_62) (fun _ => rfl) (by decide +kernel)
set_option maxRecDepth 100000 in
theorem zok_63 : ∀ pc : Nat, zchk 63 pc = true := zchk_of (B := 30) (f := zc_63) (fun _ => rfl) (by decide +kernel)
set_option maxRecDepth 100000 in
theorem zok_64 : ∀ pc : Nat, zchk 64 pc = true := zchk_of (B := 47) (f := zc_64) (fun _ => rfl) (by decide +kernel)
set_option maxRecDepth 100000 in
theorem zok_65 : ∀ pc : Nat, zchk 65 pc = true := zchk_of (B := 34) (f := zc_65) (fun _ => rfl) (by decide +kernel)
set_option maxRecDepth 100000 in
theorem zok_66 : ∀ pc : Nat, zchk 66 pc = true := zchk_of (B := 74) (f := zc_66) (fun _ => rfl) (by decide +kernel)
set_option maxRecDepth 100000 in
theorem zok_67 : ∀ pc : Nat, zchk 67 pc = true := zchk_of (B := 55) (f := zc_67) (fun _ => rfl) (by decide +kernel)
set_option maxRecDepth 100000 in
theorem zok_68 : ∀ pc : Nat, zchk 68 pc = true := zchk_of (B := 30) (f := zc_68) (fun _ => rfl) (by decide +kernel)
set_option maxRecDepth 100000 in
theorem zok_69 : ∀ pc : Nat, zchk 69 pc = true := zchk_of (B := 23) (f := zc_69) (fun _ => rfl) (by decide +kernel)
set_option maxRecDepth 100000 in
theorem zok_70 : ∀ pc : Nat, zchk 70 pc = true := zchk_of (B := 24) (f := zc_70) (fun _ => rfl) (by decide +kernel)
set_option maxRecDepth 100000 in
theorem zok_71 : ∀ pc : Nat, zchk 71 pc = true := zchk_of (B := 28) (f := zc_71) (fun _ => rfl) (by decide +kernel)
set_option maxRecDepth 100000 in
theorem zok_72 : ∀ pc : Nat, zchk 72 pc = true := zchk_of (B := 62) (f := zc_72) (fun _ => rfl) (by decide +kernel)
set_option maxRecDepth 100000 in
theorem zok_73 : ∀ pc : Nat, zchk 73 pc = true := zchk_of (B := 50) (f := zc_73) (fun _ => rfl) (by decide +kernel)
set_option maxRecDepth 100000 in
theorem zok_74 : ∀ pc : Nat, zchk 74 pc = true := zchk_of (B := 23) (f := zc_74) (fun _ => rfl) (by decide +kernel)
set_option maxRecDepth 100000 in
theorem zok_75 : ∀ pc : Nat, zchk 75 pc = true := zchk_of (B := 10) (f := zc_75) (fun _ => rfl) (by decide +kernel)
set_option maxRecDepth 100000 in
theorem zok_76 : ∀ pc : Nat, zchk 76 pc = true := zchk_of (B := 55) (f := zc_76) (fun _ => rfl) (by decide +kernel)
set_option maxRecDepth 100000 in
theorem zok_77 : ∀ pc : Nat, zchk 77 pc = true := zchk_of (B := 45) (f := zc_77) (fun _ => rfl) (by decide +kernel)
set_option maxRecDepth 100000 in
theorem zok_78 : ∀ pc : Nat, zchk 78 pc = true := zchk_of (B := 29) (f := zc_78) (fun _ => rfl) (by decide +kernel)
set_option maxRecDepth 100000 in
theorem zok_79 : ∀ pc : Nat, zchk 79 pc = true := zchk_of (B := 47) (f := zc_79) (fun _ => rfl) (by decide +kernel)
set_option maxRecDepth 100000 in
theorem zok_80 : ∀ pc : Nat, zchk 80 pc = true := zchk_of (B := 54) (f := zc_80) (fun _ => rfl) (by decide +kernel)
set_option maxRecDepth 100000 in
theorem zok_81 : ∀ pc : Nat, zchk 81 pc = true := zchk_of (B := 42) (f := zc_81) (fun _ => rfl) (by decide +kernel)
set_option maxRecDepth 100000 in
theorem zok_82 : ∀ pc : Nat, zchk 82 pc = true := zchk_of (B := 60) (f := zc_82) (fun _ => rfl) (by decide +kernel)
set_option maxRecDepth 100000 in
theorem zok_83 : ∀ pc : Nat, zchk 83 pc = true := zchk_of (B := 54) (f := zc_83) (fun _ => rfl) (by decide +kernel)
set_option maxRecDepth 100000 in
theorem zok_84 : ∀ pc : Nat, zchk 84 pc = true := zchk_of (B := 170) (f := zc_84) (fun _ => rfl) (by decide +kernel)
set_option maxRecDepth 100000 in
theorem zok_85 : ∀ pc : Nat, zchk 85 pc = true := zchk_of (B := 36) (f := zc_85) (fun _ => rfl) (by decide +kernel)
set_option maxRecDepth 100000 in
theorem zok_86 : ∀ pc : Nat, zchk 86 pc = true := zchk_of (B := 55) (f := zc_86) (fun _ => rfl) (by decide +kernel)
set_option maxRecDepth 100000 in
theorem zok_87 : ∀ pc : Nat, zchk 87 pc = true := zchk_of (B := 82) (f := zc_87) (fun _ => rfl) (by decide +kernel)
set_option maxRecDepth 100000 in
theorem zok_88 : ∀ pc : Nat, zchk 88 pc = true := zchk_of (B := 44) (f := zc_88) (fun _ => rfl) (by decide +kernel)
set_option maxRecDepth 100000 in
theorem zok_89 : ∀ pc : Nat, zchk 89 pc = true := zchk_of (B := 47) (f := zc_89) (fun _ => rfl) (by decide +kernel)
set_option maxRecDepth 100000 in
theorem zok_90 : ∀ pc : Nat, zchk 90 pc = true := zchk_of (B := 82) (f := zc_90) (fun _ => rfl) (by decide +kernel)
set_option maxRecDepth 100000 in
theorem zok_91 : ∀ pc : Nat, zchk 91 pc = true := zchk_of (B := 113) (f := zc_91) (fun _ => rfl) (by decide +kernel)
set_option maxRecDepth 100000 in
theorem zok_92 : ∀ pc : Nat, zchk 92 pc = true := zchk_of (B := 15) (f := zc_92) (fun _ => rfl) (by decide +kernel)
set_option maxRecDepth 100000 in
theorem zok_93 : ∀ pc : Nat, zchk 93 pc = true := zchk_of (B := 15) (f := zc_93) (fun _ => rfl) (by decide +kernel)
set_option maxRecDepth 100000 in
theorem zok_94 : ∀ pc : Nat, zchk 94 pc = true := zchk_of (B := 88) (f := zc_94) (fun _ => rfl) (by decide +kernel)
set_option maxRecDepth 100000 in
theorem zok_95 : ∀ pc : Nat, zchk 95 pc = true := zchk_of (B := 111) (f := zc_95) (fun _ => rfl) (by decide +kernel)
set_option maxRecDepth 100000 in
theorem zok_96 : ∀ pc : Nat, zchk 96 pc = true := zchk_of (B := 14) (f := zc_96) (fun _ => rfl) (by decide +kernel)
set_option maxRecDepth 100000 in
theorem zok_97 : ∀ pc : Nat, zchk 97 pc = true := zchk_of (B := 95) (f := zc_97) (fun _ => rfl) (by decide +kernel)
set_option maxRecDepth 100000 in
theorem zok_98 : ∀ pc : Nat, zchk 98 pc = true := zchk_of (B := 8) (f := zc_98) (fun _ => rfl) (by decide +kernel)
set_option maxRecDepth 100000 in
theorem zok_99 : ∀ pc : Nat, zchk 99 pc = true := zchk_of (B := 5) (f := zc_99) (fun _ => rfl) (by decide +kernel)
set_option maxRecDepth 100000 in
theorem zok_100 : ∀ pc : Nat, zchk 100 pc = true := zchk_of (B := 9) (f := zc_100) (fun _ => rfl) (by decide +kernel)
set_option maxRecDepth 100000 in
theorem zok_101 : ∀ pc : Nat, zchk 101 pc = true := zchk_of (B := 17) (f := zc_101) (fun _ => rfl) (by decide +kernel)
set_option maxRecDepth 100000 in
theorem zok_102 : ∀ pc : Nat, zchk 102 pc = true := zchk_of (B := 177) (f := zc_102) (fun _ => rfl) (by decide +kernel)
set_option maxRecDepth 100000 in
theorem zok_103 : ∀ pc : Nat, zchk 103 pc = true := zchk_of (B := 19) (f := zc_103) (fun _ => rfl) (by decide +kernel)
set_option maxRecDepth 100000 in
theorem zok_104 : ∀ pc : Nat, zchk 104 pc = true := zchk_of (B := 14) (f := zc_104) (fun _ => rfl) (by decide +kernel)
set_option maxRecDepth 100000 in
theorem zok_105 : ∀ pc : Nat, zchk 105 pc = true := zchk_of (B := 245) (f := zc_105) (fun _ => rfl) (by decide +kernel)
set_option maxRecDepth 100000 in
theorem zok_106 : ∀ pc : Nat, zchk 106 pc = true := zchk_of (B := 64) (f := zc_106) (fun _ => rfl) (by decide +kernel)
set_option maxRecDepth 100000 in
theorem zok_107 : ∀ pc : Nat, zchk 107 pc = true := zchk_of (B := 44) (f := zc_107) (fun _ => rfl) (by decide +kernel)
set_option maxRecDepth 100000 in
theorem zok_108 : ∀ pc : Nat, zchk 108 pc = true := zchk_of (B := 121) (f := zc_108) (fun _ => rfl) (by decide +kernel)
set_option maxRecDepth 100000 in
theorem zok_109 : ∀ pc : Nat, zchk 109 pc = true := zchk_of (B := 16) (f := zc_109) (fun _ => rfl) (by decide +kernel)
set_option maxRecDepth 100000 in
theorem zok_110 : ∀ pc : Nat, zchk 110 pc = true := zchk_of (B := 60) (f := zc_110) (fun _ => rfl) (by decide +kernel)
set_option maxRecDepth 100000 in
theorem zok_111 : ∀ pc : Nat, zchk 111 pc = true := zchk_of (B := 207) (f := zc_111) (fun _ => rfl) (by decide +kernel)
set_option maxRecDepth 100000 in
theorem zok_112 : ∀ pc : Nat, zchk 112 pc = true := zchk_of (B := 62) (f := zc_112) (fun _ => rfl) (by decide +kernel)
set_option maxRecDepth 100000 in
theorem zok_113 : ∀ pc : Nat, zchk 113 pc = true := zchk_of (B := 27) (f := zc_113) (fun _ => rfl) (by decide +kernel)
set_option maxRecDepth 100000 in
theorem zok_114 : ∀ pc : Nat, zchk 114 pc = true := zchk_of (B := 126) (f := zc_114) (fun _ => rfl) (by decide +kernel)
set_option maxRecDepth 100000 in
theorem zok_115 : ∀ pc : Nat, zchk 115 pc = true := zchk_of (B := 17) (f := zc_115) (fun _ => rfl) (by decide +kernel)
set_option maxRecDepth 100000 in
theorem zok_116 : ∀ pc : Nat, zchk 116 pc = true := zchk_of (B := 155) (f := zc_116) (fun _ => rfl) (by decide +kernel)
set_option maxRecDepth 100000 in
theorem zok_117 : ∀ pc : Nat, zchk 117 pc = true := zchk_of (B := 33) (f := zc_117) (fun _ => rfl) (by decide +kernel)
set_option maxRecDepth 100000 in
theorem zok_118 : ∀ pc : Nat, zchk 118 pc = true := zchk_of (B := 39) (f := zc_118) (fun _ => rfl) (by decide +kernel)
set_option maxRecDepth 100000 in
theorem zok_119 : ∀ pc : Nat, zchk 119 pc = true := zchk_of (B := 67) (f := zc_119) (fun _ => rfl) (by decide +kernel)
set_option maxRecDepth 100000 in
theorem zok_120 : ∀ pc : Nat, zchk 120 pc = true := zchk_of (B := 69) (f := zc_120) (fun _ => rfl) (by decide +kernel)
set_option maxRecDepth 100000 in
theorem zok_121 : ∀ pc : Nat, zchk 121 pc = true := zchk_of (B := 38) (f := zc_121) (fun _ => rfl) (by decide +kernel)
set_option maxRecDepth 100000 in
theorem zok_122 : ∀ pc : Nat, zchk 122 pc = true := zchk_of (B := 102) (f := zc_122) (fun _ => rfl) (by decide +kernel)
set_option maxRecDepth 100000 in
theorem zok_123 : ∀ pc : Nat, zchk 123 pc = true := zchk_of (B := 254) (f := zc_123) (fun _ => rfl) (by decide +kernel)
set_option maxRecDepth 100000 in
theorem zok_124 : ∀ pc : Nat, zchk 124 pc = true := zchk_of (B := 102) (f := zc_124) (fun _ => rfl) (by decide +kernel)
set_option maxRecDepth 100000 in
theorem zok_125 : ∀ pc : Nat, zchk 125 pc = true := zchk_of (B := 32) (f := zc_125) (fun _ => rfl) (by decide +kernel)
set_option maxRecDepth 100000 in
theorem zok_126 : ∀ pc : Nat, zchk 126 pc = true := zchk_of (B := 31) (f := zc_126) (fun _ => rfl) (by decide +kernel)
set_option maxRecDepth 100000 in
theorem zok_127 : ∀ pc : Nat, zchk 127 pc = true := zchk_of (B := 202) (f := zc_127) (fun _ => rfl) (by decide +kernel)
set_option maxRecDepth 100000 in
theorem zok_128 : ∀ pc : Nat, zchk 128 pc = true := zchk_of (B := 47) (f := zc_128) (fun _ => rfl) (by decide +kernel)
set_option maxRecDepth 100000 in
theorem zok_129 : ∀ pc : Nat, zchk 129 pc = true := zchk_of (B := 93) (f := zc_129) (fun _ => rfl) (by decide +kernel)
set_option maxRecDepth 100000 in
theorem zok_130 : ∀ pc : Nat, zchk 130 pc = true := zchk_of (B := 79) (f := zc_130) (fun _ => rfl) (by decide +kernel)
set_option maxRecDepth 100000 in
theorem zok_131 : ∀ pc : Nat, zchk 131 pc = true := zchk_of (B := 84) (f := zc_131) (fun _ => rfl) (by decide +kernel)
set_option maxRecDepth 100000 in
theorem zok_132 : ∀ pc : Nat, zchk 132 pc = true := zchk_of (B := 50) (f := zc_132) (fun _ => rfl) (by decide +kernel)
set_option maxRecDepth 100000 in
theorem zok_133 : ∀ pc : Nat, zchk 133 pc = true := zchk_of (B := 83) (f := zc_133) (fun _ => rfl) (by decide +kernel)
set_option maxRecDepth 100000 in
theorem zok_134 : ∀ pc : Nat, zchk 134 pc = true := zchk_of (B := 29) (f := zc_134) (fun _ => rfl) (by decide +kernel)
set_option maxRecDepth 100000 in
theorem zok_135 : ∀ pc : Nat, zchk 135 pc = true := zchk_of (B := 54) (f := zc_135) (fun _ => rfl) (by decide +kernel)
set_option maxRecDepth 100000 in
theorem zok_136 : ∀ pc : Nat, zchk 136 pc = true := zchk_of (B := 50) (f := zc_136) (fun _ => rfl) (by decide +kernel)
set_option maxRecDepth 100000 in
theorem zok_137 : ∀ pc : Nat, zchk 137 pc = true := zchk_of (B := 60) (f := zc_137) (fun _ => rfl) (by decide +kernel)
set_option maxRecDepth 100000 in
theorem zok_138 : ∀ pc : Nat, zchk 138 pc = true := zchk_of (B := 46) (f := zc_138) (fun _ => rfl) (by decide +kernel)
set_option maxRecDepth 100000 in
theorem zokp_139_0 : ∀ k : Nat, k < 40 → zchk 139 (0 + k) = true := by decide +kernel
set_option maxRecDepth 100000 in
theorem zokp_139_40 : ∀ k : Nat, k < 40 → zchk 139 (40 + k) = true := by decide +kernel
set_option maxRecDepth 100000 in
theorem zokp_139_80 : ∀ k : Nat, k < 40 → zchk 139 (80 + k) = true := by decide +kernel
set_option maxRecDepth 100000 in
theorem zokp_139_120 : ∀ k : Nat, k < 40 → zchk 139 (120 + k) = true := by decide +kernel
set_option maxRecDepth 100000 in
theorem zokp_139_160 : ∀ k : Nat, k < 40 → zchk 139 (160 + k) = true := by decide +kernel
set_option maxRecDepth 100000 in
theorem zokp_139_200 : ∀ k : Nat, k < 40 → zchk 139 (200 + k) = true := by decide +kernel
set_option maxRecDepth 100000 in
theorem zokp_139_240 : ∀ k : Nat, k < 40 → zchk 139 (240 + k) = true := by decide +kernel
set_option maxRecDepth 100000 in
theorem zokp_139_280 : ∀ k : Nat, k < 40 → zchk 139 (280 + k) = true := by decide +kernel
set_option maxRecDepth 100000 in
theorem zokp_139_320 : ∀ k : Nat, k < 40 → zchk 139 (320 + k) = true := by decide +kernel
set_option maxRecDepth 100000 in
theorem zokp_139_360 : ∀ k : Nat, k < 14 → zchk 139 (360 + k) = true := by decide +kernel
set_option maxRecDepth 100000 in
theorem zok_139 : ∀ pc : Nat, zchk 139 pc = true := zchk_of (B := 374) (f := zc_139) (fun _ => rfl) (zchk_b1 (b := 360) (n := 14) (zchk_b1 (b := 320) (n := 40) (zchk_b1 (b := 280) (n := 40) (zchk_b1 (b := 240) (n := 40) (zchk_b1 (b := 200) (n := 40) (zchk_b1 (b := 160) (n := 40) (zchk_b1 (b := 120) (n := 40) (zchk_b1 (b := 80) (n := 40) (zchk_b1 (b := 40) (n := 40) (zchk_b1 (b := 0) (n := 40) zchk_b0 zokp_139_0) zokp_139_40) zokp_139_80) zokp_139_120) zokp_139_160) zokp_139_200) zokp_139_240) zokp_139_280) zokp_139_320) zokp_139_360)
set_option maxRecDepth 100000 in
theorem zok_140 : ∀ pc : Nat, zchk 140 pc = true := zchk_of (B := 51) (f := zc_140) (fun _ => rfl) (by decide +kernel)
set_option maxRecDepth 100000 in
theorem zokp_141_0 : ∀ k : Nat, k < 40 → zchk 141 (0 + k) = true := by decide +kernel
set_option maxRecDepth 100000 in
theorem zokp_141_40 : ∀ k : Nat, k < 40 → zchk 141 (40 + k) = true := by decide +kernel
set_option maxRecDepth 100000 in
theorem zokp_141_80 : ∀ k : Nat, k < 40 → zchk 141 (80 + k) = true := by decide +kernel
set_option maxRecDepth 100000 in
theorem zokp_141_120 : ∀ k : Nat, k < 40 → zchk 141 (120 + k) = true := by decide +kernel
set_option maxRecDepth 100000 in
theorem zokp_141_160 : ∀ k : Nat, k < 40 → zchk 141 (160 + k) = true := by decide +kernel
set_option maxRecDepth 100000 in
theorem zokp_141_200 : ∀ k : Nat, k < 40 → zchk 141 (200 + k) = true := by decide +kernel
set_option maxRecDepth 100000 in
theorem zokp_141_240 : ∀ k : Nat, k < 40 → zchk 141 (240 + k) = true := by decide +kernel
set_option maxRecDepth 100000 in
theorem zokp_141_280 : ∀ k : Nat, k < 40 → zchk 141 (280 + k) = true := by decide +kernel
set_option maxRecDepth 100000 in
theorem zokp_141_320 : ∀ k : Nat, k < 40 → zchk 141 (320 + k) = true := by decide +kernel
set_option maxRecDepth 100000 in
theorem zokp_141_360 : ∀ k : Nat, k < 40 → zchk 141 (360 + k) = true := by decide +kernel
set_option maxRecDepth 100000 in
theorem zokp_141_400 : ∀ k : Nat, k < 7 → zchk 141 (400 + k) = true := by decide +kernel
set_option maxRecDepth 100000 in
theorem zok_141 : ∀ pc : Nat, zchk 141 pc = true := zchk_of (B := 407) (f := zc_141) (fun _ => rfl) (zchk_b1 (b := 400) (n := 7) (zchk_b1 (b := 360) (n := 40) (zchk_b1 (b := 320) (n := 40) (zchk_b1 (b := 280) (n := 40) (zchk_b1 (b := 240) (n := 40) (zchk_b1 (b := 200) (n := 40) (zchk_b1 (b := 160) (n := 40) (zchk_b1 (b := 120) (n := 40) (zchk_b1 (b := 80) (n := 40) (zchk_b1 (b := 40) (n := 40) (zchk_b1 (b := 0) (n := 40) zchk_b0 zokp_141_0) zokp_141_40) zokp_141_80) zokp_141_120) zokp_141_160) zokp_141_200) zokp_141_240) zokp_141_280) zokp_141_320) zokp_141_360) zokp_141_400)
set_option maxRecDepth 100000 in
theorem zok_142 : ∀ pc : Nat, zchk 142 pc = true := zchk_of (B := 7) (f := zc_142) (fun _ => rfl) (by decide +kernel)
set_option maxRecDepth 100000 in
theorem zok_143 : ∀ pc : Nat, zchk 143 pc = true := zchk_of (B := 107) (f := zc_143) (fun _ => rfl) (by decide +kernel)
set_option maxRecDepth 100000 in
theorem zok_144 : ∀ pc : Nat, zchk 144 pc = true := zchk_of (B := 133) (f := zc_144) (fun _ => rfl) (by decide +kernel)
set_option maxRecDepth 100000 in
theorem zok_145 : ∀ pc : Nat, zchk 145 pc = true := zchk_of (B := 118) (f := zc_145) (fun _ => rfl) (by decide +kernel)
set_option maxRecDepth 100000 in
theorem zok_146 : ∀ pc : Nat, zchk 146 pc = true := zchk_of (B := 88) (f := zc_146) (fun _ => rfl) (by decide +kernel)
set_option maxRecDepth 100000 in
theorem zok_147 : ∀ pc : Nat, zchk 147 pc = true := zchk_of (B := 47) (f := zc_147) (fun _ => rfl) (by decide +kernel)
set_option maxRecDepth 100000 in
theorem zok_148 : ∀ pc : Nat, zchk 148 pc = true := zchk_of (B := 160) (f := zc_148) (fun _ => rfl) (by decide +kernel)
set_option maxRecDepth 100000 in
theorem zok_149 : ∀ pc : Nat, zchk 149 pc = true := zchk_of (B := 222) (f := zc_149) (fun _ => rfl) (by decide +kernel)
set_option maxRecDepth 100000 in
theorem zok_150 : ∀ pc : Nat, zchk 150 pc = true := zchk_of (B := 84) (f := zc_150) (fun _ => rfl) (by decide +kernel)
set_option maxRecDepth 100000 in
theorem zok_151 : ∀ pc : Nat, zchk 151 pc = true := zchk_of (B := 10) (f := zc_151) (fun _ => rfl) (by decide +kernel)
set_option maxRecDepth 100000 in
theorem zok_152 : ∀ pc : Nat, zchk 152 pc = true := zchk_of (B := 10) (f := zc_152) (fun _ => rfl) (by decide +kernel)
set_option maxRecDepth 100000 in
theorem zokp_153_0 : ∀ k : Nat, k < 40 → zchk 153 (0 + k) = true := by decide +kernel
set_option maxRecDepth 100000 in
theorem zokp_153_40 : ∀ k : Nat, k < 40 → zchk 153 (40 + k) = true := by decide +kernel
set_option maxRecDepth 100000 in
theorem zokp_153_80 : ∀ k : Nat, k < 40 → zchk 153 (80 + k) = true := by decide +kernel
set_option maxRecDepth 100000 in
theorem zokp_153_120 : ∀ k : Nat, k < 40 → zchk 153 (120 + k) = true := by decide +kernel
set_option maxRecDepth 100000 in
theorem zokp_153_160 : ∀ k : Nat, k < 40 → zchk 153 (160 + k) = true := by decide +kernel
set_option maxRecDepth 100000 in
theorem zokp_153_200 : ∀ k : Nat, k < 40 → zchk 153 (200 + k) = true := by decide +kernel
set_option maxRecDepth 100000 in
theorem zokp_153_240 : ∀ k : Nat, k < 40 → zchk 153 (240 + k) = true := by decide +kernel
set_option maxRecDepth 100000 in
theorem zokp_153_280 : ∀ k : Nat, k < 40 → zchk 153 (280 + k) = true := by decide +kernel
set_option maxRecDepth 100000 in
theorem zokp_153_320 : ∀ k : Nat, k < 40 → zchk 153 (320 + k) = true := by decide +kernel
set_option maxRecDepth 100000 in
theorem zokp_153_360 : ∀ k : Nat, k < 40 → zchk 153 (360 + k) = true := by decide +kernel
set_option maxRecDepth 100000 in
theorem zokp_153_400 : ∀ k : Nat, k < 40 → zchk 153 (400 + k) = true := by decide +kernel
set_option maxRecDepth 100000 in
theorem zokp_153_440 : ∀ k : Nat, k < 40 → zchk 153 (440 + k) = true := by decide +kernel
set_option maxRecDepth 100000 in
theorem zokp_153_480 : ∀ k : Nat, k < 40 → zchk 153 (480 + k) = true := by decide +kernel
set_option maxRecDepth 100000 in
theorem zokp_153_520 : ∀ k : Nat, k < 40 → zchk 153 (520 + k) = true := by decide +kernel
set_option maxRecDepth 100000 in
theorem zokp_153_560 : ∀ k : Nat, k < 40 → zchk 153 (560 + k) = true := by decide +kernel
set_option maxRecDepth 100000 in
theorem zokp_153_600 : ∀ k : Nat, k < 40 → zchk 153 (600 + k) = true := by decide +kernel
set_option maxRecDepth 100000 in
theorem zokp_153_640 : ∀ k : Nat, k < 40 → zchk 153 (640 + k) = true := by decide +kernel
set_option maxRecDepth 100000 in
theorem zokp_153_680 : ∀ k : Nat, k < 40 → zchk 153 (680 + k) = true := by decide +kernel
set_option maxRecDepth 100000 in
theorem zokp_153_720 : ∀ k : Nat, k < 40 → zchk 153 (720 + k) = true := by decide +kernel
set_option maxRecDepth 100000 in
theorem zokp_153_760 : ∀ k : Nat, k < 40 → zchk 153 (760 + k) = true := by decide +kernel
set_option maxRecDepth 100000 in
theorem zokp_153_800 : ∀ k : Nat, k < 40 → zchk 153 (800 + k) = true := by decide +kernel
set_option maxRecDepth 100000 in
theorem zokp_153_840 : ∀ k : Nat, k < 40 → zchk 153 (840 + k) = true := by decide +kernel
set_option maxRecDepth 100000 in
theorem zokp_153_880 : ∀ k : Nat, k < 40 → zchk 153 (880 + k) = true := by decide +kernel
set_option maxRecDepth 100000 in
theorem zokp_153_920 : ∀ k : Nat, k < 40 → zchk 153 (920 + k) = true := by decide +kernel
set_option maxRecDepth 100000 in
theorem zokp_153_960 : ∀ k : Nat, k < 40 → zchk 153 (960 + k) = true := by decide +kernel
set_option maxRecDepth 100000 in
theorem zokp_153_1000 : ∀ k : Nat, k < 13 → zchk 153 (1000 + k) = true := by decide +kernel
set_option maxRecDepth 100000 in
theorem zok_153 : ∀ pc : Nat, zchk 153 pc = true := zchk_of (B := 1013) (f := zc_153) (fun _ => rfl) (zchk_b1 (b := 1000) (n := 13) (zchk_b1 (b := 960) (n := 40) (zchk_b1 (b := 920) (n := 40) (zchk_b1 (b := 880) (n := 40) (zchk_b1 (b := 840) (n := 40) (zchk_b1 (b := 800) (n := 40) (zchk_b1 (b := 760) (n := 40) (zchk_b1 (b := 720) (n := 40) (zchk_b1 (b := 680) (n := 40) (zchk_b1 (b := 640) (n := 40) (zchk_b1 (b := 600) (n := 40) (zchk_b1 (b := 560) (n := 40) (zchk_b1 (b := 520) (n := 40) (zchk_b1 (b := 480) (n := 40) (zchk_b1 (b := 440) (n := 40) (zchk_b1 (b := 400) (n := 40) (zchk_b1 (b := 360) (n := 40) (zchk_b1 (b := 320) (n := 40) (zchk_b1 (b := 280) (n := 40) (zchk_b1 (b := 240) (n := 40) (zchk_b1 (b := 200) (n := 40) (zchk_b1 (b := 160) (n := 40) (zchk_b1 (b := 120) (n := 40) (zchk_b1 (b := 80) (n := 40) (zchk_b1 (b := 40) (n := 40) (zchk_b1 (b := 0) (n := 40) zchk_b0 zokp_153_0) zokp_153_40) zokp_153_80) zokp_153_120) zokp_153_160) zokp_153_200) zokp_153_240) zokp_153_280) zokp_153_320) zokp_153_360) zokp_153_400) zokp_153_440) zokp_153_480) zokp_153_520) zokp_153_560) zokp_153_600) zokp_153_640) zokp_153_680) zokp_153_720) zokp_153_760) zokp_153_800) zokp_153_840) zokp_153_880) zokp_153_920) zokp_153_960) zokp_153_1000)
theorem zchk_ok (M : Nat) : ∀ pc : Nat, zchk M pc = true := by
  by_cases hM : M < 154
  · match M, hM with
    | 0, _ => exact zok_0
    | 1, _ => exact zok_1
    | 2, _ => exact zok_2
    | 3, _ => exact zok_3
    | 4, _ => exact zok_4
    | 5, _ => exact zok_5
    | 6, _ => exact zok_6
    | 7, _ => exact zok_7
    | 8, _ => exact zok_8
    | 9, _ => exact zok_9
    | 10, _ => exact zok_10
    | 11, _ => exact zok_11
    | 12, _ => exact zok_12
    | 13, _ => exact zok_13
    | 14, _ => exact zok_14
    | 15, _ => exact zok_15
    | 16, _ => exact zok_16
    | 17, _ => exact zok_17
    | 18, _ => exact zok_18
    | 19, _ => exact zok_19
    | 20, _ => exact zok_20
    | 21, _ => exact zok_21
    | 22, _ => exact zok_22
    | 23, _ => exact zok_23
    | 24, _ => exact zok_24
    | 25, _ => exact zok_25
    | 26, _ => exact zok_26
    | 27, _ => exact zok_27
    | 28, _ => exact zok_28
    | 29, _ => exact zok_29
    | 30, _ => exact zok_30
    | 31, _ => exact zok_31
    | 32, _ => exact zok_32
    | 33, _ => exact zok_33
    | 34, _ => exact zok_34
    | 35, _ => exact zok_35
    | 36, _ => exact zok_36
    | 37, _ => exact zok_37
    | 38, _ => exact zok_38
    | 39, _ => exact zok_39
    | 40, _ => exact zok_40
    | 41, _ => exact zok_41
    | 42, _ => exact zok_42
    | 43, _ => exact zok_43
    | 44, _ => exact zok_44
    | 45, _ => exact zok_45
    | 46, _ => exact zok_46
    | 47, _ => exact zok_47
    | 48, _ => exact zok_48
    | 49, _ => exact zok_49
    | 50, _ => exact zok_50
    | 51, _ => exact zok_51
    | 52, _ => exact zok_52
    | 53, _ => exact zok_53
    | 54, _ => exact zok_54
    | 55, _ => exact zok_55
    | 56, _ => exact zok_56
    | 57, _ => exact zok_57
    | 58, _ => exact zok_58
    | 59, _ => exact zok_59
    | 60, _ => exact zok_60
    | 61, _ => exact zok_61
    | 62, _ => exact zok_62
    | 63, _ => exact zok_63
    | 64, _ => exact zok_64
    | 65, _ => exact zok_65
    | 66, _ => exact zok_66
    | 67, _ => exact zok_67
    | 68, _ => exact zok_68
    | 69, _ => exact zok_69
    | 70, _ => exact zok_70
    | 71, _ => exact zok_71
    | 72, _ => exact zok_72
    | 73, _ => exact zok_73
    | 74, _ => exact zok_74
    | 75, _ => exact zok_75
    | 76, _ => exact zok_76
    | 77, _ => exact zok_77
    | 78, _ => exact zok_78
    | 79, _ => exact zok_79
    | 80, _ => exact zok_80
    | 81, _ => exact zok_81
    | 82, _ => exact zok_82
    | 83, _ => exact zok_83
    | 84, _ => exact zok_84
    | 85, _ => exact zok_85
    | 86, _ => exact zok_86
    | 87, _ => exact zok_87
    | 88, _ => exact zok_88
    | 89, _ => exact zok_89
    | 90, _ => exact zok_90
    | 91, _ => exact zok_91
    | 92, _ => exact zok_92
    | 93, _ => exact zok_93
    | 94, _ => exact zok_94
    | 95, _ => exact zok_95
    | 96, _ => exact zok_96
    | 97, _ => exact zok_97
    | 98, _ => exact zok_98
    | 99, _ => exact zok_99
    | 100, _ => exact zok_100
    | 101, _ => exact zok_101
    | 102, _ => exact zok_102
    | 103, _ => exact zok_103
    | 104, _ => exact zok_104
    | 105, _ => exact zok_105
    | 106, _ => exact zok_106
    | 107, _ => exact zok_107
    | 108, _ => exact zok_108
    | 109, _ => exact zok_109
    | 110, _ => exact zok_110
    | 111, _ => exact zok_111
    | 112, _ => exact zok_112
    | 113, _ => exact zok_113
    | 114, _ => exact zok_114
    | 115, _ => exact zok_115
    | 116, _ => exact zok_116
    | 117, _ => exact zok_117
    | 118, _ => exact zok_118
    | 119, _ => exact zok_119
    | 120, _ => exact zok_120
    | 121, _ => exact zok_121
    | 122, _ => exact zok_122
    | 123, _ => exact zok_123
    | 124, _ => exact zok_124
    | 125, _ => exact zok_125
    | 126, _ => exact zok_126
    | 127, _ => exact zok_127
    | 128, _ => exact zok_128
    | 129, _ => exact zok_129
    | 130, _ => exact zok_130
    | 131, _ => exact zok_131
    | 132, _ => exact zok_132
    | 133, _ => exact zok_133
    | 134, _ => exact zok_134
    | 135, _ => exact zok_135
    | 136, _ => exact zok_136
    | 137, _ => exact zok_137
    | 138, _ => exact zok_138
    | 139, _ => exact zok_139
    | 140, _ => exact zok_140
    | 141, _ => exact zok_141
    | 142, _ => exact zok_142
    | 143, _ => exact zok_143
    | 144, _ => exact zok_144
    | 145, _ => exact zok_145
    | 146, _ => exact zok_146
    | 147, _ => exact zok_147
    | 148, _ => exact zok_148
    | 149, _ => exact zok_149
    | 150, _ => exact zok_150
    | 151, _ => exact zok_151
    | 152, _ => exact zok_152
    | 153, _ => exact zok_153
    | n + 154, h => exact absurd h (by omega)
  · intro pc
    unfold zchk zTab
    rw [zblt hM]
    rfl
theorem zcode {M pc : Nat} {i : zI} (h : zTab M pc = some i) : decode (zMb M) pc = .ok (i.1, i.2.1) ∧ zchkI M i = true ∧ zlen i = true ∧ zaux M pc i = true := by
  have h1 := zchk_ok M pc
  unfold zchk at h1
  rw [h] at h1
  dsimp only at h1
  simp only [Bool.and_eq_true] at h1
  exact ⟨of_decide_eq_true h1.1, h1.2.1, h1.2.2.1, h1.2.2.2⟩
theorem zcw (M : Nat) (hM : M < 153) : Cond.code (zMy M) (zMb M) (zMx M) (zMr M) ∈ zT := by
  match M, hM with
  | 0, _ => exact zcw_0
  | 1, _ => exact zcw_1
  | 2, _ => exact zcw_2
  | 3, _ => exact zcw_3
  | 4, _ => exact zcw_4
  | 5, _ => exact zcw_5
  | 6, _ => exact zcw_6
  | 7, _ => exact zcw_7
  | 8, _ => exact zcw_8
  | 9, _ => exact zcw_9
  | 10, _ => exact zcw_10
  | 11, _ => exact zcw_11
  | 12, _ => exact zcw_12
  | 13, _ => exact zcw_13
  | 14, _ => exact zcw_14
  | 15, _ => exact zcw_15
  | 16, _ => exact zcw_16
  | 17, _ => exact zcw_17
  | 18, _ => exact zcw_18
  | 19, _ => exact zcw_19
  | 20, _ => exact zcw_20
  | 21, _ => exact zcw_21
  | 22, _ => exact zcw_22
  | 23, _ => exact zcw_23
  | 24, _ => exact zcw_24
  | 25, _ => exact zcw_25
  | 26, _ => exact zcw_26
  | 27, _ => exact zcw_27
  | 28, _ => exact zcw_28
  | 29, _ => exact zcw_29
  | 30, _ => exact zcw_30
  | 31, _ => exact zcw_31
  | 32, _ => exact zcw_32
  | 33, _ => exact zcw_33
  | 34, _ => exact zcw_34
  | 35, _ => exact zcw_35
  | 36, _ => exact zcw_36
  | 37, _ => exact zcw_37
  | 38, _ => exact zcw_38
  | 39, _ => exact zcw_39
  | 40, _ => exact zcw_40
  | 41, _ => exact zcw_41
  | 42, _ => exact zcw_42
  | 43, _ => exact zcw_43
  | 44, _ => exact zcw_44
  | 45, _ => exact zcw_45
  | 46, _ => exact zcw_46
  | 47, _ => exact zcw_47
  | 48, _ => exact zcw_48
  | 49, _ => exact zcw_49
  | 50, _ => exact zcw_50
  | 51, _ => exact zcw_51
  | 52, _ => exact zcw_52
  | 53, _ => exact zcw_53
  | 54, _ => exact zcw_54
  | 55, _ => exact zcw_55
  | 56, _ => exact zcw_56
  | 57, _ => exact zcw_57
  | 58, _ => exact zcw_58
  | 59, _ => exact zcw_59
  | 60, _ => exact zcw_60
  | 61, _ => exact zcw_61
  | 62, _ => exact zcw_62
  | 63, _ => exact zcw_63
  | 64, _ => exact zcw_64
  | 65, _ => exact zcw_65
  | 66, _ => exact zcw_66
  | 67, _ => exact zcw_67
  | 68, _ => exact zcw_68
  | 69, _ => exact zcw_69
  | 70, _ => exact zcw_70
  | 71, _ => exact zcw_71
  | 72, _ => exact zcw_72
  | 73, _ => exact zcw_73
  | 74, _ => exact zcw_74
  | 75, _ => exact zcw_75
  | 76, _ => exact zcw_76
  | 77, _ => exact zcw_77
  | 78, _ => exact zcw_78
  | 79, _ => exact zcw_79
  | 80, _ => exact zcw_80
  | 81, _ => exact zcw_81
  | 82, _ => exact zcw_82
  | 83, _ => exact zcw_83
  | 84, _ => exact zcw_84
  | 85, _ => exact zcw_85
  | 86, _ => exact zcw_86
  | 87, _ => exact zcw_87
  | 88, _ => exact zcw_88
  | 89, _ => exact zcw_89
  | 90, _ => exact zcw_90
  | 91, _ => exact zcw_91
  | 92, _ => exact zcw_92
  | 93, _ => exact zcw_93
  | 94, _ => exact zcw_94
  | 95, _ => exact zcw_95
  | 96, _ => exact zcw_96
  | 97, _ => exact zcw_97
  | 98, _ => exact zcw_98
  | 99, _ => exact zcw_99
  | 100, _ => exact zcw_100
  | 101, _ => exact zcw_101
  | 102, _ => exact zcw_102
  | 103, _ => exact zcw_103
  | 104, _ => exact zcw_104
  | 105, _ => exact zcw_105
  | 106, _ => exact zcw_106
  | 107, _ => exact zcw_107
  | 108, _ => exact zcw_108
  | 109, _ => exact zcw_109
  | 110, _ => exact zcw_110
  | 111, _ => exact zcw_111
  | 112, _ => exact zcw_112
  | 113, _ => exact zcw_113
  | 114, _ => exact zcw_114
  | 115, _ => exact zcw_115
  | 116, _ => exact zcw_116
  | 117, _ => exact zcw_117
  | 118, _ => exact zcw_118
  | 119, _ => exact zcw_119
  | 120, _ => exact zcw_120
  | 121, _ => exact zcw_121
  | 122, _ => exact zcw_122
  | 123, _ => exact zcw_123
  | 124, _ => exact zcw_124
  | 125, _ => exact zcw_125
  | 126, _ => exact zcw_126
  | 127, _ => exact zcw_127
  | 128, _ => exact zcw_128
  | 129, _ => exact zcw_129
  | 130, _ => exact zcw_130
  | 131, _ => exact zcw_131
  | 132, _ => exact zcw_132
  | 133, _ => exact zcw_133
  | 134, _ => exact zcw_134
  | 135, _ => exact zcw_135
  | 136, _ => exact zcw_136
  | 137, _ => exact zcw_137
  | 138, _ => exact zcw_138
  | 139, _ => exact zcw_139
  | 140, _ => exact zcw_140
  | 141, _ => exact zcw_141
  | 142, _ => exact zcw_142
  | 143, _ => exact zcw_143
  | 144, _ => exact zcw_144
  | 145, _ => exact zcw_145
  | 146, _ => exact zcw_146
  | 147, _ => exact zcw_147
  | 148, _ => exact zcw_148
  | 149, _ => exact zcw_149
  | 150, _ => exact zcw_150
  | 151, _ => exact zcw_151
  | 152, _ => exact zcw_152
  | n + 153, h => exact absurd h (by omega)
