/-! Digits of 8. -/
def zdg (n i : Nat) : Nat := n / 8 ^ i % 8
def zwd (n i v : Nat) : Nat := n - zdg n i * 8 ^ i + v * 8 ^ i
theorem zshr_k {x : Int} (hx : zr x) (y : Int) (k : Nat) (e : ((Int32.ofInt y &&& 31).toBitVec.smod 32).toNat = k) : zshr x y = x / 2 ^ k := by
  have h := zi_toInt hx
  unfold zshr
  show (Int32.ofInt x >>> (Int32.ofInt y &&& 31)).toBitVec.toInt = _
  rw [Int32.toBitVec_shiftRight, BitVec.toInt_sshiftRight', e, Int.shiftRight_eq_div_pow]
  show (Int32.ofInt x).toInt / _ = _
  rw [h]
  rfl
theorem zdigit_ok : ∀ n : Nat, n < 512 → ∀ i : Nat, i < 3 → zand (zshr (n : Int) (3 * (i : Int))) 7 = ((zdg n i : Nat) : Int) := by decide +kernel
theorem zwdig_ok : ∀ n : Nat, n < 512 → ∀ i : Nat, i < 3 → ∀ v : Nat, v < 8 → zor (zand (n : Int) (zxor (zshl 7 (3 * (i : Int))) (-1))) (zshl (v : Int) (3 * (i : Int))) = ((zwd n i v : Nat) : Int) := by decide +kernel
theorem zdg_lt (n i : Nat) : zdg n i < 8 := Nat.mod_lt _ (by decide)
theorem zwd_lt : ∀ n : Nat, n < 512 → ∀ i : Nat, i < 3 → ∀ v : Nat, v < 8 → zwd n i v < 512 := by decide +kernel
theorem zdg_wd : ∀ n : Nat, n < 512 → ∀ i : Nat, i < 3 → ∀ v : Nat, v < 8 → ∀ j : Nat, j < 3 → zdg (zwd n i v) j = if j = i then v else zdg n j := by decide +kernel
theorem zdg_ext : ∀ n : Nat, n < 512 → n = zdg n 0 + 8 * zdg n 1 + 64 * zdg n 2 := by decide +kernel
