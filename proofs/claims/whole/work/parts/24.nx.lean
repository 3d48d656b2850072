/-! Numbers in ints. -/
section XNX
variable {a b k n : Nat}
theorem nx_in (h : a < n) (hn : n < 2 ^ 31) : xi_in (nI a) n = true := by
  unfold xi_in
  rw [decide_eq_true_eq, nI_toInt (by omega)]
  omega
theorem nx_clamp (h : a < 2 ^ 31) : (nI a).toNatClampNeg = a := nI_clamp h
theorem nx_i2n (h : a < 2 ^ 32) : i2n (nI a) = a := i2n_nI h
theorem nx_l2n (h : a < 2 ^ 64) : l2n (lN a) = a := l2n_lN h
theorem nx_add : nI a + nI b = nI (a + b) := nI_add a b
theorem nx_sub (h : b ≤ a) : nI a - nI b = nI (a - b) := by
  have h1 : nI a = nI (a - b) + nI b := by
    rw [nI_add, Nat.sub_add_cancel h]
  rw [h1, Int32.add_sub_cancel]
theorem nx_pred (h : 1 ≤ a) : nI a + (-1) = nI (a - 1) := by
  have h1 : nI (a - 1) + nI 1 = nI a := by
    rw [nI_add, Nat.sub_add_cancel h]
  rw [← h1, Int32.add_assoc, show nI 1 + (-1) = (0 : Int32) from by decide, Int32.add_zero]
theorem nx_mul : nI a * nI b = nI (a * b) := (Int32.ofNat_mul a b).symm
theorem nx_lt (ha : a < 2 ^ 31) (hb : b < 2 ^ 31) : (nI a < nI b) = (a < b) := propext (nI_ltI ha hb)
theorem nx_le (ha : a < 2 ^ 31) (hb : b < 2 ^ 31) : (nI a ≤ nI b) = (a ≤ b) := propext (nI_leI ha hb)
theorem nx_eq (ha : a < 2 ^ 31) (hb : b < 2 ^ 31) : (nI a = nI b) = (a = b) := propext (nI_eq ha hb)
theorem zsl : ∀ n, n < 32 → ((nI n &&& 31).toBitVec.smod 32).toNat = n := by decide +kernel
theorem nx_shl (hk : k < 32) : nI a <<< (nI k &&& 31) = nI (a * 2 ^ k) := by
  apply Int32.toBitVec_inj.mp
  have h1 := zsl k hk
  show (BitVec.ofNat 32 a) <<< ((nI k &&& 31).toBitVec.smod 32) = BitVec.ofNat 32 (a * 2 ^ k)
  rw [BitVec.shiftLeft_eq', h1]
  apply BitVec.eq_of_toNat_eq
  rw [BitVec.toNat_shiftLeft, BitVec.toNat_ofNat, BitVec.toNat_ofNat, Nat.shiftLeft_eq, Nat.mod_mul_mod]
theorem nx_shr (hk : k < 32) (ha : a < 2 ^ 31) : nI a >>> (nI k &&& 31) = nI (a / 2 ^ k) := by
  apply Int32.toBitVec_inj.mp
  have h1 := zsl k hk
  show BitVec.sshiftRight (BitVec.ofNat 32 a) ((nI k &&& 31).toBitVec.smod 32).toNat = BitVec.ofNat 32 (a / 2 ^ k)
  rw [h1]
  have hm : (BitVec.ofNat 32 a).msb = false := by
    rw [BitVec.msb_eq_false_iff_two_mul_lt, BitVec.toNat_ofNat, Nat.mod_eq_of_lt (by omega)]
    omega
  rw [BitVec.sshiftRight_eq_of_msb_false hm]
  apply BitVec.eq_of_toNat_eq
  have h2 : a / 2 ^ k ≤ a := Nat.div_le_self _ _
  rw [BitVec.toNat_ushiftRight, BitVec.toNat_ofNat, BitVec.toNat_ofNat, Nat.shiftRight_eq_div_pow, Nat.mod_eq_of_lt (by omega), Nat.mod_eq_of_lt (by omega)]
theorem znx_and : nI a &&& nI b = nI (a &&& b) := by
  apply Int32.toBitVec_inj.mp
  show BitVec.ofNat 32 a &&& BitVec.ofNat 32 b = BitVec.ofNat 32 (a &&& b)
  exact (BitVec.ofNat_and).symm
theorem nx_and1 : nI a &&& nI 1 = nI (a % 2) := by
  rw [znx_and]
  rw [show a &&& 1 = a % 2 from Nat.and_two_pow_sub_one_eq_mod a 1]
theorem nx_andm : nI a &&& nI (2 ^ k - 1) = nI (a % 2 ^ k) := by
  rw [znx_and, Nat.and_two_pow_sub_one_eq_mod]
theorem nx_m1 : nI (2 ^ k) - nI 1 = nI (2 ^ k - 1) := nx_sub Nat.one_le_two_pow
theorem nx_or : nI a ||| nI b = nI (a ||| b) := by
  apply Int32.toBitVec_inj.mp
  show BitVec.ofNat 32 a ||| BitVec.ofNat 32 b = BitVec.ofNat 32 (a ||| b)
  exact (BitVec.ofNat_or).symm
theorem nx_dr (hb : 0 < b) (ha : a < 2 ^ 31) (h : b < 2 ^ 31) : nI a / nI b = nI (a / b) := by
  apply Int32.toInt_inj.mp
  have h2 : a / b ≤ a := Nat.div_le_self _ _
  rw [Int32.toInt_div_of_ne_right _ _ (by
    intro h1
    have := congrArg Int32.toInt h1
    rw [nI_toInt h] at this
    have h3 : (-1 : Int32).toInt = -1 := by decide
    omega), nI_toInt ha, nI_toInt h, nI_toInt (by omega)]
  rfl
theorem nx_rem : nI a - nI (a / b * b) = nI (a % b) := by
  rw [nx_sub (Nat.div_mul_le_self _ _)]
  congr 1
  have := Nat.div_add_mod a b
  have h2 := Nat.mul_comm b (a / b)
  omega
theorem nlg_i (v : Int32) : xi_nlg (.int v) = true := rfl
theorem nlg_r (v : Nat) : xi_nlg (.ref v) = true := rfl
theorem nlg_n : xi_nlg .null = true := rfl
theorem nx_kC {v : Option Value} {hp : xi_H} {κ : Option Value → xi_H → Option xi_R} : kC (some (.inl v, hp)) κ = κ v hp := rfl
theorem nx_ift {P : Prop} [Decidable P] {α : Sort _} {x y : α} (h : P) : (if P then x else y) = x := if_pos h
theorem nx_iff {P : Prop} [Decidable P] {α : Sort _} {x y : α} (h : ¬ P) : (if P then x else y) = y := if_neg h
section XNIF
variable {α : Sort _} {x y : α}
theorem nif_lt_t (h : a < b) (hb : b < 2 ^ 31) : (if nI a < nI b then x else y) = x := if_pos (nI_lt h hb)
theorem nif_lt_f (h : b ≤ a) (hb : a < 2 ^ 31) : (if nI a < nI b then x else y) = y := if_neg (nI_nlt h hb)
theorem nif_le_t (h : a ≤ b) (hb : b < 2 ^ 31) : (if nI a ≤ nI b then x else y) = x := if_pos (nI_le h hb)
theorem nif_le_f (h : b < a) (hb : a < 2 ^ 31) : (if nI a ≤ nI b then x else y) = y := if_neg (nI_ge h hb)
theorem nif_eq_t (h : a = b) : (if nI a = nI b then x else y) = x := if_pos (congrArg nI h)
theorem nif_eq_f (h : a ≠ b) (ha : a < 2 ^ 31) (hb : b < 2 ^ 31) : (if nI a = nI b then x else y) = y := if_neg (fun z => h ((nI_eq ha hb).mp z))
theorem nif_ne_t (h : a ≠ b) (ha : a < 2 ^ 31) (hb : b < 2 ^ 31) : (if ¬ nI a = nI b then x else y) = x := if_pos (fun z => h ((nI_eq ha hb).mp z))
theorem nif_ne_f (h : a = b) : (if ¬ nI a = nI b then x else y) = y := if_neg (fun z => z (congrArg nI h))
end XNIF
theorem nneg_toInt (h : b ≤ a) (ha : a < 2 ^ 31) (hb : b < 2 ^ 31) : (nI b - nI a).toInt = (b : Int) - (a : Int) := by
  rw [Int32.toInt_sub, nI_toInt ha, nI_toInt hb]
  rw [Int.bmod_eq_of_le (by omega) (by omega)]
theorem nneg_lt {n : Nat} (h : b < a) (ha : a < 2 ^ 31) (hn : n < 2 ^ 31) : nI b - nI a < nI n := by
  rw [Int32.lt_iff_toInt_lt, nneg_toInt (by omega) ha (by omega), nI_toInt hn]
  omega
theorem nneg_nle {n : Nat} (h : b < a) (ha : a < 2 ^ 31) (hn : n < 2 ^ 31) : ¬ nI n ≤ nI b - nI a := by
  rw [Int32.le_iff_toInt_le, nneg_toInt (by omega) ha (by omega), nI_toInt hn]
  omega
end XNX
