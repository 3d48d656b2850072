section XPE
variable {S : xS} {O : Nat → Option xi_O} {b n z k : Nat} {rest : List Value} {p : Option xi_O}
theorem al_pp {o : xi_O} {t : Nat × Nat × Nat} (h : mkH S (100 + n) = o) (hne : 100 + n ≠ b) : ov (upO (upO O b p) (100 + n) (some o)) (hS S t) = ov (upO (upO O (100 + n) none) b p) (hS S t) := by
  rw [ov_peel (a := 100 + n) h, upO_c hne]
/-- a new array that is at once what the store has -/
theorem al_ip (hk : k ≤ 10000) (h : mkH S (100 + n) = .inl (0, k, .inl fun _ => 0)) (hne : 100 + n ≠ b) : xi_newa .int (.int (nI k) :: rest) (ov (upO O b p) (hS S (n, n, z))) = some (.ref (100 + n) :: rest, ov (upO (upO O (100 + n) none) b p) (hS S (n + 1, n + 1, z + k))) := by
  rw [al_i hk, al_pp h hne]
theorem al_bp (hk : k ≤ 10000) (h : mkH S (100 + n) = .inl (1, k, .inl fun _ => 0)) (hne : 100 + n ≠ b) : xi_newa .byte (.int (nI k) :: rest) (ov (upO O b p) (hS S (n, n, z))) = some (.ref (100 + n) :: rest, ov (upO (upO O (100 + n) none) b p) (hS S (n + 1, n + 1, z + k))) := by
  rw [al_b hk, al_pp h hne]
theorem al_zp (hk : k ≤ 10000) (h : mkH S (100 + n) = .inl (2, k, .inl fun _ => 0)) (hne : 100 + n ≠ b) : xi_newa .boolean (.int (nI k) :: rest) (ov (upO O b p) (hS S (n, n, z))) = some (.ref (100 + n) :: rest, ov (upO (upO O (100 + n) none) b p) (hS S (n + 1, n + 1, z + k))) := by
  rw [al_z hk, al_pp h hne]
end XPE
