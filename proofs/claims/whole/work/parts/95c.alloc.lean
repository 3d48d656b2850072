section XAL
variable {xs : Nat → Int32} {L : Nat} {S : xS} {O : Nat → Option xi_O} {g n z k : Nat} {rest : List Value}
theorem al_c (hk : k ≤ 10000) : (0 : Int32) ≤ nI k ∧ nI k ≤ 10000 := ⟨nI_le (a := 0) (Nat.zero_le _) (by omega), nI_le (b := 10000) hk (by decide)⟩
theorem al_i (hk : k ≤ 10000) : xi_newa .int (.int (nI k) :: rest) (ov O (hS S (n, n, z))) = some (.ref (100 + n) :: rest, ov (upO O (100 + n) (some (.inl (0, k, .inl fun _ => 0)))) (hS S (n + 1, n + 1, z + k))) := by
  show (if (0 : Int32) ≤ nI k ∧ nI k ≤ 10000 then xi_mk (.inl (0, (nI k).toNatClampNeg, .inl fun _ => 0)) (nI k).toNatClampNeg rest (ov O (hS S (n, n, z))) else none) = _
  rw [if_pos (al_c hk), nI_clamp (by omega), ov_mk]
theorem al_b (hk : k ≤ 10000) : xi_newa .byte (.int (nI k) :: rest) (ov O (hS S (n, n, z))) = some (.ref (100 + n) :: rest, ov (upO O (100 + n) (some (.inl (1, k, .inl fun _ => 0)))) (hS S (n + 1, n + 1, z + k))) := by
  show (if (0 : Int32) ≤ nI k ∧ nI k ≤ 10000 then xi_mk (.inl (1, (nI k).toNatClampNeg, .inl fun _ => 0)) (nI k).toNatClampNeg rest (ov O (hS S (n, n, z))) else none) = _
  rw [if_pos (al_c hk), nI_clamp (by omega), ov_mk]
theorem al_z (hk : k ≤ 10000) : xi_newa .boolean (.int (nI k) :: rest) (ov O (hS S (n, n, z))) = some (.ref (100 + n) :: rest, ov (upO O (100 + n) (some (.inl (2, k, .inl fun _ => 0)))) (hS S (n + 1, n + 1, z + k))) := by
  show (if (0 : Int32) ≤ nI k ∧ nI k ≤ 10000 then xi_mk (.inl (2, (nI k).toNatClampNeg, .inl fun _ => 0)) (nI k).toNatClampNeg rest (ov O (hS S (n, n, z))) else none) = _
  rw [if_pos (al_c hk), nI_clamp (by omega), ov_mk]
theorem al_l (hk : k ≤ 10000) : xi_newa .long (.int (nI k) :: rest) (ov O (hS S (n, n, z))) = some (.ref (100 + n) :: rest, ov (upO O (100 + n) (some (.inl (3, k, .inr (.inl fun _ => 0))))) (hS S (n + 1, n + 1, z + k))) := by
  show (if (0 : Int32) ≤ nI k ∧ nI k ≤ 10000 then xi_mk (.inl (3, (nI k).toNatClampNeg, .inr (.inl fun _ => 0))) (nI k).toNatClampNeg rest (ov O (hS S (n, n, z))) else none) = _
  rw [if_pos (al_c hk), nI_clamp (by omega), ov_mk]
theorem al_q {own idx : Nat} (hk : k ≤ 10000) (h : xi_new own idx = some 1) : xi_newq own idx (.int (nI k) :: rest) (ov O (hS S (n, n, z))) = some (.ref (100 + n) :: rest, ov (upO O (100 + n) (some (.inl (4, k, .inr (.inr (.inr (.inr fun _ => none))))))) (hS S (n + 1, n + 1, z + k))) := by
  show (if 0 ≤ nI k ∧ nI k ≤ 10000 ∧ xi_new own idx = some 1 then xi_mk (.inl (4, (nI k).toNatClampNeg, .inr (.inr (.inr (.inr fun _ => none))))) (nI k).toNatClampNeg rest (ov O (hS S (n, n, z))) else none) = _
  rw [if_pos ⟨(al_c hk).1, (al_c hk).2, h⟩, nI_clamp (by omega), ov_mk]
theorem al_o {own idx ci : Nat} (h : xi_new own idx = some ci) : xi_newo own idx rest (ov O (hS S (n, n, z))) = some (.ref (100 + n) :: rest, ov (upO O (100 + n) (some (.inr (ci, xi_df ci)))) (hS S (n + 1, n + 1, z + (xi_df ci).length))) := by
  unfold xi_newo
  rw [h]
  exact ov_mk
end XAL
