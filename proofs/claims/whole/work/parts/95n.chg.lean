section XCG
variable {xs : Nat → Int32} {L : Nat} {S : xS} {O : Nat → Option xi_O} {hp : xi_H} {a b g n z k i j : Nat} {o : xi_O} {p : Option xi_O} {f : Nat → Option Nat} {q rest : List Value}
/-- a game is put into a raw array of games -/
theorem aa_ov (h1 : O a = some (.inl (4, k, .inr (.inr (.inr (.inr f)))))) (h2 : (ov O hp).1 b = .inr (1, q)) (hi : i < k) (hk : k < 2 ^ 20) : xi_aast (.ref b :: .int (nI i) :: .ref a :: rest) (ov O hp) = some (rest, ov (upO O a (some (.inl (4, k, .inr (.inr (.inr (.inr (va_up f i (some b))))))))) hp) := by
  unfold xi_aast
  simp only [ov_s (hp := hp) h1, h2, nx_in hi (show k < 2 ^ 31 by omega), if_true, nx_clamp (show i < 2 ^ 31 by omega)]
  have h := ov_sets (O := O) (hp := hp) (a := a) (o := (.inl (4, k, .inr (.inr (.inr (.inr (va_up f i (some b)))))) : xi_O))
  exact congrArg (fun z => some (rest, z)) h
end XCG
