section XCC
variable {xs : Nat → Int32} {L : Nat} {S : xS} {O : Nat → Option xi_O} {hp : xi_H} {a b g n z k i j : Nat}
def gc (x0 : Value) : xi_O := .inr (0, [x0, .int 0, .int 0])
def car (k : Nat) : xi_O := .inl (4, 8, .inr (.inr (.inr (.inr fun j => if j < k then some (131 + 9 * j) else none))))
def hk8 (O : Nat → Option xi_O) (k : Nat) : Nat → Option xi_O := fun id => if 131 ≤ id ∧ id < 131 + 9 * k then none else O id
def gk8 (S : xS) (k : Nat) : xS := (fun g => if 131 ≤ g ∧ g < 131 + 9 * k ∧ (g - 131) % 9 = 0 then rI else S.1 g, S.2)
def wk (O : Nat → Option xi_O) (k : Nat) : Nat → Option xi_O := upO (upO (hk8 O k) 129 (some (gc (.ref 130)))) 130 (some (car k))
theorem gk8_s (hk : k < 8) : pg (gk8 S k) (131 + 9 * k) rI = gk8 S (k + 1) := by
  refine Prod.ext ?_ rfl
  funext g
  show (if g = 131 + 9 * k then rI else if 131 ≤ g ∧ g < 131 + 9 * k ∧ (g - 131) % 9 = 0 then rI else S.1 g) = (if 131 ≤ g ∧ g < 131 + 9 * (k + 1) ∧ (g - 131) % 9 = 0 then rI else S.1 g)
  by_cases h : g = 131 + 9 * k
  · rw [if_pos h, if_pos (by omega)]
  · rw [if_neg h]
    by_cases h2 : 131 ≤ g ∧ g < 131 + 9 * k ∧ (g - 131) % 9 = 0
    · rw [if_pos h2, if_pos (by omega)]
    · rw [if_neg h2, if_neg (by omega)]
theorem wk_s (hk : k < 8) : upO (hole (wk O k) (131 + 9 * k)) 130 (some (.inl (4, 8, .inr (.inr (.inr (.inr (va_up (fun j => if j < k then some (131 + 9 * j) else none) k (some (131 + 9 * k))))))))) = wk O (k + 1) := by
  have h1 : va_up (fun j => if j < k then some (131 + 9 * j) else none) k (some (131 + 9 * k)) = fun j => if j < k + 1 then some (131 + 9 * j) else none := by
    funext j
    unfold va_up
    by_cases h : j = k
    · rw [h]
      simp
    · simp only [h, if_false]
      by_cases h2 : j < k
      · rw [if_pos h2, if_pos (by omega)]
      · rw [if_neg h2, if_neg (by omega)]
  rw [h1]
  funext id
  show (if id = 130 then some (car (k + 1)) else if 131 + 9 * k ≤ id ∧ id < 131 + 9 * k + 9 then none else if id = 130 then some (car k) else if id = 129 then some (gc (.ref 130)) else if 131 ≤ id ∧ id < 131 + 9 * k then none else O id) = (if id = 130 then some (car (k + 1)) else if id = 129 then some (gc (.ref 130)) else if 131 ≤ id ∧ id < 131 + 9 * (k + 1) then none else O id)
  by_cases h130 : id = 130
  · rw [if_pos h130, if_pos h130]
  · rw [if_neg h130, if_neg h130, if_neg h130]
    by_cases h129 : id = 129
    · rw [if_neg (by omega), if_pos h129, if_pos h129]
    · rw [if_neg h129, if_neg h129]
      by_cases hr : 131 + 9 * k ≤ id ∧ id < 131 + 9 * k + 9
      · rw [if_pos hr, if_pos (by omega)]
      · rw [if_neg hr]
        by_cases hq : 131 ≤ id ∧ id < 131 + 9 * k
        · rw [if_pos hq, if_pos (by omega)]
        · rw [if_neg hq, if_neg (by omega)]
end XCC
