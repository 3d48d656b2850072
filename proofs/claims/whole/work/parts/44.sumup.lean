section XSM
variable {f : Nat → Nat} {n i v c : Nat}
theorem sumUp_ge (h : n ≤ i) : sumTo (upN f i v) n = sumTo f n := by
  induction n with
  | zero => rfl
  | succ n ih =>
    rw [sumTo_s, sumTo_s, ih (by omega), upN_n (by omega)]
theorem sumUp (h : i < n) : sumTo (upN f i v) n + f i = sumTo f n + v := by
  induction n with
  | zero => omega
  | succ n ih =>
    rw [sumTo_s, sumTo_s]
    by_cases h1 : i = n
    · subst h1
      rw [sumUp_ge (Nat.le_refl _), upN_e]
      omega
    · rw [upN_n (fun z => h1 z.symm)]
      have := ih (by omega)
      omega
theorem stp_sum {cap : Nat → Nat} {b : xB} (hn : 1 < n) (hc : c < n) (ho : cap c < b.1 c) : sumTo (stp n cap b c).1 n = sumTo b.1 n := by
  have hx := nxt_ne (c := c) hn
  have hl := nxt_lt (n := n) (c := c) (by omega)
  have e1 := sumUp (f := b.1) (v := b.1 (nxt n c) + (b.1 c - cap c)) hl
  have e2 := sumUp (f := upN b.1 (nxt n c) (b.1 (nxt n c) + (b.1 c - cap c))) (v := cap c) hc
  rw [upN_n (fun z => hx z.symm)] at e2
  show sumTo (upN (upN b.1 (nxt n c) (b.1 (nxt n c) + (b.1 c - cap c))) c (cap c)) n = _
  omega
theorem stF_sum {cap : Nat → Nat} (hn : 1 < n) : ∀ k (b : xB) c, c < n → sumTo (stF n cap k b c).1.1 n = sumTo b.1 n := by
  intro k
  induction k with
  | zero => intro b c _; rfl
  | succ k ih =>
    intro b c hc
    unfold stF
    split
    · next h1 => exact (ih _ _ (nxt_lt (by omega))).trans (stp_sum hn hc h1)
    · rfl
end XSM
