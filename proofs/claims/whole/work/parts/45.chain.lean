section XCN
variable {n c : Nat} {cap : Nat → Nat}
theorem sumTo_cg {f f' : Nat → Nat} {n : Nat} (h : ∀ i, i < n → f i = f' i) : sumTo f n = sumTo f' n := by
  induction n with
  | zero => rfl
  | succ n ih => rw [sumTo_s, sumTo_s, ih (fun i hi => h i (by omega)), h n (by omega)]
theorem last_ok {f : Nat → Nat} (hc : c < n) (h : ∀ d, d < n → d ≠ c → f d = cap d) (hs : sumTo f n ≤ sumTo cap n) : f c ≤ cap c := by
  have e1 : sumTo f n = sumTo (upN cap c (f c)) n := sumTo_cg (fun i hi => by
    by_cases h1 : i = c
    · rw [h1, upN_e]
    · rw [upN_n h1, h i hi h1])
  have e2 := sumUp (f := cap) (v := f c) hc
  omega
/-- the chain ends because a cell has room -/
def stE (n : Nat) (cap : Nat → Nat) : Nat → xB → Nat → Prop
  | 0, _, _ => False
  | f + 1, b, c => cap c < b.1 c → stE n cap f (stp n cap b c) (nxt n c)
/-- the j cells behind c hold what their caps allow -/
def vis (n : Nat) (cap : Nat → Nat) (b : xB) (c k : Nat) : Prop := ∀ d, d < n → (d < c ∧ c ≤ d + k) ∨ (c < d ∧ c + n ≤ d + k) → b.1 d = cap d
theorem vis_s {b : xB} {k : Nat} (hn : 1 < n) (hc : c < n) (hk : k + 1 < n) (hv : vis n cap b c k) : vis n cap (stp n cap b c) (nxt n c) (k + 1) := by
  intro d hd hh
  have hx := nxt_ne (c := c) hn
  show upN (upN b.1 (nxt n c) _) c (cap c) d = cap d
  by_cases h1 : d = c
  · rw [h1, upN_e]
  · rw [upN_n h1]
    unfold nxt at hh ⊢
    by_cases h2 : c + 1 < n
    · rw [if_pos h2] at hh ⊢
      rw [upN_n (by omega)]
      exact hv d hd (by omega)
    · rw [if_neg h2] at hh ⊢
      rw [upN_n (by omega)]
      exact hv d hd (by omega)
theorem stE_of (hn : 1 < n) : ∀ f k (b : xB) c, f + k = n → 1 ≤ f → c < n → vis n cap b c k → sumTo b.1 n ≤ sumTo cap n → stE n cap f b c := by
  intro f
  induction f with
  | zero => intro k b c _ h _ _ _; omega
  | succ f ih =>
    intro k b c hk hf hc hv hs
    unfold stE
    intro ho
    by_cases h1 : f = 0
    · have := last_ok (c := c) hc (fun d hd hdc => hv d hd (by omega)) hs
      omega
    · exact ih (k + 1) _ _ (by omega) (by omega) (nxt_lt (by omega)) (vis_s hn hc (by omega) hv) (by rw [stp_sum hn hc ho]; exact hs)
theorem stE_all (hn : 1 < n) {b : xB} (hc : c < n) (hs : sumTo b.1 n ≤ sumTo cap n) : stE n cap n b c := stE_of hn n 0 b c rfl (by omega) hc (fun d hd hh => by omega) hs
end XCN
