section XBN
variable {n c : Nat} {cap : Nat → Nat}
theorem stp_lo {b : xB} {e : Nat} (hn : 1 < n) (hc : c < n) (h1 : ∀ d, d < n → d ≠ c → b.1 d ≤ cap d) (h2 : b.1 c ≤ cap c + e) (ho : cap c < b.1 c) : (∀ d, d < n → d ≠ nxt n c → (stp n cap b c).1 d ≤ cap d) ∧ (stp n cap b c).1 (nxt n c) ≤ cap (nxt n c) + e := by
  have hx := nxt_ne (c := c) hn
  have hl := nxt_lt (n := n) (c := c) (by omega)
  constructor
  · intro d hd hdn
    show upN (upN b.1 (nxt n c) _) c (cap c) d ≤ cap d
    by_cases h : d = c
    · rw [h, upN_e]
      exact Nat.le_refl _
    · rw [upN_n h, upN_n hdn]
      exact h1 d hd h
  · show upN (upN b.1 (nxt n c) _) c (cap c) (nxt n c) ≤ _
    rw [upN_n hx, upN_e]
    have := h1 _ hl hx
    omega
theorem stO_of {e : Nat} (hn : 1 < n) (hcap : ∀ d, d < n → cap d ≤ 8) (he : e ≤ 8) : ∀ f (b : xB) c, c < n → (∀ d, d < n → d ≠ c → b.1 d ≤ cap d) → b.1 c ≤ cap c + e → stO n cap f b c := by
  intro f
  induction f with
  | zero => intro b c _ _ _; exact trivial
  | succ f ih =>
    intro b c hc h1 h2
    have hx := nxt_ne (c := c) hn
    have hl := nxt_lt (n := n) (c := c) (by omega)
    have q1 := hcap c hc
    have q2 := hcap _ hl
    have q3 := h1 _ hl hx
    unfold stO
    refine ⟨by omega, fun ho => ⟨by omega, ?_⟩⟩
    have h3 := stp_lo hn hc h1 h2 ho
    exact ih _ _ hl h3.1 h3.2
theorem stF_end {e : Nat} (hn : 1 < n) : ∀ f (b : xB) c, c < n → (∀ d, d < n → d ≠ c → b.1 d ≤ cap d) → b.1 c ≤ cap c + e → stE n cap f b c → ∀ d, d < n → (stF n cap f b c).1.1 d ≤ cap d := by
  intro f
  induction f with
  | zero => intro b c _ _ _ h; exact h.elim
  | succ f ih =>
    intro b c hc h1 h2 hE d hd
    unfold stE at hE
    unfold stF
    by_cases ho : cap c < b.1 c
    · rw [if_pos ho]
      have h3 := stp_lo hn hc h1 h2 ho
      exact ih _ _ (nxt_lt (by omega)) h3.1 h3.2 (hE ho) d hd
    · rw [if_neg ho]
      by_cases h : d = c
      · rw [h]
        show b.1 c ≤ cap c
        omega
      · exact h1 d hd h
end XBN
