section XBG
variable {n c d k s : Nat} {cap : Nat → Nat}
theorem brg_wf {b : xB} (hc : c < n) (hcd : c ≠ d) (hw : bwf n b) (hk : k ≤ b.1 c) : bwf n (brg b c d k s) := by
  intro x hx
  have hcd' : d ≠ c := fun z => hcd z.symm
  unfold brg
  by_cases h1 : x = d
  · subst h1
    show upN _ x _ x < 2 ^ upN _ x _ x
    rw [upN_e, upN_e]
    refine zmt (Nat.mod_lt _ (Nat.two_pow_pos _)) ?_
    rw [Nat.div_lt_iff_lt_mul (Nat.two_pow_pos _), ← Nat.pow_add, show k + (b.1 c - k) = b.1 c by omega]
    exact hw c hc
  · show upN _ d _ x < 2 ^ upN _ d _ x
    rw [upN_n h1, upN_n h1]
    by_cases h2 : x = c
    · subst h2
      rw [upN_e, upN_e, upN_n h1]
      exact Nat.mod_lt _ (Nat.two_pow_pos _)
    · rw [upN_n h2, upN_n h2, upN_n h1, upN_n h1]
      exact hw x hx
theorem brg_lo {b : xB} (hc : c < n) (hcd : c ≠ d) (h1 : ∀ x, x < n → b.1 x ≤ cap x) (hd : d < n) : (∀ x, x < n → x ≠ d → (brg b c d k s).1 x ≤ cap x) ∧ (brg b c d k s).1 d ≤ cap d + k := by
  have hcd' : d ≠ c := fun z => hcd z.symm
  unfold brg
  constructor
  · intro x hx hxd
    show upN _ d _ x ≤ cap x
    rw [upN_n hxd]
    by_cases h2 : x = c
    · subst h2
      rw [upN_e, upN_n hxd]
      have := h1 x hx
      omega
    · rw [upN_n h2, upN_n hxd]
      exact h1 x hx
  · show upN _ d _ d ≤ _
    rw [upN_e]
    have := h1 d hd
    omega
theorem brg_sum {b : xB} (hc : c < n) (hd : d < n) (hcd : c ≠ d) (hk : k ≤ b.1 c) (hs : s ≤ b.1 d) : sumTo (brg b c d k s).1 n + s = sumTo b.1 n := by
  have hcd' : d ≠ c := fun z => hcd z.symm
  have e1 := sumUp (f := b.1) (v := b.1 d - s) hd
  have e2 := sumUp (f := upN b.1 d (b.1 d - s)) (v := upN b.1 d (b.1 d - s) c - k) hc
  have e3 := sumUp (f := upN (upN b.1 d (b.1 d - s)) c (upN b.1 d (b.1 d - s) c - k)) (v := b.1 d - s + k) hd
  rw [upN_n hcd] at e2
  rw [upN_n hcd', upN_e, upN_n hcd] at e3
  show sumTo (upN (upN (upN b.1 d (b.1 d - s)) c (upN b.1 d (b.1 d - s) c - k)) d (b.1 d - s + k)) n + s = _
  rw [upN_n hcd]
  omega
end XBG
