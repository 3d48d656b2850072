section XRO
variable {n c i : Nat} {cap : Nat → Nat}
theorem rcap_0 : rcap n cap 0 = cap (n - 1) := upN_e _ _ _
theorem rcap_s (h : i + 1 < n) : rcap n cap (i + 1) = cap i := by
  unfold rcap rca
  rw [upN_n (by omega), if_pos ⟨by omega, h⟩, Nat.add_sub_cancel]
theorem rcap_out (h : n ≤ i) (h0 : 0 < n) : rcap n cap i = cap i := by
  unfold rcap rca
  rw [upN_n (by omega), if_neg (by omega)]
theorem rcap_nxt (h : c < n) : rcap n cap (nxt n c) = cap c := by
  unfold nxt
  by_cases h1 : c + 1 < n
  · rw [if_pos h1, rcap_s h1]
  · rw [if_neg h1, rcap_0, show n - 1 = c by omega]
theorem rcap_sum : ∀ k, k + 1 ≤ n → sumTo (rcap n cap) (k + 1) = cap (n - 1) + sumTo cap k := by
  intro k
  induction k with
  | zero =>
    intro _
    rw [sumTo_s, rcap_0]
    show 0 + _ = _ + 0
    omega
  | succ k ih =>
    intro hk
    rw [sumTo_s, ih (by omega), rcap_s (by omega), sumTo_s]
    omega
theorem rcap_sumn (hn : 0 < n) : sumTo (rcap n cap) n = sumTo cap n := by
  have h1 := rcap_sum (n := n) (cap := cap) (n - 1) (by omega)
  have h2 := sumTo_s cap (n - 1)
  rw [show n - 1 + 1 = n by omega] at h1 h2
  omega
theorem stF_out (hn : 1 < n) : ∀ f (b : xB) c, c < n → ∀ d, n ≤ d → (stF n cap f b c).1.1 d = b.1 d ∧ (stF n cap f b c).1.2 d = b.2 d := by
  intro f
  induction f with
  | zero => intro b c _ d _; exact ⟨rfl, rfl⟩
  | succ f ih =>
    intro b c hc d hd
    have hl := nxt_lt (n := n) (c := c) (by omega)
    unfold stF
    split
    · have h1 := ih (stp n cap b c) (nxt n c) hl d hd
      refine ⟨h1.1.trans ?_, h1.2.trans ?_⟩
      · show upN (upN b.1 (nxt n c) _) c _ d = _
        rw [upN_n (by omega), upN_n (by omega)]
      · show upN (upN b.2 (nxt n c) _) c _ d = _
        rw [upN_n (by omega), upN_n (by omega)]
    · exact ⟨rfl, rfl⟩
theorem stF_n : ∀ f (b : xB) c, (stF n cap f b c).2 ≤ f := by
  intro f
  induction f with
  | zero => intro b c; exact Nat.le_refl _
  | succ f ih =>
    intro b c
    unfold stF
    split
    · exact Nat.succ_le_succ (ih _ _)
    · exact Nat.zero_le _
/-- ahead of the ring's end: the cells behind are full at most, those ahead stand as before the caps went round -/
theorem rch1 (hn : 1 < n) (h8 : ∀ d, d < n → cap d ≤ 8) : ∀ f (b : xB) c, c < n → (∀ d, d < c → b.1 d ≤ cap d) → b.1 c ≤ cap c + cap (nxt n c) → (∀ d, c < d → d < n → b.1 d ≤ cap (nxt n d)) → stO n cap f b c ∧ (stE n cap f b c → ∃ m, c < m ∧ m ≤ n ∧ (∀ d, d < m → (stF n cap f b c).1.1 d ≤ cap d) ∧ ∀ d, m ≤ d → d < n → (stF n cap f b c).1.1 d ≤ cap (nxt n d)) := by
  intro f
  induction f with
  | zero => intro b c _ _ _ _; exact ⟨trivial, fun h => h.elim⟩
  | succ f ih =>
    intro b c hc h1 h2 h3
    have hx := nxt_ne (c := c) hn
    have hl := nxt_lt (n := n) (c := c) (by omega)
    have q1 := h8 c hc
    have q2 := h8 _ hl
    by_cases ho : cap c < b.1 c
    · by_cases hw : c + 1 < n
      · have e : nxt n c = c + 1 := if_pos hw
        have q3 := h3 (c + 1) (by omega) hw
        have q4 := h8 (nxt n (c + 1)) (nxt_lt (by omega))
        rw [e] at h2 q2
        have hs : (stp n cap b c).1 (c + 1) = b.1 (c + 1) + (b.1 c - cap c) := by
          show upN (upN b.1 (nxt n c) (b.1 (nxt n c) + (b.1 c - cap c))) c (cap c) (c + 1) = _
          rw [upN_n (by omega), e, upN_e]
        have hsc : (stp n cap b c).1 c = cap c := upN_e _ _ _
        have hso : ∀ d, d ≠ c → d ≠ c + 1 → (stp n cap b c).1 d = b.1 d := by
          intro d hd1 hd2
          show upN (upN b.1 (nxt n c) _) c (cap c) d = _
          rw [upN_n hd1, e, upN_n hd2]
        have hi := ih (stp n cap b c) (c + 1) hw (fun d hd => by
          by_cases hdc : d = c
          · rw [hdc, hsc]
            exact Nat.le_refl _
          · rw [hso d hdc (by omega)]
            exact h1 d (by omega)) (by rw [hs]; omega) (fun d hd hdn => by
          rw [hso d (by omega) (by omega)]
          exact h3 d (by omega) hdn)
        refine ⟨?_, fun hE => ?_⟩
        · unfold stO
          rw [e]
          exact ⟨by omega, fun _ => ⟨by omega, hi.1⟩⟩
        · unfold stE at hE
          have hE2 := hE ho
          rw [e] at hE2
          obtain ⟨m, m1, m2, m3, m4⟩ := hi.2 hE2
          refine ⟨m, by omega, m2, ?_⟩
          unfold stF
          rw [if_pos ho, e]
          exact ⟨m3, m4⟩
      · have hlo : ∀ d, d < n → d ≠ c → b.1 d ≤ cap d := fun d hd hdc => h1 d (by omega)
        refine ⟨stO_of (e := 8) hn h8 (by omega) (f + 1) b c hc hlo (by omega), fun hE => ⟨n, by omega, Nat.le_refl _, ?_, fun d hd1 hd2 => by omega⟩⟩
        exact stF_end (e := 8) hn (f + 1) b c hc hlo (by omega) hE
    · refine ⟨?_, fun _ => ⟨c + 1, by omega, by omega, ?_⟩⟩
      · unfold stO
        exact ⟨by omega, fun h => absurd h ho⟩
      · unfold stF
        rw [if_neg ho]
        refine ⟨fun d hd => ?_, fun d hd1 hd2 => h3 d (by omega) hd2⟩
        by_cases hdc : d = c
        · show b.1 d ≤ cap d
          rw [hdc]
          omega
        · exact h1 d (by omega)
theorem rotL_out (hn : 1 < n) : ∀ f (b : xB) c, f + c = n → ∀ d, n ≤ d → (rotL n cap f b c).1 d = b.1 d ∧ (rotL n cap f b c).2 d = b.2 d := by
  intro f
  induction f with
  | zero => intro b c _ d _; exact ⟨rfl, rfl⟩
  | succ f ih =>
    intro b c hc d hd
    unfold rotL
    have h1 := ih (stF n cap n b c).1 (c + 1) (by omega) d hd
    have h2 := stF_out (cap := cap) hn n b c (by omega) d hd
    exact ⟨h1.1.trans h2.1, h1.2.trans h2.2⟩
theorem rotL_wf (hn : 1 < n) : ∀ f (b : xB) c, f + c = n → bwf n b → bwf n (rotL n cap f b c) := by
  intro f
  induction f with
  | zero => intro b c _ h; exact h
  | succ f ih =>
    intro b c hc hw
    unfold rotL
    exact ih _ (c + 1) (by omega) (stF_wf hn n b c hw (by omega))
theorem stO_stop {b : xB} (h : b.1 i ≤ cap i) (h8 : cap i ≤ 8) : ∀ f, stO n cap f b i := by
  intro f
  cases f with
  | zero => exact trivial
  | succ f =>
    unfold stO
    exact ⟨by omega, fun z => by omega⟩
theorem stF_stop {b : xB} (h : b.1 i ≤ cap i) : ∀ f, stF n cap f b i = (b, 0) := by
  intro f
  cases f with
  | zero => rfl
  | succ f =>
    unfold stF
    rw [if_neg (by omega)]
theorem rot_ok (hn : 1 < n) (h8 : ∀ d, d < n → cap d ≤ 8) : ∀ f (b : xB) i m, f + i = n → i ≤ m → m ≤ n → sumTo b.1 n ≤ sumTo cap n → (∀ d, d < m → b.1 d ≤ cap d) → (∀ d, m ≤ d → d < n → b.1 d ≤ cap (nxt n d)) → rotO n cap f b i ∧ (∀ d, d < n → (rotL n cap f b i).1 d ≤ cap d) ∧ sumTo (rotL n cap f b i).1 n = sumTo b.1 n := by
  intro f
  induction f with
  | zero =>
    intro b i m hi him hm hs h1 h2
    exact ⟨trivial, fun d hd => h1 d (by omega), rfl⟩
  | succ f ih =>
    intro b i m hi him hm hs h1 h2
    have hin : i < n := by omega
    unfold rotO rotL
    by_cases hmi : i < m
    · have h3 := h1 i hmi
      rw [stF_stop h3]
      have h4 := ih b (i + 1) m (by omega) (by omega) hm hs h1 h2
      exact ⟨⟨stO_stop h3 (h8 i hin) _, h4.1⟩, h4.2⟩
    · have hmi2 : m = i := by omega
      subst hmi2
      have hE := stE_all (cap := cap) (b := b) (c := m) hn hin hs
      have hsum := stF_sum (cap := cap) hn n b m hin
      have h3 := rch1 hn h8 n b m hin h1 (by have := h2 m (Nat.le_refl _) hin; omega) (fun d hd hdn => h2 d (by omega) hdn)
      obtain ⟨m', a1, a2, a3, a4⟩ := h3.2 hE
      have h4 := ih (stF n cap n b m).1 (m + 1) m' (by omega) a1 a2 (by rw [hsum]; exact hs) a3 a4
      exact ⟨⟨h3.1, h4.1⟩, h4.2.1, h4.2.2.trans hsum⟩
end XRO
