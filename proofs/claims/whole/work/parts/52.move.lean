section XMG
variable {xs : Nat → Int32} {L : Nat} {S : xS} {t : Nat × Nat × Nat} {r q r0 : xG} {m g b c n code : Nat}
def mvT (r : xG) (code : Nat) : Nat := tgt (r 1 3) (code / 100) (code / 10 % 10) (code % 10)
/-- the game behind a move -/
def mvR (r : xG) (code : Nat) : xG := tlR (if 3000 ≤ code then drR r (code - 3000) else if 2000 ≤ code then roR r (code - 2000) else crR r (code / 100) (mvT r code) (code % 10))
def mvS (r : xG) (code : Nat) : Nat := if 2000 ≤ code then 0 else stlR r (code / 100) (mvT r code) (code % 10)
theorem rule_d (h0 : rule r code = 0) (h3 : 3000 ≤ code) : r 3 (code - 3000) < r 2 (code - 3000) ∧ r 5 (r 0 4) ≠ 0 ∧ ctl (r 3 (code - 3000)) (r 4 (code - 3000)) ≠ 3 - r 0 4 := by
  unfold rule rdrop at h0
  rw [if_pos h3] at h0
  split at h0
  · omega
  · split at h0
    · omega
    · split at h0
      · omega
      · split at h0
        · omega
        · next a1 a2 a3 => exact ⟨by omega, a3, a1⟩
theorem rule_r (h0 : rule r code = 0) (h3 : ¬ 3000 ≤ code) (h2 : 2000 ≤ code) : 2 ≤ r 3 (code - 2000) ∧ ctl (r 3 (code - 2000)) (r 4 (code - 2000)) = r 0 4 := by
  unfold rule at h0
  rw [if_neg h3, if_pos h2] at h0
  split at h0
  · omega
  · split at h0
    · omega
    · split at h0
      · omega
      · next a1 a2 => exact ⟨by omega, by omega⟩
theorem rule_c (h0 : rule r code = 0) (h2 : ¬ 2000 ≤ code) : code % 10 ≤ r 3 (code / 100) ∧ ctl (r 3 (code / 100)) (r 4 (code / 100)) = r 0 4 := by
  unfold rule at h0
  rw [if_neg (show ¬ 3000 ≤ code by omega), if_neg h2] at h0
  split at h0
  · omega
  · split at h0
    · omega
    · split at h0
      · omega
      · next a1 a2 => exact ⟨by omega, by omega⟩
theorem isC_c (hn : n ≤ 12) (hc : isC n code) (h2 : ¬ 2000 ≤ code) : code / 100 < n ∧ code / 10 % 10 < 2 ∧ 1 ≤ code % 10 ∧ code % 10 ≤ 4 ∧ 100 * (code / 100) + 10 * (code / 10 % 10) + code % 10 = code := by
  unfold isC at hc
  omega
theorem mv_gp (h : gd m r) (hc : isC (r 1 3) code) (h0 : rule r code = 0) : gp m (if 3000 ≤ code then drR r (code - 3000) else if 2000 ≤ code then roR r (code - 2000) else crR r (code / 100) (mvT r code) (code % 10)) := by
  have hn := h.1.1
  by_cases h3 : 3000 ≤ code
  · rw [if_pos h3]
    exact dr_gp h (by unfold isC at hc; omega) (rule_d h0 h3).1
  · rw [if_neg h3]
    by_cases h2 : 2000 ≤ code
    · rw [if_pos h2]
      exact ro_gp h (by unfold isC at hc; omega) (by have := (rule_r h0 h3 h2).1; omega)
    · rw [if_neg h2]
      have q1 := isC_c hn.2 hc h2
      exact cr_gp h q1.1 (tgt_lt hn.1 q1.1 q1.2.2.2.1) (tgt_ne hn.1 q1.1 q1.2.2.2.1 q1.2.2.1) q1.2.2.2.1 (rule_c h0 h2).1
theorem mvq_n (r : xG) (code : Nat) : (if 3000 ≤ code then drR r (code - 3000) else if 2000 ≤ code then roR r (code - 2000) else crR r (code / 100) (mvT r code) (code % 10)) 1 3 = r 1 3 := by
  split
  · rfl
  · split <;> rfl
theorem mv_gd (h : gd m r) (hc : isC (r 1 3) code) (h0 : rule r code = 0) : gd (m + 1) (mvR r code) ∧ mvR r code 1 3 = r 1 3 := by
  have h1 := tl_gd (mv_gp h hc h0)
  exact ⟨h1.1, h1.2.1.trans (mvq_n r code)⟩
/-- makeMove, a move that no rule refuses -/
theorem s11 (hG : isG g = true) (hm : m < 2 ^ 20) (h : gd m r) (hc : isC (r 1 3) code) (h0 : rule r code = 0) : ev xs L 11 0 [.ref g, .int (nI code), .null, .null, .null, .null] [] (hS (pg S g r) t) = some (.inl (some (.int (nI (mvS r code)))), hS (pg S g (mvR r code)) t) := by
  have hn := h.1.1
  have hq := mv_gp h hc h0
  have htl := (tl_gd hq).2.2
  obtain ⟨hg, hl, hnr, hp, h5⟩ := h
  have ht := hg.2.2.2.1
  have ht2 : r 0 4 = 1 ∨ r 0 4 = 2 := by omega
  have hb : bnd r := ⟨by omega, fun c hc => (hg.2.1 c hc).1⟩
  have h6 := hg.2.2.2.2.2.2.1
  unfold mvR mvS
  by_cases h3 : 3000 ≤ code
  · rw [if_pos h3] at htl hq
    rw [if_pos h3, if_pos (show 2000 ≤ code by omega)]
    have hr := rule_d h0 h3
    have hcn : code - 3000 < r 1 3 := by unfold isC at hc; omega
    have hqc := hg.2.1 (code - 3000) (by omega)
    have e := s11d (xs := xs) (L := L) (S := S) (t := t) (c := code - 3000) hG hb hcn ht2 (by omega) h6 (by omega) (res_le hg) (by omega) hqc.2.2 (fun _ => htl)
    rw [show 3000 + (code - 3000) = code by omega] at e
    exact e
  · rw [if_neg h3] at htl hq
    rw [if_neg h3]
    by_cases h2 : 2000 ≤ code
    · rw [if_pos h2] at htl hq
      rw [if_pos h2, if_pos h2]
      have hr := rule_r h0 h3 h2
      have hcn : code - 2000 < r 1 3 := by unfold isC at hc; omega
      have hqc := hg.2.1 (code - 2000) (by omega)
      have e := s11r (xs := xs) (L := L) (S := S) (t := t) (c := code - 2000) hG hb hcn ht2 (by omega) h6 (by omega) (by omega) hqc.2.2 (fun _ => htl)
      rw [show 2000 + (code - 2000) = code by omega] at e
      exact e
    · rw [if_neg h2] at htl hq
      rw [if_neg h2, if_neg h2]
      have hr := rule_c h0 h2
      have q1 := isC_c hn.2 hc h2
      have hT := tgt_lt (c := code / 100) (d := code / 10 % 10) (k := code % 10) hn.1 q1.1 q1.2.2.2.1
      have hcT := tgt_ne (c := code / 100) (d := code / 10 % 10) (k := code % 10) hn.1 q1.1 q1.2.2.2.1 q1.2.2.1
      have cb := cr_bd hg hl q1.1 hT hcT q1.2.2.2.1 hr.1
      have hp6 : r 6 (r 0 4) < 2 ^ 30 := by
        rcases ht2 with z | z
        · rw [z]; have := hp.1; omega
        · rw [z]; have := hp.2; omega
      have e := s11c (xs := xs) (L := L) (S := S) (t := t) (c := code / 100) (d := code / 10 % 10) (k := code % 10) hG hb hn.1 (fun c hc => ⟨(hg.2.1 c hc).1, by have := (hg.2.1 c hc).2.1; omega, (hg.2.1 c hc).2.2⟩) q1.1 q1.2.1 q1.2.2.1 q1.2.2.2.1 ht2 (by omega) h6 hp6 hr.1 (fun c hc => by have := (hg.2.1 c hc).2.1; omega) cb.1 cb.2.1 (fun _ => htl)
      rw [q1.2.2.2.2] at e
      exact e
theorem up2_cBa {a b i v : Nat} (h : ¬ a = 7) : up2 (cB r r0) b i v a = up2 r b i v a := by
  funext i'
  simp [up2, cB, h]
theorem dr_cB : drR (cB r r0) c = cB (drR r c) r0 := by
  funext a
  by_cases h : a = 7
  · subst h
    rfl
  · simp [drR, upR, up2_cBa h, cB, h]
theorem ro_cB : roR (cB r r0) c = cB (roR r c) r0 := by
  funext a
  by_cases h : a = 7
  · subst h
    rfl
  · simp [roR, upR, cB, h]
theorem cr_cB {T k : Nat} : crR (cB r r0) c T k = cB (crR r c T k) r0 := by
  funext a
  by_cases h : a = 7
  · subst h
    rfl
  · simp [crR, crB, stlR, upR, up2_cBa h, cB, h]
theorem rt_cB : rtR (cB r r0) = cB (rtR r) r0 := by
  funext a
  by_cases h : a = 7
  · subst h
    rfl
  · simp [rtR, upR, cB, h]
theorem up_cB {a i v : Nat} (ha : a ≠ 7) : up2 (cB r r0) a i v = cB (up2 r a i v) r0 := by
  funext a'
  by_cases h : a' = 7
  · subst h
    funext i'
    simp [up2, cB, show ¬ (7 = a) from fun z => ha z.symm]
  · funext i'
    simp [up2, cB, h]
theorem tl_cB : tlR (cB r r0) = cB (tlR r) r0 := by
  unfold tlR
  rw [show cB r r0 0 6 = r 0 6 from rfl, show cB r r0 0 5 = r 0 5 from rfl, show cB r r0 0 4 = r 0 4 from rfl]
  by_cases h : 0 < r 0 6 ∧ (r 0 5 + 1) % r 0 6 = 0
  · rw [if_pos h, if_pos h, up_cB (by decide), rt_cB, up_cB (by decide)]
  · rw [if_neg h, if_neg h, up_cB (by decide), up_cB (by decide)]
theorem mv_cB : mvR (cB r r0) code = cB (mvR r code) r0 := by
  unfold mvR
  rw [show mvT (cB r r0) code = mvT r code from rfl, ← tl_cB]
  congr 1
  split
  · exact dr_cB
  · split
    · exact ro_cB
    · exact cr_cB
theorem rule_cB : rule (cB r r0) code = rule r code := rfl
theorem mvS_cB : mvS (cB r r0) code = mvS r code := rfl
theorem ky_cB (p : Nat) : ky (cB r r0) p = ky r p := rfl
theorem cB_cB {r1 : xG} : cB (cB r r1) r0 = cB r r0 := by
  funext a
  unfold cB
  split
  · rfl
  · rfl
/-- the rest of a board that is there to try moves on -/
def jk (r : xG) : Prop := nrm r ∧ r 7 1 ≤ 20 ∧ r 7 2 < 20
theorem gd_jk (h : gd m r) : jk r := ⟨h.2.2.1, h.1.2.2.2.2.2.1⟩
theorem gd_cB (h : gd m r) (hj : jk r0) : gd m (cB r r0) := ⟨⟨h.1.1, h.1.2.1, h.1.2.2.1, h.1.2.2.2.1, h.1.2.2.2.2.1, hj.2, h.1.2.2.2.2.2.2⟩, h.2.1, cB_nrm h.2.2.1 hj.1, h.2.2.2⟩
theorem gd_mono {m' : Nat} (h : gd m r) (hm : m ≤ m') : gd m' r := ⟨h.1, h.2.1, h.2.2.1, ⟨by have := h.2.2.2.1.1; omega, by have := h.2.2.2.1.2; omega⟩, by have := h.2.2.2.2; omega⟩
theorem gd_rng (h : gd m r) (hm : m < 2 ^ 20) : rng r := by
  intro a i
  obtain ⟨hg, hl, hn, hp, h5⟩ := h
  have n1 := hg.1
  by_cases hu : used a i = true
  · simp only [used, Bool.or_eq_true, Bool.and_eq_true, beq_iff_eq, decide_eq_true_eq] at hu
    have ht := hg.2.2.2.1
    have h5 := hg.2.2.2.2.1
    have h7 := hg.2.2.2.2.2
    rcases hu with (((⟨z, u⟩ | ⟨z, u⟩) | ⟨z, u⟩) | ⟨z, u⟩) | ⟨z, u⟩
    · subst z
      rcases (show i = 4 ∨ i = 5 ∨ i = 6 ∨ i = 7 by omega) with w | w | w | w <;> subst w <;> omega
    · subst z u
      omega
    · have q := hg.2.1 i u
      have b1 := z8 q.2.1 q.2.2
      rcases (show a = 2 ∨ a = 3 ∨ a = 4 by omega) with w | w | w <;> subst w <;> omega
    · rcases (show a = 5 ∨ a = 6 by omega) with w | w <;> subst w <;> rcases (show i = 1 ∨ i = 2 by omega) with v | v <;> subst v <;> omega
    · subst z
      rcases (show i = 1 ∨ i = 2 by omega) with w | w <;> subst w <;> omega
  · have hz := hn a i (by simpa using hu)
    omega
end XMG
