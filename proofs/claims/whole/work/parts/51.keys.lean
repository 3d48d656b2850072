section XKQ
variable {r q : xG} {m g c n : Nat}
/-- a cell's digit in a key -/
def dg (cap ht pc : Nat → Nat) (c : Nat) : Nat := (cap c - 1) * 512 + (ht c * 0 + stn (ht c) (pc c))
def pkD (d : Nat → Nat) : Nat → Nat → Nat → Nat
  | 0, _, a => a
  | f + 1, i, a => pkD d f (i + 1) (a * 4096 + d i)
theorem z512 {h p : Nat} (h8 : h ≤ 8) (hp : p < 2 ^ h) : stn h p < 512 := Nat.lt_of_lt_of_le (stn_lt hp) (Nat.le_trans (Nat.pow_le_pow_right (by decide) (Nat.succ_le_succ h8)) (by decide))
theorem zorD {a c h p : Nat} (h8 : h ≤ 8) (hp : p < 2 ^ h) (hc : c < 8) : a * 2 ^ 12 ||| c * 2 ^ 9 ||| 2 ^ h ||| p = a * 4096 + (c * 512 + stn h p) := by
  have e1 : 2 ^ h ||| p = p + 1 * 2 ^ h := by
    rw [Nat.or_comm, show p ||| 2 ^ h = p ||| 1 * 2 ^ h by rw [Nat.one_mul], zor hp]
  have b1 := z512 h8 hp
  have e2 : 2 ^ h ||| p = stn h p := by
    rw [e1, Nat.one_mul, Nat.add_comm]
    rfl
  have e3 : c * 2 ^ 9 ||| stn h p = stn h p + c * 2 ^ 9 := by
    rw [Nat.or_comm]
    exact zor b1
  have e4 : a * 2 ^ 12 ||| (stn h p + c * 2 ^ 9) = (stn h p + c * 2 ^ 9) + a * 2 ^ 12 := by
    rw [Nat.or_comm]
    exact zor (by omega)
  rw [Nat.or_assoc, Nat.or_assoc, e2, e3, e4]
  omega
theorem pkF_D {cap ht pc : Nat → Nat} : ∀ f i a, (∀ c, i ≤ c → c < i + f → cap c ≤ 8 ∧ ht c ≤ 8 ∧ pc c < 2 ^ ht c) → pkF cap ht pc f i a = pkD (dg cap ht pc) f i a := by
  intro f
  induction f with
  | zero => intro i a _; rfl
  | succ f ih =>
    intro i a h
    have h1 := h i (Nat.le_refl _) (by omega)
    unfold pkF pkD
    rw [zorD h1.2.1 h1.2.2 (by omega), ih (i + 1) _ (fun c h2 h3 => h c (by omega) (by omega))]
    show pkD _ f (i + 1) (a * 4096 + ((cap i - 1) * 512 + stn (ht i) (pc i))) = pkD _ f (i + 1) (a * 4096 + ((cap i - 1) * 512 + (ht i * 0 + stn (ht i) (pc i))))
    rw [Nat.mul_zero, Nat.zero_add]
theorem pkD_lt {d : Nat → Nat} : ∀ f i a, (∀ c, i ≤ c → c < i + f → d c < 4096) → pkD d f i a < (a + 1) * 4096 ^ f := by
  intro f
  induction f with
  | zero =>
    intro i a _
    show a < (a + 1) * 1
    omega
  | succ f ih =>
    intro i a h
    have h1 := h i (Nat.le_refl _) (by omega)
    have h2 := ih (i + 1) (a * 4096 + d i) (fun c h2 h3 => h c (by omega) (by omega))
    have h3 : (a * 4096 + d i + 1) * 4096 ^ f ≤ ((a + 1) * 4096) * 4096 ^ f := Nat.mul_le_mul_right _ (by omega)
    unfold pkD
    rw [Nat.pow_succ, Nat.mul_comm (4096 ^ f), ← Nat.mul_assoc]
    omega
theorem pkD_inj {d e : Nat → Nat} : ∀ f i a b, (∀ c, i ≤ c → c < i + f → d c < 4096 ∧ e c < 4096) → (pkD d f i a = pkD e f i b ↔ a = b ∧ ∀ c, i ≤ c → c < i + f → d c = e c) := by
  intro f
  induction f with
  | zero =>
    intro i a b _
    exact ⟨fun h => ⟨h, fun c h1 h2 => by omega⟩, fun h => h.1⟩
  | succ f ih =>
    intro i a b h
    have h1 := h i (Nat.le_refl _) (by omega)
    have h2 := ih (i + 1) (a * 4096 + d i) (b * 4096 + e i) (fun c h2 h3 => h c (by omega) (by omega))
    unfold pkD
    rw [h2]
    constructor
    · rintro ⟨p1, p2⟩
      refine ⟨by omega, fun c c1 c2 => ?_⟩
      by_cases hc : c = i
      · rw [hc]
        omega
      · exact p2 c (by omega) (by omega)
    · rintro ⟨p1, p2⟩
      have := p2 i (Nat.le_refl _) (by omega)
      exact ⟨by omega, fun c c1 c2 => p2 c (by omega) (by omega)⟩
/-- how many cells a key holds -/
def kyn (n p : Nat) : Nat := (if p * 5 + 5 < n then p * 5 + 5 else n) - p * 5
theorem kyn_5 (n p : Nat) : kyn n p ≤ 5 := by
  unfold kyn
  split <;> omega
theorem kyc_D (hg : gok r) (p : Nat) : kyc r p = pkD (dg (r 2) (r 3) (r 4)) (kyn (r 1 3) p) (p * 5) 0 := by
  have hn := hg.1
  refine pkF_D _ _ _ (fun c h1 h2 => hg.2.1 c ?_)
  have h3 : c < p * 5 + ((if p * 5 + 5 < r 1 3 then p * 5 + 5 else r 1 3) - p * 5) := h2
  split at h3 <;> omega
theorem dg_lt (hg : gok r) (hc : c < r 1 3) : dg (r 2) (r 3) (r 4) c < 4096 := by
  have hn := hg.1
  have q1 := hg.2.1 c (by omega)
  have b1 := z512 q1.2.1 q1.2.2
  unfold dg
  omega
theorem kyn_c {n p c : Nat} (h1 : p * 5 ≤ c) (h2 : c < p * 5 + kyn n p) : c < n := by
  unfold kyn at h2
  split at h2 <;> omega
theorem kyc_lt (hg : gok r) (p : Nat) : kyc r p < 4096 ^ kyn (r 1 3) p := by
  rw [kyc_D hg]
  have := pkD_lt (d := dg (r 2) (r 3) (r 4)) (kyn (r 1 3) p) (p * 5) 0 (fun c h1 h2 => dg_lt hg (kyn_c h1 h2))
  rw [Nat.zero_add, Nat.one_mul] at this
  exact this
theorem ky_2 (hg : gok r) : ky r 2 = kyc r 2 * 2048 + (r 5 1 * 64 + (r 5 2 * 2 + (r 0 4 - 1))) := by
  have h5 := hg.2.2.2.2.1
  have ht := hg.2.2.2.1
  have e1 : r 5 2 * 2 ^ 1 ||| (r 0 4 - 1) = (r 0 4 - 1) + r 5 2 * 2 ^ 1 := by
    rw [Nat.or_comm]
    exact zor (by omega)
  have e2 : r 5 1 * 2 ^ 6 ||| ((r 0 4 - 1) + r 5 2 * 2 ^ 1) = ((r 0 4 - 1) + r 5 2 * 2 ^ 1) + r 5 1 * 2 ^ 6 := by
    rw [Nat.or_comm]
    exact zor (by omega)
  have e3 : kyc r 2 * 2 ^ 11 ||| (((r 0 4 - 1) + r 5 2 * 2 ^ 1) + r 5 1 * 2 ^ 6) = (((r 0 4 - 1) + r 5 2 * 2 ^ 1) + r 5 1 * 2 ^ 6) + kyc r 2 * 2 ^ 11 := by
    rw [Nat.or_comm]
    exact zor (by omega)
  show kyc r 2 * 2 ^ 11 ||| r 5 1 * 2 ^ 6 ||| r 5 2 * 2 ^ 1 ||| (r 0 4 - 1) = _
  rw [Nat.or_assoc, Nat.or_assoc, e1, e2, e3]
  omega
theorem ky_64 (hg : gok r) {p : Nat} (hp : p < 3) : ky r p < 2 ^ 64 := by
  have hn := hg.1
  have h5 := hg.2.2.2.2.1
  have ht := hg.2.2.2.1
  by_cases h2 : p < 2
  · have e : ky r p = kyc r p := if_pos h2
    have h1 := kyc_lt hg p
    have h3 : 4096 ^ kyn (r 1 3) p ≤ 4096 ^ 5 := Nat.pow_le_pow_right (by decide) (kyn_5 _ _)
    have h4 : 4096 ^ 5 ≤ 2 ^ 64 := by decide
    omega
  · have e : p = 2 := by omega
    subst e
    have h1 := kyc_lt hg 2
    have h3 : 4096 ^ kyn (r 1 3) 2 ≤ 4096 ^ 2 := Nat.pow_le_pow_right (by decide) (by
      unfold kyn
      split <;> omega)
    have h4 : 4096 ^ 2 = 16777216 := by decide
    rw [ky_2 hg]
    omega
/-- the numbers of a position -/
def v27 (r : xG) (i : Nat) : Nat := if i = 0 then r 0 4 else if i < 3 then r 5 i else if i < 15 then (if i - 3 < r 1 3 then r 2 (i - 3) else 0) else (if i - 15 < r 1 3 then stn (r 3 (i - 15)) (r 4 (i - 15)) else 1)
theorem dg_eq (hr : gok r) (hq : gok q) (hn : r 1 3 = q 1 3) (hc : c < r 1 3) : dg (r 2) (r 3) (r 4) c = dg (q 2) (q 3) (q 4) c ↔ r 2 c = q 2 c ∧ stn (r 3 c) (r 4 c) = stn (q 3 c) (q 4 c) := by
  have n1 := hr.1
  have q1 := hr.2.1 c (by omega)
  have q2 := hq.2.1 c (by omega)
  have b1 := z512 q1.2.1 q1.2.2
  have b2 := z512 q2.2.1 q2.2.2
  have c1 := hr.2.2.1 c hc
  have c2 := hq.2.2.1 c (by omega)
  unfold dg
  omega
theorem key_eq (hr : gok r) (hq : gok q) (hn : r 1 3 = q 1 3) : (ky r 0 = ky q 0 ∧ ky r 1 = ky q 1 ∧ ky r 2 = ky q 2) ↔ ∀ i, i < 27 → v27 r i = v27 q i := by
  have n1 := hr.1
  have r5 := hr.2.2.2.2.1
  have q5 := hq.2.2.2.2.1
  have rt := hr.2.2.2.1
  have qt := hq.2.2.2.1
  have part : ∀ p, (kyc r p = kyc q p ↔ ∀ c, p * 5 ≤ c → c < p * 5 + kyn (r 1 3) p → r 2 c = q 2 c ∧ stn (r 3 c) (r 4 c) = stn (q 3 c) (q 4 c)) := by
    intro p
    rw [kyc_D hr, kyc_D hq, ← hn, pkD_inj _ _ _ _ (fun c h1 h2 => ⟨dg_lt hr (kyn_c h1 h2), dg_lt hq (by rw [← hn]; exact kyn_c h1 h2)⟩)]
    constructor
    · intro h c h1 h2
      exact (dg_eq hr hq hn (kyn_c h1 h2)).mp (h.2 c h1 h2)
    · intro h
      exact ⟨rfl, fun c h1 h2 => (dg_eq hr hq hn (kyn_c h1 h2)).mpr (h c h1 h2)⟩
  have e0 : ky r 0 = kyc r 0 := if_pos (by decide)
  have e1 : ky r 1 = kyc r 1 := if_pos (by decide)
  have f0 : ky q 0 = kyc q 0 := if_pos (by decide)
  have f1 : ky q 1 = kyc q 1 := if_pos (by decide)
  rw [e0, e1, f0, f1, ky_2 hr, ky_2 hq]
  constructor
  · rintro ⟨k0, k1, k2⟩
    have k3 : kyc r 2 = kyc q 2 ∧ r 5 1 = q 5 1 ∧ r 5 2 = q 5 2 ∧ r 0 4 = q 0 4 := by omega
    have k4 := (part 0).mp k0
    have k5 := (part 1).mp k1
    have k6 := (part 2).mp k3.1
    have cel : ∀ c, c < r 1 3 → r 2 c = q 2 c ∧ stn (r 3 c) (r 4 c) = stn (q 3 c) (q 4 c) := by
      intro c hc
      by_cases h1 : c < 5
      · refine k4 c (by omega) ?_
        unfold kyn
        split <;> omega
      · by_cases h2 : c < 10
        · refine k5 c (by omega) ?_
          unfold kyn
          split <;> omega
        · refine k6 c (by omega) ?_
          unfold kyn
          split <;> omega
    intro i hi
    unfold v27
    rw [← hn]
    by_cases i0 : i = 0
    · rw [if_pos i0, if_pos i0]
      exact k3.2.2.2
    · rw [if_neg i0, if_neg i0]
      by_cases i3 : i < 3
      · rw [if_pos i3, if_pos i3]
        rcases (show i = 1 ∨ i = 2 by omega) with z | z
        · rw [z]; exact k3.2.1
        · rw [z]; exact k3.2.2.1
      · rw [if_neg i3, if_neg i3]
        by_cases i15 : i < 15
        · rw [if_pos i15, if_pos i15]
          by_cases hc : i - 3 < r 1 3
          · rw [if_pos hc, if_pos hc]
            exact (cel _ hc).1
          · rw [if_neg hc, if_neg hc]
        · rw [if_neg i15, if_neg i15]
          by_cases hc : i - 15 < r 1 3
          · rw [if_pos hc, if_pos hc]
            exact (cel _ hc).2
          · rw [if_neg hc, if_neg hc]
  · intro h
    have cel : ∀ c, c < r 1 3 → r 2 c = q 2 c ∧ stn (r 3 c) (r 4 c) = stn (q 3 c) (q 4 c) := by
      intro c hc
      constructor
      · have := h (c + 3) (by omega)
        unfold v27 at this
        rw [if_neg (by omega), if_neg (by omega), if_pos (by omega), if_pos (by omega), if_neg (by omega), if_neg (by omega), if_pos (by omega), if_pos (by omega), Nat.add_sub_cancel] at this
        exact this
      · have := h (c + 15) (by omega)
        unfold v27 at this
        rw [if_neg (by omega), if_neg (by omega), if_neg (by omega), if_pos (by omega), if_neg (by omega), if_neg (by omega), if_neg (by omega), if_pos (by omega), Nat.add_sub_cancel] at this
        exact this
    have t0 : r 0 4 = q 0 4 := h 0 (by decide)
    have t1 : r 5 1 = q 5 1 := h 1 (by decide)
    have t2 : r 5 2 = q 5 2 := h 2 (by decide)
    have g := fun p => (part p).mpr (fun c h1 h2 => cel c (kyn_c h1 h2))
    rw [g 0, g 1, g 2, t0, t1, t2]
    exact ⟨rfl, rfl, rfl⟩
end XKQ
