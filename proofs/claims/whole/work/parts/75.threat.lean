section XTH
variable {xs : Nat → Int32} {L : Nat} {S : xS} {t : Nat × Nat × Nat} {h p c a b n T k : Nat} {r : xG}
theorem sumTo_add (f g : Nat → Nat) : ∀ n, sumTo (fun c => f c + g c) n = sumTo f n + sumTo g n := by
  intro n
  induction n with
  | zero => rfl
  | succ n ih =>
    rw [sumTo_s, sumTo_s, sumTo_s, ih]
    show sumTo f n + sumTo g n + (f n + g n) = _
    omega
theorem sumTo_0 {f : Nat → Nat} : ∀ n, (∀ c, c < n → f c = 0) → sumTo f n = 0 := by
  intro n
  induction n with
  | zero => intro _; rfl
  | succ n ih =>
    intro h
    rw [sumTo_s, ih (fun c hc => h c (by omega)), h n (by omega)]
theorem sumTo_at {f : Nat → Nat} {x : Nat} : ∀ n, (∀ c, c < n → c ≠ x → f c = 0) → sumTo f n = if x < n then f x else 0 := by
  intro n
  induction n with
  | zero => intro _; rfl
  | succ n ih =>
    intro h
    rw [sumTo_s, ih (fun c hc => h c (by omega))]
    by_cases hx : x < n
    · rw [if_pos hx, if_pos (by omega), h n (by omega) (by omega), Nat.add_zero]
    · rw [if_neg hx, Nat.zero_add]
      by_cases hn : n = x
      · rw [if_pos (by omega), hn]
      · rw [if_neg (by omega), h n (by omega) hn]
/-- what a cell adds at a distance -/
def thw (n c T h : Nat) (st : Nat → Nat) (k : Nat) : Nat := if k ≤ h ∧ 0 < st k then eq1 (tgt n c 0 k) T + eq1 (tgt n c 1 k) T else 0
def sumK (w : Nat → Nat) : Nat → Nat → Nat
  | 0, _ => 0
  | f + 1, k => w k + sumK w f (k + 1)
theorem sumK_0 {w : Nat → Nat} : ∀ f k, (∀ j, k ≤ j → w j = 0) → sumK w f k = 0 := by
  intro f
  induction f with
  | zero => intro k _; rfl
  | succ f ih =>
    intro k h
    unfold sumK
    rw [h k (Nat.le_refl _), ih (k + 1) (fun j hj => h j (by omega))]
theorem thr_K {st : Nat → Nat} : ∀ f k, thr n c T h st f k = sumK (thw n c T h st) f k := by
  intro f
  induction f with
  | zero => intro k; rfl
  | succ f ih =>
    intro k
    unfold thr
    by_cases h1 : k ≤ h
    · rw [if_pos h1, ih (k + 1)]
      show _ = thw n c T h st k + sumK (thw n c T h st) f (k + 1)
      congr 1
      unfold thw
      by_cases h2 : 0 < st k
      · rw [if_pos h2, if_pos ⟨h1, h2⟩]
      · rw [if_neg h2, if_neg (fun z => h2 z.2)]
    · rw [if_neg h1, sumK_0]
      intro j hj
      exact if_neg (fun z => h1 (by omega))
theorem sumTo_K {w : Nat → Nat → Nat} : ∀ f k, sumTo (fun c => sumK (w c) f k) n = sumK (fun k => sumTo (fun c => w c k) n) f k := by
  intro f
  induction f with
  | zero => intro k; exact sumTo_0 n (fun _ _ => rfl)
  | succ f ih =>
    intro k
    show sumTo (fun c => w c k + sumK (w c) f (k + 1)) n = _
    rw [sumTo_add, ih]
    rfl
/-- whether a cell threatens -/
def twt (r : xG) (T d k : Nat) : Nat := if ctl (r 3 (tgt (r 1 3) T d k)) (r 4 (tgt (r 1 3) T d k)) = 3 - ctl (r 3 T) (r 4 T) ∧ k ≤ r 3 (tgt (r 1 3) T d k) then 1 else 0
theorem tgt_inv (hn : 4 < n) (hc : c < n) (hT : T < n) (hk : 1 ≤ k ∧ k ≤ 4) : (tgt n c 0 k = T ↔ c = tgt n T 1 k) ∧ (tgt n c 1 k = T ↔ c = tgt n T 0 k) := by
  have a1 : ∀ x, tgt n x 0 k = if x + k < n then x + k else x + k - n := fun x => if_pos rfl
  have a2 : ∀ x, tgt n x 1 k = if k ≤ x then x - k else x + n - k := fun x => if_neg (by decide)
  rw [a1, a2, a2, a1]
  constructor
  · by_cases h1 : c + k < n
    · rw [if_pos h1]
      by_cases h2 : k ≤ T
      · rw [if_pos h2]
        omega
      · rw [if_neg h2]
        omega
    · rw [if_neg h1]
      by_cases h2 : k ≤ T
      · rw [if_pos h2]
        omega
      · rw [if_neg h2]
        omega
  · by_cases h1 : k ≤ c
    · rw [if_pos h1]
      by_cases h2 : T + k < n
      · rw [if_pos h2]
        omega
      · rw [if_neg h2]
        omega
    · rw [if_neg h1]
      by_cases h2 : T + k < n
      · rw [if_pos h2]
        omega
      · rw [if_neg h2]
        omega
theorem grd_1 (h1 : 1 ≤ h) : 1 ≤ grd h p := by
  unfold grd
  obtain ⟨m, rfl⟩ : ∃ m, h = m + 1 := ⟨h - 1, by omega⟩
  unfold zgo
  rw [if_pos (by rw [Nat.sub_zero])]
  have : ∀ f i, i ≤ zgo (m + 1) p f i := by
    intro f
    induction f with
    | zero => intro i; exact Nat.le_refl _
    | succ f ih =>
      intro i
      unfold zgo
      split
      · exact Nat.le_trans (Nat.le_succ _) (ih (i + 1))
      · exact Nat.le_refl _
  exact this m (0 + 1)
theorem thw_sum (ho : gok r) (hT : T < r 1 3) (hT1 : 1 ≤ r 3 T) (hk : 1 ≤ k ∧ k ≤ 4) : sumTo (fun c => thw (r 1 3) c T (r 3 c) (fun k => stl (ctl (r 3 c) (r 4 c)) (ctl (r 3 T) (r 4 T)) (grd (r 3 T) (r 4 T)) k) k) (r 1 3) = if grd (r 3 T) (r 4 T) ≤ k then twt r T 0 k + twt r T 1 k else 0 := by
  have hn := ho.1
  have hg := grd_1 (h := r 3 T) (p := r 4 T) hT1
  have cT := ctl_le (r 3 T) (r 4 T)
  have cT1 : 1 ≤ ctl (r 3 T) (r 4 T) := by
    unfold ctl
    rw [if_neg (by omega)]
    omega
  have hx0 := tgt_lt (c := T) (d := 0) (k := k) hn.1 hT hk.2
  have hx1 := tgt_lt (c := T) (d := 1) (k := k) hn.1 hT hk.2
  have hq : ∀ c, (k ≤ r 3 c ∧ 0 < stl (ctl (r 3 c) (r 4 c)) (ctl (r 3 T) (r 4 T)) (grd (r 3 T) (r 4 T)) k) ↔ (grd (r 3 T) (r 4 T) ≤ k ∧ (ctl (r 3 c) (r 4 c) = 3 - ctl (r 3 T) (r 4 T) ∧ k ≤ r 3 c)) := by
    intro c
    have c2 := ctl_le (r 3 c) (r 4 c)
    unfold stl
    constructor
    · rintro ⟨a1, a2⟩
      have c1 : 1 ≤ ctl (r 3 c) (r 4 c) := by
        unfold ctl
        rw [if_neg (by omega)]
        omega
      split at a2
      · omega
      · split at a2
        · next b1 b2 => exact ⟨b2, by omega, a1⟩
        · omega
    · rintro ⟨a1, a2, a3⟩
      refine ⟨a3, ?_⟩
      rw [if_neg (by omega), if_pos a1]
      omega
  have hw : ∀ c, c < r 1 3 → thw (r 1 3) c T (r 3 c) (fun k => stl (ctl (r 3 c) (r 4 c)) (ctl (r 3 T) (r 4 T)) (grd (r 3 T) (r 4 T)) k) k = (if grd (r 3 T) (r 4 T) ≤ k ∧ (ctl (r 3 c) (r 4 c) = 3 - ctl (r 3 T) (r 4 T) ∧ k ≤ r 3 c) ∧ c = tgt (r 1 3) T 0 k then 1 else 0) + (if grd (r 3 T) (r 4 T) ≤ k ∧ (ctl (r 3 c) (r 4 c) = 3 - ctl (r 3 T) (r 4 T) ∧ k ≤ r 3 c) ∧ c = tgt (r 1 3) T 1 k then 1 else 0) := by
    intro c hc
    have ti := tgt_inv hn.1 hc hT hk
    unfold thw
    by_cases hQ : grd (r 3 T) (r 4 T) ≤ k ∧ (ctl (r 3 c) (r 4 c) = 3 - ctl (r 3 T) (r 4 T) ∧ k ≤ r 3 c)
    · have p0 : eq1 (tgt (r 1 3) c 1 k) T = if grd (r 3 T) (r 4 T) ≤ k ∧ (ctl (r 3 c) (r 4 c) = 3 - ctl (r 3 T) (r 4 T) ∧ k ≤ r 3 c) ∧ c = tgt (r 1 3) T 0 k then 1 else 0 := by
        unfold eq1
        by_cases t0 : tgt (r 1 3) c 1 k = T
        · rw [if_pos t0, if_pos ⟨hQ.1, hQ.2, ti.2.mp t0⟩]
        · rw [if_neg t0, if_neg (fun z => t0 (ti.2.mpr z.2.2))]
      have p1 : eq1 (tgt (r 1 3) c 0 k) T = if grd (r 3 T) (r 4 T) ≤ k ∧ (ctl (r 3 c) (r 4 c) = 3 - ctl (r 3 T) (r 4 T) ∧ k ≤ r 3 c) ∧ c = tgt (r 1 3) T 1 k then 1 else 0 := by
        unfold eq1
        by_cases t0 : tgt (r 1 3) c 0 k = T
        · rw [if_pos t0, if_pos ⟨hQ.1, hQ.2, ti.1.mp t0⟩]
        · rw [if_neg t0, if_neg (fun z => t0 (ti.1.mpr z.2.2))]
      rw [if_pos ((hq c).mpr hQ), p0, p1, Nat.add_comm]
    · rw [if_neg (fun z => hQ ((hq c).mp z)), if_neg (fun z => hQ ⟨z.1, z.2.1⟩), if_neg (fun z => hQ ⟨z.1, z.2.1⟩)]
  rw [sumTo_cg hw, sumTo_add, sumTo_at (x := tgt (r 1 3) T 0 k) _ (fun c _ hcx => if_neg (fun z => hcx z.2.2)), sumTo_at (x := tgt (r 1 3) T 1 k) _ (fun c _ hcx => if_neg (fun z => hcx z.2.2)), if_pos hx0, if_pos hx1]
  unfold twt
  by_cases hgk : grd (r 3 T) (r 4 T) ≤ k
  · rw [if_pos hgk]
    congr 1
    · by_cases z : ctl (r 3 (tgt (r 1 3) T 0 k)) (r 4 (tgt (r 1 3) T 0 k)) = 3 - ctl (r 3 T) (r 4 T) ∧ k ≤ r 3 (tgt (r 1 3) T 0 k)
      · rw [if_pos z, if_pos ⟨hgk, z, rfl⟩]
      · rw [if_neg z, if_neg (fun w => z w.2.1)]
    · by_cases z : ctl (r 3 (tgt (r 1 3) T 1 k)) (r 4 (tgt (r 1 3) T 1 k)) = 3 - ctl (r 3 T) (r 4 T) ∧ k ≤ r 3 (tgt (r 1 3) T 1 k)
      · rw [if_pos z, if_pos ⟨hgk, z, rfl⟩]
      · rw [if_neg z, if_neg (fun w => z w.2.1)]
  · rw [if_neg hgk, if_neg (fun w => hgk w.1), if_neg (fun w => hgk w.1)]
/-- the threats of a stack, from the guard on -/
def thm (r : xG) (T : Nat) : Nat → Nat → Nat
  | 0, _ => 0
  | f + 1, k => twt r T 0 k + twt r T 1 k + thm r T f (k + 1)
theorem thr_thm (ho : gok r) (hT : T < r 1 3) (hT1 : 1 ≤ r 3 T) : ∀ f k, f + k = 5 → 1 ≤ k → sumK (fun k => sumTo (fun c => thw (r 1 3) c T (r 3 c) (fun k => stl (ctl (r 3 c) (r 4 c)) (ctl (r 3 T) (r 4 T)) (grd (r 3 T) (r 4 T)) k) k) (r 1 3)) f k = if grd (r 3 T) (r 4 T) ≤ k then thm r T f k else thm r T (5 - grd (r 3 T) (r 4 T)) (grd (r 3 T) (r 4 T)) := by
  intro f
  induction f with
  | zero =>
    intro k hk hk1
    unfold sumK
    split
    · rfl
    · rw [show 5 - grd (r 3 T) (r 4 T) = 0 by omega]
      rfl
  | succ f ih =>
    intro k hk hk1
    have h1 := ih (k + 1) (by omega) (by omega)
    have h2 := thw_sum ho hT hT1 (k := k) (by omega)
    unfold sumK
    rw [h1]
    show sumTo (fun c => thw (r 1 3) c T (r 3 c) (fun k => stl (ctl (r 3 c) (r 4 c)) (ctl (r 3 T) (r 4 T)) (grd (r 3 T) (r 4 T)) k) k) (r 1 3) + _ = _
    rw [h2]
    by_cases hg : grd (r 3 T) (r 4 T) ≤ k
    · rw [if_pos hg, if_pos (by omega), if_pos hg]
      rfl
    · rw [if_neg hg, if_neg hg, Nat.zero_add]
      by_cases hg2 : grd (r 3 T) (r 4 T) ≤ k + 1
      · rw [if_pos hg2, show grd (r 3 T) (r 4 T) = k + 1 by omega, show 5 - (k + 1) = f by omega]
      · rw [if_neg hg2]
/-- the class's number of threats -/
def thC (r : xG) (T : Nat) : Nat := sumTo (fun c => thr (r 1 3) c T (r 3 c) (fun k => stl (ctl (r 3 c) (r 4 c)) (ctl (r 3 T) (r 4 T)) (grd (r 3 T) (r 4 T)) k) 4 1) (r 1 3)
theorem thC_e (ho : gok r) (hT : T < r 1 3) : thC r T = if r 3 T = 0 then 0 else thm r T (5 - grd (r 3 T) (r 4 T)) (grd (r 3 T) (r 4 T)) := by
  unfold thC
  by_cases h0 : r 3 T = 0
  · rw [if_pos h0]
    refine sumTo_0 _ (fun c _ => ?_)
    rw [thr_K, sumK_0]
    intro j _
    refine if_neg (fun z => ?_)
    have z2 : 0 < stl (ctl (r 3 c) (r 4 c)) (ctl (r 3 T) (r 4 T)) (grd (r 3 T) (r 4 T)) j := z.2
    have hc0 : ctl (r 3 T) (r 4 T) = 0 := ctl_0.mpr h0
    unfold stl at z2
    rw [if_pos (Or.inl hc0)] at z2
    omega
  · rw [if_neg h0]
    have h1 := thr_thm ho hT (by omega) 4 1 rfl (Nat.le_refl _)
    have h2 : (fun c => thr (r 1 3) c T (r 3 c) (fun k => stl (ctl (r 3 c) (r 4 c)) (ctl (r 3 T) (r 4 T)) (grd (r 3 T) (r 4 T)) k) 4 1) = fun c => sumK (thw (r 1 3) c T (r 3 c) (fun k => stl (ctl (r 3 c) (r 4 c)) (ctl (r 3 T) (r 4 T)) (grd (r 3 T) (r 4 T)) k)) 4 1 := by
      funext c
      exact thr_K 4 1
    rw [h2, sumTo_K, h1]
    by_cases hg : grd (r 3 T) (r 4 T) ≤ 1
    · have hg1 := grd_1 (h := r 3 T) (p := r 4 T) (by omega)
      rw [if_pos hg, show grd (r 3 T) (r 4 T) = 1 by omega]
    · rw [if_neg hg]
theorem s193i (ho : gok r) (hm : mrel (S.2.2.1 236) r) (hT : T < r 1 3) (hk : 1 ≤ k ∧ k ≤ 4) {d : Nat} (hd : d < 2) {x5 : Value} : ∃ y5, xi_nlg y5 = true ∧ ev xs L 193 54 [.ref 235, .int (nI T), .int (nI a), .int (nI k), .int (nI d), x5] [] (hS S t) = ev xs L 193 54 [.ref 235, .int (nI T), .int (nI (a + twt r T d k)), .int (nI k), .int (nI (d + 1)), y5] [] (hS S t) := by
  have hn := ho.1
  have e0 := s179 (xs := xs) (L := L) (S := S) (t := t) (n := r 1 3) (c := T) (d := d) (k := k) hn.1 hn.2 hm.1.1 hT hd hk
  have hx := tgt_lt (c := T) (d := d) (k := k) hn.1 hT hk.2
  unfold twt
  generalize tgt (r 1 3) T d k = x at e0 hx ⊢
  have qT := ho.2.1 T (by omega)
  have qx := ho.2.1 x (by omega)
  have e1 := s131 (xs := xs) (L := L) (S := S) (t := t) (c := T) (by omega)
  rw [(hm.2.1 T hT).2] at e1
  have e2 := s131 (xs := xs) (L := L) (S := S) (t := t) (c := x) (by omega)
  rw [(hm.2.1 x hx).2] at e2
  have e3 := s158 (xs := xs) (L := L) (h := r 3 T) (p := r 4 T) (by omega) qT.2.2 (hS S t)
  have e4 := s158 (xs := xs) (L := L) (h := r 3 x) (p := r 4 x) (by omega) qx.2.2 (hS S t)
  have e5 := s132 (xs := xs) (L := L) (h := r 3 x) (p := r 4 x) (by omega) qx.2.2 (hS S t)
  have b1 := ctl_le (r 3 T) (r 4 T)
  have b2 := ctl_le (r 3 x) (r 4 x)
  refine ⟨.int (nI (stn (r 3 x) (r 4 x))), rfl, ?_⟩
  rw [r193_54]
  by_cases h1 : ctl (r 3 x) (r 4 x) = 3 - ctl (r 3 T) (r 4 T)
  · by_cases h2 : k ≤ r 3 x
    · rw [if_pos ⟨h1, h2⟩]
      simp (config := { decide := false, maxSteps := 1000000 }) (disch := first | assumption | exact nlg_i _ | exact nlg_r _ | exact nlg_n | omega | decide) only [r193_0, r193_1, r193_2, r193_3, r193_6, r193_9, r193_10, r193_13, r193_14, r193_17, r193_18, r193_21, r193_24, r193_25, r193_26, r193_29, r193_30, r193_33, r193_34, r193_35, r193_36, r193_37, r193_38, r193_39, r193_42, r193_45, r193_46, r193_47, r193_48, r193_51, r193_52, r193_56, r193_57, r193_60, r193_61, r193_62, r193_63, r193_65, r193_66, r193_69, r193_72, r193_74, r193_75, r193_77, r193_80, r193_81, r193_82, r193_83, r193_86, r193_89, r193_90, r193_93, r193_95, r193_98, r193_99, r193_102, r193_103, r193_106, r193_107, r193_108, r193_109, r193_112, r193_118, r193_121, r193_122, st_g0_0, st_g0_1, st_g0_2, st_g0_3, st_g0_4, st_p0_4, st_g0_5, st_p0_5, st_g0_6, st_p0_6, st_g0_7, st_p0_7, st_v0, st_g1_0, st_g1_1, st_g1_2, st_g1_3, st_p1_3, st_v1, st_g7_0, st_g7_1, st_p7_1, st_g7_2, st_p7_2, st_v7, st_i2, st_is2, st_i3, st_is3, st_i4, st_is4, st_i5, st_is5, st_i6, st_is6, st_l8, st_ls8, st_y2, st_y3, st_y4, st_y8, st_o100_0, st_o100_1, st_o100_2, st_o100_3, st_o100_4, st_o100_5, st_o100_6, st_o100_7, st_q100_7, st_o100_8, st_q100_8, st_w100, st_o110_0, st_o110_1, st_w110, st_o129_0, st_o129_1, st_q129_1, st_o129_2, st_q129_2, st_w129, st_o205_0, st_o205_1, st_q205_1, st_o205_2, st_o205_3, st_q205_3, st_o205_4, st_q205_4, st_o205_5, st_q205_5, st_o205_6, st_q205_6, st_o205_7, st_q205_7, st_o205_8, st_q205_8, st_o205_9, st_q205_9, st_w205, st_o235_0, st_o235_1, st_o235_2, st_o235_3, st_o235_4, st_o235_5, st_o235_6, st_o235_7, st_q235_7, st_o235_8, st_q235_8, st_o235_9, st_o235_10, st_q235_10, st_o235_11, st_q235_11, st_o235_12, st_q235_12, st_o235_13, st_q235_13, st_o235_14, st_q235_14, st_o235_15, st_q235_15, st_o235_16, st_q235_16, st_o235_17, st_q235_17, st_o235_18, st_q235_18, st_o235_19, st_o235_20, st_o235_21, st_q235_21, st_o235_22, st_q235_22, st_o235_23, st_o235_24, st_q235_24, st_w235, st_a204, st_as204, st_a206, st_as206, st_a216, st_as216, st_a236, st_as236, st_a237, st_as237, st_a238, st_as238, st_a239, st_as239, st_a240, st_as240, st_a241, st_as241, st_a242, st_as242, st_a243, st_as243, st_a244, st_as244, st_a245, st_as245, st_a246, st_as246, st_r130, st_r203, nx_in, nx_clamp, nx_i2n, nx_l2n, nx_add, nx_sub, nx_pred, nx_mul, nx_lt, nx_le, nx_eq, nx_shl, nx_shr, nx_and1, nx_andm, nx_m1, nx_or, nx_dr, nx_rem, nx_kC, nx_ift, nx_iff, e0, e1, e2, e3, e4, e5, h1, ↓nif_lt_t, ↓nif_lt_f, ↓nif_le_t, ↓nif_le_f, ↓nif_eq_t, ↓nif_eq_f, ↓nif_ne_t, ↓nif_ne_f, Nat.one_mul, List.cons_append, List.nil_append, List.append_nil, Option.toList, if_true, if_false, Bool.false_eq_true, and_true, true_and, and_self]
    · rw [if_neg (fun z => h2 z.2)]
      simp (config := { decide := false, maxSteps := 1000000 }) (disch := first | assumption | exact nlg_i _ | exact nlg_r _ | exact nlg_n | omega | decide) only [r193_0, r193_1, r193_2, r193_3, r193_6, r193_9, r193_10, r193_13, r193_14, r193_17, r193_18, r193_21, r193_24, r193_25, r193_26, r193_29, r193_30, r193_33, r193_34, r193_35, r193_36, r193_37, r193_38, r193_39, r193_42, r193_45, r193_46, r193_47, r193_48, r193_51, r193_52, r193_56, r193_57, r193_60, r193_61, r193_62, r193_63, r193_65, r193_66, r193_69, r193_72, r193_74, r193_75, r193_77, r193_80, r193_81, r193_82, r193_83, r193_86, r193_89, r193_90, r193_93, r193_95, r193_98, r193_99, r193_102, r193_103, r193_106, r193_107, r193_108, r193_109, r193_112, r193_118, r193_121, r193_122, st_g0_0, st_g0_1, st_g0_2, st_g0_3, st_g0_4, st_p0_4, st_g0_5, st_p0_5, st_g0_6, st_p0_6, st_g0_7, st_p0_7, st_v0, st_g1_0, st_g1_1, st_g1_2, st_g1_3, st_p1_3, st_v1, st_g7_0, st_g7_1, st_p7_1, st_g7_2, st_p7_2, st_v7, st_i2, st_is2, st_i3, st_is3, st_i4, st_is4, st_i5, st_is5, st_i6, st_is6, st_l8, st_ls8, st_y2, st_y3, st_y4, st_y8, st_o100_0, st_o100_1, st_o100_2, st_o100_3, st_o100_4, st_o100_5, st_o100_6, st_o100_7, st_q100_7, st_o100_8, st_q100_8, st_w100, st_o110_0, st_o110_1, st_w110, st_o129_0, st_o129_1, st_q129_1, st_o129_2, st_q129_2, st_w129, st_o205_0, st_o205_1, st_q205_1, st_o205_2, st_o205_3, st_q205_3, st_o205_4, st_q205_4, st_o205_5, st_q205_5, st_o205_6, st_q205_6, st_o205_7, st_q205_7, st_o205_8, st_q205_8, st_o205_9, st_q205_9, st_w205, st_o235_0, st_o235_1, st_o235_2, st_o235_3, st_o235_4, st_o235_5, st_o235_6, st_o235_7, st_q235_7, st_o235_8, st_q235_8, st_o235_9, st_o235_10, st_q235_10, st_o235_11, st_q235_11, st_o235_12, st_q235_12, st_o235_13, st_q235_13, st_o235_14, st_q235_14, st_o235_15, st_q235_15, st_o235_16, st_q235_16, st_o235_17, st_q235_17, st_o235_18, st_q235_18, st_o235_19, st_o235_20, st_o235_21, st_q235_21, st_o235_22, st_q235_22, st_o235_23, st_o235_24, st_q235_24, st_w235, st_a204, st_as204, st_a206, st_as206, st_a216, st_as216, st_a236, st_as236, st_a237, st_as237, st_a238, st_as238, st_a239, st_as239, st_a240, st_as240, st_a241, st_as241, st_a242, st_as242, st_a243, st_as243, st_a244, st_as244, st_a245, st_as245, st_a246, st_as246, st_r130, st_r203, nx_in, nx_clamp, nx_i2n, nx_l2n, nx_add, nx_sub, nx_pred, nx_mul, nx_lt, nx_le, nx_eq, nx_shl, nx_shr, nx_and1, nx_andm, nx_m1, nx_or, nx_dr, nx_rem, nx_kC, nx_ift, nx_iff, e0, e1, e2, e3, e4, e5, h1, ↓nif_lt_t, ↓nif_lt_f, ↓nif_le_t, ↓nif_le_f, ↓nif_eq_t, ↓nif_eq_f, ↓nif_ne_t, ↓nif_ne_f, Nat.one_mul, List.cons_append, List.nil_append, List.append_nil, Option.toList, if_true, if_false, Bool.false_eq_true, and_true, true_and, and_self]
  · rw [if_neg (fun z => h1 z.1)]
    simp (config := { decide := false, maxSteps := 1000000 }) (disch := first | assumption | exact nlg_i _ | exact nlg_r _ | exact nlg_n | omega | decide) only [r193_0, r193_1, r193_2, r193_3, r193_6, r193_9, r193_10, r193_13, r193_14, r193_17, r193_18, r193_21, r193_24, r193_25, r193_26, r193_29, r193_30, r193_33, r193_34, r193_35, r193_36, r193_37, r193_38, r193_39, r193_42, r193_45, r193_46, r193_47, r193_48, r193_51, r193_52, r193_56, r193_57, r193_60, r193_61, r193_62, r193_63, r193_65, r193_66, r193_69, r193_72, r193_74, r193_75, r193_77, r193_80, r193_81, r193_82, r193_83, r193_86, r193_89, r193_90, r193_93, r193_95, r193_98, r193_99, r193_102, r193_103, r193_106, r193_107, r193_108, r193_109, r193_112, r193_118, r193_121, r193_122, st_g0_0, st_g0_1, st_g0_2, st_g0_3, st_g0_4, st_p0_4, st_g0_5, st_p0_5, st_g0_6, st_p0_6, st_g0_7, st_p0_7, st_v0, st_g1_0, st_g1_1, st_g1_2, st_g1_3, st_p1_3, st_v1, st_g7_0, st_g7_1, st_p7_1, st_g7_2, st_p7_2, st_v7, st_i2, st_is2, st_i3, st_is3, st_i4, st_is4, st_i5, st_is5, st_i6, st_is6, st_l8, st_ls8, st_y2, st_y3, st_y4, st_y8, st_o100_0, st_o100_1, st_o100_2, st_o100_3, st_o100_4, st_o100_5, st_o100_6, st_o100_7, st_q100_7, st_o100_8, st_q100_8, st_w100, st_o110_0, st_o110_1, st_w110, st_o129_0, st_o129_1, st_q129_1, st_o129_2, st_q129_2, st_w129, st_o205_0, st_o205_1, st_q205_1, st_o205_2, st_o205_3, st_q205_3, st_o205_4, st_q205_4, st_o205_5, st_q205_5, st_o205_6, st_q205_6, st_o205_7, st_q205_7, st_o205_8, st_q205_8, st_o205_9, st_q205_9, st_w205, st_o235_0, st_o235_1, st_o235_2, st_o235_3, st_o235_4, st_o235_5, st_o235_6, st_o235_7, st_q235_7, st_o235_8, st_q235_8, st_o235_9, st_o235_10, st_q235_10, st_o235_11, st_q235_11, st_o235_12, st_q235_12, st_o235_13, st_q235_13, st_o235_14, st_q235_14, st_o235_15, st_q235_15, st_o235_16, st_q235_16, st_o235_17, st_q235_17, st_o235_18, st_q235_18, st_o235_19, st_o235_20, st_o235_21, st_q235_21, st_o235_22, st_q235_22, st_o235_23, st_o235_24, st_q235_24, st_w235, st_a204, st_as204, st_a206, st_as206, st_a216, st_as216, st_a236, st_as236, st_a237, st_as237, st_a238, st_as238, st_a239, st_as239, st_a240, st_as240, st_a241, st_as241, st_a242, st_as242, st_a243, st_as243, st_a244, st_as244, st_a245, st_as245, st_a246, st_as246, st_r130, st_r203, nx_in, nx_clamp, nx_i2n, nx_l2n, nx_add, nx_sub, nx_pred, nx_mul, nx_lt, nx_le, nx_eq, nx_shl, nx_shr, nx_and1, nx_andm, nx_m1, nx_or, nx_dr, nx_rem, nx_kC, nx_ift, nx_iff, e0, e1, e2, e3, e4, e5, h1, ↓nif_lt_t, ↓nif_lt_f, ↓nif_le_t, ↓nif_le_f, ↓nif_eq_t, ↓nif_eq_f, ↓nif_ne_t, ↓nif_ne_f, Nat.one_mul, List.cons_append, List.nil_append, List.append_nil, Option.toList, if_true, if_false, Bool.false_eq_true, and_true, true_and, and_self]
theorem s193h (ho : gok r) (hm : mrel (S.2.2.1 236) r) (hT : T < r 1 3) : ∀ f k a x4 x5, f + k = 5 ∨ (f = 0 ∧ 5 ≤ k ∧ k < 100) → 1 ≤ k → xi_nlg x4 = true → ev xs L 193 46 [.ref 235, .int (nI T), .int (nI a), .int (nI k), x4, x5] [] (hS S t) = some (.inl (some (.int (nI (a + thm r T f k)))), hS S t) := by
  intro f
  induction f with
  | zero =>
    intro k a x4 x5 hk hk1 hx4
    rw [r193_46]
    unfold thm
    simp (config := { decide := false, maxSteps := 1000000 }) (disch := first | assumption | exact nlg_i _ | exact nlg_r _ | exact nlg_n | omega | decide) only [r193_0, r193_1, r193_2, r193_3, r193_6, r193_9, r193_10, r193_13, r193_14, r193_17, r193_18, r193_21, r193_24, r193_25, r193_26, r193_29, r193_30, r193_33, r193_34, r193_35, r193_36, r193_37, r193_38, r193_39, r193_42, r193_45, r193_47, r193_48, r193_52, r193_54, r193_56, r193_57, r193_60, r193_61, r193_62, r193_63, r193_65, r193_66, r193_69, r193_72, r193_74, r193_75, r193_77, r193_80, r193_81, r193_82, r193_83, r193_86, r193_89, r193_90, r193_93, r193_95, r193_98, r193_99, r193_102, r193_103, r193_106, r193_107, r193_108, r193_109, r193_112, r193_115, r193_118, r193_121, r193_122, st_g0_0, st_g0_1, st_g0_2, st_g0_3, st_g0_4, st_p0_4, st_g0_5, st_p0_5, st_g0_6, st_p0_6, st_g0_7, st_p0_7, st_v0, st_g1_0, st_g1_1, st_g1_2, st_g1_3, st_p1_3, st_v1, st_g7_0, st_g7_1, st_p7_1, st_g7_2, st_p7_2, st_v7, st_i2, st_is2, st_i3, st_is3, st_i4, st_is4, st_i5, st_is5, st_i6, st_is6, st_l8, st_ls8, st_y2, st_y3, st_y4, st_y8, st_o100_0, st_o100_1, st_o100_2, st_o100_3, st_o100_4, st_o100_5, st_o100_6, st_o100_7, st_q100_7, st_o100_8, st_q100_8, st_w100, st_o110_0, st_o110_1, st_w110, st_o129_0, st_o129_1, st_q129_1, st_o129_2, st_q129_2, st_w129, st_o205_0, st_o205_1, st_q205_1, st_o205_2, st_o205_3, st_q205_3, st_o205_4, st_q205_4, st_o205_5, st_q205_5, st_o205_6, st_q205_6, st_o205_7, st_q205_7, st_o205_8, st_q205_8, st_o205_9, st_q205_9, st_w205, st_o235_0, st_o235_1, st_o235_2, st_o235_3, st_o235_4, st_o235_5, st_o235_6, st_o235_7, st_q235_7, st_o235_8, st_q235_8, st_o235_9, st_o235_10, st_q235_10, st_o235_11, st_q235_11, st_o235_12, st_q235_12, st_o235_13, st_q235_13, st_o235_14, st_q235_14, st_o235_15, st_q235_15, st_o235_16, st_q235_16, st_o235_17, st_q235_17, st_o235_18, st_q235_18, st_o235_19, st_o235_20, st_o235_21, st_q235_21, st_o235_22, st_q235_22, st_o235_23, st_o235_24, st_q235_24, st_w235, st_a204, st_as204, st_a206, st_as206, st_a216, st_as216, st_a236, st_as236, st_a237, st_as237, st_a238, st_as238, st_a239, st_as239, st_a240, st_as240, st_a241, st_as241, st_a242, st_as242, st_a243, st_as243, st_a244, st_as244, st_a245, st_as245, st_a246, st_as246, st_r130, st_r203, nx_in, nx_clamp, nx_i2n, nx_l2n, nx_add, nx_sub, nx_pred, nx_mul, nx_lt, nx_le, nx_eq, nx_shl, nx_shr, nx_and1, nx_andm, nx_m1, nx_or, nx_dr, nx_rem, nx_kC, nx_ift, nx_iff, Nat.add_zero, ↓nif_lt_t, ↓nif_lt_f, ↓nif_le_t, ↓nif_le_f, ↓nif_eq_t, ↓nif_eq_f, ↓nif_ne_t, ↓nif_ne_f, Nat.one_mul, List.cons_append, List.nil_append, List.append_nil, Option.toList, if_true, if_false, Bool.false_eq_true, and_true, true_and, and_self]
  | succ f ih =>
    intro k a x4 x5 hk hk1 hx4
    obtain ⟨y5, n5, e1⟩ := s193i (xs := xs) (L := L) (S := S) (t := t) (a := a) ho hm hT (k := k) (by omega) (d := 0) (by decide) (x5 := x5)
    obtain ⟨y6, n6, e2⟩ := s193i (xs := xs) (L := L) (S := S) (t := t) (a := a + twt r T 0 k) ho hm hT (k := k) (by omega) (d := 1) (by decide) (x5 := y5)
    have e3 := ih (k + 1) (a + twt r T 0 k + twt r T 1 k) (.int (nI (1 + 1))) y6 (by omega) (by omega) rfl
    rw [show a + twt r T 0 k + twt r T 1 k + thm r T f (k + 1) = a + (twt r T 0 k + twt r T 1 k + thm r T f (k + 1)) by omega] at e3
    rw [r193_46]
    unfold thm
    simp (config := { decide := false, maxSteps := 1000000 }) (disch := first | assumption | exact nlg_i _ | exact nlg_r _ | exact nlg_n | omega | decide) only [r193_0, r193_1, r193_2, r193_3, r193_6, r193_9, r193_10, r193_13, r193_14, r193_17, r193_18, r193_21, r193_24, r193_25, r193_26, r193_29, r193_30, r193_33, r193_34, r193_35, r193_36, r193_37, r193_38, r193_39, r193_42, r193_45, r193_47, r193_48, r193_51, r193_52, r193_56, r193_57, r193_60, r193_61, r193_62, r193_63, r193_65, r193_66, r193_69, r193_72, r193_74, r193_75, r193_77, r193_80, r193_81, r193_82, r193_83, r193_86, r193_89, r193_90, r193_93, r193_95, r193_98, r193_99, r193_102, r193_103, r193_106, r193_107, r193_108, r193_109, r193_112, r193_115, r193_118, r193_122, st_g0_0, st_g0_1, st_g0_2, st_g0_3, st_g0_4, st_p0_4, st_g0_5, st_p0_5, st_g0_6, st_p0_6, st_g0_7, st_p0_7, st_v0, st_g1_0, st_g1_1, st_g1_2, st_g1_3, st_p1_3, st_v1, st_g7_0, st_g7_1, st_p7_1, st_g7_2, st_p7_2, st_v7, st_i2, st_is2, st_i3, st_is3, st_i4, st_is4, st_i5, st_is5, st_i6, st_is6, st_l8, st_ls8, st_y2, st_y3, st_y4, st_y8, st_o100_0, st_o100_1, st_o100_2, st_o100_3, st_o100_4, st_o100_5, st_o100_6, st_o100_7, st_q100_7, st_o100_8, st_q100_8, st_w100, st_o110_0, st_o110_1, st_w110, st_o129_0, st_o129_1, st_q129_1, st_o129_2, st_q129_2, st_w129, st_o205_0, st_o205_1, st_q205_1, st_o205_2, st_o205_3, st_q205_3, st_o205_4, st_q205_4, st_o205_5, st_q205_5, st_o205_6, st_q205_6, st_o205_7, st_q205_7, st_o205_8, st_q205_8, st_o205_9, st_q205_9, st_w205, st_o235_0, st_o235_1, st_o235_2, st_o235_3, st_o235_4, st_o235_5, st_o235_6, st_o235_7, st_q235_7, st_o235_8, st_q235_8, st_o235_9, st_o235_10, st_q235_10, st_o235_11, st_q235_11, st_o235_12, st_q235_12, st_o235_13, st_q235_13, st_o235_14, st_q235_14, st_o235_15, st_q235_15, st_o235_16, st_q235_16, st_o235_17, st_q235_17, st_o235_18, st_q235_18, st_o235_19, st_o235_20, st_o235_21, st_q235_21, st_o235_22, st_q235_22, st_o235_23, st_o235_24, st_q235_24, st_w235, st_a204, st_as204, st_a206, st_as206, st_a216, st_as216, st_a236, st_as236, st_a237, st_as237, st_a238, st_as238, st_a239, st_as239, st_a240, st_as240, st_a241, st_as241, st_a242, st_as242, st_a243, st_as243, st_a244, st_as244, st_a245, st_as245, st_a246, st_as246, st_r130, st_r203, nx_in, nx_clamp, nx_i2n, nx_l2n, nx_add, nx_sub, nx_pred, nx_mul, nx_lt, nx_le, nx_eq, nx_shl, nx_shr, nx_and1, nx_andm, nx_m1, nx_or, nx_dr, nx_rem, nx_kC, nx_ift, nx_iff, ↓nif_lt_t, ↓nif_lt_f, ↓nif_le_t, ↓nif_le_f, ↓nif_eq_t, ↓nif_eq_f, ↓nif_ne_t, ↓nif_ne_f, Nat.one_mul, List.cons_append, List.nil_append, List.append_nil, Option.toList, if_true, if_false, Bool.false_eq_true, and_true, true_and, and_self]
    rw [e1, e2, r193_54]
    simp (config := { decide := false, maxSteps := 1000000 }) (disch := first | assumption | exact nlg_i _ | exact nlg_r _ | exact nlg_n | omega | decide) only [r193_0, r193_1, r193_2, r193_3, r193_6, r193_9, r193_10, r193_13, r193_14, r193_17, r193_18, r193_21, r193_24, r193_25, r193_26, r193_29, r193_30, r193_33, r193_34, r193_35, r193_36, r193_37, r193_38, r193_39, r193_42, r193_45, r193_47, r193_48, r193_51, r193_52, r193_56, r193_57, r193_61, r193_62, r193_63, r193_65, r193_66, r193_69, r193_72, r193_74, r193_75, r193_77, r193_80, r193_81, r193_82, r193_83, r193_86, r193_89, r193_90, r193_93, r193_95, r193_98, r193_99, r193_102, r193_103, r193_106, r193_107, r193_108, r193_109, r193_112, r193_115, r193_118, r193_122, st_g0_0, st_g0_1, st_g0_2, st_g0_3, st_g0_4, st_p0_4, st_g0_5, st_p0_5, st_g0_6, st_p0_6, st_g0_7, st_p0_7, st_v0, st_g1_0, st_g1_1, st_g1_2, st_g1_3, st_p1_3, st_v1, st_g7_0, st_g7_1, st_p7_1, st_g7_2, st_p7_2, st_v7, st_i2, st_is2, st_i3, st_is3, st_i4, st_is4, st_i5, st_is5, st_i6, st_is6, st_l8, st_ls8, st_y2, st_y3, st_y4, st_y8, st_o100_0, st_o100_1, st_o100_2, st_o100_3, st_o100_4, st_o100_5, st_o100_6, st_o100_7, st_q100_7, st_o100_8, st_q100_8, st_w100, st_o110_0, st_o110_1, st_w110, st_o129_0, st_o129_1, st_q129_1, st_o129_2, st_q129_2, st_w129, st_o205_0, st_o205_1, st_q205_1, st_o205_2, st_o205_3, st_q205_3, st_o205_4, st_q205_4, st_o205_5, st_q205_5, st_o205_6, st_q205_6, st_o205_7, st_q205_7, st_o205_8, st_q205_8, st_o205_9, st_q205_9, st_w205, st_o235_0, st_o235_1, st_o235_2, st_o235_3, st_o235_4, st_o235_5, st_o235_6, st_o235_7, st_q235_7, st_o235_8, st_q235_8, st_o235_9, st_o235_10, st_q235_10, st_o235_11, st_q235_11, st_o235_12, st_q235_12, st_o235_13, st_q235_13, st_o235_14, st_q235_14, st_o235_15, st_q235_15, st_o235_16, st_q235_16, st_o235_17, st_q235_17, st_o235_18, st_q235_18, st_o235_19, st_o235_20, st_o235_21, st_q235_21, st_o235_22, st_q235_22, st_o235_23, st_o235_24, st_q235_24, st_w235, st_a204, st_as204, st_a206, st_as206, st_a216, st_as216, st_a236, st_as236, st_a237, st_as237, st_a238, st_as238, st_a239, st_as239, st_a240, st_as240, st_a241, st_as241, st_a242, st_as242, st_a243, st_as243, st_a244, st_as244, st_a245, st_as245, st_a246, st_as246, st_r130, st_r203, nx_in, nx_clamp, nx_i2n, nx_l2n, nx_add, nx_sub, nx_pred, nx_mul, nx_lt, nx_le, nx_eq, nx_shl, nx_shr, nx_and1, nx_andm, nx_m1, nx_or, nx_dr, nx_rem, nx_kC, nx_ift, nx_iff, e3, ↓nif_lt_t, ↓nif_lt_f, ↓nif_le_t, ↓nif_le_f, ↓nif_eq_t, ↓nif_eq_f, ↓nif_ne_t, ↓nif_ne_f, Nat.one_mul, List.cons_append, List.nil_append, List.append_nil, Option.toList, if_true, if_false, Bool.false_eq_true, and_true, true_and, and_self]
end XTH
