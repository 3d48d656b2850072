section XTK
variable {xs : Nat → Int32} {L : Nat} {S : xS} {t : Nat × Nat × Nat} {n c : Nat} {T : Nat → Nat} {r : xG} {e f : Nat → Int32} {A : Nat → Nat}
/-- the kinds of signs: 1 a letter, 2 a digit, 3 a semicolon, 4 another -/
def kdB (b : Nat) : Nat := if 97 ≤ b ∧ b ≤ 122 then 1 else if 48 ≤ b ∧ b ≤ 57 then 2 else if b = 59 then 3 else 4
/-- behind the spaces -/
def tS (T : Nat → Nat) (n : Nat) : Nat → Nat → Nat
  | 0, p => p
  | f + 1, p => if p < n ∧ T p = 32 then tS T n f (p + 1) else p
/-- behind the signs of a kind -/
def te (T : Nat → Nat) (n k : Nat) : Nat → Nat → Nat
  | 0, p => p
  | f + 1, p => if p < n ∧ kdB (T p) = k then te T n k f (p + 1) else p
def kK (T : Nat → Nat) (n s : Nat) : Nat := if s < n then kdB (T s) else 0
def eE (T : Nat → Nat) (n s : Nat) : Nat := if s < n then (if kdB (T s) = 1 ∨ kdB (T s) = 2 then te T n (kdB (T s)) (n - (s + 1)) (s + 1) else s + 1) else s
/-- the next token behind a place -/
def nT (T : Nat → Nat) (n p : Nat) : Nat := tS T n (n - p) p
/-- a number's value, and where its reading stopped -/
def nv (T : Nat → Nat) (n : Nat) : Nat → Nat → Nat → Nat × Nat
  | 0, p, a => (a, p)
  | f + 1, p, a => if p < n ∧ kdB (T p) = 2 ∧ a < 1000 then nv T n f (p + 1) (10 * a + T p - 48) else (a, p)
def vS (T : Nat → Nat) (n s : Nat) : Nat := (nv T n (n - s) s 0).1
def wd (j i : Nat) : Nat := i2n ((xi_sb.getD (j - 1) []).getD i 0)
def wl (j : Nat) : Nat := (xi_sb.getD (j - 1) []).length
def isW (T : Nat → Nat) (n s j : Nat) : Prop := kK T n s = 1 ∧ eE T n s - s = wl j ∧ ∀ i, i < wl j → T (s + i) = wd j i
theorem kdB_lt (b : Nat) : 1 ≤ kdB b ∧ kdB b ≤ 4 := by
  unfold kdB
  split
  · decide
  · split
    · decide
    · split <;> decide
theorem tS_le : ∀ f p, f + p = n → p ≤ tS T n f p ∧ tS T n f p ≤ n := by
  intro f
  induction f with
  | zero => intro p h; exact ⟨Nat.le_refl _, by show p ≤ n; omega⟩
  | succ f ih =>
    intro p h
    show p ≤ (if p < n ∧ T p = 32 then tS T n f (p + 1) else p) ∧ (if p < n ∧ T p = 32 then tS T n f (p + 1) else p) ≤ n
    split
    · have := ih (p + 1) (by omega)
      omega
    · omega
theorem te_le {k : Nat} : ∀ f p, f + p = n → p ≤ te T n k f p ∧ te T n k f p ≤ n := by
  intro f
  induction f with
  | zero => intro p h; exact ⟨Nat.le_refl _, by show p ≤ n; omega⟩
  | succ f ih =>
    intro p h
    show p ≤ (if p < n ∧ kdB (T p) = k then te T n k f (p + 1) else p) ∧ (if p < n ∧ kdB (T p) = k then te T n k f (p + 1) else p) ≤ n
    split
    · have := ih (p + 1) (by omega)
      omega
    · omega
theorem te_all {k : Nat} : ∀ f p, ∀ q, p ≤ q → q < te T n k f p → kdB (T q) = k := by
  intro f
  induction f with
  | zero => intro p q h1 h2; exact absurd (show q < p from h2) (by omega)
  | succ f ih =>
    intro p q h1 h2
    rw [show te T n k (f + 1) p = (if p < n ∧ kdB (T p) = k then te T n k f (p + 1) else p) from rfl] at h2
    by_cases hc : p < n ∧ kdB (T p) = k
    · rw [if_pos hc] at h2
      by_cases hq : q = p
      · rw [hq]; exact hc.2
      · exact ih (p + 1) q (by omega) h2
    · rw [if_neg hc] at h2
      omega
theorem nT_le {p : Nat} (h : p ≤ n) : p ≤ nT T n p ∧ nT T n p ≤ n := tS_le (n - p) p (by omega)
theorem eE_le {s : Nat} (h : s ≤ n) : s ≤ eE T n s ∧ eE T n s ≤ n := by
  unfold eE
  split
  · next h1 =>
    split
    · have := te_le (T := T) (n := n) (k := kdB (T s)) (n - (s + 1)) (s + 1) (by omega)
      omega
    · omega
  · omega
theorem eE_gt {s : Nat} (h : s < n) : s < eE T n s := by
  unfold eE
  rw [if_pos h]
  split
  · have := te_le (T := T) (n := n) (k := kdB (T s)) (n - (s + 1)) (s + 1) (by omega)
    omega
  · omega
theorem eE_all {s q : Nat} (h : kK T n s = 1 ∨ kK T n s = 2) (h1 : s ≤ q) (h2 : q < eE T n s) : kdB (T q) = kK T n s := by
  have hs : s < n := by
    refine Decidable.byContradiction (fun z => ?_)
    unfold kK at h
    rw [if_neg z] at h
    omega
  have hk : kK T n s = kdB (T s) := if_pos hs
  rw [hk] at h ⊢
  by_cases hq : q = s
  · rw [hq]
  · unfold eE at h2
    rw [if_pos hs, if_pos h] at h2
    exact te_all _ _ q (by omega) h2
theorem kK_lt (s : Nat) : kK T n s ≤ 4 := by
  unfold kK
  split
  · exact (kdB_lt _).2
  · decide
theorem kK_0 {s : Nat} : kK T n s = 0 ↔ ¬ s < n := by
  unfold kK
  split
  · next h => have := kdB_lt (T s); exact ⟨fun z => by omega, fun z => absurd h z⟩
  · next h => exact ⟨fun _ => h, fun _ => rfl⟩
/-- the store with the fields of the text and its game replaced -/
def cs (S : xS) (e : Nat → Int32) (r : xG) : xS := (fun g => if g = 207 then r else S.1 g, S.2.1, S.2.2.1, fun id k => if id = 205 ∧ 3 ≤ k then e k else S.2.2.2.1 id k, S.2.2.2.2)
/-- the store with the fields of the model's reading and its row replaced -/
def ms (S : xS) (f : Nat → Int32) (A : Nat → Nat) : xS := (S.1, S.2.1, fun id => if id = 237 then A else S.2.2.1 id, fun id k => if id = 235 ∧ 11 ≤ k ∧ k ≤ 17 then f k else S.2.2.2.1 id k, S.2.2.2.2)
def upI (e : Nat → Int32) (i : Nat) (v : Int32) : Nat → Int32 := fun j => if j = i then v else e j
theorem upI_e {i : Nat} {v : Int32} : upI e i v i = v := if_pos rfl
theorem upI_n {i j : Nat} {v : Int32} (h : j ≠ i) : upI e i v j = e j := if_neg h
theorem cs_r {k : Nat} (h : 3 ≤ k) : (cs S e r).2.2.2.1 205 k = e k := if_pos ⟨rfl, h⟩
theorem cs_1 : (cs S e r).2.2.2.1 205 1 = S.2.2.2.1 205 1 := rfl
theorem cs_m : (cs S e r).2.2.1 = S.2.2.1 := rfl
theorem cs_g : (cs S e r).1 207 = r := rfl
theorem cs_gn {g : Nat} (h : g ≠ 207) : (cs S e r).1 g = S.1 g := if_neg h
theorem cs_w {k : Nat} {v : Int32} (h : 3 ≤ k) : sI (cs S e r) 205 k v = cs S (upI e k v) r := by
  refine Prod.ext rfl (Prod.ext rfl (Prod.ext rfl (Prod.ext ?_ rfl)))
  funext id i
  show (if id = 205 ∧ i = k then v else if id = 205 ∧ 3 ≤ i then e i else S.2.2.2.1 id i) = (if id = 205 ∧ 3 ≤ i then (if i = k then v else e i) else S.2.2.2.1 id i)
  by_cases h1 : id = 205
  · by_cases h2 : i = k
    · rw [if_pos ⟨h1, h2⟩, if_pos ⟨h1, by omega⟩, if_pos h2]
    · rw [if_neg (fun z => h2 z.2)]
      by_cases h3 : 3 ≤ i
      · rw [if_pos ⟨h1, h3⟩, if_pos ⟨h1, h3⟩, if_neg h2]
      · rw [if_neg (fun z => h3 z.2), if_neg (fun z => h3 z.2)]
  · rw [if_neg (fun z => h1 z.1), if_neg (fun z => h1 z.1), if_neg (fun z => h1 z.1)]
theorem cs_pg : cs S e r = pg (cs S e (S.1 207)) 207 r := by
  refine Prod.ext ?_ rfl
  funext g
  show (if g = 207 then r else S.1 g) = (if g = 207 then r else if g = 207 then S.1 207 else S.1 g)
  by_cases h : g = 207
  · rw [if_pos h, if_pos h]
  · rw [if_neg h, if_neg h, if_neg h]
theorem cs_pgw {r' : xG} : pg (cs S e r) 207 r' = cs S e r' := by
  rw [cs_pg, pg_pg, ← cs_pg]
theorem cs_sF {a i v : Nat} : sF (cs S e r) 207 a i v = cs S e (up2 r a i v) := by
  rw [cs_pg, pg_sF, ← cs_pg]
theorem ms_r {k : Nat} (h : 11 ≤ k ∧ k ≤ 17) : (ms S f A).2.2.2.1 235 k = f k := if_pos ⟨rfl, h⟩
theorem ms_A : (ms S f A).2.2.1 237 = A := rfl
theorem ms_n {id : Nat} (h : id ≠ 237) : (ms S f A).2.2.1 id = S.2.2.1 id := if_neg h
theorem ms_w {k : Nat} {v : Int32} (h : 11 ≤ k ∧ k ≤ 17) : sI (ms S f A) 235 k v = ms S (upI f k v) A := by
  refine Prod.ext rfl (Prod.ext rfl (Prod.ext rfl (Prod.ext ?_ rfl)))
  funext id i
  show (if id = 235 ∧ i = k then v else if id = 235 ∧ 11 ≤ i ∧ i ≤ 17 then f i else S.2.2.2.1 id i) = (if id = 235 ∧ 11 ≤ i ∧ i ≤ 17 then (if i = k then v else f i) else S.2.2.2.1 id i)
  by_cases h1 : id = 235
  · by_cases h2 : i = k
    · rw [if_pos ⟨h1, h2⟩, if_pos ⟨h1, by omega⟩, if_pos h2]
    · rw [if_neg (fun z => h2 z.2)]
      by_cases h3 : 11 ≤ i ∧ i ≤ 17
      · rw [if_pos ⟨h1, h3⟩, if_pos ⟨h1, h3⟩, if_neg h2]
      · rw [if_neg (fun z => h3 z.2), if_neg (fun z => h3 z.2)]
  · rw [if_neg (fun z => h1 z.1), if_neg (fun z => h1 z.1), if_neg (fun z => h1 z.1)]
theorem ms_sA {i v : Nat} : sM (ms S f A) 237 i v = ms S f (upN A i v) := by
  refine Prod.ext rfl (Prod.ext rfl (Prod.ext ?_ rfl))
  funext id i'
  show (if id = 237 ∧ i' = i then v else (if id = 237 then A else S.2.2.1 id) i') = (if id = 237 then upN A i v else S.2.2.1 id) i'
  by_cases h : id = 237
  · subst h
    simp [upN]
  · simp [h]
theorem cs_self : cs S (S.2.2.2.1 205) (S.1 207) = S := by
  refine Prod.ext ?_ (Prod.ext rfl (Prod.ext rfl (Prod.ext ?_ rfl)))
  · funext g
    show (if g = 207 then S.1 207 else S.1 g) = S.1 g
    split
    · next h => rw [h]
    · rfl
  · funext id k
    show (if id = 205 ∧ 3 ≤ k then S.2.2.2.1 205 k else S.2.2.2.1 id k) = S.2.2.2.1 id k
    split
    · next h => rw [h.1]
    · rfl
theorem ms_self : ms S (S.2.2.2.1 235) (S.2.2.1 237) = S := by
  refine Prod.ext rfl (Prod.ext rfl (Prod.ext ?_ (Prod.ext ?_ rfl)))
  · funext g
    show (if g = 237 then S.2.2.1 237 else S.2.2.1 g) = S.2.2.1 g
    split
    · next h => rw [h]
    · rfl
  · funext id k
    show (if id = 235 ∧ 11 ≤ k ∧ k ≤ 17 then S.2.2.2.1 235 k else S.2.2.2.1 id k) = S.2.2.2.1 id k
    split
    · next h => rw [h.1]
    · rfl
/-- the class's fields at a token -/
def tk (T : Nat → Nat) (n : Nat) (e : Nat → Int32) (s : Nat) : Nat → Int32 := fun k => if k = 6 then nI (kK T n s) else if k = 7 then nI s else if k = 8 then nI (eE T n s) else e k
theorem tk_tk {s s' : Nat} : tk T n (tk T n e s) s' = tk T n e s' := by
  funext k
  unfold tk
  split
  · rfl
  · split
    · rfl
    · split <;> rfl
theorem tk_w {s k : Nat} {v : Int32} (h : k < 6 ∨ 8 < k) : upI (tk T n e s) k v = tk T n (upI e k v) s := by
  funext j
  show (if j = k then v else if j = 6 then nI (kK T n s) else if j = 7 then nI s else if j = 8 then nI (eE T n s) else e j) = (if j = 6 then nI (kK T n s) else if j = 7 then nI s else if j = 8 then nI (eE T n s) else if j = k then v else e j)
  by_cases h0 : j = k
  · rw [if_pos h0, if_neg (show ¬ j = 6 by omega), if_neg (show ¬ j = 7 by omega), if_neg (show ¬ j = 8 by omega), if_pos h0]
  · rw [if_neg h0, if_neg h0]
theorem tk_n {s k : Nat} (h : k < 6 ∨ 8 < k) : tk T n e s k = e k := by
  unfold tk
  rw [if_neg (by omega), if_neg (by omega), if_neg (by omega)]
theorem tk_6 {s : Nat} : tk T n e s 6 = nI (kK T n s) := rfl
theorem tk_7 {s : Nat} : tk T n e s 7 = nI s := rfl
theorem tk_8 {s : Nat} : tk T n e s 8 = nI (eE T n s) := rfl
theorem bI_neg : ∀ b, b < 256 → 128 ≤ b → bI b < nI 0 := by decide +kernel
theorem s20 {b : Nat} (hb : b < 256) (hp : xi_H) : ev xs L 20 0 [.int (bI b)] [] (hp) = some (.inl (some (.int (nI (kdB b)))), hp) := by
  by_cases hs : b < 128
  · rw [bI_nI hs]
    unfold kdB
    by_cases h1 : 97 ≤ b
    · by_cases h2 : b ≤ 122
      · rw [if_pos ⟨h1, h2⟩]
        simp (config := { decide := false, maxSteps := 1000000 }) (disch := first | assumption | exact nlg_i _ | exact nlg_r _ | exact nlg_n | omega | decide) only [r20_0, r20_1, r20_3, r20_6, r20_7, r20_9, r20_12, r20_13, r20_14, r20_15, r20_17, r20_20, r20_21, r20_23, r20_26, r20_27, r20_28, r20_29, r20_31, r20_34, r20_35, r20_38, r20_39, st_g0_0, st_g0_1, st_g0_2, st_g0_3, st_g0_4, st_p0_4, st_g0_5, st_p0_5, st_g0_6, st_p0_6, st_g0_7, st_p0_7, st_v0, st_g1_0, st_g1_1, st_g1_2, st_g1_3, st_p1_3, st_v1, st_g7_0, st_g7_1, st_p7_1, st_g7_2, st_p7_2, st_v7, st_i2, st_is2, st_i3, st_is3, st_i4, st_is4, st_i5, st_is5, st_i6, st_is6, st_l8, st_ls8, st_y2, st_y3, st_y4, st_y8, st_o100_0, st_o100_1, st_o100_2, st_o100_3, st_o100_4, st_o100_5, st_o100_6, st_o100_7, st_q100_7, st_o100_8, st_q100_8, st_w100, st_o110_0, st_o110_1, st_w110, st_o129_0, st_o129_1, st_q129_1, st_o129_2, st_q129_2, st_w129, st_o205_0, st_o205_1, st_q205_1, st_o205_2, st_o205_3, st_q205_3, st_o205_4, st_q205_4, st_o205_5, st_q205_5, st_o205_6, st_q205_6, st_o205_7, st_q205_7, st_o205_8, st_q205_8, st_o205_9, st_q205_9, st_w205, st_o235_0, st_o235_1, st_o235_2, st_o235_3, st_o235_4, st_o235_5, st_o235_6, st_o235_7, st_q235_7, st_o235_8, st_q235_8, st_o235_9, st_o235_10, st_q235_10, st_o235_11, st_q235_11, st_o235_12, st_q235_12, st_o235_13, st_q235_13, st_o235_14, st_q235_14, st_o235_15, st_q235_15, st_o235_16, st_q235_16, st_o235_17, st_q235_17, st_o235_18, st_q235_18, st_o235_19, st_o235_20, st_o235_21, st_q235_21, st_o235_22, st_q235_22, st_o235_23, st_o235_24, st_q235_24, st_w235, st_a204, st_as204, st_a206, st_as206, st_a216, st_as216, st_a236, st_as236, st_a237, st_as237, st_a238, st_as238, st_a239, st_as239, st_a240, st_as240, st_a241, st_as241, st_a242, st_as242, st_a243, st_as243, st_a244, st_as244, st_a245, st_as245, st_a246, st_as246, st_r130, st_r203, nx_in, nx_clamp, nx_i2n, nx_l2n, nx_add, nx_sub, nx_pred, nx_mul, nx_lt, nx_le, nx_eq, nx_shl, nx_shr, nx_and1, nx_andm, nx_m1, nx_or, nx_dr, nx_rem, nx_kC, nx_ift, nx_iff, ↓nif_lt_t, ↓nif_lt_f, ↓nif_le_t, ↓nif_le_f, ↓nif_eq_t, ↓nif_eq_f, ↓nif_ne_t, ↓nif_ne_f, Nat.one_mul, List.cons_append, List.nil_append, List.append_nil, Option.toList, if_true, if_false, Bool.false_eq_true, and_true, true_and, and_self]
      · rw [if_neg (fun z => h2 z.2), if_neg (by omega), if_neg (by omega)]
        simp (config := { decide := false, maxSteps := 1000000 }) (disch := first | assumption | exact nlg_i _ | exact nlg_r _ | exact nlg_n | omega | decide) only [r20_0, r20_1, r20_3, r20_6, r20_7, r20_9, r20_12, r20_13, r20_14, r20_15, r20_17, r20_20, r20_21, r20_23, r20_26, r20_27, r20_28, r20_29, r20_31, r20_34, r20_35, r20_38, r20_39, st_g0_0, st_g0_1, st_g0_2, st_g0_3, st_g0_4, st_p0_4, st_g0_5, st_p0_5, st_g0_6, st_p0_6, st_g0_7, st_p0_7, st_v0, st_g1_0, st_g1_1, st_g1_2, st_g1_3, st_p1_3, st_v1, st_g7_0, st_g7_1, st_p7_1, st_g7_2, st_p7_2, st_v7, st_i2, st_is2, st_i3, st_is3, st_i4, st_is4, st_i5, st_is5, st_i6, st_is6, st_l8, st_ls8, st_y2, st_y3, st_y4, st_y8, st_o100_0, st_o100_1, st_o100_2, st_o100_3, st_o100_4, st_o100_5, st_o100_6, st_o100_7, st_q100_7, st_o100_8, st_q100_8, st_w100, st_o110_0, st_o110_1, st_w110, st_o129_0, st_o129_1, st_q129_1, st_o129_2, st_q129_2, st_w129, st_o205_0, st_o205_1, st_q205_1, st_o205_2, st_o205_3, st_q205_3, st_o205_4, st_q205_4, st_o205_5, st_q205_5, st_o205_6, st_q205_6, st_o205_7, st_q205_7, st_o205_8, st_q205_8, st_o205_9, st_q205_9, st_w205, st_o235_0, st_o235_1, st_o235_2, st_o235_3, st_o235_4, st_o235_5, st_o235_6, st_o235_7, st_q235_7, st_o235_8, st_q235_8, st_o235_9, st_o235_10, st_q235_10, st_o235_11, st_q235_11, st_o235_12, st_q235_12, st_o235_13, st_q235_13, st_o235_14, st_q235_14, st_o235_15, st_q235_15, st_o235_16, st_q235_16, st_o235_17, st_q235_17, st_o235_18, st_q235_18, st_o235_19, st_o235_20, st_o235_21, st_q235_21, st_o235_22, st_q235_22, st_o235_23, st_o235_24, st_q235_24, st_w235, st_a204, st_as204, st_a206, st_as206, st_a216, st_as216, st_a236, st_as236, st_a237, st_as237, st_a238, st_as238, st_a239, st_as239, st_a240, st_as240, st_a241, st_as241, st_a242, st_as242, st_a243, st_as243, st_a244, st_as244, st_a245, st_as245, st_a246, st_as246, st_r130, st_r203, nx_in, nx_clamp, nx_i2n, nx_l2n, nx_add, nx_sub, nx_pred, nx_mul, nx_lt, nx_le, nx_eq, nx_shl, nx_shr, nx_and1, nx_andm, nx_m1, nx_or, nx_dr, nx_rem, nx_kC, nx_ift, nx_iff, ↓nif_lt_t, ↓nif_lt_f, ↓nif_le_t, ↓nif_le_f, ↓nif_eq_t, ↓nif_eq_f, ↓nif_ne_t, ↓nif_ne_f, Nat.one_mul, List.cons_append, List.nil_append, List.append_nil, Option.toList, if_true, if_false, Bool.false_eq_true, and_true, true_and, and_self]
    · rw [if_neg (fun z => h1 z.1)]
      by_cases h3 : 48 ≤ b
      · by_cases h4 : b ≤ 57
        · rw [if_pos ⟨h3, h4⟩]
          simp (config := { decide := false, maxSteps := 1000000 }) (disch := first | assumption | exact nlg_i _ | exact nlg_r _ | exact nlg_n | omega | decide) only [r20_0, r20_1, r20_3, r20_6, r20_7, r20_9, r20_12, r20_13, r20_14, r20_15, r20_17, r20_20, r20_21, r20_23, r20_26, r20_27, r20_28, r20_29, r20_31, r20_34, r20_35, r20_38, r20_39, st_g0_0, st_g0_1, st_g0_2, st_g0_3, st_g0_4, st_p0_4, st_g0_5, st_p0_5, st_g0_6, st_p0_6, st_g0_7, st_p0_7, st_v0, st_g1_0, st_g1_1, st_g1_2, st_g1_3, st_p1_3, st_v1, st_g7_0, st_g7_1, st_p7_1, st_g7_2, st_p7_2, st_v7, st_i2, st_is2, st_i3, st_is3, st_i4, st_is4, st_i5, st_is5, st_i6, st_is6, st_l8, st_ls8, st_y2, st_y3, st_y4, st_y8, st_o100_0, st_o100_1, st_o100_2, st_o100_3, st_o100_4, st_o100_5, st_o100_6, st_o100_7, st_q100_7, st_o100_8, st_q100_8, st_w100, st_o110_0, st_o110_1, st_w110, st_o129_0, st_o129_1, st_q129_1, st_o129_2, st_q129_2, st_w129, st_o205_0, st_o205_1, st_q205_1, st_o205_2, st_o205_3, st_q205_3, st_o205_4, st_q205_4, st_o205_5, st_q205_5, st_o205_6, st_q205_6, st_o205_7, st_q205_7, st_o205_8, st_q205_8, st_o205_9, st_q205_9, st_w205, st_o235_0, st_o235_1, st_o235_2, st_o235_3, st_o235_4, st_o235_5, st_o235_6, st_o235_7, st_q235_7, st_o235_8, st_q235_8, st_o235_9, st_o235_10, st_q235_10, st_o235_11, st_q235_11, st_o235_12, st_q235_12, st_o235_13, st_q235_13, st_o235_14, st_q235_14, st_o235_15, st_q235_15, st_o235_16, st_q235_16, st_o235_17, st_q235_17, st_o235_18, st_q235_18, st_o235_19, st_o235_20, st_o235_21, st_q235_21, st_o235_22, st_q235_22, st_o235_23, st_o235_24, st_q235_24, st_w235, st_a204, st_as204, st_a206, st_as206, st_a216, st_as216, st_a236, st_as236, st_a237, st_as237, st_a238, st_as238, st_a239, st_as239, st_a240, st_as240, st_a241, st_as241, st_a242, st_as242, st_a243, st_as243, st_a244, st_as244, st_a245, st_as245, st_a246, st_as246, st_r130, st_r203, nx_in, nx_clamp, nx_i2n, nx_l2n, nx_add, nx_sub, nx_pred, nx_mul, nx_lt, nx_le, nx_eq, nx_shl, nx_shr, nx_and1, nx_andm, nx_m1, nx_or, nx_dr, nx_rem, nx_kC, nx_ift, nx_iff, ↓nif_lt_t, ↓nif_lt_f, ↓nif_le_t, ↓nif_le_f, ↓nif_eq_t, ↓nif_eq_f, ↓nif_ne_t, ↓nif_ne_f, Nat.one_mul, List.cons_append, List.nil_append, List.append_nil, Option.toList, if_true, if_false, Bool.false_eq_true, and_true, true_and, and_self]
        · rw [if_neg (fun z => h4 z.2)]
          by_cases h5 : b = 59
          · rw [if_pos h5]
            simp (config := { decide := false, maxSteps := 1000000 }) (disch := first | assumption | exact nlg_i _ | exact nlg_r _ | exact nlg_n | omega | decide) only [r20_0, r20_1, r20_3, r20_6, r20_7, r20_9, r20_12, r20_13, r20_14, r20_15, r20_17, r20_20, r20_21, r20_23, r20_26, r20_27, r20_28, r20_29, r20_31, r20_34, r20_35, r20_38, r20_39, st_g0_0, st_g0_1, st_g0_2, st_g0_3, st_g0_4, st_p0_4, st_g0_5, st_p0_5, st_g0_6, st_p0_6, st_g0_7, st_p0_7, st_v0, st_g1_0, st_g1_1, st_g1_2, st_g1_3, st_p1_3, st_v1, st_g7_0, st_g7_1, st_p7_1, st_g7_2, st_p7_2, st_v7, st_i2, st_is2, st_i3, st_is3, st_i4, st_is4, st_i5, st_is5, st_i6, st_is6, st_l8, st_ls8, st_y2, st_y3, st_y4, st_y8, st_o100_0, st_o100_1, st_o100_2, st_o100_3, st_o100_4, st_o100_5, st_o100_6, st_o100_7, st_q100_7, st_o100_8, st_q100_8, st_w100, st_o110_0, st_o110_1, st_w110, st_o129_0, st_o129_1, st_q129_1, st_o129_2, st_q129_2, st_w129, st_o205_0, st_o205_1, st_q205_1, st_o205_2, st_o205_3, st_q205_3, st_o205_4, st_q205_4, st_o205_5, st_q205_5, st_o205_6, st_q205_6, st_o205_7, st_q205_7, st_o205_8, st_q205_8, st_o205_9, st_q205_9, st_w205, st_o235_0, st_o235_1, st_o235_2, st_o235_3, st_o235_4, st_o235_5, st_o235_6, st_o235_7, st_q235_7, st_o235_8, st_q235_8, st_o235_9, st_o235_10, st_q235_10, st_o235_11, st_q235_11, st_o235_12, st_q235_12, st_o235_13, st_q235_13, st_o235_14, st_q235_14, st_o235_15, st_q235_15, st_o235_16, st_q235_16, st_o235_17, st_q235_17, st_o235_18, st_q235_18, st_o235_19, st_o235_20, st_o235_21, st_q235_21, st_o235_22, st_q235_22, st_o235_23, st_o235_24, st_q235_24, st_w235, st_a204, st_as204, st_a206, st_as206, st_a216, st_as216, st_a236, st_as236, st_a237, st_as237, st_a238, st_as238, st_a239, st_as239, st_a240, st_as240, st_a241, st_as241, st_a242, st_as242, st_a243, st_as243, st_a244, st_as244, st_a245, st_as245, st_a246, st_as246, st_r130, st_r203, nx_in, nx_clamp, nx_i2n, nx_l2n, nx_add, nx_sub, nx_pred, nx_mul, nx_lt, nx_le, nx_eq, nx_shl, nx_shr, nx_and1, nx_andm, nx_m1, nx_or, nx_dr, nx_rem, nx_kC, nx_ift, nx_iff, ↓nif_lt_t, ↓nif_lt_f, ↓nif_le_t, ↓nif_le_f, ↓nif_eq_t, ↓nif_eq_f, ↓nif_ne_t, ↓nif_ne_f, Nat.one_mul, List.cons_append, List.nil_append, List.append_nil, Option.toList, if_true, if_false, Bool.false_eq_true, and_true, true_and, and_self]
          · rw [if_neg h5]
            simp (config := { decide := false, maxSteps := 1000000 }) (disch := first | assumption | exact nlg_i _ | exact nlg_r _ | exact nlg_n | omega | decide) only [r20_0, r20_1, r20_3, r20_6, r20_7, r20_9, r20_12, r20_13, r20_14, r20_15, r20_17, r20_20, r20_21, r20_23, r20_26, r20_27, r20_28, r20_29, r20_31, r20_34, r20_35, r20_38, r20_39, st_g0_0, st_g0_1, st_g0_2, st_g0_3, st_g0_4, st_p0_4, st_g0_5, st_p0_5, st_g0_6, st_p0_6, st_g0_7, st_p0_7, st_v0, st_g1_0, st_g1_1, st_g1_2, st_g1_3, st_p1_3, st_v1, st_g7_0, st_g7_1, st_p7_1, st_g7_2, st_p7_2, st_v7, st_i2, st_is2, st_i3, st_is3, st_i4, st_is4, st_i5, st_is5, st_i6, st_is6, st_l8, st_ls8, st_y2, st_y3, st_y4, st_y8, st_o100_0, st_o100_1, st_o100_2, st_o100_3, st_o100_4, st_o100_5, st_o100_6, st_o100_7, st_q100_7, st_o100_8, st_q100_8, st_w100, st_o110_0, st_o110_1, st_w110, st_o129_0, st_o129_1, st_q129_1, st_o129_2, st_q129_2, st_w129, st_o205_0, st_o205_1, st_q205_1, st_o205_2, st_o205_3, st_q205_3, st_o205_4, st_q205_4, st_o205_5, st_q205_5, st_o205_6, st_q205_6, st_o205_7, st_q205_7, st_o205_8, st_q205_8, st_o205_9, st_q205_9, st_w205, st_o235_0, st_o235_1, st_o235_2, st_o235_3, st_o235_4, st_o235_5, st_o235_6, st_o235_7, st_q235_7, st_o235_8, st_q235_8, st_o235_9, st_o235_10, st_q235_10, st_o235_11, st_q235_11, st_o235_12, st_q235_12, st_o235_13, st_q235_13, st_o235_14, st_q235_14, st_o235_15, st_q235_15, st_o235_16, st_q235_16, st_o235_17, st_q235_17, st_o235_18, st_q235_18, st_o235_19, st_o235_20, st_o235_21, st_q235_21, st_o235_22, st_q235_22, st_o235_23, st_o235_24, st_q235_24, st_w235, st_a204, st_as204, st_a206, st_as206, st_a216, st_as216, st_a236, st_as236, st_a237, st_as237, st_a238, st_as238, st_a239, st_as239, st_a240, st_as240, st_a241, st_as241, st_a242, st_as242, st_a243, st_as243, st_a244, st_as244, st_a245, st_as245, st_a246, st_as246, st_r130, st_r203, nx_in, nx_clamp, nx_i2n, nx_l2n, nx_add, nx_sub, nx_pred, nx_mul, nx_lt, nx_le, nx_eq, nx_shl, nx_shr, nx_and1, nx_andm, nx_m1, nx_or, nx_dr, nx_rem, nx_kC, nx_ift, nx_iff, ↓nif_lt_t, ↓nif_lt_f, ↓nif_le_t, ↓nif_le_f, ↓nif_eq_t, ↓nif_eq_f, ↓nif_ne_t, ↓nif_ne_f, Nat.one_mul, List.cons_append, List.nil_append, List.append_nil, Option.toList, if_true, if_false, Bool.false_eq_true, and_true, true_and, and_self]
      · rw [if_neg (fun z => h3 z.1), if_neg (by omega)]
        simp (config := { decide := false, maxSteps := 1000000 }) (disch := first | assumption | exact nlg_i _ | exact nlg_r _ | exact nlg_n | omega | decide) only [r20_0, r20_1, r20_3, r20_6, r20_7, r20_9, r20_12, r20_13, r20_14, r20_15, r20_17, r20_20, r20_21, r20_23, r20_26, r20_27, r20_28, r20_29, r20_31, r20_34, r20_35, r20_38, r20_39, st_g0_0, st_g0_1, st_g0_2, st_g0_3, st_g0_4, st_p0_4, st_g0_5, st_p0_5, st_g0_6, st_p0_6, st_g0_7, st_p0_7, st_v0, st_g1_0, st_g1_1, st_g1_2, st_g1_3, st_p1_3, st_v1, st_g7_0, st_g7_1, st_p7_1, st_g7_2, st_p7_2, st_v7, st_i2, st_is2, st_i3, st_is3, st_i4, st_is4, st_i5, st_is5, st_i6, st_is6, st_l8, st_ls8, st_y2, st_y3, st_y4, st_y8, st_o100_0, st_o100_1, st_o100_2, st_o100_3, st_o100_4, st_o100_5, st_o100_6, st_o100_7, st_q100_7, st_o100_8, st_q100_8, st_w100, st_o110_0, st_o110_1, st_w110, st_o129_0, st_o129_1, st_q129_1, st_o129_2, st_q129_2, st_w129, st_o205_0, st_o205_1, st_q205_1, st_o205_2, st_o205_3, st_q205_3, st_o205_4, st_q205_4, st_o205_5, st_q205_5, st_o205_6, st_q205_6, st_o205_7, st_q205_7, st_o205_8, st_q205_8, st_o205_9, st_q205_9, st_w205, st_o235_0, st_o235_1, st_o235_2, st_o235_3, st_o235_4, st_o235_5, st_o235_6, st_o235_7, st_q235_7, st_o235_8, st_q235_8, st_o235_9, st_o235_10, st_q235_10, st_o235_11, st_q235_11, st_o235_12, st_q235_12, st_o235_13, st_q235_13, st_o235_14, st_q235_14, st_o235_15, st_q235_15, st_o235_16, st_q235_16, st_o235_17, st_q235_17, st_o235_18, st_q235_18, st_o235_19, st_o235_20, st_o235_21, st_q235_21, st_o235_22, st_q235_22, st_o235_23, st_o235_24, st_q235_24, st_w235, st_a204, st_as204, st_a206, st_as206, st_a216, st_as216, st_a236, st_as236, st_a237, st_as237, st_a238, st_as238, st_a239, st_as239, st_a240, st_as240, st_a241, st_as241, st_a242, st_as242, st_a243, st_as243, st_a244, st_as244, st_a245, st_as245, st_a246, st_as246, st_r130, st_r203, nx_in, nx_clamp, nx_i2n, nx_l2n, nx_add, nx_sub, nx_pred, nx_mul, nx_lt, nx_le, nx_eq, nx_shl, nx_shr, nx_and1, nx_andm, nx_m1, nx_or, nx_dr, nx_rem, nx_kC, nx_ift, nx_iff, ↓nif_lt_t, ↓nif_lt_f, ↓nif_le_t, ↓nif_le_f, ↓nif_eq_t, ↓nif_eq_f, ↓nif_ne_t, ↓nif_ne_f, Nat.one_mul, List.cons_append, List.nil_append, List.append_nil, Option.toList, if_true, if_false, Bool.false_eq_true, and_true, true_and, and_self]
  · have h0 := bI_neg b hb (by omega)
    have h1 : bI b < nI 97 := Int32.lt_trans h0 (by decide)
    have h2 : bI b < nI 48 := Int32.lt_trans h0 (by decide)
    have h3 : ¬ bI b = nI 59 := fun z => by rw [z] at h0; exact absurd h0 (by decide)
    unfold kdB
    rw [if_neg (by omega), if_neg (by omega), if_neg (by omega)]
    simp (config := { decide := false, maxSteps := 1000000 }) (disch := first | assumption | exact nlg_i _ | exact nlg_r _ | exact nlg_n | omega | decide) only [r20_0, r20_1, r20_3, r20_7, r20_9, r20_12, r20_13, r20_14, r20_15, r20_17, r20_21, r20_23, r20_26, r20_27, r20_28, r20_29, r20_31, r20_34, r20_35, r20_38, r20_39, st_g0_0, st_g0_1, st_g0_2, st_g0_3, st_g0_4, st_p0_4, st_g0_5, st_p0_5, st_g0_6, st_p0_6, st_g0_7, st_p0_7, st_v0, st_g1_0, st_g1_1, st_g1_2, st_g1_3, st_p1_3, st_v1, st_g7_0, st_g7_1, st_p7_1, st_g7_2, st_p7_2, st_v7, st_i2, st_is2, st_i3, st_is3, st_i4, st_is4, st_i5, st_is5, st_i6, st_is6, st_l8, st_ls8, st_y2, st_y3, st_y4, st_y8, st_o100_0, st_o100_1, st_o100_2, st_o100_3, st_o100_4, st_o100_5, st_o100_6, st_o100_7, st_q100_7, st_o100_8, st_q100_8, st_w100, st_o110_0, st_o110_1, st_w110, st_o129_0, st_o129_1, st_q129_1, st_o129_2, st_q129_2, st_w129, st_o205_0, st_o205_1, st_q205_1, st_o205_2, st_o205_3, st_q205_3, st_o205_4, st_q205_4, st_o205_5, st_q205_5, st_o205_6, st_q205_6, st_o205_7, st_q205_7, st_o205_8, st_q205_8, st_o205_9, st_q205_9, st_w205, st_o235_0, st_o235_1, st_o235_2, st_o235_3, st_o235_4, st_o235_5, st_o235_6, st_o235_7, st_q235_7, st_o235_8, st_q235_8, st_o235_9, st_o235_10, st_q235_10, st_o235_11, st_q235_11, st_o235_12, st_q235_12, st_o235_13, st_q235_13, st_o235_14, st_q235_14, st_o235_15, st_q235_15, st_o235_16, st_q235_16, st_o235_17, st_q235_17, st_o235_18, st_q235_18, st_o235_19, st_o235_20, st_o235_21, st_q235_21, st_o235_22, st_q235_22, st_o235_23, st_o235_24, st_q235_24, st_w235, st_a204, st_as204, st_a206, st_as206, st_a216, st_as216, st_a236, st_as236, st_a237, st_as237, st_a238, st_as238, st_a239, st_as239, st_a240, st_as240, st_a241, st_as241, st_a242, st_as242, st_a243, st_as243, st_a244, st_as244, st_a245, st_as245, st_a246, st_as246, st_r130, st_r203, nx_in, nx_clamp, nx_i2n, nx_l2n, nx_add, nx_sub, nx_pred, nx_mul, nx_lt, nx_le, nx_eq, nx_shl, nx_shr, nx_and1, nx_andm, nx_m1, nx_or, nx_dr, nx_rem, nx_kC, nx_ift, nx_iff, h1, h2, h3, not_false_eq_true, ↓nif_lt_t, ↓nif_lt_f, ↓nif_le_t, ↓nif_le_f, ↓nif_eq_t, ↓nif_eq_f, ↓nif_ne_t, ↓nif_ne_f, Nat.one_mul, List.cons_append, List.nil_append, List.append_nil, Option.toList, if_true, if_false, Bool.false_eq_true, and_true, true_and, and_self]
end XTK
