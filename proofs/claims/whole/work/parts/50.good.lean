section XGD
variable {xs : Nat → Int32} {L : Nat} {S : xS} {t : Nat × Nat × Nat} {r : xG} {m g c n : Nat}
def hle (r : xG) : Prop := ∀ c, c < r 1 3 → r 3 c ≤ r 2 c
/-- a game behind at most m calls -/
def gd (m : Nat) (r : xG) : Prop := gok r ∧ hle r ∧ nrm r ∧ (r 6 1 ≤ 4 * m ∧ r 6 2 ≤ 4 * m) ∧ r 0 5 ≤ m
def gp (m : Nat) (r : xG) : Prop := gok r ∧ hle r ∧ nrm r ∧ (r 6 1 ≤ 4 * m + 4 ∧ r 6 2 ≤ 4 * m + 4) ∧ r 0 5 ≤ m
theorem used_2 {i : Nat} (h : used 2 i = false) : 12 ≤ i := by
  simp [used] at h
  omega
theorem used_3 {i : Nat} (h : used 3 i = false) : 12 ≤ i := by
  simp [used] at h
  omega
theorem used_4 {i : Nat} (h : used 4 i = false) : 12 ≤ i := by
  simp [used] at h
  omega
theorem nrm_2 {f : Nat → Nat} (h : nrm r) (hf : ∀ i, 12 ≤ i → f i = 0) : nrm (upR r 2 f) := by
  intro a i hu
  by_cases ha : a = 2
  · subst ha
    rw [upR_e]
    exact hf i (used_2 hu)
  · rw [upR_n r f ha]
    exact h a i hu
theorem nrm_3 {f : Nat → Nat} (h : nrm r) (hf : ∀ i, 12 ≤ i → f i = 0) : nrm (upR r 3 f) := by
  intro a i hu
  by_cases ha : a = 3
  · subst ha
    rw [upR_e]
    exact hf i (used_3 hu)
  · rw [upR_n r f ha]
    exact h a i hu
theorem nrm_4 {f : Nat → Nat} (h : nrm r) (hf : ∀ i, 12 ≤ i → f i = 0) : nrm (upR r 4 f) := by
  intro a i hu
  by_cases ha : a = 4
  · subst ha
    rw [upR_e]
    exact hf i (used_4 hu)
  · rw [upR_n r f ha]
    exact h a i hu
theorem nrm_up2 {a i v : Nat} (h : nrm r) (hu : used a i = true) : nrm (up2 r a i v) := by
  intro a' i' hu'
  unfold up2
  by_cases ha : a' = a ∧ i' = i
  · rw [ha.1, ha.2, hu] at hu'
    cases hu'
  · rw [if_neg ha]
    exact h a' i' hu'
theorem nrm_z {a i : Nat} (h : nrm r) (ha : 2 ≤ a ∧ a ≤ 4) (hi : 12 ≤ i) : r a i = 0 := nrm12 h ha hi
/-- other heights and pieces in a good game -/
theorem bd_gok (hg : gok r) (hn : nrm r) {H P : Nat → Nat} (h1 : ∀ x, x < r 1 3 → H x ≤ r 2 x) (hw : bwf (r 1 3) (H, P)) (ho : ∀ x, r 1 3 ≤ x → H x = r 3 x ∧ P x = r 4 x) : gok (upR (upR r 4 P) 3 H) ∧ hle (upR (upR r 4 P) 3 H) ∧ nrm (upR (upR r 4 P) 3 H) := by
  have hn1 := hg.1
  refine ⟨⟨hg.1, fun x hx => ?_, hg.2.2⟩, fun x hx => h1 x hx, nrm_3 (nrm_4 hn (fun i hi => ?_)) (fun i hi => ?_)⟩
  · have q := hg.2.1 x hx
    refine ⟨q.1, ?_, ?_⟩
    · show H x ≤ 8
      by_cases hxn : x < r 1 3
      · have := h1 x hxn
        omega
      · rw [(ho x (by omega)).1]
        exact q.2.1
    · show P x < 2 ^ H x
      by_cases hxn : x < r 1 3
      · exact hw x hxn
      · rw [(ho x (by omega)).1, (ho x (by omega)).2]
        exact q.2.2
  · rw [(ho i (by omega)).2]
    exact nrm_z hn (by decide) hi
  · rw [(ho i (by omega)).1]
    exact nrm_z hn (by decide) hi
theorem sumTo_le {f f' : Nat → Nat} : ∀ n, (∀ i, i < n → f i ≤ f' i) → sumTo f n ≤ sumTo f' n := by
  intro n
  induction n with
  | zero => intro _; exact Nat.le_refl _
  | succ n ih =>
    intro h
    rw [sumTo_s, sumTo_s]
    have h1 := ih (fun i hi => h i (by omega))
    have h2 := h n (by omega)
    omega
theorem gok_bwf (hg : gok r) : bwf (r 1 3) (r 3, r 4) := fun c hc => (hg.2.1 c (by have := hg.1; omega)).2.2
theorem rcap_8 {cap : Nat → Nat} (hn : 0 < n ∧ n ≤ 12) (h : ∀ c, c < 12 → cap c ≤ 8) : ∀ c, c < 12 → rcap n cap c ≤ 8 := by
  intro c hc
  cases c with
  | zero =>
    rw [rcap_0]
    exact h _ (by omega)
  | succ i =>
    by_cases hi : i + 1 < n
    · rw [rcap_s hi]
      exact h i (by omega)
    · rw [rcap_out (by omega) hn.1]
      exact h _ hc
theorem rcap_1 {cap : Nat → Nat} (h : ∀ c, c < n → 1 ≤ cap c) : ∀ c, c < n → 1 ≤ rcap n cap c := by
  intro c hc
  cases c with
  | zero =>
    rw [rcap_0]
    exact h _ (by omega)
  | succ i =>
    rw [rcap_s hc]
    exact h i (by omega)
theorem rt_ok (hg : gok r) (hl : hle r) (hn : nrm r) : rtO r ∧ gok (rtR r) ∧ hle (rtR r) ∧ nrm (rtR r) := by
  have hn1 := hg.1
  have h8 : ∀ d, d < 12 → rcap (r 1 3) (r 2) d ≤ 8 := rcap_8 ⟨by omega, hn1.2⟩ (fun c hc => (hg.2.1 c hc).1)
  have key := rot_ok (n := r 1 3) (cap := rcap (r 1 3) (r 2)) (by omega) (fun d hd => h8 d (by omega)) (r 1 3) (r 3, r 4) 0 0 rfl (Nat.le_refl _) (by omega) (by
    rw [rcap_sumn (by omega)]
    exact sumTo_le _ hl) (fun d hd => by omega) (fun d _ hd => by
    rw [rcap_nxt hd]
    exact hl d hd)
  have hw := rotL_wf (cap := rcap (r 1 3) (r 2)) (n := r 1 3) (by omega) (r 1 3) (r 3, r 4) 0 rfl (gok_bwf hg)
  have hout := rotL_out (cap := rcap (r 1 3) (r 2)) (n := r 1 3) (by omega) (r 1 3) (r 3, r 4) 0 rfl
  have g0 : gok (upR r 2 (rcap (r 1 3) (r 2))) := ⟨hg.1, fun c hc => ⟨h8 c hc, (hg.2.1 c hc).2⟩, rcap_1 hg.2.2.1, hg.2.2.2⟩
  have n0 : nrm (upR r 2 (rcap (r 1 3) (r 2))) := nrm_2 hn (fun i hi => by
    rw [rcap_out (by omega) (by omega)]
    exact nrm_z hn (by decide) hi)
  exact ⟨⟨gok_bwf hg, key.1⟩, bd_gok g0 n0 key.2.1 hw hout⟩
theorem gok_t {a i v : Nat} (h1 : a = 0) (h2 : i = 5) (hg : gok r) : gok (up2 r a i v) := by
  subst h1 h2
  exact hg
theorem tl_gd (h : gp m r) : gd (m + 1) (tlR r) ∧ tlR r 1 3 = r 1 3 ∧ rtO r := by
  obtain ⟨hg, hl, hn, hp, h5⟩ := h
  have r0 := rt_ok hg hl hn
  have r1 := rt_ok (r := up2 r 0 5 (r 0 5 + 1)) hg hl (nrm_up2 hn (by decide))
  have ht := hg.2.2.2.1
  have fin : ∀ q : xG, gok q → hle q → nrm q → q 6 = r 6 → q 0 5 = r 0 5 + 1 → q 1 3 = r 1 3 → gd (m + 1) (up2 q 0 4 (3 - r 0 4)) ∧ up2 q 0 4 (3 - r 0 4) 1 3 = r 1 3 := by
    intro q qg ql qn q6 q5 qn1
    refine ⟨⟨⟨qg.1, qg.2.1, qg.2.2.1, ?_, qg.2.2.2.2⟩, ql, nrm_up2 qn (by decide), ?_, ?_⟩, qn1⟩
    · show 1 ≤ 3 - r 0 4 ∧ 3 - r 0 4 ≤ 2
      omega
    · show q 6 1 ≤ 4 * (m + 1) ∧ q 6 2 ≤ 4 * (m + 1)
      rw [q6]
      omega
    · show q 0 5 ≤ m + 1
      omega
  unfold tlR
  by_cases hc : 0 < r 0 6 ∧ (r 0 5 + 1) % r 0 6 = 0
  · rw [if_pos hc]
    have := fin (rtR (up2 r 0 5 (r 0 5 + 1))) r1.2.1 r1.2.2.1 r1.2.2.2 rfl rfl rfl
    exact ⟨this.1, this.2, r0.1⟩
  · rw [if_neg hc]
    have := fin (up2 r 0 5 (r 0 5 + 1)) hg hl (nrm_up2 hn (by decide)) rfl rfl rfl
    exact ⟨this.1, this.2, r0.1⟩
theorem res_le (hg : gok r) : r 5 (r 0 4) ≤ 20 := by
  have := hg.2.2.2.2.1
  have ht := hg.2.2.2.1
  rcases (show r 0 4 = 1 ∨ r 0 4 = 2 by omega) with z | z
  · rw [z]; exact this.1
  · rw [z]; exact this.2
theorem dr_gp (h : gd m r) (hc : c < r 1 3) (h3 : r 3 c < r 2 c) : gp m (drR r c) := by
  obtain ⟨hg, hl, hn, hp, h5⟩ := h
  have hn1 := hg.1
  have ht := hg.2.2.2.1
  have h5r := res_le hg
  have g0 : gok (up2 r 5 (r 0 4) (r 5 (r 0 4) - 1)) := by
    refine ⟨hg.1, hg.2.1, hg.2.2.1, hg.2.2.2.1, ⟨?_, ?_⟩, hg.2.2.2.2.2⟩
    · show (if 5 = 5 ∧ 1 = r 0 4 then _ else _) ≤ 20
      have := hg.2.2.2.2.1
      split <;> omega
    · show (if 5 = 5 ∧ 2 = r 0 4 then _ else _) ≤ 20
      have := hg.2.2.2.2.1
      split <;> omega
  have n0 : nrm (up2 r 5 (r 0 4) (r 5 (r 0 4) - 1)) := nrm_up2 hn (by
    rcases (show r 0 4 = 1 ∨ r 0 4 = 2 by omega) with z | z
    · rw [z]; decide
    · rw [z]; decide)
  have q := hg.2.1 c (by omega)
  have := bd_gok g0 n0 (H := upN (r 3) c (r 3 c + 1)) (P := upN (r 4) c (r 4 c + (r 0 4 - 1) * 2 ^ r 3 c)) (fun x hx => by
    show upN (r 3) c (r 3 c + 1) x ≤ r 2 x
    by_cases hxc : x = c
    · rw [hxc, upN_e]
      exact h3
    · rw [upN_n hxc]
      exact hl x hx) (fun x hx => by
    show upN (r 4) c _ x < 2 ^ upN (r 3) c _ x
    by_cases hxc : x = c
    · rw [hxc, upN_e, upN_e]
      exact zmt q.2.2 (by omega)
    · rw [upN_n hxc, upN_n hxc]
      exact gok_bwf hg x hx) (fun x hx => by
    have hx' : r 1 3 ≤ x := hx
    exact ⟨upN_n (by omega), upN_n (by omega)⟩)
  exact ⟨this.1, this.2.1, this.2.2, ⟨by show r 6 1 ≤ _; omega, by show r 6 2 ≤ _; omega⟩, h5⟩
theorem ro_gp (h : gd m r) (hc : c < r 1 3) (h3 : 1 ≤ r 3 c) : gp m (roR r c) := by
  obtain ⟨hg, hl, hn, hp, h5⟩ := h
  have hn1 := hg.1
  have q := hg.2.1 c (by omega)
  have e1 : 2 ^ r 3 c = 2 ^ (r 3 c - 1) * 2 := by
    rw [← Nat.pow_succ]
    congr 1
    omega
  have b1 : r 4 c % 2 ^ (r 3 c - 1) < 2 ^ (r 3 c - 1) := Nat.mod_lt _ (Nat.two_pow_pos _)
  have b2 : r 4 c / 2 ^ (r 3 c - 1) < 2 := by
    rw [Nat.div_lt_iff_lt_mul (Nat.two_pow_pos _), Nat.mul_comm, ← e1]
    exact q.2.2
  have := bd_gok hg hn (H := r 3) (P := upN (r 4) c (r 4 c % 2 ^ (r 3 c - 1) * 2 + r 4 c / 2 ^ (r 3 c - 1))) hl (fun x hx => by
    show upN (r 4) c _ x < 2 ^ r 3 x
    by_cases hxc : x = c
    · rw [hxc, upN_e, e1]
      omega
    · rw [upN_n hxc]
      exact gok_bwf hg x hx) (fun x hx => ⟨rfl, upN_n (by omega)⟩)
  have e2 : upR (upR r 4 (upN (r 4) c (r 4 c % 2 ^ (r 3 c - 1) * 2 + r 4 c / 2 ^ (r 3 c - 1)))) 3 (r 3) = roR r c := upR_self (roR r c) 3
  rw [e2] at this
  exact ⟨this.1, this.2.1, this.2.2, ⟨by show r 6 1 ≤ _; omega, by show r 6 2 ≤ _; omega⟩, h5⟩
theorem brg_out {b : xB} {c d k s x : Nat} (h1 : x ≠ c) (h2 : x ≠ d) : (brg b c d k s).1 x = b.1 x ∧ (brg b c d k s).2 x = b.2 x := by
  constructor
  · show upN (upN (upN b.1 d _) c _) d _ x = _
    rw [upN_n h2, upN_n h1, upN_n h2]
  · show upN (upN (upN b.2 d _) c _) d _ x = _
    rw [upN_n h2, upN_n h1, upN_n h2]
/-- a carry on the board alone -/
theorem cr_bd (hg : gok r) (hl : hle r) {T k : Nat} (hc : c < r 1 3) (hT : T < r 1 3) (hcT : c ≠ T) (hk4 : k ≤ 4) (hk : k ≤ r 3 c) : bwf (r 1 3) (brg (r 3, r 4) c T k (stlR r c T k)) ∧ stO (r 1 3) (r 2) (r 1 3) (brg (r 3, r 4) c T k (stlR r c T k)) T ∧ (∀ x, x < r 1 3 → (crB r c T k).1.1 x ≤ r 2 x) ∧ bwf (r 1 3) (crB r c T k).1 ∧ ∀ x, r 1 3 ≤ x → (crB r c T k).1.1 x = r 3 x ∧ (crB r c T k).1.2 x = r 4 x := by
  have hn1 := hg.1
  have hs := stl_le (own := ctl (r 3 c) (r 4 c)) (rob := ctl (r 3 T) (r 4 T)) (gd := grd (r 3 T) (r 4 T)) (k := k)
  have hgr : grd (r 3 T) (r 4 T) ≤ r 3 T := zgo_le _ _ _ _
  have hs2 : stlR r c T k ≤ r 3 T := Nat.le_trans hs.2 hgr
  have h8 : ∀ d, d < r 1 3 → r 2 d ≤ 8 := fun d hd => (hg.2.1 d (by omega)).1
  have w1 := brg_wf (d := T) (k := k) (s := stlR r c T k) hc hcT (gok_bwf hg) hk
  have l1 := brg_lo (b := (r 3, r 4)) (cap := r 2) (k := k) (s := stlR r c T k) hc hcT hl hT
  have o1 := stO_of (e := 4) (n := r 1 3) (cap := r 2) (by omega) h8 (by omega) (r 1 3) (brg (r 3, r 4) c T k (stlR r c T k)) T hT l1.1 (by have := l1.2; omega)
  have u1 := brg_sum (b := (r 3, r 4)) (k := k) (s := stlR r c T k) hc hT hcT hk hs2
  have u2 : sumTo (r 3) (r 1 3) ≤ sumTo (r 2) (r 1 3) := sumTo_le _ hl
  have e1 := stE_all (n := r 1 3) (cap := r 2) (b := brg (r 3, r 4) c T k (stlR r c T k)) (c := T) (by omega) hT (by
    have : sumTo (r 3, r 4).1 (r 1 3) = sumTo (r 3) (r 1 3) := rfl
    omega)
  refine ⟨w1, o1, stF_end (e := 4) (by omega) (r 1 3) _ T hT l1.1 (by have := l1.2; omega) e1, stF_wf (by omega) (r 1 3) _ T w1 hT, fun x hx => ?_⟩
  have a1 := stF_out (n := r 1 3) (cap := r 2) (by omega) (r 1 3) (brg (r 3, r 4) c T k (stlR r c T k)) T hT x hx
  have a2 := brg_out (b := (r 3, r 4)) (c := c) (d := T) (k := k) (s := stlR r c T k) (x := x) (by omega) (by omega)
  exact ⟨a1.1.trans a2.1, a1.2.trans a2.2⟩
theorem cr_gp (h : gd m r) {T k : Nat} (hc : c < r 1 3) (hT : T < r 1 3) (hcT : c ≠ T) (hk4 : k ≤ 4) (hk : k ≤ r 3 c) : gp m (crR r c T k) := by
  obtain ⟨hg, hl, hn, hp, h5⟩ := h
  have hn1 := hg.1
  have ht := hg.2.2.2.1
  have hs := (stl_le (own := ctl (r 3 c) (r 4 c)) (rob := ctl (r 3 T) (r 4 T)) (gd := grd (r 3 T) (r 4 T)) (k := k)).1
  rw [show stl (ctl (r 3 c) (r 4 c)) (ctl (r 3 T) (r 4 T)) (grd (r 3 T) (r 4 T)) k = stlR r c T k from rfl] at hs
  obtain ⟨-, -, c1, c2, c3⟩ := cr_bd hg hl hc hT hcT hk4 hk
  have n0 : nrm (up2 r 6 (r 0 4) (r 6 (r 0 4) + stlR r c T k)) := nrm_up2 hn (by
    rcases (show r 0 4 = 1 ∨ r 0 4 = 2 by omega) with z | z
    · rw [z]; decide
    · rw [z]; decide)
  have g0 : gok (up2 r 6 (r 0 4) (r 6 (r 0 4) + stlR r c T k)) := hg
  have := bd_gok g0 n0 (H := (crB r c T k).1.1) (P := (crB r c T k).1.2) c1 c2 c3
  have h6 : r 6 (r 0 4) ≤ 4 * m := by
    rcases (show r 0 4 = 1 ∨ r 0 4 = 2 by omega) with z | z
    · rw [z]; exact hp.1
    · rw [z]; exact hp.2
  refine ⟨this.1, this.2.1, this.2.2, ⟨?_, ?_⟩, h5⟩
  · show (if 6 = 6 ∧ 1 = r 0 4 then _ else _) ≤ _
    split <;> omega
  · show (if 6 = 6 ∧ 2 = r 0 4 then _ else _) ≤ _
    split <;> omega
end XGD
