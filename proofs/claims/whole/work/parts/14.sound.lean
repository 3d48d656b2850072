/-! What a run of the small machine says of the Jvm. -/
def xi_Qc (E : xi_E) (cA : Nat → ClassId) (D : va_G) (r : Option Value ⊕ String) (hp' : xi_H) : Array Value → State → Outcome → State → Prop := fun _ st o t => ∃ v, r = .inl v ∧ o = .returned (v.map (xi_v E)) ∧ xi_D E cA D hp' t.heap ∧ va_F (xi_Aa E) st t
def xi_XC (E : xi_E) (cA : Nat → ClassId) (D : va_G) (r : Option Value ⊕ String) (hp' : xi_H) : String → State → State → Prop := fun X st t => r = .inr X ∧ xi_D E cA D hp' t.heap ∧ va_F (xi_Aa E) st t
theorem xi_mk_mono {o : xi_O} {N : Nat} {st st' : List Value} {hp hp' : xi_H} (h : xi_mk o N st hp = some (st', hp')) : hp.2.2.1 ≤ hp'.2.2.1 ∧ hp.2.2.2 ≤ hp'.2.2.2 ∧ hp.2.2.1 + hp'.2.1 ≤ hp.2.1 + hp'.2.2.1 := by
  unfold xi_mk at h
  split at h
  · cases h
    refine ⟨Nat.le_succ _, Nat.le_add_right _ _, ?_⟩
    show hp.2.2.1 + (hp.2.1 + 1) ≤ hp.2.1 + (hp.2.2.1 + 1)
    omega
  · cases h
theorem xi_mono_of {hp hp' : xi_H} (h : hp'.2 = hp.2) : hp.2.2.1 ≤ hp'.2.2.1 ∧ hp.2.2.2 ≤ hp'.2.2.2 ∧ hp.2.2.1 + hp'.2.1 ≤ hp.2.1 + hp'.2.2.1 := by
  rw [h]
  omega
theorem xi_mono_tr {a b c : xi_H} (h1 : a.2.2.1 ≤ b.2.2.1 ∧ a.2.2.2 ≤ b.2.2.2 ∧ a.2.2.1 + b.2.1 ≤ a.2.1 + b.2.2.1) (h2 : b.2.2.1 ≤ c.2.2.1 ∧ b.2.2.2 ≤ c.2.2.2 ∧ b.2.2.1 + c.2.1 ≤ b.2.1 + c.2.2.1) : a.2.2.1 ≤ c.2.2.1 ∧ a.2.2.2 ≤ c.2.2.2 ∧ a.2.2.1 + c.2.1 ≤ a.2.1 + c.2.2.1 := by omega
theorem xi_newa_mono {t : ArrayType} {st st' : List Value} {hp hp' : xi_H} (h : xi_newa t st hp = some (st', hp')) : hp.2.2.1 ≤ hp'.2.2.1 ∧ hp.2.2.2 ≤ hp'.2.2.2 ∧ hp.2.2.1 + hp'.2.1 ≤ hp.2.1 + hp'.2.2.1 := by
  unfold xi_newa at h
  split at h
  · split at h
    · split at h <;> first | exact xi_mk_mono h | cases h
    · cases h
  · cases h
theorem xi_newq_mono {own idx : Nat} {st st' : List Value} {hp hp' : xi_H} (h : xi_newq own idx st hp = some (st', hp')) : hp.2.2.1 ≤ hp'.2.2.1 ∧ hp.2.2.2 ≤ hp'.2.2.2 ∧ hp.2.2.1 + hp'.2.1 ≤ hp.2.1 + hp'.2.2.1 := by
  unfold xi_newq at h
  split at h
  · split at h
    · exact xi_mk_mono h
    · cases h
  · cases h
theorem xi_newo_mono {own idx : Nat} {st st' : List Value} {hp hp' : xi_H} (h : xi_newo own idx st hp = some (st', hp')) : hp.2.2.1 ≤ hp'.2.2.1 ∧ hp.2.2.2 ≤ hp'.2.2.2 ∧ hp.2.2.1 + hp'.2.1 ≤ hp.2.1 + hp'.2.2.1 := by
  unfold xi_newo at h
  split at h
  · exact xi_mk_mono h
  · cases h
theorem xi_s1_null {E : xi_E} {ll : List Value} {ls ls' : Array Slot} {nL i : Nat} {w : Value} (hL : xi_L E ll ls nL) (hs : xi_s1 ll i = true) (h : lv_has ls' nL ((i, w) :: (xi_lof E ll).filter (fun q => !(q.1 == i) && !(q.1 + 1 == i && q.2.category == 2)))) : xi_L E (ll.set i .null) ls' nL := by
  obtain ⟨h1, h2, h3⟩ := h
  refine ⟨h1, h2, by rw [List.length_set]; exact hL.2.2.1, fun j v hj hv => ?_⟩
  simp only [xi_s1, Bool.and_eq_true, decide_eq_true_eq] at hs
  by_cases hji : j = i
  · subst hji
    rw [List.getElem?_set_self hs.1] at hj
    cases hj
    exact absurd rfl hv
  · rw [List.getElem?_set_ne (fun z => hji z.symm)] at hj
    refine h3 (j, xi_v E v) (List.mem_cons_of_mem _ (List.mem_filter.mpr ⟨xi_lof_mem.mpr ⟨v, hj, hv, rfl⟩, ?_⟩))
    simp only [Bool.and_eq_true, Bool.not_eq_true', beq_eq_false_iff_ne, ne_eq, Bool.and_eq_false_iff]
    refine ⟨hji, ?_⟩
    by_cases hj1 : j + 1 = i
    · right
      subst hj1
      have h9 := hs.2
      simp only [hj] at h9
      rw [xi_v_cat]
      cases v <;> simp_all [Value.category]
    · exact Or.inl hj1
theorem xi_args_mem : ∀ (vs : List Value) (j i : Nat) (v : Value), (∀ w ∈ vs, w.category = 1) → vs[i]? = some v → (j + i, v) ∈ lv_args j vs
  | [], _, i, v, _, h => by simp at h
  | w :: vs, j, 0, v, _, h => by
    rw [List.getElem?_cons_zero] at h
    cases h
    exact List.mem_cons_self
  | w :: vs, j, i + 1, v, hc, h => by
    rw [List.getElem?_cons_succ] at h
    unfold lv_args
    rw [if_neg (by rw [hc w List.mem_cons_self]; decide)]
    have := xi_args_mem vs (j + 1) i v (fun x hx => hc x (List.mem_cons_of_mem _ hx)) h
    rw [show j + (i + 1) = j + 1 + i by omega]
    exact List.mem_cons_of_mem _ this
theorem xi_sl_len : ∀ (vs : List Value), (∀ w ∈ vs, w.category = 1) → (lg_sl vs).length = vs.length
  | [], _ => rfl
  | w :: vs, h => by
    have h1 := xi_sl_len vs (fun x hx => h x (List.mem_cons_of_mem _ hx))
    have h2 := h w List.mem_cons_self
    unfold lg_sl at h1 ⊢
    rw [List.flatMap_cons, if_neg (by rw [h2]; decide), List.length_append, h1]
    simp
    omega
theorem xi_c1_cat {E : xi_E} {args : List Value} (h : args.all xi_c1 = true) : ∀ w ∈ args.map (xi_v E), w.category = 1 := by
  intro w hw
  obtain ⟨v, hv, rfl⟩ := List.mem_map.mp hw
  have := List.all_eq_true.mp h v hv
  rw [xi_v_cat]
  cases v <;> simp_all [xi_c1, Value.category]
theorem xi_entry {E : xi_E} {args : List Value} {k : Nat} (h : args.all xi_c1 = true) (hl : args.length ≤ xi_maxL k) : xi_L E (xi_loc k args) (lg_sl (args.map (xi_v E)) ++ List.replicate (xi_maxL k - (lg_sl (args.map (xi_v E))).length) Slot.unset).toArray (xi_maxL k) := by
  have hc := xi_c1_cat (E := E) h
  have h1 := lv_entry (args.map (xi_v E)) (n := xi_maxL k) (by rw [xi_sl_len _ hc, List.length_map]; exact hl)
  refine ⟨h1.1, h1.2.1, by unfold xi_loc; rw [List.length_append, List.length_replicate]; omega, fun i v hi hv => ?_⟩
  refine h1.2.2 (i, xi_v E v) ?_
  unfold xi_loc at hi
  by_cases hil : i < args.length
  · rw [List.getElem?_append_left hil] at hi
    have := xi_args_mem (args.map (xi_v E)) 0 i (xi_v E v) hc (by rw [List.getElem?_map, hi]; rfl)
    rwa [Nat.zero_add] at this
  · rw [List.getElem?_append_right (by omega)] at hi
    exact absurd (List.eq_of_mem_replicate (List.mem_of_getElem? hi)) hv
theorem xi_mth_of {own idx k kd : Nat} (h : xi_mth own idx = some (k, kd)) : ∃ e ∈ xi_ml, e.1 = own ∧ e.2.1 = idx ∧ e.2.2.1 = k ∧ e.2.2.2.1 = kd := by
  unfold xi_mth at h
  obtain ⟨e, he, h2⟩ := Option.map_eq_some_iff.mp h
  cases h2
  have hm := List.mem_of_find?_eq_some he
  have hp := List.find?_some he
  simp only [Bool.and_eq_true, beq_iff_eq] at hp
  exact ⟨e, hm, hp.1, hp.2, rfl, rfl⟩
/-- the methods' words, as far as they are called -/
theorem xi_md_of {k : Nat} {M : xi_M} (hk : xi_md[k]? = some M) (hL : M.1 ≠ 8 ∨ M.2.1 ≠ "law") : xi_mdok M = true := by
  have hm := List.mem_of_getElem? hk
  have key : ∀ M ∈ xi_md, M.1 = 8 ∧ M.2.1 = "law" ∨ xi_mdok M = true := by
    intro M hM
    simp only [xi_md, List.mem_append] at hM
    rcases hM with ((((h | h) | h) | h) | h) | h
    · exact Or.inr (List.all_eq_true.mp xi_md0_ok M h)
    · exact Or.inr (List.all_eq_true.mp xi_md1_ok M h)
    · exact Or.inr (List.all_eq_true.mp xi_md2_ok M h)
    · exact Or.inr (List.all_eq_true.mp xi_md3_ok M h)
    · exact Or.inr (List.all_eq_true.mp xi_md4_ok M h)
    · obtain ⟨i, hi⟩ := List.getElem?_of_mem h
      have hlen : xi_md5.length = 39 := by decide +kernel
      have hi2 := (List.getElem?_eq_some_iff.mp hi).1
      by_cases h38 : i = 38
      · subst h38
        have h9 : (xi_md5[38]?).map (fun M => (M.1, M.2.1)) = some (8, "law") := by decide +kernel
        rw [hi] at h9
        simp only [Option.map_some, Option.some.injEq, Prod.mk.injEq] at h9
        exact Or.inl h9
      · refine Or.inr (List.all_eq_true.mp xi_md5_ok M (List.mem_of_getElem? (i := i) ?_))
        rw [List.dropLast_eq_take, List.getElem?_take, if_pos (by omega)]
        exact hi
  rcases key M hm with h | h
  · rcases hL with h9 | h9
    · exact absurd h.1 h9
    · exact absurd h.2 h9
  · exact h
theorem xi_ml_all : ∀ e ∈ xi_ml, xi_mlok e = true := by
  intro e he
  obtain ⟨i, hi⟩ := List.getElem?_of_mem he
  have hlen : xi_ml.length = 270 := by decide +kernel
  have hi2 := (List.getElem?_eq_some_iff.mp hi).1
  have key : ∀ c, c ≤ i → i < c + 60 → e ∈ (xi_ml.drop c).take 60 := fun c h1 h2 => List.mem_of_getElem? (i := i - c) (by rw [List.getElem?_take, if_pos (by omega), List.getElem?_drop, show c + (i - c) = i by omega]; exact hi)
  rcases (show i < 60 ∨ (60 ≤ i ∧ i < 120) ∨ (120 ≤ i ∧ i < 180) ∨ (180 ≤ i ∧ i < 240) ∨ (240 ≤ i ∧ i < 300) by omega) with h | h | h | h | h
  · exact List.all_eq_true.mp xi_ml_ok0 e (key 0 (by omega) (by omega))
  · exact List.all_eq_true.mp xi_ml_ok1 e (key 60 (by omega) (by omega))
  · exact List.all_eq_true.mp xi_ml_ok2 e (key 120 (by omega) (by omega))
  · exact List.all_eq_true.mp xi_ml_ok3 e (key 180 (by omega) (by omega))
  · exact List.all_eq_true.mp xi_ml_ok4 e (key 240 (by omega) (by omega))
theorem xi_ini_in {c : Nat} (h : c < 12) : Cond.initialized (xi_cn c) ∈ xi_W := by
  have := List.all_eq_true.mp xi_ini_ok c (List.mem_range.mpr h)
  exact xi_W_of (of_decide_eq_true this) rfl
/-- a call's words -/
theorem xi_link {own idx k kd : Nat} (h : xi_mth own idx = some (k, kd)) : ∃ M, xi_md[k]? = some M ∧ xi_m k = M ∧ M.1 < 12 ∧ (M.1 ≠ 8 ∨ M.2.1 ≠ "law") ∧
    (kd = 0 → Cond.methodLink (xi_cn own) idx (xi_y M) ∈ xi_W ∧ Cond.instanceMethod (xi_y M) ∈ xi_W ∧ Cond.selects (xi_cn M.1) (xi_y M) (xi_y M) ∈ xi_W ∧ M.2.2.2.2.2.2.2.2.2.2 = [] ∧ (M.1 < 8 ∨ M.1 = 10)) ∧
    (kd = 1 → Cond.methodLink (xi_cn own) idx (xi_y M) ∈ xi_W ∧ Cond.static (xi_y M) ∈ xi_W ∧ M.2.2.2.2.2.2.2.2.2.2 = []) ∧
    (kd = 2 → Cond.methodLink (xi_cn own) idx (xi_y M) ∈ xi_W ∧ Cond.instanceMethod (xi_y M) ∈ xi_W ∧ M.2.2.2.2.2.2.2.2.2.2 = [] ∧ M.2.1 = "<init>" ∧ M.2.2.2.2.2.1 = none ∧ M.1 < 8) ∧
    (kd = 3 → (own, idx, k) ∈ xi_nst ∧ Cond.static (xi_y M) ∈ xi_W ∧ M.2.2.2.2.2.2.2.2.2.2 = []) ∧
    (kd = 4 → Cond.methodLink (xi_cn own) idx (xi_y M) ∈ xi_W ∧ Cond.static (xi_y M) ∈ xi_W ∧ M.2.2.2.2.2.2.2.2.2.2 ≠ []) := by
  obtain ⟨e, hm, rfl, rfl, rfl, rfl⟩ := xi_mth_of h
  have h0 := xi_ml_all e hm
  have hlaw : (xi_m e.2.2.1).1 ≠ 8 ∨ (xi_m e.2.2.1).2.1 ≠ "law" := by
    have : ∀ e ∈ xi_ml, (xi_m e.2.2.1).1 ≠ 8 ∨ (xi_m e.2.2.1).2.1 ≠ "law" := by decide +kernel
    exact this e hm
  unfold xi_mlok at h0
  split at h0
  · next M hM =>
    have hx : xi_m e.2.2.1 = M := by unfold xi_m; rw [hM]; rfl
    rw [hx] at hlaw
    simp only [Bool.and_eq_true, decide_eq_true_eq] at h0
    refine ⟨M, hM, hx, h0.1.2, hlaw, ?_, ?_, ?_, ?_, ?_⟩ <;> intro hk <;> rw [hk] at h0 <;> simp only [Bool.and_eq_true, decide_eq_true_eq, List.isEmpty_iff, Bool.not_eq_true', List.isEmpty_eq_false_iff] at h0
    · exact ⟨xi_W_of h0.2.1.1.1.1 rfl, xi_W_of h0.2.1.1.1.2 rfl, xi_W_of h0.2.1.1.2 rfl, h0.2.1.2, h0.2.2⟩
    · exact ⟨xi_W_of h0.2.1.1 rfl, xi_W_of h0.2.1.2 rfl, h0.2.2⟩
    · exact ⟨xi_W_of h0.2.1.1.1.1.1 rfl, xi_W_of h0.2.1.1.1.1.2 rfl, h0.2.1.1.1.2, h0.2.1.1.2, h0.2.1.2, h0.2.2⟩
    · exact ⟨List.mem_filterMap.mpr ⟨e, hm, by rw [if_pos hk]⟩, xi_W_of h0.2.1.2 rfl, h0.2.2⟩
    · exact ⟨xi_W_of h0.2.1.1 rfl, xi_W_of h0.2.1.2 rfl, h0.2.2⟩
  · cases h0
theorem xi_cw_in {k : Nat} {M : xi_M} (hM : xi_md[k]? = some M) (hl : M.1 ≠ 8 ∨ M.2.1 ≠ "law") : xi_cword M ∈ xi_W ∧ plainName (xi_cn M.1) = true ∧ (xi_y M).cls ≠ "java/lang/invoke/MethodHandle" ∧ (xi_y M).cls ≠ "java/lang/invoke/VarHandle" ∧ (parseMethodDescriptor (xi_y M).desc).map (fun d => d.parameters.length) = some M.2.2.2.2.2.2.1 := by
  have h := xi_md_of hM hl
  simp only [xi_mdok, Bool.and_eq_true, decide_eq_true_eq] at h
  exact ⟨xi_W_of h.1.1.1.1.1 h.1.1.1.1.2, h.1.1.1.2, h.1.1.2, h.1.2, h.2⟩
theorem xi_good_cons {k : Nat} {M : xi_M} (hM : xi_md[k]? = some M) (hl : M.1 ≠ 8 ∨ M.2.1 ≠ "law") : GoodIn xi_W (xi_cword M :: xi_W) := fun w hw => by
  rcases List.mem_cons.mp hw with rfl | hw
  · exact xi_W_good _ (xi_cw_in hM hl).1
  · exact xi_W_good _ hw
/-- the frame that a handler is found in -/
theorem xi_hand_split {X : String} {pc h : Nat} : ∀ {hh : List (Nat × Nat × Nat × Nat)}, xi_hand X pc hh = some h → ∃ pre q suf, hh = pre ++ q :: suf ∧ (∀ z ∈ pre, (z.1 ≤ pc ∧ pc < z.2.1) → ∃ nm, (z.2.2.2, nm) ∈ xi_ct ∧ nm ≠ X ∧ X ∈ xi_ex ∧ nm ∈ xi_ex) ∧ q.1 ≤ pc ∧ pc < q.2.1 ∧ (q.2.2.2, X) ∈ xi_ct ∧ q.2.2.1 = h
  | [], hx => by cases hx
  | q :: r, hx => by
    unfold xi_hand at hx
    have hfind : ∀ nm : String, (xi_ct.find? (fun e => e.1 == q.2.2.2)).map (fun e => e.2) = some nm → (q.2.2.2, nm) ∈ xi_ct := by
      intro nm hn
      obtain ⟨e, he, h2⟩ := Option.map_eq_some_iff.mp hn
      have hm := List.mem_of_find?_eq_some he
      have hp := List.find?_some he
      rw [beq_iff_eq] at hp
      rw [← hp, ← h2]
      exact hm
    split at hx
    · next hc =>
      split at hx
      · next nm hn =>
        split at hx
        · next hnm =>
          cases hx
          subst hnm
          exact ⟨[], q, r, rfl, fun z hz => (nomatch hz), hc.1, hc.2, hfind _ hn, rfl⟩
        · next hnm =>
          split at hx
          · next hex =>
            obtain ⟨pre, q', suf, e1, e2, e3⟩ := xi_hand_split hx
            refine ⟨q :: pre, q', suf, by rw [e1]; rfl, fun z hz hcz => ?_, e3⟩
            rcases List.mem_cons.mp hz with rfl | hz
            · exact ⟨nm, hfind _ hn, hnm, hex.1, hex.2⟩
            · exact e2 z hz hcz
          · cases hx
      · cases hx
    · next hc =>
      obtain ⟨pre, q', suf, e1, e2, e3⟩ := xi_hand_split hx
      refine ⟨q :: pre, q', suf, by rw [e1]; rfl, fun z hz hcz => ?_, e3⟩
      rcases List.mem_cons.mp hz with rfl | hz
      · exact absurd hcz hc
      · exact e2 z hz hcz
theorem xi_ct_ok : xi_ct.all (fun e => decide (e.1 ≠ 0) && decide (Cond.classLink "TowerRingLaw" e.1 e.2 ∈ lw_tbl)) = true := by decide +kernel
section XIS
variable {p : Program} {l : Launch} {e : Env} {R : Room} {s : State} {m : MethodId} {args : Array Value} {below : List Frame} {meth : Method} {c : Code} {H : Heap} {locs : List Loc} {cells slots : Nat} {Q : State → Prop}
variable {cc : ByteArray} {pc : Nat} {ls : Array Slot} {E : xi_E} {cA : Nat → ClassId} {D : va_G} {xs : Nat → Int32} {L mi : Nat} {st st' ll ll' : List Value} {hp hp' : xi_H}
/-- behind a call: it has answered, or thrown -/
theorem xi_after {a : Array Value} {r1 : Option Value ⊕ String} {hp1 : xi_H} {mc1 ms1 : Nat} {st0 rest : List Value} (hr : vx_Run p l e R s m args below meth c H locs cells slots mc1 ms1 (F0 m pc ls st0) rest (xi_Qc E cA D r1 hp1 a) (xi_XC E cA D r1 hp1) (xi_Aa E)) (hS : va_S (xi_Aa E) s.heap H locs)
    (kk : ∀ (v : Option Value) (H1 : Heap) (locs1 : List Loc), r1 = .inl v → xi_D E cA D hp1 H1 → va_S (xi_Aa E) s.heap H1 locs1 → W p l e R s m args below meth c H1 locs1 (cells + mc1) (slots + ms1) Q (F0 m (pc + 3) ls ((v.map (xi_v E)).toList ++ rest)))
    (kx : ∀ (X : String) (ce : Cell) (q9 : Addr) (H1 : Heap) (locs1 : List Loc), r1 = .inr X → xi_D E cA D hp1 H1 → va_S (xi_Aa E) s.heap H1 locs1 → H1[q9]? = some ce → ce.vm = .none → s.vm.findClass X = some ce.cls → vx_W p l e R s m args below meth c H1 locs1 (cells + mc1) (slots + ms1) Q (F0 m pc ls rest) q9) : W p l e R s m args below meth c H locs cells slots Q (F0 m pc ls st0) := by
  intro T hT X
  rcases hr T hT X with ⟨v, st₀, t, T', L9, h0, X', hL, e1, e2, ⟨v9, hr1, hv, hD1, hF⟩, st⟩ | ⟨q, st₀, t, T', L9, X9, ce, h0, X', hL, e1, e2, ⟨hr1, hD1, hF⟩, hce, hcv, hcl, st⟩
  · cases hv
    obtain ⟨k1, k2, k3⟩ := vx_keep h0 e1 hS (fun _ _ h => h) (fun _ h => h) hL hF
    obtain ⟨t2, a1, b1⟩ := kk v9 T'.heap (locs ++ L9) hr1 (by rw [e1]; exact hD1) k3 T' rfl X'
    exact ⟨t2, st t2 a1, b1⟩
  · obtain ⟨k1, k2, k3⟩ := vx_keep h0 e1 hS (fun _ _ h => h) (fun _ h => h) hL hF
    obtain ⟨t2, a1, b1⟩ := kx X9 ce q T'.heap (locs ++ L9) hr1 (by rw [e1]; exact hD1) k3 (by rw [e1]; exact hce) hcv hcl T' rfl X'
    exact ⟨t2, st.trans a1, b1⟩
/-- an exception is caught -/
theorem xi_catch_ok {X : String} {pc' : Nat} {ce : Cell} {q9 : Addr} {rest : List Value} (A : xi_At p c (xi_m mi).2.2.2.1 s m args meth R mi) (htab : c.exceptionTable.toList = tableOf (xi_hh mi)) (K : xi_K E cA D xs L s s.heap) (hL : xi_L E ll ls (xi_maxL mi)) (h : xi_catch mi pc X ll = some (pc', ll')) (hcell : H[q9]? = some ce) (hv : ce.vm = .none) (hcl : s.vm.findClass X = some ce.cls)
    (kk : ∀ ls' : Array Slot, xi_L E ll' ls' (xi_maxL mi) → W p l e R s m args below meth c H locs cells slots Q (F0 m pc' ls' [])) : vx_W p l e R s m args below meth c H locs cells slots Q (F0 m pc ls rest) q9 := by
  obtain ⟨hx, hb, hts, hown, -⟩ := A
  unfold xi_catch at h
  split at h
  · next hc =>
    obtain ⟨h8, hXe⟩ := hc
    rw [h8] at hown
    have hown : s.vm.findClass "TowerRingLaw" = some m.cls := hown
    have hct : ∀ (t : Nat) (nm : String), (t, nm) ∈ xi_ct → t ≠ 0 ∧ (Cond.classLink "TowerRingLaw" t nm).before args s = true := by
      intro t nm hm
      have := List.all_eq_true.mp xi_ct_ok _ hm
      simp only [Bool.and_eq_true, decide_eq_true_eq] at this
      exact ⟨this.1, hts _ (List.mem_filter.mpr ⟨this.2, rfl⟩)⟩
    split at h
    · next hd hhd =>
      obtain ⟨pre, q, suf, e1, e2, e3, e4, e5, e6⟩ := xi_hand_split hhd
      refine vx_catch (own := "TowerRingLaw") (name := X) (E := X) hown (tableOf pre) ⟨q.1, q.2.1, q.2.2.1, q.2.2.2⟩ (tableOf suf) (by rw [htab, e1]; simp [tableOf]) ?_ (by simp [covers, e3, e4]) (hct _ _ e5).1 (hct _ _ e5).2 (va_Nw.use rfl (K.2.1 X hXe)) hcell hv hcl ?_
      · intro z hz
        obtain ⟨y, hy, rfl⟩ := List.mem_map.mp hz
        by_cases hcov : y.1 ≤ pc ∧ pc < y.2.1
        · obtain ⟨nm, n1, n2, n3, n4⟩ := e2 y hy hcov
          exact Or.inr ⟨(hct _ _ n1).1, nm, (hct _ _ n1).2, K.2.2.2.2.1 X n3 nm n4 (fun z => n2 z.symm)⟩
        · left
          show (decide (y.1 ≤ pc) && decide (pc < y.2.1)) = false
          simp only [Bool.and_eq_false_iff, decide_eq_false_iff_not]
          omega
      · show W p l e R s m args below meth c H locs cells slots Q (F0 m q.2.2.1 ls [.ref q9])
        rw [e6]
        split at h
        · next k hk =>
          split at h
          · next hs =>
            cases h
            have hdg := xi_code_ok hk
            exact lv_astore_n hx hb hdg rfl (xi_L_has hL) (by have := hL.2.2.1; simp only [xi_s1, Bool.and_eq_true, decide_eq_true_eq] at hs; omega) rfl (fun ls' h' => kk ls' (xi_s1_null hL hs h'))
          · cases h
        · next k hk =>
          split at h
          · next hs =>
            cases h
            have hdg := xi_code_ok hk
            exact lv_astore hx hb hdg (xi_L_has hL) (by have := hL.2.2.1; simp only [xi_s1, Bool.and_eq_true, decide_eq_true_eq] at hs; omega) rfl (fun ls' h' => kk ls' (xi_s1_null hL hs h'))
          · cases h
        · cases h
    · cases h
  · cases h
end XIS
