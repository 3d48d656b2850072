/-! The law's entry: what stays of the world outside holds there. -/
def xi_flat : List Cond := flatC (Jvm.Cond.and given_1 narrow_1)
def xi_gx : List Nat := [72, 57, 96, 101, 106, 111]
def xi_mx : List Nat := [129, 155, 147, 149, 151, 153]
abbrev xi_tm (j : Nat) : Term := .string "TowerRing$GameText" (xi_gx.getD j 0)
abbrev xi_tv (j : Nat) : Term := .field (xi_tm j) "java/lang/String" "value" "[B"
theorem xi_f1 : (List.range 6).all (fun j => decide (Cond.exactly (xi_tm j) "java/lang/String" ∈ xi_flat) && decide (Cond.eq (.field (xi_tm j) "java/lang/String" "coder" "B") (.int 0) ∈ xi_flat) && decide (Cond.arrayOf (xi_tv j) .byte ∈ xi_flat) && decide (Cond.eq (.length (xi_tv j)) (.int (Int32.ofNat (xi_sb.getD j []).length)) ∈ xi_flat) && (List.range (xi_sb.getD j []).length).all (fun k => decide (Cond.eq (.elem (xi_tv j) (.int (Int32.ofNat k))) (.int ((xi_sb.getD j []).getD k 0)) ∈ xi_flat)) && decide (Cond.eq (xi_tm j) (.string "TowerRingModel" (xi_mx.getD j 0)) ∈ xi_flat)) = true := by decide +kernel
theorem xi_f2 : xi_sl.all (fun e => decide (Cond.stringRef (xi_cn e.1) e.2.1 (xi_st e.2.2) ∈ lw_tbl) && decide (e.2.2 < 6) && (decide (xi_cn e.1 = "TowerRing$GameText" ∧ e.2.1 = xi_gx.getD e.2.2 0) || decide (xi_cn e.1 = "TowerRingModel" ∧ e.2.1 = xi_mx.getD e.2.2 0))) = true := by decide +kernel
theorem xi_f3 : xi_xt.all (fun e => decide (Cond.stringRef "TowerRing" e.1 e.2 ∈ lw_tbl) && decide (Cond.exactly (.string "TowerRing" e.1) "java/lang/String" ∈ xi_flat)) = true := by decide +kernel
theorem xi_f4 : ([Cond.laysStatic Bundle.tN "UNASSIGNED_STACK" Bundle.steD, .laysStatic Bundle.tN "SUPPRESSED_SENTINEL" Bundle.listD, .initialized Bundle.tN, .laysStatic "java/lang/String" "COMPACT_STRINGS" "Z", .initialized "java/lang/String", .laysStatic "jdk/internal/util/Preconditions" "SIOOBE_FORMATTER" "Ljava/util/function/BiFunction;", .initialized "jdk/internal/util/Preconditions", .arrayOver (.object "TowerRing$Game")] ++ xi_ex.map (fun c => Cond.castable c c) ++ xi_dc.map Cond.declares : List Cond).all (fun w => decide (w ∈ lw_tbl)) = true := by decide +kernel
theorem xi_f5 : ([Cond.isRef (.static Bundle.tN "UNASSIGNED_STACK" Bundle.steD), .isRef (.static Bundle.tN "SUPPRESSED_SENTINEL" Bundle.listD), .eq (.static "java/lang/String" "COMPACT_STRINGS" "Z") (.int 1), .isRef (.static "jdk/internal/util/Preconditions" "SIOOBE_FORMATTER" "Ljava/util/function/BiFunction;")] : List Cond).all (fun w => decide (w ∈ xi_flat)) = true := by decide +kernel
theorem xi_f6 : xi_ex.all (fun a => xi_ex.all fun b => decide (a = b) || decide (Cond.not (.castable a b) ∈ xi_flat)) = true := by decide +kernel
theorem xi_f7 : (List.range 8).all (fun ci => match xi_cl[ci]? with
  | some q => decide (Cond.instantiable q.1 q.2.2 ∈ lw_tbl)
  | none => false) = true := by decide +kernel
theorem xi_entry_K {s : State} {args : Array Value} {b L : Nat} {xs : Nat → Int32} (hts : ∀ w ∈ lw_tbl, w.before args s = true) (hg : (Jvm.Cond.and given_1 narrow_1).before args s = true) (hX : va_X b L xs s s.heap) (hb : b < s.heap.size) : ∃ (sa : Nat → Nat) (cA : Nat → ClassId) (D : va_G), xi_K (b, s.heap.size, sa) cA D xs L s s.heap := by
  have hfl := flat_of_before _ hg
  have hA : ∀ a : Nat, a < s.heap.size → ¬ (fun q : Nat => s.heap.size ≤ q) a := fun a h => Nat.not_le.mpr h
  have f1 := List.all_eq_true.mp xi_f1
  have f4 := List.all_eq_true.mp xi_f4
  have f5 := List.all_eq_true.mp xi_f5
  -- literals
  have h0 : ∀ j : Nat, ∃ q : Nat × Nat, j < 6 → (xi_tm j).eval args s none [] s = some (.ref q.1) ∧ va_O "java/lang/String" q.1 (fun q : Nat => s.heap.size ≤ q) s s.heap ∧ va_OF "java/lang/String" "coder" "B" (.int 0) q.1 (fun q : Nat => s.heap.size ≤ q) s s.heap ∧ va_OF "java/lang/String" "value" "[B" (.ref q.2) q.1 (fun q : Nat => s.heap.size ≤ q) s s.heap ∧ va_T .byte q.2 (xi_sb.getD j []).length (fun k => .int ((xi_sb.getD j []).getD k 0)) (fun q : Nat => s.heap.size ≤ q) s s.heap := by
    intro j
    by_cases hj : j < 6
    · have hw := f1 j (List.mem_range.mpr hj)
      simp only [Bool.and_eq_true, decide_eq_true_eq, List.all_eq_true, List.mem_range] at hw
      obtain ⟨⟨⟨⟨⟨w1, w2⟩, w3⟩, w4⟩, w5⟩, w6⟩ := hw
      obtain ⟨adK, adV, hS, hev⟩ := vk_Sof (args := args) (s := s) (N := 1) (tm := fun _ => xi_tm j) (len := [(xi_sb.getD j []).length]) (byt := [xi_sb.getD j []]) (A := fun q : Nat => s.heap.size ≤ q)
        (fun i hi => by
          rw [show i = 0 by omega]
          show (xi_sb.getD j []).length < 2 ^ 31
          have : ∀ j, j < 6 → (xi_sb.getD j []).length < 2 ^ 31 := by decide +kernel
          exact this j hj) (fun i _ => hfl _ w1) (fun i _ => hfl _ w2) (fun i _ => hfl _ w3) (fun i hi => by rw [show i = 0 by omega]; exact hfl _ w4) (fun i hi k hk => by
          rw [show i = 0 by omega] at hk ⊢
          exact hfl _ (w5 k hk)) (fun i k hi hk hik => absurd (by omega) hik) hA
      obtain ⟨q1, q2, q3, q4⟩ := hS.1 0 (by decide)
      exact ⟨(adK 0, adV 0), fun _ => ⟨hev 0 (by decide), q1, q2, q3, q4⟩⟩
    · exact ⟨(0, 0), fun h => absurd h hj⟩
  obtain ⟨ad, had⟩ := Classical.axiomOfChoice h0
  -- array classes
  have harr : ∀ t : FieldType, t ∈ [FieldType.int, FieldType.byte, FieldType.boolean, FieldType.long] → ∃ c : ClassId, ArrOfT s c t ∧ va_RA s c t := by
    intro t ht
    obtain ⟨c, k, comp, h1, h2, h3⟩ := Cond.arrayClass_spec (hts _ (xi_arrs t ht))
    refine ⟨c, fun n z => ⟨fun k' h => (by cases h), k, h2, comp, h3⟩, ?_⟩
    simp only [List.mem_cons, List.not_mem_nil, or_false] at ht
    rcases ht with rfl | rfl | rfl | rfl <;> exact h1
  obtain ⟨c0, hc0⟩ := harr .int (by simp)
  obtain ⟨c1, hc1⟩ := harr .byte (by simp)
  obtain ⟨c2, hc2⟩ := harr .boolean (by simp)
  obtain ⟨c3, hc3⟩ := harr .long (by simp)
  have hover : (Cond.arrayOver (.object "TowerRing$Game")).before args s = true := hts _ (of_decide_eq_true (f4 _ (by simp)))
  obtain ⟨comp, c4, k4, o1, o2, o3, o4, o5⟩ := Cond.arrayOver_spec hover
  have hc4 : ArrOfT s c4 (.object "TowerRing$Game") ∧ va_RA s c4 (.object "TowerRing$Game") := ⟨fun n z => ⟨fun k' h => (by cases h), k4, o3, comp, o4⟩, k4, comp, o3, o4, o1, o5⟩
  -- classes
  have hKc : ∀ ci : Nat, ∃ q : ClassId × (Nat → Nat), ∀ r : vw_C, xi_cl[ci]? = some r → u_Kn s r.1 r.2.1 r.2.2 q.1 q.2 := by
    intro ci
    cases hq : xi_cl[ci]? with
    | none => exact ⟨(0, fun _ => 0), fun r h => by cases h⟩
    | some r =>
      have hlt : ci < 8 := (List.getElem?_eq_some_iff.mp hq).1
      have h7 := List.all_eq_true.mp xi_f7 ci (List.mem_range.mpr hlt)
      rw [hq] at h7
      obtain ⟨cc, iS, hk⟩ := u_known (C := r.1) (T := r.2.1) (N := r.2.2) (n := r.2.2) hts (fun w hw => (List.mem_filter.mp ((xi_cl_of hq).1 w hw)).1) (hts _ (of_decide_eq_true h7))
      exact ⟨(cc, iS), fun r' h => by cases h; exact hk⟩
  obtain ⟨Dq, hDq⟩ := Classical.axiomOfChoice hKc
  refine ⟨fun j => if j ≤ 6 then (ad (j - 1)).1 else (ad (j - 11)).2, fun t => if t = 0 then c0 else if t = 1 then c1 else if t = 2 then c2 else if t = 3 then c3 else c4, (fun ci => (Dq ci).1, fun ci => (Dq ci).2), ⟨⟨fun ci r h => hDq ci r h, ?_⟩, hX, hb, hb, Nat.le_refl _, ?_⟩, ?_, ?_, ?_, ?_, ?_, ?_, ?_, ?_, ?_, ?_, ?_⟩
  · intro k q hq
    match k, hq with
    | 0, hq => cases hq; exact hc0
    | 1, hq => cases hq; exact hc1
    | 2, hq => cases hq; exact hc2
    | 3, hq => cases hq; exact hc3
    | 4, hq => cases hq; exact hc4
    | n + 5, hq => simp [xi_tys] at hq
  · exact va_AO.of hover
  · intro c hc
    exact va_Nw.of rfl (hts _ (of_decide_eq_true (f4 _ (by simp only [List.mem_append, List.mem_map]; exact Or.inl (Or.inr ⟨c, hc, rfl⟩)))))
  · intro y hy
    exact va_Nw.of rfl (hts _ (of_decide_eq_true (f4 _ (by simp only [List.mem_append, List.mem_map]; exact Or.inr ⟨y, hy, rfl⟩))))
  · intro e he
    obtain ⟨e0, he0, h3⟩ := List.mem_filterMap.mp he
    split at h3
    · next hk3 =>
      cases h3
      have hml := xi_ml_all e0 he0
      unfold xi_mlok at hml
      split at hml
      · next M hM =>
        simp only [Bool.and_eq_true, decide_eq_true_eq] at hml
        rw [hk3] at hml
        simp only [Bool.and_eq_true, decide_eq_true_eq] at hml
        have hx : xi_m e0.2.2.1 = M := by unfold xi_m; rw [hM]; rfl
        rw [hx]
        exact va_Nw.of rfl (hts _ (List.mem_of_getElem? hml.2.1.1))
      · cases hml
    · cases h3
  · intro a ha c hc hac
    have := List.all_eq_true.mp (List.all_eq_true.mp xi_f6 a ha) c hc
    simp only [Bool.or_eq_true, decide_eq_true_eq] at this
    rcases this with h | h
    · exact absurd h hac
    · exact va_Nc.of (hfl _ h)
  · exact vx_Zqof (hts _ (of_decide_eq_true (f4 _ (by simp)))) (hts _ (of_decide_eq_true (f4 _ (by simp)))) (hfl _ (of_decide_eq_true (f5 _ (by simp)))) hA
  · exact vx_Zqof (hts _ (of_decide_eq_true (f4 _ (by simp)))) (hts _ (of_decide_eq_true (f4 _ (by simp)))) (hfl _ (of_decide_eq_true (f5 _ (by simp)))) hA
  · intro e he
    have := List.all_eq_true.mp xi_f2 e he
    simp only [Bool.and_eq_true, Bool.or_eq_true, decide_eq_true_eq] at this
    obtain ⟨⟨w1, w2⟩, w3⟩ := this
    have hval : (if 1 + e.2.2 ≤ 6 then (ad (1 + e.2.2 - 1)).1 else (ad (1 + e.2.2 - 11)).2) = (ad e.2.2).1 := by
      rw [if_pos (by omega), show 1 + e.2.2 - 1 = e.2.2 by omega]
    have hev := (had e.2.2 w2).1
    have hw6 := f1 e.2.2 (List.mem_range.mpr w2)
    simp only [Bool.and_eq_true, decide_eq_true_eq] at hw6
    have goal : vk_R (xi_cn e.1) e.2.1 (xi_st e.2.2) (ad e.2.2).1 s := by
      rcases w3 with ⟨g1, g2⟩ | ⟨g1, g2⟩
      · exact vk_R.of (A := args) (hts _ w1) (by rw [g1, g2]; exact hev)
      · exact vk_R.of (A := args) (hts _ w1) (by rw [g1, g2]; exact va_eqR (hfl _ hw6.2) hev)
    show vk_R (xi_cn e.1) e.2.1 (xi_st e.2.2) (if 1 + e.2.2 ≤ 6 then (ad (1 + e.2.2 - 1)).1 else (ad (1 + e.2.2 - 11)).2) s
    rw [hval]
    exact goal
  · intro e he
    have := List.all_eq_true.mp xi_f3 e he
    simp only [Bool.and_eq_true, decide_eq_true_eq] at this
    obtain ⟨a, -, -, -, q1, -⟩ := Cond.exactly_spec (args := args) (first := s) (o := none) (s := s) (idx := []) (t := .string "TowerRing" e.1) (cls := "java/lang/String") (hfl _ this.2)
    exact ⟨a, vk_R.of (A := args) (hts _ this.1) q1⟩
  · intro j hj
    obtain ⟨-, q1, q2, q3, q4⟩ := had j hj
    have e1 : (if 1 + j ≤ 6 then (ad (1 + j - 1)).1 else (ad (1 + j - 11)).2) = (ad j).1 := by
      rw [if_pos (by omega), show 1 + j - 1 = j by omega]
    have e2 : (if 11 + j ≤ 6 then (ad (11 + j - 1)).1 else (ad (11 + j - 11)).2) = (ad j).2 := by
      rw [if_neg (by omega), show 11 + j - 11 = j by omega]
    show va_O "java/lang/String" (if 1 + j ≤ 6 then (ad (1 + j - 1)).1 else (ad (1 + j - 11)).2) _ s s.heap ∧ va_OF "java/lang/String" "coder" "B" (.int 0) (if 1 + j ≤ 6 then (ad (1 + j - 1)).1 else (ad (1 + j - 11)).2) _ s s.heap ∧ va_OF "java/lang/String" "value" "[B" (.ref (if 11 + j ≤ 6 then (ad (11 + j - 1)).1 else (ad (11 + j - 11)).2)) (if 1 + j ≤ 6 then (ad (1 + j - 1)).1 else (ad (1 + j - 11)).2) _ s s.heap ∧ va_T .byte (if 11 + j ≤ 6 then (ad (11 + j - 1)).1 else (ad (11 + j - 11)).2) _ _ _ s s.heap
    rw [e1, e2]
    exact ⟨q1, q2, q3, q4⟩
  · exact va_Zof (hts _ (of_decide_eq_true (f4 _ (by simp)))) (hts _ (of_decide_eq_true (f4 _ (by simp)))) (va_eqi (hfl _ (of_decide_eq_true (f5 _ (by simp))))) hA
  · exact va_Zqof (hts _ (of_decide_eq_true (f4 _ (by simp)))) (hts _ (of_decide_eq_true (f4 _ (by simp)))) (hfl _ (of_decide_eq_true (f5 _ (by simp)))) hA
