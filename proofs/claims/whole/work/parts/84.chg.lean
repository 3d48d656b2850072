section XCH
variable {xs : Nat → Int32} {L : Nat} {S S' X : xS} {t : Nat × Nat × Nat} {A B C P H A' : Nat → Nat} {ls gv : Int32} {m n c kp nx : Nat} {r r' : xG} {k k' : Nat → Nat}
/-- the class's state behind a change -/
def cF (S : xS) (nx kp : Nat) (r' : xG) (k' : Nat → Nat) : xS := pk (kpS S nx kp) 101 r' k'
theorem kp_1 : (kpS S nx kp).1 101 = S.1 101 := pk_n (S.1 101) (S.2.1 101) (by omega)
theorem kp_k : (kpS S nx kp).2.1 101 = S.2.1 101 := pk_kn (S.1 101) (S.2.1 101) (by omega)
theorem cF_g (hI : Inv m S) {g : Nat} (h1 : g ≠ 101) (h2 : g ≠ 131 + 9 * nx) : (cF S nx kp r' k').1 g = S.1 g ∧ (cF S nx kp r' k').2.1 g = S.2.1 g := by
  unfold cF
  rw [pk_n _ _ h1, pk_kn _ _ h1]
  exact ⟨pk_n (S.1 101) (S.2.1 101) h2, pk_kn (S.1 101) (S.2.1 101) h2⟩
theorem cF_n : (cF S nx kp r' k').1 (131 + 9 * nx) = S.1 101 ∧ (cF S nx kp r' k').2.1 (131 + 9 * nx) = S.2.1 101 := by
  unfold cF
  rw [pk_n _ _ (by omega), pk_kn _ _ (by omega)]
  exact ⟨pk_e (S.1 101) (S.2.1 101), pk_k (S.1 101) (S.2.1 101)⟩
theorem fin_chg (hm : m ≤ 512) (hI : Inv m S) (hkp : kp ≤ 8) (hnx : nx < 8) (k1 : S.2.2.2.1 129 1 = nI kp) (k2 : S.2.2.2.1 129 2 = nI nx) (hg : ∀ j, j < kp → gI m S (cgn nx kp j) (fun x => S.2.2.1 240 (574 * j + x)))
    (x1 : X.1 = (cF S nx kp r' k').1) (x2 : X.2.1 = (cF S nx kp r' k').2.1) (x3 : ∀ id, (id < 237 ∨ 239 < id) → id ≠ 244 → id ≠ 245 → X.2.2.1 id = S.2.2.1 id) (x4 : ∀ i j, ¬ (i = 235 ∧ (j = 8 ∨ j = 21 ∨ j = 22)) → X.2.2.2.1 i j = (cF S nx kp r' k').2.2.2.1 i j) (hgd : gd (m + 1) r') (hk' : kok k') (hgr : grel A' r' k') : Inv (m + 1) (mw (kmS X kp) A' B C P H ls gv) := by
  have f1 : ∀ i j, ¬ (i = 235 ∧ (j = 8 ∨ j = 21 ∨ j = 22)) → ¬ i = 129 → X.2.2.2.1 i j = S.2.2.2.1 i j := by
    intro i j h1 h2
    rw [x4 i j h1]
    show (if i = 129 ∧ j = 1 then _ else if i = 129 ∧ j = 2 then _ else S.2.2.2.1 i j) = _
    rw [if_neg (fun z => h2 z.1), if_neg (fun z => h2 z.1)]
  refine Inv_chg (A' := A') hm hI hkp hnx k1 k2 hg ?_ ?_ ?_ ?_ ?_ ?_ ?_ ?_ ?_ ?_ ?_ ?_ ?_ ?_ ?_
  · show X.1 _ = _
    rw [x1]
    exact cF_n.1
  · show X.2.1 _ = _
    rw [x2]
    exact cF_n.2
  · intro g h1 h2 h3
    show X.1 g = _ ∧ X.2.1 g = _
    rw [x1, x2]
    exact cF_g hI (by omega) h1
  · show keR (X.2.2.1 240) (X.2.2.1 236) kp = _
    rw [x3 _ (by decide) (by decide) (by decide), x3 _ (by decide) (by decide) (by decide)]
  · show X.2.2.2.1 129 1 = _
    rw [x4 _ _ (by decide)]
    rfl
  · show X.2.2.2.1 129 2 = _
    rw [x4 _ _ (by decide)]
    rfl
  · rfl
  · have hB := hI.2.2.1
    show jk (X.1 111) ∧ kok (X.2.1 111) ∧ jk (X.1 120) ∧ kok (X.2.1 120) ∧ jk (X.1 207)
    rw [x1, x2, (cF_g hI (by decide) (by omega)).1, (cF_g hI (by decide) (by omega)).2, (cF_g hI (by decide) (by omega)).1, (cF_g hI (by decide) (by omega)).2, (cF_g hI (by decide) (by omega)).1]
    exact hB
  · show X.2.2.1 241 = _
    rw [x3 _ (by decide) (by decide) (by decide)]
  · show X.2.2.1 204 = _
    rw [x3 _ (by decide) (by decide) (by decide)]
  · show X.2.2.1 242 = _
    rw [x3 _ (by decide) (by decide) (by decide)]
  · obtain ⟨fl, q1, q2, q3, q4⟩ := hI.2.2.2.2.2.1
    refine ⟨fl, q1, ?_, ?_, ?_⟩
    · show X.2.2.2.1 205 1 = _
      rw [f1 _ _ (by decide) (by decide)]
      exact q2
    · show X.2.2.2.1 235 10 = _
      rw [f1 _ _ (by decide) (by decide)]
      exact q3
    · show ∀ i, i < fl → X.2.2.1 206 i = X.2.2.1 243 i ∧ X.2.2.1 243 i < 256
      rw [x3 _ (by decide) (by decide) (by decide), x3 _ (by decide) (by decide) (by decide)]
      exact q4
  · show X.2.2.2.1 100 8 = X.2.2.2.1 235 18
    rw [f1 _ _ (by decide) (by decide), f1 _ _ (by decide) (by decide)]
    exact hI.2.2.2.2.2.2.1
  · obtain ⟨wl, q1, q2, q3, q4⟩ := hI.2.2.2.2.2.2.2
    refine ⟨wl, q1, ?_, ?_, ?_⟩
    · show X.2.2.2.1 100 7 = _
      rw [f1 _ _ (by decide) (by decide)]
      exact q2
    · show X.2.2.2.1 235 24 = _
      rw [f1 _ _ (by decide) (by decide)]
      exact q3
    · show ∀ i, i < wl → X.2.2.1 216 i = X.2.2.1 246 i ∧ X.2.2.1 246 i < 128
      rw [x3 _ (by decide) (by decide) (by decide), x3 _ (by decide) (by decide) (by decide)]
      exact q4
  · show gd (m + 1) (X.1 101) ∧ kok (X.2.1 101) ∧ grel A' (X.1 101) (X.2.1 101)
    rw [x1, x2]
    unfold cF
    rw [pk_e, pk_k]
    exact ⟨hgd, hk', hgr⟩
/-- positions that begin anew -/
def bgR (r : xG) : xG := adR (up2 (up2 r 7 1 0) 7 2 0)
def bgK (r : xG) (k : Nat → Nat) : Nat → Nat := adK (up2 (up2 r 7 1 0) 7 2 0) r k
theorem up7_gd (h : gd m r) : gd m (up2 (up2 r 7 1 0) 7 2 0) := by
  refine ⟨⟨h.1.1, h.1.2.1, h.1.2.2.1, h.1.2.2.2.1, h.1.2.2.2.2.1, ⟨?_, ?_⟩, h.1.2.2.2.2.2.2⟩, h.2.1, nrm_up2 (nrm_up2 h.2.2.1 (by decide)) (by decide), h.2.2.2⟩
  · show 0 ≤ 20
    omega
  · show 0 < 20
    omega
theorem bg_gd (h : gd m r) : gd m (bgR r) := adR_gd (up7_gd h)
theorem bg_kok (h : gd m r) (hk : kok k) : kok (bgK r k) := adK_ok hk (gd_jk (up7_gd h)) h.1
theorem mrel_ge {A1 : Nat → Nat} (hn : r 1 3 ≤ 12) (h : mrel A r) (hs : ∀ i, i < 33 → A1 i = A i) : mrel A1 r := by
  obtain ⟨q1, q2, q3⟩ := h
  refine ⟨⟨?_, ?_, ?_, ?_, ?_, ?_, ?_, ?_, ?_⟩, fun c hc => ?_, fun c hc hc2 => ?_⟩
  · rw [hs _ (by omega)]; exact q1.1
  · rw [hs _ (by omega)]; exact q1.2.1
  · rw [hs _ (by omega)]; exact q1.2.2.1
  · rw [hs _ (by omega)]; exact q1.2.2.2.1
  · rw [hs _ (by omega)]; exact q1.2.2.2.2.1
  · rw [hs _ (by omega)]; exact q1.2.2.2.2.2.1
  · rw [hs _ (by omega)]; exact q1.2.2.2.2.2.2.1
  · rw [hs _ (by omega)]; exact q1.2.2.2.2.2.2.2.1
  · rw [hs _ (by omega)]; exact q1.2.2.2.2.2.2.2.2
  · rw [hs _ (by omega), hs _ (by omega)]; exact q2 c hc
  · rw [hs _ (by omega), hs _ (by omega)]; exact q3 c hc hc2
theorem grel_bg (h : gd m r) (hm : mrel A r) (hA : ∀ x, x < 574 → A x < 2 ^ 32) : grel (rmA (upN A 33 0)) (bgR r) (bgK r k) := by
  have h0 := up7_gd h
  have hm1 : mrel (upN A 33 0) r := mrel_ge h.1.1.2 hm (fun i hi => upN_n (by omega))
  refine grel_rm (r := up2 (up2 r 7 1 0) 7 2 0) h0.1 ⟨hm1, ⟨upN_e _ _ _, fun _ => rfl, fun j hj => ?_⟩, up_lt hA (by decide)⟩
  have hj2 : j < 0 := hj
  omega
theorem s5w {r : xG} {k : Nat → Nat} (ho : gok r) : ev xs L 5 0 [.ref 101] [] (hS (pk X 101 r k) t) = some (.inl none, hS (pk X 101 (bgR r) (bgK r k)) t) := s5 (by decide) ho (fun p hp => ky_64 ho hp)
theorem sF_pk {g a i v : Nat} : sF S g a i v = pk S g (up2 (S.1 g) a i v) (S.2.1 g) := by
  have h := pg_sF (S := S) (g := g) (S.1 g) a i v
  rw [pg_self] at h
  rw [h, pk_of_pg]
theorem s124 (hA : ∀ x, x < 574 → A x < 2 ^ 32) : ev xs L 124 0 [.ref 235] [] (hS (mw S A B C P H ls gv) t) = some (.inl none, hS (mw S (rmA (upN A 33 0)) B C P H ls gv) t) := by
  have e := s125 (xs := xs) (L := L) (S := S) (t := t) (A := upN A 33 0) (B := B) (C := C) (P := P) (H := H) (ls := ls) (gv := gv) (up_lt hA (by decide)) (by rw [upN_e]; omega)
  simp (config := { decide := false, maxSteps := 1000000 }) (disch := first | assumption | exact nlg_i _ | exact nlg_r _ | exact nlg_n | omega | decide) only [r124_0, r124_1, r124_4, r124_6, r124_7, r124_8, r124_9, r124_12, st_g0_0, st_g0_1, st_g0_2, st_g0_3, st_g0_4, st_p0_4, st_g0_5, st_p0_5, st_g0_6, st_p0_6, st_g0_7, st_p0_7, st_v0, st_g1_0, st_g1_1, st_g1_2, st_g1_3, st_p1_3, st_v1, st_g7_0, st_g7_1, st_p7_1, st_g7_2, st_p7_2, st_v7, st_i2, st_is2, st_i3, st_is3, st_i4, st_is4, st_i5, st_is5, st_i6, st_is6, st_l8, st_ls8, st_y2, st_y3, st_y4, st_y8, st_o100_0, st_o100_1, st_o100_2, st_o100_3, st_o100_4, st_o100_5, st_o100_6, st_o100_7, st_q100_7, st_o100_8, st_q100_8, st_w100, st_o110_0, st_o110_1, st_w110, st_o129_0, st_o129_1, st_q129_1, st_o129_2, st_q129_2, st_w129, st_o205_0, st_o205_1, st_q205_1, st_o205_2, st_o205_3, st_q205_3, st_o205_4, st_q205_4, st_o205_5, st_q205_5, st_o205_6, st_q205_6, st_o205_7, st_q205_7, st_o205_8, st_q205_8, st_o205_9, st_q205_9, st_w205, st_o235_0, st_o235_1, st_o235_2, st_o235_3, st_o235_4, st_o235_5, st_o235_6, st_o235_7, st_q235_7, st_o235_8, st_q235_8, st_o235_9, st_o235_10, st_q235_10, st_o235_11, st_q235_11, st_o235_12, st_q235_12, st_o235_13, st_q235_13, st_o235_14, st_q235_14, st_o235_15, st_q235_15, st_o235_16, st_q235_16, st_o235_17, st_q235_17, st_o235_18, st_q235_18, st_o235_19, st_o235_20, st_o235_21, st_q235_21, st_o235_22, st_q235_22, st_o235_23, st_o235_24, st_q235_24, st_w235, st_a204, st_as204, st_a206, st_as206, st_a216, st_as216, st_a236, st_as236, st_a237, st_as237, st_a238, st_as238, st_a239, st_as239, st_a240, st_as240, st_a241, st_as241, st_a242, st_as242, st_a243, st_as243, st_a244, st_as244, st_a245, st_as245, st_a246, st_as246, st_r130, st_r203, nx_in, nx_clamp, nx_i2n, nx_l2n, nx_add, nx_sub, nx_pred, nx_mul, nx_lt, nx_le, nx_eq, nx_shl, nx_shr, nx_and1, nx_andm, nx_m1, nx_or, nx_dr, nx_rem, nx_kC, nx_ift, nx_iff, mw_sA, e, ↓nif_lt_t, ↓nif_lt_f, ↓nif_le_t, ↓nif_le_f, ↓nif_eq_t, ↓nif_eq_f, ↓nif_ne_t, ↓nif_ne_f, Nat.one_mul, List.cons_append, List.nil_append, List.append_nil, Option.toList, if_true, if_false, Bool.false_eq_true, and_true, true_and, and_self]
theorem s124p (hA : ∀ x, x < 574 → S.2.2.1 236 x < 2 ^ 32) : ev xs L 124 0 [.ref 235] [] (hS S t) = some (.inl none, hS (mw S (rmA (upN (S.2.2.1 236) 33 0)) (S.2.2.1 239) (S.2.2.1 238) (S.2.2.1 244) (S.2.2.1 245) (S.2.2.2.1 235 21) (S.2.2.2.1 235 22)) t) := by
  have e := s124 (xs := xs) (L := L) (S := S) (t := t) (B := S.2.2.1 239) (C := S.2.2.1 238) (P := S.2.2.1 244) (H := S.2.2.1 245) (ls := S.2.2.2.1 235 21) (gv := S.2.2.2.1 235 22) hA
  rw [mw_self] at e
  exact e
theorem sM_mw {i v : Nat} : sM S 236 i v = mw S (upN (S.2.2.1 236) i v) (S.2.2.1 239) (S.2.2.1 238) (S.2.2.1 244) (S.2.2.1 245) (S.2.2.2.1 235 21) (S.2.2.2.1 235 22) := by
  have e := mw_sA (S := S) (A := S.2.2.1 236) (B := S.2.2.1 239) (C := S.2.2.1 238) (P := S.2.2.1 244) (H := S.2.2.1 245) (ls := S.2.2.2.1 235 21) (gv := S.2.2.2.1 235 22) (i := i) (v := v)
  rw [mw_self] at e
  exact e
theorem s124m {i v : Nat} (hA : ∀ x, x < 574 → S.2.2.1 236 x < 2 ^ 32) (hv : v < 2 ^ 32) : ∃ B C P H ls gv, ev xs L 124 0 [.ref 235] [] (hS (sM S 236 i v) t) = some (.inl none, hS (mw S (rmA (upN (upN (S.2.2.1 236) i v) 33 0)) B C P H ls gv) t) := by
  have e := s124 (xs := xs) (L := L) (S := S) (t := t) (A := upN (S.2.2.1 236) i v) (B := S.2.2.1 239) (C := S.2.2.1 238) (P := S.2.2.1 244) (H := S.2.2.1 245) (ls := S.2.2.2.1 235 21) (gv := S.2.2.2.1 235 22) (up_lt hA hv)
  rw [← sM_mw] at e
  exact ⟨_, _, _, _, _, _, e⟩
theorem op_chg {wr md : xi_H → Option xi_R} {v : Int32} {S1 S2 : xS} (hw : wr (hS S t) = some (.inl (some (.int (nI 0))), hS S1 t)) (hd : md (hS S1 t) = some (.inl (some (.int v)), hS S2 t)) (h8 : S2.2.2.2.1 235 8 = nI 0) (ho : S2.2.2.2.2 0 = v.toInt64) (hI2 : Inv (m + 1) S2) : opOK m S t wr md := ⟨0, S1, t, v, S2, hw, hd, by decide, h8, fun _ => ho, hI2, tle_r⟩
theorem scr_row (h : scrq S S') (id : Nat) (h1 : id ≠ 239) (h2 : id ≠ 238) (h3 : id ≠ 244) (h4 : id ≠ 245) : S'.2.2.1 id = S.2.2.1 id := by
  obtain ⟨B, C, P, H, ls, gv, rfl⟩ := h
  show (if id = 236 then S.2.2.1 236 else if id = 239 then B else if id = 238 then C else if id = 244 then P else if id = 245 then H else S.2.2.1 id) = _
  by_cases h0 : id = 236
  · rw [if_pos h0, h0]
  · rw [if_neg h0, if_neg h1, if_neg h2, if_neg h3, if_neg h4]
theorem scr_fld (h : scrq S S') (i j : Nat) (h1 : ¬ (i = 235 ∧ (j = 8 ∨ j = 21 ∨ j = 22))) : S'.2.2.2.1 i j = S.2.2.2.1 i j := by
  obtain ⟨B, C, P, H, ls, gv, rfl⟩ := h
  show (if i = 235 ∧ j = 21 then ls else if i = 235 ∧ j = 22 then gv else S.2.2.2.1 i j) = _
  rw [if_neg (fun z => h1 ⟨z.1, Or.inr (Or.inl z.2)⟩), if_neg (fun z => h1 ⟨z.1, Or.inr (Or.inr z.2)⟩)]
theorem scr_k (h : scrq S S') : S'.2.1 = S.2.1 := by
  obtain ⟨B, C, P, H, ls, gv, rfl⟩ := h
  rfl
end XCH
