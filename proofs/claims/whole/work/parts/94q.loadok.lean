section XLK
variable {xs : Nat → Int32} {L : Nat} {S X S1 : xS} {t : Nat × Nat × Nat} {m n p s kp nx : Nat} {T : Nat → Nat} {r r' : xG} {e f : Nat → Int32} {A : Nat → Nat} {c : Int32}
/-- the class's store behind a text without fault, before its game is taken over -/
def clK (S : xS) (e : Nat → Int32) (r : xG) : xS := sI (sI (cs S e r) 205 1 (nI 0)) 100 8 (nI 0 - nI 1)
theorem clK_g {g : Nat} (h : g ≠ 207) : (clK S e r).1 g = S.1 g := if_neg h
theorem clK_2 : (clK S e r).1 207 = r := rfl
theorem kp_g {g : Nat} (h : g ≠ 131 + 9 * nx) : (kpS X nx kp).1 g = X.1 g := pk_n (X.1 101) (X.2.1 101) h
theorem kp_kg {g : Nat} (h : g ≠ 131 + 9 * nx) : (kpS X nx kp).2.1 g = X.2.1 g := pk_kn (X.1 101) (X.2.1 101) h
theorem bgR_3 : bgR r 3 = r 3 := rfl
theorem bgR_1 : bgR r 1 = r 1 := rfl
theorem cB_3 : cB r r' 3 = r 3 := rfl
theorem cB_1 : cB r r' 1 = r 1 := rfl
theorem gre_lt (h : gre A r) : ∀ x, x < 574 → A x < 2 ^ 32 := by
  intro x hx
  by_cases h33 : x < 33
  · have := mrel_lt h.1 (by decide) h.2.1 x h33
    omega
  · rw [h.2.2 x (by omega) hx]
    decide
theorem s91k (hI : Inv m S) (hm : m ≤ 512) (hkp : kp ≤ 8) (hnx : nx < 8) (k1 : S.2.2.2.1 129 1 = nI kp) (k2 : S.2.2.2.1 129 2 = nI nx) (hr : gd 0 r) : ev xs L 91 69 [.ref 100, .int (nI n), .int (nI 1)] [] (hS (clK S e r) t) = some (.inl (some (.int (nI (sumTo (r 3) (r 1 3))))), hS (cF (clK S e r) nx kp (bgR (cB r (S.1 101))) (bgK (cB r (S.1 101)) (S.2.1 101))) t) := by
  have hI0 := hI
  obtain ⟨hm5, ⟨hgd, hkk, hgr⟩, hB, hC, hSl, hTx, hEp, hWr⟩ := hI
  have hgo := hgd.1
  have hn := hgo.1
  have hmr := hgr.1
  have hG : isG 101 = true := by decide
  have hrk := gok_rok (S := S) hG hgo rfl
  have ha0 : S.2.2.1 236 0 = S.1 101 1 3 := hmr.1.1
  obtain ⟨hCj, -⟩ := hC
  have hg101 : (clK S e r).1 101 = S.1 101 := rfl
  have hgx : (clK S e r).1 (131 + 9 * nx) = S.1 (131 + 9 * nx) := clK_g (by omega)
  have e1 := s1 (xs := xs) (L := L) (S := clK S e r) (t := t) (m := m) k1 k2 hkp hnx (by omega) hgd hkk (by rw [hgx]; exact (hCj nx hnx).1) (hCj nx hnx).2
  have r207 : (kpS (clK S e r) nx kp).1 207 = r := kp_g (by omega)
  have r101 : (kpS (clK S e r) nx kp).1 101 = S.1 101 := kp_g (by omega)
  have rk : (kpS (clK S e r) nx kp).2.1 101 = S.2.1 101 := kp_kg (by omega)
  have e10 := s10 (xs := xs) (L := L) (S := kpS (clK S e r) nx kp) (t := t) (g := 101) (q := 207) (by decide) (by decide) (by decide) (by rw [r101]; exact hgd.2.2.1) (by rw [r207]; exact hr.2.2.1) (by rw [r207]; exact gd_rng hr (by decide))
  rw [r207, r101, pk_of_pg, rk] at e10
  have hg1 := gd_cB (gd_mono hr (Nat.zero_le m)) (gd_jk hgd)
  have e5 := s5w (xs := xs) (L := L) (X := kpS (clK S e r) nx kp) (t := t) (r := cB r (S.1 101)) (k := S.2.1 101) hg1.1
  have hY : pk (kpS (clK S e r) nx kp) 101 (bgR (cB r (S.1 101))) (bgK (cB r (S.1 101)) (S.2.1 101)) = cF (clK S e r) nx kp (bgR (cB r (S.1 101))) (bgK (cB r (S.1 101)) (S.2.1 101)) := rfl
  rw [hY] at e5
  have hg2 := bg_gd hg1
  have e57 := s57 (xs := xs) (L := L) (S := cF (clK S e r) nx kp (bgR (cB r (S.1 101))) (bgK (cB r (S.1 101)) (S.2.1 101))) (t := t) (g := 101) (gok_rok (by decide) hg2.1 (pk_e _ _))
  rw [show (cF (clK S e r) nx kp (bgR (cB r (S.1 101))) (bgK (cB r (S.1 101)) (S.2.1 101))).1 101 = bgR (cB r (S.1 101)) from pk_e _ _, bgR_3, bgR_1, cB_3, cB_1] at e57
  simp (config := { decide := false, maxSteps := 1000000 }) (disch := first | assumption | exact nlg_i _ | exact nlg_r _ | exact nlg_n | omega | decide) only [r91_69, r91_70, r91_73, r91_74, r91_77, r91_80, r91_81, r91_84, r91_85, r91_88, r91_91, r91_94, r91_95, r91_98, r91_101, r91_102, r91_105, r91_108, r91_111, st_g0_0, st_g0_1, st_g0_2, st_g0_3, st_g0_4, st_p0_4, st_g0_5, st_p0_5, st_g0_6, st_p0_6, st_g0_7, st_p0_7, st_v0, st_g1_0, st_g1_1, st_g1_2, st_g1_3, st_p1_3, st_v1, st_g7_0, st_g7_1, st_p7_1, st_g7_2, st_p7_2, st_v7, st_i2, st_is2, st_i3, st_is3, st_i4, st_is4, st_i5, st_is5, st_i6, st_is6, st_l8, st_ls8, st_y2, st_y3, st_y4, st_y8, st_o100_0, st_o100_1, st_o100_2, st_o100_3, st_o100_4, st_o100_5, st_o100_6, st_o100_7, st_q100_7, st_o100_8, st_q100_8, st_w100, st_o110_0, st_o110_1, st_w110, st_o129_0, st_o129_1, st_q129_1, st_o129_2, st_q129_2, st_w129, st_o205_0, st_o205_1, st_q205_1, st_o205_2, st_o205_3, st_q205_3, st_o205_4, st_q205_4, st_o205_5, st_q205_5, st_o205_6, st_q205_6, st_o205_7, st_q205_7, st_o205_8, st_q205_8, st_o205_9, st_q205_9, st_w205, st_o235_0, st_o235_1, st_o235_2, st_o235_3, st_o235_4, st_o235_5, st_o235_6, st_o235_7, st_q235_7, st_o235_8, st_q235_8, st_o235_9, st_o235_10, st_q235_10, st_o235_11, st_q235_11, st_o235_12, st_q235_12, st_o235_13, st_q235_13, st_o235_14, st_q235_14, st_o235_15, st_q235_15, st_o235_16, st_q235_16, st_o235_17, st_q235_17, st_o235_18, st_q235_18, st_o235_19, st_o235_20, st_o235_21, st_q235_21, st_o235_22, st_q235_22, st_o235_23, st_o235_24, st_q235_24, st_w235, st_a204, st_as204, st_a206, st_as206, st_a216, st_as216, st_a236, st_as236, st_a237, st_as237, st_a238, st_as238, st_a239, st_as239, st_a240, st_as240, st_a241, st_as241, st_a242, st_as242, st_a243, st_as243, st_a244, st_as244, st_a245, st_as245, st_a246, st_as246, st_r130, st_r203, nx_in, nx_clamp, nx_i2n, nx_l2n, nx_add, nx_sub, nx_pred, nx_mul, nx_lt, nx_le, nx_eq, nx_shl, nx_shr, nx_and1, nx_andm, nx_m1, nx_or, nx_dr, nx_rem, nx_kC, nx_ift, nx_iff, e1, e10, e5, e57, ↓nif_lt_t, ↓nif_lt_f, ↓nif_le_t, ↓nif_le_f, ↓nif_eq_t, ↓nif_eq_f, ↓nif_ne_t, ↓nif_ne_f, Nat.one_mul, List.cons_append, List.nil_append, List.append_nil, Option.toList, if_true, if_false, Bool.false_eq_true, and_true, true_and, and_self]
theorem op1_ok (hI : Inv m S) (hm : m ≤ 512) (hfl : p ≤ 300) (h1 : S.2.2.2.1 205 1 = nI p) (h10 : S.2.2.2.1 235 10 = nI p) (hb : bty S T n) (hnp : n ≤ p) (hO : parse T n (S.1 207) = .inr (s, r)) : opOK m S t (fun hp => ev xs L 207 0 [.ref 100, .int (nI n), .ref 247, .null] [] (hp)) (fun hp => ev xs L 137 0 [.ref 235, .int (nI n), .null] [] (hp)) := by
  have hI0 := hI
  obtain ⟨hm5, ⟨hgd, hkk, hgr⟩, hB, hC, hSl, hTx, hEp, hWr⟩ := hI
  have hgo := hgd.1
  have hn := hgo.1
  have hmr := hgr.1
  have hG : isG 101 = true := by decide
  have hrk := gok_rok (S := S) hG hgo rfl
  have ha0 : S.2.2.1 236 0 = S.1 101 1 3 := hmr.1.1
  have h18 := s18 (xs := xs) (L := L) (t := t) hb hB.2.2.2.2
  rw [hO] at h18
  obtain ⟨e, q1, q2⟩ := h18
  obtain ⟨hCj, kp, nx, hkp, hnx, k1, k2, k3, hkg⟩ := hC
  have hgr0 : gd 0 r := by
    have hL := s137r (xs := xs) (L := L) (S := S) (t := t) (A := fun _ => 0) (f := fun k => if k = 11 then nI n else nI 0) (T := T) (n := n) (r := S.1 207) hb hB.2.2.2.2 rfl rfl rfl
    rw [hO] at hL
    obtain ⟨_, _, _, _, w, _⟩ := hL
    exact w.1
  have e91 := s91k (xs := xs) (L := L) (t := t) (n := n) (e := tk T n e s) hI0 hm hkp hnx k1 k2 hgr0
  have hg1 := gd_cB (gd_mono hgr0 (Nat.zero_le m)) (gd_jk hgd)
  have hg2 := bg_gd (gd_mono hg1 (Nat.le_succ m))
  obtain ⟨v, hv⟩ : ∃ v, nI (sumTo (r 3) (r 1 3)) = v := ⟨_, rfl⟩
  rw [hv] at e91
  obtain ⟨Y, hY⟩ : ∃ Y, cF (clK S (tk T n e s) r) nx kp (bgR (cB r (S.1 101))) (bgK (cB r (S.1 101)) (S.2.1 101)) = Y := ⟨_, rfl⟩
  rw [hY] at e91
  have y3 : Y.2.2.1 = S.2.2.1 := by rw [← hY]; rfl
  have y10 : (sO Y 0 v.toInt64).2.2.2.1 235 10 = nI p := by rw [← hY]; exact h10
  have y7 : Y.2.2.2.1 235 7 = nI kp := by rw [← hY]; exact k3
  have hbY : bty (sB (sO Y 0 v.toInt64)) T n := by
    refine ⟨hb.1, fun i hi => ?_⟩
    show Y.2.2.1 206 i = T i ∧ Y.2.2.1 243 i = T i ∧ T i < 256
    rw [y3]
    exact hb.2 i hi
  have hh := s137h (xs := xs) (L := L) (S1 := sO Y 0 v.toInt64) (t := t) y10 hnp hfl
  have hL := s137r (xs := xs) (L := L) (S := sB (sO Y 0 v.toInt64)) (t := t) (A := (sO Y 0 v.toInt64).2.2.1 237) (f := fB (sO Y 0 v.toInt64) n) (T := T) (n := n) (r := S.1 207) hbY hB.2.2.2.2 rfl rfl rfl
  rw [hO] at hL
  obtain ⟨f, A, l, w1, w2, w3⟩ := hL
  have hAlt := gre_lt w2
  have g16 : mt T n f s 16 = nI 0 := w1
  obtain ⟨M, hM⟩ : ∃ M, sI (ms (sB (sO Y 0 v.toInt64)) (mt T n f s) A) 235 18 (nI 0 - nI 1) = M := ⟨_, rfl⟩
  have m16 : M.2.2.2.1 235 16 = nI 0 := by rw [← hM]; exact w1
  have m7 : M.2.2.2.1 235 7 = nI kp := by rw [← hM]; exact y7
  have m236 : M.2.2.1 236 = S.2.2.1 236 := by rw [← hM, ← y3]; rfl
  have m240 : M.2.2.1 240 = S.2.2.1 240 := by rw [← hM, ← y3]; rfl
  have m237 : M.2.2.1 237 = A := by rw [← hM]; rfl
  have e134 := s134x (xs := xs) (L := L) (S := S) (X := M) (t := t) m7 hkp m236 m240 hgr.2.2 hkg
  have km237 : (kmS M kp).2.2.1 237 = A := m237
  obtain ⟨B, C, P, H, ls, gv, e123⟩ := s123p (xs := xs) (L := L) (S := kmS M kp) (t := t) (id := 237) (ln := 574) (fr := 0) (by decide) (fun _ _ _ _ => st_a237 _ _) (by decide) (by decide) (by decide) (by decide) (by decide) (by rw [km237]; intro x hx; rw [Nat.zero_add]; exact hAlt x hx) (by decide) (by decide)
  rw [km237] at e123
  obtain ⟨O, hOv⟩ : ∃ O, ovl (fun x => A (0 + x)) ((kmS M kp).2.2.1 236) 574 = O := ⟨_, rfl⟩
  rw [hOv] at e123
  have hOA : ∀ x, x < 574 → O x = A x := by
    intro x hx
    rw [← hOv, ovl_lt hx, Nat.zero_add]
  have hOlt : ∀ x, x < 574 → O x < 2 ^ 32 := fun x hx => by rw [hOA x hx]; exact hAlt x hx
  have hOm : mrel O (cB r (S.1 101)) := mrel_ge (A := A) hg1.1.1.2 w2.2.1 (fun i hi => hOA i (by omega))
  have e124 := s124 (xs := xs) (L := L) (S := kmS M kp) (t := t) (A := O) (B := B) (C := C) (P := P) (H := H) (ls := ls) (gv := gv) hOlt
  have hgb := grel_bg (k := S.2.1 101) hg1 hOm hOlt
  have e130 := s130 (xs := xs) (L := L) (S := mw (kmS M kp) (rmA (upN O 33 0)) B C P H ls gv) (t := t) (r := bgR (cB r (S.1 101))) hg2.1 hgb.1
  rw [bgR_3, bgR_1, cB_3, cB_1, hv] at e130
  have hne : ¬ nI 1 = nI 0 := by decide
  have qm1 : (-1 : Int32) = nI 0 - nI 1 := by decide
  refine op_chg (S1 := sO Y 0 v.toInt64) (v := v) (S2 := mw (kmS M kp) (rmA (upN O 33 0)) B C P H ls gv) ?_ ?_ ?_ ?_ ?_
  · have hcl : sI (sI (cs S (tk T n e s) r) 205 1 (nI 0)) 100 8 (nI 0 - nI 1) = clK S (tk T n e s) r := rfl
    simp (config := { decide := false, maxSteps := 1000000 }) (disch := first | assumption | exact nlg_i _ | exact nlg_r _ | exact nlg_n | omega | decide) only [r207_0, r207_1, r207_2, r207_3, r207_4, r207_7, r207_8, r207_9, r207_13, r207_14, r207_15, r207_16, c207_12, r91_0, r91_1, r91_4, r91_5, r91_6, r91_9, r91_12, r91_25, r91_26, r91_29, r91_30, r91_33, r91_34, r91_35, r91_38, r91_41, r91_42, r91_46, r91_47, r91_50, r91_53, r91_56, r91_57, r91_60, r91_63, r91_64, r91_65, r91_66, r36_0, r36_1, r36_2, r36_5, nx_kD, nx_kDr, st_l247, st_ls247, hpT_S, st_g0_0, st_g0_1, st_g0_2, st_g0_3, st_g0_4, st_p0_4, st_g0_5, st_p0_5, st_g0_6, st_p0_6, st_g0_7, st_p0_7, st_v0, st_g1_0, st_g1_1, st_g1_2, st_g1_3, st_p1_3, st_v1, st_g7_0, st_g7_1, st_p7_1, st_g7_2, st_p7_2, st_v7, st_i2, st_is2, st_i3, st_is3, st_i4, st_is4, st_i5, st_is5, st_i6, st_is6, st_l8, st_ls8, st_y2, st_y3, st_y4, st_y8, st_o100_0, st_o100_1, st_o100_2, st_o100_3, st_o100_4, st_o100_5, st_o100_6, st_o100_7, st_q100_7, st_o100_8, st_q100_8, st_w100, st_o110_0, st_o110_1, st_w110, st_o129_0, st_o129_1, st_q129_1, st_o129_2, st_q129_2, st_w129, st_o205_0, st_o205_1, st_q205_1, st_o205_2, st_o205_3, st_q205_3, st_o205_4, st_q205_4, st_o205_5, st_q205_5, st_o205_6, st_q205_6, st_o205_7, st_q205_7, st_o205_8, st_q205_8, st_o205_9, st_q205_9, st_w205, st_o235_0, st_o235_1, st_o235_2, st_o235_3, st_o235_4, st_o235_5, st_o235_6, st_o235_7, st_q235_7, st_o235_8, st_q235_8, st_o235_9, st_o235_10, st_q235_10, st_o235_11, st_q235_11, st_o235_12, st_q235_12, st_o235_13, st_q235_13, st_o235_14, st_q235_14, st_o235_15, st_q235_15, st_o235_16, st_q235_16, st_o235_17, st_q235_17, st_o235_18, st_q235_18, st_o235_19, st_o235_20, st_o235_21, st_q235_21, st_o235_22, st_q235_22, st_o235_23, st_o235_24, st_q235_24, st_w235, st_a204, st_as204, st_a206, st_as206, st_a216, st_as216, st_a236, st_as236, st_a237, st_as237, st_a238, st_as238, st_a239, st_as239, st_a240, st_as240, st_a241, st_as241, st_a242, st_as242, st_a243, st_as243, st_a244, st_as244, st_a245, st_as245, st_a246, st_as246, st_r130, st_r203, nx_in, nx_clamp, nx_i2n, nx_l2n, nx_add, nx_sub, nx_pred, nx_mul, nx_lt, nx_le, nx_eq, nx_shl, nx_shr, nx_and1, nx_andm, nx_m1, nx_or, nx_dr, nx_rem, nx_kC, nx_ift, nx_iff, h1, q2, qm1, hcl, e91, ↓nif_lt_t, ↓nif_lt_f, ↓nif_le_t, ↓nif_le_f, ↓nif_eq_t, ↓nif_eq_f, ↓nif_ne_t, ↓nif_ne_f, Nat.one_mul, List.cons_append, List.nil_append, List.append_nil, Option.toList, if_true, if_false, Bool.false_eq_true, and_true, true_and, and_self]
  · show ev xs L 137 0 [.ref 235, .int (nI n), .null] [] (hS (sO Y 0 v.toInt64) t) = _
    rw [hh, w3]
    simp (config := { decide := false, maxSteps := 1000000 }) (disch := first | assumption | exact nlg_i _ | exact nlg_r _ | exact nlg_n | omega | decide) only [r137_109, r137_110, r137_111, r137_114, r137_117, r137_118, r137_122, r137_125, r137_128, r137_129, r137_132, r137_136, r137_139, r137_140, r137_141, r137_144, r137_145, r137_146, r137_149, r137_150, r137_153, r137_154, r137_157, r137_158, r137_161, st_g0_0, st_g0_1, st_g0_2, st_g0_3, st_g0_4, st_p0_4, st_g0_5, st_p0_5, st_g0_6, st_p0_6, st_g0_7, st_p0_7, st_v0, st_g1_0, st_g1_1, st_g1_2, st_g1_3, st_p1_3, st_v1, st_g7_0, st_g7_1, st_p7_1, st_g7_2, st_p7_2, st_v7, st_i2, st_is2, st_i3, st_is3, st_i4, st_is4, st_i5, st_is5, st_i6, st_is6, st_l8, st_ls8, st_y2, st_y3, st_y4, st_y8, st_o100_0, st_o100_1, st_o100_2, st_o100_3, st_o100_4, st_o100_5, st_o100_6, st_o100_7, st_q100_7, st_o100_8, st_q100_8, st_w100, st_o110_0, st_o110_1, st_w110, st_o129_0, st_o129_1, st_q129_1, st_o129_2, st_q129_2, st_w129, st_o205_0, st_o205_1, st_q205_1, st_o205_2, st_o205_3, st_q205_3, st_o205_4, st_q205_4, st_o205_5, st_q205_5, st_o205_6, st_q205_6, st_o205_7, st_q205_7, st_o205_8, st_q205_8, st_o205_9, st_q205_9, st_w205, st_o235_0, st_o235_1, st_o235_2, st_o235_3, st_o235_4, st_o235_5, st_o235_6, st_o235_7, st_q235_7, st_o235_8, st_q235_8, st_o235_9, st_o235_10, st_q235_10, st_o235_11, st_q235_11, st_o235_12, st_q235_12, st_o235_13, st_q235_13, st_o235_14, st_q235_14, st_o235_15, st_q235_15, st_o235_16, st_q235_16, st_o235_17, st_q235_17, st_o235_18, st_q235_18, st_o235_19, st_o235_20, st_o235_21, st_q235_21, st_o235_22, st_q235_22, st_o235_23, st_o235_24, st_q235_24, st_w235, st_a204, st_as204, st_a206, st_as206, st_a216, st_as216, st_a236, st_as236, st_a237, st_as237, st_a238, st_as238, st_a239, st_as239, st_a240, st_as240, st_a241, st_as241, st_a242, st_as242, st_a243, st_as243, st_a244, st_as244, st_a245, st_as245, st_a246, st_as246, st_r130, st_r203, nx_in, nx_clamp, nx_i2n, nx_l2n, nx_add, nx_sub, nx_pred, nx_mul, nx_lt, nx_le, nx_eq, nx_shl, nx_shr, nx_and1, nx_andm, nx_m1, nx_or, nx_dr, nx_rem, nx_kC, nx_ift, nx_iff, ms_r, g16, qm1, hM, m16, e134, e123, e124, e130, ↓nif_lt_t, ↓nif_lt_f, ↓nif_le_t, ↓nif_le_f, ↓nif_eq_t, ↓nif_eq_f, ↓nif_ne_t, ↓nif_ne_f, Nat.one_mul, List.cons_append, List.nil_append, List.append_nil, Option.toList, if_true, if_false, Bool.false_eq_true, and_true, true_and, and_self]
  · rw [← hM]
    rfl
  · rw [← hM]
    rfl
  · have hS' : Inv m (sI (ms (sB (clK S (tk T n e s) r)) (mt T n f s) A) 235 18 (nI 0 - nI 1)) := by
      refine Inv_e0 hI0 (fun g hg => ?_) (gd_jk hgr0) rfl (fun id hid => ?_) (fun k => ?_) rfl rfl rfl rfl rfl rfl
      · exact if_neg hg
      · exact if_neg hid
      · rfl
    have hkS : ∀ j, j < kp → gI m (sI (ms (sB (clK S (tk T n e s) r)) (mt T n f s) A) 235 18 (nI 0 - nI 1)) (cgn nx kp j) (fun x => S.2.2.1 240 (574 * j + x)) := by
      intro j hj
      have hlt : (nx + 8 - kp + j) % 8 < 8 := Nat.mod_lt _ (by decide)
      have h207 : cgn nx kp j ≠ 207 := by unfold cgn; omega
      unfold gI
      rw [show (sI (ms (sB (clK S (tk T n e s) r)) (mt T n f s) A) 235 18 (nI 0 - nI 1)).1 (cgn nx kp j) = S.1 (cgn nx kp j) from if_neg h207]
      exact hkg j hj
    refine fin_chg (S := sI (ms (sB (clK S (tk T n e s) r)) (mt T n f s) A) 235 18 (nI 0 - nI 1)) (X := M) (nx := nx) (r' := bgR (cB r (S.1 101))) (k' := bgK (cB r (S.1 101)) (S.2.1 101)) hm hS' hkp hnx k1 k2 hkS ?_ ?_ (fun id h1 h2 h3 => ?_) (fun i j hij => ?_) hg2 (bg_kok hg1 hkk) hgb
    · rw [← hM, ← hY]
      rfl
    · rw [← hM, ← hY]
      rfl
    · rw [← hM]
      show (if id = 237 then A else Y.2.2.1 id) = (if id = 237 then A else S.2.2.1 id)
      rw [y3]
    · rw [← hM, ← hY]
      by_cases hi : i = 129
      · subst hi
        rfl
      · show (if i = 235 ∧ j = 18 then _ else if i = 235 ∧ 11 ≤ j ∧ j ≤ 17 then _ else if i = 235 ∧ j = 10 then _ else if i = 235 ∧ j = 8 then _ else if i = 129 ∧ j = 1 then _ else if i = 129 ∧ j = 2 then _ else (clK S (tk T n e s) r).2.2.2.1 i j) = (if i = 129 ∧ j = 1 then _ else if i = 129 ∧ j = 2 then _ else if i = 235 ∧ j = 18 then _ else if i = 235 ∧ 11 ≤ j ∧ j ≤ 17 then _ else if i = 235 ∧ j = 10 then _ else if i = 235 ∧ j = 8 then _ else (clK S (tk T n e s) r).2.2.2.1 i j)
        simp only [hi, false_and, if_false]
theorem op1 : H1 xs L := by
  intro m S t hI hm a
  have hI0 := hI
  obtain ⟨fl, q1, q2, q3, q4⟩ := hI.2.2.2.2.2.1
  rcases inI_cs a (lo := 0) (hi := fl) (by decide) (by omega) with ⟨z1, n, p1, p2, p3⟩ | ⟨z1, z⟩
  · subst p3
    have hb : bty S (S.2.2.1 243) n := ⟨by omega, fun i hi => ⟨(q4 i (by omega)).1, rfl, (q4 i (by omega)).2⟩⟩
    obtain ⟨o, ho⟩ : ∃ o, parse (S.2.2.1 243) n (S.1 207) = o := ⟨_, rfl⟩
    cases o with
    | inl c =>
      obtain ⟨c, q⟩ := c
      exact op1_err hI hm q1 q2 q3 hb p2 ho
    | inr c =>
      obtain ⟨s, r⟩ := c
      exact op1_ok hI hm q1 q2 q3 hb p2 ho
  · exact op1_thr hI hm q1 q2 q3 z1 z
end XLK
