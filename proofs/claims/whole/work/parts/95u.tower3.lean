section XT3
variable {xs : Nat → Int32} {L : Nat}
def sT : xS := pg (pg sR 217 rI) 226 rI
def sU : xS := pk sT 101 (bgR rI) (bgK rI (fun _ => 0))
theorem rI_gd : gd 0 rI := by
  have h := cg_gd (rB_cg (r := ly 12 (up2 z0 1 3 5)) ?_) (k := 5) (by decide)
  · have he : up2 (rB (ly 12 (up2 z0 1 3 5))) 1 3 5 = rI := by
      funext a i
      show (if a = 1 ∧ i = 3 then 5 else rI a i) = rI a i
      by_cases h : a = 1 ∧ i = 3
      · rw [if_pos h, h.1, h.2]
        rfl
      · rw [if_neg h]
    rw [he] at h
    exact h
  · refine ⟨ly_nrm (nrm_up2 (fun _ _ _ => rfl) (by decide)), ?_, ?_⟩
    · show 0 ≤ 20
      decide
    · show 0 < 20
      decide
theorem v83 : ev xs L 83 0 [.ref 100, .null] [] (ov (upO (Dd 1) 100 (some (tr .null .null .null .null .null .null .null 0))) (hS Z0 (1, 1, 9))) = some (.inl none, ov (Dd 135) (hS sU (135, 135, 1984))) := by
  have f0 := v83s (xs := xs) (L := L) (S := sR) (n := 117) (z := 1750) (x := .null) (j := 0) rfl (by decide) rfl rfl
  have f1 := v83s (xs := xs) (L := L) (S := pg sR 217 rI) (n := 126) (z := 1867) (x := .null) (j := 1) rfl (by decide) rfl rfl
  have q0 : ((117 + 9, 117 + 9, 1750 + 117) : Nat × Nat × Nat) = (126, 126, 1867) := rfl
  have q1 : ((126 + 9, 126 + 9, 1867 + 117) : Nat × Nat × Nat) = (135, 135, 1984) := rfl
  have q2 : (117 + 9 : Nat) = 126 := rfl
  have q3 : (126 + 9 : Nat) = 135 := rfl
  have q4 : (217 + 9 * 0 : Nat) = 217 := rfl
  have q5 : (217 + 9 * 1 : Nat) = 226 := rfl
  have q6 : (0 + 1 : Nat) = 1 := rfl
  have q7 : (1 + 1 : Nat) = 2 := rfl
  have q8 : pg (pg sR 217 rI) 226 rI = sT := rfl
  simp only [q0, q2, q4, q6] at f0
  simp only [q1, q3, q5, q7, q8] at f1
  have o9x : o9 (upO (Ds 135 2) 100 (some trF)) 101 := ⟨rfl, rfl, rfl, rfl, rfl, rfl, rfl, rfl, rfl⟩
  have hg := rI_gd.1
  have e5 := v5 (xs := xs) (L := L) (S := sT) (t := (135, 135, 1984)) (O := upO (Ds 135 2) 100 (some trF)) (g := 101) o9x (r := rI) (k := fun _ => 0) (by decide) hg (fun p hp => ky_64 hg hp)
  have hs : pk sT 101 rI (fun _ => 0) = sT := pk_self (S := sT) (g := 101)
  rw [hs] at e5
  have hF : ∀ O κ hp, kFh (ov (upO O 100 (some trF)) hp) 100 6 0 κ = κ (.ref 101) := fun O κ hp => (ov_Fs upO_e κ).trans rfl
  have hv : ∀ κ, kVh (ov (upO (Ds 135 2) 100 (some trF)) (hS sT (135, 135, 1984))) 101 1 κ = κ := fun κ => (ov_V rfl κ).trans (st_v0 (by decide) κ)
  have ho : ∀ t, ov (upO (Ds 135 2) 100 (some trF)) (hS (pk sT 101 (adR (up2 (up2 rI 7 1 0) 7 2 0)) (adK (up2 (up2 rI 7 1 0) 7 2 0) rI fun _ => 0)) t) = ov (Dd 135) (hS sU t) := by
    intro t
    have h1 : ov (upO (Ds 135 2) 100 (some trF)) (hS sU t) = ov (upO (Ds 135 2) 100 none) (hS sU t) := ov_pc rfl rfl (fun id hi => upO_n hi)
    refine Eq.trans h1 ?_
    have hO : upO (Ds 135 2) 100 none = upO (Dd 135) 203 (some (sar 2)) := by
      funext id
      simp only [upO, Ds, Dd]
      repeat' split
      all_goals first | rfl | omega
    rw [hO]
    exact ov_pc rfl rfl (fun id hi => rfl)
  have htr : tr (.ref 101) (.ref 110) (.ref 129) (.ref 203) (.ref 204) (.ref 205) (.ref 216) (-1) = trF := rfl
  rw [v83a, v83b, v83c, v83d, v83e, htr]
  simp (config := { decide := false, maxSteps := 1000000 }) (disch := first | assumption | exact nlg_i _ | exact nlg_r _ | exact nlg_n | omega | decide) only [r83_81, r83_82, r83_83, r83_84, r83_85, r83_101, r83_104, r83_107, r83_108, r83_111, r83_114, st_g0_0, st_g0_1, st_g0_2, st_g0_3, st_g0_4, st_p0_4, st_g0_5, st_p0_5, st_g0_6, st_p0_6, st_g0_7, st_p0_7, st_v0, st_g1_0, st_g1_1, st_g1_2, st_g1_3, st_p1_3, st_v1, st_g7_0, st_g7_1, st_p7_1, st_g7_2, st_p7_2, st_v7, st_i2, st_is2, st_i3, st_is3, st_i4, st_is4, st_i5, st_is5, st_i6, st_is6, st_l8, st_ls8, st_y2, st_y3, st_y4, st_y8, st_o100_0, st_o100_1, st_o100_2, st_o100_3, st_o100_4, st_o100_5, st_o100_6, st_o100_7, st_q100_7, st_o100_8, st_q100_8, st_w100, st_o110_0, st_o110_1, st_w110, st_o129_0, st_o129_1, st_q129_1, st_o129_2, st_q129_2, st_w129, st_o205_0, st_o205_1, st_q205_1, st_o205_2, st_o205_3, st_q205_3, st_o205_4, st_q205_4, st_o205_5, st_q205_5, st_o205_6, st_q205_6, st_o205_7, st_q205_7, st_o205_8, st_q205_8, st_o205_9, st_q205_9, st_w205, st_o235_0, st_o235_1, st_o235_2, st_o235_3, st_o235_4, st_o235_5, st_o235_6, st_o235_7, st_q235_7, st_o235_8, st_q235_8, st_o235_9, st_o235_10, st_q235_10, st_o235_11, st_q235_11, st_o235_12, st_q235_12, st_o235_13, st_q235_13, st_o235_14, st_q235_14, st_o235_15, st_q235_15, st_o235_16, st_q235_16, st_o235_17, st_q235_17, st_o235_18, st_q235_18, st_o235_19, st_o235_20, st_o235_21, st_q235_21, st_o235_22, st_q235_22, st_o235_23, st_o235_24, st_q235_24, st_w235, st_a204, st_as204, st_a206, st_as206, st_a216, st_as216, st_a236, st_as236, st_a237, st_as237, st_a238, st_as238, st_a239, st_as239, st_a240, st_as240, st_a241, st_as241, st_a242, st_as242, st_a243, st_as243, st_a244, st_as244, st_a245, st_as245, st_a246, st_as246, st_r130, st_r203, nx_in, nx_clamp, nx_i2n, nx_l2n, nx_add, nx_sub, nx_pred, nx_mul, nx_lt, nx_le, nx_eq, nx_shl, nx_shr, nx_and1, nx_andm, nx_m1, nx_or, nx_dr, nx_rem, nx_kC, nx_ift, nx_iff, f0, f1, hF, hv, e5, ho, ↓nif_lt_t, ↓nif_lt_f, ↓nif_le_t, ↓nif_le_f, ↓nif_eq_t, ↓nif_eq_f, ↓nif_ne_t, ↓nif_ne_f, Nat.one_mul, List.cons_append, List.nil_append, List.append_nil, Option.toList, if_true, if_false, Bool.false_eq_true, and_true, true_and, and_self]
end XT3
