section XSX
variable {xs : Nat → Int32} {L : Nat} {mi pc len : Nat} {i : Instr} {ll st st' : List Value} {hp hp' : xi_H}
theorem ev_str (hc : xi_code mi pc = some (i, len)) (hl : len = xi_len i) (hb : xi_br i pc st = none) (hu : xi_pure i ll st = none) (hh : xi_heap xs L mi i st hp = none) (hr : xi_ret mi i st = none) (hca : xi_call mi i st hp = none) (hs : xi_str mi i st hp = some (st', hp')) : ev xs L mi pc ll st hp = ev xs L mi (pc + len) ll st' hp' := by
  rw [ev_eq]
  unfold xi_step
  simp only [hc, hb, hu, hh, hr, hca, hs]
  rw [if_pos hl]
theorem x_getf {idx j : Nat} (ho : (xi_m mi).1 = 10) (hf : xi_fld 10 idx = none) : xi_heap xs L mi (.getfield idx) (.ref j :: st) hp = none := by
  show xi_getf (xi_m mi).1 idx (.ref j :: st) hp = none
  rw [ho]
  unfold xi_getf
  simp only [hf]
theorem x_f9 {j : Nat} (ho : (xi_m mi).1 = 10) (hj : xi_rg 1 6 j = true) : xi_str mi (.getfield 9) (.ref j :: st) hp = some (.ref (10 + j) :: st, hp) := by
  show (if (xi_m mi).1 = 10 ∧ xi_rg 1 6 j = true then (if 9 = 9 then some (Value.ref (10 + j) :: st, hp) else if 9 = 15 then some (.int 0 :: st, hp) else none) else none) = _
  rw [if_pos ⟨ho, hj⟩, if_pos rfl]
theorem x_f15 {j : Nat} (ho : (xi_m mi).1 = 10) (hj : xi_rg 1 6 j = true) : xi_str mi (.getfield 15) (.ref j :: st) hp = some (.int (nI 0) :: st, hp) := by
  show (if (xi_m mi).1 = 10 ∧ xi_rg 1 6 j = true then (if 15 = 9 then some (Value.ref (10 + j) :: st, hp) else if 15 = 15 then some (.int 0 :: st, hp) else none) else none) = _
  rw [if_pos ⟨ho, hj⟩, if_neg (by decide), if_pos rfl]
  rfl
theorem x_gs (ho : (xi_m mi).1 = 10) : xi_str mi (.getstatic 38) st hp = some (.int (nI 1) :: st, hp) := by
  have h : xi_str mi (.getstatic 38) st hp = if (xi_m mi).1 = 10 ∧ 38 = 38 then some (.int 1 :: st, hp) else none := by
    cases st <;> rfl
  rw [h, if_pos ⟨ho, rfl⟩]
  rfl
theorem x_al {a : Nat} (h : xi_rg 11 16 a = true) : xi_str mi .arraylength (.ref a :: st) hp = some (.int (nI (xi_sb.getD (a - 11) []).length) :: st, hp) := if_pos h
theorem x_slen {a : Nat} (h : xi_rg 11 16 a = true) : xi_heap xs L mi .arraylength (.ref a :: st) hp = none := by
  obtain ⟨h1, h2⟩ := xi_rg_of h
  obtain ⟨b, rfl⟩ : ∃ b, a = b + 1 := ⟨a - 1, by omega⟩
  rfl
theorem x_bl {a : Nat} {x : Int32} (h : xi_rg 11 16 a = true) (hi : xi_in x (xi_sb.getD (a - 11) []).length = true) : xi_str mi .baload (.int x :: .ref a :: st) hp = some (.int ((xi_sb.getD (a - 11) []).getD x.toNatClampNeg 0) :: st, hp) := if_pos ⟨h, hi⟩
theorem x_hl {a : Nat} {x : Int32} {S : xS} {t : Nat × Nat × Nat} (h : xi_rg 11 16 a = true) : xi_heap xs L mi .baload (.int x :: .ref a :: st) (hS S t) = none := by
  obtain ⟨h1, h2⟩ := xi_rg_of h
  show xi_ald 1 xs L (.int x :: .ref a :: st) (hS S t) = none
  rcases (show a = 11 ∨ a = 12 ∨ a = 13 ∨ a = 14 ∨ a = 15 ∨ a = 16 by omega) with z | z | z | z | z | z <;> subst z <;> rfl
theorem s234 {j : Nat} (hj : xi_rg 1 6 j = true) : ev xs L 234 0 [.ref j] [] hp = some (.inl (some (.int (nI 0))), hp) := by
  have e1 : ev xs L 234 0 [.ref j] [] hp = ev xs L 234 3 [.ref j] [.int (nI 1)] hp := ev_str (show xi_code 234 0 = some (.getstatic 38, 3) by decide +kernel) rfl rfl rfl rfl rfl rfl (x_gs m234_o)
  have e2 : ev xs L 234 3 [.ref j] [.int (nI 1)] hp = ev xs L 234 6 [.ref j] [] hp := (ev_if (t := 13) (nI 1 = nI 0) (show xi_code 234 3 = some (.ifCond .eq 10, 3) by decide +kernel) (by decide) rfl).trans (if_neg (by decide))
  have e3 : ev xs L 234 6 [.ref j] [] hp = ev xs L 234 7 [.ref j] [.ref j] hp := ev_pure (show xi_code 234 6 = some (.aload_n 0, 1) by decide +kernel) rfl rfl rfl
  have e4 : ev xs L 234 7 [.ref j] [.ref j] hp = ev xs L 234 10 [.ref j] [.int (nI 0)] hp := ev_str (show xi_code 234 7 = some (.getfield 15, 3) by decide +kernel) rfl rfl rfl (x_getf m234_o (by decide +kernel)) rfl rfl (x_f15 m234_o hj)
  have e5 : ev xs L 234 10 [.ref j] [.int (nI 0)] hp = ev xs L 234 14 [.ref j] [.int (nI 0)] hp := ev_br (show xi_code 234 10 = some (.goto 4, 3) by decide +kernel) (Or.inl rfl) rfl
  rw [e1, e2, e3, e4, e5]
  exact ev_iret (show xi_code 234 14 = some (.ireturn, 1) by decide +kernel) m234_r rfl
theorem s236 {j : Nat} (hj : xi_rg 1 6 j = true) : ev xs L 236 0 [.ref j] [] hp = some (.inl (some (.int (nI 1))), hp) := by
  have e1 : ev xs L 236 0 [.ref j] [] hp = ev xs L 236 3 [.ref j] [.int (nI 1)] hp := ev_str (show xi_code 236 0 = some (.getstatic 38, 3) by decide +kernel) rfl rfl rfl rfl rfl rfl (x_gs m236_o)
  have e2 : ev xs L 236 3 [.ref j] [.int (nI 1)] hp = ev xs L 236 6 [.ref j] [] hp := (ev_if (t := 17) (nI 1 = nI 0) (show xi_code 236 3 = some (.ifCond .eq 14, 3) by decide +kernel) (by decide) rfl).trans (if_neg (by decide))
  have e3 : ev xs L 236 6 [.ref j] [] hp = ev xs L 236 7 [.ref j] [.ref j] hp := ev_pure (show xi_code 236 6 = some (.aload_n 0, 1) by decide +kernel) rfl rfl rfl
  have e4 : ev xs L 236 7 [.ref j] [.ref j] hp = ev xs L 236 10 [.ref j] [.int (nI 0)] hp := ev_str (show xi_code 236 7 = some (.getfield 15, 3) by decide +kernel) rfl rfl rfl (x_getf m236_o (by decide +kernel)) rfl rfl (x_f15 m236_o hj)
  have e5 : ev xs L 236 10 [.ref j] [.int (nI 0)] hp = ev xs L 236 13 [.ref j] [] hp := (ev_if (t := 17) (¬ nI 0 = nI 0) (show xi_code 236 10 = some (.ifCond .ne 7, 3) by decide +kernel) (by decide) rfl).trans (if_neg (by decide))
  have e6 : ev xs L 236 13 [.ref j] [] hp = ev xs L 236 14 [.ref j] [.int (nI 1)] hp := ev_pure (show xi_code 236 13 = some (.iconst 1, 1) by decide +kernel) rfl rfl rfl
  have e7 : ev xs L 236 14 [.ref j] [.int (nI 1)] hp = ev xs L 236 18 [.ref j] [.int (nI 1)] hp := ev_br (show xi_code 236 14 = some (.goto 4, 3) by decide +kernel) (Or.inl rfl) rfl
  rw [e1, e2, e3, e4, e5, e6, e7]
  exact ev_iret (show xi_code 236 18 = some (.ireturn, 1) by decide +kernel) m236_r (by decide)
theorem xrg {j : Nat} (hj : xi_rg 1 6 j = true) : xi_rg 11 16 (10 + j) = true := by
  have h := xi_rg_of hj
  unfold xi_rg
  rw [decide_eq_true_eq]
  omega
theorem xsb_len : ∀ j, j < 7 → (xi_sb.getD (10 + j - 11) []).length < 8 := by decide +kernel
theorem s233 {j : Nat} (hj : xi_rg 1 6 j = true) : ev xs L 233 0 [.ref j] [] hp = some (.inl (some (.int (nI (xi_sb.getD (j - 1) []).length))), hp) := by
  have h16 := xi_rg_of hj
  have hl := xsb_len j (by omega)
  have e1 : ev xs L 233 0 [.ref j] [] hp = ev xs L 233 1 [.ref j] [.ref j] hp := ev_pure (show xi_code 233 0 = some (.aload_n 0, 1) by decide +kernel) rfl rfl rfl
  have e2 : ev xs L 233 1 [.ref j] [.ref j] hp = ev xs L 233 4 [.ref j] [.ref (10 + j)] hp := ev_str (show xi_code 233 1 = some (.getfield 9, 3) by decide +kernel) rfl rfl rfl (x_getf m233_o (by decide +kernel)) rfl rfl (x_f9 m233_o hj)
  have e3 : ev xs L 233 4 [.ref j] [.ref (10 + j)] hp = ev xs L 233 5 [.ref j] [.int (nI (xi_sb.getD (10 + j - 11) []).length)] hp := ev_str (show xi_code 233 4 = some (.arraylength, 1) by decide +kernel) rfl rfl rfl (x_slen (xrg hj)) rfl rfl (x_al (xrg hj))
  have e4 : ev xs L 233 5 [.ref j] [.int (nI (xi_sb.getD (10 + j - 11) []).length)] hp = ev xs L 233 6 [.ref j] [.ref j, .int (nI (xi_sb.getD (10 + j - 11) []).length)] hp := ev_pure (show xi_code 233 5 = some (.aload_n 0, 1) by decide +kernel) rfl rfl rfl
  rw [e1, e2, e3, e4]
  have e5 : ev xs L 233 6 [.ref j] [.ref j, .int (nI (xi_sb.getD (10 + j - 11) []).length)] hp = kC (ev xs L 234 0 [.ref j] [] hp) (fun v hp => ev xs L 233 9 [.ref j] (v.toList ++ [.int (nI (xi_sb.getD (10 + j - 11) []).length)]) hp) := (ev_callStr (k := 234) (idx := 335) (r := j) (as := []) (rest := [.int (nI (xi_sb.getD (10 + j - 11) []).length)]) (show xi_code 233 6 = some (.invokevirtual 335, 3) by decide +kernel) (by decide +kernel) m234_n m234_o hj (xi_gd_of rfl rfl (n := 1) rfl (by decide +kernel)) (by decide +kernel) rfl rfl rfl rfl).trans (by rw [xi_loc_of m234_L rfl]; rfl)
  have e6 : ev xs L 233 9 [.ref j] [.int (nI 0), .int (nI (xi_sb.getD (10 + j - 11) []).length)] hp = ev xs L 233 10 [.ref j] [.int (nI (xi_sb.getD (10 + j - 11) []).length >>> (nI 0 &&& 31))] hp := ev_pure (show xi_code 233 9 = some (.ishr, 1) by decide +kernel) rfl rfl rfl
  rw [e5, s234 hj, nx_kC]
  show ev xs L 233 9 [.ref j] [.int (nI 0), .int (nI (xi_sb.getD (10 + j - 11) []).length)] hp = _
  rw [e6, nx_shr (by decide) (by omega), Nat.pow_zero, Nat.div_one, show 10 + j - 11 = j - 1 by omega]
  exact ev_iret (show xi_code 233 10 = some (.ireturn, 1) by decide +kernel) m233_r rfl
theorem xi7 {n i : Nat} {rest : List Value} (h1 : i < n) (h2 : n < 2 ^ 20) (hl : xi_low rest = true) : xi_str 237 (.invokestatic 9) (.int (nI n) :: .int (nI i) :: rest) hp = some (rest, hp) := by
  refine if_pos ⟨by rw [m237_o]; decide +kernel, by decide +kernel, by decide +kernel, hl, ?_, ?_⟩
  · exact nI_le (a := 0) (Nat.zero_le _) (by omega)
  · exact nI_lt h1 (by omega)
theorem x_h9 : xi_heap xs L 237 (.invokestatic 9) st hp = none := by
  show (if 1 ≤ xi_fr 237 ∧ 38 ≤ xi_lo 237 then (match xi_prm (xi_m 237).1 9 with
      | some 5 => xi_p5 st hp
      | some 9 => xi_p9 st hp
      | some 10 => xi_p10 st hp
      | _ => none) else none) = none
  rw [m237_o, show xi_prm 11 9 = some 7 from by decide +kernel]
  split <;> rfl
theorem x_c9 : xi_call 237 (.invokestatic 9) st hp = none := by
  have h : xi_mth (xi_m 237).1 9 = none := by rw [m237_o]; decide +kernel
  unfold xi_call
  simp only [h]
theorem s237 {S : xS} {t : Nat × Nat × Nat} {a i : Nat} (ha : xi_rg 11 16 a = true) (hl : (xi_sb.getD (a - 11) []).length < 8) (hi : i < (xi_sb.getD (a - 11) []).length) {w : Nat} (hw : (xi_sb.getD (a - 11) []).getD i 0 = nI w) (hw2 : w < 128) : ev xs L 237 0 [.ref a, .int (nI i)] [] (hS S t) = some (.inl (some (.int (nI w))), hS S t) := by
  have key : ∀ w, w < 128 → ((nI w &&& nI 255).toUInt32 % 65536).toInt32 = nI w := by decide +kernel
  have key2 : ∀ w, w < 128 → narrow .char (.int (nI w)) = .int (nI w) := by decide +kernel
  have hcl : (nI i).toNatClampNeg = i := nI_clamp (by omega)
  have e1 : ev xs L 237 0 [.ref a, .int (nI i)] [] (hS S t) = ev xs L 237 1 [.ref a, .int (nI i)] [.int (nI i)] (hS S t) := ev_pure (show xi_code 237 0 = some (.iload_n 1, 1) by decide +kernel) rfl rfl rfl
  have e2 : ev xs L 237 1 [.ref a, .int (nI i)] [.int (nI i)] (hS S t) = ev xs L 237 2 [.ref a, .int (nI i)] [.ref a, .int (nI i)] (hS S t) := ev_pure (show xi_code 237 1 = some (.aload_n 0, 1) by decide +kernel) rfl rfl rfl
  have e3 : ev xs L 237 2 [.ref a, .int (nI i)] [.ref a, .int (nI i)] (hS S t) = ev xs L 237 3 [.ref a, .int (nI i)] [.int (nI (xi_sb.getD (a - 11) []).length), .int (nI i)] (hS S t) := ev_str (show xi_code 237 2 = some (.arraylength, 1) by decide +kernel) rfl rfl rfl (x_slen ha) rfl rfl (x_al ha)
  have e4 : ev xs L 237 3 [.ref a, .int (nI i)] [.int (nI (xi_sb.getD (a - 11) []).length), .int (nI i)] (hS S t) = ev xs L 237 6 [.ref a, .int (nI i)] [] (hS S t) := ev_str (show xi_code 237 3 = some (.invokestatic 9, 3) by decide +kernel) rfl rfl rfl x_h9 rfl x_c9 (xi7 hi (by omega) rfl)
  have e5 : ev xs L 237 6 [.ref a, .int (nI i)] [] (hS S t) = ev xs L 237 7 [.ref a, .int (nI i)] [.ref a] (hS S t) := ev_pure (show xi_code 237 6 = some (.aload_n 0, 1) by decide +kernel) rfl rfl rfl
  have e6 : ev xs L 237 7 [.ref a, .int (nI i)] [.ref a] (hS S t) = ev xs L 237 8 [.ref a, .int (nI i)] [.int (nI i), .ref a] (hS S t) := ev_pure (show xi_code 237 7 = some (.iload_n 1, 1) by decide +kernel) rfl rfl rfl
  have e7 : ev xs L 237 8 [.ref a, .int (nI i)] [.int (nI i), .ref a] (hS S t) = ev xs L 237 9 [.ref a, .int (nI i)] [.int (nI w)] (hS S t) := (ev_str (show xi_code 237 8 = some (.baload, 1) by decide +kernel) rfl rfl rfl (x_hl ha) rfl rfl (x_bl ha (nx_in hi (by omega)))).trans (by rw [hcl, hw])
  have e8 : ev xs L 237 9 [.ref a, .int (nI i)] [.int (nI w)] (hS S t) = ev xs L 237 12 [.ref a, .int (nI i)] [.int (nI 255), .int (nI w)] (hS S t) := ev_pure (show xi_code 237 9 = some (.sipush 255, 3) by decide +kernel) rfl rfl rfl
  have e9 : ev xs L 237 12 [.ref a, .int (nI i)] [.int (nI 255), .int (nI w)] (hS S t) = ev xs L 237 13 [.ref a, .int (nI i)] [.int (nI w &&& nI 255)] (hS S t) := ev_pure (show xi_code 237 12 = some (.iand, 1) by decide +kernel) rfl rfl rfl
  have e10 : ev xs L 237 13 [.ref a, .int (nI i)] [.int (nI w &&& nI 255)] (hS S t) = ev xs L 237 14 [.ref a, .int (nI i)] [.int (nI w)] (hS S t) := Eq.trans (b := ev xs L 237 14 [.ref a, .int (nI i)] [.int ((nI w &&& nI 255).toUInt32 % 65536).toInt32] (hS S t)) (ev_pure (show xi_code 237 13 = some (.i2c, 1) by decide +kernel) rfl rfl rfl) (by rw [key w hw2])
  rw [e1, e2, e3, e4, e5, e6, e7, e8, e9, e10]
  exact ev_iret (show xi_code 237 14 = some (.ireturn, 1) by decide +kernel) m237_r (key2 w hw2)
theorem s235 {S : xS} {t : Nat × Nat × Nat} {j i : Nat} (hj : xi_rg 1 6 j = true) (hi : i < (xi_sb.getD (j - 1) []).length) {w : Nat} (hw : (xi_sb.getD (j - 1) []).getD i 0 = nI w) (hw2 : w < 128) : ev xs L 235 0 [.ref j, .int (nI i)] [] (hS S t) = some (.inl (some (.int (nI w))), hS S t) := by
  have key2 : ∀ w, w < 128 → narrow .char (.int (nI w)) = .int (nI w) := by decide +kernel
  have h16 := xi_rg_of hj
  have hl := xsb_len j (by omega)
  have e0 : 10 + j - 11 = j - 1 := by omega
  rw [e0] at hl
  have a1 : ev xs L 235 1 [.ref j, .int (nI i)] [.ref j] (hS S t) = kC (ev xs L 236 0 [.ref j] [] (hS S t)) (fun v hp => ev xs L 235 4 [.ref j, .int (nI i)] (v.toList ++ []) hp) := (ev_callStr (k := 236) (idx := 492) (r := j) (as := []) (rest := []) (show xi_code 235 1 = some (.invokevirtual 492, 3) by decide +kernel) (by decide +kernel) m236_n m236_o hj (xi_gd_of rfl rfl (n := 1) rfl (by decide +kernel)) (by decide +kernel) rfl rfl rfl rfl).trans (by rw [xi_loc_of m236_L rfl]; rfl)
  have a2 : ev xs L 235 12 [.ref j, .int (nI i)] [.int (nI i), .ref (10 + j)] (hS S t) = kC (ev xs L 237 0 [.ref (10 + j), .int (nI i)] [] (hS S t)) (fun v hp => ev xs L 235 15 [.ref j, .int (nI i)] (v.toList ++ []) hp) := (ev_callS (k := 237) (kd := 1) (idx := 495) (as := [.ref (10 + j), .int (nI i)]) (rest := []) (show xi_code 235 12 = some (.invokestatic 495, 3) by decide +kernel) (by decide +kernel) (Or.inl rfl) (by decide +kernel) m237_n (xi_gd_of rfl rfl (n := 2) rfl (by decide +kernel)) (by decide +kernel) rfl rfl rfl rfl).trans (by rw [xi_loc_of m237_L rfl]; rfl)
  have e1 : ev xs L 235 0 [.ref j, .int (nI i)] [] (hS S t) = ev xs L 235 1 [.ref j, .int (nI i)] [.ref j] (hS S t) := ev_pure (show xi_code 235 0 = some (.aload_n 0, 1) by decide +kernel) rfl rfl rfl
  rw [e1]
  rw [a1, s236 hj, nx_kC]
  show ev xs L 235 4 [.ref j, .int (nI i)] [.int (nI 1)] (hS S t) = _
  have b1 : ev xs L 235 4 [.ref j, .int (nI i)] [.int (nI 1)] (hS S t) = ev xs L 235 7 [.ref j, .int (nI i)] [] (hS S t) := (ev_if (t := 16) (nI 1 = nI 0) (show xi_code 235 4 = some (.ifCond .eq 12, 3) by decide +kernel) (by decide) rfl).trans (if_neg (by decide))
  have b2 : ev xs L 235 7 [.ref j, .int (nI i)] [] (hS S t) = ev xs L 235 8 [.ref j, .int (nI i)] [.ref j] (hS S t) := ev_pure (show xi_code 235 7 = some (.aload_n 0, 1) by decide +kernel) rfl rfl rfl
  have b3 : ev xs L 235 8 [.ref j, .int (nI i)] [.ref j] (hS S t) = ev xs L 235 11 [.ref j, .int (nI i)] [.ref (10 + j)] (hS S t) := ev_str (show xi_code 235 8 = some (.getfield 9, 3) by decide +kernel) rfl rfl rfl (x_getf m235_o (by decide +kernel)) rfl rfl (x_f9 m235_o hj)
  have b4 : ev xs L 235 11 [.ref j, .int (nI i)] [.ref (10 + j)] (hS S t) = ev xs L 235 12 [.ref j, .int (nI i)] [.int (nI i), .ref (10 + j)] (hS S t) := ev_pure (show xi_code 235 11 = some (.iload_n 1, 1) by decide +kernel) rfl rfl rfl
  rw [b1, b2, b3, b4]
  rw [a2, s237 (xrg hj) (by rw [e0]; exact hl) (by rw [e0]; exact hi) (by rw [e0]; exact hw) hw2, nx_kC]
  exact ev_iret (show xi_code 235 15 = some (.ireturn, 1) by decide +kernel) m235_r (key2 w hw2)
end XSX
