section XFR
variable {xs : Nat → Int32} {L : Nat} {S S' S'' : xS} {t : Nat × Nat × Nat} {m n c code : Nat} {r : xG} {k : Nat → Nat}
/-- only the model's scratch has changed -/
def scrq (S S' : xS) : Prop := ∃ B C P H ls gv, S' = mw S (S.2.2.1 236) B C P H ls gv
/-- only the boards of the class's search have changed -/
def clsq (S S' : xS) : Prop := ∃ r1 k1 r2, jk r1 ∧ kok k1 ∧ jk r2 ∧ S' = sb S r1 k1 r2
theorem mw_mw {A B C P H A' B' C' P' H' : Nat → Nat} {ls gv ls' gv' : Int32} : mw (mw S A B C P H ls gv) A' B' C' P' H' ls' gv' = mw S A' B' C' P' H' ls' gv' := by
  refine Prod.ext rfl (Prod.ext rfl (Prod.ext ?_ (Prod.ext ?_ rfl)))
  · funext id
    show (if id = 236 then A' else if id = 239 then B' else if id = 238 then C' else if id = 244 then P' else if id = 245 then H' else if id = 236 then A else if id = 239 then B else if id = 238 then C else if id = 244 then P else if id = 245 then H else S.2.2.1 id) = (if id = 236 then A' else if id = 239 then B' else if id = 238 then C' else if id = 244 then P' else if id = 245 then H' else S.2.2.1 id)
    by_cases h1 : id = 236
    · rw [if_pos h1, if_pos h1]
    · by_cases h2 : id = 239
      · simp only [h1, h2, if_false, if_true]
      · by_cases h3 : id = 238
        · simp only [h1, h2, h3, if_false, if_true]
        · by_cases h4 : id = 244
          · simp only [h1, h2, h3, h4, if_false, if_true]
          · by_cases h5 : id = 245
            · simp only [h1, h2, h3, h4, h5, if_false, if_true]
            · simp only [h1, h2, h3, h4, h5, if_false]
  · funext id i
    show (if id = 235 ∧ i = 21 then ls' else if id = 235 ∧ i = 22 then gv' else if id = 235 ∧ i = 21 then ls else if id = 235 ∧ i = 22 then gv else S.2.2.2.1 id i) = (if id = 235 ∧ i = 21 then ls' else if id = 235 ∧ i = 22 then gv' else S.2.2.2.1 id i)
    by_cases h1 : id = 235 ∧ i = 21
    · rw [if_pos h1, if_pos h1]
    · rw [if_neg h1, if_neg h1, if_neg h1]
      by_cases h2 : id = 235 ∧ i = 22
      · rw [if_pos h2, if_pos h2]
      · rw [if_neg h2, if_neg h2, if_neg h2]
theorem scr_r : scrq S S := ⟨_, _, _, _, _, _, mw_self.symm⟩
theorem scr_t (h1 : scrq S S') (h2 : scrq S' S'') : scrq S S'' := by
  obtain ⟨B, C, P, H, ls, gv, rfl⟩ := h1
  obtain ⟨B', C', P', H', ls', gv', rfl⟩ := h2
  exact ⟨B', C', P', H', ls', gv', mw_mw⟩
theorem scr_A (h : scrq S S') : S'.2.2.1 236 = S.2.2.1 236 := by
  obtain ⟨B, C, P, H, ls, gv, rfl⟩ := h
  rfl
theorem scr_8 (h : scrq S S') : S'.2.2.2.1 235 8 = S.2.2.2.1 235 8 := by
  obtain ⟨B, C, P, H, ls, gv, rfl⟩ := h
  rfl
theorem scr_o (h : scrq S S') : S'.2.2.2.2 = S.2.2.2.2 := by
  obtain ⟨B, C, P, H, ls, gv, rfl⟩ := h
  rfl
theorem scr_1 (h : scrq S S') : S'.1 = S.1 := by
  obtain ⟨B, C, P, H, ls, gv, rfl⟩ := h
  rfl
theorem scr_I (h : scrq S S') (hI : Inv m S) : Inv m S' := by
  obtain ⟨B, C, P, H, ls, gv, rfl⟩ := h
  exact hI
theorem cls_1 (h : clsq S S') : S'.1 101 = S.1 101 := by
  obtain ⟨r1, k1, r2, -, -, -, rfl⟩ := h
  rfl
theorem cls_k (h : clsq S S') : S'.2.1 101 = S.2.1 101 := by
  obtain ⟨r1, k1, r2, -, -, -, rfl⟩ := h
  rfl
theorem cls_2 (h : clsq S S') : S'.2.2 = S.2.2 := by
  obtain ⟨r1, k1, r2, -, -, -, rfl⟩ := h
  rfl
theorem sb_gI {r1 r2 : xG} {k1 A : Nat → Nat} {g : Nat} (h1 : g ≠ 111) (h2 : g ≠ 120) (h : gI m S g A) : gI m (sb S r1 k1 r2) g A := by
  unfold gI
  rw [sb_n _ _ _ h1 h2, sb_kn _ _ _ h1]
  exact h
theorem cgn_ge {nx kp j : Nat} : 131 ≤ cgn nx kp j := by
  unfold cgn
  omega
theorem cls_I (h : clsq S S') (hI : Inv m S) : Inv m S' := by
  obtain ⟨r1, k1, r2, j1, j2, j3, rfl⟩ := h
  obtain ⟨h1, h2, h3, h4, h5, h6, h7, h8⟩ := hI
  refine ⟨h1, h2, ⟨j1, j2, j3, h3.2.2.2.1, h3.2.2.2.2⟩, ?_, ?_, h6, h7, h8⟩
  · obtain ⟨q0, kp, nx, q1, q2, q3, q4, q5, q6⟩ := h4
    refine ⟨fun c hc => ?_, kp, nx, q1, q2, q3, q4, q5, fun j hj => ?_⟩
    · rw [sb_n _ _ _ (by omega) (by omega), sb_kn _ _ _ (by omega)]
      exact q0 c hc
    · have := cgn_ge (nx := nx) (kp := kp) (j := j)
      exact sb_gI (by omega) (by omega) (q6 j hj)
  · intro i hi
    obtain ⟨q1, q2, q3, q4, q5⟩ := h5 i hi
    rw [sb_n _ _ _ (by omega) (by omega), sb_kn _ _ _ (by omega)]
    exact ⟨q1, q2, q3, q4, fun z => sb_gI (by omega) (by omega) (q5 z)⟩
theorem Inv_sok (h : Inv m S) : sok m S := ⟨h.2.1.1, h.2.1.2.1, h.2.2.1.1, h.2.2.1.2.1, h.2.2.1.2.2.1⟩
theorem s173p (hm20 : m < 2 ^ 18) (h : gd m r) (hr : grel (S.2.2.1 236) r k) (hc : isC (r 1 3) code) : ∃ S', scrq S S' ∧ ev xs L 173 0 [.ref 235, .int (nI code), .null, .null] [] (hS S t) = some (.inl (some (.int (nI (refuse r k code)))), hS S' t) := by
  obtain ⟨B', P', H', ls', gv', e⟩ := s173 (xs := xs) (L := L) (S := S) (t := t) (A := S.2.2.1 236) (B := S.2.2.1 239) (C := S.2.2.1 238) (P := S.2.2.1 244) (H := S.2.2.1 245) (ls := S.2.2.2.1 235 21) (gv := S.2.2.2.1 235 22) hm20 h hr hc
  rw [mw_self] at e
  exact ⟨_, ⟨_, _, _, _, _, _, rfl⟩, e⟩
theorem s189p (hm20 : m < 2 ^ 18) (h : gd m r) (hr : grel (S.2.2.1 236) r k) : ∃ S', scrq S S' ∧ ev xs L 189 0 [.ref 235, .null, .null] [] (hS S t) = some (.inl (some (.int (nI (opn r k (10 * r 1 3))))), hS S' t) := by
  obtain ⟨B', P', H', ls', gv', e⟩ := s189 (xs := xs) (L := L) (S := S) (t := t) (A := S.2.2.1 236) (B := S.2.2.1 239) (C := S.2.2.1 238) (P := S.2.2.1 244) (H := S.2.2.1 245) (ls := S.2.2.2.1 235 21) (gv := S.2.2.2.1 235 22) hm20 h hr
  rw [mw_self] at e
  exact ⟨_, ⟨_, _, _, _, _, _, rfl⟩, e⟩
theorem s197p (hm20 : m < 2 ^ 17) (h : gd m r) (hr : grel (S.2.2.1 236) r k) (hC : isC (r 1 3) code) (h0 : rule r code = 0) {d : Nat} (hd : d ≤ 2) : ∃ S', scrq S S' ∧ ev xs L 197 0 [.ref 235, .int (nI code), .int (nI d), .null, .null] [] (hS S t) = some (.inl (some (.int (tryI r k code d))), hS S' t) := by
  obtain ⟨B', C', P', H', ls', gv', e⟩ := s197 (xs := xs) (L := L) (S := S) (t := t) (A := S.2.2.1 236) (B := S.2.2.1 239) (C := S.2.2.1 238) (P := S.2.2.1 244) (H := S.2.2.1 245) (ls := S.2.2.2.1 235 21) (gv := S.2.2.2.1 235 22) hm20 h hr hC h0 hd
  rw [mw_self] at e
  exact ⟨_, ⟨_, _, _, _, _, _, rfl⟩, e⟩
theorem s191p (hm20 : m < 2 ^ 18) (h : gd m r) (hr : grel (S.2.2.1 236) r k) (h8 : S.2.2.2.1 235 8 = nI 0) {num : Nat} (hnum : num < 2 ^ 31) : ∃ S', scrq S S' ∧ ev xs L 191 21 [.ref 235, .int (nI num), .int (nI num), .int (nI (cda 0 (r 1 3)))] [] (hS S t) = some (.inl (some (.int (nI (mvA r k num (10 * r 1 3) 0 0 - 1)))), hS (sI S' 235 8 (nI (if mvA r k num (10 * r 1 3) 0 0 = 0 then 1 else 0))) t) := by
  obtain ⟨B', P', H', ls', gv', e⟩ := s191h (xs := xs) (L := L) (S := S) (t := t) (A := S.2.2.1 236) (C := S.2.2.1 238) hm20 h hr h8 hnum (10 * r 1 3) 0 0 (S.2.2.1 239) (S.2.2.1 244) (S.2.2.1 245) (S.2.2.2.1 235 21) (S.2.2.2.1 235 22) rfl (Nat.zero_le _)
  rw [mw_self, ← mw_s8] at e
  exact ⟨_, ⟨_, _, _, _, _, _, rfl⟩, e⟩
theorem s200p (hm20 : m < 2 ^ 17) (h : gd m r) (hr : grel (S.2.2.1 236) r k) {d : Nat} (hd : d = 1 ∨ d = 2) : ∃ S', scrq S S' ∧ ev xs L 200 38 [.ref 235, .int (nI d), .int (-1), .int (nI 0), .int (nI (cda 0 (r 1 3))), .null] [] (hS S t) = some (.inl (some (.int (nI (bst r k d (10 * r 1 3) 0 0 (nI 0) - 1)))), hS (sI S' 235 8 (nI (if bst r k d (10 * r 1 3) 0 0 (nI 0) = 0 then 2 else 0))) t) := by
  obtain ⟨B', C', P', H', ls', gv', e⟩ := s200h (xs := xs) (L := L) (S := S) (t := t) (A := S.2.2.1 236) hm20 h hr hd (10 * r 1 3) 0 0 (nI 0) (S.2.2.1 239) (S.2.2.1 238) (S.2.2.1 244) (S.2.2.1 245) (S.2.2.2.1 235 21) (S.2.2.2.1 235 22) .null rfl (Nat.zero_le _) rfl
  rw [mw_self, ← mw_s8, show fI 0 = -1 from rfl] at e
  exact ⟨_, ⟨_, _, _, _, _, _, rfl⟩, e⟩
theorem s77p (hI : Inv m S) (hc : isC (S.1 101 1 3) code) : ∃ S', clsq S S' ∧ (refuse (S.1 101) (S.2.1 101) code = 0 → ∃ r0, jk r0 ∧ S'.1 111 = cB (mvR (S.1 101) code) r0) ∧ ev xs L 77 0 [.ref 110, .ref 101, .int (nI code)] [] (hS S t) = some (.inl (some (.int (nI (refuse (S.1 101) (S.2.1 101) code)))), hS S' t) := by
  have hm5 := hI.1
  have hs := Inv_sok hI
  obtain ⟨r1, a1, a2, a3⟩ := s77 (xs := xs) (L := L) (S := S) (t := t) (m := m) (by omega) hs hc
  refine ⟨_, ⟨r1, S.2.1 111, S.1 120, a1, hs.2.2.2.1, hs.2.2.2.2, rfl⟩, fun z => ⟨S.1 111, hs.2.2.1, ?_⟩, a3⟩
  rw [sb_1]
  exact a2 z
/-- a call that changes scratch alone, with a value -/
theorem op_val2 {wr md : xi_H → Option xi_R} {v : Int32} {S1 S2 : xS} (hm : m ≤ 512) (hI : Inv m S) (h1 : clsq S S1) (h2 : scrq (sO S1 0 v.toInt64) S2) (hw : wr (hS S t) = some (.inl (some (.int (nI 0))), hS (sO S1 0 v.toInt64) t)) (hd : md (hS (sO S1 0 v.toInt64) t) = some (.inl (some (.int v)), hS (sI S2 235 8 (nI 0)) t)) : opOK m S t wr md := ⟨0, _, _, v, _, hw, hd, by decide, rfl, fun _ => by
  show S2.2.2.2.2 0 = v.toInt64
  rw [scr_o h2]
  rfl, Inv_thr hm (scr_I h2 (have hI1 : Inv m S1 := cls_I h1 hI; hI1)), tle_r⟩
theorem op_val3 {wr md : xi_H → Option xi_R} {v : Int32} {S1 S2 : xS} (hm : m ≤ 512) (hI : Inv m S) (h1 : clsq S S1) (h2 : scrq (sI (sO S1 0 v.toInt64) 235 8 (nI 0)) S2) (hw : wr (hS S t) = some (.inl (some (.int (nI 0))), hS (sO S1 0 v.toInt64) t)) (hd : md (hS (sO S1 0 v.toInt64) t) = some (.inl (some (.int v)), hS S2 t)) : opOK m S t wr md := ⟨0, _, _, v, _, hw, hd, by decide, by rw [scr_8 h2]; rfl, fun _ => by
  rw [scr_o h2]
  rfl, Inv_mono hm (scr_I h2 (have hI1 : Inv m S1 := cls_I h1 hI; hI1)), tle_r⟩
theorem op_thr2 {wr md : xi_H → Option xi_R} {b : Int32} {k : Nat} {S1 : xS} (hm : m ≤ 512) (hI : Inv m S) (h1 : clsq S S1) (hk : 1 ≤ k ∧ k ≤ 3) (hw : wr (hS S t) = some (.inl (some (.int (nI k))), hS S1 (t.1, t.2.1 + 1, t.2.2 + 6))) (hd : ∀ t, ∃ S2, scrq S1 S2 ∧ md (hS S1 t) = some (.inl (some (.int b)), hS (sI S2 235 8 (nI k)) t)) : opOK m S t wr md := by
  obtain ⟨S2, h2, h3⟩ := hd (t.1, t.2.1 + 1, t.2.2 + 6)
  exact ⟨k, _, _, b, _, hw, h3, hk.2, rfl, fun z => by omega, Inv_thr hm (scr_I h2 (cls_I h1 hI)), tle_t⟩
end XFR
