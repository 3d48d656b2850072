/-! The same over the heap as a whole. -/
def kFh (hp : xi_H) (a ci k : Nat) (κ : Value → Option xi_R) : Option xi_R := kF (hp.1 a) ci k κ
def kPh (hp : xi_H) (a ci k : Nat) (v : Value) (κ : xi_H → Option xi_R) : Option xi_R := kP (hp.1 a) ci k v (fun o => κ (xi_set hp.1 a o, hp.2))
def kIh (hp : xi_H) (a : Nat) (i : Int32) (κ : Int32 → Option xi_R) : Option xi_R := kI (hp.1 a) i κ
def kIsh (hp : xi_H) (a : Nat) (i x : Int32) (κ : xi_H → Option xi_R) : Option xi_R := kIs (hp.1 a) i x (fun o => κ (xi_set hp.1 a o, hp.2))
def kBh (hp : xi_H) (a : Nat) (i : Int32) (κ : Int32 → Option xi_R) : Option xi_R := kBn (hp.1 a) i κ
def kBsh (hp : xi_H) (a : Nat) (i x : Int32) (κ : xi_H → Option xi_R) : Option xi_R := kBs (hp.1 a) i x (fun o => κ (xi_set hp.1 a o, hp.2))
def kLh (hp : xi_H) (a : Nat) (i : Int32) (κ : Int64 → Option xi_R) : Option xi_R := kL (hp.1 a) i κ
def kLsh (hp : xi_H) (a : Nat) (i : Int32) (x : Int64) (κ : xi_H → Option xi_R) : Option xi_R := kLs (hp.1 a) i x (fun o => κ (xi_set hp.1 a o, hp.2))
def kAh (hp : xi_H) (a : Nat) (i : Int32) (κ : Nat → Option xi_R) : Option xi_R := kA (hp.1 a) i κ
def kVh (hp : xi_H) (r c : Nat) (κ : Option xi_R) : Option xi_R := kV (hp.1 r) c κ
def kYh (hp : xi_H) (a0 a1 : Nat) (sp dp n : Int32) (κ : xi_H → Option xi_R) : Option xi_R := kY (hp.1 a0) (hp.1 a1) sp dp n (fun o => κ (xi_set hp.1 a1 o, hp.2))
def hpT (hp : xi_H) : xi_H := (hp.1, hp.2.1, hp.2.2.1 + 1, hp.2.2.2 + 6)
section XOJ
variable {xs : Nat → Int32} {L : Nat} {mi pc own : Nat} {ll st st' : List Value} {hp hp' : xi_H}
theorem ev_newq {idx : Nat} {n : Int32} (hc : xi_code mi pc = some (.anewarray idx, 3)) (ho : (xi_m mi).1 = own) (h : xi_newq own idx (.int n :: st) hp = some (st', hp')) : ev xs L mi pc ll (.int n :: st) hp = ev xs L mi (pc + 3) ll st' hp' := by
  subst ho
  exact ev_heap hc rfl rfl rfl h
theorem ev_newo {idx : Nat} (hc : xi_code mi pc = some (.new idx, 3)) (ho : (xi_m mi).1 = own) (h : xi_newo own idx st hp = some (st', hp')) (hb : xi_br (.new idx) pc st = none) (hu : xi_pure (.new idx) ll st = none) : ev xs L mi pc ll st hp = ev xs L mi (pc + 3) ll st' hp' := by
  subst ho
  exact ev_heap hc rfl hb hu h
theorem ev_vret (hc : xi_code mi pc = some (.return_, 1)) (hr : (xi_m mi).2.2.2.2.2.1 = none) : ev xs L mi pc ll [] hp = some (.inl none, hp) := by
  refine ev_ret hc rfl rfl rfl rfl ?_
  show (if (xi_m mi).2.2.2.2.2.1 = none then some none else none) = _
  rw [if_pos hr]
theorem ev_lret {v : Int64} (hc : xi_code mi pc = some (.lreturn, 1)) (hr : (xi_m mi).2.2.2.2.2.1 = some .long) : ev xs L mi pc ll [.long v] hp = some (.inl (some (.long v)), hp) := by
  refine ev_ret hc rfl rfl rfl rfl ?_
  show (if (xi_m mi).2.2.2.2.2.1 = some .long then some (some (Value.long v)) else none) = _
  rw [if_pos hr]
theorem ev_callStr {k idx r : Nat} {as rest : List Value} (hc : xi_code mi pc = some (.invokevirtual idx, 3)) (hm : xi_mth (xi_m mi).1 idx = some (k, 0)) (hn : xi_na k = as.length) (hk : (xi_m k).1 = 10) (h6 : xi_rg 1 6 r = true) (hg : xi_gd mi k (.ref r :: as) rest = true) (ho : (xi_m mi).1 ≠ 8) (hst : st = as.reverse ++ .ref r :: rest) (hb : xi_br (.invokevirtual idx) pc st = none) (hu : xi_pure (.invokevirtual idx) ll st = none) (hr : xi_ret mi (.invokevirtual idx) st = none) : ev xs L mi pc ll st hp = kC (ev xs L k 0 (xi_loc k (.ref r :: as)) [] hp) (fun v hp' => ev xs L mi (pc + 3) ll (v.toList ++ rest) hp') := by
  have hdrop : st.drop (xi_na k) = .ref r :: rest := by
    rw [hst, hn, List.drop_append, List.length_reverse, Nat.sub_self, List.drop_zero, List.drop_eq_nil_of_le (by rw [List.length_reverse]; exact Nat.le_refl _), List.nil_append]
  have htake : (st.take (xi_na k)).reverse = as := by
    rw [hst, hn, List.take_append, List.length_reverse, Nat.sub_self, List.take_zero, List.append_nil, List.take_of_length_le (by rw [List.length_reverse]; exact Nat.le_refl _), List.reverse_reverse]
  have hle : xi_na k ≤ st.length := by
    rw [hst, hn, List.length_append, List.length_reverse]
    omega
  have hrc : xi_rcv k r hp = true := by
    unfold xi_rcv
    rw [if_pos hk]
    exact h6
  refine ev_call hc rfl hb hu rfl hr ?_ ho
  unfold xi_call
  simp only [hm, hdrop, htake]
  rw [if_pos ⟨hle, hrc, hg⟩]
theorem ev_ldcw {idx : Nat} {v : Int32} (hc : xi_code mi pc = some (.ldc_w idx, 3)) (ho : (xi_m mi).1 = own) (hk : xi_kon own idx = some v) (hb : xi_br (.ldc_w idx) pc st = none) (hu : xi_pure (.ldc_w idx) ll st = none) : ev xs L mi pc ll st hp = ev xs L mi (pc + 3) ll (.int v :: st) hp := by
  subst ho
  refine ev_heap hc rfl hb hu ?_
  show (match xi_kon (xi_m mi).1 idx with
    | some v => some (Value.int v :: st, hp)
    | none => none) = _
  rw [hk]
theorem ev_ldcs {idx j : Nat} (hc : xi_code mi pc = some (.ldc idx, 2)) (ho : (xi_m mi).1 = own) (hk : xi_kon own idx = none) (hj : xi_ldi own idx = some j) (hb : xi_br (.ldc idx) pc st = none) (hu : xi_pure (.ldc idx) ll st = none) : ev xs L mi pc ll st hp = ev xs L mi (pc + 2) ll (.ref (1 + j) :: st) hp := by
  subst ho
  refine ev_heap hc rfl hb hu ?_
  show xi_ldc (xi_m mi).1 idx st hp = _
  unfold xi_ldc
  rw [hk, hj]
end XOJ
theorem m0_o : (xi_m 0).1 = 0 := by decide +kernel
theorem m0_L : xi_maxL 0 = 2 := by decide +kernel
theorem m0_n : xi_na 0 = 0 := by decide +kernel
theorem m0_r : (xi_m 0).2.2.2.2.2.1 = none := by decide +kernel
theorem m1_o : (xi_m 1).1 = 0 := by decide +kernel
theorem m1_L : xi_maxL 1 = 2 := by decide +kernel
theorem m1_n : xi_na 1 = 1 := by decide +kernel
theorem m1_r : (xi_m 1).2.2.2.2.2.1 = none := by decide +kernel
theorem m2_o : (xi_m 2).1 = 0 := by decide +kernel
theorem m2_L : xi_maxL 2 = 2 := by decide +kernel
theorem m2_n : xi_na 2 = 1 := by decide +kernel
theorem m2_r : (xi_m 2).2.2.2.2.2.1 = none := by decide +kernel
theorem m3_o : (xi_m 3).1 = 1 := by decide +kernel
theorem m3_L : xi_maxL 3 = 1 := by decide +kernel
theorem m3_n : xi_na 3 = 0 := by decide +kernel
theorem m3_r : (xi_m 3).2.2.2.2.2.1 = none := by decide +kernel
theorem m4_o : (xi_m 4).1 = 1 := by decide +kernel
theorem m4_L : xi_maxL 4 = 2 := by decide +kernel
theorem m4_n : xi_na 4 = 0 := by decide +kernel
theorem m4_r : (xi_m 4).2.2.2.2.2.1 = none := by decide +kernel
theorem m5_o : (xi_m 5).1 = 1 := by decide +kernel
theorem m5_L : xi_maxL 5 = 1 := by decide +kernel
theorem m5_n : xi_na 5 = 0 := by decide +kernel
theorem m5_r : (xi_m 5).2.2.2.2.2.1 = none := by decide +kernel
theorem m6_o : (xi_m 6).1 = 1 := by decide +kernel
theorem m6_L : xi_maxL 6 = 5 := by decide +kernel
theorem m6_n : xi_na 6 = 1 := by decide +kernel
theorem m6_r : (xi_m 6).2.2.2.2.2.1 = some .long := by decide +kernel
theorem m7_o : (xi_m 7).1 = 1 := by decide +kernel
theorem m7_L : xi_maxL 7 = 5 := by decide +kernel
theorem m7_n : xi_na 7 = 1 := by decide +kernel
theorem m7_r : (xi_m 7).2.2.2.2.2.1 = some .int := by decide +kernel
theorem m8_o : (xi_m 8).1 = 1 := by decide +kernel
theorem m8_L : xi_maxL 8 = 2 := by decide +kernel
theorem m8_n : xi_na 8 = 0 := by decide +kernel
theorem m8_r : (xi_m 8).2.2.2.2.2.1 = some .int := by decide +kernel
theorem m9_o : (xi_m 9).1 = 1 := by decide +kernel
theorem m9_L : xi_maxL 9 = 2 := by decide +kernel
theorem m9_n : xi_na 9 = 1 := by decide +kernel
theorem m9_r : (xi_m 9).2.2.2.2.2.1 = some .int := by decide +kernel
theorem m10_o : (xi_m 10).1 = 1 := by decide +kernel
theorem m10_L : xi_maxL 10 = 3 := by decide +kernel
theorem m10_n : xi_na 10 = 1 := by decide +kernel
theorem m10_r : (xi_m 10).2.2.2.2.2.1 = none := by decide +kernel
theorem m11_o : (xi_m 11).1 = 1 := by decide +kernel
theorem m11_L : xi_maxL 11 = 6 := by decide +kernel
theorem m11_n : xi_na 11 = 1 := by decide +kernel
theorem m11_r : (xi_m 11).2.2.2.2.2.1 = some .int := by decide +kernel
theorem m12_o : (xi_m 12).1 = 1 := by decide +kernel
theorem m12_L : xi_maxL 12 = 2 := by decide +kernel
theorem m12_n : xi_na 12 = 1 := by decide +kernel
theorem m12_r : (xi_m 12).2.2.2.2.2.1 = none := by decide +kernel
theorem m13_o : (xi_m 13).1 = 1 := by decide +kernel
theorem m13_L : xi_maxL 13 = 3 := by decide +kernel
theorem m13_n : xi_na 13 = 1 := by decide +kernel
theorem m13_r : (xi_m 13).2.2.2.2.2.1 = some .int := by decide +kernel
theorem m14_o : (xi_m 14).1 = 1 := by decide +kernel
theorem m14_L : xi_maxL 14 = 2 := by decide +kernel
theorem m14_n : xi_na 14 = 1 := by decide +kernel
theorem m14_r : (xi_m 14).2.2.2.2.2.1 = some .boolean := by decide +kernel
theorem m15_o : (xi_m 15).1 = 2 := by decide +kernel
theorem m15_L : xi_maxL 15 = 1 := by decide +kernel
theorem m15_n : xi_na 15 = 0 := by decide +kernel
theorem m15_r : (xi_m 15).2.2.2.2.2.1 = none := by decide +kernel
theorem m16_o : (xi_m 16).1 = 2 := by decide +kernel
theorem m16_L : xi_maxL 16 = 1 := by decide +kernel
theorem m16_n : xi_na 16 = 0 := by decide +kernel
theorem m16_r : (xi_m 16).2.2.2.2.2.1 = some .boolean := by decide +kernel
theorem m17_o : (xi_m 17).1 = 2 := by decide +kernel
theorem m17_L : xi_maxL 17 = 3 := by decide +kernel
theorem m17_n : xi_na 17 = 1 := by decide +kernel
theorem m17_r : (xi_m 17).2.2.2.2.2.1 = none := by decide +kernel
theorem m18_o : (xi_m 18).1 = 2 := by decide +kernel
theorem m18_L : xi_maxL 18 = 3 := by decide +kernel
theorem m18_n : xi_na 18 = 1 := by decide +kernel
theorem m18_r : (xi_m 18).2.2.2.2.2.1 = some .boolean := by decide +kernel
theorem m19_o : (xi_m 19).1 = 2 := by decide +kernel
theorem m19_L : xi_maxL 19 = 1 := by decide +kernel
theorem m19_n : xi_na 19 = 0 := by decide +kernel
theorem m19_r : (xi_m 19).2.2.2.2.2.1 = none := by decide +kernel
theorem m20_o : (xi_m 20).1 = 2 := by decide +kernel
theorem m20_L : xi_maxL 20 = 1 := by decide +kernel
theorem m20_n : xi_na 20 = 1 := by decide +kernel
theorem m20_r : (xi_m 20).2.2.2.2.2.1 = some .int := by decide +kernel
theorem m21_o : (xi_m 21).1 = 2 := by decide +kernel
theorem m21_L : xi_maxL 21 = 2 := by decide +kernel
theorem m21_n : xi_na 21 = 0 := by decide +kernel
theorem m21_r : (xi_m 21).2.2.2.2.2.1 = some .boolean := by decide +kernel
theorem m22_o : (xi_m 22).1 = 2 := by decide +kernel
theorem m22_L : xi_maxL 22 = 2 := by decide +kernel
theorem m22_n : xi_na 22 = 1 := by decide +kernel
theorem m22_r : (xi_m 22).2.2.2.2.2.1 = some .boolean := by decide +kernel
theorem m23_o : (xi_m 23).1 = 2 := by decide +kernel
theorem m23_L : xi_maxL 23 = 3 := by decide +kernel
theorem m23_n : xi_na 23 = 1 := by decide +kernel
theorem m23_r : (xi_m 23).2.2.2.2.2.1 = some .boolean := by decide +kernel
theorem m24_o : (xi_m 24).1 = 2 := by decide +kernel
theorem m24_L : xi_maxL 24 = 2 := by decide +kernel
theorem m24_n : xi_na 24 = 1 := by decide +kernel
theorem m24_r : (xi_m 24).2.2.2.2.2.1 = some .boolean := by decide +kernel
theorem m25_o : (xi_m 25).1 = 2 := by decide +kernel
theorem m25_L : xi_maxL 25 = 3 := by decide +kernel
theorem m25_n : xi_na 25 = 2 := by decide +kernel
theorem m25_r : (xi_m 25).2.2.2.2.2.1 = some .boolean := by decide +kernel
theorem m26_o : (xi_m 26).1 = 2 := by decide +kernel
theorem m26_L : xi_maxL 26 = 3 := by decide +kernel
theorem m26_n : xi_na 26 = 2 := by decide +kernel
theorem m26_r : (xi_m 26).2.2.2.2.2.1 = some .boolean := by decide +kernel
theorem m27_o : (xi_m 27).1 = 2 := by decide +kernel
theorem m27_L : xi_maxL 27 = 3 := by decide +kernel
theorem m27_n : xi_na 27 = 0 := by decide +kernel
theorem m27_r : (xi_m 27).2.2.2.2.2.1 = some .int := by decide +kernel
theorem m28_o : (xi_m 28).1 = 2 := by decide +kernel
theorem m28_L : xi_maxL 28 = 1 := by decide +kernel
theorem m28_n : xi_na 28 = 0 := by decide +kernel
theorem m28_r : (xi_m 28).2.2.2.2.2.1 = some .boolean := by decide +kernel
theorem m29_o : (xi_m 29).1 = 2 := by decide +kernel
theorem m29_L : xi_maxL 29 = 1 := by decide +kernel
theorem m29_n : xi_na 29 = 0 := by decide +kernel
theorem m29_r : (xi_m 29).2.2.2.2.2.1 = some .boolean := by decide +kernel
theorem m30_o : (xi_m 30).1 = 2 := by decide +kernel
theorem m30_L : xi_maxL 30 = 1 := by decide +kernel
theorem m30_n : xi_na 30 = 0 := by decide +kernel
theorem m30_r : (xi_m 30).2.2.2.2.2.1 = some .boolean := by decide +kernel
theorem m31_o : (xi_m 31).1 = 2 := by decide +kernel
theorem m31_L : xi_maxL 31 = 1 := by decide +kernel
theorem m31_n : xi_na 31 = 0 := by decide +kernel
theorem m31_r : (xi_m 31).2.2.2.2.2.1 = some .boolean := by decide +kernel
theorem m32_o : (xi_m 32).1 = 2 := by decide +kernel
theorem m32_L : xi_maxL 32 = 2 := by decide +kernel
theorem m32_n : xi_na 32 = 0 := by decide +kernel
theorem m32_r : (xi_m 32).2.2.2.2.2.1 = some .boolean := by decide +kernel
theorem m33_o : (xi_m 33).1 = 2 := by decide +kernel
theorem m33_L : xi_maxL 33 = 1 := by decide +kernel
theorem m33_n : xi_na 33 = 0 := by decide +kernel
theorem m33_r : (xi_m 33).2.2.2.2.2.1 = some .boolean := by decide +kernel
theorem m34_o : (xi_m 34).1 = 2 := by decide +kernel
theorem m34_L : xi_maxL 34 = 2 := by decide +kernel
theorem m34_n : xi_na 34 = 0 := by decide +kernel
theorem m34_r : (xi_m 34).2.2.2.2.2.1 = some .boolean := by decide +kernel
theorem m35_o : (xi_m 35).1 = 2 := by decide +kernel
theorem m35_L : xi_maxL 35 = 3 := by decide +kernel
theorem m35_n : xi_na 35 = 1 := by decide +kernel
theorem m35_r : (xi_m 35).2.2.2.2.2.1 = some .boolean := by decide +kernel
theorem m36_o : (xi_m 36).1 = 2 := by decide +kernel
theorem m36_L : xi_maxL 36 = 1 := by decide +kernel
theorem m36_n : xi_na 36 = 0 := by decide +kernel
theorem m36_r : (xi_m 36).2.2.2.2.2.1 = none := by decide +kernel
theorem m37_o : (xi_m 37).1 = 3 := by decide +kernel
theorem m37_L : xi_maxL 37 = 1 := by decide +kernel
theorem m37_n : xi_na 37 = 0 := by decide +kernel
theorem m37_r : (xi_m 37).2.2.2.2.2.1 = none := by decide +kernel
theorem m38_o : (xi_m 38).1 = 3 := by decide +kernel
theorem m38_L : xi_maxL 38 = 1 := by decide +kernel
theorem m38_n : xi_na 38 = 0 := by decide +kernel
theorem m38_r : (xi_m 38).2.2.2.2.2.1 = none := by decide +kernel
theorem m39_o : (xi_m 39).1 = 3 := by decide +kernel
theorem m39_L : xi_maxL 39 = 3 := by decide +kernel
theorem m39_n : xi_na 39 = 1 := by decide +kernel
theorem m39_r : (xi_m 39).2.2.2.2.2.1 = none := by decide +kernel
theorem m40_o : (xi_m 40).1 = 3 := by decide +kernel
theorem m40_L : xi_maxL 40 = 9 := by decide +kernel
theorem m40_n : xi_na 40 = 1 := by decide +kernel
theorem m40_r : (xi_m 40).2.2.2.2.2.1 = some .boolean := by decide +kernel
theorem m41_o : (xi_m 41).1 = 3 := by decide +kernel
theorem m41_L : xi_maxL 41 = 2 := by decide +kernel
theorem m41_n : xi_na 41 = 1 := by decide +kernel
theorem m41_r : (xi_m 41).2.2.2.2.2.1 = none := by decide +kernel
theorem m42_o : (xi_m 42).1 = 4 := by decide +kernel
theorem m42_L : xi_maxL 42 = 1 := by decide +kernel
theorem m42_n : xi_na 42 = 0 := by decide +kernel
theorem m42_r : (xi_m 42).2.2.2.2.2.1 = none := by decide +kernel
theorem m43_o : (xi_m 43).1 = 4 := by decide +kernel
theorem m43_L : xi_maxL 43 = 3 := by decide +kernel
theorem m43_n : xi_na 43 = 1 := by decide +kernel
theorem m43_r : (xi_m 43).2.2.2.2.2.1 = none := by decide +kernel
theorem m44_o : (xi_m 44).1 = 4 := by decide +kernel
theorem m44_L : xi_maxL 44 = 6 := by decide +kernel
theorem m44_n : xi_na 44 = 2 := by decide +kernel
theorem m44_r : (xi_m 44).2.2.2.2.2.1 = some .long := by decide +kernel
theorem m45_o : (xi_m 45).1 = 4 := by decide +kernel
theorem m45_L : xi_maxL 45 = 2 := by decide +kernel
theorem m45_n : xi_na 45 = 1 := by decide +kernel
theorem m45_r : (xi_m 45).2.2.2.2.2.1 = some .int := by decide +kernel
theorem m46_o : (xi_m 46).1 = 4 := by decide +kernel
theorem m46_L : xi_maxL 46 = 2 := by decide +kernel
theorem m46_n : xi_na 46 = 1 := by decide +kernel
theorem m46_r : (xi_m 46).2.2.2.2.2.1 = none := by decide +kernel
theorem m47_o : (xi_m 47).1 = 4 := by decide +kernel
theorem m47_L : xi_maxL 47 = 4 := by decide +kernel
theorem m47_n : xi_na 47 = 3 := by decide +kernel
theorem m47_r : (xi_m 47).2.2.2.2.2.1 = none := by decide +kernel
theorem m48_o : (xi_m 48).1 = 4 := by decide +kernel
theorem m48_L : xi_maxL 48 = 4 := by decide +kernel
theorem m48_n : xi_na 48 = 1 := by decide +kernel
theorem m48_r : (xi_m 48).2.2.2.2.2.1 = none := by decide +kernel
theorem m49_o : (xi_m 49).1 = 4 := by decide +kernel
theorem m49_L : xi_maxL 49 = 5 := by decide +kernel
theorem m49_n : xi_na 49 = 3 := by decide +kernel
theorem m49_r : (xi_m 49).2.2.2.2.2.1 = some .int := by decide +kernel
theorem m50_o : (xi_m 50).1 = 4 := by decide +kernel
theorem m50_L : xi_maxL 50 = 6 := by decide +kernel
theorem m50_n : xi_na 50 = 3 := by decide +kernel
theorem m50_r : (xi_m 50).2.2.2.2.2.1 = some .int := by decide +kernel
theorem m51_o : (xi_m 51).1 = 4 := by decide +kernel
theorem m51_L : xi_maxL 51 = 4 := by decide +kernel
theorem m51_n : xi_na 51 = 1 := by decide +kernel
theorem m51_r : (xi_m 51).2.2.2.2.2.1 = some .int := by decide +kernel
theorem m52_o : (xi_m 52).1 = 4 := by decide +kernel
theorem m52_L : xi_maxL 52 = 6 := by decide +kernel
theorem m52_n : xi_na 52 = 4 := by decide +kernel
theorem m52_r : (xi_m 52).2.2.2.2.2.1 = some .int := by decide +kernel
theorem m53_o : (xi_m 53).1 = 4 := by decide +kernel
theorem m53_L : xi_maxL 53 = 3 := by decide +kernel
theorem m53_n : xi_na 53 = 2 := by decide +kernel
theorem m53_r : (xi_m 53).2.2.2.2.2.1 = none := by decide +kernel
theorem m54_o : (xi_m 54).1 = 4 := by decide +kernel
theorem m54_L : xi_maxL 54 = 6 := by decide +kernel
theorem m54_n : xi_na 54 = 1 := by decide +kernel
theorem m54_r : (xi_m 54).2.2.2.2.2.1 = some .int := by decide +kernel
theorem m55_o : (xi_m 55).1 = 4 := by decide +kernel
theorem m55_L : xi_maxL 55 = 3 := by decide +kernel
theorem m55_n : xi_na 55 = 0 := by decide +kernel
theorem m55_r : (xi_m 55).2.2.2.2.2.1 = none := by decide +kernel
theorem m56_o : (xi_m 56).1 = 4 := by decide +kernel
theorem m56_L : xi_maxL 56 = 4 := by decide +kernel
theorem m56_n : xi_na 56 = 1 := by decide +kernel
theorem m56_r : (xi_m 56).2.2.2.2.2.1 = some .int := by decide +kernel
theorem m57_o : (xi_m 57).1 = 4 := by decide +kernel
theorem m57_L : xi_maxL 57 = 3 := by decide +kernel
theorem m57_n : xi_na 57 = 0 := by decide +kernel
theorem m57_r : (xi_m 57).2.2.2.2.2.1 = some .int := by decide +kernel
theorem m58_o : (xi_m 58).1 = 4 := by decide +kernel
theorem m58_L : xi_maxL 58 = 4 := by decide +kernel
theorem m58_n : xi_na 58 = 1 := by decide +kernel
theorem m58_r : (xi_m 58).2.2.2.2.2.1 = some .int := by decide +kernel
theorem m59_o : (xi_m 59).1 = 4 := by decide +kernel
theorem m59_L : xi_maxL 59 = 3 := by decide +kernel
theorem m59_n : xi_na 59 = 0 := by decide +kernel
theorem m59_r : (xi_m 59).2.2.2.2.2.1 = some .int := by decide +kernel
theorem m60_o : (xi_m 60).1 = 4 := by decide +kernel
theorem m60_L : xi_maxL 60 = 3 := by decide +kernel
theorem m60_n : xi_na 60 = 0 := by decide +kernel
theorem m60_r : (xi_m 60).2.2.2.2.2.1 = some .int := by decide +kernel
theorem m61_o : (xi_m 61).1 = 4 := by decide +kernel
theorem m61_L : xi_maxL 61 = 2 := by decide +kernel
theorem m61_n : xi_na 61 = 1 := by decide +kernel
theorem m61_r : (xi_m 61).2.2.2.2.2.1 = some .boolean := by decide +kernel
theorem m62_o : (xi_m 62).1 = 4 := by decide +kernel
theorem m62_L : xi_maxL 62 = 4 := by decide +kernel
theorem m62_n : xi_na 62 = 2 := by decide +kernel
theorem m62_r : (xi_m 62).2.2.2.2.2.1 = some .int := by decide +kernel
theorem m63_o : (xi_m 63).1 = 4 := by decide +kernel
theorem m63_L : xi_maxL 63 = 3 := by decide +kernel
theorem m63_n : xi_na 63 = 2 := by decide +kernel
theorem m63_r : (xi_m 63).2.2.2.2.2.1 = some .int := by decide +kernel
theorem m64_o : (xi_m 64).1 = 4 := by decide +kernel
theorem m64_L : xi_maxL 64 = 4 := by decide +kernel
theorem m64_n : xi_na 64 = 1 := by decide +kernel
theorem m64_r : (xi_m 64).2.2.2.2.2.1 = some .int := by decide +kernel
theorem m65_o : (xi_m 65).1 = 4 := by decide +kernel
theorem m65_L : xi_maxL 65 = 4 := by decide +kernel
theorem m65_n : xi_na 65 = 1 := by decide +kernel
theorem m65_r : (xi_m 65).2.2.2.2.2.1 = some .int := by decide +kernel
theorem m66_o : (xi_m 66).1 = 4 := by decide +kernel
theorem m66_L : xi_maxL 66 = 6 := by decide +kernel
theorem m66_n : xi_na 66 = 2 := by decide +kernel
theorem m66_r : (xi_m 66).2.2.2.2.2.1 = some .int := by decide +kernel
theorem m67_o : (xi_m 67).1 = 4 := by decide +kernel
theorem m67_L : xi_maxL 67 = 5 := by decide +kernel
theorem m67_n : xi_na 67 = 1 := by decide +kernel
theorem m67_r : (xi_m 67).2.2.2.2.2.1 = some .int := by decide +kernel
theorem m68_o : (xi_m 68).1 = 4 := by decide +kernel
theorem m68_L : xi_maxL 68 = 5 := by decide +kernel
theorem m68_n : xi_na 68 = 1 := by decide +kernel
theorem m68_r : (xi_m 68).2.2.2.2.2.1 = some .int := by decide +kernel
theorem m69_o : (xi_m 69).1 = 4 := by decide +kernel
theorem m69_L : xi_maxL 69 = 4 := by decide +kernel
theorem m69_n : xi_na 69 = 1 := by decide +kernel
theorem m69_r : (xi_m 69).2.2.2.2.2.1 = some .int := by decide +kernel
theorem m70_o : (xi_m 70).1 = 4 := by decide +kernel
theorem m70_L : xi_maxL 70 = 5 := by decide +kernel
theorem m70_n : xi_na 70 = 2 := by decide +kernel
theorem m70_r : (xi_m 70).2.2.2.2.2.1 = some .int := by decide +kernel
theorem m71_o : (xi_m 71).1 = 4 := by decide +kernel
theorem m71_L : xi_maxL 71 = 4 := by decide +kernel
theorem m71_n : xi_na 71 = 1 := by decide +kernel
theorem m71_r : (xi_m 71).2.2.2.2.2.1 = some .int := by decide +kernel
theorem m72_o : (xi_m 72).1 = 4 := by decide +kernel
theorem m72_L : xi_maxL 72 = 4 := by decide +kernel
theorem m72_n : xi_na 72 = 1 := by decide +kernel
theorem m72_r : (xi_m 72).2.2.2.2.2.1 = some .int := by decide +kernel
theorem m73_o : (xi_m 73).1 = 5 := by decide +kernel
theorem m73_L : xi_maxL 73 = 1 := by decide +kernel
theorem m73_n : xi_na 73 = 0 := by decide +kernel
theorem m73_r : (xi_m 73).2.2.2.2.2.1 = none := by decide +kernel
theorem m74_o : (xi_m 74).1 = 5 := by decide +kernel
theorem m74_L : xi_maxL 74 = 2 := by decide +kernel
theorem m74_n : xi_na 74 = 1 := by decide +kernel
theorem m74_r : (xi_m 74).2.2.2.2.2.1 = some .int := by decide +kernel
theorem m75_o : (xi_m 75).1 = 5 := by decide +kernel
theorem m75_L : xi_maxL 75 = 5 := by decide +kernel
theorem m75_n : xi_na 75 = 2 := by decide +kernel
theorem m75_r : (xi_m 75).2.2.2.2.2.1 = some .int := by decide +kernel
theorem m76_o : (xi_m 76).1 = 5 := by decide +kernel
theorem m76_L : xi_maxL 76 = 5 := by decide +kernel
theorem m76_n : xi_na 76 = 3 := by decide +kernel
theorem m76_r : (xi_m 76).2.2.2.2.2.1 = some .int := by decide +kernel
theorem m77_o : (xi_m 77).1 = 5 := by decide +kernel
theorem m77_L : xi_maxL 77 = 3 := by decide +kernel
theorem m77_n : xi_na 77 = 2 := by decide +kernel
theorem m77_r : (xi_m 77).2.2.2.2.2.1 = some .int := by decide +kernel
theorem m78_o : (xi_m 78).1 = 5 := by decide +kernel
theorem m78_L : xi_maxL 78 = 6 := by decide +kernel
theorem m78_n : xi_na 78 = 2 := by decide +kernel
theorem m78_r : (xi_m 78).2.2.2.2.2.1 = some .int := by decide +kernel
theorem m79_o : (xi_m 79).1 = 5 := by decide +kernel
theorem m79_L : xi_maxL 79 = 7 := by decide +kernel
theorem m79_n : xi_na 79 = 2 := by decide +kernel
theorem m79_r : (xi_m 79).2.2.2.2.2.1 = some .int := by decide +kernel
theorem m80_o : (xi_m 80).1 = 5 := by decide +kernel
theorem m80_L : xi_maxL 80 = 2 := by decide +kernel
theorem m80_n : xi_na 80 = 1 := by decide +kernel
theorem m80_r : (xi_m 80).2.2.2.2.2.1 = none := by decide +kernel
theorem m81_o : (xi_m 81).1 = 5 := by decide +kernel
theorem m81_L : xi_maxL 81 = 8 := by decide +kernel
theorem m81_n : xi_na 81 = 2 := by decide +kernel
theorem m81_r : (xi_m 81).2.2.2.2.2.1 = some .int := by decide +kernel
theorem m82_o : (xi_m 82).1 = 5 := by decide +kernel
theorem m82_L : xi_maxL 82 = 2 := by decide +kernel
theorem m82_n : xi_na 82 = 1 := by decide +kernel
theorem m82_r : (xi_m 82).2.2.2.2.2.1 = some .int := by decide +kernel
theorem m83_o : (xi_m 83).1 = 6 := by decide +kernel
theorem m83_L : xi_maxL 83 = 2 := by decide +kernel
theorem m83_n : xi_na 83 = 0 := by decide +kernel
theorem m83_r : (xi_m 83).2.2.2.2.2.1 = none := by decide +kernel
theorem m84_o : (xi_m 84).1 = 6 := by decide +kernel
theorem m84_L : xi_maxL 84 = 1 := by decide +kernel
theorem m84_n : xi_na 84 = 0 := by decide +kernel
theorem m84_r : (xi_m 84).2.2.2.2.2.1 = some .int := by decide +kernel
theorem m85_o : (xi_m 85).1 = 6 := by decide +kernel
theorem m85_L : xi_maxL 85 = 1 := by decide +kernel
theorem m85_n : xi_na 85 = 0 := by decide +kernel
theorem m85_r : (xi_m 85).2.2.2.2.2.1 = some .int := by decide +kernel
theorem m86_o : (xi_m 86).1 = 6 := by decide +kernel
theorem m86_L : xi_maxL 86 = 1 := by decide +kernel
theorem m86_n : xi_na 86 = 1 := by decide +kernel
theorem m86_r : (xi_m 86).2.2.2.2.2.1 = some .int := by decide +kernel
theorem m87_o : (xi_m 87).1 = 6 := by decide +kernel
theorem m87_L : xi_maxL 87 = 5 := by decide +kernel
theorem m87_n : xi_na 87 = 2 := by decide +kernel
theorem m87_r : (xi_m 87).2.2.2.2.2.1 = some .int := by decide +kernel
theorem m88_o : (xi_m 88).1 = 6 := by decide +kernel
theorem m88_L : xi_maxL 88 = 1 := by decide +kernel
theorem m88_n : xi_na 88 = 1 := by decide +kernel
theorem m88_r : (xi_m 88).2.2.2.2.2.1 = some .int := by decide +kernel
theorem m89_o : (xi_m 89).1 = 6 := by decide +kernel
theorem m89_L : xi_maxL 89 = 2 := by decide +kernel
theorem m89_n : xi_na 89 = 0 := by decide +kernel
theorem m89_r : (xi_m 89).2.2.2.2.2.1 = some .int := by decide +kernel
theorem m90_o : (xi_m 90).1 = 6 := by decide +kernel
theorem m90_L : xi_maxL 90 = 6 := by decide +kernel
theorem m90_n : xi_na 90 = 5 := by decide +kernel
theorem m90_r : (xi_m 90).2.2.2.2.2.1 = some .int := by decide +kernel
theorem m91_o : (xi_m 91).1 = 6 := by decide +kernel
theorem m91_L : xi_maxL 91 = 3 := by decide +kernel
theorem m91_n : xi_na 91 = 1 := by decide +kernel
theorem m91_r : (xi_m 91).2.2.2.2.2.1 = some .int := by decide +kernel
theorem m92_o : (xi_m 92).1 = 6 := by decide +kernel
theorem m92_L : xi_maxL 92 = 2 := by decide +kernel
theorem m92_n : xi_na 92 = 1 := by decide +kernel
theorem m92_r : (xi_m 92).2.2.2.2.2.1 = some .int := by decide +kernel
theorem m93_o : (xi_m 93).1 = 6 := by decide +kernel
theorem m93_L : xi_maxL 93 = 3 := by decide +kernel
theorem m93_n : xi_na 93 = 2 := by decide +kernel
theorem m93_r : (xi_m 93).2.2.2.2.2.1 = some .int := by decide +kernel
theorem m94_o : (xi_m 94).1 = 6 := by decide +kernel
theorem m94_L : xi_maxL 94 = 3 := by decide +kernel
theorem m94_n : xi_na 94 = 2 := by decide +kernel
theorem m94_r : (xi_m 94).2.2.2.2.2.1 = some .int := by decide +kernel
theorem m95_o : (xi_m 95).1 = 6 := by decide +kernel
theorem m95_L : xi_maxL 95 = 3 := by decide +kernel
theorem m95_n : xi_na 95 = 2 := by decide +kernel
theorem m95_r : (xi_m 95).2.2.2.2.2.1 = some .int := by decide +kernel
theorem m96_o : (xi_m 96).1 = 6 := by decide +kernel
theorem m96_L : xi_maxL 96 = 1 := by decide +kernel
theorem m96_n : xi_na 96 = 1 := by decide +kernel
theorem m96_r : (xi_m 96).2.2.2.2.2.1 = some .boolean := by decide +kernel
theorem m97_o : (xi_m 97).1 = 6 := by decide +kernel
theorem m97_L : xi_maxL 97 = 3 := by decide +kernel
theorem m97_n : xi_na 97 = 1 := by decide +kernel
theorem m97_r : (xi_m 97).2.2.2.2.2.1 = some .int := by decide +kernel
theorem m98_o : (xi_m 98).1 = 6 := by decide +kernel
theorem m98_L : xi_maxL 98 = 2 := by decide +kernel
theorem m98_n : xi_na 98 = 1 := by decide +kernel
theorem m98_r : (xi_m 98).2.2.2.2.2.1 = some .int := by decide +kernel
theorem m99_o : (xi_m 99).1 = 6 := by decide +kernel
theorem m99_L : xi_maxL 99 = 2 := by decide +kernel
theorem m99_n : xi_na 99 = 2 := by decide +kernel
theorem m99_r : (xi_m 99).2.2.2.2.2.1 = some .boolean := by decide +kernel
theorem m100_o : (xi_m 100).1 = 6 := by decide +kernel
theorem m100_L : xi_maxL 100 = 5 := by decide +kernel
theorem m100_n : xi_na 100 = 3 := by decide +kernel
theorem m100_r : (xi_m 100).2.2.2.2.2.1 = some .int := by decide +kernel
theorem m101_o : (xi_m 101).1 = 6 := by decide +kernel
theorem m101_L : xi_maxL 101 = 3 := by decide +kernel
theorem m101_n : xi_na 101 = 1 := by decide +kernel
theorem m101_r : (xi_m 101).2.2.2.2.2.1 = some .int := by decide +kernel
theorem m102_o : (xi_m 102).1 = 6 := by decide +kernel
theorem m102_L : xi_maxL 102 = 2 := by decide +kernel
theorem m102_n : xi_na 102 = 1 := by decide +kernel
theorem m102_r : (xi_m 102).2.2.2.2.2.1 = some .int := by decide +kernel
theorem m103_o : (xi_m 103).1 = 6 := by decide +kernel
theorem m103_L : xi_maxL 103 = 3 := by decide +kernel
theorem m103_n : xi_na 103 = 1 := by decide +kernel
theorem m103_r : (xi_m 103).2.2.2.2.2.1 = some .int := by decide +kernel
theorem m104_o : (xi_m 104).1 = 6 := by decide +kernel
theorem m104_L : xi_maxL 104 = 3 := by decide +kernel
theorem m104_n : xi_na 104 = 1 := by decide +kernel
theorem m104_r : (xi_m 104).2.2.2.2.2.1 = some .int := by decide +kernel
theorem m105_o : (xi_m 105).1 = 6 := by decide +kernel
theorem m105_L : xi_maxL 105 = 9 := by decide +kernel
theorem m105_n : xi_na 105 = 4 := by decide +kernel
theorem m105_r : (xi_m 105).2.2.2.2.2.1 = some .int := by decide +kernel
theorem m106_o : (xi_m 106).1 = 6 := by decide +kernel
theorem m106_L : xi_maxL 106 = 2 := by decide +kernel
theorem m106_n : xi_na 106 = 1 := by decide +kernel
theorem m106_r : (xi_m 106).2.2.2.2.2.1 = some .int := by decide +kernel
theorem m107_o : (xi_m 107).1 = 6 := by decide +kernel
theorem m107_L : xi_maxL 107 = 2 := by decide +kernel
theorem m107_n : xi_na 107 = 1 := by decide +kernel
theorem m107_r : (xi_m 107).2.2.2.2.2.1 = some .int := by decide +kernel
theorem m108_o : (xi_m 108).1 = 6 := by decide +kernel
theorem m108_L : xi_maxL 108 = 3 := by decide +kernel
theorem m108_n : xi_na 108 = 2 := by decide +kernel
theorem m108_r : (xi_m 108).2.2.2.2.2.1 = some .int := by decide +kernel
theorem m109_o : (xi_m 109).1 = 6 := by decide +kernel
theorem m109_L : xi_maxL 109 = 1 := by decide +kernel
theorem m109_n : xi_na 109 = 1 := by decide +kernel
theorem m109_r : (xi_m 109).2.2.2.2.2.1 = some .boolean := by decide +kernel
theorem m110_o : (xi_m 110).1 = 6 := by decide +kernel
theorem m110_L : xi_maxL 110 = 3 := by decide +kernel
theorem m110_n : xi_na 110 = 1 := by decide +kernel
theorem m110_r : (xi_m 110).2.2.2.2.2.1 = some .int := by decide +kernel
theorem m111_o : (xi_m 111).1 = 6 := by decide +kernel
theorem m111_L : xi_maxL 111 = 2 := by decide +kernel
theorem m111_n : xi_na 111 = 1 := by decide +kernel
theorem m111_r : (xi_m 111).2.2.2.2.2.1 = some .int := by decide +kernel
theorem m112_o : (xi_m 112).1 = 6 := by decide +kernel
theorem m112_L : xi_maxL 112 = 3 := by decide +kernel
theorem m112_n : xi_na 112 = 1 := by decide +kernel
theorem m112_r : (xi_m 112).2.2.2.2.2.1 = some .int := by decide +kernel
theorem m113_o : (xi_m 113).1 = 6 := by decide +kernel
theorem m113_L : xi_maxL 113 = 3 := by decide +kernel
theorem m113_n : xi_na 113 = 1 := by decide +kernel
theorem m113_r : (xi_m 113).2.2.2.2.2.1 = some .int := by decide +kernel
theorem m114_o : (xi_m 114).1 = 6 := by decide +kernel
theorem m114_L : xi_maxL 114 = 3 := by decide +kernel
theorem m114_n : xi_na 114 = 1 := by decide +kernel
theorem m114_r : (xi_m 114).2.2.2.2.2.1 = some .int := by decide +kernel
theorem m115_o : (xi_m 115).1 = 6 := by decide +kernel
theorem m115_L : xi_maxL 115 = 2 := by decide +kernel
theorem m115_n : xi_na 115 = 1 := by decide +kernel
theorem m115_r : (xi_m 115).2.2.2.2.2.1 = some .int := by decide +kernel
theorem m116_o : (xi_m 116).1 = 6 := by decide +kernel
theorem m116_L : xi_maxL 116 = 1 := by decide +kernel
theorem m116_n : xi_na 116 = 0 := by decide +kernel
theorem m116_r : (xi_m 116).2.2.2.2.2.1 = some .int := by decide +kernel
theorem m117_o : (xi_m 117).1 = 6 := by decide +kernel
theorem m117_L : xi_maxL 117 = 2 := by decide +kernel
theorem m117_n : xi_na 117 = 1 := by decide +kernel
theorem m117_r : (xi_m 117).2.2.2.2.2.1 = some .int := by decide +kernel
theorem m118_o : (xi_m 118).1 = 6 := by decide +kernel
theorem m118_L : xi_maxL 118 = 1 := by decide +kernel
theorem m118_n : xi_na 118 = 1 := by decide +kernel
theorem m118_r : (xi_m 118).2.2.2.2.2.1 = some .boolean := by decide +kernel
theorem m119_o : (xi_m 119).1 = 6 := by decide +kernel
theorem m119_L : xi_maxL 119 = 2 := by decide +kernel
theorem m119_n : xi_na 119 = 1 := by decide +kernel
theorem m119_r : (xi_m 119).2.2.2.2.2.1 = some .int := by decide +kernel
theorem m120_o : (xi_m 120).1 = 6 := by decide +kernel
theorem m120_L : xi_maxL 120 = 2 := by decide +kernel
theorem m120_n : xi_na 120 = 1 := by decide +kernel
theorem m120_r : (xi_m 120).2.2.2.2.2.1 = some .int := by decide +kernel
theorem m121_o : (xi_m 121).1 = 7 := by decide +kernel
theorem m121_L : xi_maxL 121 = 2 := by decide +kernel
theorem m121_n : xi_na 121 = 0 := by decide +kernel
theorem m121_r : (xi_m 121).2.2.2.2.2.1 = none := by decide +kernel
theorem m122_o : (xi_m 122).1 = 7 := by decide +kernel
theorem m122_L : xi_maxL 122 = 2 := by decide +kernel
theorem m122_n : xi_na 122 = 0 := by decide +kernel
theorem m122_r : (xi_m 122).2.2.2.2.2.1 = none := by decide +kernel
theorem m123_o : (xi_m 123).1 = 7 := by decide +kernel
theorem m123_L : xi_maxL 123 = 4 := by decide +kernel
theorem m123_n : xi_na 123 = 2 := by decide +kernel
theorem m123_r : (xi_m 123).2.2.2.2.2.1 = none := by decide +kernel
theorem m124_o : (xi_m 124).1 = 7 := by decide +kernel
theorem m124_L : xi_maxL 124 = 1 := by decide +kernel
theorem m124_n : xi_na 124 = 0 := by decide +kernel
theorem m124_r : (xi_m 124).2.2.2.2.2.1 = none := by decide +kernel
theorem m125_o : (xi_m 125).1 = 7 := by decide +kernel
theorem m125_L : xi_maxL 125 = 2 := by decide +kernel
theorem m125_n : xi_na 125 = 0 := by decide +kernel
theorem m125_r : (xi_m 125).2.2.2.2.2.1 = none := by decide +kernel
theorem m126_o : (xi_m 126).1 = 7 := by decide +kernel
theorem m126_L : xi_maxL 126 = 1 := by decide +kernel
theorem m126_n : xi_na 126 = 0 := by decide +kernel
theorem m126_r : (xi_m 126).2.2.2.2.2.1 = some .int := by decide +kernel
theorem m127_o : (xi_m 127).1 = 7 := by decide +kernel
theorem m127_L : xi_maxL 127 = 1 := by decide +kernel
theorem m127_n : xi_na 127 = 0 := by decide +kernel
theorem m127_r : (xi_m 127).2.2.2.2.2.1 = some .int := by decide +kernel
theorem m128_o : (xi_m 128).1 = 7 := by decide +kernel
theorem m128_L : xi_maxL 128 = 3 := by decide +kernel
theorem m128_n : xi_na 128 = 1 := by decide +kernel
theorem m128_r : (xi_m 128).2.2.2.2.2.1 = some .int := by decide +kernel
theorem m129_o : (xi_m 129).1 = 7 := by decide +kernel
theorem m129_L : xi_maxL 129 = 3 := by decide +kernel
theorem m129_n : xi_na 129 = 3 := by decide +kernel
theorem m129_r : (xi_m 129).2.2.2.2.2.1 = some .boolean := by decide +kernel
theorem m130_o : (xi_m 130).1 = 7 := by decide +kernel
theorem m130_L : xi_maxL 130 = 3 := by decide +kernel
theorem m130_n : xi_na 130 = 0 := by decide +kernel
theorem m130_r : (xi_m 130).2.2.2.2.2.1 = some .int := by decide +kernel
theorem m131_o : (xi_m 131).1 = 7 := by decide +kernel
theorem m131_L : xi_maxL 131 = 2 := by decide +kernel
theorem m131_n : xi_na 131 = 1 := by decide +kernel
theorem m131_r : (xi_m 131).2.2.2.2.2.1 = some .int := by decide +kernel
theorem m132_o : (xi_m 132).1 = 7 := by decide +kernel
theorem m132_L : xi_maxL 132 = 2 := by decide +kernel
theorem m132_n : xi_na 132 = 1 := by decide +kernel
theorem m132_r : (xi_m 132).2.2.2.2.2.1 = some .int := by decide +kernel
theorem m133_o : (xi_m 133).1 = 7 := by decide +kernel
theorem m133_L : xi_maxL 133 = 2 := by decide +kernel
theorem m133_n : xi_na 133 = 1 := by decide +kernel
theorem m133_r : (xi_m 133).2.2.2.2.2.1 = some .int := by decide +kernel
theorem m134_o : (xi_m 134).1 = 7 := by decide +kernel
theorem m134_L : xi_maxL 134 = 2 := by decide +kernel
theorem m134_n : xi_na 134 = 0 := by decide +kernel
theorem m134_r : (xi_m 134).2.2.2.2.2.1 = none := by decide +kernel
theorem m135_o : (xi_m 135).1 = 7 := by decide +kernel
theorem m135_L : xi_maxL 135 = 4 := by decide +kernel
theorem m135_n : xi_na 135 = 1 := by decide +kernel
theorem m135_r : (xi_m 135).2.2.2.2.2.1 = some .int := by decide +kernel
theorem m136_o : (xi_m 136).1 = 7 := by decide +kernel
theorem m136_L : xi_maxL 136 = 8 := by decide +kernel
theorem m136_n : xi_na 136 = 5 := by decide +kernel
theorem m136_r : (xi_m 136).2.2.2.2.2.1 = some .int := by decide +kernel
theorem m137_o : (xi_m 137).1 = 7 := by decide +kernel
theorem m137_L : xi_maxL 137 = 3 := by decide +kernel
theorem m137_n : xi_na 137 = 1 := by decide +kernel
theorem m137_r : (xi_m 137).2.2.2.2.2.1 = some .int := by decide +kernel
theorem m138_o : (xi_m 138).1 = 7 := by decide +kernel
theorem m138_L : xi_maxL 138 = 1 := by decide +kernel
theorem m138_n : xi_na 138 = 0 := by decide +kernel
theorem m138_r : (xi_m 138).2.2.2.2.2.1 = none := by decide +kernel
theorem m139_o : (xi_m 139).1 = 7 := by decide +kernel
theorem m139_L : xi_maxL 139 = 2 := by decide +kernel
theorem m139_n : xi_na 139 = 1 := by decide +kernel
theorem m139_r : (xi_m 139).2.2.2.2.2.1 = some .int := by decide +kernel
theorem m140_o : (xi_m 140).1 = 7 := by decide +kernel
theorem m140_L : xi_maxL 140 = 1 := by decide +kernel
theorem m140_n : xi_na 140 = 1 := by decide +kernel
theorem m140_r : (xi_m 140).2.2.2.2.2.1 = some .boolean := by decide +kernel
theorem m141_o : (xi_m 141).1 = 7 := by decide +kernel
theorem m141_L : xi_maxL 141 = 1 := by decide +kernel
theorem m141_n : xi_na 141 = 1 := by decide +kernel
theorem m141_r : (xi_m 141).2.2.2.2.2.1 = some .boolean := by decide +kernel
theorem m142_o : (xi_m 142).1 = 7 := by decide +kernel
theorem m142_L : xi_maxL 142 = 3 := by decide +kernel
theorem m142_n : xi_na 142 = 0 := by decide +kernel
theorem m142_r : (xi_m 142).2.2.2.2.2.1 = none := by decide +kernel
theorem m143_o : (xi_m 143).1 = 7 := by decide +kernel
theorem m143_L : xi_maxL 143 = 3 := by decide +kernel
theorem m143_n : xi_na 143 = 1 := by decide +kernel
theorem m143_r : (xi_m 143).2.2.2.2.2.1 = some .boolean := by decide +kernel
theorem m144_o : (xi_m 144).1 = 7 := by decide +kernel
theorem m144_L : xi_maxL 144 = 2 := by decide +kernel
theorem m144_n : xi_na 144 = 1 := by decide +kernel
theorem m144_r : (xi_m 144).2.2.2.2.2.1 = none := by decide +kernel
theorem m145_o : (xi_m 145).1 = 7 := by decide +kernel
theorem m145_L : xi_maxL 145 = 2 := by decide +kernel
theorem m145_n : xi_na 145 = 1 := by decide +kernel
theorem m145_r : (xi_m 145).2.2.2.2.2.1 = none := by decide +kernel
theorem m146_o : (xi_m 146).1 = 7 := by decide +kernel
theorem m146_L : xi_maxL 146 = 4 := by decide +kernel
theorem m146_n : xi_na 146 = 2 := by decide +kernel
theorem m146_r : (xi_m 146).2.2.2.2.2.1 = some .int := by decide +kernel
theorem m147_o : (xi_m 147).1 = 7 := by decide +kernel
theorem m147_L : xi_maxL 147 = 1 := by decide +kernel
theorem m147_n : xi_na 147 = 0 := by decide +kernel
theorem m147_r : (xi_m 147).2.2.2.2.2.1 = some .boolean := by decide +kernel
theorem m148_o : (xi_m 148).1 = 7 := by decide +kernel
theorem m148_L : xi_maxL 148 = 1 := by decide +kernel
theorem m148_n : xi_na 148 = 0 := by decide +kernel
theorem m148_r : (xi_m 148).2.2.2.2.2.1 = some .boolean := by decide +kernel
theorem m149_o : (xi_m 149).1 = 7 := by decide +kernel
theorem m149_L : xi_maxL 149 = 5 := by decide +kernel
theorem m149_n : xi_na 149 = 0 := by decide +kernel
theorem m149_r : (xi_m 149).2.2.2.2.2.1 = none := by decide +kernel
theorem m150_o : (xi_m 150).1 = 7 := by decide +kernel
theorem m150_L : xi_maxL 150 = 1 := by decide +kernel
theorem m150_n : xi_na 150 = 0 := by decide +kernel
theorem m150_r : (xi_m 150).2.2.2.2.2.1 = some .int := by decide +kernel
theorem m151_o : (xi_m 151).1 = 7 := by decide +kernel
theorem m151_L : xi_maxL 151 = 2 := by decide +kernel
theorem m151_n : xi_na 151 = 1 := by decide +kernel
theorem m151_r : (xi_m 151).2.2.2.2.2.1 = some .int := by decide +kernel
theorem m152_o : (xi_m 152).1 = 7 := by decide +kernel
theorem m152_L : xi_maxL 152 = 1 := by decide +kernel
theorem m152_n : xi_na 152 = 0 := by decide +kernel
theorem m152_r : (xi_m 152).2.2.2.2.2.1 = some .int := by decide +kernel
theorem m153_o : (xi_m 153).1 = 7 := by decide +kernel
theorem m153_L : xi_maxL 153 = 3 := by decide +kernel
theorem m153_n : xi_na 153 = 0 := by decide +kernel
theorem m153_r : (xi_m 153).2.2.2.2.2.1 = some .int := by decide +kernel
theorem m154_o : (xi_m 154).1 = 7 := by decide +kernel
theorem m154_L : xi_maxL 154 = 3 := by decide +kernel
theorem m154_n : xi_na 154 = 0 := by decide +kernel
theorem m154_r : (xi_m 154).2.2.2.2.2.1 = some .int := by decide +kernel
theorem m155_o : (xi_m 155).1 = 7 := by decide +kernel
theorem m155_L : xi_maxL 155 = 3 := by decide +kernel
theorem m155_n : xi_na 155 = 0 := by decide +kernel
theorem m155_r : (xi_m 155).2.2.2.2.2.1 = some .int := by decide +kernel
theorem m156_o : (xi_m 156).1 = 7 := by decide +kernel
theorem m156_L : xi_maxL 156 = 4 := by decide +kernel
theorem m156_n : xi_na 156 = 2 := by decide +kernel
theorem m156_r : (xi_m 156).2.2.2.2.2.1 = some .int := by decide +kernel
theorem m157_o : (xi_m 157).1 = 7 := by decide +kernel
theorem m157_L : xi_maxL 157 = 2 := by decide +kernel
theorem m157_n : xi_na 157 = 1 := by decide +kernel
theorem m157_r : (xi_m 157).2.2.2.2.2.1 = some .boolean := by decide +kernel
theorem m158_o : (xi_m 158).1 = 7 := by decide +kernel
theorem m158_L : xi_maxL 158 = 1 := by decide +kernel
theorem m158_n : xi_na 158 = 1 := by decide +kernel
theorem m158_r : (xi_m 158).2.2.2.2.2.1 = some .int := by decide +kernel
theorem m159_o : (xi_m 159).1 = 7 := by decide +kernel
theorem m159_L : xi_maxL 159 = 2 := by decide +kernel
theorem m159_n : xi_na 159 = 2 := by decide +kernel
theorem m159_r : (xi_m 159).2.2.2.2.2.1 = some .int := by decide +kernel
theorem m160_o : (xi_m 160).1 = 7 := by decide +kernel
theorem m160_L : xi_maxL 160 = 3 := by decide +kernel
theorem m160_n : xi_na 160 = 1 := by decide +kernel
theorem m160_r : (xi_m 160).2.2.2.2.2.1 = some .int := by decide +kernel
theorem m161_o : (xi_m 161).1 = 7 := by decide +kernel
theorem m161_L : xi_maxL 161 = 4 := by decide +kernel
theorem m161_n : xi_na 161 = 2 := by decide +kernel
theorem m161_r : (xi_m 161).2.2.2.2.2.1 = some .int := by decide +kernel
theorem m162_o : (xi_m 162).1 = 7 := by decide +kernel
theorem m162_L : xi_maxL 162 = 3 := by decide +kernel
theorem m162_n : xi_na 162 = 2 := by decide +kernel
theorem m162_r : (xi_m 162).2.2.2.2.2.1 = some .int := by decide +kernel
theorem m163_o : (xi_m 163).1 = 7 := by decide +kernel
theorem m163_L : xi_maxL 163 = 3 := by decide +kernel
theorem m163_n : xi_na 163 = 2 := by decide +kernel
theorem m163_r : (xi_m 163).2.2.2.2.2.1 = some .int := by decide +kernel
theorem m164_o : (xi_m 164).1 = 7 := by decide +kernel
theorem m164_L : xi_maxL 164 = 1 := by decide +kernel
theorem m164_n : xi_na 164 = 1 := by decide +kernel
theorem m164_r : (xi_m 164).2.2.2.2.2.1 = some .boolean := by decide +kernel
theorem m165_o : (xi_m 165).1 = 7 := by decide +kernel
theorem m165_L : xi_maxL 165 = 4 := by decide +kernel
theorem m165_n : xi_na 165 = 1 := by decide +kernel
theorem m165_r : (xi_m 165).2.2.2.2.2.1 = some .int := by decide +kernel
theorem m166_o : (xi_m 166).1 = 7 := by decide +kernel
theorem m166_L : xi_maxL 166 = 4 := by decide +kernel
theorem m166_n : xi_na 166 = 1 := by decide +kernel
theorem m166_r : (xi_m 166).2.2.2.2.2.1 = some .int := by decide +kernel
theorem m167_o : (xi_m 167).1 = 7 := by decide +kernel
theorem m167_L : xi_maxL 167 = 6 := by decide +kernel
theorem m167_n : xi_na 167 = 1 := by decide +kernel
theorem m167_r : (xi_m 167).2.2.2.2.2.1 = some .int := by decide +kernel
theorem m168_o : (xi_m 168).1 = 7 := by decide +kernel
theorem m168_L : xi_maxL 168 = 2 := by decide +kernel
theorem m168_n : xi_na 168 = 1 := by decide +kernel
theorem m168_r : (xi_m 168).2.2.2.2.2.1 = some .int := by decide +kernel
theorem m169_o : (xi_m 169).1 = 7 := by decide +kernel
theorem m169_L : xi_maxL 169 = 4 := by decide +kernel
theorem m169_n : xi_na 169 = 1 := by decide +kernel
theorem m169_r : (xi_m 169).2.2.2.2.2.1 = some .int := by decide +kernel
theorem m170_o : (xi_m 170).1 = 7 := by decide +kernel
theorem m170_L : xi_maxL 170 = 2 := by decide +kernel
theorem m170_n : xi_na 170 = 1 := by decide +kernel
theorem m170_r : (xi_m 170).2.2.2.2.2.1 = some .int := by decide +kernel
theorem m171_o : (xi_m 171).1 = 7 := by decide +kernel
theorem m171_L : xi_maxL 171 = 2 := by decide +kernel
theorem m171_n : xi_na 171 = 1 := by decide +kernel
theorem m171_r : (xi_m 171).2.2.2.2.2.1 = some .boolean := by decide +kernel
theorem m172_o : (xi_m 172).1 = 7 := by decide +kernel
theorem m172_L : xi_maxL 172 = 2 := by decide +kernel
theorem m172_n : xi_na 172 = 1 := by decide +kernel
theorem m172_r : (xi_m 172).2.2.2.2.2.1 = some .boolean := by decide +kernel
theorem m173_o : (xi_m 173).1 = 7 := by decide +kernel
theorem m173_L : xi_maxL 173 = 4 := by decide +kernel
theorem m173_n : xi_na 173 = 1 := by decide +kernel
theorem m173_r : (xi_m 173).2.2.2.2.2.1 = some .int := by decide +kernel
theorem m174_o : (xi_m 174).1 = 7 := by decide +kernel
theorem m174_L : xi_maxL 174 = 6 := by decide +kernel
theorem m174_n : xi_na 174 = 1 := by decide +kernel
theorem m174_r : (xi_m 174).2.2.2.2.2.1 = some .int := by decide +kernel
theorem m175_o : (xi_m 175).1 = 7 := by decide +kernel
theorem m175_L : xi_maxL 175 = 1 := by decide +kernel
theorem m175_n : xi_na 175 = 1 := by decide +kernel
theorem m175_r : (xi_m 175).2.2.2.2.2.1 = some .int := by decide +kernel
theorem m176_o : (xi_m 176).1 = 7 := by decide +kernel
theorem m176_L : xi_maxL 176 = 6 := by decide +kernel
theorem m176_n : xi_na 176 = 1 := by decide +kernel
theorem m176_r : (xi_m 176).2.2.2.2.2.1 = none := by decide +kernel
theorem m177_o : (xi_m 177).1 = 7 := by decide +kernel
theorem m177_L : xi_maxL 177 = 7 := by decide +kernel
theorem m177_n : xi_na 177 = 4 := by decide +kernel
theorem m177_r : (xi_m 177).2.2.2.2.2.1 = none := by decide +kernel
theorem m178_o : (xi_m 178).1 = 7 := by decide +kernel
theorem m178_L : xi_maxL 178 = 3 := by decide +kernel
theorem m178_n : xi_na 178 = 0 := by decide +kernel
theorem m178_r : (xi_m 178).2.2.2.2.2.1 = none := by decide +kernel
theorem m179_o : (xi_m 179).1 = 7 := by decide +kernel
theorem m179_L : xi_maxL 179 = 4 := by decide +kernel
theorem m179_n : xi_na 179 = 3 := by decide +kernel
theorem m179_r : (xi_m 179).2.2.2.2.2.1 = some .int := by decide +kernel
theorem m180_o : (xi_m 180).1 = 7 := by decide +kernel
theorem m180_L : xi_maxL 180 = 7 := by decide +kernel
theorem m180_n : xi_na 180 = 1 := by decide +kernel
theorem m180_r : (xi_m 180).2.2.2.2.2.1 = some .int := by decide +kernel
theorem m181_o : (xi_m 181).1 = 7 := by decide +kernel
theorem m181_L : xi_maxL 181 = 4 := by decide +kernel
theorem m181_n : xi_na 181 = 0 := by decide +kernel
theorem m181_r : (xi_m 181).2.2.2.2.2.1 = none := by decide +kernel
theorem m182_o : (xi_m 182).1 = 7 := by decide +kernel
theorem m182_L : xi_maxL 182 = 3 := by decide +kernel
theorem m182_n : xi_na 182 = 0 := by decide +kernel
theorem m182_r : (xi_m 182).2.2.2.2.2.1 = none := by decide +kernel
theorem m183_o : (xi_m 183).1 = 7 := by decide +kernel
theorem m183_L : xi_maxL 183 = 4 := by decide +kernel
theorem m183_n : xi_na 183 = 0 := by decide +kernel
theorem m183_r : (xi_m 183).2.2.2.2.2.1 = some .boolean := by decide +kernel
theorem m184_o : (xi_m 184).1 = 7 := by decide +kernel
theorem m184_L : xi_maxL 184 = 4 := by decide +kernel
theorem m184_n : xi_na 184 = 3 := by decide +kernel
theorem m184_r : (xi_m 184).2.2.2.2.2.1 = some .int := by decide +kernel
theorem m185_o : (xi_m 185).1 = 7 := by decide +kernel
theorem m185_L : xi_maxL 185 = 2 := by decide +kernel
theorem m185_n : xi_na 185 = 1 := by decide +kernel
theorem m185_r : (xi_m 185).2.2.2.2.2.1 = none := by decide +kernel
theorem m186_o : (xi_m 186).1 = 7 := by decide +kernel
theorem m186_L : xi_maxL 186 = 2 := by decide +kernel
theorem m186_n : xi_na 186 = 1 := by decide +kernel
theorem m186_r : (xi_m 186).2.2.2.2.2.1 = some .int := by decide +kernel
theorem m187_o : (xi_m 187).1 = 7 := by decide +kernel
theorem m187_L : xi_maxL 187 = 3 := by decide +kernel
theorem m187_n : xi_na 187 = 1 := by decide +kernel
theorem m187_r : (xi_m 187).2.2.2.2.2.1 = some .int := by decide +kernel
theorem m188_o : (xi_m 188).1 = 7 := by decide +kernel
theorem m188_L : xi_maxL 188 = 1 := by decide +kernel
theorem m188_n : xi_na 188 = 0 := by decide +kernel
theorem m188_r : (xi_m 188).2.2.2.2.2.1 = some .int := by decide +kernel
theorem m189_o : (xi_m 189).1 = 7 := by decide +kernel
theorem m189_L : xi_maxL 189 = 3 := by decide +kernel
theorem m189_n : xi_na 189 = 0 := by decide +kernel
theorem m189_r : (xi_m 189).2.2.2.2.2.1 = some .int := by decide +kernel
theorem m190_o : (xi_m 190).1 = 7 := by decide +kernel
theorem m190_L : xi_maxL 190 = 3 := by decide +kernel
theorem m190_n : xi_na 190 = 1 := by decide +kernel
theorem m190_r : (xi_m 190).2.2.2.2.2.1 = some .int := by decide +kernel
theorem m191_o : (xi_m 191).1 = 7 := by decide +kernel
theorem m191_L : xi_maxL 191 = 4 := by decide +kernel
theorem m191_n : xi_na 191 = 1 := by decide +kernel
theorem m191_r : (xi_m 191).2.2.2.2.2.1 = some .int := by decide +kernel
theorem m192_o : (xi_m 192).1 = 7 := by decide +kernel
theorem m192_L : xi_maxL 192 = 9 := by decide +kernel
theorem m192_n : xi_na 192 = 4 := by decide +kernel
theorem m192_r : (xi_m 192).2.2.2.2.2.1 = some .int := by decide +kernel
theorem m193_o : (xi_m 193).1 = 7 := by decide +kernel
theorem m193_L : xi_maxL 193 = 6 := by decide +kernel
theorem m193_n : xi_na 193 = 1 := by decide +kernel
theorem m193_r : (xi_m 193).2.2.2.2.2.1 = some .int := by decide +kernel
theorem m194_o : (xi_m 194).1 = 7 := by decide +kernel
theorem m194_L : xi_maxL 194 = 4 := by decide +kernel
theorem m194_n : xi_na 194 = 1 := by decide +kernel
theorem m194_r : (xi_m 194).2.2.2.2.2.1 = some .int := by decide +kernel
theorem m195_o : (xi_m 195).1 = 7 := by decide +kernel
theorem m195_L : xi_maxL 195 = 2 := by decide +kernel
theorem m195_n : xi_na 195 = 2 := by decide +kernel
theorem m195_r : (xi_m 195).2.2.2.2.2.1 = some .int := by decide +kernel
theorem m196_o : (xi_m 196).1 = 7 := by decide +kernel
theorem m196_L : xi_maxL 196 = 3 := by decide +kernel
theorem m196_n : xi_na 196 = 2 := by decide +kernel
theorem m196_r : (xi_m 196).2.2.2.2.2.1 = some .int := by decide +kernel
theorem m197_o : (xi_m 197).1 = 7 := by decide +kernel
theorem m197_L : xi_maxL 197 = 5 := by decide +kernel
theorem m197_n : xi_na 197 = 2 := by decide +kernel
theorem m197_r : (xi_m 197).2.2.2.2.2.1 = some .int := by decide +kernel
theorem m198_o : (xi_m 198).1 = 7 := by decide +kernel
theorem m198_L : xi_maxL 198 = 7 := by decide +kernel
theorem m198_n : xi_na 198 = 1 := by decide +kernel
theorem m198_r : (xi_m 198).2.2.2.2.2.1 = some .int := by decide +kernel
theorem m199_o : (xi_m 199).1 = 7 := by decide +kernel
theorem m199_L : xi_maxL 199 = 2 := by decide +kernel
theorem m199_n : xi_na 199 = 1 := by decide +kernel
theorem m199_r : (xi_m 199).2.2.2.2.2.1 = some .int := by decide +kernel
theorem m200_o : (xi_m 200).1 = 7 := by decide +kernel
theorem m200_L : xi_maxL 200 = 6 := by decide +kernel
theorem m200_n : xi_na 200 = 1 := by decide +kernel
theorem m200_r : (xi_m 200).2.2.2.2.2.1 = some .int := by decide +kernel
theorem m201_o : (xi_m 201).1 = 7 := by decide +kernel
theorem m201_L : xi_maxL 201 = 3 := by decide +kernel
theorem m201_n : xi_na 201 = 1 := by decide +kernel
theorem m201_r : (xi_m 201).2.2.2.2.2.1 = some .int := by decide +kernel
theorem m202_o : (xi_m 202).1 = 7 := by decide +kernel
theorem m202_L : xi_maxL 202 = 3 := by decide +kernel
theorem m202_n : xi_na 202 = 1 := by decide +kernel
theorem m202_r : (xi_m 202).2.2.2.2.2.1 = some .int := by decide +kernel
theorem m203_o : (xi_m 203).1 = 7 := by decide +kernel
theorem m203_L : xi_maxL 203 = 3 := by decide +kernel
theorem m203_n : xi_na 203 = 0 := by decide +kernel
theorem m203_r : (xi_m 203).2.2.2.2.2.1 = some .int := by decide +kernel
theorem m204_o : (xi_m 204).1 = 7 := by decide +kernel
theorem m204_L : xi_maxL 204 = 3 := by decide +kernel
theorem m204_n : xi_na 204 = 1 := by decide +kernel
theorem m204_r : (xi_m 204).2.2.2.2.2.1 = some .int := by decide +kernel
theorem m205_o : (xi_m 205).1 = 7 := by decide +kernel
theorem m205_L : xi_maxL 205 = 2 := by decide +kernel
theorem m205_n : xi_na 205 = 1 := by decide +kernel
theorem m205_r : (xi_m 205).2.2.2.2.2.1 = some .int := by decide +kernel
theorem m206_o : (xi_m 206).1 = 8 := by decide +kernel
theorem m206_L : xi_maxL 206 = 8 := by decide +kernel
theorem m206_n : xi_na 206 = 7 := by decide +kernel
theorem m206_r : (xi_m 206).2.2.2.2.2.1 = some .int := by decide +kernel
theorem m207_o : (xi_m 207).1 = 8 := by decide +kernel
theorem m207_L : xi_maxL 207 = 4 := by decide +kernel
theorem m207_n : xi_na 207 = 3 := by decide +kernel
theorem m207_r : (xi_m 207).2.2.2.2.2.1 = some .int := by decide +kernel
theorem m208_o : (xi_m 208).1 = 8 := by decide +kernel
theorem m208_L : xi_maxL 208 = 4 := by decide +kernel
theorem m208_n : xi_na 208 = 3 := by decide +kernel
theorem m208_r : (xi_m 208).2.2.2.2.2.1 = some .int := by decide +kernel
theorem m209_o : (xi_m 209).1 = 8 := by decide +kernel
theorem m209_L : xi_maxL 209 = 5 := by decide +kernel
theorem m209_n : xi_na 209 = 4 := by decide +kernel
theorem m209_r : (xi_m 209).2.2.2.2.2.1 = some .int := by decide +kernel
theorem m210_o : (xi_m 210).1 = 8 := by decide +kernel
theorem m210_L : xi_maxL 210 = 5 := by decide +kernel
theorem m210_n : xi_na 210 = 4 := by decide +kernel
theorem m210_r : (xi_m 210).2.2.2.2.2.1 = some .int := by decide +kernel
theorem m211_o : (xi_m 211).1 = 8 := by decide +kernel
theorem m211_L : xi_maxL 211 = 5 := by decide +kernel
theorem m211_n : xi_na 211 = 4 := by decide +kernel
theorem m211_r : (xi_m 211).2.2.2.2.2.1 = some .int := by decide +kernel
theorem m212_o : (xi_m 212).1 = 8 := by decide +kernel
theorem m212_L : xi_maxL 212 = 4 := by decide +kernel
theorem m212_n : xi_na 212 = 3 := by decide +kernel
theorem m212_r : (xi_m 212).2.2.2.2.2.1 = some .int := by decide +kernel
theorem m213_o : (xi_m 213).1 = 8 := by decide +kernel
theorem m213_L : xi_maxL 213 = 4 := by decide +kernel
theorem m213_n : xi_na 213 = 3 := by decide +kernel
theorem m213_r : (xi_m 213).2.2.2.2.2.1 = some .int := by decide +kernel
theorem m214_o : (xi_m 214).1 = 8 := by decide +kernel
theorem m214_L : xi_maxL 214 = 6 := by decide +kernel
theorem m214_n : xi_na 214 = 5 := by decide +kernel
theorem m214_r : (xi_m 214).2.2.2.2.2.1 = some .int := by decide +kernel
theorem m215_o : (xi_m 215).1 = 8 := by decide +kernel
theorem m215_L : xi_maxL 215 = 4 := by decide +kernel
theorem m215_n : xi_na 215 = 3 := by decide +kernel
theorem m215_r : (xi_m 215).2.2.2.2.2.1 = some .int := by decide +kernel
theorem m216_o : (xi_m 216).1 = 8 := by decide +kernel
theorem m216_L : xi_maxL 216 = 4 := by decide +kernel
theorem m216_n : xi_na 216 = 3 := by decide +kernel
theorem m216_r : (xi_m 216).2.2.2.2.2.1 = some .int := by decide +kernel
theorem m217_o : (xi_m 217).1 = 8 := by decide +kernel
theorem m217_L : xi_maxL 217 = 4 := by decide +kernel
theorem m217_n : xi_na 217 = 3 := by decide +kernel
theorem m217_r : (xi_m 217).2.2.2.2.2.1 = some .int := by decide +kernel
theorem m218_o : (xi_m 218).1 = 8 := by decide +kernel
theorem m218_L : xi_maxL 218 = 7 := by decide +kernel
theorem m218_n : xi_na 218 = 6 := by decide +kernel
theorem m218_r : (xi_m 218).2.2.2.2.2.1 = some .int := by decide +kernel
theorem m219_o : (xi_m 219).1 = 8 := by decide +kernel
theorem m219_L : xi_maxL 219 = 4 := by decide +kernel
theorem m219_n : xi_na 219 = 3 := by decide +kernel
theorem m219_r : (xi_m 219).2.2.2.2.2.1 = some .int := by decide +kernel
theorem m220_o : (xi_m 220).1 = 8 := by decide +kernel
theorem m220_L : xi_maxL 220 = 4 := by decide +kernel
theorem m220_n : xi_na 220 = 3 := by decide +kernel
theorem m220_r : (xi_m 220).2.2.2.2.2.1 = some .int := by decide +kernel
theorem m221_o : (xi_m 221).1 = 8 := by decide +kernel
theorem m221_L : xi_maxL 221 = 5 := by decide +kernel
theorem m221_n : xi_na 221 = 4 := by decide +kernel
theorem m221_r : (xi_m 221).2.2.2.2.2.1 = some .int := by decide +kernel
theorem m222_o : (xi_m 222).1 = 8 := by decide +kernel
theorem m222_L : xi_maxL 222 = 4 := by decide +kernel
theorem m222_n : xi_na 222 = 3 := by decide +kernel
theorem m222_r : (xi_m 222).2.2.2.2.2.1 = some .int := by decide +kernel
theorem m223_o : (xi_m 223).1 = 8 := by decide +kernel
theorem m223_L : xi_maxL 223 = 4 := by decide +kernel
theorem m223_n : xi_na 223 = 3 := by decide +kernel
theorem m223_r : (xi_m 223).2.2.2.2.2.1 = some .int := by decide +kernel
theorem m224_o : (xi_m 224).1 = 8 := by decide +kernel
theorem m224_L : xi_maxL 224 = 4 := by decide +kernel
theorem m224_n : xi_na 224 = 3 := by decide +kernel
theorem m224_r : (xi_m 224).2.2.2.2.2.1 = some .int := by decide +kernel
theorem m225_o : (xi_m 225).1 = 8 := by decide +kernel
theorem m225_L : xi_maxL 225 = 4 := by decide +kernel
theorem m225_n : xi_na 225 = 3 := by decide +kernel
theorem m225_r : (xi_m 225).2.2.2.2.2.1 = some .int := by decide +kernel
theorem m226_o : (xi_m 226).1 = 8 := by decide +kernel
theorem m226_L : xi_maxL 226 = 4 := by decide +kernel
theorem m226_n : xi_na 226 = 3 := by decide +kernel
theorem m226_r : (xi_m 226).2.2.2.2.2.1 = some .int := by decide +kernel
theorem m227_o : (xi_m 227).1 = 8 := by decide +kernel
theorem m227_L : xi_maxL 227 = 4 := by decide +kernel
theorem m227_n : xi_na 227 = 3 := by decide +kernel
theorem m227_r : (xi_m 227).2.2.2.2.2.1 = some .int := by decide +kernel
theorem m228_o : (xi_m 228).1 = 8 := by decide +kernel
theorem m228_L : xi_maxL 228 = 3 := by decide +kernel
theorem m228_n : xi_na 228 = 2 := by decide +kernel
theorem m228_r : (xi_m 228).2.2.2.2.2.1 = some .int := by decide +kernel
theorem m229_o : (xi_m 229).1 = 8 := by decide +kernel
theorem m229_L : xi_maxL 229 = 4 := by decide +kernel
theorem m229_n : xi_na 229 = 3 := by decide +kernel
theorem m229_r : (xi_m 229).2.2.2.2.2.1 = some .int := by decide +kernel
theorem m230_o : (xi_m 230).1 = 8 := by decide +kernel
theorem m230_L : xi_maxL 230 = 4 := by decide +kernel
theorem m230_n : xi_na 230 = 3 := by decide +kernel
theorem m230_r : (xi_m 230).2.2.2.2.2.1 = some .int := by decide +kernel
theorem m231_o : (xi_m 231).1 = 8 := by decide +kernel
theorem m231_L : xi_maxL 231 = 4 := by decide +kernel
theorem m231_n : xi_na 231 = 3 := by decide +kernel
theorem m231_r : (xi_m 231).2.2.2.2.2.1 = some .int := by decide +kernel
theorem m232_o : (xi_m 232).1 = 9 := by decide +kernel
theorem m232_L : xi_maxL 232 = 1 := by decide +kernel
theorem m232_n : xi_na 232 = 1 := by decide +kernel
theorem m232_r : (xi_m 232).2.2.2.2.2.1 = some .int := by decide +kernel
theorem m233_o : (xi_m 233).1 = 10 := by decide +kernel
theorem m233_L : xi_maxL 233 = 1 := by decide +kernel
theorem m233_n : xi_na 233 = 0 := by decide +kernel
theorem m233_r : (xi_m 233).2.2.2.2.2.1 = some .int := by decide +kernel
theorem m234_o : (xi_m 234).1 = 10 := by decide +kernel
theorem m234_L : xi_maxL 234 = 1 := by decide +kernel
theorem m234_n : xi_na 234 = 0 := by decide +kernel
theorem m234_r : (xi_m 234).2.2.2.2.2.1 = some .byte := by decide +kernel
theorem m235_o : (xi_m 235).1 = 10 := by decide +kernel
theorem m235_L : xi_maxL 235 = 2 := by decide +kernel
theorem m235_n : xi_na 235 = 1 := by decide +kernel
theorem m235_r : (xi_m 235).2.2.2.2.2.1 = some .char := by decide +kernel
theorem m236_o : (xi_m 236).1 = 10 := by decide +kernel
theorem m236_L : xi_maxL 236 = 1 := by decide +kernel
theorem m236_n : xi_na 236 = 0 := by decide +kernel
theorem m236_r : (xi_m 236).2.2.2.2.2.1 = some .boolean := by decide +kernel
theorem m237_o : (xi_m 237).1 = 11 := by decide +kernel
theorem m237_L : xi_maxL 237 = 2 := by decide +kernel
theorem m237_n : xi_na 237 = 2 := by decide +kernel
theorem m237_r : (xi_m 237).2.2.2.2.2.1 = some .char := by decide +kernel
theorem m238_o : (xi_m 238).1 = 8 := by decide +kernel
theorem m238_L : xi_maxL 238 = 7 := by decide +kernel
theorem m238_n : xi_na 238 = 1 := by decide +kernel
theorem m238_r : (xi_m 238).2.2.2.2.2.1 = some .boolean := by decide +kernel
