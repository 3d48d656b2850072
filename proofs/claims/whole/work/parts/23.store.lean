/-! The heap behind the constructors: fourteen games of nine cells each, and the rest. Rows of numbers by game and place, keys by game, rows of numbers of the other rows, ints of the other objects' fields. -/
abbrev xS : Type := (Nat → Nat → Nat → Nat) × (Nat → Nat → Nat) × (Nat → Nat → Nat) × (Nat → Nat → Int32) × (Nat → Int64)
def i2n (x : Int32) : Nat := x.toBitVec.toNat
def l2n (x : Int64) : Nat := x.toBitVec.toNat
theorem nI_i2n (x : Int32) : nI (i2n x) = x := Int32.toBitVec_inj.mp (by show BitVec.ofNat 32 _ = _; unfold i2n; simp)
theorem lN_l2n (x : Int64) : lN (l2n x) = x := Int64.toBitVec_inj.mp (by show BitVec.ofNat 64 _ = _; unfold l2n; simp)
theorem i2n_nI {n : Nat} (h : n < 2 ^ 32) : i2n (nI n) = n := by
  show (BitVec.ofNat 32 n).toNat = n
  rw [BitVec.toNat_ofNat, Nat.mod_eq_of_lt h]
theorem l2n_lN {n : Nat} (h : n < 2 ^ 64) : l2n (lN n) = n := by
  show (BitVec.ofNat 64 n).toNat = n
  rw [BitVec.toNat_ofNat, Nat.mod_eq_of_lt h]
/-- a byte from its eight bits -/
def bI (b : Nat) : Int32 := (nI b).toInt8.toInt32
def b2n (x : Int32) : Nat := i2n x % 256
theorem bI_b2n (x : Int32) : bI (b2n x) = vp_nar .byte x := by
  show (nI (i2n x % 256)).toInt8.toInt32 = x.toInt8.toInt32
  congr 1
  apply Int8.toBitVec_inj.mp
  show (BitVec.ofNat 32 (x.toBitVec.toNat % 256)).signExtend 8 = x.toBitVec.signExtend 8
  rw [BitVec.signExtend_eq_setWidth_of_le _ (by decide), BitVec.signExtend_eq_setWidth_of_le _ (by decide)]
  apply BitVec.eq_of_toNat_eq
  rw [BitVec.toNat_setWidth, BitVec.toNat_setWidth, BitVec.toNat_ofNat]
  omega
def gB : List Nat := [101, 111, 120, 131, 140, 149, 158, 167, 176, 185, 194, 207, 217, 226]
def isG (g : Nat) : Bool := gB.contains g
def gof (id : Nat) : Nat := (gB.find? (fun g => decide (g ≤ id ∧ id < g + 9))).getD 0
theorem gof_g {g j : Nat} (h : isG g = true) (hj : j < 9) : gof (g + j) = g := by
  have key : ∀ g ∈ gB, ∀ j, j < 9 → gof (g + j) = g := by decide +kernel
  exact key g (List.contains_iff_mem.mp h) j hj
theorem isG_pos {g : Nat} (h : isG g = true) : g ≠ 0 := by
  have key : ∀ g ∈ gB, g ≠ 0 := by decide
  exact key g (List.contains_iff_mem.mp h)
theorem gof_z {id : Nat} (h : gof id ≠ 0) : isG (gof id) = true ∧ gof id ≤ id ∧ id < gof id + 9 := by
  unfold gof at h ⊢
  cases hf : gB.find? (fun g => decide (g ≤ id ∧ id < g + 9)) with
  | none => rw [hf] at h; exact absurd rfl h
  | some g =>
    have h1 := List.find?_some hf
    have h2 := List.mem_of_find?_eq_some hf
    exact ⟨List.contains_iff_mem.mpr h2, of_decide_eq_true h1⟩
def gObj (S : xS) (g j : Nat) : xi_O := match j with
  | 0 => .inr (1, [.ref (g + 1), .ref (g + 5), .ref (g + 6), .ref (g + 7), .int (nI (S.1 g 0 4)), .int (nI (S.1 g 0 5)), .int (nI (S.1 g 0 6)), .int (nI (S.1 g 0 7))])
  | 1 => .inr (4, [.ref (g + 2), .ref (g + 3), .ref (g + 4), .int (nI (S.1 g 1 3))])
  | 2 => .inl (0, 12, .inl (fun i => nI (S.1 g 2 i)))
  | 3 => .inl (0, 12, .inl (fun i => nI (S.1 g 3 i)))
  | 4 => .inl (0, 12, .inl (fun i => nI (S.1 g 4 i)))
  | 5 => .inl (0, 3, .inl (fun i => nI (S.1 g 5 i)))
  | 6 => .inl (0, 3, .inl (fun i => nI (S.1 g 6 i)))
  | 7 => .inr (3, [.ref (g + 8), .int (nI (S.1 g 7 1)), .int (nI (S.1 g 7 2))])
  | _ => .inl (3, 60, .inr (.inl (fun i => lN (S.2.1 g i))))
def oObj (S : xS) (id : Nat) : xi_O := match id with
  | 100 => .inr (6, [.ref 101, .ref 110, .ref 129, .ref 203, .ref 204, .ref 205, .ref 216, .int (S.2.2.2.1 100 7), .int (S.2.2.2.1 100 8)])
  | 110 => .inr (5, [.ref 111, .ref 120])
  | 129 => .inr (0, [.ref 130, .int (S.2.2.2.1 129 1), .int (S.2.2.2.1 129 2)])
  | 130 => .inl (4, 8, .inr (.inr (.inr (.inr fun k => if k < 8 then some (131 + 9 * k) else none))))
  | 203 => .inl (4, 2, .inr (.inr (.inr (.inr fun k => if k < 2 then some (217 + 9 * k) else none))))
  | 204 => .inl (2, 2, .inl (fun j => nI (S.2.2.1 204 j)))
  | 205 => .inr (2, [.ref 206, .int (S.2.2.2.1 205 1), .ref 207, .int (S.2.2.2.1 205 3), .int (S.2.2.2.1 205 4), .int (S.2.2.2.1 205 5), .int (S.2.2.2.1 205 6), .int (S.2.2.2.1 205 7), .int (S.2.2.2.1 205 8), .int (S.2.2.2.1 205 9)])
  | 206 => .inl (1, 300, .inl (fun j => bI (S.2.2.1 206 j)))
  | 216 => .inl (1, 10, .inl (fun j => bI (S.2.2.1 216 j)))
  | 235 => .inr (7, [.ref 236, .ref 237, .ref 238, .ref 239, .ref 240, .ref 241, .ref 242, .int (S.2.2.2.1 235 7), .int (S.2.2.2.1 235 8), .ref 243, .int (S.2.2.2.1 235 10), .int (S.2.2.2.1 235 11), .int (S.2.2.2.1 235 12), .int (S.2.2.2.1 235 13), .int (S.2.2.2.1 235 14), .int (S.2.2.2.1 235 15), .int (S.2.2.2.1 235 16), .int (S.2.2.2.1 235 17), .int (S.2.2.2.1 235 18), .ref 244, .ref 245, .int (S.2.2.2.1 235 21), .int (S.2.2.2.1 235 22), .ref 246, .int (S.2.2.2.1 235 24)])
  | 236 => .inl (0, 574, .inl (fun j => nI (S.2.2.1 236 j)))
  | 237 => .inl (0, 574, .inl (fun j => nI (S.2.2.1 237 j)))
  | 238 => .inl (0, 574, .inl (fun j => nI (S.2.2.1 238 j)))
  | 239 => .inl (0, 33, .inl (fun j => nI (S.2.2.1 239 j)))
  | 240 => .inl (0, 4592, .inl (fun j => nI (S.2.2.1 240 j)))
  | 241 => .inl (0, 1148, .inl (fun j => nI (S.2.2.1 241 j)))
  | 242 => .inl (2, 2, .inl (fun j => nI (S.2.2.1 242 j)))
  | 243 => .inl (0, 300, .inl (fun j => nI (S.2.2.1 243 j)))
  | 244 => .inl (0, 1200, .inl (fun j => nI (S.2.2.1 244 j)))
  | 245 => .inl (0, 12, .inl (fun j => nI (S.2.2.1 245 j)))
  | 246 => .inl (0, 10, .inl (fun j => nI (S.2.2.1 246 j)))
  | 247 => .inl (3, 1, .inr (.inl S.2.2.2.2))
  | _ => xi_dead
def mkH (S : xS) : Nat → xi_O := fun id => if gof id = 0 then oObj S id else gObj S (gof id) (id - gof id)
def hS (S : xS) (t : Nat × Nat × Nat) : xi_H := (mkH S, t)
theorem mkH_g {S : xS} {g : Nat} (h : isG g = true) (j : Nat) (hj : j < 9) : mkH S (g + j) = gObj S g j := by
  unfold mkH
  rw [gof_g h hj, if_neg (isG_pos h), Nat.add_sub_cancel_left]
def sF (S : xS) (g a i : Nat) (v : Nat) : xS := (fun g' a' i' => if g' = g ∧ a' = a ∧ i' = i then v else S.1 g' a' i', S.2)
def sG (S : xS) (g a : Nat) (f : Nat → Nat) : xS := (fun g' a' => if g' = g ∧ a' = a then f else S.1 g' a', S.2)
def sK (S : xS) (g i : Nat) (v : Nat) : xS := (S.1, fun g' i' => if g' = g ∧ i' = i then v else S.2.1 g' i', S.2.2)
def sKG (S : xS) (g : Nat) (f : Nat → Nat) : xS := (S.1, fun g' => if g' = g then f else S.2.1 g', S.2.2)
def sM (S : xS) (id i : Nat) (v : Nat) : xS := (S.1, S.2.1, fun id' i' => if id' = id ∧ i' = i then v else S.2.2.1 id' i', S.2.2.2)
def sMG (S : xS) (id : Nat) (f : Nat → Nat) : xS := (S.1, S.2.1, fun id' => if id' = id then f else S.2.2.1 id', S.2.2.2)
def sI (S : xS) (id i : Nat) (v : Int32) : xS := (S.1, S.2.1, S.2.2.1, fun id' i' => if id' = id ∧ i' = i then v else S.2.2.2.1 id' i', S.2.2.2.2)
def sO (S : xS) (i : Nat) (v : Int64) : xS := (S.1, S.2.1, S.2.2.1, S.2.2.2.1, fun i' => if i' = i then v else S.2.2.2.2 i')
theorem cpy_nI (f1 f2 : Nat → Nat) : (fun k => nI (va_cpy f1 f2 0 0 12 k)) = va_cpy (fun k => nI (f1 k)) (fun k => nI (f2 k)) (nI 0).toNatClampNeg (nI 0).toNatClampNeg (nI 12).toNatClampNeg := by
  rw [show (nI 0).toNatClampNeg = 0 from rfl, show (nI 12).toNatClampNeg = 12 from rfl]
  funext k
  unfold va_cpy
  by_cases h : 0 ≤ k ∧ k < 0 + 12
  · rw [if_pos h, if_pos h]
  · rw [if_neg h, if_neg h]
theorem cpy_lN (f1 f2 : Nat → Nat) : (fun k => lN (va_cpy f1 f2 0 0 60 k)) = va_cpy (fun k => lN (f1 k)) (fun k => lN (f2 k)) (nI 0).toNatClampNeg (nI 0).toNatClampNeg (nI 60).toNatClampNeg := by
  rw [show (nI 0).toNatClampNeg = 0 from rfl, show (nI 60).toNatClampNeg = 60 from rfl]
  funext k
  unfold va_cpy
  by_cases h : 0 ≤ k ∧ k < 0 + 60
  · rw [if_pos h, if_pos h]
  · rw [if_neg h, if_neg h]
theorem gObj_row {S S' : xS} {g j : Nat} (h1 : S'.1 g j = S.1 g j) (h2 : 8 ≤ j → S'.2.1 g = S.2.1 g) : gObj S' g j = gObj S g j := by
  by_cases h8 : 8 ≤ j
  · unfold gObj
    split <;> first | rw [h1] | rw [h2 h8]
  · have hj : j = 0 ∨ j = 1 ∨ j = 2 ∨ j = 3 ∨ j = 4 ∨ j = 5 ∨ j = 6 ∨ j = 7 := by omega
    rcases hj with h | h | h | h | h | h | h | h <;> subst h <;> simp only [gObj, h1]
theorem oObj_I {S S' : xS} {id : Nat} (h1 : S'.2.2.1 id = S.2.2.1 id) (h3 : S'.2.2.2.1 id = S.2.2.2.1 id) (h2 : id = 247 → S'.2.2.2.2 = S.2.2.2.2) : oObj S' id = oObj S id := by
  unfold oObj
  split <;> first | rfl | simp only [h1] | simp only [h3] | rw [h2 rfl]
theorem set_g {S S' : xS} {g j : Nat} {o : xi_O} (h : isG g = true) (hj : j < 9) (ho : gObj S' g j = o) (h1 : ∀ g' j', ¬ (g' = g ∧ j' = j) → S'.1 g' j' = S.1 g' j') (h2 : ∀ g', ¬ (g' = g ∧ j = 8) → S'.2.1 g' = S.2.1 g') (h3 : S'.2.2 = S.2.2) : xi_set (mkH S) (g + j) o = mkH S' := by
  funext id
  unfold xi_set
  by_cases hid : id = g + j
  · rw [if_pos hid, hid, mkH_g h j hj, ho]
  · rw [if_neg hid]
    unfold mkH
    by_cases hz : gof id = 0
    · rw [if_pos hz, if_pos hz]
      exact (oObj_I (by rw [h3]) (by rw [h3]) (fun _ => by rw [h3])).symm
    · rw [if_neg hz, if_neg hz]
      obtain ⟨a1, a2, a3⟩ := gof_z hz
      refine (gObj_row (h1 _ _ (fun hh => ?_)) (fun h8 => h2 _ (fun hh => ?_))).symm
      · omega
      · omega
theorem set_o {S S' : xS} {id : Nat} {o : xi_O} (h : gof id = 0) (ho : oObj S' id = o) (h1 : S'.1 = S.1) (h2 : S'.2.1 = S.2.1) (h3 : ∀ id', id' ≠ id → S'.2.2.1 id' = S.2.2.1 id') (h5 : ∀ id', id' ≠ id → S'.2.2.2.1 id' = S.2.2.2.1 id') (h4 : id ≠ 247 → S'.2.2.2.2 = S.2.2.2.2) : xi_set (mkH S) id o = mkH S' := by
  funext id'
  unfold xi_set
  by_cases hid : id' = id
  · rw [if_pos hid, hid]
    unfold mkH
    rw [if_pos h, ho]
  · rw [if_neg hid]
    unfold mkH
    by_cases hz : gof id' = 0
    · rw [if_pos hz, if_pos hz]
      exact (oObj_I (h3 _ hid) (h5 _ hid) (fun h9 => h4 (by rw [h9] at hid; exact fun z => hid z.symm))).symm
    · rw [if_neg hz, if_neg hz]
      exact (gObj_row (by rw [h1]) (fun _ => by rw [h2])).symm
section XST
variable {S : xS} {t : Nat × Nat × Nat} {g : Nat}
theorem hpT_S : hpT (hS S t) = hS S (t.1, t.2.1 + 1, t.2.2 + 6) := rfl
theorem st_g0_0 (h : isG g = true) (κ : Value → Option xi_R) : kFh (hS S t) g 1 0 κ = κ (.ref (g + 1)) := by
  show kF (mkH S g) 1 0 κ = _
  rw [show mkH S g = gObj S g 0 from (by have := mkH_g (S := S) h 0 (by decide); exact this)]
  rfl
theorem st_g0_1 (h : isG g = true) (κ : Value → Option xi_R) : kFh (hS S t) g 1 1 κ = κ (.ref (g + 5)) := by
  show kF (mkH S g) 1 1 κ = _
  rw [show mkH S g = gObj S g 0 from (by have := mkH_g (S := S) h 0 (by decide); exact this)]
  rfl
theorem st_g0_2 (h : isG g = true) (κ : Value → Option xi_R) : kFh (hS S t) g 1 2 κ = κ (.ref (g + 6)) := by
  show kF (mkH S g) 1 2 κ = _
  rw [show mkH S g = gObj S g 0 from (by have := mkH_g (S := S) h 0 (by decide); exact this)]
  rfl
theorem st_g0_3 (h : isG g = true) (κ : Value → Option xi_R) : kFh (hS S t) g 1 3 κ = κ (.ref (g + 7)) := by
  show kF (mkH S g) 1 3 κ = _
  rw [show mkH S g = gObj S g 0 from (by have := mkH_g (S := S) h 0 (by decide); exact this)]
  rfl
theorem st_g0_4 (h : isG g = true) (κ : Value → Option xi_R) : kFh (hS S t) g 1 4 κ = κ (.int (nI (S.1 g 0 4))) := by
  show kF (mkH S g) 1 4 κ = _
  rw [show mkH S g = gObj S g 0 from (by have := mkH_g (S := S) h 0 (by decide); exact this)]
  rfl
theorem st_p0_4 (h : isG g = true) (v : Int32) (κ : xi_H → Option xi_R) : kPh (hS S t) g 1 4 (.int v) κ = κ (hS (sF S g 0 4 (i2n v)) t) := by
  show kP (mkH S g) 1 4 (.int v) (fun o => κ (xi_set (mkH S) g o, t)) = _
  rw [show mkH S g = gObj S g 0 from (by have := mkH_g (S := S) h 0 (by decide); exact this)]
  show κ (xi_set (mkH S) g _, t) = κ (mkH _, t)
  rw [show xi_set (mkH S) g _ = mkH (sF S g 0 4 (i2n v)) from set_g (j := 0) h (by decide) (by simp [gObj, sF, nI_i2n]) (fun g1 j1 hh => by funext i; exact if_neg (fun z => hh ⟨z.1, z.2.1⟩)) (fun _ _ => rfl) rfl]
theorem st_g0_5 (h : isG g = true) (κ : Value → Option xi_R) : kFh (hS S t) g 1 5 κ = κ (.int (nI (S.1 g 0 5))) := by
  show kF (mkH S g) 1 5 κ = _
  rw [show mkH S g = gObj S g 0 from (by have := mkH_g (S := S) h 0 (by decide); exact this)]
  rfl
theorem st_p0_5 (h : isG g = true) (v : Int32) (κ : xi_H → Option xi_R) : kPh (hS S t) g 1 5 (.int v) κ = κ (hS (sF S g 0 5 (i2n v)) t) := by
  show kP (mkH S g) 1 5 (.int v) (fun o => κ (xi_set (mkH S) g o, t)) = _
  rw [show mkH S g = gObj S g 0 from (by have := mkH_g (S := S) h 0 (by decide); exact this)]
  show κ (xi_set (mkH S) g _, t) = κ (mkH _, t)
  rw [show xi_set (mkH S) g _ = mkH (sF S g 0 5 (i2n v)) from set_g (j := 0) h (by decide) (by simp [gObj, sF, nI_i2n]) (fun g1 j1 hh => by funext i; exact if_neg (fun z => hh ⟨z.1, z.2.1⟩)) (fun _ _ => rfl) rfl]
theorem st_g0_6 (h : isG g = true) (κ : Value → Option xi_R) : kFh (hS S t) g 1 6 κ = κ (.int (nI (S.1 g 0 6))) := by
  show kF (mkH S g) 1 6 κ = _
  rw [show mkH S g = gObj S g 0 from (by have := mkH_g (S := S) h 0 (by decide); exact this)]
  rfl
theorem st_p0_6 (h : isG g = true) (v : Int32) (κ : xi_H → Option xi_R) : kPh (hS S t) g 1 6 (.int v) κ = κ (hS (sF S g 0 6 (i2n v)) t) := by
  show kP (mkH S g) 1 6 (.int v) (fun o => κ (xi_set (mkH S) g o, t)) = _
  rw [show mkH S g = gObj S g 0 from (by have := mkH_g (S := S) h 0 (by decide); exact this)]
  show κ (xi_set (mkH S) g _, t) = κ (mkH _, t)
  rw [show xi_set (mkH S) g _ = mkH (sF S g 0 6 (i2n v)) from set_g (j := 0) h (by decide) (by simp [gObj, sF, nI_i2n]) (fun g1 j1 hh => by funext i; exact if_neg (fun z => hh ⟨z.1, z.2.1⟩)) (fun _ _ => rfl) rfl]
theorem st_g0_7 (h : isG g = true) (κ : Value → Option xi_R) : kFh (hS S t) g 1 7 κ = κ (.int (nI (S.1 g 0 7))) := by
  show kF (mkH S g) 1 7 κ = _
  rw [show mkH S g = gObj S g 0 from (by have := mkH_g (S := S) h 0 (by decide); exact this)]
  rfl
theorem st_p0_7 (h : isG g = true) (v : Int32) (κ : xi_H → Option xi_R) : kPh (hS S t) g 1 7 (.int v) κ = κ (hS (sF S g 0 7 (i2n v)) t) := by
  show kP (mkH S g) 1 7 (.int v) (fun o => κ (xi_set (mkH S) g o, t)) = _
  rw [show mkH S g = gObj S g 0 from (by have := mkH_g (S := S) h 0 (by decide); exact this)]
  show κ (xi_set (mkH S) g _, t) = κ (mkH _, t)
  rw [show xi_set (mkH S) g _ = mkH (sF S g 0 7 (i2n v)) from set_g (j := 0) h (by decide) (by simp [gObj, sF, nI_i2n]) (fun g1 j1 hh => by funext i; exact if_neg (fun z => hh ⟨z.1, z.2.1⟩)) (fun _ _ => rfl) rfl]
theorem st_v0 (h : isG g = true) (κ : Option xi_R) : kVh (hS S t) g 1 κ = κ := by
  show kV (mkH S g) 1 κ = _
  rw [show mkH S g = gObj S g 0 from (by have := mkH_g (S := S) h 0 (by decide); exact this)]
  rfl
theorem st_g1_0 (h : isG g = true) (κ : Value → Option xi_R) : kFh (hS S t) (g + 1) 4 0 κ = κ (.ref (g + 2)) := by
  show kF (mkH S (g + 1)) 4 0 κ = _
  rw [show mkH S (g + 1) = gObj S g 1 from (by have := mkH_g (S := S) h 1 (by decide); exact this)]
  rfl
theorem st_g1_1 (h : isG g = true) (κ : Value → Option xi_R) : kFh (hS S t) (g + 1) 4 1 κ = κ (.ref (g + 3)) := by
  show kF (mkH S (g + 1)) 4 1 κ = _
  rw [show mkH S (g + 1) = gObj S g 1 from (by have := mkH_g (S := S) h 1 (by decide); exact this)]
  rfl
theorem st_g1_2 (h : isG g = true) (κ : Value → Option xi_R) : kFh (hS S t) (g + 1) 4 2 κ = κ (.ref (g + 4)) := by
  show kF (mkH S (g + 1)) 4 2 κ = _
  rw [show mkH S (g + 1) = gObj S g 1 from (by have := mkH_g (S := S) h 1 (by decide); exact this)]
  rfl
theorem st_g1_3 (h : isG g = true) (κ : Value → Option xi_R) : kFh (hS S t) (g + 1) 4 3 κ = κ (.int (nI (S.1 g 1 3))) := by
  show kF (mkH S (g + 1)) 4 3 κ = _
  rw [show mkH S (g + 1) = gObj S g 1 from (by have := mkH_g (S := S) h 1 (by decide); exact this)]
  rfl
theorem st_p1_3 (h : isG g = true) (v : Int32) (κ : xi_H → Option xi_R) : kPh (hS S t) (g + 1) 4 3 (.int v) κ = κ (hS (sF S g 1 3 (i2n v)) t) := by
  show kP (mkH S (g + 1)) 4 3 (.int v) (fun o => κ (xi_set (mkH S) (g + 1) o, t)) = _
  rw [show mkH S (g + 1) = gObj S g 1 from (by have := mkH_g (S := S) h 1 (by decide); exact this)]
  show κ (xi_set (mkH S) (g + 1) _, t) = κ (mkH _, t)
  rw [show xi_set (mkH S) (g + 1) _ = mkH (sF S g 1 3 (i2n v)) from set_g (j := 1) h (by decide) (by simp [gObj, sF, nI_i2n]) (fun g1 j1 hh => by funext i; exact if_neg (fun z => hh ⟨z.1, z.2.1⟩)) (fun _ _ => rfl) rfl]
theorem st_v1 (h : isG g = true) (κ : Option xi_R) : kVh (hS S t) (g + 1) 4 κ = κ := by
  show kV (mkH S (g + 1)) 4 κ = _
  rw [show mkH S (g + 1) = gObj S g 1 from (by have := mkH_g (S := S) h 1 (by decide); exact this)]
  rfl
theorem st_g7_0 (h : isG g = true) (κ : Value → Option xi_R) : kFh (hS S t) (g + 7) 3 0 κ = κ (.ref (g + 8)) := by
  show kF (mkH S (g + 7)) 3 0 κ = _
  rw [show mkH S (g + 7) = gObj S g 7 from (by have := mkH_g (S := S) h 7 (by decide); exact this)]
  rfl
theorem st_g7_1 (h : isG g = true) (κ : Value → Option xi_R) : kFh (hS S t) (g + 7) 3 1 κ = κ (.int (nI (S.1 g 7 1))) := by
  show kF (mkH S (g + 7)) 3 1 κ = _
  rw [show mkH S (g + 7) = gObj S g 7 from (by have := mkH_g (S := S) h 7 (by decide); exact this)]
  rfl
theorem st_p7_1 (h : isG g = true) (v : Int32) (κ : xi_H → Option xi_R) : kPh (hS S t) (g + 7) 3 1 (.int v) κ = κ (hS (sF S g 7 1 (i2n v)) t) := by
  show kP (mkH S (g + 7)) 3 1 (.int v) (fun o => κ (xi_set (mkH S) (g + 7) o, t)) = _
  rw [show mkH S (g + 7) = gObj S g 7 from (by have := mkH_g (S := S) h 7 (by decide); exact this)]
  show κ (xi_set (mkH S) (g + 7) _, t) = κ (mkH _, t)
  rw [show xi_set (mkH S) (g + 7) _ = mkH (sF S g 7 1 (i2n v)) from set_g (j := 7) h (by decide) (by simp [gObj, sF, nI_i2n]) (fun g1 j1 hh => by funext i; exact if_neg (fun z => hh ⟨z.1, z.2.1⟩)) (fun _ _ => rfl) rfl]
theorem st_g7_2 (h : isG g = true) (κ : Value → Option xi_R) : kFh (hS S t) (g + 7) 3 2 κ = κ (.int (nI (S.1 g 7 2))) := by
  show kF (mkH S (g + 7)) 3 2 κ = _
  rw [show mkH S (g + 7) = gObj S g 7 from (by have := mkH_g (S := S) h 7 (by decide); exact this)]
  rfl
theorem st_p7_2 (h : isG g = true) (v : Int32) (κ : xi_H → Option xi_R) : kPh (hS S t) (g + 7) 3 2 (.int v) κ = κ (hS (sF S g 7 2 (i2n v)) t) := by
  show kP (mkH S (g + 7)) 3 2 (.int v) (fun o => κ (xi_set (mkH S) (g + 7) o, t)) = _
  rw [show mkH S (g + 7) = gObj S g 7 from (by have := mkH_g (S := S) h 7 (by decide); exact this)]
  show κ (xi_set (mkH S) (g + 7) _, t) = κ (mkH _, t)
  rw [show xi_set (mkH S) (g + 7) _ = mkH (sF S g 7 2 (i2n v)) from set_g (j := 7) h (by decide) (by simp [gObj, sF, nI_i2n]) (fun g1 j1 hh => by funext i; exact if_neg (fun z => hh ⟨z.1, z.2.1⟩)) (fun _ _ => rfl) rfl]
theorem st_v7 (h : isG g = true) (κ : Option xi_R) : kVh (hS S t) (g + 7) 3 κ = κ := by
  show kV (mkH S (g + 7)) 3 κ = _
  rw [show mkH S (g + 7) = gObj S g 7 from (by have := mkH_g (S := S) h 7 (by decide); exact this)]
  rfl
theorem st_i2 (h : isG g = true) (i : Int32) (κ : Int32 → Option xi_R) : kIh (hS S t) (g + 2) i κ = if xi_in i 12 = true then κ (nI (S.1 g 2 i.toNatClampNeg)) else none := by
  show kI (mkH S (g + 2)) i κ = _
  rw [show mkH S (g + 2) = gObj S g 2 from (by have := mkH_g (S := S) h 2 (by decide); exact this)]
  rfl
theorem st_is2 (h : isG g = true) (i v : Int32) (κ : xi_H → Option xi_R) : kIsh (hS S t) (g + 2) i v κ = if xi_in i 12 = true then κ (hS (sF S g 2 i.toNatClampNeg (i2n v)) t) else none := by
  show kIs (mkH S (g + 2)) i v (fun o => κ (xi_set (mkH S) (g + 2) o, t)) = _
  rw [show mkH S (g + 2) = gObj S g 2 from (by have := mkH_g (S := S) h 2 (by decide); exact this)]
  show (if xi_in i 12 = true then κ (xi_set (mkH S) (g + 2) _, t) else none) = (if xi_in i 12 = true then κ (mkH _, t) else none)
  rw [show xi_set (mkH S) (g + 2) _ = mkH (sF S g 2 i.toNatClampNeg (i2n v)) from set_g (j := 2) h (by decide) (by simp only [gObj, sF, true_and]; refine congrArg (fun z => (Sum.inl (0, 12, Sum.inl z) : xi_O)) ?_; funext k; unfold upd; by_cases hk : k = i.toNatClampNeg <;> simp [hk, nI_i2n]) (fun g1 j1 hh => by funext i; exact if_neg (fun z => hh ⟨z.1, z.2.1⟩)) (fun _ _ => rfl) rfl]
theorem st_i3 (h : isG g = true) (i : Int32) (κ : Int32 → Option xi_R) : kIh (hS S t) (g + 3) i κ = if xi_in i 12 = true then κ (nI (S.1 g 3 i.toNatClampNeg)) else none := by
  show kI (mkH S (g + 3)) i κ = _
  rw [show mkH S (g + 3) = gObj S g 3 from (by have := mkH_g (S := S) h 3 (by decide); exact this)]
  rfl
theorem st_is3 (h : isG g = true) (i v : Int32) (κ : xi_H → Option xi_R) : kIsh (hS S t) (g + 3) i v κ = if xi_in i 12 = true then κ (hS (sF S g 3 i.toNatClampNeg (i2n v)) t) else none := by
  show kIs (mkH S (g + 3)) i v (fun o => κ (xi_set (mkH S) (g + 3) o, t)) = _
  rw [show mkH S (g + 3) = gObj S g 3 from (by have := mkH_g (S := S) h 3 (by decide); exact this)]
  show (if xi_in i 12 = true then κ (xi_set (mkH S) (g + 3) _, t) else none) = (if xi_in i 12 = true then κ (mkH _, t) else none)
  rw [show xi_set (mkH S) (g + 3) _ = mkH (sF S g 3 i.toNatClampNeg (i2n v)) from set_g (j := 3) h (by decide) (by simp only [gObj, sF, true_and]; refine congrArg (fun z => (Sum.inl (0, 12, Sum.inl z) : xi_O)) ?_; funext k; unfold upd; by_cases hk : k = i.toNatClampNeg <;> simp [hk, nI_i2n]) (fun g1 j1 hh => by funext i; exact if_neg (fun z => hh ⟨z.1, z.2.1⟩)) (fun _ _ => rfl) rfl]
theorem st_i4 (h : isG g = true) (i : Int32) (κ : Int32 → Option xi_R) : kIh (hS S t) (g + 4) i κ = if xi_in i 12 = true then κ (nI (S.1 g 4 i.toNatClampNeg)) else none := by
  show kI (mkH S (g + 4)) i κ = _
  rw [show mkH S (g + 4) = gObj S g 4 from (by have := mkH_g (S := S) h 4 (by decide); exact this)]
  rfl
theorem st_is4 (h : isG g = true) (i v : Int32) (κ : xi_H → Option xi_R) : kIsh (hS S t) (g + 4) i v κ = if xi_in i 12 = true then κ (hS (sF S g 4 i.toNatClampNeg (i2n v)) t) else none := by
  show kIs (mkH S (g + 4)) i v (fun o => κ (xi_set (mkH S) (g + 4) o, t)) = _
  rw [show mkH S (g + 4) = gObj S g 4 from (by have := mkH_g (S := S) h 4 (by decide); exact this)]
  show (if xi_in i 12 = true then κ (xi_set (mkH S) (g + 4) _, t) else none) = (if xi_in i 12 = true then κ (mkH _, t) else none)
  rw [show xi_set (mkH S) (g + 4) _ = mkH (sF S g 4 i.toNatClampNeg (i2n v)) from set_g (j := 4) h (by decide) (by simp only [gObj, sF, true_and]; refine congrArg (fun z => (Sum.inl (0, 12, Sum.inl z) : xi_O)) ?_; funext k; unfold upd; by_cases hk : k = i.toNatClampNeg <;> simp [hk, nI_i2n]) (fun g1 j1 hh => by funext i; exact if_neg (fun z => hh ⟨z.1, z.2.1⟩)) (fun _ _ => rfl) rfl]
theorem st_i5 (h : isG g = true) (i : Int32) (κ : Int32 → Option xi_R) : kIh (hS S t) (g + 5) i κ = if xi_in i 3 = true then κ (nI (S.1 g 5 i.toNatClampNeg)) else none := by
  show kI (mkH S (g + 5)) i κ = _
  rw [show mkH S (g + 5) = gObj S g 5 from (by have := mkH_g (S := S) h 5 (by decide); exact this)]
  rfl
theorem st_is5 (h : isG g = true) (i v : Int32) (κ : xi_H → Option xi_R) : kIsh (hS S t) (g + 5) i v κ = if xi_in i 3 = true then κ (hS (sF S g 5 i.toNatClampNeg (i2n v)) t) else none := by
  show kIs (mkH S (g + 5)) i v (fun o => κ (xi_set (mkH S) (g + 5) o, t)) = _
  rw [show mkH S (g + 5) = gObj S g 5 from (by have := mkH_g (S := S) h 5 (by decide); exact this)]
  show (if xi_in i 3 = true then κ (xi_set (mkH S) (g + 5) _, t) else none) = (if xi_in i 3 = true then κ (mkH _, t) else none)
  rw [show xi_set (mkH S) (g + 5) _ = mkH (sF S g 5 i.toNatClampNeg (i2n v)) from set_g (j := 5) h (by decide) (by simp only [gObj, sF, true_and]; refine congrArg (fun z => (Sum.inl (0, 3, Sum.inl z) : xi_O)) ?_; funext k; unfold upd; by_cases hk : k = i.toNatClampNeg <;> simp [hk, nI_i2n]) (fun g1 j1 hh => by funext i; exact if_neg (fun z => hh ⟨z.1, z.2.1⟩)) (fun _ _ => rfl) rfl]
theorem st_i6 (h : isG g = true) (i : Int32) (κ : Int32 → Option xi_R) : kIh (hS S t) (g + 6) i κ = if xi_in i 3 = true then κ (nI (S.1 g 6 i.toNatClampNeg)) else none := by
  show kI (mkH S (g + 6)) i κ = _
  rw [show mkH S (g + 6) = gObj S g 6 from (by have := mkH_g (S := S) h 6 (by decide); exact this)]
  rfl
theorem st_is6 (h : isG g = true) (i v : Int32) (κ : xi_H → Option xi_R) : kIsh (hS S t) (g + 6) i v κ = if xi_in i 3 = true then κ (hS (sF S g 6 i.toNatClampNeg (i2n v)) t) else none := by
  show kIs (mkH S (g + 6)) i v (fun o => κ (xi_set (mkH S) (g + 6) o, t)) = _
  rw [show mkH S (g + 6) = gObj S g 6 from (by have := mkH_g (S := S) h 6 (by decide); exact this)]
  show (if xi_in i 3 = true then κ (xi_set (mkH S) (g + 6) _, t) else none) = (if xi_in i 3 = true then κ (mkH _, t) else none)
  rw [show xi_set (mkH S) (g + 6) _ = mkH (sF S g 6 i.toNatClampNeg (i2n v)) from set_g (j := 6) h (by decide) (by simp only [gObj, sF, true_and]; refine congrArg (fun z => (Sum.inl (0, 3, Sum.inl z) : xi_O)) ?_; funext k; unfold upd; by_cases hk : k = i.toNatClampNeg <;> simp [hk, nI_i2n]) (fun g1 j1 hh => by funext i; exact if_neg (fun z => hh ⟨z.1, z.2.1⟩)) (fun _ _ => rfl) rfl]
theorem st_l8 (h : isG g = true) (i : Int32) (κ : Int64 → Option xi_R) : kLh (hS S t) (g + 8) i κ = if xi_in i 60 = true then κ (lN (S.2.1 g i.toNatClampNeg)) else none := by
  show kL (mkH S (g + 8)) i κ = _
  rw [show mkH S (g + 8) = gObj S g 8 from (by have := mkH_g (S := S) h 8 (by decide); exact this)]
  rfl
theorem st_ls8 (h : isG g = true) (i : Int32) (v : Int64) (κ : xi_H → Option xi_R) : kLsh (hS S t) (g + 8) i v κ = if xi_in i 60 = true then κ (hS (sK S g i.toNatClampNeg (l2n v)) t) else none := by
  show kLs (mkH S (g + 8)) i v (fun o => κ (xi_set (mkH S) (g + 8) o, t)) = _
  rw [show mkH S (g + 8) = gObj S g 8 from (by have := mkH_g (S := S) h 8 (by decide); exact this)]
  show (if xi_in i 60 = true then κ (xi_set (mkH S) (g + 8) _, t) else none) = (if xi_in i 60 = true then κ (mkH _, t) else none)
  rw [show xi_set (mkH S) (g + 8) _ = mkH (sK S g i.toNatClampNeg (l2n v)) from set_g (j := 8) h (by decide) (by simp only [gObj, sK, true_and]; refine congrArg (fun z => (Sum.inl (3, 60, Sum.inr (Sum.inl z)) : xi_O)) ?_; funext k; unfold vp_updL; by_cases hk : k = i.toNatClampNeg <;> simp [hk, lN_l2n]) (fun _ _ _ => rfl) (fun g1 hh => by funext i; exact if_neg (fun z => hh ⟨z.1, rfl⟩)) rfl]
theorem st_y2 {g1 : Nat} (h1 : isG g1 = true) (h : isG g = true) (κ : xi_H → Option xi_R) : kYh (hS S t) (g1 + 2) (g + 2) (nI 0) (nI 0) (nI 12) κ = κ (hS (sG S g 2 (va_cpy (S.1 g1 2) (S.1 g 2) 0 0 12)) t) := by
  show kY (mkH S (g1 + 2)) (mkH S (g + 2)) (nI 0) (nI 0) (nI 12) (fun o => κ (xi_set (mkH S) (g + 2) o, t)) = _
  rw [show mkH S (g + 2) = gObj S g 2 from (by have := mkH_g (S := S) h 2 (by decide); exact this), show mkH S (g1 + 2) = gObj S g1 2 from mkH_g h1 2 (by decide)]
  show (if (0 ≤ nI 0 ∧ 0 ≤ nI 0 ∧ 0 ≤ nI 12) ∧ (nI 0).toNatClampNeg + (nI 12).toNatClampNeg ≤ 12 ∧ (nI 0).toNatClampNeg + (nI 12).toNatClampNeg ≤ 12 then κ (xi_set (mkH S) (g + 2) _, t) else none) = _
  rw [if_pos (by decide)]
  show κ (xi_set (mkH S) (g + 2) _, t) = κ (mkH _, t)
  rw [show xi_set (mkH S) (g + 2) _ = mkH (sG S g 2 (va_cpy (S.1 g1 2) (S.1 g 2) 0 0 12)) from set_g (j := 2) h (by decide) (by simp only [gObj, sG, and_self, if_true]; exact congrArg (fun z => (Sum.inl (0, 12, Sum.inl z) : xi_O)) (cpy_nI _ _)) (fun g2 j2 hh => if_neg hh) (fun _ _ => rfl) rfl]
theorem st_y3 {g1 : Nat} (h1 : isG g1 = true) (h : isG g = true) (κ : xi_H → Option xi_R) : kYh (hS S t) (g1 + 3) (g + 3) (nI 0) (nI 0) (nI 12) κ = κ (hS (sG S g 3 (va_cpy (S.1 g1 3) (S.1 g 3) 0 0 12)) t) := by
  show kY (mkH S (g1 + 3)) (mkH S (g + 3)) (nI 0) (nI 0) (nI 12) (fun o => κ (xi_set (mkH S) (g + 3) o, t)) = _
  rw [show mkH S (g + 3) = gObj S g 3 from (by have := mkH_g (S := S) h 3 (by decide); exact this), show mkH S (g1 + 3) = gObj S g1 3 from mkH_g h1 3 (by decide)]
  show (if (0 ≤ nI 0 ∧ 0 ≤ nI 0 ∧ 0 ≤ nI 12) ∧ (nI 0).toNatClampNeg + (nI 12).toNatClampNeg ≤ 12 ∧ (nI 0).toNatClampNeg + (nI 12).toNatClampNeg ≤ 12 then κ (xi_set (mkH S) (g + 3) _, t) else none) = _
  rw [if_pos (by decide)]
  show κ (xi_set (mkH S) (g + 3) _, t) = κ (mkH _, t)
  rw [show xi_set (mkH S) (g + 3) _ = mkH (sG S g 3 (va_cpy (S.1 g1 3) (S.1 g 3) 0 0 12)) from set_g (j := 3) h (by decide) (by simp only [gObj, sG, and_self, if_true]; exact congrArg (fun z => (Sum.inl (0, 12, Sum.inl z) : xi_O)) (cpy_nI _ _)) (fun g2 j2 hh => if_neg hh) (fun _ _ => rfl) rfl]
theorem st_y4 {g1 : Nat} (h1 : isG g1 = true) (h : isG g = true) (κ : xi_H → Option xi_R) : kYh (hS S t) (g1 + 4) (g + 4) (nI 0) (nI 0) (nI 12) κ = κ (hS (sG S g 4 (va_cpy (S.1 g1 4) (S.1 g 4) 0 0 12)) t) := by
  show kY (mkH S (g1 + 4)) (mkH S (g + 4)) (nI 0) (nI 0) (nI 12) (fun o => κ (xi_set (mkH S) (g + 4) o, t)) = _
  rw [show mkH S (g + 4) = gObj S g 4 from (by have := mkH_g (S := S) h 4 (by decide); exact this), show mkH S (g1 + 4) = gObj S g1 4 from mkH_g h1 4 (by decide)]
  show (if (0 ≤ nI 0 ∧ 0 ≤ nI 0 ∧ 0 ≤ nI 12) ∧ (nI 0).toNatClampNeg + (nI 12).toNatClampNeg ≤ 12 ∧ (nI 0).toNatClampNeg + (nI 12).toNatClampNeg ≤ 12 then κ (xi_set (mkH S) (g + 4) _, t) else none) = _
  rw [if_pos (by decide)]
  show κ (xi_set (mkH S) (g + 4) _, t) = κ (mkH _, t)
  rw [show xi_set (mkH S) (g + 4) _ = mkH (sG S g 4 (va_cpy (S.1 g1 4) (S.1 g 4) 0 0 12)) from set_g (j := 4) h (by decide) (by simp only [gObj, sG, and_self, if_true]; exact congrArg (fun z => (Sum.inl (0, 12, Sum.inl z) : xi_O)) (cpy_nI _ _)) (fun g2 j2 hh => if_neg hh) (fun _ _ => rfl) rfl]
theorem st_y8 {g1 : Nat} (h1 : isG g1 = true) (h : isG g = true) (κ : xi_H → Option xi_R) : kYh (hS S t) (g1 + 8) (g + 8) (nI 0) (nI 0) (nI 60) κ = κ (hS (sKG S g (va_cpy (S.2.1 g1) (S.2.1 g) 0 0 60)) t) := by
  show kY (mkH S (g1 + 8)) (mkH S (g + 8)) (nI 0) (nI 0) (nI 60) (fun o => κ (xi_set (mkH S) (g + 8) o, t)) = _
  rw [show mkH S (g + 8) = gObj S g 8 from (by have := mkH_g (S := S) h 8 (by decide); exact this), show mkH S (g1 + 8) = gObj S g1 8 from mkH_g h1 8 (by decide)]
  show (if (0 ≤ nI 0 ∧ 0 ≤ nI 0 ∧ 0 ≤ nI 60) ∧ (nI 0).toNatClampNeg + (nI 60).toNatClampNeg ≤ 60 ∧ (nI 0).toNatClampNeg + (nI 60).toNatClampNeg ≤ 60 then κ (xi_set (mkH S) (g + 8) _, t) else none) = _
  rw [if_pos (by decide)]
  show κ (xi_set (mkH S) (g + 8) _, t) = κ (mkH _, t)
  rw [show xi_set (mkH S) (g + 8) _ = mkH (sKG S g (va_cpy (S.2.1 g1) (S.2.1 g) 0 0 60)) from set_g (j := 8) h (by decide) (by simp only [gObj, sKG, if_true]; exact congrArg (fun z => (Sum.inl (3, 60, Sum.inr (Sum.inl z)) : xi_O)) (cpy_lN _ _)) (fun _ _ _ => rfl) (fun g2 hh => if_neg (fun z => hh ⟨z, rfl⟩)) rfl]
theorem st_o100_0 (κ : Value → Option xi_R) : kFh (hS S t) 100 6 0 κ = κ (.ref 101) := rfl
theorem st_o100_1 (κ : Value → Option xi_R) : kFh (hS S t) 100 6 1 κ = κ (.ref 110) := rfl
theorem st_o100_2 (κ : Value → Option xi_R) : kFh (hS S t) 100 6 2 κ = κ (.ref 129) := rfl
theorem st_o100_3 (κ : Value → Option xi_R) : kFh (hS S t) 100 6 3 κ = κ (.ref 203) := rfl
theorem st_o100_4 (κ : Value → Option xi_R) : kFh (hS S t) 100 6 4 κ = κ (.ref 204) := rfl
theorem st_o100_5 (κ : Value → Option xi_R) : kFh (hS S t) 100 6 5 κ = κ (.ref 205) := rfl
theorem st_o100_6 (κ : Value → Option xi_R) : kFh (hS S t) 100 6 6 κ = κ (.ref 216) := rfl
theorem st_o100_7 (κ : Value → Option xi_R) : kFh (hS S t) 100 6 7 κ = κ (.int (S.2.2.2.1 100 7)) := rfl
theorem st_q100_7 (v : Int32) (κ : xi_H → Option xi_R) : kPh (hS S t) 100 6 7 (.int v) κ = κ (hS (sI S 100 7 v) t) := by
  show κ (xi_set (mkH S) 100 _, t) = κ (mkH _, t)
  rw [show xi_set (mkH S) 100 _ = mkH (sI S 100 7 v) from set_o (by decide) (by simp [oObj, sI]) rfl rfl (fun _ _ => rfl) (fun id1 hh => by funext i1; exact if_neg (fun z => hh z.1)) (fun _ => rfl)]
theorem st_o100_8 (κ : Value → Option xi_R) : kFh (hS S t) 100 6 8 κ = κ (.int (S.2.2.2.1 100 8)) := rfl
theorem st_q100_8 (v : Int32) (κ : xi_H → Option xi_R) : kPh (hS S t) 100 6 8 (.int v) κ = κ (hS (sI S 100 8 v) t) := by
  show κ (xi_set (mkH S) 100 _, t) = κ (mkH _, t)
  rw [show xi_set (mkH S) 100 _ = mkH (sI S 100 8 v) from set_o (by decide) (by simp [oObj, sI]) rfl rfl (fun _ _ => rfl) (fun id1 hh => by funext i1; exact if_neg (fun z => hh z.1)) (fun _ => rfl)]
theorem st_w100 (κ : Option xi_R) : kVh (hS S t) 100 6 κ = κ := rfl
theorem st_o110_0 (κ : Value → Option xi_R) : kFh (hS S t) 110 5 0 κ = κ (.ref 111) := rfl
theorem st_o110_1 (κ : Value → Option xi_R) : kFh (hS S t) 110 5 1 κ = κ (.ref 120) := rfl
theorem st_w110 (κ : Option xi_R) : kVh (hS S t) 110 5 κ = κ := rfl
theorem st_o129_0 (κ : Value → Option xi_R) : kFh (hS S t) 129 0 0 κ = κ (.ref 130) := rfl
theorem st_o129_1 (κ : Value → Option xi_R) : kFh (hS S t) 129 0 1 κ = κ (.int (S.2.2.2.1 129 1)) := rfl
theorem st_q129_1 (v : Int32) (κ : xi_H → Option xi_R) : kPh (hS S t) 129 0 1 (.int v) κ = κ (hS (sI S 129 1 v) t) := by
  show κ (xi_set (mkH S) 129 _, t) = κ (mkH _, t)
  rw [show xi_set (mkH S) 129 _ = mkH (sI S 129 1 v) from set_o (by decide) (by simp [oObj, sI]) rfl rfl (fun _ _ => rfl) (fun id1 hh => by funext i1; exact if_neg (fun z => hh z.1)) (fun _ => rfl)]
theorem st_o129_2 (κ : Value → Option xi_R) : kFh (hS S t) 129 0 2 κ = κ (.int (S.2.2.2.1 129 2)) := rfl
theorem st_q129_2 (v : Int32) (κ : xi_H → Option xi_R) : kPh (hS S t) 129 0 2 (.int v) κ = κ (hS (sI S 129 2 v) t) := by
  show κ (xi_set (mkH S) 129 _, t) = κ (mkH _, t)
  rw [show xi_set (mkH S) 129 _ = mkH (sI S 129 2 v) from set_o (by decide) (by simp [oObj, sI]) rfl rfl (fun _ _ => rfl) (fun id1 hh => by funext i1; exact if_neg (fun z => hh z.1)) (fun _ => rfl)]
theorem st_w129 (κ : Option xi_R) : kVh (hS S t) 129 0 κ = κ := rfl
theorem st_o205_0 (κ : Value → Option xi_R) : kFh (hS S t) 205 2 0 κ = κ (.ref 206) := rfl
theorem st_o205_1 (κ : Value → Option xi_R) : kFh (hS S t) 205 2 1 κ = κ (.int (S.2.2.2.1 205 1)) := rfl
theorem st_q205_1 (v : Int32) (κ : xi_H → Option xi_R) : kPh (hS S t) 205 2 1 (.int v) κ = κ (hS (sI S 205 1 v) t) := by
  show κ (xi_set (mkH S) 205 _, t) = κ (mkH _, t)
  rw [show xi_set (mkH S) 205 _ = mkH (sI S 205 1 v) from set_o (by decide) (by simp [oObj, sI]) rfl rfl (fun _ _ => rfl) (fun id1 hh => by funext i1; exact if_neg (fun z => hh z.1)) (fun _ => rfl)]
theorem st_o205_2 (κ : Value → Option xi_R) : kFh (hS S t) 205 2 2 κ = κ (.ref 207) := rfl
theorem st_o205_3 (κ : Value → Option xi_R) : kFh (hS S t) 205 2 3 κ = κ (.int (S.2.2.2.1 205 3)) := rfl
theorem st_q205_3 (v : Int32) (κ : xi_H → Option xi_R) : kPh (hS S t) 205 2 3 (.int v) κ = κ (hS (sI S 205 3 v) t) := by
  show κ (xi_set (mkH S) 205 _, t) = κ (mkH _, t)
  rw [show xi_set (mkH S) 205 _ = mkH (sI S 205 3 v) from set_o (by decide) (by simp [oObj, sI]) rfl rfl (fun _ _ => rfl) (fun id1 hh => by funext i1; exact if_neg (fun z => hh z.1)) (fun _ => rfl)]
theorem st_o205_4 (κ : Value → Option xi_R) : kFh (hS S t) 205 2 4 κ = κ (.int (S.2.2.2.1 205 4)) := rfl
theorem st_q205_4 (v : Int32) (κ : xi_H → Option xi_R) : kPh (hS S t) 205 2 4 (.int v) κ = κ (hS (sI S 205 4 v) t) := by
  show κ (xi_set (mkH S) 205 _, t) = κ (mkH _, t)
  rw [show xi_set (mkH S) 205 _ = mkH (sI S 205 4 v) from set_o (by decide) (by simp [oObj, sI]) rfl rfl (fun _ _ => rfl) (fun id1 hh => by funext i1; exact if_neg (fun z => hh z.1)) (fun _ => rfl)]
theorem st_o205_5 (κ : Value → Option xi_R) : kFh (hS S t) 205 2 5 κ = κ (.int (S.2.2.2.1 205 5)) := rfl
theorem st_q205_5 (v : Int32) (κ : xi_H → Option xi_R) : kPh (hS S t) 205 2 5 (.int v) κ = κ (hS (sI S 205 5 v) t) := by
  show κ (xi_set (mkH S) 205 _, t) = κ (mkH _, t)
  rw [show xi_set (mkH S) 205 _ = mkH (sI S 205 5 v) from set_o (by decide) (by simp [oObj, sI]) rfl rfl (fun _ _ => rfl) (fun id1 hh => by funext i1; exact if_neg (fun z => hh z.1)) (fun _ => rfl)]
theorem st_o205_6 (κ : Value → Option xi_R) : kFh (hS S t) 205 2 6 κ = κ (.int (S.2.2.2.1 205 6)) := rfl
theorem st_q205_6 (v : Int32) (κ : xi_H → Option xi_R) : kPh (hS S t) 205 2 6 (.int v) κ = κ (hS (sI S 205 6 v) t) := by
  show κ (xi_set (mkH S) 205 _, t) = κ (mkH _, t)
  rw [show xi_set (mkH S) 205 _ = mkH (sI S 205 6 v) from set_o (by decide) (by simp [oObj, sI]) rfl rfl (fun _ _ => rfl) (fun id1 hh => by funext i1; exact if_neg (fun z => hh z.1)) (fun _ => rfl)]
theorem st_o205_7 (κ : Value → Option xi_R) : kFh (hS S t) 205 2 7 κ = κ (.int (S.2.2.2.1 205 7)) := rfl
theorem st_q205_7 (v : Int32) (κ : xi_H → Option xi_R) : kPh (hS S t) 205 2 7 (.int v) κ = κ (hS (sI S 205 7 v) t) := by
  show κ (xi_set (mkH S) 205 _, t) = κ (mkH _, t)
  rw [show xi_set (mkH S) 205 _ = mkH (sI S 205 7 v) from set_o (by decide) (by simp [oObj, sI]) rfl rfl (fun _ _ => rfl) (fun id1 hh => by funext i1; exact if_neg (fun z => hh z.1)) (fun _ => rfl)]
theorem st_o205_8 (κ : Value → Option xi_R) : kFh (hS S t) 205 2 8 κ = κ (.int (S.2.2.2.1 205 8)) := rfl
theorem st_q205_8 (v : Int32) (κ : xi_H → Option xi_R) : kPh (hS S t) 205 2 8 (.int v) κ = κ (hS (sI S 205 8 v) t) := by
  show κ (xi_set (mkH S) 205 _, t) = κ (mkH _, t)
  rw [show xi_set (mkH S) 205 _ = mkH (sI S 205 8 v) from set_o (by decide) (by simp [oObj, sI]) rfl rfl (fun _ _ => rfl) (fun id1 hh => by funext i1; exact if_neg (fun z => hh z.1)) (fun _ => rfl)]
theorem st_o205_9 (κ : Value → Option xi_R) : kFh (hS S t) 205 2 9 κ = κ (.int (S.2.2.2.1 205 9)) := rfl
theorem st_q205_9 (v : Int32) (κ : xi_H → Option xi_R) : kPh (hS S t) 205 2 9 (.int v) κ = κ (hS (sI S 205 9 v) t) := by
  show κ (xi_set (mkH S) 205 _, t) = κ (mkH _, t)
  rw [show xi_set (mkH S) 205 _ = mkH (sI S 205 9 v) from set_o (by decide) (by simp [oObj, sI]) rfl rfl (fun _ _ => rfl) (fun id1 hh => by funext i1; exact if_neg (fun z => hh z.1)) (fun _ => rfl)]
theorem st_w205 (κ : Option xi_R) : kVh (hS S t) 205 2 κ = κ := rfl
theorem st_o235_0 (κ : Value → Option xi_R) : kFh (hS S t) 235 7 0 κ = κ (.ref 236) := rfl
theorem st_o235_1 (κ : Value → Option xi_R) : kFh (hS S t) 235 7 1 κ = κ (.ref 237) := rfl
theorem st_o235_2 (κ : Value → Option xi_R) : kFh (hS S t) 235 7 2 κ = κ (.ref 238) := rfl
theorem st_o235_3 (κ : Value → Option xi_R) : kFh (hS S t) 235 7 3 κ = κ (.ref 239) := rfl
theorem st_o235_4 (κ : Value → Option xi_R) : kFh (hS S t) 235 7 4 κ = κ (.ref 240) := rfl
theorem st_o235_5 (κ : Value → Option xi_R) : kFh (hS S t) 235 7 5 κ = κ (.ref 241) := rfl
theorem st_o235_6 (κ : Value → Option xi_R) : kFh (hS S t) 235 7 6 κ = κ (.ref 242) := rfl
theorem st_o235_7 (κ : Value → Option xi_R) : kFh (hS S t) 235 7 7 κ = κ (.int (S.2.2.2.1 235 7)) := rfl
theorem st_q235_7 (v : Int32) (κ : xi_H → Option xi_R) : kPh (hS S t) 235 7 7 (.int v) κ = κ (hS (sI S 235 7 v) t) := by
  show κ (xi_set (mkH S) 235 _, t) = κ (mkH _, t)
  rw [show xi_set (mkH S) 235 _ = mkH (sI S 235 7 v) from set_o (by decide) (by simp [oObj, sI]) rfl rfl (fun _ _ => rfl) (fun id1 hh => by funext i1; exact if_neg (fun z => hh z.1)) (fun _ => rfl)]
theorem st_o235_8 (κ : Value → Option xi_R) : kFh (hS S t) 235 7 8 κ = κ (.int (S.2.2.2.1 235 8)) := rfl
theorem st_q235_8 (v : Int32) (κ : xi_H → Option xi_R) : kPh (hS S t) 235 7 8 (.int v) κ = κ (hS (sI S 235 8 v) t) := by
  show κ (xi_set (mkH S) 235 _, t) = κ (mkH _, t)
  rw [show xi_set (mkH S) 235 _ = mkH (sI S 235 8 v) from set_o (by decide) (by simp [oObj, sI]) rfl rfl (fun _ _ => rfl) (fun id1 hh => by funext i1; exact if_neg (fun z => hh z.1)) (fun _ => rfl)]
theorem st_o235_9 (κ : Value → Option xi_R) : kFh (hS S t) 235 7 9 κ = κ (.ref 243) := rfl
theorem st_o235_10 (κ : Value → Option xi_R) : kFh (hS S t) 235 7 10 κ = κ (.int (S.2.2.2.1 235 10)) := rfl
theorem st_q235_10 (v : Int32) (κ : xi_H → Option xi_R) : kPh (hS S t) 235 7 10 (.int v) κ = κ (hS (sI S 235 10 v) t) := by
  show κ (xi_set (mkH S) 235 _, t) = κ (mkH _, t)
  rw [show xi_set (mkH S) 235 _ = mkH (sI S 235 10 v) from set_o (by decide) (by simp [oObj, sI]) rfl rfl (fun _ _ => rfl) (fun id1 hh => by funext i1; exact if_neg (fun z => hh z.1)) (fun _ => rfl)]
theorem st_o235_11 (κ : Value → Option xi_R) : kFh (hS S t) 235 7 11 κ = κ (.int (S.2.2.2.1 235 11)) := rfl
theorem st_q235_11 (v : Int32) (κ : xi_H → Option xi_R) : kPh (hS S t) 235 7 11 (.int v) κ = κ (hS (sI S 235 11 v) t) := by
  show κ (xi_set (mkH S) 235 _, t) = κ (mkH _, t)
  rw [show xi_set (mkH S) 235 _ = mkH (sI S 235 11 v) from set_o (by decide) (by simp [oObj, sI]) rfl rfl (fun _ _ => rfl) (fun id1 hh => by funext i1; exact if_neg (fun z => hh z.1)) (fun _ => rfl)]
theorem st_o235_12 (κ : Value → Option xi_R) : kFh (hS S t) 235 7 12 κ = κ (.int (S.2.2.2.1 235 12)) := rfl
theorem st_q235_12 (v : Int32) (κ : xi_H → Option xi_R) : kPh (hS S t) 235 7 12 (.int v) κ = κ (hS (sI S 235 12 v) t) := by
  show κ (xi_set (mkH S) 235 _, t) = κ (mkH _, t)
  rw [show xi_set (mkH S) 235 _ = mkH (sI S 235 12 v) from set_o (by decide) (by simp [oObj, sI]) rfl rfl (fun _ _ => rfl) (fun id1 hh => by funext i1; exact if_neg (fun z => hh z.1)) (fun _ => rfl)]
theorem st_o235_13 (κ : Value → Option xi_R) : kFh (hS S t) 235 7 13 κ = κ (.int (S.2.2.2.1 235 13)) := rfl
theorem st_q235_13 (v : Int32) (κ : xi_H → Option xi_R) : kPh (hS S t) 235 7 13 (.int v) κ = κ (hS (sI S 235 13 v) t) := by
  show κ (xi_set (mkH S) 235 _, t) = κ (mkH _, t)
  rw [show xi_set (mkH S) 235 _ = mkH (sI S 235 13 v) from set_o (by decide) (by simp [oObj, sI]) rfl rfl (fun _ _ => rfl) (fun id1 hh => by funext i1; exact if_neg (fun z => hh z.1)) (fun _ => rfl)]
theorem st_o235_14 (κ : Value → Option xi_R) : kFh (hS S t) 235 7 14 κ = κ (.int (S.2.2.2.1 235 14)) := rfl
theorem st_q235_14 (v : Int32) (κ : xi_H → Option xi_R) : kPh (hS S t) 235 7 14 (.int v) κ = κ (hS (sI S 235 14 v) t) := by
  show κ (xi_set (mkH S) 235 _, t) = κ (mkH _, t)
  rw [show xi_set (mkH S) 235 _ = mkH (sI S 235 14 v) from set_o (by decide) (by simp [oObj, sI]) rfl rfl (fun _ _ => rfl) (fun id1 hh => by funext i1; exact if_neg (fun z => hh z.1)) (fun _ => rfl)]
theorem st_o235_15 (κ : Value → Option xi_R) : kFh (hS S t) 235 7 15 κ = κ (.int (S.2.2.2.1 235 15)) := rfl
theorem st_q235_15 (v : Int32) (κ : xi_H → Option xi_R) : kPh (hS S t) 235 7 15 (.int v) κ = κ (hS (sI S 235 15 v) t) := by
  show κ (xi_set (mkH S) 235 _, t) = κ (mkH _, t)
  rw [show xi_set (mkH S) 235 _ = mkH (sI S 235 15 v) from set_o (by decide) (by simp [oObj, sI]) rfl rfl (fun _ _ => rfl) (fun id1 hh => by funext i1; exact if_neg (fun z => hh z.1)) (fun _ => rfl)]
theorem st_o235_16 (κ : Value → Option xi_R) : kFh (hS S t) 235 7 16 κ = κ (.int (S.2.2.2.1 235 16)) := rfl
theorem st_q235_16 (v : Int32) (κ : xi_H → Option xi_R) : kPh (hS S t) 235 7 16 (.int v) κ = κ (hS (sI S 235 16 v) t) := by
  show κ (xi_set (mkH S) 235 _, t) = κ (mkH _, t)
  rw [show xi_set (mkH S) 235 _ = mkH (sI S 235 16 v) from set_o (by decide) (by simp [oObj, sI]) rfl rfl (fun _ _ => rfl) (fun id1 hh => by funext i1; exact if_neg (fun z => hh z.1)) (fun _ => rfl)]
theorem st_o235_17 (κ : Value → Option xi_R) : kFh (hS S t) 235 7 17 κ = κ (.int (S.2.2.2.1 235 17)) := rfl
theorem st_q235_17 (v : Int32) (κ : xi_H → Option xi_R) : kPh (hS S t) 235 7 17 (.int v) κ = κ (hS (sI S 235 17 v) t) := by
  show κ (xi_set (mkH S) 235 _, t) = κ (mkH _, t)
  rw [show xi_set (mkH S) 235 _ = mkH (sI S 235 17 v) from set_o (by decide) (by simp [oObj, sI]) rfl rfl (fun _ _ => rfl) (fun id1 hh => by funext i1; exact if_neg (fun z => hh z.1)) (fun _ => rfl)]
theorem st_o235_18 (κ : Value → Option xi_R) : kFh (hS S t) 235 7 18 κ = κ (.int (S.2.2.2.1 235 18)) := rfl
theorem st_q235_18 (v : Int32) (κ : xi_H → Option xi_R) : kPh (hS S t) 235 7 18 (.int v) κ = κ (hS (sI S 235 18 v) t) := by
  show κ (xi_set (mkH S) 235 _, t) = κ (mkH _, t)
  rw [show xi_set (mkH S) 235 _ = mkH (sI S 235 18 v) from set_o (by decide) (by simp [oObj, sI]) rfl rfl (fun _ _ => rfl) (fun id1 hh => by funext i1; exact if_neg (fun z => hh z.1)) (fun _ => rfl)]
theorem st_o235_19 (κ : Value → Option xi_R) : kFh (hS S t) 235 7 19 κ = κ (.ref 244) := rfl
theorem st_o235_20 (κ : Value → Option xi_R) : kFh (hS S t) 235 7 20 κ = κ (.ref 245) := rfl
theorem st_o235_21 (κ : Value → Option xi_R) : kFh (hS S t) 235 7 21 κ = κ (.int (S.2.2.2.1 235 21)) := rfl
theorem st_q235_21 (v : Int32) (κ : xi_H → Option xi_R) : kPh (hS S t) 235 7 21 (.int v) κ = κ (hS (sI S 235 21 v) t) := by
  show κ (xi_set (mkH S) 235 _, t) = κ (mkH _, t)
  rw [show xi_set (mkH S) 235 _ = mkH (sI S 235 21 v) from set_o (by decide) (by simp [oObj, sI]) rfl rfl (fun _ _ => rfl) (fun id1 hh => by funext i1; exact if_neg (fun z => hh z.1)) (fun _ => rfl)]
theorem st_o235_22 (κ : Value → Option xi_R) : kFh (hS S t) 235 7 22 κ = κ (.int (S.2.2.2.1 235 22)) := rfl
theorem st_q235_22 (v : Int32) (κ : xi_H → Option xi_R) : kPh (hS S t) 235 7 22 (.int v) κ = κ (hS (sI S 235 22 v) t) := by
  show κ (xi_set (mkH S) 235 _, t) = κ (mkH _, t)
  rw [show xi_set (mkH S) 235 _ = mkH (sI S 235 22 v) from set_o (by decide) (by simp [oObj, sI]) rfl rfl (fun _ _ => rfl) (fun id1 hh => by funext i1; exact if_neg (fun z => hh z.1)) (fun _ => rfl)]
theorem st_o235_23 (κ : Value → Option xi_R) : kFh (hS S t) 235 7 23 κ = κ (.ref 246) := rfl
theorem st_o235_24 (κ : Value → Option xi_R) : kFh (hS S t) 235 7 24 κ = κ (.int (S.2.2.2.1 235 24)) := rfl
theorem st_q235_24 (v : Int32) (κ : xi_H → Option xi_R) : kPh (hS S t) 235 7 24 (.int v) κ = κ (hS (sI S 235 24 v) t) := by
  show κ (xi_set (mkH S) 235 _, t) = κ (mkH _, t)
  rw [show xi_set (mkH S) 235 _ = mkH (sI S 235 24 v) from set_o (by decide) (by simp [oObj, sI]) rfl rfl (fun _ _ => rfl) (fun id1 hh => by funext i1; exact if_neg (fun z => hh z.1)) (fun _ => rfl)]
theorem st_w235 (κ : Option xi_R) : kVh (hS S t) 235 7 κ = κ := rfl
theorem st_a204 (i : Int32) (κ : Int32 → Option xi_R) : kBh (hS S t) 204 i κ = if xi_in i 2 = true then κ (nI (S.2.2.1 204 i.toNatClampNeg)) else none := rfl
theorem st_as204 (i v : Int32) (κ : xi_H → Option xi_R) : kBsh (hS S t) 204 i v κ = if xi_in i 2 = true then κ (hS (sM S 204 i.toNatClampNeg (i2n (vp_nar .boolean v))) t) else none := by
  show (if xi_in i 2 = true then κ (xi_set (mkH S) 204 _, t) else none) = (if xi_in i 2 = true then κ (mkH _, t) else none)
  rw [show xi_set (mkH S) 204 _ = mkH (sM S 204 i.toNatClampNeg (i2n (vp_nar .boolean v))) from set_o (by decide) (by simp only [oObj, sM, true_and]; refine congrArg (fun z => (Sum.inl (2, 2, Sum.inl z) : xi_O)) ?_; funext k; unfold upd; by_cases hk : k = i.toNatClampNeg <;> simp [hk, nI_i2n]) rfl rfl (fun id1 hh => by funext i1; exact if_neg (fun z => hh z.1)) (fun _ _ => rfl) (fun _ => rfl)]
theorem st_a206 (i : Int32) (κ : Int32 → Option xi_R) : kBh (hS S t) 206 i κ = if xi_in i 300 = true then κ (bI (S.2.2.1 206 i.toNatClampNeg)) else none := rfl
theorem st_as206 (i v : Int32) (κ : xi_H → Option xi_R) : kBsh (hS S t) 206 i v κ = if xi_in i 300 = true then κ (hS (sM S 206 i.toNatClampNeg (b2n v)) t) else none := by
  show (if xi_in i 300 = true then κ (xi_set (mkH S) 206 _, t) else none) = (if xi_in i 300 = true then κ (mkH _, t) else none)
  rw [show xi_set (mkH S) 206 _ = mkH (sM S 206 i.toNatClampNeg (b2n v)) from set_o (by decide) (by simp only [oObj, sM, true_and]; refine congrArg (fun z => (Sum.inl (1, 300, Sum.inl z) : xi_O)) ?_; funext k; unfold upd; by_cases hk : k = i.toNatClampNeg <;> simp [hk, bI_b2n]) rfl rfl (fun id1 hh => by funext i1; exact if_neg (fun z => hh z.1)) (fun _ _ => rfl) (fun _ => rfl)]
theorem st_a216 (i : Int32) (κ : Int32 → Option xi_R) : kBh (hS S t) 216 i κ = if xi_in i 10 = true then κ (bI (S.2.2.1 216 i.toNatClampNeg)) else none := rfl
theorem st_as216 (i v : Int32) (κ : xi_H → Option xi_R) : kBsh (hS S t) 216 i v κ = if xi_in i 10 = true then κ (hS (sM S 216 i.toNatClampNeg (b2n v)) t) else none := by
  show (if xi_in i 10 = true then κ (xi_set (mkH S) 216 _, t) else none) = (if xi_in i 10 = true then κ (mkH _, t) else none)
  rw [show xi_set (mkH S) 216 _ = mkH (sM S 216 i.toNatClampNeg (b2n v)) from set_o (by decide) (by simp only [oObj, sM, true_and]; refine congrArg (fun z => (Sum.inl (1, 10, Sum.inl z) : xi_O)) ?_; funext k; unfold upd; by_cases hk : k = i.toNatClampNeg <;> simp [hk, bI_b2n]) rfl rfl (fun id1 hh => by funext i1; exact if_neg (fun z => hh z.1)) (fun _ _ => rfl) (fun _ => rfl)]
theorem st_a236 (i : Int32) (κ : Int32 → Option xi_R) : kIh (hS S t) 236 i κ = if xi_in i 574 = true then κ (nI (S.2.2.1 236 i.toNatClampNeg)) else none := rfl
theorem st_as236 (i v : Int32) (κ : xi_H → Option xi_R) : kIsh (hS S t) 236 i v κ = if xi_in i 574 = true then κ (hS (sM S 236 i.toNatClampNeg (i2n v)) t) else none := by
  show (if xi_in i 574 = true then κ (xi_set (mkH S) 236 _, t) else none) = (if xi_in i 574 = true then κ (mkH _, t) else none)
  rw [show xi_set (mkH S) 236 _ = mkH (sM S 236 i.toNatClampNeg (i2n v)) from set_o (by decide) (by simp only [oObj, sM, true_and]; refine congrArg (fun z => (Sum.inl (0, 574, Sum.inl z) : xi_O)) ?_; funext k; unfold upd; by_cases hk : k = i.toNatClampNeg <;> simp [hk, nI_i2n]) rfl rfl (fun id1 hh => by funext i1; exact if_neg (fun z => hh z.1)) (fun _ _ => rfl) (fun _ => rfl)]
theorem st_a237 (i : Int32) (κ : Int32 → Option xi_R) : kIh (hS S t) 237 i κ = if xi_in i 574 = true then κ (nI (S.2.2.1 237 i.toNatClampNeg)) else none := rfl
theorem st_as237 (i v : Int32) (κ : xi_H → Option xi_R) : kIsh (hS S t) 237 i v κ = if xi_in i 574 = true then κ (hS (sM S 237 i.toNatClampNeg (i2n v)) t) else none := by
  show (if xi_in i 574 = true then κ (xi_set (mkH S) 237 _, t) else none) = (if xi_in i 574 = true then κ (mkH _, t) else none)
  rw [show xi_set (mkH S) 237 _ = mkH (sM S 237 i.toNatClampNeg (i2n v)) from set_o (by decide) (by simp only [oObj, sM, true_and]; refine congrArg (fun z => (Sum.inl (0, 574, Sum.inl z) : xi_O)) ?_; funext k; unfold upd; by_cases hk : k = i.toNatClampNeg <;> simp [hk, nI_i2n]) rfl rfl (fun id1 hh => by funext i1; exact if_neg (fun z => hh z.1)) (fun _ _ => rfl) (fun _ => rfl)]
theorem st_a238 (i : Int32) (κ : Int32 → Option xi_R) : kIh (hS S t) 238 i κ = if xi_in i 574 = true then κ (nI (S.2.2.1 238 i.toNatClampNeg)) else none := rfl
theorem st_as238 (i v : Int32) (κ : xi_H → Option xi_R) : kIsh (hS S t) 238 i v κ = if xi_in i 574 = true then κ (hS (sM S 238 i.toNatClampNeg (i2n v)) t) else none := by
  show (if xi_in i 574 = true then κ (xi_set (mkH S) 238 _, t) else none) = (if xi_in i 574 = true then κ (mkH _, t) else none)
  rw [show xi_set (mkH S) 238 _ = mkH (sM S 238 i.toNatClampNeg (i2n v)) from set_o (by decide) (by simp only [oObj, sM, true_and]; refine congrArg (fun z => (Sum.inl (0, 574, Sum.inl z) : xi_O)) ?_; funext k; unfold upd; by_cases hk : k = i.toNatClampNeg <;> simp [hk, nI_i2n]) rfl rfl (fun id1 hh => by funext i1; exact if_neg (fun z => hh z.1)) (fun _ _ => rfl) (fun _ => rfl)]
theorem st_a239 (i : Int32) (κ : Int32 → Option xi_R) : kIh (hS S t) 239 i κ = if xi_in i 33 = true then κ (nI (S.2.2.1 239 i.toNatClampNeg)) else none := rfl
theorem st_as239 (i v : Int32) (κ : xi_H → Option xi_R) : kIsh (hS S t) 239 i v κ = if xi_in i 33 = true then κ (hS (sM S 239 i.toNatClampNeg (i2n v)) t) else none := by
  show (if xi_in i 33 = true then κ (xi_set (mkH S) 239 _, t) else none) = (if xi_in i 33 = true then κ (mkH _, t) else none)
  rw [show xi_set (mkH S) 239 _ = mkH (sM S 239 i.toNatClampNeg (i2n v)) from set_o (by decide) (by simp only [oObj, sM, true_and]; refine congrArg (fun z => (Sum.inl (0, 33, Sum.inl z) : xi_O)) ?_; funext k; unfold upd; by_cases hk : k = i.toNatClampNeg <;> simp [hk, nI_i2n]) rfl rfl (fun id1 hh => by funext i1; exact if_neg (fun z => hh z.1)) (fun _ _ => rfl) (fun _ => rfl)]
theorem st_a240 (i : Int32) (κ : Int32 → Option xi_R) : kIh (hS S t) 240 i κ = if xi_in i 4592 = true then κ (nI (S.2.2.1 240 i.toNatClampNeg)) else none := rfl
theorem st_as240 (i v : Int32) (κ : xi_H → Option xi_R) : kIsh (hS S t) 240 i v κ = if xi_in i 4592 = true then κ (hS (sM S 240 i.toNatClampNeg (i2n v)) t) else none := by
  show (if xi_in i 4592 = true then κ (xi_set (mkH S) 240 _, t) else none) = (if xi_in i 4592 = true then κ (mkH _, t) else none)
  rw [show xi_set (mkH S) 240 _ = mkH (sM S 240 i.toNatClampNeg (i2n v)) from set_o (by decide) (by simp only [oObj, sM, true_and]; refine congrArg (fun z => (Sum.inl (0, 4592, Sum.inl z) : xi_O)) ?_; funext k; unfold upd; by_cases hk : k = i.toNatClampNeg <;> simp [hk, nI_i2n]) rfl rfl (fun id1 hh => by funext i1; exact if_neg (fun z => hh z.1)) (fun _ _ => rfl) (fun _ => rfl)]
theorem st_a241 (i : Int32) (κ : Int32 → Option xi_R) : kIh (hS S t) 241 i κ = if xi_in i 1148 = true then κ (nI (S.2.2.1 241 i.toNatClampNeg)) else none := rfl
theorem st_as241 (i v : Int32) (κ : xi_H → Option xi_R) : kIsh (hS S t) 241 i v κ = if xi_in i 1148 = true then κ (hS (sM S 241 i.toNatClampNeg (i2n v)) t) else none := by
  show (if xi_in i 1148 = true then κ (xi_set (mkH S) 241 _, t) else none) = (if xi_in i 1148 = true then κ (mkH _, t) else none)
  rw [show xi_set (mkH S) 241 _ = mkH (sM S 241 i.toNatClampNeg (i2n v)) from set_o (by decide) (by simp only [oObj, sM, true_and]; refine congrArg (fun z => (Sum.inl (0, 1148, Sum.inl z) : xi_O)) ?_; funext k; unfold upd; by_cases hk : k = i.toNatClampNeg <;> simp [hk, nI_i2n]) rfl rfl (fun id1 hh => by funext i1; exact if_neg (fun z => hh z.1)) (fun _ _ => rfl) (fun _ => rfl)]
theorem st_a242 (i : Int32) (κ : Int32 → Option xi_R) : kBh (hS S t) 242 i κ = if xi_in i 2 = true then κ (nI (S.2.2.1 242 i.toNatClampNeg)) else none := rfl
theorem st_as242 (i v : Int32) (κ : xi_H → Option xi_R) : kBsh (hS S t) 242 i v κ = if xi_in i 2 = true then κ (hS (sM S 242 i.toNatClampNeg (i2n (vp_nar .boolean v))) t) else none := by
  show (if xi_in i 2 = true then κ (xi_set (mkH S) 242 _, t) else none) = (if xi_in i 2 = true then κ (mkH _, t) else none)
  rw [show xi_set (mkH S) 242 _ = mkH (sM S 242 i.toNatClampNeg (i2n (vp_nar .boolean v))) from set_o (by decide) (by simp only [oObj, sM, true_and]; refine congrArg (fun z => (Sum.inl (2, 2, Sum.inl z) : xi_O)) ?_; funext k; unfold upd; by_cases hk : k = i.toNatClampNeg <;> simp [hk, nI_i2n]) rfl rfl (fun id1 hh => by funext i1; exact if_neg (fun z => hh z.1)) (fun _ _ => rfl) (fun _ => rfl)]
theorem st_a243 (i : Int32) (κ : Int32 → Option xi_R) : kIh (hS S t) 243 i κ = if xi_in i 300 = true then κ (nI (S.2.2.1 243 i.toNatClampNeg)) else none := rfl
theorem st_as243 (i v : Int32) (κ : xi_H → Option xi_R) : kIsh (hS S t) 243 i v κ = if xi_in i 300 = true then κ (hS (sM S 243 i.toNatClampNeg (i2n v)) t) else none := by
  show (if xi_in i 300 = true then κ (xi_set (mkH S) 243 _, t) else none) = (if xi_in i 300 = true then κ (mkH _, t) else none)
  rw [show xi_set (mkH S) 243 _ = mkH (sM S 243 i.toNatClampNeg (i2n v)) from set_o (by decide) (by simp only [oObj, sM, true_and]; refine congrArg (fun z => (Sum.inl (0, 300, Sum.inl z) : xi_O)) ?_; funext k; unfold upd; by_cases hk : k = i.toNatClampNeg <;> simp [hk, nI_i2n]) rfl rfl (fun id1 hh => by funext i1; exact if_neg (fun z => hh z.1)) (fun _ _ => rfl) (fun _ => rfl)]
theorem st_a244 (i : Int32) (κ : Int32 → Option xi_R) : kIh (hS S t) 244 i κ = if xi_in i 1200 = true then κ (nI (S.2.2.1 244 i.toNatClampNeg)) else none := rfl
theorem st_as244 (i v : Int32) (κ : xi_H → Option xi_R) : kIsh (hS S t) 244 i v κ = if xi_in i 1200 = true then κ (hS (sM S 244 i.toNatClampNeg (i2n v)) t) else none := by
  show (if xi_in i 1200 = true then κ (xi_set (mkH S) 244 _, t) else none) = (if xi_in i 1200 = true then κ (mkH _, t) else none)
  rw [show xi_set (mkH S) 244 _ = mkH (sM S 244 i.toNatClampNeg (i2n v)) from set_o (by decide) (by simp only [oObj, sM, true_and]; refine congrArg (fun z => (Sum.inl (0, 1200, Sum.inl z) : xi_O)) ?_; funext k; unfold upd; by_cases hk : k = i.toNatClampNeg <;> simp [hk, nI_i2n]) rfl rfl (fun id1 hh => by funext i1; exact if_neg (fun z => hh z.1)) (fun _ _ => rfl) (fun _ => rfl)]
theorem st_a245 (i : Int32) (κ : Int32 → Option xi_R) : kIh (hS S t) 245 i κ = if xi_in i 12 = true then κ (nI (S.2.2.1 245 i.toNatClampNeg)) else none := rfl
theorem st_as245 (i v : Int32) (κ : xi_H → Option xi_R) : kIsh (hS S t) 245 i v κ = if xi_in i 12 = true then κ (hS (sM S 245 i.toNatClampNeg (i2n v)) t) else none := by
  show (if xi_in i 12 = true then κ (xi_set (mkH S) 245 _, t) else none) = (if xi_in i 12 = true then κ (mkH _, t) else none)
  rw [show xi_set (mkH S) 245 _ = mkH (sM S 245 i.toNatClampNeg (i2n v)) from set_o (by decide) (by simp only [oObj, sM, true_and]; refine congrArg (fun z => (Sum.inl (0, 12, Sum.inl z) : xi_O)) ?_; funext k; unfold upd; by_cases hk : k = i.toNatClampNeg <;> simp [hk, nI_i2n]) rfl rfl (fun id1 hh => by funext i1; exact if_neg (fun z => hh z.1)) (fun _ _ => rfl) (fun _ => rfl)]
theorem st_a246 (i : Int32) (κ : Int32 → Option xi_R) : kIh (hS S t) 246 i κ = if xi_in i 10 = true then κ (nI (S.2.2.1 246 i.toNatClampNeg)) else none := rfl
theorem st_as246 (i v : Int32) (κ : xi_H → Option xi_R) : kIsh (hS S t) 246 i v κ = if xi_in i 10 = true then κ (hS (sM S 246 i.toNatClampNeg (i2n v)) t) else none := by
  show (if xi_in i 10 = true then κ (xi_set (mkH S) 246 _, t) else none) = (if xi_in i 10 = true then κ (mkH _, t) else none)
  rw [show xi_set (mkH S) 246 _ = mkH (sM S 246 i.toNatClampNeg (i2n v)) from set_o (by decide) (by simp only [oObj, sM, true_and]; refine congrArg (fun z => (Sum.inl (0, 10, Sum.inl z) : xi_O)) ?_; funext k; unfold upd; by_cases hk : k = i.toNatClampNeg <;> simp [hk, nI_i2n]) rfl rfl (fun id1 hh => by funext i1; exact if_neg (fun z => hh z.1)) (fun _ _ => rfl) (fun _ => rfl)]
theorem st_r130 {k : Nat} (hk : k < 8) (κ : Nat → Option xi_R) : kAh (hS S t) 130 (nI k) κ = κ (131 + 9 * k) := by
  have hi : xi_in (nI k) 8 = true := by
    unfold xi_in
    rw [decide_eq_true_eq, nI_toInt (by omega)]
    omega
  show (if xi_in (nI k) 8 = true then (match (if (nI k).toNatClampNeg < 8 then some (131 + 9 * (nI k).toNatClampNeg) else none) with | some r => κ r | none => none) else none) = _
  rw [if_pos hi, nI_clamp (by omega), if_pos hk]
theorem st_r203 {k : Nat} (hk : k < 2) (κ : Nat → Option xi_R) : kAh (hS S t) 203 (nI k) κ = κ (217 + 9 * k) := by
  have hi : xi_in (nI k) 2 = true := by
    unfold xi_in
    rw [decide_eq_true_eq, nI_toInt (by omega)]
    omega
  show (if xi_in (nI k) 2 = true then (match (if (nI k).toNatClampNeg < 2 then some (217 + 9 * (nI k).toNatClampNeg) else none) with | some r => κ r | none => none) else none) = _
  rw [if_pos hi, nI_clamp (by omega), if_pos hk]
end XST
