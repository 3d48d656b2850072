section XOV
variable {xs : Nat → Int32} {L : Nat} {hp : xi_H} {O : Nat → Option xi_O} {a c k : Nat} {o : xi_O}
/-- a heap under an overlay: what the overlay has hides what the heap has -/
def ov (O : Nat → Option xi_O) (hp : xi_H) : xi_H := (fun id => (O id).getD (hp.1 id), hp.2)
def upO (O : Nat → Option xi_O) (a : Nat) (x : Option xi_O) : Nat → Option xi_O := fun id => if id = a then x else O id
theorem ov_n (h : O a = none) : (ov O hp).1 a = hp.1 a := by
  show (O a).getD (hp.1 a) = hp.1 a
  rw [h]
  rfl
theorem ov_s (h : O a = some o) : (ov O hp).1 a = o := by
  show (O a).getD (hp.1 a) = o
  rw [h]
  rfl
theorem ov_set (h : O a = none) : (xi_set (ov O hp).1 a o, (ov O hp).2) = ov O (xi_set hp.1 a o, hp.2) := by
  refine Prod.ext ?_ rfl
  funext id
  show (if id = a then o else (O id).getD (hp.1 id)) = (O id).getD (if id = a then o else hp.1 id)
  by_cases hi : id = a
  · rw [if_pos hi, if_pos hi, hi, h]
    rfl
  · rw [if_neg hi, if_neg hi]
theorem ov_sets : (xi_set (ov O hp).1 a o, (ov O hp).2) = ov (upO O a (some o)) hp := by
  refine Prod.ext ?_ rfl
  funext id
  show (if id = a then o else (O id).getD (hp.1 id)) = (if id = a then some o else O id).getD (hp.1 id)
  by_cases hi : id = a
  · rw [if_pos hi, if_pos hi]
    rfl
  · rw [if_neg hi, if_neg hi]
/-- what the heap has under the overlay comes to light -/
theorem ov_peel (h : hp.1 a = o) : ov (upO O a (some o)) hp = ov (upO O a none) hp := by
  refine Prod.ext ?_ rfl
  funext id
  show (if id = a then some o else O id).getD (hp.1 id) = (if id = a then none else O id).getD (hp.1 id)
  by_cases hi : id = a
  · rw [if_pos hi, if_pos hi, hi, h]
    rfl
  · rw [if_neg hi, if_neg hi]
theorem ov_none (h : ∀ id, O id = none) : ov O hp = hp := by
  refine Prod.ext ?_ rfl
  funext id
  exact ov_n (h id)
theorem upO_e {x : Option xi_O} : upO O a x a = x := if_pos rfl
theorem upO_n {b : Nat} {x : Option xi_O} (h : b ≠ a) : upO O a x b = O b := if_neg h
theorem upO_up {x y : Option xi_O} : upO (upO O a x) a y = upO O a y := by
  funext id
  show (if id = a then y else if id = a then x else O id) = (if id = a then y else O id)
  split <;> rfl
theorem ov_F (h : O a = none) (κ : Value → Option xi_R) : kFh (ov O hp) a c k κ = kFh hp a c k κ := by
  show kF ((ov O hp).1 a) c k κ = _
  rw [ov_n h]
  rfl
theorem ov_V (h : O a = none) (κ : Option xi_R) : kVh (ov O hp) a c κ = kVh hp a c κ := by
  show kV ((ov O hp).1 a) c κ = _
  rw [ov_n h]
  rfl
theorem ov_I (h : O a = none) (i : Int32) (κ : Int32 → Option xi_R) : kIh (ov O hp) a i κ = kIh hp a i κ := by
  show kI ((ov O hp).1 a) i κ = _
  rw [ov_n h]
  rfl
theorem ov_L (h : O a = none) (i : Int32) (κ : Int64 → Option xi_R) : kLh (ov O hp) a i κ = kLh hp a i κ := by
  show kL ((ov O hp).1 a) i κ = _
  rw [ov_n h]
  rfl
theorem ov_A (h : O a = none) (i : Int32) (κ : Nat → Option xi_R) : kAh (ov O hp) a i κ = kAh hp a i κ := by
  show kA ((ov O hp).1 a) i κ = _
  rw [ov_n h]
  rfl
theorem ov_P (h : O a = none) (v : Value) (κ : xi_H → Option xi_R) : kPh (ov O hp) a c k v κ = kPh hp a c k v (fun hp => κ (ov O hp)) := by
  show kP ((ov O hp).1 a) c k v (fun o => κ (xi_set (ov O hp).1 a o, (ov O hp).2)) = kP (hp.1 a) c k v (fun o => κ (ov O (xi_set hp.1 a o, hp.2)))
  rw [ov_n h]
  congr 1
  funext o
  rw [ov_set h]
theorem ov_Is (h : O a = none) (i x : Int32) (κ : xi_H → Option xi_R) : kIsh (ov O hp) a i x κ = kIsh hp a i x (fun hp => κ (ov O hp)) := by
  show kIs ((ov O hp).1 a) i x (fun o => κ (xi_set (ov O hp).1 a o, (ov O hp).2)) = kIs (hp.1 a) i x (fun o => κ (ov O (xi_set hp.1 a o, hp.2)))
  rw [ov_n h]
  congr 1
  funext o
  rw [ov_set h]
theorem ov_Ls (h : O a = none) (i : Int32) (x : Int64) (κ : xi_H → Option xi_R) : kLsh (ov O hp) a i x κ = kLsh hp a i x (fun hp => κ (ov O hp)) := by
  show kLs ((ov O hp).1 a) i x (fun o => κ (xi_set (ov O hp).1 a o, (ov O hp).2)) = kLs (hp.1 a) i x (fun o => κ (ov O (xi_set hp.1 a o, hp.2)))
  rw [ov_n h]
  congr 1
  funext o
  rw [ov_set h]
/-- objects of the overlay itself -/
theorem ov_Fs (h : O a = some o) (κ : Value → Option xi_R) : kFh (ov O hp) a c k κ = kF o c k κ := by
  show kF ((ov O hp).1 a) c k κ = _
  rw [ov_s h]
theorem ov_Vs (h : O a = some o) (κ : Option xi_R) : kVh (ov O hp) a c κ = kV o c κ := by
  show kV ((ov O hp).1 a) c κ = _
  rw [ov_s h]
theorem ov_Ps (h : O a = some o) (v : Value) (κ : xi_H → Option xi_R) : kPh (ov O hp) a c k v κ = kP o c k v (fun o => κ (ov (upO O a (some o)) hp)) := by
  show kP ((ov O hp).1 a) c k v (fun o => κ (xi_set (ov O hp).1 a o, (ov O hp).2)) = _
  rw [ov_s h]
  congr 1
  funext o
  rw [ov_sets]
/-- a new cell comes into the overlay -/
theorem ov_mk {S : xS} {n z N : Nat} {rest : List Value} : xi_mk o N rest (ov O (hS S (n, n, z))) = some (.ref (100 + n) :: rest, ov (upO O (100 + n) (some o)) (hS S (n + 1, n + 1, z + N))) := by
  unfold xi_mk
  rw [if_pos (show (ov O (hS S (n, n, z))).2.1 = (ov O (hS S (n, n, z))).2.2.1 from rfl)]
  have h := ov_sets (O := O) (hp := hS S (n, n, z)) (a := 100 + n) (o := o)
  have h1 := congrArg Prod.fst h
  show some (_, (xi_set (ov O (hS S (n, n, z))).1 (100 + n) o, n + 1, n + 1, z + N)) = _
  rw [show xi_set (ov O (hS S (n, n, z))).1 (100 + n) o = (ov (upO O (100 + n) (some o)) (hS S (n, n, z))).1 from h1]
  rfl
/-- the empty heap is all overlay -/
theorem ov_start {S : xS} : ((fun _ => xi_dead, 0, 0, 0) : xi_H) = ov (fun _ => some xi_dead) (hS S (0, 0, 0)) := rfl
end XOV
