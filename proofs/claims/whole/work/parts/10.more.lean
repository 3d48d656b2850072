/-! What stays of the world outside, whole; the calls of the JDK's own; literals. -/
abbrev xi_Aa (E : xi_E) : Nat → Prop := fun q => E.2.1 ≤ q
def xi_ex : List String := ["java/lang/IllegalStateException", "java/lang/IllegalArgumentException", "java/lang/IndexOutOfBoundsException", "java/util/NoSuchElementException"]
def xi_dc : List MethodName := ["java/lang/RuntimeException", "java/lang/Exception", "java/lang/Throwable"].flatMap fun c => [⟨c, "<init>", "()V"⟩, ⟨c, "<init>", "(Ljava/lang/String;)V"⟩]
def xi_nst : List (Nat × Nat × Nat) := xi_ml.filterMap fun e => if e.2.2.2.1 = 3 then some (e.1, e.2.1, e.2.2.1) else none
def xi_xt : List (Nat × String) := [(65, "the text buffer is full"), (79, "the buffer has no such length"), (141, "what is 0 to 9"), (148, "no such cell"), (168, "what is 0 to 4"), (170, "no such piece"), (178, "a player is 1 or 2"), (195, "what is 0 to 5"), (202, "the player controls no stack"), (208, "no such move"), (218, "direction is 0 or 1, k is 1 to 4"), (220, "the move is refused"), (232, "there are not so many moves"), (234, "direction is 0 or 1, k is 1 to 4, what is 0 to 3"), (236, "the stack has fewer pieces"), (265, "no such move or depth"), (270, "a depth is 1 or 2"), (275, "all moves are refused"), (280, "a period is 0 to 20"), (289, "no such byte"), (294, "there is no change to undo"), (302, "no such slot"), (306, "nothing was saved there")]
/-- what is thrown: entry of the class, entry of its constructor, name -/
def xi_th : List (Nat × Nat × String) := [(63, 67, "java/lang/IllegalStateException"), (77, 81, "java/lang/IllegalArgumentException"), (146, 150, "java/lang/IndexOutOfBoundsException"), (200, 204, "java/util/NoSuchElementException")]
/-- what the law catches: entry, name -/
def xi_ct : List (Nat × String) := [(13, "java/lang/IllegalStateException"), (19, "java/lang/IllegalArgumentException"), (28, "java/lang/IndexOutOfBoundsException"), (39, "java/util/NoSuchElementException")]
def xi_K (E : xi_E) (cA : Nat → ClassId) (D : va_G) (xs : Nat → Int32) (L : Nat) (U : State) (H : Heap) : Prop :=
  xi_C E cA D xs L U H ∧
  (∀ c ∈ xi_ex, va_Nw (.castable c c) U) ∧ (∀ y ∈ xi_dc, va_Nw (.declares y) U) ∧ (∀ e ∈ xi_nst, va_Nw (.methodLinkNest (xi_cn e.1) e.2.1 (xi_y (xi_m e.2.2)) "TowerRing") U) ∧
  (∀ a ∈ xi_ex, ∀ b ∈ xi_ex, a ≠ b → va_Nc a b U) ∧
  vx_Zq Bundle.tN "UNASSIGNED_STACK" Bundle.steD (xi_Aa E) U H ∧ vx_Zq Bundle.tN "SUPPRESSED_SENTINEL" Bundle.listD (xi_Aa E) U H ∧
  (∀ e ∈ xi_sl, vk_R (xi_cn e.1) e.2.1 (xi_st e.2.2) (E.2.2 (1 + e.2.2)) U) ∧ (∀ e ∈ xi_xt, ∃ sa, vk_R "TowerRing" e.1 e.2 sa U) ∧
  (∀ j, j < 6 → va_O "java/lang/String" (E.2.2 (1 + j)) (xi_Aa E) U H ∧ va_OF "java/lang/String" "coder" "B" (.int 0) (E.2.2 (1 + j)) (xi_Aa E) U H ∧ va_OF "java/lang/String" "value" "[B" (.ref (E.2.2 (11 + j))) (E.2.2 (1 + j)) (xi_Aa E) U H ∧ va_T .byte (E.2.2 (11 + j)) (xi_sb.getD j []).length (fun k => .int ((xi_sb.getD j []).getD k 0)) (xi_Aa E) U H) ∧
  va_Z "java/lang/String" "COMPACT_STRINGS" "Z" (.int 1) (xi_Aa E) U H ∧ va_Zq "jdk/internal/util/Preconditions" "SIOOBE_FORMATTER" "Ljava/util/function/BiFunction;" (xi_Aa E) U H
theorem xi_tr {u U : State} {c : Cond} (hc : c.onTables = true) (h : c.before #[] (u.setVm U.vm) = true) : c.before #[] U = true := by
  have e := Cond.onTables_vm (A := #[]) (A' := #[]) (U := u) (U' := U) U.vm c hc
  have hU : U.setVm U.vm = U := rfl
  rw [hU] at e
  rw [← e]
  exact h
/-- the same at a later state: the machine has gone on, and nothing old was written -/
theorem xi_K_next {E : xi_E} {cA : Nat → ClassId} {D : va_G} {xs : Nat → Int32} {L : Nat} {s U : State} {H : Heap} {locs : List Loc} (K : xi_K E cA D xs L s s.heap) (hS : va_S (xi_Aa E) s.heap H locs) (hU : U.heap = H) (hW : s.WarmedH U.vm) : xi_K E cA D xs L U U.heap := by
  subst hU
  have hv := hW.alike
  have hq : ∀ a : Nat, a < s.heap.size → ¬ xi_Aa E a → U.heap[a]? = s.heap[a]? := hS.2.1
  obtain ⟨⟨c1, c2, c3, c4, c5, c6⟩, k1, k2, k3, k4, k5, k6, k7, k8, k9, k10, k11⟩ := K
  refine ⟨⟨va_K.moved hv c1, va_X.moved hv (c2.kept (hq _ c3 (Nat.not_le.mpr c4))), Nat.lt_of_lt_of_le c3 hS.1, c4, Nat.le_trans c5 hS.1, va_AO.moved hv c6⟩, fun c hc => ?_, fun y hy => ?_, fun e he => va_Nw.warmM hW (k3 e he), fun a ha b hb hab => va_Nc.moved hv (k4 a ha b hb hab), (k5.kept hq).moved hv, (k6.kept hq).moved hv, fun e he => vk_R.warm hW (k7 e he), fun e he => ?_, fun j hj => ?_, va_Z.moved hv (k10.kept hq), va_Zq.moved hv (k11.kept hq)⟩
  · exact xi_tr (u := s) rfl (by rw [Cond.castable_setVm hv]; exact k1 c hc)
  · exact xi_tr (u := s) rfl (by rw [Cond.declares_setVm hv]; exact k2 y hy)
  · obtain ⟨sa, h⟩ := k8 e he
    exact ⟨sa, vk_R.warm hW h⟩
  · obtain ⟨h1, h2, h3, h4⟩ := k9 j hj
    exact ⟨va_O.moved hv (h1.kept hq), va_OF.moved hv (h2.kept hq), va_OF.moved hv (h3.kept hq), va_T.moved hv (h4.kept hq)⟩
/-- .. and seen from another frame -/
theorem xi_K_same {E : xi_E} {cA : Nat → ClassId} {D : va_G} {xs : Nat → Int32} {L : Nat} {u U : State} (hv : U.vm = u.vm) (hh : U.heap = u.heap) (K : xi_K E cA D xs L u u.heap) : xi_K E cA D xs L U U.heap := by
  have ha : u.vm.Alike U.vm := by rw [hv]; exact Vm.Alike.refl _
  obtain ⟨⟨c1, c2, c3, c4, c5, c6⟩, k1, k2, k3, k4, k5, k6, k7, k8, k9, k10, k11⟩ := K
  rw [hh]
  refine ⟨⟨va_K.moved ha c1, va_X.moved ha c2, c3, c4, c5, va_AO.moved ha c6⟩, fun c hc => va_Nw.same rfl hv.symm (k1 c hc), fun y hy => va_Nw.same rfl hv.symm (k2 y hy), fun e he => va_Nw.same rfl hv.symm (k3 e he), fun a h b hb hab => va_Nc.moved ha (k4 a h b hb hab), k5.moved ha, k6.moved ha, fun e he => vk_R.same hv (k7 e he), fun e he => ?_, fun j hj => ?_, va_Z.moved ha k10, va_Zq.moved ha k11⟩
  · obtain ⟨sa, h⟩ := k8 e he
    exact ⟨sa, vk_R.same hv h⟩
  · obtain ⟨h1, h2, h3, h4⟩ := k9 j hj
    exact ⟨va_O.moved ha h1, va_OF.moved ha h2, va_OF.moved ha h3, va_T.moved ha h4⟩
/-- the words of the JDK's own that are called -/
theorem xi_pw : ([Cond.native arraycopyName, Cond.static arraycopyName, Cond.initialized "java/lang/System", Cond.instanceMethod objectInit, Cond.code objectInit ⟨#[0xb1]⟩ 1 none, Cond.static Lib.Math.max.name, Cond.static Lib.Math.min.name, Cond.initialized "java/lang/Math", Cond.code Lib.Math.max.name Lib.Math.max.code 2 (some .int), Cond.code Lib.Math.min.name Lib.Math.min.code 2 (some .int)] : List Cond).all (fun w => decide (w ∈ lw_tbl) && (goodWord w || decide (w = Cond.native arraycopyName))) = true := by decide +kernel
section XIQ
variable {p : Program} {l : Launch} {e : Env} {R : Room} {s : State} {m : MethodId} {args : Array Value} {below : List Frame} {meth : Method} {c : Code} {H : Heap} {locs : List Loc} {cells slots : Nat} {Q : State → Prop}
variable {cc : ByteArray} {pc nL : Nat} {ls : Array Slot} {E : xi_E} {cA : Nat → ClassId} {D : va_G} {xs : Nat → Int32} {L mi : Nat} {st st' ll : List Value} {hp hp' : xi_H}
theorem xi_low_of {st : List Value} (h : xi_low st = true) : ((st.map (xi_v E)).map fun v => v.category).sum ≤ 8 := by
  simp only [xi_low, decide_eq_true_eq] at h
  rw [List.map_map]
  have : ((fun v : Value => v.category) ∘ xi_v E) = fun v => v.category := by
    funext v
    exact xi_v_cat E v
  rw [this]
  exact h
end XIQ
abbrev xi_b_pre : ByteArray := prog_28_method_11_code
def xi_y_pre : MethodName := ⟨"jdk/internal/util/Preconditions", "checkIndex", "(IILjava/util/function/BiFunction;)I"⟩
def xi_w_pre : List Cond := [.code xi_y_pre xi_b_pre 3 (some .int)]
abbrev xi_b_chk : ByteArray := prog_20_method_155_code
def xi_y_chk : MethodName := ⟨"java/lang/String", "checkIndex", "(II)V"⟩
def xi_w_chk : List Cond := .code xi_y_chk xi_b_chk 2 none :: [.fieldLink "java/lang/String" 1053 "jdk/internal/util/Preconditions" "SIOOBE_FORMATTER" "Ljava/util/function/BiFunction;", .methodLink "java/lang/String" 1059 xi_y_pre, .static xi_y_pre, .initialized "jdk/internal/util/Preconditions", .code xi_y_pre xi_b_pre 3 (some .int)]
theorem xi_w_chk_in : xi_w_chk.all (fun w => decide (w ∈ lw_tbl) && goodWord w) = true := by decide +kernel
theorem xi_strw : ([.fieldLink "java/lang/String" 9 "java/lang/String" "value" "[B", .fieldLink "java/lang/String" 15 "java/lang/String" "coder" "B", .fieldLink "java/lang/String" 38 "java/lang/String" "COMPACT_STRINGS" "Z", .static xi_y_chk, .initialized "java/lang/String"] : List Cond).all (fun w => decide (w ∈ lw_tbl) && goodWord w) = true := by decide +kernel
theorem xi_in_all {ws : List Cond} (h : ws.all (fun w => decide (w ∈ lw_tbl) && goodWord w) = true) : ∀ w ∈ ws, w ∈ xi_W := fun w hw => by
  have := List.all_eq_true.mp h w hw
  simp only [Bool.and_eq_true, decide_eq_true_eq] at this
  exact List.mem_filter.mpr this
theorem d_pre_0 : decode xi_b_pre 0 = .ok (.iload_n 0, 1) := by decide +kernel
theorem d_pre_1 : decode xi_b_pre 1 = .ok (.ifCond .lt 8, 3) := by decide +kernel
theorem d_pre_4 : decode xi_b_pre 4 = .ok (.iload_n 0, 1) := by decide +kernel
theorem d_pre_5 : decode xi_b_pre 5 = .ok (.iload_n 1, 1) := by decide +kernel
theorem d_pre_6 : decode xi_b_pre 6 = .ok (.if_icmp .lt 10, 3) := by decide +kernel
theorem d_pre_16 : decode xi_b_pre 16 = .ok (.iload_n 0, 1) := by decide +kernel
theorem d_pre_17 : decode xi_b_pre 17 = .ok (.ireturn, 1) := by decide +kernel
theorem d_chk_0 : decode xi_b_chk 0 = .ok (.iload_n 0, 1) := by decide +kernel
theorem d_chk_1 : decode xi_b_chk 1 = .ok (.iload_n 1, 1) := by decide +kernel
theorem d_chk_2 : decode xi_b_chk 2 = .ok (.getstatic 1053, 3) := by decide +kernel
theorem d_chk_5 : decode xi_b_chk 5 = .ok (.invokestatic 1059, 3) := by decide +kernel
theorem d_chk_8 : decode xi_b_chk 8 = .ok (.pop, 1) := by decide +kernel
theorem d_chk_9 : decode xi_b_chk 9 = .ok (.return_, 1) := by decide +kernel
theorem xi_c_pre (l : Launch) (i n : Int32) (v : Value) (hv : v = .null ∨ ∃ t, v = .ref t) (h0 : ¬ i < 0) (h1 : i < n) : Met l xi_y_pre xi_w_pre ({ frames := 0, cells := 0, slots := 0, locals := 0 }) (va_Pc [.int i, .int n, v] (fun _ => True)) (va_Qi (fun (_ : Int32) (_ : Unit) => True) (fun _ _ => True) (fun _ => False)) 0 0 (fun _ => False) := by
  refine Met.ofW (cc := xi_b_pre) (maxL := 3) (ret := some .int) (by decide) rfl ?_
  intro p e s m args below meth c s₁ B hml hvv
  obtain ⟨rfl, -⟩ := hvv
  have hx := B.exec
  have hb := B.bytes
  have hr := B.returns
  have hlocks := B.notSynchronized
  have hS : va_S (fun _ => False) s.heap s.heap [] := va_S.rf
  rw [lg_entry_eq]
  have hl : ∃ ls : Array Slot, ls = (lg_sl ([.int i, .int n, v]) ++ List.replicate (3 - (lg_sl ([.int i, .int n, v])).length) Slot.unset).toArray ∧ lv_has ls 3 [(0, .int i), (1, .int n)] := by
    refine ⟨_, rfl, ?_⟩
    rcases hv with rfl | ⟨t, rfl⟩
    · exact lv_sub (lv_entry ([.int i, .int n, .null]) (n := 3) (Nat.le_of_ble_eq_true rfl)) [0, 1] rfl
    · exact lv_sub (lv_entry ([.int i, .int n, .ref t]) (n := 3) (Nat.le_of_ble_eq_true rfl)) [0, 1] rfl
  obtain ⟨ls, e1, hl⟩ := hl
  rw [← e1]
  refine lv_iload_n hx hb d_pre_0 rfl (lv_at hl 0 rfl) ?_
  refine lv_if_lt (tgt := 9) hx hb d_pre_1 (by decide) (fun z => absurd z h0) (fun _ => ?_)
  refine lv_iload_n hx hb d_pre_4 rfl (lv_at hl 0 rfl) ?_
  refine lv_iload_n hx hb d_pre_5 rfl (lv_at hl 1 rfl) ?_
  refine lv_icmp_lt (tgt := 16) hx hb d_pre_6 (by decide) (fun _ => ?_) (fun z => absurd h1 z)
  refine lv_iload_n hx hb d_pre_16 rfl (lv_at hl 0 rfl) ?_
  exact W.iret (v := i) hx hb hr (fun t ht hW => ⟨⟨i, (), rfl, trivial, trivial⟩, hS.F ht⟩) hS.2.2 d_pre_17
theorem xi_c_chk (l : Launch) (A : Nat → Prop) (i n : Int32) (h0 : ¬ i < 0) (h1 : i < n) : Met l xi_y_chk xi_w_chk ({ frames := 1, cells := 0, slots := 0, locals := 22 }) (va_Pc [.int i, .int n] (fun U => va_Zq "jdk/internal/util/Preconditions" "SIOOBE_FORMATTER" "Ljava/util/function/BiFunction;" A U U.heap)) (va_Qv (fun (_ : Unit) => True) (fun _ _ => True) (fun _ => False)) 0 0 (fun _ => False) := by
  refine Met.ofW (cc := xi_b_chk) (maxL := 2) (ret := none) (by decide) rfl ?_
  intro p e s m args below meth c s₁ B hml hvv
  obtain ⟨rfl, hZ⟩ := hvv
  have hx := B.exec
  have hb := B.bytes
  have hr := B.returns
  have hts := atoms_spec (ws := xi_w_chk) B.pre
  have hown : s.vm.findClass "java/lang/String" = some m.cls := findClass_of_methodNamed B.named
  have hlocks := B.notSynchronized
  have hS : va_S (fun _ => False) s.heap s.heap [] := va_S.rf
  have hS2 : va_S A s.heap s.heap [] := va_S.rf
  have hl := lv_entry ([.int i, .int n]) (n := 2) (Nat.le_of_ble_eq_true rfl)
  rw [lg_entry_eq]
  generalize (lg_sl ([.int i, .int n]) ++ List.replicate (2 - (lg_sl ([.int i, .int n])).length) Slot.unset).toArray = ls at hl ⊢
  have hl : lv_has ls 2 [(0, .int i), (1, .int n)] := hl
  refine lv_iload_n hx hb d_chk_0 rfl (lv_at hl 0 rfl) ?_
  refine lv_iload_n hx hb d_chk_1 rfl (lv_at hl 1 rfl) ?_
  have hlink := hts (.fieldLink "java/lang/String" 1053 "jdk/internal/util/Preconditions" "SIOOBE_FORMATTER" "Ljava/util/function/BiFunction;") (by decide +kernel)
  have go : ∀ v : Value, v = .null ∨ (∃ t, v = .ref t) → va_Z "jdk/internal/util/Preconditions" "SIOOBE_FORMATTER" "Ljava/util/function/BiFunction;" v A s s.heap → W p l e (headSpec xi_w_chk ({ frames := 1, cells := 0, slots := 0, locals := 22 })).room s m #[.int i, .int n] below meth c s.heap [] 0 0 (MQ below (va_Qv (fun (_ : Unit) => True) (fun _ _ => True) (fun _ => False)) #[.int i, .int n] s 0 0 (fun _ => False)) (F0 m 2 ls [.int n, .int i]) := by
    intro v hv hZ
    refine va_gets hx hb hZ hS2 hown hlink (fun _ h => h) d_chk_2 ?_
    refine va_calli (A0 := fun _ => False) (va_runS (As := [.int i, .int n, v]) (rest := []) ⟨hx, hb, hml, hown, hts⟩ (xi_c_pre l i n v hv h0 h1) (va_cwS 3 hts (goodIn_p _ [5] rfl (by decide +kernel)) rfl rfl rfl (by decide +kernel) ⟨Nat.le_of_ble_eq_true rfl, Nat.le_of_ble_eq_true rfl⟩) ⟨fun a U g mk q => ⟨q.1, trivial⟩, fun U hU hW => ⟨rfl, trivial⟩⟩ rfl rfl hl.1 rfl (lv_room (Nat.le_of_ble_eq_true rfl)) d_chk_5 ⟨Nat.le_of_ble_eq_true rfl, Nat.le_of_ble_eq_true rfl⟩) hS (fun q _ h => h) (fun q h => h) (fun r u t H1 locs1 ht hvm hw hB hz1 hk1 hS => ?_)
    refine lv_pop hx hb d_chk_8 rfl ?_
    exact W.vret hx hb hr (fun t ht hW => ⟨⟨(), rfl, trivial, trivial⟩, hS.F ht⟩) hS.2.2 d_chk_9
  rcases hZ with hZ | ⟨t, hZ⟩
  · exact go _ (Or.inl rfl) hZ
  · exact go _ (Or.inr ⟨t, rfl⟩) hZ
