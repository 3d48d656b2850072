section XIP
variable {p : Program} {l : Launch} {e : Env} {R : Room} {s : State} {m : MethodId} {args : Array Value} {below : List Frame} {meth : Method} {c : Code} {H : Heap} {locs : List Loc} {cells slots : Nat} {Q : State → Prop}
variable {cc : ByteArray} {pc nL : Nat} {ls : Array Slot} {E : xi_E} {ll ll' st st' : List Value} {i : Instr}
set_option maxHeartbeats 4000000 in
theorem xi_pure_ok (hx : p.tables.exec = Jvm.exec) (hb : c.code = cc) (hdg : decode cc pc = .ok (i, xi_len i)) (hL : xi_L E ll ls nL) (h : xi_pure i ll st = some (ll', st'))
    (k : ∀ ls' : Array Slot, xi_L E ll' ls' nL → W p l e R s m args below meth c H locs cells slots Q (F0 m (pc + xi_len i) ls' (st'.map (xi_v E)))) : W p l e R s m args below meth c H locs cells slots Q (F0 m pc ls (st.map (xi_v E))) := by
  unfold xi_pure at h
  split at h
  · cases h
    exact lv_iconst hx hb hdg rfl (k ls hL)
  · cases h
    exact lv_bipush hx hb hdg rfl (k ls hL)
  · cases h
    exact lv_sipush hx hb hdg rfl (k ls hL)
  · cases h
    exact lv_lconst hx hb hdg rfl (k ls hL)
  · split at h
    · next x hq =>
      cases h
      exact lv_iload_n hx hb hdg rfl (hL.2.2.2 _ _ hq (by simp)) (k ls hL)
    · cases h
  · split at h
    · next x hq =>
      cases h
      exact lv_iload hx hb hdg (hL.2.2.2 _ _ hq (by simp)) (k ls hL)
    · cases h
  · split at h
    · next x hq =>
      cases h
      exact lv_aload_n hx hb hdg rfl (hL.2.2.2 _ _ hq (by simp)) (k ls hL)
    · cases h
  · split at h
    · next x hq =>
      cases h
      exact lv_aload hx hb hdg (hL.2.2.2 _ _ hq (by simp)) (k ls hL)
    · cases h
  · split at h
    · next x hq =>
      cases h
      exact lv_lload_n hx hb hdg rfl (hL.2.2.2 _ _ hq (by simp)) (k ls hL)
    · cases h
  · split at h
    · next x hq =>
      cases h
      exact lv_lload hx hb hdg (hL.2.2.2 _ _ hq (by simp)) (k ls hL)
    · cases h
  · split at h
    · next hs =>
      cases h
      exact lv_istore_n hx hb hdg rfl (xi_L_has hL) (by have := hL.2.2.1; simp only [xi_s1, xi_s2, Bool.and_eq_true, decide_eq_true_eq] at hs; omega) rfl (fun ls' h' => k ls' (xi_s1_ok hL hs h'))
    · cases h
  · split at h
    · next hs =>
      cases h
      exact lv_istore hx hb hdg (xi_L_has hL) (by have := hL.2.2.1; simp only [xi_s1, xi_s2, Bool.and_eq_true, decide_eq_true_eq] at hs; omega) rfl (fun ls' h' => k ls' (xi_s1_ok hL hs h'))
    · cases h
  · split at h
    · next hs =>
      cases h
      exact lv_astore_n hx hb hdg rfl (xi_L_has hL) (by have := hL.2.2.1; simp only [xi_s1, xi_s2, Bool.and_eq_true, decide_eq_true_eq] at hs; omega) rfl (fun ls' h' => k ls' (xi_s1_ok hL hs h'))
    · cases h
  · split at h
    · next hs =>
      cases h
      exact lv_astore hx hb hdg (xi_L_has hL) (by have := hL.2.2.1; simp only [xi_s1, xi_s2, Bool.and_eq_true, decide_eq_true_eq] at hs; omega) rfl (fun ls' h' => k ls' (xi_s1_ok hL hs h'))
    · cases h
  · split at h
    · next hs =>
      cases h
      exact lv_lstore_n hx hb hdg rfl (xi_L_has hL) (by have := hL.2.2.1; simp only [xi_s1, xi_s2, Bool.and_eq_true, decide_eq_true_eq] at hs; omega) rfl (fun ls' h' => k ls' (xi_s2_ok hL hs h'))
    · cases h
  · split at h
    · next hs =>
      cases h
      exact lv_lstore hx hb hdg (xi_L_has hL) (by have := hL.2.2.1; simp only [xi_s1, xi_s2, Bool.and_eq_true, decide_eq_true_eq] at hs; omega) rfl (fun ls' h' => k ls' (xi_s2_ok hL hs h'))
    · cases h
  · split at h
    · next x hq =>
      split at h
      · next hs =>
        cases h
        obtain ⟨kk, hkk⟩ := List.getElem?_of_mem (xi_lof_mem (E := E) (q := (_, Value.int x)).mpr ⟨_, hq, by simp, rfl⟩)
        exact lv_iinc hx hb hdg (xi_L_has hL) hkk rfl (by have := hL.2.2.1; simp only [xi_s1, xi_s2, Bool.and_eq_true, decide_eq_true_eq] at hs; omega) rfl (fun ls' h' => k ls' (xi_s1_ok hL hs h'))
      · cases h
    · cases h
  · cases h
    exact lv_iadd hx hb hdg (k ls hL)
  · cases h
    exact lv_isub hx hb hdg (k ls hL)
  · cases h
    exact lv_imul hx hb hdg (k ls hL)
  · cases h
    exact lv_iand hx hb hdg (k ls hL)
  · cases h
    exact lv_ior hx hb hdg (k ls hL)
  · cases h
    exact lv_ixor hx hb hdg (k ls hL)
  · split at h
    · cases h
    · next hne =>
      cases h
      exact lv_idiv hx hb hdg hne (k ls hL)
  · split at h
    · cases h
    · next hne =>
      cases h
      exact lv_irem hx hb hdg hne (k ls hL)
  · cases h
    exact lv_ishl hx hb hdg (k ls hL)
  · cases h
    exact lv_ishr hx hb hdg (k ls hL)
  · cases h
    exact lv_iushr hx hb hdg rfl (k ls hL)
  · cases h
    exact lv_i2c hx hb hdg rfl (k ls hL)
  · cases h
    exact lv_lor hx hb hdg (k ls hL)
  · cases h
    exact lv_lshl hx hb hdg rfl (k ls hL)
  · cases h
    exact lv_i2l hx hb hdg rfl (k ls hL)
  · cases h
    exact lv_i2b hx hb hdg rfl (k ls hL)
  · cases h
    exact W.lcmp hx hb hdg (k ls hL)
  · split at h
    · next hc =>
      cases h
      exact lv_dup hx hb hdg (by rw [xi_v_cat]; revert hc; cases ‹Value› <;> simp [xi_c1, Value.category]) (k ls hL)
    · cases h
  · next v w st0 =>
    split at h
    · next hc =>
      cases h
      exact lv_dup2_11 hx hb hdg (by rw [xi_v_cat]; have := hc.1; revert this; cases v <;> simp [xi_c1, Value.category]) (by rw [xi_v_cat]; have := hc.2; revert this; cases w <;> simp [xi_c1, Value.category]) (k ls hL)
    · cases h
  · split at h
    · next hc =>
      cases h
      exact lv_pop hx hb hdg (by rw [xi_v_cat]; revert hc; cases ‹Value› <;> simp [xi_c1, Value.category]) (k ls hL)
    · cases h
  · cases h
/-- a branch: where it goes and what is left -/
def xi_br (i : Instr) (pc : Nat) (st : List Value) : Option (Nat × List Value) := match i, st with
  | .goto off, st => if 0 ≤ (pc : Int) + off then some (((pc : Int) + off).toNat, st) else none
  | .ifCond c off, .int x :: st => if 0 ≤ (pc : Int) + off then some (if xi_cc c x 0 = true then ((pc : Int) + off).toNat else pc + 3, st) else none
  | .if_icmp c off, .int y :: .int x :: st => if 0 ≤ (pc : Int) + off then some (if xi_cc c x y = true then ((pc : Int) + off).toNat else pc + 3, st) else none
  | .tableswitch dflt lo hi offs, .int x :: st => if x.toInt < lo ∨ hi < x.toInt then (if 0 ≤ (pc : Int) + dflt then some (((pc : Int) + dflt).toNat, st) else none) else match offs[(x.toInt - lo).toNat]? with
    | some off => if 0 ≤ (pc : Int) + off then some (((pc : Int) + off).toNat, st) else none
    | none => none
  | _, _ => none
theorem xi_br_ok {len pc' : Nat} (hx : p.tables.exec = Jvm.exec) (hb : c.code = cc) (hdg : decode cc pc = .ok (i, len)) (hlen : (∃ a b c d, i = .tableswitch a b c d) ∨ len = xi_len i) (h : xi_br i pc st = some (pc', st'))
    (k : W p l e R s m args below meth c H locs cells slots Q (F0 m pc' ls (st'.map (xi_v E)))) : W p l e R s m args below meth c H locs cells slots Q (F0 m pc ls (st.map (xi_v E))) := by
  unfold xi_br at h
  split at h
  · obtain ⟨a, b, c, d, h9⟩ | rfl := hlen
    · cases h9
    split at h
    · next h0 =>
      cases h
      exact lv_goto hx hb hdg (Int.toNat_of_nonneg h0).symm k
    · cases h
  · next c0 off x st0 =>
    obtain ⟨a, b, c, d, h9⟩ | rfl := hlen
    · cases h9
    split at h
    · next h0 =>
      cases h
      have ht := (Int.toNat_of_nonneg h0).symm
      cases c0
      · exact lv_if_eq hx hb hdg ht (fun z => by rw [if_pos (by simpa [xi_cc] using z)] at k; exact k) (fun z => by rw [if_neg (by simpa [xi_cc] using z)] at k; exact k)
      · exact lv_if_ne hx hb hdg ht (fun z => by rw [if_pos (by simpa [xi_cc] using z)] at k; exact k) (fun z => by rw [if_neg (by simpa [xi_cc] using z)] at k; exact k)
      · exact lv_if_lt hx hb hdg ht (fun z => by rw [if_pos (by simpa [xi_cc] using z)] at k; exact k) (fun z => by rw [if_neg (by simpa [xi_cc] using z)] at k; exact k)
      · exact lv_if_ge hx hb hdg ht (fun z => by rw [if_pos (by simpa [xi_cc] using z)] at k; exact k) (fun z => by rw [if_neg (by simpa [xi_cc] using z)] at k; exact k)
      · exact lv_if_gt hx hb hdg ht (fun z => by rw [if_pos (by simpa [xi_cc] using z)] at k; exact k) (fun z => by rw [if_neg (by simpa [xi_cc] using z)] at k; exact k)
      · exact lv_if_le hx hb hdg ht (fun z => by rw [if_pos (by simpa [xi_cc] using z)] at k; exact k) (fun z => by rw [if_neg (by simpa [xi_cc] using z)] at k; exact k)
    · cases h
  · next c0 off y x st0 =>
    obtain ⟨a, b, c, d, h9⟩ | rfl := hlen
    · cases h9
    split at h
    · next h0 =>
      cases h
      have ht := (Int.toNat_of_nonneg h0).symm
      cases c0
      · exact lv_icmp_eq hx hb hdg ht (fun z => by rw [if_pos (by simpa [xi_cc] using z)] at k; exact k) (fun z => by rw [if_neg (by simpa [xi_cc] using z)] at k; exact k)
      · exact lv_icmp_ne hx hb hdg ht (fun z => by rw [if_pos (by simpa [xi_cc] using z)] at k; exact k) (fun z => by rw [if_neg (by simpa [xi_cc] using z)] at k; exact k)
      · exact lv_icmp_lt hx hb hdg ht (fun z => by rw [if_pos (by simpa [xi_cc] using z)] at k; exact k) (fun z => by rw [if_neg (by simpa [xi_cc] using z)] at k; exact k)
      · exact lv_icmp_ge hx hb hdg ht (fun z => by rw [if_pos (by simpa [xi_cc] using z)] at k; exact k) (fun z => by rw [if_neg (by simpa [xi_cc] using z)] at k; exact k)
      · exact lv_icmp_gt hx hb hdg ht (fun z => by rw [if_pos (by simpa [xi_cc] using z)] at k; exact k) (fun z => by rw [if_neg (by simpa [xi_cc] using z)] at k; exact k)
      · exact lv_icmp_le hx hb hdg ht (fun z => by rw [if_pos (by simpa [xi_cc] using z)] at k; exact k) (fun z => by rw [if_neg (by simpa [xi_cc] using z)] at k; exact k)
    · cases h
  · split at h
    · next h1 =>
      split at h
      · next h0 =>
        cases h
        exact lv_tableOut hx hb hdg h1 (Int.toNat_of_nonneg h0).symm k
      · cases h
    · next h1 =>
      split at h
      · next off ho =>
        split at h
        · next h0 =>
          cases h
          exact lv_tableIn hx hb hdg (fun z => h1 (Or.inl z)) (fun z => h1 (Or.inr z)) ho (Int.toNat_of_nonneg h0).symm k
        · cases h
      · cases h
  · cases h
end XIP
