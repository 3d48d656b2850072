/-! The heap's instructions, carried over to the Jvm. -/
def xi_W : List Cond := lw_tbl.filter goodWord
theorem xi_W_of {w : Cond} {n : Nat} (h : lw_tbl[n]? = some w) (hg : goodWord w = true) : w ∈ xi_W := List.mem_filter.mpr ⟨List.mem_of_getElem? h, hg⟩
theorem xi_W_good : GoodIn xi_W xi_W := fun w h => ⟨h, good_of_word (List.mem_filter.mp h).2⟩
theorem xi_cl_of {ci : Nat} {q : vw_C} (h : xi_cl[ci]? = some q) : (∀ w ∈ u_ws q.1 q.2.1 q.2.2, w ∈ xi_W) ∧ (∀ k, k < q.2.2 → parseFieldDescriptor (q.2.1 k).2.2.1 = some ((parseFieldDescriptor (q.2.1 k).2.2.1).getD .int)) ∧ (∀ k, k < q.2.2 → (q.2.1 k).1 = q.1) ∧ ∀ a, a < q.2.2 → ∀ b, b < q.2.2 → a ≠ b → (q.2.1 a).2.1 ≠ (q.2.1 b).2.1 := by
  have h0 := List.all_eq_true.mp xi_cl_ok q (List.mem_of_getElem? h)
  simp only [xi_cok, Bool.and_eq_true, List.all_eq_true, List.mem_range, decide_eq_true_eq, Bool.or_eq_true] at h0
  refine ⟨fun w hw => List.mem_filter.mpr (h0.1 w hw), fun k hk => ?_, fun k hk => (h0.2 k hk).1.2, fun a ha b hb hab => ?_⟩
  · obtain ⟨x, hx⟩ := Option.isSome_iff_exists.mp (h0.2 k hk).1.1
    rw [hx]; rfl
  · rcases (h0.2 a ha).2 b hb with h9 | h9
    · exact absurd h9 hab
    · exact h9
theorem xi_fld_of {own idx ci k : Nat} (h : xi_fld own idx = some (ci, k)) : ∃ q, xi_cl[ci]? = some q ∧ k < q.2.2 ∧ Cond.fieldLink (xi_cn own) idx q.1 (q.2.1 k).2.1 (q.2.1 k).2.2.1 ∈ xi_W := by
  unfold xi_fld at h
  obtain ⟨e, he, h2⟩ := Option.map_eq_some_iff.mp h
  cases h2
  have hm := List.mem_of_find?_eq_some he
  have hp := List.find?_some he
  simp only [Bool.and_eq_true, beq_iff_eq] at hp
  have h0 := List.all_eq_true.mp xi_fl_ok e hm
  unfold xi_flok at h0
  split at h0
  · next q hq =>
    simp only [Bool.and_eq_true, decide_eq_true_eq] at h0
    rw [hp.1, hp.2] at h0
    exact ⟨q, hq, h0.1, xi_W_of h0.2 rfl⟩
  · cases h0
theorem xi_new_of {own idx ci : Nat} (h : xi_new own idx = some ci) : ∃ q, xi_cl[ci]? = some q ∧ Cond.classLink (xi_cn own) idx q.1 ∈ xi_W ∧ Cond.instantiable q.1 q.2.2 ∈ xi_W ∧ q.1 = xi_cn ci ∧ ci < 8 := by
  unfold xi_new at h
  obtain ⟨e, he, h2⟩ := Option.map_eq_some_iff.mp h
  cases h2
  have hm := List.mem_of_find?_eq_some he
  have hp := List.find?_some he
  simp only [Bool.and_eq_true, beq_iff_eq] at hp
  have h0 := List.all_eq_true.mp xi_nl_ok e hm
  split at h0
  · next q hq =>
    simp only [Bool.and_eq_true, decide_eq_true_eq] at h0
    rw [hp.1, hp.2] at h0
    exact ⟨q, hq, xi_W_of h0.1.1.2 rfl, xi_W_of h0.1.2 rfl, h0.2, h0.1.1.1⟩
  · cases h0
theorem xi_prm_of {own idx k : Nat} (h : xi_prm own idx = some k) : Cond.methodLink (xi_cn own) idx (xi_pn k) ∈ xi_W := by
  unfold xi_prm at h
  obtain ⟨e, he, h2⟩ := Option.map_eq_some_iff.mp h
  cases h2
  have hm := List.mem_of_find?_eq_some he
  have hp := List.find?_some he
  simp only [Bool.and_eq_true, beq_iff_eq] at hp
  have h0 := List.all_eq_true.mp xi_pl_ok e hm
  simp only [Bool.and_eq_true, decide_eq_true_eq] at h0
  rw [hp.1, hp.2] at h0
  exact xi_W_of h0.1 rfl
theorem xi_kon_of {own idx : Nat} {v : Int32} (h : xi_kon own idx = some v) : Cond.constant (xi_cn own) idx v ∈ xi_W := by
  unfold xi_kon at h
  obtain ⟨e, he, h2⟩ := Option.map_eq_some_iff.mp h
  cases h2
  have hm := List.mem_of_find?_eq_some he
  have hp := List.find?_some he
  simp only [Bool.and_eq_true, beq_iff_eq] at hp
  have h0 := List.all_eq_true.mp xi_kl_ok e hm
  simp only [decide_eq_true_eq] at h0
  rw [hp.1, hp.2] at h0
  exact xi_W_of h0 rfl
/-- fields are ints or references -/
theorem xi_ty_ok : xi_cl.all (fun q => (List.range q.2.2).all fun k => match (parseFieldDescriptor (q.2.1 k).2.2.1).getD .int with
  | .int => (q.2.1 k).2.2.1 == "I"
  | .object _ => !((q.2.1 k).2.2.1 == "I")
  | .array _ => !((q.2.1 k).2.2.1 == "I")
  | _ => false) = true := by decide +kernel
theorem xi_fit_of {ci k : Nat} {q : vw_C} {v : Value} (E : xi_E) (h : xi_cl[ci]? = some q) (hk : k < q.2.2) (hf : xi_fit (q.2.1 k).2.2.1 v = true) : narrow ((parseFieldDescriptor (q.2.1 k).2.2.1).getD .int) (xi_v E v) = xi_v E v ∧ fits ((parseFieldDescriptor (q.2.1 k).2.2.1).getD .int) (xi_v E v) = true := by
  have h0 := List.all_eq_true.mp (List.all_eq_true.mp xi_ty_ok q (List.mem_of_getElem? h)) k (List.mem_range.mpr hk)
  revert h0
  generalize (parseFieldDescriptor (q.2.1 k).2.2.1).getD .int = ty
  intro h0
  cases v <;> simp [xi_fit] at hf <;> cases ty <;> simp_all <;> first | exact ⟨rfl, rfl⟩ | skip
/-- what stays of the world outside, at a method's start -/
def xi_C (E : xi_E) (cA : Nat → ClassId) (D : va_G) (xs : Nat → Int32) (L : Nat) (U : State) (H : Heap) : Prop :=
  va_K D xi_cl (xi_tys cA) U ∧ va_X E.1 L xs U H ∧ E.1 < H.size ∧ E.1 < E.2.1 ∧ E.2.1 ≤ H.size ∧ va_AO "TowerRing$Game" U
/-- a method at work -/
def xi_At (p : Program) (c : Code) (cc : ByteArray) (s : State) (m : MethodId) (args : Array Value) (meth : Method) (R : Room) (mi : Nat) : Prop :=
  p.tables.exec = Jvm.exec ∧ c.code = cc ∧ (∀ w ∈ xi_W, w.before args s = true) ∧ s.vm.findClass (xi_cn (xi_m mi).1) = some m.cls ∧ meth.name = (xi_m mi).2.1 ∧ c.maxLocals = xi_maxL mi ∧ meth.locks = false ∧ xi_fr mi ≤ R.frames ∧ xi_lo mi ≤ R.locals
section XIH
variable {p : Program} {l : Launch} {e : Env} {R : Room} {s : State} {m : MethodId} {args : Array Value} {below : List Frame} {meth : Method} {c : Code} {H : Heap} {locs : List Loc} {cells slots : Nat} {Q : State → Prop}
variable {cc : ByteArray} {pc : Nat} {ls : Array Slot} {E : xi_E} {cA : Nat → ClassId} {D : va_G} {xs : Nat → Int32} {L mi : Nat} {st st' : List Value} {hp hp' : xi_H}
theorem xi_size {g : JFrame} (k : H.size ≤ s.heap.size + cells → W p l e R s m args below meth c H locs cells slots Q g) : W p l e R s m args below meth c H locs cells slots Q g := by
  intro T hT X
  have h := X.same.2.2.1
  exact k (by rw [← hT]; exact h) T hT X
theorem xi_getf_ok {idx : Nat} (A : xi_At p c cc s m args meth R mi) (C : xi_C E cA D xs L s s.heap) (hD : xi_D E cA D hp H) (h : xi_getf (xi_m mi).1 idx st hp = some (st', hp')) (hdg : decode cc pc = .ok (.getfield idx, 3))
    (kk : W p l e R s m args below meth c H locs cells slots Q (F0 m (pc + 3) ls (st'.map (xi_v E)))) : W p l e R s m args below meth c H locs cells slots Q (F0 m pc ls (st.map (xi_v E))) := by
  obtain ⟨hx, hb, hts, hown, -⟩ := A
  unfold xi_getf at h
  split at h
  · next i rest =>
    split at h
    · next ci k hf =>
      split at h
      · next c0 fs ho =>
        split at h
        · next hc =>
          subst hc
          split at h
          · next v hv =>
            cases h
            obtain ⟨q, hq, hk, hw⟩ := xi_fld_of hf
            obtain ⟨w1, w2, w3, w4⟩ := xi_cl_of hq
            obtain ⟨j, rfl, hj⟩ := xi_live hD.2 (i := i) (by rw [ho]; intro z; cases z; simp [xi_cl] at hq)
            have hg := xi_ws_get (E := E) (cA := cA) hj
            rw [ho] at hg
            show W p l e R s m args below meth c H locs cells slots Q (F0 m pc ls (.ref (xi_ad E (100 + j)) :: _))
            rw [xi_ad_new]
            exact va_get (D := D) (cl := xi_cl) (C := q.1) (T := q.2.1) (N := q.2.2) hx hb hts w1 hown C.1 hD.1 j hg hq k hk (hts _ hw) (fun x h9 => by rw [w3 k hk] at h9; exact h9) (v := xi_v E v) (by rw [List.getElem?_map, hv]; rfl) hdg kk
          · cases h
        · cases h
      · cases h
    · cases h
  · cases h
/-- a cell is written: the world behind it -/
theorem xi_wrote {H1 : Heap} {j : Nat} {o : xi_O} (hD : xi_D E cA D hp H) (hj : j < hp.2.1) (h1 : va_P D xi_cl ((xi_ws E cA hp).set j (E.2.1 + j, xi_o E cA o)) H1) : xi_D E cA D (xi_set hp.1 (100 + j) o, hp.2) H1 := by
  rw [xi_ws_set o hp.2.2.1 hp.2.2.2] at h1
  exact ⟨h1, xi_wf_set hD.2 hj o _ _⟩
theorem xi_putf_ok {idx : Nat} (A : xi_At p c cc s m args meth R mi) (C : xi_C E cA D xs L s s.heap) (hD : xi_D E cA D hp H) (hS : va_S (fun q => E.2.1 ≤ q) s.heap H locs) (h : xi_putf (xi_m mi).1 ((xi_m mi).2.1 == "<init>") idx st hp = some (st', hp')) (hdg : decode cc pc = .ok (.putfield idx, 3))
    (kk : ∀ (H1 : Heap) (locs1 : List Loc), hp'.2 = hp.2 → xi_D E cA D hp' H1 → va_S (fun q => E.2.1 ≤ q) s.heap H1 locs1 → W p l e R s m args below meth c H1 locs1 cells slots Q (F0 m (pc + 3) ls (st'.map (xi_v E)))) : W p l e R s m args below meth c H locs cells slots Q (F0 m pc ls (st.map (xi_v E))) := by
  obtain ⟨hx, hb, hts, hown, hmn, -⟩ := A
  unfold xi_putf at h
  split at h
  · next v i rest =>
    split at h
    · next ci k hf =>
      split at h
      · next c0 fs ho =>
        split at h
        · next hc =>
          obtain ⟨rfl, hl⟩ := hc
          split at h
          · next q hq =>
            split at h
            · next hfit =>
              cases h
              obtain ⟨q', hq', hk, hw⟩ := xi_fld_of hf
              cases Option.some.inj (hq.symm.trans hq')
              obtain ⟨w1, w2, w3, w4⟩ := xi_cl_of hq
              obtain ⟨j, rfl, hj⟩ := xi_live hD.2 (i := i) (by rw [ho]; intro z; cases z; simp [xi_cl] at hq)
              have hg := xi_ws_get (E := E) (cA := cA) hj
              rw [ho] at hg
              obtain ⟨f1, f2⟩ := xi_fit_of E hq hk hfit.1
              show W p l e R s m args below meth c H locs cells slots Q (F0 m pc ls (xi_v E v :: .ref (xi_ad E (100 + j)) :: _))
              rw [xi_ad_new]
              have key : ∀ (H1 : Heap) (locs1 : List Loc), va_P D xi_cl ((xi_ws E cA hp).set j (E.2.1 + j, .inr (c0, (fs.map (xi_v E)).set k (xi_v E v)))) H1 → va_D (fun q => E.2.1 ≤ q) ((xi_ws E cA hp).set j (E.2.1 + j, .inr (c0, (fs.map (xi_v E)).set k (xi_v E v)))) → va_S (fun q => E.2.1 ≤ q) s.heap H1 locs1 → W p l e R s m args below meth c H1 locs1 cells slots Q (F0 m (pc + 3) ls (List.map (xi_v E) st')) := by
                intro H1 locs1 hP1 _ hS1
                refine kk H1 locs1 rfl (xi_wrote hD hj ?_) hS1
                show va_P D xi_cl ((xi_ws E cA hp).set j (E.2.1 + j, .inr (c0, (fs.set k v).map (xi_v E)))) H1
                rw [List.map_set]
                exact hP1
              rcases hfit.2 with hfin | ⟨hin, hoc⟩
              · exact va_put (D := D) (cl := xi_cl) (C := q.1) (T := q.2.1) (N := q.2.2) hx hb hts w1 _ w2 w4 hown C.1 hD.1 xi_ws_D hS j hg hq k hk (hts _ hw) (fun x h9 => by rw [w3 k hk] at h9; exact h9) hfin (w2 k hk) f1 f2 (by rw [List.length_map]; exact hl) hdg key
              · by_cases hfin : (q.2.1 k).2.2.2 = true
                · exact va_putF (D := D) (cl := xi_cl) (C := q.1) (T := q.2.1) (N := q.2.2) hx hb hts w1 _ w2 w4 hown C.1 hD.1 xi_ws_D hS j hg hq k hk (hts _ hw) (fun x h9 => by rw [w3 k hk] at h9; exact h9) hfin (by rw [hmn]; exact beq_iff_eq.mp hin) (by rw [w3 k hk, hoc]; revert hq; rcases c0 with _ | _ | _ | _ | _ | _ | _ | _ | n <;> intro hq <;> first | (cases hq; rfl) | (simp [xi_cl] at hq)) (w2 k hk) f1 f2 (by rw [List.length_map]; exact hl) hdg key
                · exact va_put (D := D) (cl := xi_cl) (C := q.1) (T := q.2.1) (N := q.2.2) hx hb hts w1 _ w2 w4 hown C.1 hD.1 xi_ws_D hS j hg hq k hk (hts _ hw) (fun x h9 => by rw [w3 k hk] at h9; exact h9) (by simpa using hfin) (w2 k hk) f1 f2 (by rw [List.length_map]; exact hl) hdg key
            · cases h
          · cases h
        · cases h
      · cases h
    · cases h
  · cases h
end XIH
