section XIA
variable {p : Program} {l : Launch} {e : Env} {R : Room} {s : State} {m : MethodId} {args : Array Value} {below : List Frame} {meth : Method} {c : Code} {H : Heap} {locs : List Loc} {cells slots : Nat} {Q : State → Prop}
variable {cc : ByteArray} {pc : Nat} {ls : Array Slot} {E : xi_E} {cA : Nat → ClassId} {D : va_G} {xs : Nat → Int32} {L mi : Nat} {st st' : List Value} {hp hp' : xi_H}
theorem xi_iald_ok (A : xi_At p c cc s m args meth R mi) (C : xi_C E cA D xs L s s.heap) (hD : xi_D E cA D hp H) (hS : va_S (fun q => E.2.1 ≤ q) s.heap H locs) (h : xi_ald 0 xs L st hp = some (st', hp')) (hdg : decode cc pc = .ok (.iaload, 1))
    (kk : W p l e R s m args below meth c H locs cells slots Q (F0 m (pc + 1) ls (st'.map (xi_v E)))) : W p l e R s m args below meth c H locs cells slots Q (F0 m pc ls (st.map (xi_v E))) := by
  obtain ⟨hx, hb, -⟩ := A
  unfold xi_ald at h
  split at h
  · next i a rest =>
    split at h
    · next h0 =>
      subst h0
      split at h
      · next hin =>
        cases h
        exact va_sld hx hb C.2.1 C.2.2.1 (Nat.not_le.mpr C.2.2.2.1) hS (xi_in_vp hin.2) hdg kk
      · cases h
    · split at h
      · next t0 n f ho =>
        split at h
        · next hc =>
          obtain ⟨hc, hin⟩ := hc
          have ht : t0 = 0 := by omega
          subst ht
          cases h
          obtain ⟨j, rfl, hj⟩ := xi_live hD.2 (i := a) (by rw [ho]; intro z; cases z)
          have hg := xi_ws_get (E := E) (cA := cA) hj
          rw [ho] at hg
          show W p l e R s m args below meth c H locs cells slots Q (F0 m pc ls (.int i :: .ref (xi_ad E (100 + j)) :: _))
          rw [xi_ad_new]
          exact va_iald hx hb C.1 hD.1 j 0 hg rfl (xi_in_vp hin) hdg kk
        · cases h
      · cases h
  · cases h
theorem xi_bald_ok (A : xi_At p c cc s m args meth R mi) (C : xi_C E cA D xs L s s.heap) (hD : xi_D E cA D hp H) (h : xi_ald 1 xs L st hp = some (st', hp')) (hdg : decode cc pc = .ok (.baload, 1))
    (kk : W p l e R s m args below meth c H locs cells slots Q (F0 m (pc + 1) ls (st'.map (xi_v E)))) : W p l e R s m args below meth c H locs cells slots Q (F0 m pc ls (st.map (xi_v E))) := by
  obtain ⟨hx, hb, -⟩ := A
  unfold xi_ald at h
  split at h
  · next i a rest =>
    split at h
    · next h0 =>
      split at h
      · next hin => exact absurd hin.1 (by decide)
      · cases h
    · split at h
      · next t0 n f ho =>
        split at h
        · next hc =>
          obtain ⟨hc, hin⟩ := hc
          have ht : t0 = 1 ∨ t0 = 2 := by omega
          cases h
          obtain ⟨j, rfl, hj⟩ := xi_live hD.2 (i := a) (by rw [ho]; intro z; cases z)
          have hg := xi_ws_get (E := E) (cA := cA) hj
          rw [ho] at hg
          show W p l e R s m args below meth c H locs cells slots Q (F0 m pc ls (.int i :: .ref (xi_ad E (100 + j)) :: _))
          rw [xi_ad_new]
          rcases ht with rfl | rfl
          · exact va_bald hx hb C.1 hD.1 j 1 hg rfl (xi_in_vp hin) hdg kk
          · exact va_zald hx hb C.1 hD.1 j 2 hg rfl (xi_in_vp hin) hdg kk
        · cases h
      · cases h
  · cases h
theorem xi_lald_ok (A : xi_At p c cc s m args meth R mi) (C : xi_C E cA D xs L s s.heap) (hD : xi_D E cA D hp H) (h : xi_lald st hp = some (st', hp')) (hdg : decode cc pc = .ok (.laload, 1))
    (kk : W p l e R s m args below meth c H locs cells slots Q (F0 m (pc + 1) ls (st'.map (xi_v E)))) : W p l e R s m args below meth c H locs cells slots Q (F0 m pc ls (st.map (xi_v E))) := by
  obtain ⟨hx, hb, -⟩ := A
  unfold xi_lald at h
  split at h
  · next i a rest =>
    split at h
    · next n f ho =>
      split at h
      · next hin =>
        cases h
        obtain ⟨j, rfl, hj⟩ := xi_live hD.2 (i := a) (by rw [ho]; intro z; cases z)
        have hg := xi_ws_get (E := E) (cA := cA) hj
        rw [ho] at hg
        show W p l e R s m args below meth c H locs cells slots Q (F0 m pc ls (.int i :: .ref (xi_ad E (100 + j)) :: _))
        rw [xi_ad_new]
        exact va_lald hx hb C.1 hD.1 j 3 hg rfl (xi_in_vp hin) hdg kk
      · cases h
    · cases h
  · cases h
theorem xi_aald_ok (A : xi_At p c cc s m args meth R mi) (C : xi_C E cA D xs L s s.heap) (hD : xi_D E cA D hp H) (h : xi_aald st hp = some (st', hp')) (hdg : decode cc pc = .ok (.aaload, 1))
    (kk : W p l e R s m args below meth c H locs cells slots Q (F0 m (pc + 1) ls (st'.map (xi_v E)))) : W p l e R s m args below meth c H locs cells slots Q (F0 m pc ls (st.map (xi_v E))) := by
  obtain ⟨hx, hb, -⟩ := A
  unfold xi_aald at h
  split at h
  · next i a rest =>
    split at h
    · next n f ho =>
      split at h
      · next hin =>
        split at h
        · next r hr =>
          cases h
          obtain ⟨j, rfl, hj⟩ := xi_live hD.2 (i := a) (by rw [ho]; intro z; cases z)
          have hg := xi_ws_get (E := E) (cA := cA) hj
          rw [ho] at hg
          show W p l e R s m args below meth c H locs cells slots Q (F0 m pc ls (.int i :: .ref (xi_ad E (100 + j)) :: _))
          rw [xi_ad_new]
          refine va_aldq hx hb C.1 hD.1 j 4 hg rfl (xi_in_vp hin) hdg ?_
          rw [hr]
          exact kk
        · cases h
      · cases h
    · cases h
  · cases h
theorem xi_ast_ok {t : Nat} {i : Instr} (ht : (t = 0 ∧ i = .iastore) ∨ (t = 1 ∧ i = .bastore)) (A : xi_At p c cc s m args meth R mi) (C : xi_C E cA D xs L s s.heap) (hD : xi_D E cA D hp H) (hS : va_S (fun q => E.2.1 ≤ q) s.heap H locs) (h : xi_ast t st hp = some (st', hp')) (hdg : decode cc pc = .ok (i, 1))
    (kk : ∀ (H1 : Heap) (locs1 : List Loc), hp'.2 = hp.2 → xi_D E cA D hp' H1 → va_S (fun q => E.2.1 ≤ q) s.heap H1 locs1 → W p l e R s m args below meth c H1 locs1 cells slots Q (F0 m (pc + 1) ls (st'.map (xi_v E)))) : W p l e R s m args below meth c H locs cells slots Q (F0 m pc ls (st.map (xi_v E))) := by
  obtain ⟨hx, hb, -⟩ := A
  unfold xi_ast at h
  split at h
  · next x i a rest =>
    split at h
    · next t0 n f ho =>
      split at h
      · next hc =>
        obtain ⟨hc, hin⟩ := hc
        cases h
        obtain ⟨j, rfl, hj⟩ := xi_live hD.2 (i := a) (by rw [ho]; intro z; cases z)
        have hg := xi_ws_get (E := E) (cA := cA) hj
        rw [ho] at hg
        show W p l e R s m args below meth c H locs cells slots Q (F0 m pc ls (.int x :: .int i :: .ref (xi_ad E (100 + j)) :: _))
        rw [xi_ad_new]
        rcases ht with ⟨rfl, rfl⟩ | ⟨rfl, rfl⟩
        · have hz : t0 = 0 := by omega
          subst hz
          exact va_iast hx hb C.1 hD.1 xi_ws_D hS j 0 hg rfl (xi_in_vp hin) hdg (fun H1 locs1 hP1 _ hS1 => kk H1 locs1 rfl (xi_wrote hD hj hP1) hS1)
        · have hz : t0 = 1 ∨ t0 = 2 := by omega
          rcases hz with rfl | rfl
          · exact va_bast hx hb C.1 hD.1 xi_ws_D hS j 1 hg rfl (xi_in_vp hin) hdg (fun H1 locs1 hP1 _ hS1 => kk H1 locs1 rfl (xi_wrote hD hj hP1) hS1)
          · exact va_zast hx hb C.1 hD.1 xi_ws_D hS j 2 hg rfl (xi_in_vp hin) hdg (fun H1 locs1 hP1 _ hS1 => kk H1 locs1 rfl (xi_wrote hD hj hP1) hS1)
      · cases h
    · cases h
  · cases h
theorem xi_last_ok (A : xi_At p c cc s m args meth R mi) (C : xi_C E cA D xs L s s.heap) (hD : xi_D E cA D hp H) (hS : va_S (fun q => E.2.1 ≤ q) s.heap H locs) (h : xi_last st hp = some (st', hp')) (hdg : decode cc pc = .ok (.lastore, 1))
    (kk : ∀ (H1 : Heap) (locs1 : List Loc), hp'.2 = hp.2 → xi_D E cA D hp' H1 → va_S (fun q => E.2.1 ≤ q) s.heap H1 locs1 → W p l e R s m args below meth c H1 locs1 cells slots Q (F0 m (pc + 1) ls (st'.map (xi_v E)))) : W p l e R s m args below meth c H locs cells slots Q (F0 m pc ls (st.map (xi_v E))) := by
  obtain ⟨hx, hb, -⟩ := A
  unfold xi_last at h
  split at h
  · next x i a rest =>
    split at h
    · next n f ho =>
      split at h
      · next hin =>
        cases h
        obtain ⟨j, rfl, hj⟩ := xi_live hD.2 (i := a) (by rw [ho]; intro z; cases z)
        have hg := xi_ws_get (E := E) (cA := cA) hj
        rw [ho] at hg
        show W p l e R s m args below meth c H locs cells slots Q (F0 m pc ls (.long x :: .int i :: .ref (xi_ad E (100 + j)) :: _))
        rw [xi_ad_new]
        exact va_last hx hb C.1 hD.1 xi_ws_D hS j 3 hg rfl (xi_in_vp hin) hdg (fun H1 locs1 hP1 _ hS1 => kk H1 locs1 rfl (xi_wrote hD hj hP1) hS1)
      · cases h
    · cases h
  · cases h
theorem xi_aast_ok (A : xi_At p c cc s m args meth R mi) (C : xi_C E cA D xs L s s.heap) (hD : xi_D E cA D hp H) (hS : va_S (fun q => E.2.1 ≤ q) s.heap H locs) (h : xi_aast st hp = some (st', hp')) (hdg : decode cc pc = .ok (.aastore, 1))
    (kk : ∀ (H1 : Heap) (locs1 : List Loc), hp'.2 = hp.2 → xi_D E cA D hp' H1 → va_S (fun q => E.2.1 ≤ q) s.heap H1 locs1 → W p l e R s m args below meth c H1 locs1 cells slots Q (F0 m (pc + 1) ls (st'.map (xi_v E)))) : W p l e R s m args below meth c H locs cells slots Q (F0 m pc ls (st.map (xi_v E))) := by
  obtain ⟨hx, hb, -⟩ := A
  unfold xi_aast at h
  split at h
  · next r i a rest =>
    split at h
    · next n f vs ho hr =>
      split at h
      · next hin =>
        cases h
        obtain ⟨j, rfl, hj⟩ := xi_live hD.2 (i := a) (by rw [ho]; intro z; cases z)
        obtain ⟨j2, rfl, hj2⟩ := xi_live hD.2 (i := r) (by rw [hr]; intro z; cases z)
        have hg := xi_ws_get (E := E) (cA := cA) hj
        rw [ho] at hg
        have hg2 := xi_ws_get (E := E) (cA := cA) hj2
        rw [hr] at hg2
        show W p l e R s m args below meth c H locs cells slots Q (F0 m pc ls (.ref (xi_ad E (100 + j2)) :: .int i :: .ref (xi_ad E (100 + j)) :: _))
        rw [xi_ad_new, xi_ad_new]
        refine va_astq hx hb C.1 hD.1 xi_ws_D hS j 4 j2 1 hg rfl hg2 rfl (xi_in_vp hin) hdg (fun H1 locs1 hP1 _ hS1 => kk H1 locs1 rfl (xi_wrote hD hj ?_) hS1)
        have : (fun k => (va_up f i.toNatClampNeg (some (100 + j2)) k).map (xi_ad E)) = va_up (fun k => (f k).map (xi_ad E)) i.toNatClampNeg (some (E.2.1 + j2)) := by
          funext q
          unfold va_up
          split
          · rw [Option.map_some, xi_ad_new]
          · rfl
        show va_P D xi_cl ((xi_ws E cA hp).set j (E.2.1 + j, .inl (cA 4, n, .inr (.inr (.inr (.inr (fun k => (va_up f i.toNatClampNeg (some (100 + j2)) k).map (xi_ad E)))))))) H1
        rw [this]
        exact hP1
      · cases h
    · cases h
  · cases h
theorem xi_slen_ok (A : xi_At p c cc s m args meth R mi) (C : xi_C E cA D xs L s s.heap) (hS : va_S (fun q => E.2.1 ≤ q) s.heap H locs) (h : xi_slen L st hp = some (st', hp')) (hdg : decode cc pc = .ok (.arraylength, 1))
    (kk : W p l e R s m args below meth c H locs cells slots Q (F0 m (pc + 1) ls (st'.map (xi_v E)))) : W p l e R s m args below meth c H locs cells slots Q (F0 m pc ls (st.map (xi_v E))) := by
  obtain ⟨hx, hb, -⟩ := A
  unfold xi_slen at h
  split at h
  · cases h
    exact va_slen hx hb C.2.1 C.2.2.1 (Nat.not_le.mpr C.2.2.2.1) hS hdg kk
  · cases h
/-- how the cells are counted: at the method's start n0 of ours out of k0, z0 places -/
def xi_N (s : State) (E : xi_E) (n0 k0 z0 : Nat) (hp : xi_H) (cells slots : Nat) : Prop := (n0 = k0 → s.heap.size = E.2.1 + n0) ∧ n0 ≤ k0 ∧ k0 + hp.2.1 ≤ n0 + hp.2.2.1 ∧ hp.2.2.1 = k0 + cells ∧ hp.2.2.2 = z0 + slots
theorem xi_sz {n0 k0 z0 : Nat} (C : xi_C E cA D xs L s s.heap) (hD : xi_D E cA D hp H) (hS : va_S (fun q => E.2.1 ≤ q) s.heap H locs) (hN : xi_N s E n0 k0 z0 hp cells slots) (hn : hp.2.1 = hp.2.2.1) (hle : H.size ≤ s.heap.size + cells) : H.size = E.2.1 + hp.2.1 := by
  obtain ⟨a1, a2, a3, a4, -⟩ := hN
  have hz := a1 (by omega)
  have h1 : E.2.1 + hp.2.1 ≤ H.size := by
    by_cases h0 : hp.2.1 = 0
    · rw [h0]; exact Nat.le_trans C.2.2.2.2.1 hS.1
    · have := (hD.1 (hp.2.1 - 1) _ (xi_ws_get (by omega))).lt
      have h2 : E.2.1 + (hp.2.1 - 1) < H.size := this
      omega
  omega
theorem xi_made {H1 : Heap} {o : xi_O} (N : Nat) (hD : xi_D E cA D hp H) (hz : H.size = E.2.1 + hp.2.1) (h1 : va_at D xi_cl (H.size, xi_o E cA o) H1) (o1 : ∀ q, q < H.size → H1[q]? = H[q]?) : xi_D E cA D (xi_set hp.1 (100 + hp.2.1) o, hp.2.1 + 1, hp.2.2.1 + 1, hp.2.2.2 + N) H1 := by
  refine ⟨?_, xi_wf_push hD.2 o _ _⟩
  rw [← xi_ws_push]
  refine va_P.app (hD.1.kept (fun k x hx => o1 x.1 (hD.1 k x hx).lt)) ?_
  intro k x hx
  have hk : k < 1 := (List.getElem?_eq_some_iff.mp hx).1
  rw [show k = 0 by omega] at hx
  cases hx
  rw [← hz]
  exact h1
theorem xi_arrs : ∀ t ∈ [FieldType.int, FieldType.byte, FieldType.boolean, FieldType.long], Cond.arrayClass t ∈ lw_tbl := by decide +kernel
theorem xi_newa_ok {t : ArrayType} {n0 k0 z0 : Nat} (A : xi_At p c cc s m args meth R mi) (C : xi_C E cA D xs L s s.heap) (hD : xi_D E cA D hp H) (hS : va_S (fun q => E.2.1 ≤ q) s.heap H locs) (hN : xi_N s E n0 k0 z0 hp cells slots) (h : xi_newa t st hp = some (st', hp')) (hdg : decode cc pc = .ok (.newarray t, 2)) (hR : hp'.2.2.1 ≤ k0 + R.cells ∧ hp'.2.2.2 ≤ z0 + R.slots)
    (kk : ∀ (H1 : Heap) (cells1 slots1 : Nat), xi_N s E n0 k0 z0 hp' cells1 slots1 → xi_D E cA D hp' H1 → va_S (fun q => E.2.1 ≤ q) s.heap H1 locs → W p l e R s m args below meth c H1 locs cells1 slots1 Q (F0 m (pc + 2) ls (st'.map (xi_v E)))) : W p l e R s m args below meth c H locs cells slots Q (F0 m pc ls (st.map (xi_v E))) := by
  obtain ⟨hx, hb, hts, -⟩ := A
  unfold xi_newa at h
  split at h
  · next n rest =>
    split at h
    · next hb0 =>
      have hn0 : ¬ n < 0 := by
        rw [Int32.not_lt]; exact hb0.1
      have hn1 : n.toNatClampNeg ≤ 10000 := by
        have := Int32.le_iff_toInt_le.mp hb0.2
        have h9 : (10000 : Int32).toInt = 10000 := by decide
        rw [h9] at this
        unfold Int32.toNatClampNeg
        omega
      have go : ∀ (tt : FieldType) (ti : Nat) (o : xi_O), newarray.typeOf t = tt → (xi_tys cA)[ti]? = some (cA ti, tt) → tt ∈ [FieldType.int, FieldType.byte, FieldType.boolean, FieldType.long] → (∀ H1 : Heap, H1[H.size]? = some (arrV (cA ti) n.toNatClampNeg (fun _ => defaultValue tt)) → va_at D xi_cl (H.size, xi_o E cA o) H1) → xi_mk o n.toNatClampNeg rest hp = some (st', hp') → W p l e R s m args below meth c H locs cells slots Q (F0 m pc ls (List.map (xi_v E) (.int n :: rest))) := by
        intro tt ti o htt hty hmem hat h
        unfold xi_mk at h
        split at h
        · next hn =>
          cases h
          refine xi_size fun hle => ?_
          have hz := xi_sz C hD hS hN hn hle
          obtain ⟨b1, b2, b3, b4, b5⟩ := id hN
          refine va_newaK hx hb (by rw [htt]; exact hts _ (List.mem_filter.mpr ⟨xi_arrs _ hmem, rfl⟩)) rfl hdg rfl hn0 rfl (by
            have : componentBytes (newarray.typeOf t) ≤ 8 := by rw [htt]; simp only [List.mem_cons, List.not_mem_nil, or_false] at hmem; rcases hmem with h9 | h9 | h9 | h9 <;> rw [h9] <;> decide
            calc n.toNatClampNeg * componentBytes (newarray.typeOf t) ≤ 10000 * 8 := Nat.mul_le_mul hn1 this
              _ ≤ 536870912 := by decide) (by have h1 : hp.2.2.1 + 1 ≤ k0 + R.cells := hR.1; omega) (by have h1 : hp.2.2.2 + n.toNatClampNeg ≤ z0 + R.slots := hR.2; omega) rfl fun H1 cX e1 z1 o1 hAr hNm => ?_
          have hcX : cX = cA ti := by
            have h8 := (C.1.2 ti _ hty).2
            have h9 : s.vm.findClass ("[" ++ tt.toString) = some (cA ti) := by
              simp only [List.mem_cons, List.not_mem_nil, or_false] at hmem
              rcases hmem with h7 | h7 | h7 | h7 <;> rw [h7] at h8 ⊢ <;> exact h8
            rw [htt] at hNm
            exact Option.some.inj (hNm.symm.trans h9)
          subst hcX
          rw [htt] at e1
          have hD1 := xi_made (H1 := H1) n.toNatClampNeg hD hz (hat H1 e1) o1
          have := kk H1 (cells + 1) (slots + n.toNatClampNeg) ⟨b1, b2, by show k0 + (hp.2.1 + 1) ≤ n0 + (hp.2.2.1 + 1); omega, by show hp.2.2.1 + 1 = _; omega, by show hp.2.2.2 + _ = _; omega⟩ hD1 ⟨Nat.le_trans hS.1 (by omega), fun q h1 h2 => by rw [o1 q (Nat.lt_of_lt_of_le h1 hS.1)]; exact hS.2.1 q h1 h2, hS.2.2⟩
          rw [List.map_cons, xi_v_ref, xi_ad_new, ← hz] at this
          exact this
        · cases h
      split at h
      · exact go .int 0 (.inl (0, n.toNatClampNeg, .inl fun _ => 0)) rfl rfl (by simp) (fun H1 h1 => h1) h
      · exact go .byte 1 (.inl (1, n.toNatClampNeg, .inl fun _ => 0)) rfl rfl (by simp) (fun H1 h1 => h1) h
      · exact go .boolean 2 (.inl (2, n.toNatClampNeg, .inl fun _ => 0)) rfl rfl (by simp) (fun H1 h1 => h1) h
      · exact go .long 3 (.inl (3, n.toNatClampNeg, .inr (.inl fun _ => 0))) rfl rfl (by simp) (fun H1 h1 => h1) h
      · cases h
    · cases h
  · cases h
theorem xi_newq_ok {idx n0 k0 z0 : Nat} (A : xi_At p c cc s m args meth R mi) (C : xi_C E cA D xs L s s.heap) (hD : xi_D E cA D hp H) (hS : va_S (fun q => E.2.1 ≤ q) s.heap H locs) (hN : xi_N s E n0 k0 z0 hp cells slots) (h : xi_newq (xi_m mi).1 idx st hp = some (st', hp')) (hdg : decode cc pc = .ok (.anewarray idx, 3)) (hR : hp'.2.2.1 ≤ k0 + R.cells ∧ hp'.2.2.2 ≤ z0 + R.slots)
    (kk : ∀ (H1 : Heap) (cells1 slots1 : Nat), xi_N s E n0 k0 z0 hp' cells1 slots1 → xi_D E cA D hp' H1 → va_S (fun q => E.2.1 ≤ q) s.heap H1 locs → W p l e R s m args below meth c H1 locs cells1 slots1 Q (F0 m (pc + 3) ls (st'.map (xi_v E)))) : W p l e R s m args below meth c H locs cells slots Q (F0 m pc ls (st.map (xi_v E))) := by
  obtain ⟨hx, hb, hts, hown, -⟩ := A
  unfold xi_newq at h
  split at h
  · next n rest =>
    split at h
    · next hb0 =>
      obtain ⟨hb1, hb2, hnew⟩ := hb0
      have hn0 : ¬ n < 0 := by
        rw [Int32.not_lt]; exact hb1
      have hn1 : n.toNatClampNeg ≤ 10000 := by
        have := Int32.le_iff_toInt_le.mp hb2
        have h9 : (10000 : Int32).toInt = 10000 := by decide
        rw [h9] at this
        unfold Int32.toNatClampNeg
        omega
      obtain ⟨q, hq, hw, -, -, -⟩ := xi_new_of hnew
      cases hq
      unfold xi_mk at h
      split at h
      · next hn =>
        cases h
        refine xi_size fun hle => ?_
        have hz := xi_sz C hD hS hN hn hle
        obtain ⟨b1, b2, b3, b4, b5⟩ := id hN
        refine W.anew hx hb hown (hts _ hw) (va_AO.use C.2.2.2.2.2) rfl hdg rfl hn0 (by omega) (by have h1 : hp.2.2.1 + 1 ≤ k0 + R.cells := hR.1; omega) (by have h1 : hp.2.2.2 + n.toNatClampNeg ≤ z0 + R.slots := hR.2; omega) fun cX kA comp f1 f2 f3 f4 => ?_
        generalize hH1 : H.push ({ cls := cX, slots := Array.replicate n.toNatClampNeg .null, vm := .none } : Cell) = H1
        have z1 : H1.size = H.size + 1 := by rw [← hH1, Array.size_push]
        have e1 : H1[H.size]? = some (arrV cX n.toNatClampNeg (fun _ => .null)) := by rw [← hH1, Array.getElem?_push_size, ← arrV_new]
        have o1 : ∀ q : Nat, q < H.size → H1[q]? = H[q]? := fun q hq => by rw [← hH1, Array.getElem?_push, if_neg (Nat.ne_of_lt hq)]
        have hcX : cX = cA 4 := by
          obtain ⟨-, -, -, -, -, h9⟩ := (C.1.2 4 _ rfl).2
          exact Option.some.inj (f1.symm.trans h9)
        subst hcX
        have hD1 := xi_made (H1 := H1) (o := .inl (4, n.toNatClampNeg, .inr (.inr (.inr (.inr fun _ => none))))) n.toNatClampNeg hD hz e1 o1
        have := kk H1 (cells + 1) (slots + n.toNatClampNeg) ⟨b1, b2, by show k0 + (hp.2.1 + 1) ≤ n0 + (hp.2.2.1 + 1); omega, by show hp.2.2.1 + 1 = _; omega, by show hp.2.2.2 + _ = _; omega⟩ hD1 ⟨Nat.le_trans hS.1 (by omega), fun q h1 h2 => by rw [o1 q (Nat.lt_of_lt_of_le h1 hS.1)]; exact hS.2.1 q h1 h2, hS.2.2⟩
        rw [List.map_cons, xi_v_ref, xi_ad_new, ← hz] at this
        exact this
      · cases h
    · cases h
  · cases h
theorem xi_newo_ok {idx n0 k0 z0 : Nat} (A : xi_At p c cc s m args meth R mi) (C : xi_C E cA D xs L s s.heap) (hD : xi_D E cA D hp H) (hS : va_S (fun q => E.2.1 ≤ q) s.heap H locs) (hN : xi_N s E n0 k0 z0 hp cells slots) (h : xi_newo (xi_m mi).1 idx st hp = some (st', hp')) (hdg : decode cc pc = .ok (.new idx, 3)) (hR : hp'.2.2.1 ≤ k0 + R.cells ∧ hp'.2.2.2 ≤ z0 + R.slots)
    (kk : ∀ (H1 : Heap) (cells1 slots1 : Nat), xi_N s E n0 k0 z0 hp' cells1 slots1 → xi_D E cA D hp' H1 → va_S (fun q => E.2.1 ≤ q) s.heap H1 locs → W p l e R s m args below meth c H1 locs cells1 slots1 Q (F0 m (pc + 3) ls (st'.map (xi_v E)))) : W p l e R s m args below meth c H locs cells slots Q (F0 m pc ls (st.map (xi_v E))) := by
  obtain ⟨hx, hb, hts, hown, -⟩ := A
  unfold xi_newo at h
  split at h
  · next ci hnew =>
    obtain ⟨q, hq, hw, hi, hcn, h8⟩ := xi_new_of hnew
    obtain ⟨w1, w2, w3, w4⟩ := xi_cl_of hq
    have hdf := List.all_eq_true.mp xi_df_ok ci (List.mem_range.mpr h8)
    rw [hq] at hdf
    simp only [Bool.and_eq_true, decide_eq_true_eq, List.all_eq_true, List.mem_range] at hdf
    unfold xi_mk at h
    split at h
    · next hn =>
      cases h
      refine xi_size fun hle => ?_
      have hz := xi_sz C hD hS hN hn hle
      obtain ⟨b1, b2, b3, b4, b5⟩ := id hN
      have hKn := C.1.1 ci _ hq
      have hini : Cond.initialized q.1 ∈ xi_W := by
        rw [hcn]
        have := List.all_eq_true.mp xi_ini_ok ci (List.mem_range.mpr (by omega))
        exact xi_W_of (of_decide_eq_true this) rfl
      rw [hdf.2] at hR kk
      refine W.newcK hx hb hown (hts _ hw) (hts _ hi) (hts _ hini) rfl hdg (by have h1 : hp.2.2.1 + 1 ≤ k0 + R.cells := hR.1; omega) (by have h1 : hp.2.2.2 + q.2.2 ≤ z0 + R.slots := hR.2; omega) hKn.2.1 rfl fun H1 kC hkC e1 z1 o1 => ?_
      have hat : va_at D xi_cl (H.size, xi_o E cA (.inr (ci, xi_df ci))) H1 := by
        refine ⟨_, hq, (u_born _ hts w1 hKn hkC e1 w2).to (fun j hj => ?_)⟩
        rw [hdf.1 j hj]
        unfold vp_V
        have h9 : (xi_df ci).map (xi_v E) = xi_df ci := by
          rcases ci with _ | _ | _ | _ | _ | _ | _ | _ | n <;> rfl
        rw [h9]
      have hD1 := xi_made (H1 := H1) q.2.2 hD hz hat o1
      have := kk H1 (cells + 1) (slots + q.2.2) ⟨b1, b2, by show k0 + (hp.2.1 + 1) ≤ n0 + (hp.2.2.1 + 1); omega, by show hp.2.2.1 + 1 = _; omega, by show hp.2.2.2 + _ = _; omega⟩ hD1 ⟨Nat.le_trans hS.1 (by omega), fun q h1 h2 => by rw [o1 q (Nat.lt_of_lt_of_le h1 hS.1)]; exact hS.2.1 q h1 h2, hS.2.2⟩
      rw [List.map_cons, xi_v_ref, xi_ad_new, ← hz] at this
      exact this
    · cases h
  · cases h
end XIA
