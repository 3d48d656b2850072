def xi_nms : List String := ["java/lang/RuntimeException", "java/lang/Exception"]
abbrev xi_b_nse : ByteArray := prog_27_method_4_code
theorem d_nse_0 : decode xi_b_nse 0 = .ok (.aload_n 0, 1) := by decide +kernel
theorem d_nse_1 : decode xi_b_nse 1 = .ok (.aload_n 1, 1) := by decide +kernel
theorem d_nse_2 : decode xi_b_nse 2 = .ok (.invokespecial 13, 3) := by decide +kernel
theorem d_nse_5 : decode xi_b_nse 5 = .ok (.return_, 1) := by decide +kernel
def xi_thA (ic : Nat) (X : String) : List Cond := if X = "java/util/NoSuchElementException" then (xi_atX "TowerRing" ic X 13 xi_b_nse xi_nms).filter vx_no else vx_atS "TowerRing" ic X xi_nms
theorem xi_thw : xi_th.all (fun e => Bundle.fit e.2.2 && xi_nms.all Bundle.fit && decide (e.2.2 ∈ xi_ex) && decide (Cond.classLink "TowerRing" e.1 e.2.2 ∈ lw_tbl) && decide (Cond.initialized e.2.2 ∈ lw_tbl) && (xi_thA e.2.1 e.2.2).all (fun w => if goodWord w = true then decide (w ∈ lw_tbl) else decide (w ∈ Cond.castable e.2.2 e.2.2 :: xi_dc.map Cond.declares)) && (Cond.classLink "TowerRing" e.1 e.2.2 :: Cond.initialized e.2.2 :: xi_thA e.2.1 e.2.2).all vx_ot) = true := by decide +kernel
section XIT
variable {p : Program} {l : Launch} {e : Env} {R : Room} {s : State} {m : MethodId} {args : Array Value} {below : List Frame} {meth : Method} {c : Code} {H : Heap} {locs : List Loc} {cells slots : Nat} {Q : State → Prop}
variable {cc : ByteArray} {pc : Nat} {ls : Array Slot} {E : xi_E} {cA : Nat → ClassId} {D : va_G} {xs : Nat → Int32} {L mi : Nat} {st st' ll ll' : List Value} {hp hp' : xi_H}
theorem xi_thr_ok {X : String} {i : Instr} {mc ms : Nat} {Qc : Array Value → State → Outcome → State → Prop} (hst : l.stackTraces = false) (A : xi_At p c (xi_m mi).2.2.2.1 s m args meth R mi) (htab : c.exceptionTable.toList = tableOf (xi_hh mi)) (K : xi_K E cA D xs L s s.heap) (hD : xi_D E cA D hp H) (hS : va_S (xi_Aa E) s.heap H locs) (hsz : ls.size = c.maxLocals) (h : xi_thr mi pc i st = some X) (hdg : decode (xi_m mi).2.2.2.1 pc = .ok (i, xi_len i)) (hc1 : cells + 1 ≤ mc) (hs1 : slots + 6 ≤ ms) (hc2 : mc ≤ R.cells) (hs2 : ms ≤ R.slots) :
    W p l e R s m args below meth c H locs cells slots (vx_MQ below Qc (xi_XC E cA D (.inr X) (hp.1, hp.2.1, hp.2.2.1 + 1, hp.2.2.2 + 6)) args s mc ms (xi_Aa E)) (F0 m pc ls (st.map (xi_v E))) := by
  obtain ⟨hx, hb, hts, hown, -, -, hlocks, hfr, hlo⟩ := A
  unfold xi_thr at h
  split at h
  · next zik =>
    split at h
    · next hc =>
      obtain ⟨h6, hhh, hf6, hl6, hlow⟩ := hc
      rw [h6] at hown
      have hown : s.vm.findClass "TowerRing" = some m.cls := hown
      have htab0 : c.exceptionTable.toList = [] := by
        rw [htab, List.isEmpty_iff.mp hhh]
        rfl
      have hl9 := xi_low_of (E := E) hlow
      split at h
      · next ze hze =>
        have hm := List.mem_of_find?_eq_some hze
        have hpz := List.find?_some hze
        rw [beq_iff_eq] at hpz
        have hw := List.all_eq_true.mp xi_thw ze hm
        simp only [Bool.and_eq_true, decide_eq_true_eq, List.all_eq_true] at hw
        obtain ⟨⟨⟨⟨⟨⟨w1, w2⟩, w3⟩, w4⟩, w5⟩, w6⟩, w7⟩ := hw
        rw [hpz] at w4 w7
        have hk := hts _ (List.mem_filter.mpr ⟨w4, rfl⟩)
        have hini := hts _ (List.mem_filter.mpr ⟨w5, rfl⟩)
        have hat : ∀ w ∈ xi_thA ze.2.1 ze.2.2, w.before args s = true := by
          intro w hw
          have := w6 w hw
          split at this
          · next hg => exact hts _ (List.mem_filter.mpr ⟨of_decide_eq_true this, hg⟩)
          · have h9 := of_decide_eq_true this
            rcases List.mem_cons.mp h9 with rfl | h9
            · exact va_Nw.use rfl (K.2.1 _ w3)
            · obtain ⟨y, hy, rfl⟩ := List.mem_map.mp h9
              exact va_Nw.use rfl (K.2.2.1 y hy)
        have hxc : ∀ t : State, s.vm.Alike t.vm → H.size ≤ t.heap.size → (∀ q : Nat, q < H.size → t.heap[q]? = H[q]?) → xi_XC E cA D (.inr ze.2.2) (hp.1, hp.2.1, hp.2.2.1 + 1, hp.2.2.2 + 6) ze.2.2 s t := by
          intro t _ hz hk
          refine ⟨rfl, ⟨?_, hD.2⟩, Nat.le_trans hS.1 hz, fun q h1 h2 => ?_⟩
          · have := hD.1.kept (H1 := t.heap) (fun k q hq => hk q.1 (hD.1 k q hq).lt)
            exact this
          · rw [hk q (Nat.lt_of_lt_of_le h1 hS.1)]
            exact hS.2.1 q h1 h2
        have hnm : xi_nms.length = 2 := rfl
        split at h
        · next zsi hc3 hc4 =>
          split at h
          · next hcc =>
            cases h
            obtain ⟨hc6, hc9, hxt⟩ := hcc
            obtain ⟨q, hq, hqe⟩ := List.any_eq_true.mp hxt
            rw [beq_iff_eq] at hqe
            obtain ⟨sa, hR⟩ := K.2.2.2.2.2.2.2.2.1 q hq
            rw [hqe] at hR
            unfold xi_thA at hat w7
            by_cases hNS : ze.2.2 = "java/util/NoSuchElementException"
            · rw [if_pos hNS] at hat w7
              exact xi_throwSX hx hb hst d_nse_0 d_nse_1 d_nse_2 d_nse_5 hown w1 w2 hk hini hR hat w7 K.2.2.2.2.2.1 K.2.2.2.2.2.2.1 hS hsz hdg (xi_code_ok hc3) (xi_code_ok hc4) (xi_code_ok hc6) (xi_code_ok hc9) (by rw [htab0]; intro x hx; cases hx) (by rw [hnm]; omega) (by rw [hnm]; omega) (by omega) (by omega) hlocks hxc hS.2.2 hc1 hs1
            · rw [if_neg hNS] at hat w7
              exact vx_throwS hx hb hst hown w1 w2 hk hini hR hat w7 K.2.2.2.2.2.1 K.2.2.2.2.2.2.1 hS hsz hdg (xi_code_ok hc3) (xi_code_ok hc4) (xi_code_ok hc6) (xi_code_ok hc9) (by rw [htab0]; intro x hx; cases hx) (by rw [hnm]; omega) (by rw [hnm]; omega) (by omega) (by omega) hlocks hxc hS.2.2 hc1 hs1
          · cases h
        · next zsi hc3 hc4 =>
          split at h
          · next hcc =>
            cases h
            obtain ⟨hc6, hc9, hxt⟩ := hcc
            obtain ⟨q, hq, hqe⟩ := List.any_eq_true.mp hxt
            rw [beq_iff_eq] at hqe
            obtain ⟨sa, hR⟩ := K.2.2.2.2.2.2.2.2.1 q hq
            rw [hqe] at hR
            unfold xi_thA at hat w7
            by_cases hNS : ze.2.2 = "java/util/NoSuchElementException"
            · rw [if_pos hNS] at hat w7
              exact xi_throwSWX hx hb hst d_nse_0 d_nse_1 d_nse_2 d_nse_5 hown w1 w2 hk hini hR hat w7 K.2.2.2.2.2.1 K.2.2.2.2.2.2.1 hS hsz hdg (xi_code_ok hc3) (xi_code_ok hc4) (xi_code_ok hc6) (xi_code_ok hc9) (by rw [htab0]; intro x hx; cases hx) (by rw [hnm]; omega) (by rw [hnm]; omega) (by omega) (by omega) hlocks hxc hS.2.2 hc1 hs1
            · rw [if_neg hNS] at hat w7
              exact vx_throwSW hx hb hst hown w1 w2 hk hini hR hat w7 K.2.2.2.2.2.1 K.2.2.2.2.2.2.1 hS hsz hdg (xi_code_ok hc3) (xi_code_ok hc4) (xi_code_ok hc6) (xi_code_ok hc9) (by rw [htab0]; intro x hx; cases hx) (by rw [hnm]; omega) (by rw [hnm]; omega) (by omega) (by omega) hlocks hxc hS.2.2 hc1 hs1
          · cases h
        · cases h
      · cases h
    · cases h
  · cases h
theorem xi_getf_eq {own idx : Nat} (h : xi_getf own idx st hp = some (st', hp')) : hp' = hp := by
  unfold xi_getf at h
  split at h <;> (try split at h) <;> (try split at h) <;> (try split at h) <;> (try split at h) <;> first | (cases h; rfl) | cases h
theorem xi_ald_eq {t : Nat} (h : xi_ald t xs L st hp = some (st', hp')) : hp' = hp := by
  unfold xi_ald at h
  split at h <;> (try split at h) <;> (try split at h) <;> (try split at h) <;> (try split at h) <;> first | (cases h; rfl) | cases h
theorem xi_lald_eq (h : xi_lald st hp = some (st', hp')) : hp' = hp := by
  unfold xi_lald at h
  split at h <;> (try split at h) <;> (try split at h) <;> (try split at h) <;> (try split at h) <;> first | (cases h; rfl) | cases h
theorem xi_aald_eq (h : xi_aald st hp = some (st', hp')) : hp' = hp := by
  unfold xi_aald at h
  split at h <;> (try split at h) <;> (try split at h) <;> (try split at h) <;> (try split at h) <;> first | (cases h; rfl) | cases h
theorem xi_slen_eq (h : xi_slen L st hp = some (st', hp')) : hp' = hp := by
  unfold xi_slen at h
  split at h <;> first | (cases h; rfl) | cases h
theorem xi_ldc_eq {own idx : Nat} (h : xi_ldc own idx st hp = some (st', hp')) : hp' = hp := by
  unfold xi_ldc at h
  split at h <;> (try split at h) <;> first | (cases h; rfl) | cases h
theorem xi_p6_eq (h : xi_p6 st hp = some (st', hp')) : hp' = hp := by
  unfold xi_p6 at h
  split at h <;> (try split at h) <;> first | (cases h; rfl) | cases h
theorem xi_p9_eq (h : xi_p9 st hp = some (st', hp')) : hp' = hp := by
  unfold xi_p9 at h
  split at h <;> (try split at h) <;> first | (cases h; rfl) | cases h
theorem xi_p10_eq (h : xi_p10 st hp = some (st', hp')) : hp' = hp := by
  unfold xi_p10 at h
  split at h <;> (try split at h) <;> first | (cases h; rfl) | cases h
theorem xi_str_eq {i : Instr} (h : xi_str mi i st hp = some (st', hp')) : hp' = hp := by
  unfold xi_str at h
  split at h <;> (try split at h) <;> (try split at h) <;> (try split at h) <;> first | (cases h; rfl) | cases h
theorem xi_putf_eq {own idx : Nat} {b : Bool} (h : xi_putf own b idx st hp = some (st', hp')) : hp'.2 = hp.2 := by
  unfold xi_putf at h
  split at h <;> (try split at h) <;> (try split at h) <;> (try split at h) <;> (try split at h) <;> (try split at h) <;> first | (cases h; rfl) | cases h
theorem xi_ast_eq {t : Nat} (h : xi_ast t st hp = some (st', hp')) : hp'.2 = hp.2 := by
  unfold xi_ast at h
  split at h <;> (try split at h) <;> (try split at h) <;> (try split at h) <;> first | (cases h; rfl) | cases h
theorem xi_last_eq (h : xi_last st hp = some (st', hp')) : hp'.2 = hp.2 := by
  unfold xi_last at h
  split at h <;> (try split at h) <;> (try split at h) <;> (try split at h) <;> first | (cases h; rfl) | cases h
theorem xi_aast_eq (h : xi_aast st hp = some (st', hp')) : hp'.2 = hp.2 := by
  unfold xi_aast at h
  split at h <;> (try split at h) <;> (try split at h) <;> (try split at h) <;> first | (cases h; rfl) | cases h
theorem xi_p5_eq (h : xi_p5 st hp = some (st', hp')) : hp'.2 = hp.2 := by
  unfold xi_p5 at h
  split at h <;> (try split at h) <;> (try split at h) <;> (try split at h) <;> first | (cases h; rfl) | cases h
theorem xi_heap_mono {i : Instr} (h : xi_heap xs L mi i st hp = some (st', hp')) : hp.2.2.1 ≤ hp'.2.2.1 ∧ hp.2.2.2 ≤ hp'.2.2.2 ∧ hp.2.2.1 + hp'.2.1 ≤ hp.2.1 + hp'.2.2.1 := by
  unfold xi_heap at h
  split at h
  · exact xi_mono_of (by rw [xi_getf_eq h])
  · exact xi_mono_of (xi_putf_eq h)
  · exact xi_mono_of (by rw [xi_ald_eq h])
  · exact xi_mono_of (by rw [xi_ald_eq h])
  · exact xi_mono_of (xi_ast_eq h)
  · exact xi_mono_of (xi_ast_eq h)
  · exact xi_mono_of (by rw [xi_lald_eq h])
  · exact xi_mono_of (xi_last_eq h)
  · exact xi_mono_of (by rw [xi_aald_eq h])
  · exact xi_mono_of (xi_aast_eq h)
  · exact xi_mono_of (by rw [xi_slen_eq h])
  · exact xi_newa_mono h
  · exact xi_newq_mono h
  · exact xi_newo_mono h
  · exact xi_mono_of (by rw [xi_ldc_eq h])
  · split at h <;> first | (cases h; exact xi_mono_of rfl) | cases h
  · split at h
    · split at h
      · exact xi_mono_of (by rw [xi_p6_eq h])
      · cases h
    · cases h
  · split at h
    · split at h
      · exact xi_mono_of (xi_p5_eq h)
      · exact xi_mono_of (by rw [xi_p9_eq h])
      · exact xi_mono_of (by rw [xi_p10_eq h])
      · cases h
    · cases h
  · cases h
/-- the instructions of the heap, together -/
theorem xi_heap_ok {i : Instr} {n0 k0 z0 : Nat} (A : xi_At p c cc s m args meth R mi) (K : xi_K E cA D xs L s s.heap) (hD : xi_D E cA D hp H) (hS : va_S (xi_Aa E) s.heap H locs) (hN : xi_N s E n0 k0 z0 hp cells slots) (hsz : ls.size = c.maxLocals) (h : xi_heap xs L mi i st hp = some (st', hp')) (hdg : decode cc pc = .ok (i, xi_len i)) (hR : hp'.2.2.1 ≤ k0 + R.cells ∧ hp'.2.2.2 ≤ z0 + R.slots)
    (kk : ∀ (H1 : Heap) (locs1 : List Loc) (cells1 slots1 : Nat), xi_N s E n0 k0 z0 hp' cells1 slots1 → xi_D E cA D hp' H1 → va_S (xi_Aa E) s.heap H1 locs1 → W p l e R s m args below meth c H1 locs1 cells1 slots1 Q (F0 m (pc + xi_len i) ls (st'.map (xi_v E)))) : W p l e R s m args below meth c H locs cells slots Q (F0 m pc ls (st.map (xi_v E))) := by
  have C := K.1
  have hN' : hp'.2 = hp.2 → xi_N s E n0 k0 z0 hp' cells slots := fun h => by unfold xi_N; rw [h]; exact hN
  have hR' : hp' = hp → cells ≤ R.cells ∧ slots ≤ R.slots := fun h => by
    rw [h] at hR
    obtain ⟨-, -, -, a, b⟩ := hN
    omega
  have k1 : hp' = hp → W p l e R s m args below meth c H locs cells slots Q (F0 m (pc + xi_len i) ls (st'.map (xi_v E))) := fun h => by
    subst h
    exact kk H locs cells slots hN hD hS
  unfold xi_heap at h
  split at h
  · exact xi_getf_ok A C hD h hdg (k1 (xi_getf_eq h))
  · exact xi_putf_ok A C hD hS h hdg (fun H1 locs1 h2 hD1 hS1 => kk H1 locs1 cells slots (hN' h2) hD1 hS1)
  · exact xi_iald_ok A C hD hS h hdg (k1 (xi_ald_eq h))
  · exact xi_bald_ok A C hD h hdg (k1 (xi_ald_eq h))
  · exact xi_ast_ok (Or.inl ⟨rfl, rfl⟩) A C hD hS h hdg (fun H1 locs1 h2 hD1 hS1 => kk H1 locs1 cells slots (hN' h2) hD1 hS1)
  · exact xi_ast_ok (Or.inr ⟨rfl, rfl⟩) A C hD hS h hdg (fun H1 locs1 h2 hD1 hS1 => kk H1 locs1 cells slots (hN' h2) hD1 hS1)
  · exact xi_lald_ok A C hD h hdg (k1 (xi_lald_eq h))
  · exact xi_last_ok A C hD hS h hdg (fun H1 locs1 h2 hD1 hS1 => kk H1 locs1 cells slots (hN' h2) hD1 hS1)
  · exact xi_aald_ok A C hD h hdg (k1 (xi_aald_eq h))
  · exact xi_aast_ok A C hD hS h hdg (fun H1 locs1 h2 hD1 hS1 => kk H1 locs1 cells slots (hN' h2) hD1 hS1)
  · exact xi_slen_ok A C hS h hdg (k1 (xi_slen_eq h))
  · exact xi_newa_ok A C hD hS hN h hdg hR (fun H1 c1 s1 hN1 hD1 hS1 => kk H1 locs c1 s1 hN1 hD1 hS1)
  · exact xi_newq_ok A C hD hS hN h hdg hR (fun H1 c1 s1 hN1 hD1 hS1 => kk H1 locs c1 s1 hN1 hD1 hS1)
  · exact xi_newo_ok A C hD hS hN h hdg hR (fun H1 c1 s1 hN1 hD1 hS1 => kk H1 locs c1 s1 hN1 hD1 hS1)
  · exact xi_ldc_ok A K h hdg (fun h2 => k1 h2)
  · obtain ⟨hx, hb, hts, hown, -⟩ := A
    split at h
    · next zv hv =>
      cases h
      exact lv_ldcw hx hb hown (hts _ (xi_kon_of hv)) hdg (k1 rfl)
    · cases h
  · split at h
    · next hf =>
      split at h
      · next hpr => exact xi_obj_ok A hf.1 hf.2 hsz hpr h hdg (fun h2 => k1 h2)
      · cases h
    · cases h
  · split at h
    · next hf =>
      split at h
      · next hpr => exact xi_copy_ok A hf.1 hf.2 C hD hS hsz hpr h hdg (fun H1 locs1 h2 hD1 hS1 => kk H1 locs1 cells slots (hN' h2) hD1 hS1)
      · next hpr => exact xi_max_ok A hf.1 hf.2 hsz (hR' (xi_p9_eq h)) hpr h hdg (fun h2 => k1 h2)
      · next hpr => exact xi_min_ok A hf.1 hf.2 hsz (hR' (xi_p10_eq h)) hpr h hdg (fun h2 => k1 h2)
      · cases h
    · cases h
  · cases h
end XIT
