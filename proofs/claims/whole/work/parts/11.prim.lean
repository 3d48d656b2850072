section XIR
variable {p : Program} {l : Launch} {e : Env} {R : Room} {s : State} {m : MethodId} {args : Array Value} {below : List Frame} {meth : Method} {c : Code} {H : Heap} {locs : List Loc} {cells slots : Nat} {Q : State → Prop}
variable {cc : ByteArray} {pc nL : Nat} {ls : Array Slot} {E : xi_E} {cA : Nat → ClassId} {D : va_G} {xs : Nat → Int32} {L mi : Nat} {st st' ll : List Value} {hp hp' : xi_H}
theorem xi_pw_in {w : Cond} (h : w ∈ ([Cond.native arraycopyName, Cond.static arraycopyName, Cond.initialized "java/lang/System", Cond.instanceMethod objectInit, Cond.code objectInit ⟨#[0xb1]⟩ 1 none, Cond.static Lib.Math.max.name, Cond.static Lib.Math.min.name, Cond.initialized "java/lang/Math", Cond.code Lib.Math.max.name Lib.Math.max.code 2 (some .int), Cond.code Lib.Math.min.name Lib.Math.min.code 2 (some .int)] : List Cond)) (hg : goodWord w = true) : w ∈ xi_W := by
  have := List.all_eq_true.mp xi_pw w h
  simp only [Bool.and_eq_true, decide_eq_true_eq] at this
  exact List.mem_filter.mpr ⟨this.1, hg⟩
theorem xi_n0 {n : Int32} (h : 0 ≤ n) : ¬ n < 0 := by rw [Int32.not_lt]; exact h
theorem xi_copy_ok {idx : Nat} (A : xi_At p c cc s m args meth R mi) (hf1 : 1 ≤ xi_fr mi) (hf2 : 38 ≤ xi_lo mi) (C : xi_C E cA D xs L s s.heap) (hD : xi_D E cA D hp H) (hS : va_S (fun q => E.2.1 ≤ q) s.heap H locs) (hsz : ls.size = c.maxLocals) (hpr : xi_prm (xi_m mi).1 idx = some 5) (h : xi_p5 st hp = some (st', hp')) (hdg : decode cc pc = .ok (.invokestatic idx, 3))
    (kk : ∀ (H1 : Heap) (locs1 : List Loc), hp'.2 = hp.2 → xi_D E cA D hp' H1 → va_S (fun q => E.2.1 ≤ q) s.heap H1 locs1 → W p l e R s m args below meth c H1 locs1 cells slots Q (F0 m (pc + 3) ls (st'.map (xi_v E)))) : W p l e R s m args below meth c H locs cells slots Q (F0 m pc ls (st.map (xi_v E))) := by
  obtain ⟨hx, hb, hts, hown, -, -, -, hfr, hlo⟩ := A
  have hlink := hts _ (xi_prm_of hpr)
  have w1 := hts _ (xi_pw_in (w := Cond.native arraycopyName) (by simp) rfl)
  have w2 := hts _ (xi_pw_in (w := Cond.static arraycopyName) (by simp) rfl)
  have w3 := hts _ (xi_pw_in (w := Cond.initialized "java/lang/System") (by simp) rfl)
  have hnf : nativeFrameWords "java/lang/System" "arraycopy" 5 = 7 := by decide
  unfold xi_p5 at h
  split at h
  · next zn zdp za1 zsp za0 zrest =>
    split at h
    · next hc =>
      obtain ⟨hlow, h1, h2, h3⟩ := hc
      have hl9 := xi_low_of (E := E) hlow
      split at h
      · next n0 f n1 g ho0 ho1 =>
        split at h
        · next hb9 =>
          cases h
          obtain ⟨j0, rfl, hj0⟩ := xi_live hD.2 (i := za0) (by rw [ho0]; intro z; cases z)
          obtain ⟨j1, rfl, hj1⟩ := xi_live hD.2 (i := za1) (by rw [ho1]; intro z; cases z)
          have hg0 := xi_ws_get (E := E) (cA := cA) hj0
          rw [ho0] at hg0
          have hg1 := xi_ws_get (E := E) (cA := cA) hj1
          rw [ho1] at hg1
          show W p l e R s m args below meth c H locs cells slots Q (F0 m pc ls (.int zn :: .int zdp :: .ref (xi_ad E (100 + j1)) :: .int zsp :: .ref (xi_ad E (100 + j0)) :: _))
          rw [xi_ad_new, xi_ad_new]
          exact va_copyi hx hb hsz.symm hown hlink w1 w2 w3 C.1 hD.1 xi_ws_D hS j0 j1 0 0 (ty := .int) hg0 hg1 rfl rfl rfl (xi_n0 h1) (xi_n0 h2) (xi_n0 h3) hb9.1 hb9.2 (fun _ _ => rfl) (by omega) (by rw [hnf]; omega) hdg (fun H1 locs1 hP1 _ hS1 => kk H1 locs1 rfl (xi_wrote hD hj1 hP1) hS1)
        · cases h
      · next n0 f n1 g ho0 ho1 =>
        split at h
        · next hb9 =>
          cases h
          obtain ⟨j0, rfl, hj0⟩ := xi_live hD.2 (i := za0) (by rw [ho0]; intro z; cases z)
          obtain ⟨j1, rfl, hj1⟩ := xi_live hD.2 (i := za1) (by rw [ho1]; intro z; cases z)
          have hg0 := xi_ws_get (E := E) (cA := cA) hj0
          rw [ho0] at hg0
          have hg1 := xi_ws_get (E := E) (cA := cA) hj1
          rw [ho1] at hg1
          show W p l e R s m args below meth c H locs cells slots Q (F0 m pc ls (.int zn :: .int zdp :: .ref (xi_ad E (100 + j1)) :: .int zsp :: .ref (xi_ad E (100 + j0)) :: _))
          rw [xi_ad_new, xi_ad_new]
          exact va_copyl hx hb hsz.symm hown hlink w1 w2 w3 C.1 hD.1 xi_ws_D hS j0 j1 3 3 (ty := .long) hg0 hg1 rfl rfl rfl (xi_n0 h1) (xi_n0 h2) (xi_n0 h3) hb9.1 hb9.2 (fun _ _ => rfl) (by omega) (by rw [hnf]; omega) hdg (fun H1 locs1 hP1 _ hS1 => kk H1 locs1 rfl (xi_wrote hD hj1 hP1) hS1)
        · cases h
      · cases h
    · cases h
  · cases h
theorem xi_max_ok {idx : Nat} (A : xi_At p c cc s m args meth R mi) (hf1 : 1 ≤ xi_fr mi) (hf2 : 38 ≤ xi_lo mi) (hsz : ls.size = c.maxLocals) (hR : cells ≤ R.cells ∧ slots ≤ R.slots) (hpr : xi_prm (xi_m mi).1 idx = some 9) (h : xi_p9 st hp = some (st', hp')) (hdg : decode cc pc = .ok (.invokestatic idx, 3))
    (kk : hp' = hp → W p l e R s m args below meth c H locs cells slots Q (F0 m (pc + 3) ls (st'.map (xi_v E)))) : W p l e R s m args below meth c H locs cells slots Q (F0 m pc ls (st.map (xi_v E))) := by
  obtain ⟨hx, hb, hts, hown, -, -, -, hfr, hlo⟩ := A
  have hlink := hts _ (xi_prm_of hpr)
  unfold xi_p9 at h
  split at h
  · next zy zx zrest =>
    split at h
    · next hlow =>
      cases h
      have hl9 := xi_low_of (E := E) hlow
      exact va_mmax hx hb hsz.symm hown hlink (hts _ (xi_pw_in (w := Cond.static Lib.Math.max.name) (by simp) rfl)) (hts _ (xi_pw_in (w := Cond.initialized "java/lang/Math") (by simp) rfl)) (hts _ (xi_pw_in (w := Cond.code Lib.Math.max.name Lib.Math.max.code 2 (some .int)) (by simp) rfl)) (by omega) (by omega) hR.1 hR.2 hdg (kk rfl)
    · cases h
  · cases h
theorem xi_min_ok {idx : Nat} (A : xi_At p c cc s m args meth R mi) (hf1 : 1 ≤ xi_fr mi) (hf2 : 38 ≤ xi_lo mi) (hsz : ls.size = c.maxLocals) (hR : cells ≤ R.cells ∧ slots ≤ R.slots) (hpr : xi_prm (xi_m mi).1 idx = some 10) (h : xi_p10 st hp = some (st', hp')) (hdg : decode cc pc = .ok (.invokestatic idx, 3))
    (kk : hp' = hp → W p l e R s m args below meth c H locs cells slots Q (F0 m (pc + 3) ls (st'.map (xi_v E)))) : W p l e R s m args below meth c H locs cells slots Q (F0 m pc ls (st.map (xi_v E))) := by
  obtain ⟨hx, hb, hts, hown, -, -, -, hfr, hlo⟩ := A
  have hlink := hts _ (xi_prm_of hpr)
  unfold xi_p10 at h
  split at h
  · next zy zx zrest =>
    split at h
    · next hlow =>
      cases h
      have hl9 := xi_low_of (E := E) hlow
      exact va_mmin hx hb hsz.symm hown hlink (hts _ (xi_pw_in (w := Cond.static Lib.Math.min.name) (by simp) rfl)) (hts _ (xi_pw_in (w := Cond.initialized "java/lang/Math") (by simp) rfl)) (hts _ (xi_pw_in (w := Cond.code Lib.Math.min.name Lib.Math.min.code 2 (some .int)) (by simp) rfl)) (by omega) (by omega) hR.1 hR.2 hdg (kk rfl)
    · cases h
  · cases h
theorem xi_obj_ok {idx : Nat} (A : xi_At p c cc s m args meth R mi) (hf1 : 1 ≤ xi_fr mi) (hf2 : 21 ≤ xi_lo mi) (hsz : ls.size = c.maxLocals) (hpr : xi_prm (xi_m mi).1 idx = some 6) (h : xi_p6 st hp = some (st', hp')) (hdg : decode cc pc = .ok (.invokespecial idx, 3))
    (kk : hp' = hp → W p l e R s m args below meth c H locs cells slots Q (F0 m (pc + 3) ls (st'.map (xi_v E)))) : W p l e R s m args below meth c H locs cells slots Q (F0 m pc ls (st.map (xi_v E))) := by
  obtain ⟨hx, hb, hts, hown, -, -, -, hfr, hlo⟩ := A
  have hlink := hts _ (xi_prm_of hpr)
  unfold xi_p6 at h
  split at h
  · next za zrest =>
    split at h
    · next hlow =>
      cases h
      have hl9 := xi_low_of (E := E) hlow
      refine W.objInit (g := F0 m pc ls (.ref (xi_ad E za) :: List.map (xi_v E) _)) hx hb hown hlink (hts _ (xi_pw_in (w := Cond.instanceMethod objectInit) (by simp) rfl)) (hts _ (xi_pw_in (w := Cond.code objectInit ⟨#[0xb1]⟩ 1 none) (by simp) rfl)) rfl hsz rfl hdg (by omega) ?_ (kk rfl)
      show 2 * 0 + _ + 12 ≤ R.locals
      omega
    · cases h
  · cases h
theorem xi_ldi_of {own idx t : Nat} (h : xi_ldi own idx = some t) : (own, idx, t) ∈ xi_sl := by
  unfold xi_ldi at h
  obtain ⟨e, he, h2⟩ := Option.map_eq_some_iff.mp h
  cases h2
  have hm := List.mem_of_find?_eq_some he
  have hp := List.find?_some he
  simp only [Bool.and_eq_true, beq_iff_eq] at hp
  rw [← hp.1, ← hp.2]
  exact hm
theorem xi_ldc_ok {idx : Nat} (A : xi_At p c cc s m args meth R mi) (K : xi_K E cA D xs L s s.heap) (h : xi_ldc (xi_m mi).1 idx st hp = some (st', hp')) (hdg : decode cc pc = .ok (.ldc idx, 2))
    (kk : hp' = hp → W p l e R s m args below meth c H locs cells slots Q (F0 m (pc + 2) ls (st'.map (xi_v E)))) : W p l e R s m args below meth c H locs cells slots Q (F0 m pc ls (st.map (xi_v E))) := by
  obtain ⟨hx, hb, hts, hown, -⟩ := A
  unfold xi_ldc at h
  split at h
  · next v hv =>
    cases h
    exact lv_ldc hx hb hown (hts _ (xi_kon_of hv)) hdg (kk rfl)
  · split at h
    · next j hj =>
      cases h
      have hm := xi_ldi_of hj
      have hR := K.2.2.2.2.2.2.2.1 _ hm
      have hj6 : j < 6 := by
        have : ∀ q ∈ xi_sl, q.2.2 < 6 := by decide
        exact this _ hm
      have had : xi_ad E (1 + j) = E.2.2 (1 + j) := by
        unfold xi_ad
        rw [if_neg (by omega), if_pos (by omega)]
      refine va_ldcS hx hb hown hR hdg ?_
      have := kk rfl
      rw [List.map_cons, xi_v_ref, had] at this
      exact this
    · cases h
theorem xi_ad_lit {E : xi_E} {j : Nat} (h1 : 1 ≤ j) (h2 : j ≤ 16) : xi_ad E j = E.2.2 j := by
  unfold xi_ad
  rw [if_neg (by omega), if_pos (by omega)]
theorem xi_str_ok {i : Instr} (A : xi_At p c cc s m args meth R mi) (K : xi_K E cA D xs L s s.heap) (hD : xi_D E cA D hp H) (hS : va_S (xi_Aa E) s.heap H locs) (hsz : ls.size = c.maxLocals) (hR : cells ≤ R.cells ∧ slots ≤ R.slots) (h : xi_str mi i st hp = some (st', hp')) (hdg : decode cc pc = .ok (i, xi_len i))
    (kk : ∀ (H1 : Heap) (locs1 : List Loc), hp' = hp → xi_D E cA D hp H1 → va_S (xi_Aa E) s.heap H1 locs1 → W p l e R s m args below meth c H1 locs1 cells slots Q (F0 m (pc + xi_len i) ls (st'.map (xi_v E)))) : W p l e R s m args below meth c H locs cells slots Q (F0 m pc ls (st.map (xi_v E))) := by
  obtain ⟨hx, hb, hts, hown, -, hml, -, hfr, hlo⟩ := A
  have wst := xi_in_all xi_strw
  have k9 := K.2.2.2.2.2.2.2.2.2.1
  unfold xi_str at h
  split at h
  · next zidx zj0 zrest =>
    obtain ⟨zj, hzj⟩ : ∃ zj : Nat, zj = zj0 := ⟨zj0, rfl⟩
    subst hzj
    split at h
    · next hc =>
      obtain ⟨h10, hrg⟩ := hc
      obtain ⟨hj1, hj6⟩ := xi_rg_of hrg
      rw [h10] at hown
      have hown : s.vm.findClass "java/lang/String" = some m.cls := hown
      obtain ⟨q1, q2, q3, q4⟩ := k9 (zj - 1) (by omega)
      rw [show 1 + (zj - 1) = zj by omega] at q1 q2 q3
      rw [show 11 + (zj - 1) = 10 + zj by omega] at q3
      split at h
      · next h9 =>
        subst h9
        cases h
        show W p l e R s m args below meth c H locs cells slots Q (F0 m pc ls (.ref (xi_ad E zj) :: _))
        rw [xi_ad_lit hj1 (by omega)]
        refine vk_getf hx hb q3 hS hown (hts _ (wst _ (by simp))) (fun _ h => h) hdg ?_
        have := kk H locs rfl hD hS
        rw [List.map_cons, xi_v_ref, xi_ad_lit (by omega) (by omega)] at this
        exact this
      · split at h
        · next h15 =>
          subst h15
          cases h
          show W p l e R s m args below meth c H locs cells slots Q (F0 m pc ls (.ref (xi_ad E zj) :: _))
          rw [xi_ad_lit hj1 (by omega)]
          exact vk_getf hx hb q2 hS hown (hts _ (wst _ (by simp))) (fun _ h => h) hdg (kk H locs rfl hD hS)
        · cases h
    · cases h
  · next za0 zrest =>
    obtain ⟨za, hza⟩ : ∃ za : Nat, za = za0 := ⟨za0, rfl⟩
    subst hza
    split at h
    · next hc =>
      cases h
      obtain ⟨hc1, hc2⟩ := xi_rg_of hc
      obtain ⟨q1, q2, q3, q4⟩ := k9 (za - 11) (by omega)
      rw [show 11 + (za - 11) = za by omega] at q4
      show W p l e R s m args below meth c H locs cells slots Q (F0 m pc ls (.ref (xi_ad E za) :: _))
      rw [xi_ad_lit (by omega) (by omega)]
      exact va_tlen hx hb q4 hS rfl hdg (kk H locs rfl hD hS)
    · cases h
  · next zi za0 zrest =>
    obtain ⟨za, hza⟩ : ∃ za : Nat, za = za0 := ⟨za0, rfl⟩
    subst hza
    split at h
    · next hc =>
      cases h
      obtain ⟨hc1, hc2⟩ := xi_rg_of hc.1
      obtain ⟨q1, q2, q3, q4⟩ := k9 (za - 11) (by omega)
      rw [show 11 + (za - 11) = za by omega] at q4
      show W p l e R s m args below meth c H locs cells slots Q (F0 m pc ls (.int zi :: .ref (xi_ad E za) :: _))
      rw [xi_ad_lit (by omega) (by omega)]
      exact va_tb hx hb q4 hS (xi_in_vp hc.2) rfl hdg (kk H locs rfl hD hS)
    · cases h
  · next zidx zst =>
    split at h
    · next hc =>
      obtain ⟨h10, h38⟩ := hc
      subst h38
      cases h
      rw [h10] at hown
      have hown : s.vm.findClass "java/lang/String" = some m.cls := hown
      exact va_gets hx hb K.2.2.2.2.2.2.2.2.2.2.1 hS hown (hts _ (wst _ (by simp))) (fun _ h => h) hdg (kk H locs rfl hD hS)
    · cases h
  · next zidx zn zi zrest =>
    split at h
    · next hc =>
      obtain ⟨hpr, hf1, hf2, hlow, h0, h1⟩ := hc
      have hlink : Cond.methodLink (xi_cn (xi_m mi).1) zidx xi_y_chk ∈ xi_W := xi_prm_of hpr
      have hl9 := xi_low_of (E := E) hlow
      have hwc := xi_in_all xi_w_chk_in
      have hGI : GoodIn xi_W (va_wsS (xi_cn (xi_m mi).1) zidx xi_y_chk xi_w_chk) := by
        intro w hw
        rcases List.mem_append.mp hw with hw | hw
        · rcases List.mem_cons.mp hw with rfl | hw
          · exact xi_W_good _ hlink
          · rcases List.mem_cons.mp hw with rfl | hw
            · exact xi_W_good _ (wst _ (by simp))
            · rcases List.mem_cons.mp hw with rfl | hw
              · exact xi_W_good _ (wst _ (by simp [xi_y_chk]))
              · cases hw
        · exact xi_W_good _ (hwc _ hw)
      have hrun := va_runS (p := p) (l := l) (e := e) (R := R) (below := below) (meth := meth) (H := H) (locs := locs) (cells := cells) (slots := slots) (g := F0 m pc ls (.int zn :: .int zi :: List.map (xi_v E) zrest)) (As := [.int zi, .int zn]) (rest := List.map (xi_v E) zrest) ⟨hx, hb, hml, hown, hts⟩ (xi_c_chk l (xi_Aa E) zi zn (xi_n0 h0) h1) (va_cwS (Ts := xi_W) 2 hts hGI rfl rfl rfl (by decide +kernel) ⟨by show 1 + 1 ≤ R.frames; omega, by show 8 + (2 + 11) + 22 ≤ R.locals; omega⟩) ⟨fun a U g mk q => ⟨q.1, va_Zq.moved (Vm.Alike.refl U.vm) q.2⟩, fun U hU hW => ⟨rfl, (xi_K_next K hS hU hW).2.2.2.2.2.2.2.2.2.2.2⟩⟩ rfl rfl (hsz.trans hml) rfl (by show 2 * 0 + _ ≤ 8; omega) hdg ⟨hR.1, hR.2⟩
      cases h
      exact va_callv (A0 := xi_Aa E) hrun hS (fun q _ h => h.elim) (fun q h => h.elim) (fun u t H1 locs1 ht hvm hw hB hz1 hk1 hS => kk H1 locs1 rfl ⟨hD.1.kept (fun k q hk => hk1 q.1 (hD.1 k q hk).lt (fun h => h)), hD.2⟩ hS)
    · cases h
  · cases h
end XIR
