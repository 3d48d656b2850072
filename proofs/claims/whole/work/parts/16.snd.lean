section XIU
variable (l : Launch) (E : xi_E) (cA : Nat → ClassId) (D : va_G) (xs : Nat → Int32) (L : Nat)
def xi_Snd (f : Nat) : Prop := ∀ (mi pc : Nat) (ll st : List Value) (hp : xi_H) (r : Option Value ⊕ String) (hp' : xi_H), xi_exec xs L f mi pc ll st hp = some (r, hp') →
  (hp.2.2.1 ≤ hp'.2.2.1 ∧ hp.2.2.2 ≤ hp'.2.2.2 ∧ hp.2.2.1 + hp'.2.1 ≤ hp.2.1 + hp'.2.2.1) ∧
  ∀ {p : Program} {e : Env} {R : Room} {s : State} {m : MethodId} {args : Array Value} {below : List Frame} {meth : Method} {c : Code} {H : Heap} {locs : List Loc} {cells slots n0 k0 z0 mc ms : Nat} {ls : Array Slot},
    l.stackTraces = false → xi_At p c (xi_m mi).2.2.2.1 s m args meth R mi → meth.sig.returnType = (xi_m mi).2.2.2.2.2.1 → c.exceptionTable.toList = tableOf (xi_hh mi) → xi_K E cA D xs L s s.heap → xi_L E ll ls (xi_maxL mi) → xi_D E cA D hp H → va_S (xi_Aa E) s.heap H locs → xi_N s E n0 k0 z0 hp cells slots →
    hp'.2.2.1 ≤ k0 + mc → hp'.2.2.2 ≤ z0 + ms → mc ≤ R.cells → ms ≤ R.slots →
    W p l e R s m args below meth c H locs cells slots (vx_MQ below (xi_Qc E cA D r hp') (xi_XC E cA D r hp') args s mc ms (xi_Aa E)) (F0 m pc ls (st.map (xi_v E)))
/-- a method's contract, out of its run -/
def xi_Pc (args : List Value) (hp : xi_H) : Array Value → State → Prop := va_Pc (args.map (xi_v E)) (fun U => xi_K E cA D xs L U U.heap ∧ xi_D E cA D hp U.heap ∧ (hp.2.1 = hp.2.2.1 → U.heap.size = E.2.1 + hp.2.1))
theorem xi_blind (args : List Value) (hp : xi_H) : FrameBlind (xi_Pc E cA D xs L args hp) := fun _ _ _ _ q => ⟨q.1, xi_K_same rfl rfl q.2.1, q.2.2.1, q.2.2.2⟩
theorem xi_met {f k : Nat} {M : xi_M} {args : List Value} {hp hp1 : xi_H} {r1 : Option Value ⊕ String} (hl : l.stackTraces = false) (IH : xi_Snd l E cA D xs L f) (hM : xi_md[k]? = some M) (hlaw : M.1 ≠ 8 ∨ M.2.1 ≠ "law") (hn : hp.2.1 ≤ hp.2.2.1) (ha : args.all xi_c1 = true) (hlen : args.length ≤ xi_maxL k) (h : xi_exec xs L f k 0 (xi_loc k args) [] hp = some (r1, hp1)) :
    vx_Met l (xi_y M) (xi_cword M :: xi_W) ({ frames := xi_fr k, cells := hp1.2.2.1 - hp.2.2.1, slots := hp1.2.2.2 - hp.2.2.2, locals := xi_lo k }) (xi_Pc E cA D xs L args hp) (xi_Qc E cA D r1 hp1) (xi_XC E cA D r1 hp1) (hp1.2.2.1 - hp.2.2.1) (hp1.2.2.2 - hp.2.2.2) (xi_Aa E) := by
  have hx : xi_m k = M := by unfold xi_m; rw [hM]; rfl
  obtain ⟨hmono, hW⟩ := IH k 0 (xi_loc k args) [] hp r1 hp1 h
  obtain ⟨cw1, cw2, cw3, cw4, cw5⟩ := xi_cw_in hM hlaw
  have go : ∀ (p : Program) (e : Env) (s : State) (m : MethodId) (args0 : Array Value) (below : List Frame) (meth : Method) (c : Code) (s₁ : State), BodyLoose p l (xi_y M) (headSpec (xi_cword M :: xi_W) ({ frames := xi_fr k, cells := hp1.2.2.1 - hp.2.2.1, slots := hp1.2.2.2 - hp.2.2.2, locals := xi_lo k })) M.2.2.2.1 M.2.2.2.2.1 M.2.2.2.2.2.1 e s m args0 below meth c s₁ → c.maxLocals = M.2.2.2.2.1 → c.exceptionTable.toList = tableOf (xi_hh k) → xi_Pc E cA D xs L args hp args0 s →
      W p l e ({ frames := xi_fr k, cells := hp1.2.2.1 - hp.2.2.1, slots := hp1.2.2.2 - hp.2.2.2, locals := xi_lo k }) s m args0 below meth c s.heap [] 0 0 (vx_MQ below (xi_Qc E cA D r1 hp1) (xi_XC E cA D r1 hp1) args0 s (hp1.2.2.1 - hp.2.2.1) (hp1.2.2.2 - hp.2.2.2) (xi_Aa E)) (entryFrame m args0 M.2.2.2.2.1) := by
    intro p e s m args0 below meth c s₁ B hml htab hv
    obtain ⟨rfl, hK, hD, hz⟩ := hv
    rw [lg_entry_eq]
    have hts := atoms_spec (ws := xi_cword M :: xi_W) B.pre
    have hmL : M.2.2.2.2.1 = xi_maxL k := by unfold xi_maxL; rw [hx]
    have hent := xi_entry (E := E) ha hlen
    rw [hmL]
    exact hW (n0 := hp.2.1) (k0 := hp.2.2.1) (z0 := hp.2.2.2) hl ⟨B.exec, by rw [hx]; exact B.bytes, fun w hw => hts w (List.mem_cons_of_mem _ hw), by rw [hx]; exact findClass_of_methodNamed B.named, by rw [hx]; exact (name_of_methodNamed B.named B.method).1, by rw [hml, hmL], B.notSynchronized, Nat.le_refl _, Nat.le_refl _⟩ (by rw [hx]; exact B.returns) htab hK hent hD va_S.rf ⟨fun h9 => hz h9, hn, Nat.le_of_eq (Nat.add_comm _ _), rfl, rfl⟩ (by omega) (by omega) (Nat.le_refl _) (Nat.le_refl _)
  by_cases hh : M.2.2.2.2.2.2.2.2.2.2 = []
  · have hcw : xi_cword M = Cond.code (xi_y M) M.2.2.2.1 M.2.2.2.2.1 M.2.2.2.2.2.1 := by unfold xi_cword; rw [hh]; rfl
    refine vx_ofW (cc := M.2.2.2.1) (maxL := M.2.2.2.2.1) (ret := M.2.2.2.2.2.1) (ws' := xi_W) cw2 (by rw [hcw]) ?_
    intro p e s m args0 below meth c s₁ B hml hno hv
    refine go p e s m args0 below meth c s₁ B hml ?_ hv
    have : xi_hh k = [] := by unfold xi_hh; rw [hx]; exact hh
    rw [this]
    exact List.eq_nil_iff_forall_not_mem.mpr hno
  · have hcw : xi_cword M = Cond.codeWith (xi_y M) M.2.2.2.1 M.2.2.2.2.1 M.2.2.2.2.2.1 M.2.2.2.2.2.2.2.2.2.2 := by
      unfold xi_cword
      rw [if_neg]
      intro z
      exact hh (List.isEmpty_iff.mp z)
    refine vx_ofWH (cc := M.2.2.2.1) (maxL := M.2.2.2.2.1) (ret := M.2.2.2.2.2.1) (hh := M.2.2.2.2.2.2.2.2.2.2) (ws' := xi_W) cw2 (by rw [hcw]) ?_
    intro p e s m args0 below meth c s₁ B hml hv
    refine go p e s m args0 below meth c s₁ B hml ?_ hv
    have hts := atoms_spec (ws := xi_cword M :: xi_W) B.pre
    have h1 := vx_table (x := xi_y M) B (by rw [← hcw]; exact hts _ List.mem_cons_self)
    rw [h1]
    unfold xi_hh
    rw [hx]
theorem xi_call_run {p : Program} {e : Env} {R : Room} {s : State} {m : MethodId} {args : Array Value} {below : List Frame} {meth : Method} {c : Code} {H : Heap} {locs : List Loc} {cells slots n0 k0 z0 : Nat} {ls : Array Slot} {f mi pc k : Nat} {i : Instr} {st as rest : List Value} {hp hp1 : xi_H} {r1 : Option Value ⊕ String} {Q : State → Prop}
    (hl : l.stackTraces = false) (IH : xi_Snd l E cA D xs L f) (A : xi_At p c (xi_m mi).2.2.2.1 s m args meth R mi) (K : xi_K E cA D xs L s s.heap) (hsz : ls.size = c.maxLocals) (hD : xi_D E cA D hp H) (hS : va_S (xi_Aa E) s.heap H locs) (hN : xi_N s E n0 k0 z0 hp cells slots)
    (hc : xi_call mi i st hp = some (k, as, rest)) (h : xi_exec xs L f k 0 (xi_loc k as) [] hp = some (r1, hp1)) (hdg : decode (xi_m mi).2.2.2.1 pc = .ok (i, xi_len i)) (hRc : hp1.2.2.1 ≤ k0 + R.cells) (hRs : hp1.2.2.2 ≤ z0 + R.slots)
    (kk : ∀ mc1 ms1, mc1 = hp1.2.2.1 - hp.2.2.1 → ms1 = hp1.2.2.2 - hp.2.2.2 → (∃ a, vx_Run p l e R s m args below meth c H locs cells slots mc1 ms1 (F0 m pc ls (st.map (xi_v E))) (rest.map (xi_v E)) (xi_Qc E cA D r1 hp1 a) (xi_XC E cA D r1 hp1) (xi_Aa E)) → W p l e R s m args below meth c H locs cells slots Q (F0 m pc ls (st.map (xi_v E)))) : W p l e R s m args below meth c H locs cells slots Q (F0 m pc ls (st.map (xi_v E))) := by
  refine xi_size fun hle => ?_
  obtain ⟨hx, hb, hts, hown, hmn, hml, hlocks, hfr, hlo⟩ := id A
  obtain ⟨b1, b2, b3, b4, b5⟩ := id hN
  have hmono := (IH k 0 _ _ _ _ _ h).1
  have hn : hp.2.1 ≤ hp.2.2.1 := by omega
  have hz : hp.2.1 = hp.2.2.1 → H.size = E.2.1 + hp.2.1 := fun h9 => xi_sz K.1 hD hS hN h9 hle
  have hf : cells + (hp1.2.2.1 - hp.2.2.1) ≤ R.cells ∧ slots + (hp1.2.2.2 - hp.2.2.2) ≤ R.slots := by omega
  refine kk _ _ rfl rfl ?_
  have hpre : ∀ U : State, U.heap = H → s.WarmedH U.vm → xi_Pc E cA D xs L as hp (as.map (xi_v E)).toArray U := fun U hU hW => ⟨rfl, xi_K_next K hS hU hW, by rw [hU]; exact hD, fun h9 => by rw [hU]; exact hz h9⟩
  have hgd : ∀ {as rest : List Value}, xi_gd mi k as rest = true → ((rest.map (xi_v E)).map fun v => v.category).sum ≤ 8 ∧ as.all xi_c1 = true ∧ as.length ≤ xi_maxL k ∧ xi_fr k + 1 ≤ R.frames ∧ 8 + (xi_maxL k + 11) + xi_lo k ≤ R.locals := by
    intro as rest hg
    simp only [xi_gd, Bool.and_eq_true, decide_eq_true_eq] at hg
    obtain ⟨⟨⟨⟨g1, g2⟩, g3⟩, g4⟩, g5⟩ := hg
    exact ⟨xi_low_of g1, g2, g3, by omega, by omega⟩
  have hrecv : ∀ (M : xi_M) (r : Nat), xi_m k = M → (M.1 < 8 ∨ M.1 = 10) → xi_rcv k r hp = true → ∃ cellB : Cell, H[xi_ad E r]? = some cellB ∧ cellB.vm.isStatics = false ∧ s.vm.findClass (xi_cn M.1) = some cellB.cls := by
    intro M r hM hM8 hr
    unfold xi_rcv at hr
    rw [hM] at hr
    split at hr
    · next h10 =>
      obtain ⟨r1, r2⟩ := xi_rg_of hr
      obtain ⟨q1, -⟩ := K.2.2.2.2.2.2.2.2.2.1 (r - 1) (by omega)
      rw [show 1 + (r - 1) = r by omega] at q1
      obtain ⟨cell, g1, g2, g3, g4⟩ := q1
      refine ⟨cell, ?_, g2, by rw [h10]; exact g3⟩
      rw [xi_ad_lit r1 (by omega), hS.2.1 _ (Array.getElem?_eq_some_iff.mp g1).1 g4]
      exact g1
    · next h10 =>
      have hM8 : M.1 < 8 := by omega
      split at hr
      · next zc zfs ho =>
        have hcc : zc = M.1 := beq_iff_eq.mp hr
        obtain ⟨j, rfl, hj⟩ := xi_live hD.2 (i := r) (by rw [ho]; intro z; cases z; omega)
        have hg := xi_ws_get (E := E) (cA := cA) hj
        rw [ho] at hg
        rw [xi_ad_new]
        have hcl : ∃ q, xi_cl[M.1]? = some q ∧ q.1 = xi_cn M.1 := by
          have : ∀ ci, ci < 8 → ∃ q, xi_cl[ci]? = some q ∧ q.1 = xi_cn ci := by
            intro ci hci
            rcases ci with _ | _ | _ | _ | _ | _ | _ | _ | n <;> first | exact ⟨_, rfl, rfl⟩ | omega
          exact this _ hM8
        obtain ⟨q, hq, hqn⟩ := hcl
        obtain ⟨cell, g1, g2, g3⟩ := va_recv K.1.1 hD.1 (ci := zc) (q := q) (by rw [hcc]; exact hq) hg
        exact ⟨cell, g1, g2, by rw [← hqn]; exact g3⟩
      · cases hr
  unfold xi_call at hc
  split at hc
  · next idx =>
    split at hc
    · next zk hmth =>
      split at hc
      · next zr zrest hdrop =>
        split at hc
        · next hcc =>
          cases hc
          obtain ⟨c1, c2, c3⟩ := hcc
          obtain ⟨M, hM, hxM, h12, hlaw, hk0, -⟩ := xi_link hmth
          obtain ⟨w1, w2, w3, w4, w5⟩ := hk0 rfl
          obtain ⟨g1, g2, g3, g4, g5⟩ := hgd c3
          obtain ⟨cw1, cw2, cw3, cw4, cw5⟩ := xi_cw_in hM hlaw
          have hcw : xi_cword M = Cond.code (xi_y M) M.2.2.2.1 M.2.2.2.2.1 M.2.2.2.2.2.1 := by unfold xi_cword; rw [w4]; rfl
          have hmL : M.2.2.2.2.1 = xi_maxL k := by unfold xi_maxL; rw [hxM]
          have hna : M.2.2.2.2.2.2.1 = xi_na k := by unfold xi_na; rw [hxM]
          have hGI : GoodIn xi_W (wsV (xi_cn (xi_m mi).1) idx (xi_cn M.1) (xi_y M) (xi_cword M :: xi_W)) := by
            intro w hw
            rcases List.mem_append.mp hw with hw | hw
            · rcases List.mem_cons.mp hw with rfl | hw
              · exact xi_W_good _ w1
              · rcases List.mem_cons.mp hw with rfl | hw
                · exact xi_W_good _ w2
                · rcases List.mem_cons.mp hw with rfl | hw
                  · exact xi_W_good _ w3
                  · rcases List.mem_cons.mp hw with rfl | hw
                    · exact xi_W_good _ (xi_ini_in h12)
                    · cases hw
            · exact xi_good_cons hM hlaw _ hw
          refine ⟨_, vx_runV (C := xi_cn M.1) (y := xi_y M) (bytes := M.2.2.2.1) (maxL := M.2.2.2.2.1) (ret := M.2.2.2.2.2.1) (ws := xi_cword M :: xi_W) (index := idx) (n := xi_na k) (b := xi_ad E zr) (As := ((st.take (xi_na k)).reverse).map (xi_v E)) ⟨hx, hb, hml, hown, hts⟩ (xi_met l E cA D xs L hl IH hM hlaw hn g2 g3 h) (cwV (xi_na k) hts hGI (by rw [hcw]) rfl rfl ⟨rfl, cw3, cw4, by rw [cw5, hna]⟩ ⟨g4, by rw [hmL]; exact g5⟩) ⟨xi_blind E cA D xs L _ hp, hrecv M zr hxM w5 c2, hpre⟩ rfl (by rw [List.length_map, List.length_reverse, List.length_take]; omega) (hsz.trans hml) ?_ (by show 2 * 0 + _ ≤ 8; omega) hdg hf⟩
          show st.map (xi_v E) = (((st.take (xi_na k)).reverse).map (xi_v E)).reverse ++ (xi_v E (.ref zr) :: List.map (xi_v E) _)
          rw [← List.map_reverse, List.reverse_reverse, ← List.map_cons, ← List.map_append, ← hdrop, List.take_append_drop]
        · cases hc
      · cases hc
    · cases hc
  · next idx =>
    split at hc
    · next zk hmth =>
      split at hc
      · next zr zrest hdrop =>
        split at hc
        · next hcc =>
          cases hc
          obtain ⟨c1, c2, c3⟩ := hcc
          obtain ⟨M, hM, hxM, h12, hlaw, -, -, hk0, -⟩ := xi_link hmth
          obtain ⟨w1, w2, w4, w5, w6, w7⟩ := hk0 rfl
          obtain ⟨g1, g2, g3, g4, g5⟩ := hgd c3
          obtain ⟨cw1, cw2, cw3, cw4, cw5⟩ := xi_cw_in hM hlaw
          have hcw : xi_cword M = Cond.code (xi_y M) M.2.2.2.1 M.2.2.2.2.1 none := by unfold xi_cword; rw [w4, w6]; rfl
          have hmL : M.2.2.2.2.1 = xi_maxL k := by unfold xi_maxL; rw [hxM]
          have hna : M.2.2.2.2.2.2.1 = xi_na k := by unfold xi_na; rw [hxM]
          refine ⟨_, vx_runI (y := xi_y M) (bytes := M.2.2.2.1) (maxL := M.2.2.2.2.1) (ws := xi_cword M :: xi_W) (index := idx) (n := xi_na k) (b := xi_ad E zr) (As := ((st.take (xi_na k)).reverse).map (xi_v E)) ⟨hx, hb, hml, hown, hts⟩ (xi_met l E cA D xs L hl IH hM hlaw hn g2 g3 h) (cwI (xi_na k) hts (xi_good_cons hM hlaw) (by rw [hcw]) rfl rfl (hts _ (xi_ini_in h12)) (hts _ w1) (hts _ w2) w5 ⟨cw3, cw4, by rw [cw5, hna]⟩ ⟨g4, by rw [hmL]; exact g5⟩) ⟨xi_blind E cA D xs L _ hp, hpre⟩ rfl (by rw [List.length_map, List.length_reverse, List.length_take]; omega) (hsz.trans hml) ?_ (by show 2 * 0 + _ ≤ 8; omega) hdg hf⟩
          show st.map (xi_v E) = (((st.take (xi_na k)).reverse).map (xi_v E)).reverse ++ (xi_v E (.ref zr) :: List.map (xi_v E) _)
          rw [← List.map_reverse, List.reverse_reverse, ← List.map_cons, ← List.map_append, ← hdrop, List.take_append_drop]
        · cases hc
      · cases hc
    · cases hc
  · next idx =>
    have hstk : st.map (xi_v E) = (((st.take (xi_na k)).reverse).map (xi_v E)).reverse ++ (st.drop (xi_na k)).map (xi_v E) := by
      rw [← List.map_reverse, List.reverse_reverse, ← List.map_append, List.take_append_drop]
    split at hc
    · next zk hmth =>
      split at hc
      · next hcc =>
        cases hc
        obtain ⟨c1, c3⟩ := hcc
        obtain ⟨M, hM, hxM, h12, hlaw, -, hk0, -⟩ := xi_link hmth
        obtain ⟨w1, w2, w4⟩ := hk0 rfl
        obtain ⟨g1, g2, g3, g4, g5⟩ := hgd c3
        obtain ⟨cw1, cw2, cw3, cw4, cw5⟩ := xi_cw_in hM hlaw
        have hcw : xi_cword M = Cond.code (xi_y M) M.2.2.2.1 M.2.2.2.2.1 M.2.2.2.2.2.1 := by unfold xi_cword; rw [w4]; rfl
        have hmL : M.2.2.2.2.1 = xi_maxL k := by unfold xi_maxL; rw [hxM]
        have hna : M.2.2.2.2.2.2.1 = xi_na k := by unfold xi_na; rw [hxM]
        have hGI : GoodIn xi_W (va_wsS (xi_cn (xi_m mi).1) idx (xi_y M) (xi_cword M :: xi_W)) := by
          intro w hw
          rcases List.mem_append.mp hw with hw | hw
          · rcases List.mem_cons.mp hw with rfl | hw
            · exact xi_W_good _ w1
            · rcases List.mem_cons.mp hw with rfl | hw
              · exact xi_W_good _ w2
              · rcases List.mem_cons.mp hw with rfl | hw
                · exact xi_W_good _ (xi_ini_in h12)
                · cases hw
          · exact xi_good_cons hM hlaw _ hw
        exact ⟨_, vx_runS (y := xi_y M) (bytes := M.2.2.2.1) (maxL := M.2.2.2.2.1) (ret := M.2.2.2.2.2.1) (ws := xi_cword M :: xi_W) (index := idx) (n := xi_na k) (As := ((st.take (xi_na k)).reverse).map (xi_v E)) ⟨hx, hb, hml, hown, hts⟩ (xi_met l E cA D xs L hl IH hM hlaw hn g2 g3 h) (va_cwS (xi_na k) hts hGI (by rw [hcw]) rfl rfl ⟨cw3, cw4, by rw [cw5, hna]⟩ ⟨g4, by rw [hmL]; exact g5⟩) ⟨xi_blind E cA D xs L _ hp, hpre⟩ rfl (by rw [List.length_map, List.length_reverse, List.length_take]; omega) (hsz.trans hml) hstk (by show 2 * 0 + _ ≤ 8; omega) hdg hf⟩
      · cases hc
    · next zk hmth =>
      split at hc
      · next hcc =>
        cases hc
        obtain ⟨c1, c3⟩ := hcc
        obtain ⟨M, hM, hxM, h12, hlaw, -, -, -, hk0, -⟩ := xi_link hmth
        obtain ⟨w1, w2, w4⟩ := hk0 rfl
        obtain ⟨g1, g2, g3, g4, g5⟩ := hgd c3
        obtain ⟨cw1, cw2, cw3, cw4, cw5⟩ := xi_cw_in hM hlaw
        have hcw : xi_cword M = Cond.code (xi_y M) M.2.2.2.1 M.2.2.2.2.1 M.2.2.2.2.2.1 := by unfold xi_cword; rw [w4]; rfl
        have hmL : M.2.2.2.2.1 = xi_maxL k := by unfold xi_maxL; rw [hxM]
        have hna : M.2.2.2.2.2.2.1 = xi_na k := by unfold xi_na; rw [hxM]
        have hnw := K.2.2.2.1 _ w1
        rw [hxM] at hnw
        exact ⟨_, vx_runSN (y := xi_y M) (bytes := M.2.2.2.1) (maxL := M.2.2.2.2.1) (ret := M.2.2.2.2.2.1) (ws := xi_cword M :: xi_W) (index := idx) (n := xi_na k) (As := ((st.take (xi_na k)).reverse).map (xi_v E)) ⟨hx, hb, hml, hown, hts⟩ (xi_met l E cA D xs L hl IH hM hlaw hn g2 g3 h) ⟨va_cnB (xi_na k) hts (xi_good_cons hM hlaw) (by rw [hcw]) rfl rfl hnw (hts _ (xi_ini_in h12)) ⟨cw3, cw4, by rw [cw5, hna]⟩ ⟨g4, by rw [hmL]; exact g5⟩, hts _ w2, trivial⟩ ⟨xi_blind E cA D xs L _ hp, hpre⟩ rfl (by rw [List.length_map, List.length_reverse, List.length_take]; omega) (hsz.trans hml) hstk (by show 2 * 0 + _ ≤ 8; omega) hdg hf⟩
      · cases hc
    · next zk hmth =>
      split at hc
      · next hcc =>
        cases hc
        obtain ⟨c1, c3⟩ := hcc
        obtain ⟨M, hM, hxM, h12, hlaw, -, -, -, -, hk0⟩ := xi_link hmth
        obtain ⟨w1, w2, w4⟩ := hk0 rfl
        obtain ⟨g1, g2, g3, g4, g5⟩ := hgd c3
        obtain ⟨cw1, cw2, cw3, cw4, cw5⟩ := xi_cw_in hM hlaw
        have hcw : xi_cword M = Cond.codeWith (xi_y M) M.2.2.2.1 M.2.2.2.2.1 M.2.2.2.2.2.1 M.2.2.2.2.2.2.2.2.2.2 := by
          unfold xi_cword
          rw [if_neg]
          intro z
          exact w4 (List.isEmpty_iff.mp z)
        have hmL : M.2.2.2.2.1 = xi_maxL k := by unfold xi_maxL; rw [hxM]
        have hna : M.2.2.2.2.2.2.1 = xi_na k := by unfold xi_na; rw [hxM]
        have hGI : GoodIn xi_W (va_wsS (xi_cn (xi_m mi).1) idx (xi_y M) (xi_cword M :: xi_W)) := by
          intro w hw
          rcases List.mem_append.mp hw with hw | hw
          · rcases List.mem_cons.mp hw with rfl | hw
            · exact xi_W_good _ w1
            · rcases List.mem_cons.mp hw with rfl | hw
              · exact xi_W_good _ w2
              · rcases List.mem_cons.mp hw with rfl | hw
                · exact xi_W_good _ (xi_ini_in h12)
                · cases hw
          · exact xi_good_cons hM hlaw _ hw
        exact ⟨_, vx_runSX (y := xi_y M) (bytes := M.2.2.2.1) (maxL := M.2.2.2.2.1) (ret := M.2.2.2.2.2.1) (hh := M.2.2.2.2.2.2.2.2.2.2) (ws := xi_cword M :: xi_W) (index := idx) (n := xi_na k) (As := ((st.take (xi_na k)).reverse).map (xi_v E)) ⟨hx, hb, hml, hown, hts⟩ (xi_met l E cA D xs L hl IH hM hlaw hn g2 g3 h) (vx_cwSW (xi_na k) hts hGI (by rw [hcw]) rfl rfl ⟨cw3, cw4, by rw [cw5, hna]⟩ ⟨g4, by rw [hmL]; exact g5⟩) ⟨xi_blind E cA D xs L _ hp, hpre⟩ rfl (by rw [List.length_map, List.length_reverse, List.length_take]; omega) (hsz.trans hml) hstk (by show 2 * 0 + _ ≤ 8; omega) hdg hf⟩
      · cases hc
    · cases hc
  · cases hc
end XIU
