theorem xi_sound (l : Launch) (E : xi_E) (cA : Nat → ClassId) (D : va_G) (xs : Nat → Int32) (L : Nat) : ∀ f, xi_Snd l E cA D xs L f
  | 0 => fun _ _ _ _ _ _ _ h => by cases h
  | f + 1 => by
    have IH := xi_sound l E cA D xs L f
    intro mi pc ll st hp r hp' h
    unfold xi_exec at h
    split at h
    · cases h
    · next i len hcode =>
      have hdg := xi_code_ok hcode
      split at h
      · next pc' st' hbr =>
        split at h
        · next hlen =>
          obtain ⟨hm, hW⟩ := IH _ _ _ _ _ _ _ h
          refine ⟨hm, fun hl A hr htab K hL hD hS hN h1 h2 h3 h4 => ?_⟩
          refine xi_br_ok A.1 A.2.1 hdg ?_ hbr (hW hl A hr htab K hL hD hS hN h1 h2 h3 h4)
          rcases hlen with h9 | h9
          · exact Or.inr h9.symm
          · exact Or.inl (xi_sw_of h9)
        · cases h
      · split at h
        · next hlen =>
          subst hlen
          split at h
          · next ll' st' hpu =>
            obtain ⟨hm, hW⟩ := IH _ _ _ _ _ _ _ h
            refine ⟨hm, fun hl A hr htab K hL hD hS hN h1 h2 h3 h4 => ?_⟩
            exact xi_pure_ok A.1 A.2.1 hdg hL hpu (fun ls' hL' => hW hl A hr htab K hL' hD hS hN h1 h2 h3 h4)
          · split at h
            · next st' hp1 hhe =>
              obtain ⟨hm, hW⟩ := IH _ _ _ _ _ _ _ h
              have hm1 := xi_heap_mono hhe
              refine ⟨xi_mono_tr hm1 hm, fun {p e R s m args below meth c H locs cells slots n0 k0 z0 mc ms ls} hl A hr htab K hL hD hS hN h1 h2 h3 h4 => ?_⟩
              have hsz : ls.size = c.maxLocals := hL.1.trans A.2.2.2.2.2.1.symm
              exact xi_heap_ok A K hD hS hN hsz hhe hdg ⟨by omega, by omega⟩ (fun H1 locs1 c1 s1 hN1 hD1 hS1 => hW hl A hr htab K hL hD1 hS1 hN1 h1 h2 h3 h4)
            · split at h
              · next rv hret =>
                cases h
                refine ⟨⟨Nat.le_refl _, Nat.le_refl _, Nat.le_of_eq (Nat.add_comm _ _)⟩, fun {p e R s m args below meth c H locs cells slots n0 k0 z0 mc ms ls} hl A hr htab K hL hD hS hN h1 h2 h3 h4 => ?_⟩
                obtain ⟨hx, hb, hts, hown, hmn, hml, hlocks, hfr, hlo⟩ := id A
                obtain ⟨b1, b2, b3, b4, b5⟩ := id hN
                refine vx_ret (W.widen (k := mc) (n := ms) (by omega) (by omega) ?_)
                unfold xi_ret at hret
                split at hret
                · split at hret
                  · next zty hty =>
                    split at hret
                    · next hnr =>
                      cases hret
                      refine W.zret (ty := zty) hx hb (by rw [hr, hty]) hnr (fun t ht hW => ⟨_, rfl, rfl, by rw [ht]; exact hD, hS.F ht⟩) hS.2.2 hdg hlocks
                    · cases hret
                  · cases hret
                · split at hret
                  · next hty =>
                    cases hret
                    refine W.lret hx hb (by rw [hr, hty]) (fun t ht hW => ⟨_, rfl, rfl, by rw [ht]; exact hD, hS.F ht⟩) hS.2.2 hdg hlocks
                  · cases hret
                · split at hret
                  · next hty =>
                    cases hret
                    refine W.vret hx hb (by rw [hr, hty]) (fun t ht hW => ⟨none, rfl, rfl, by rw [ht]; exact hD, hS.F ht⟩) hS.2.2 hdg hlocks
                  · cases hret
                · cases hret
              · split at h
                · next k zas zrest hcall =>
                  split at h
                  · next v hp1 hex =>
                    obtain ⟨hm, hW⟩ := IH _ _ _ _ _ _ _ h
                    have hm1 := (IH _ _ _ _ _ _ _ hex).1
                    refine ⟨xi_mono_tr hm1 hm, fun {p e R s m args below meth c H locs cells slots n0 k0 z0 mc ms ls} hl A hr htab K hL hD hS hN h1 h2 h3 h4 => ?_⟩
                    have hsz : ls.size = c.maxLocals := hL.1.trans A.2.2.2.2.2.1.symm
                    obtain ⟨b1, b2, b3, b4, b5⟩ := id hN
                    refine xi_call_run l E cA D xs L hl IH A K hsz hD hS hN hcall hex hdg (by omega) (by omega) (fun mc1 ms1 e1 e2 hrun => ?_)
                    obtain ⟨a, hrun⟩ := hrun
                    have h3len : xi_len i = 3 := by
                      unfold xi_call at hcall
                      split at hcall <;> first | rfl | cases hcall
                    refine xi_after hrun hS (fun v9 H1 locs1 hv hD1 hS1 => ?_) (fun X ce q9 H1 locs1 hv _ _ _ _ _ => by cases hv)
                    cases hv
                    have hstk : ∀ w : Option Value, (w.map (xi_v E)).toList ++ List.map (xi_v E) zrest = List.map (xi_v E) (w.toList ++ zrest) := by
                      intro w
                      cases w <;> simp
                    rw [hstk]
                    rw [h3len] at hW
                    refine hW hl A hr htab K hL hD1 hS1 ⟨b1, b2, by omega, by omega, by omega⟩ h1 h2 h3 h4
                  · next X hp1 hex =>
                    split at h
                    · next pc' ll' hcat =>
                      obtain ⟨hm, hW⟩ := IH _ _ _ _ _ _ _ h
                      have hm1 := (IH _ _ _ _ _ _ _ hex).1
                      refine ⟨xi_mono_tr hm1 hm, fun {p e R s m args below meth c H locs cells slots n0 k0 z0 mc ms ls} hl A hr htab K hL hD hS hN h1 h2 h3 h4 => ?_⟩
                      have hsz : ls.size = c.maxLocals := hL.1.trans A.2.2.2.2.2.1.symm
                      obtain ⟨b1, b2, b3, b4, b5⟩ := id hN
                      refine xi_call_run l E cA D xs L hl IH A K hsz hD hS hN hcall hex hdg (by omega) (by omega) (fun mc1 ms1 e1 e2 hrun => ?_)
                      obtain ⟨a, hrun⟩ := hrun
                      refine xi_after hrun hS (fun v9 H1 locs1 hv hD1 hS1 => by cases hv) (fun X9 ce q9 H1 locs1 hv hD1 hS1 hce hcv hcl => ?_)
                      cases hv
                      refine xi_catch_ok A htab K hL hcat hce hcv hcl (fun ls' hL' => ?_)
                      exact hW hl A hr htab K hL' hD1 hS1 ⟨b1, b2, by omega, by omega, by omega⟩ h1 h2 h3 h4
                    · cases h
                  · cases h
                · split at h
                  · next st' hp1 hstr =>
                    obtain ⟨hm, hW⟩ := IH _ _ _ _ _ _ _ h
                    have he := xi_str_eq hstr
                    subst he
                    refine ⟨hm, fun {p e R s m args below meth c H locs cells slots n0 k0 z0 mc ms ls} hl A hr htab K hL hD hS hN h1 h2 h3 h4 => ?_⟩
                    have hsz : ls.size = c.maxLocals := hL.1.trans A.2.2.2.2.2.1.symm
                    obtain ⟨b1, b2, b3, b4, b5⟩ := id hN
                    exact xi_str_ok A K hD hS hsz ⟨by omega, by omega⟩ hstr hdg (fun H1 locs1 _ hD1 hS1 => hW hl A hr htab K hL hD1 hS1 hN h1 h2 h3 h4)
                  · split at h
                    · next X hthr =>
                      cases h
                      refine ⟨⟨Nat.le_succ _, Nat.le_add_right _ _, by show hp.2.2.1 + hp.2.1 ≤ hp.2.1 + (hp.2.2.1 + 1); omega⟩, fun {p e R s m args below meth c H locs cells slots n0 k0 z0 mc ms ls} hl A hr htab K hL hD hS hN h1 h2 h3 h4 => ?_⟩
                      have hsz : ls.size = c.maxLocals := hL.1.trans A.2.2.2.2.2.1.symm
                      obtain ⟨b1, b2, b3, b4, b5⟩ := id hN
                      have h1 : hp.2.2.1 + 1 ≤ k0 + mc := h1
                      have h2 : hp.2.2.2 + 6 ≤ z0 + ms := h2
                      exact xi_thr_ok hl A htab K hD hS hsz hthr hdg (by omega) (by omega) h3 h4
                    · cases h
        · cases h
