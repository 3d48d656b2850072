/-! A run's answer, without its fuel. -/
abbrev xi_R : Type := (Option Value ⊕ String) × xi_H
def xi_step (xs : Nat → Int32) (L : Nat) (g : Nat → Nat → List Value → List Value → xi_H → Option xi_R) (mi pc : Nat) (ll st : List Value) (hp : xi_H) : Option xi_R := match xi_code mi pc with
    | none => none
    | some (i, len) => match xi_br i pc st with
      | some (pc', st') => if (xi_len i = len ∨ xi_sw i = true) then g mi pc' ll st' hp else none
      | none => if len = xi_len i then match xi_pure i ll st with
        | some (ll', st') => g mi (pc + len) ll' st' hp
        | none => match xi_heap xs L mi i st hp with
          | some (st', hp') => g mi (pc + len) ll st' hp'
          | none => match xi_ret mi i st with
            | some r => some (.inl r, hp)
            | none => match xi_call mi i st hp with
              | some (k, args, rest) => match g k 0 (xi_loc k args) [] hp with
                | some (.inl v, hp') => g mi (pc + len) ll (v.toList ++ rest) hp'
                | some (.inr X, hp') => match xi_catch mi pc X ll with
                  | some (pc', ll') => g mi pc' ll' [] hp'
                  | none => none
                | none => none
              | none => match xi_str mi i st hp with
                | some (st', hp') => g mi (pc + len) ll st' hp'
                | none => match xi_thr mi pc i st with
                  | some X => some (.inr X, hp.1, hp.2.1, hp.2.2.1 + 1, hp.2.2.2 + 6)
                  | none => none
        else none
section XEV
variable (xs : Nat → Int32) (L : Nat)
theorem xi_exec_s (f mi pc : Nat) (ll st : List Value) (hp : xi_H) : xi_exec xs L (f + 1) mi pc ll st hp = xi_step xs L (xi_exec xs L f) mi pc ll st hp := rfl
theorem xi_step_mono {g g' : Nat → Nat → List Value → List Value → xi_H → Option xi_R} (hg : ∀ mi pc ll st hp r, g mi pc ll st hp = some r → g' mi pc ll st hp = some r) {mi pc : Nat} {ll st : List Value} {hp : xi_H} {r : xi_R} (h : xi_step xs L g mi pc ll st hp = some r) : xi_step xs L g' mi pc ll st hp = some r := by
  unfold xi_step at h ⊢
  split at h
  · cases h
  · next i len hc =>
    split at h
    · next pc' st' hb =>
      split at h
      · next hl =>
        rw [if_pos hl]
        exact hg _ _ _ _ _ _ h
      · cases h
    · next hb =>
      split at h
      · next hl =>
        rw [if_pos hl]
        split at h
        · next hpu => exact hg _ _ _ _ _ _ h
        · next hpu =>
          split at h
          · next hhe => exact hg _ _ _ _ _ _ h
          · next hhe =>
            split at h
            · next hr => exact h
            · next hr =>
              split at h
              · next k zas zrest hca =>
                split at h
                · next v hp1 hx =>
                  simp only [hg _ _ _ _ _ _ hx]
                  exact hg _ _ _ _ _ _ h
                · next X hp1 hx =>
                  simp only [hg _ _ _ _ _ _ hx]
                  split at h
                  · next hcat => exact hg _ _ _ _ _ _ h
                  · cases h
                · cases h
              · next hca =>
                split at h
                · next hs => exact hg _ _ _ _ _ _ h
                · next hs => exact h
      · cases h
theorem xi_exec_mono : ∀ (f mi pc : Nat) (ll st : List Value) (hp : xi_H) (r : xi_R), xi_exec xs L f mi pc ll st hp = some r → xi_exec xs L (f + 1) mi pc ll st hp = some r
  | 0, _, _, _, _, _, _, h => by cases h
  | f + 1, mi, pc, ll, st, hp, r, h => by
    rw [xi_exec_s] at h ⊢
    exact xi_step_mono xs L (xi_exec_mono f) h
theorem xi_exec_le {f f' : Nat} (hf : f ≤ f') {mi pc : Nat} {ll st : List Value} {hp : xi_H} {r : xi_R} (h : xi_exec xs L f mi pc ll st hp = some r) : xi_exec xs L f' mi pc ll st hp = some r := by
  induction hf with
  | refl => exact h
  | step _ ih => exact xi_exec_mono xs L _ _ _ _ _ _ _ ih
noncomputable def ev (mi pc : Nat) (ll st : List Value) (hp : xi_H) : Option xi_R := @dite _ (∃ r f, xi_exec xs L f mi pc ll st hp = some r) (Classical.propDecidable _) (fun h => some (Classical.choose h)) (fun _ => none)
theorem ev_iff {mi pc : Nat} {ll st : List Value} {hp : xi_H} {r : xi_R} : ev xs L mi pc ll st hp = some r ↔ ∃ f, xi_exec xs L f mi pc ll st hp = some r := by
  unfold ev
  by_cases h : ∃ r f, xi_exec xs L f mi pc ll st hp = some r
  · rw [dif_pos h]
    obtain ⟨f0, h0⟩ := Classical.choose_spec h
    constructor
    · intro e
      cases e
      exact ⟨f0, h0⟩
    · rintro ⟨f, hf⟩
      have a := xi_exec_le xs L (Nat.le_max_left f f0) hf
      have b := xi_exec_le xs L (Nat.le_max_right f f0) h0
      rw [a] at b
      exact b.symm
  · rw [dif_neg h]
    constructor
    · intro e; cases e
    · rintro ⟨f, hf⟩
      exact absurd ⟨r, f, hf⟩ h
theorem ev_eq (mi pc : Nat) (ll st : List Value) (hp : xi_H) : ev xs L mi pc ll st hp = xi_step xs L (ev xs L) mi pc ll st hp := by
  apply Option.ext
  intro r
  constructor
  · intro h
    obtain ⟨f, hf⟩ := (ev_iff xs L).mp h
    cases f with
    | zero => cases hf
    | succ f =>
      rw [xi_exec_s] at hf
      exact xi_step_mono xs L (fun _ _ _ _ _ _ h => (ev_iff xs L).mpr ⟨f, h⟩) hf
  · intro h
    have key : ∃ f, xi_step xs L (xi_exec xs L f) mi pc ll st hp = some r := by
      unfold xi_step at h
      split at h
      · cases h
      · next i len hc =>
        split at h
        · next pc' st' hb =>
          split at h
          · next hl =>
            obtain ⟨f, hf⟩ := (ev_iff xs L).mp h
            exact ⟨f, by unfold xi_step; simp only [hc, hb]; rw [if_pos hl]; exact hf⟩
          · cases h
        · next hb =>
          split at h
          · next hl =>
            split at h
            · next hpu =>
              obtain ⟨f, hf⟩ := (ev_iff xs L).mp h
              exact ⟨f, by unfold xi_step; simp only [hc, hb, hpu]; rw [if_pos hl]; exact hf⟩
            · next hpu =>
              split at h
              · next hhe =>
                obtain ⟨f, hf⟩ := (ev_iff xs L).mp h
                exact ⟨f, by unfold xi_step; simp only [hc, hb, hpu, hhe]; rw [if_pos hl]; exact hf⟩
              · next hhe =>
                split at h
                · next hr => exact ⟨0, by unfold xi_step; simp only [hc, hb, hpu, hhe, hr]; rw [if_pos hl]; exact h⟩
                · next hr =>
                  split at h
                  · next k zas zrest hca =>
                    split at h
                    · next v hp1 hx =>
                      obtain ⟨f1, hf1⟩ := (ev_iff xs L).mp hx
                      obtain ⟨f2, hf2⟩ := (ev_iff xs L).mp h
                      have a := xi_exec_le xs L (Nat.le_max_left f1 f2) hf1
                      have b := xi_exec_le xs L (Nat.le_max_right f1 f2) hf2
                      exact ⟨max f1 f2, by unfold xi_step; simp only [hc, hb, hpu, hhe, hr, hca, a]; rw [if_pos hl]; exact b⟩
                    · next X hp1 hx =>
                      split at h
                      · next hcat =>
                        obtain ⟨f1, hf1⟩ := (ev_iff xs L).mp hx
                        obtain ⟨f2, hf2⟩ := (ev_iff xs L).mp h
                        have a := xi_exec_le xs L (Nat.le_max_left f1 f2) hf1
                        have b := xi_exec_le xs L (Nat.le_max_right f1 f2) hf2
                        exact ⟨max f1 f2, by unfold xi_step; simp only [hc, hb, hpu, hhe, hr, hca, a, hcat]; rw [if_pos hl]; exact b⟩
                      · cases h
                    · cases h
                  · next hca =>
                    split at h
                    · next hs =>
                      obtain ⟨f, hf⟩ := (ev_iff xs L).mp h
                      exact ⟨f, by unfold xi_step; simp only [hc, hb, hpu, hhe, hr, hca, hs]; rw [if_pos hl]; exact hf⟩
                    · next hs => exact ⟨0, by unfold xi_step; simp only [hc, hb, hpu, hhe, hr, hca, hs]; rw [if_pos hl]; exact h⟩
          · cases h
    obtain ⟨f, hf⟩ := key
    exact (ev_iff xs L).mpr ⟨f + 1, by rw [xi_exec_s]; exact hf⟩
end XEV
