/-! the plain machine without a count of steps: what a method answers -/
theorem ex_up (n : Nat) : ∀ (d k pc : Nat) (L st : List AV) (h : AM) (x : AV × AM), ex_ n d k pc L st h = some x → ex_ (n + 1) d k pc L st h = some x := by
  induction n with
  | zero => intro d k pc L st h x hp; simp [ex_] at hp
  | succ n ih =>
    intro d k pc L st h x hp
    rw [ex_] at hp
    rw [ex_]
    split at hp
    · rename_i i len hd
      cases hl : lenok i len with
      | false => rw [hl] at hp; cases hp
      | true =>
        rw [hl, cond_true] at hp
        rw [cond_true]
        split at hp
        · exact ih _ _ _ _ _ _ _ hp
        · split at hp
          · exact ih _ _ _ _ _ _ _ hp
          · split at hp
            · exact ih _ _ _ _ _ _ _ hp
            · split at hp
              · exact ih _ _ _ _ _ _ _ hp
              · split at hp
                · split at hp
                  · cases hp
                  · split at hp
                    · rename_i rr hc
                      rw [ih _ _ _ _ _ _ _ hc]
                      exact ih _ _ _ _ _ _ _ hp
                    · cases hp
                · exact hp
    · cases hp
theorem ex_le {n n' : Nat} (hn : n ≤ n') {d k pc : Nat} {L st : List AV} {h : AM} {x : AV × AM} (hp : ex_ n d k pc L st h = some x) : ex_ n' d k pc L st h = some x := by
  obtain ⟨j, rfl⟩ := Nat.le.dest hn
  induction j with
  | zero => exact hp
  | succ j ih => exact ex_up _ _ _ _ _ _ _ _ (ih (by omega))
/-- what method k answers from pc on: none if it fails or never ends -/
noncomputable def EV (d k pc : Nat) (L st : List AV) (h : AM) : Option (AV × AM) := @dite _ _ (Classical.propDecidable _) (fun hx : ∃ n x, ex_ n d k pc L st h = some x => some hx.choose_spec.choose) (fun _ => none)
theorem EV_iff {d k pc : Nat} {L st : List AV} {h : AM} {x : AV × AM} : EV d k pc L st h = some x ↔ ∃ n, ex_ n d k pc L st h = some x := by
  unfold EV
  by_cases hx : ∃ n x, ex_ n d k pc L st h = some x
  · rw [dif_pos hx]
    have hs := hx.choose_spec.choose_spec
    constructor
    · intro he
      cases he
      exact ⟨_, hs⟩
    · rintro ⟨n, hn⟩
      have h1 := ex_le (Nat.le_max_left n hx.choose) hn
      have h2 := ex_le (Nat.le_max_right n hx.choose) hs
      rw [h1] at h2
      exact h2.symm
  · rw [dif_neg hx]
    constructor
    · intro he; cases he
    · rintro ⟨n, hn⟩; exact absurd ⟨n, x, hn⟩ hx
theorem EV_ext {d k pc d' k' pc' : Nat} {L st L' st' : List AV} {h h' : AM} (hx : ∀ n, ex_ (n + 1) d k pc L st h = ex_ n d' k' pc' L' st' h') : EV d k pc L st h = EV d' k' pc' L' st' h' := by
  have key : ∀ x, EV d k pc L st h = some x ↔ EV d' k' pc' L' st' h' = some x := by
    intro x
    rw [EV_iff, EV_iff]
    constructor
    · rintro ⟨n, hn⟩
      cases n with
      | zero => simp [ex_] at hn
      | succ n => exact ⟨n, by rw [← hx]; exact hn⟩
    · rintro ⟨n, hn⟩
      exact ⟨n + 1, by rw [hx]; exact hn⟩
  cases h1 : EV d k pc L st h with
  | some x => exact ((key x).mp h1).symm
  | none =>
    cases h2 : EV d' k' pc' L' st' h' with
    | none => rfl
    | some x => rw [(key x).mpr h2] at h1; cases h1
section EE
variable {d k pc : Nat} {L st L' st' : List AV} {h h' : AM} {i : Instr} {len : Nat}
theorem E_pu (hd : decode (mcode k) pc = .ok (i, len)) (hl : lenok i len = true) (hp : pu_ k i st = some st') : EV d k pc L st h = EV d k (pc + len) L st' h := by
  refine EV_ext fun n => ?_
  rw [ex_, hd]
  simp only [hl, cond_true, hp]
theorem E_lo (hd : decode (mcode k) pc = .ok (i, len)) (hl : lenok i len = true) (h1 : pu_ k i st = none) (hp : lo_ i L st = some (L', st')) : EV d k pc L st h = EV d k (pc + len) L' st' h := by
  refine EV_ext fun n => ?_
  rw [ex_, hd]
  simp only [hl, cond_true, h1, hp]
theorem E_br {pc' : Nat} (hd : decode (mcode k) pc = .ok (i, len)) (hl : lenok i len = true) (h1 : pu_ k i st = none) (h2 : lo_ i L st = none) (hp : br_ i pc st = some (pc', st')) : EV d k pc L st h = EV d k pc' L st' h := by
  refine EV_ext fun n => ?_
  rw [ex_, hd]
  simp only [hl, cond_true, h1, h2, hp]
theorem E_me (hd : decode (mcode k) pc = .ok (i, len)) (hl : lenok i len = true) (h1 : pu_ k i st = none) (h2 : lo_ i L st = none) (h3 : br_ i pc st = none) (hp : me_ d k i st h = some (st', h')) : EV d k pc L st h = EV d k (pc + len) L st' h' := by
  refine EV_ext fun n => ?_
  rw [ex_, hd]
  simp only [hl, cond_true, h1, h2, h3, hp]
theorem E_re {x : AV × AM} (hd : decode (mcode k) pc = .ok (i, len)) (hl : lenok i len = true) (h1 : pu_ k i st = none) (h2 : lo_ i L st = none) (h3 : br_ i pc st = none) (h4 : me_ d k i st h = none) (h5 : ca_ k i st h = none) (hp : re_ k i st h = some x) : EV d k pc L st h = some x := by
  rw [EV_iff]
  refine ⟨1, ?_⟩
  rw [ex_, hd]
  simp only [hl, cond_true, h1, h2, h3, h4, h5, hp]
theorem E_ca {k' : Nat} {as : List AV} (hd : decode (mcode k) pc = .ok (i, len)) (hl : lenok i len = true) (h1 : pu_ k i st = none) (h2 : lo_ i L st = none) (h3 : br_ i pc st = none) (h4 : me_ (d + 1) k i st h = none) (hp : ca_ k i st h = some (k', as, st')) : EV (d + 1) k pc L st h = (EV d k' 0 (mkl k' as) [] h).bind (fun r => EV (d + 1) k (pc + 3) L (psh r.1 st') r.2) := by
  have hs : ∀ n, ex_ (n + 1) (d + 1) k pc L st h = match ex_ n d k' 0 (mkl k' as) [] h with
      | some r => ex_ n (d + 1) k (pc + 3) L (psh r.1 st') r.2
      | none => none := by
    intro n
    rw [ex_, hd]
    simp only [hl, cond_true, h1, h2, h3, h4, hp]
    cases ex_ n d k' 0 (mkl k' as) [] h <;> rfl
  have key : ∀ x, EV (d + 1) k pc L st h = some x ↔ (EV d k' 0 (mkl k' as) [] h).bind (fun r => EV (d + 1) k (pc + 3) L (psh r.1 st') r.2) = some x := by
    intro x
    rw [EV_iff, Option.bind_eq_some_iff]
    constructor
    · rintro ⟨n, hn⟩
      cases n with
      | zero => simp [ex_] at hn
      | succ n =>
        rw [hs] at hn
        split at hn
        · rename_i r hr
          exact ⟨r, EV_iff.mpr ⟨n, hr⟩, EV_iff.mpr ⟨n, hn⟩⟩
        · cases hn
    · rintro ⟨r, hr, hn⟩
      obtain ⟨n1, hr⟩ := EV_iff.mp hr
      obtain ⟨n2, hn⟩ := EV_iff.mp hn
      refine ⟨max n1 n2 + 1, ?_⟩
      rw [hs, ex_le (Nat.le_max_left n1 n2) hr]
      exact ex_le (Nat.le_max_right n1 n2) hn
  cases h1 : EV (d + 1) k pc L st h with
  | some x => exact ((key x).mp h1).symm
  | none =>
    cases h2 : (EV d k' 0 (mkl k' as) [] h).bind (fun r => EV (d + 1) k (pc + 3) L (psh r.1 st') r.2) with
    | none => rfl
    | some x => rw [(key x).mpr h2] at h1; cases h1
end EE
