/-! bytes stay bytes: every call -/
set_option maxHeartbeats 4000000 in
theorem ex_byt (n : Nat) : ∀ (d k pc : Nat) (L st : List AV) (h : AM) (r : AV) (h' : AM), ex_ n d k pc L st h = some (r, h') → Byt h → Byt h' := by
  induction n with
  | zero => intro d k pc L st h r h' hp; simp [ex_] at hp
  | succ n ih =>
    intro d k pc L st h r h' hp hB
    unfold ex_ at hp
    split at hp
    · rename_i i len hd
      cases hl : lenok i len with
      | false => rw [hl] at hp; cases hp
      | true =>
        rw [hl, cond_true] at hp
        split at hp
        · exact ih _ _ _ _ _ _ _ _ hp hB
        · split at hp
          · exact ih _ _ _ _ _ _ _ _ hp hB
          · split at hp
            · exact ih _ _ _ _ _ _ _ _ hp hB
            · split at hp
              · rename_i hm
                exact ih _ _ _ _ _ _ _ _ hp (me_byt hm hB)
              · split at hp
                · split at hp
                  · cases hp
                  · split at hp
                    · rename_i rr hc
                      obtain ⟨r1, h1⟩ := rr
                      dsimp only at hp
                      exact ih _ _ _ _ _ _ _ _ hp (ih _ _ _ _ _ _ _ _ hc hB)
                    · cases hp
                · rw [re_inv hp]
                  exact hB
    · cases hp
theorem Byt_EV {d k pc : Nat} {L st : List AV} {h h' : AM} {r : AV} (he : EV d k pc L st h = some (r, h')) (hB : Byt h) : Byt h' := by
  obtain ⟨n, hn⟩ := EV_iff.mp he
  exact ex_byt n _ _ _ _ _ _ _ _ hn hB
