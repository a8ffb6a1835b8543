/-! what every call keeps; small laws of memory -/
theorem psh0 (x : Int) (st : List AV) : psh (0, x) st = (0, x) :: st := rfl
theorem psh1 (x : Int) (st : List AV) : psh (1, x) st = (1, x) :: st := rfl
theorem psh2 (x : Int) (st : List AV) : psh (2, x) st = (2, x) :: st := rfl
theorem psh3 (x : Int) (st : List AV) : psh (3, x) st = st := rfl
theorem al_sh {h : AM} {k : Nat} {n : Int} {dv : Int → Int} {a : Int} (ha : a < mnx h) : (mal h k n dv).2.1 a = h.2.1 a := by
  show (if a = h.2.2.1 then (k, n) else h.2.1 a) = _
  rw [if_neg (show ¬ a = h.2.2.1 from fun z => by have : a < h.2.2.1 := ha; omega)]
set_option maxHeartbeats 4000000 in
theorem me_shape {d k : Nat} {i : Instr} {st st' : List AV} {h h' : AM} (hp : me_ d k i st h = some (st', h')) : ∀ a, a < mnx h → h'.2.1 a = h.2.1 a := by
  have same : ∀ hh : AM, hh = h' → hh.2 = h.2 → ∀ a, a < mnx h → h'.2.1 a = h.2.1 a := fun hh e e1 a _ => by subst e; rw [e1]
  have al1 : ∀ (kd : Nat) (n : Int) (dv : Int → Int), mal h kd n dv = h' → ∀ a, a < mnx h → h'.2.1 a = h.2.1 a := fun kd n dv e a ha => by subst e; exact al_sh ha
  have al5 : some ((2, mnx h) :: st.drop 2, mal (mal (mal (mal (mal h 24 4 (fun j => mnx h + 1 + j)) 16 12 (fun _ => 0)) 16 12 (fun _ => 0)) 16 12 (fun _ => 0)) 16 12 (fun _ => 0)) = some (st', h') → ∀ a, a < mnx h → h'.2.1 a = h.2.1 a := by
    intro e a ha
    injection e with e
    injection e with e1 e2
    subst e2
    rw [al_sh (by simp only [al_nx]; omega), al_sh (by simp only [al_nx]; omega), al_sh (by simp only [al_nx]; omega), al_sh (by simp only [al_nx]; omega), al_sh ha]
  unfold me_ at hp
  simp only [cond_eq_ite] at hp
  repeat' split at hp
  all_goals first
    | (cases hp; done)
    | exact al5 hp
    | (injection hp with he; injection he with he1 he2; exact al1 _ _ _ he2)
    | (injection hp with he; injection he with he1 he2; exact same _ he2 rfl)
set_option maxHeartbeats 4000000 in
theorem ex_shape (n : Nat) : ∀ (d k pc : Nat) (L st : List AV) (h : AM) (r : AV) (h' : AM), ex_ n d k pc L st h = some (r, h') → ∀ a, a < mnx h → h'.2.1 a = h.2.1 a := by
  induction n with
  | zero => intro d k pc L st h r h' hp; simp [ex_] at hp
  | succ n ih =>
    intro d k pc L st h r h' hp
    unfold ex_ at hp
    split at hp
    · rename_i i len hd
      cases hl : lenok i len with
      | false => rw [hl] at hp; cases hp
      | true =>
        rw [hl, cond_true] at hp
        split at hp
        · exact ih _ _ _ _ _ _ _ _ hp
        · split at hp
          · exact ih _ _ _ _ _ _ _ _ hp
          · split at hp
            · exact ih _ _ _ _ _ _ _ _ hp
            · split at hp
              · rename_i hm
                intro a ha
                have m1 := (me_mono hm).1
                exact (ih _ _ _ _ _ _ _ _ hp a (by omega)).trans (me_shape hm a ha)
              · split at hp
                · split at hp
                  · cases hp
                  · split at hp
                    · rename_i rr hc
                      obtain ⟨r1, h1⟩ := rr
                      intro a ha
                      have m1 := (ex_mono n _ _ _ _ _ _ _ _ hc).1
                      dsimp only at hp
                      exact (ih _ _ _ _ _ _ _ _ hp a (by omega)).trans (ih _ _ _ _ _ _ _ _ hc a ha)
                    · cases hp
                · rw [re_inv hp]
                  intro a _
                  rfl
    · cases hp
section KP
variable {d k pc : Nat} {L st : List AV} {h h' : AM} {r : AV}
theorem EV_sc (he : EV d k pc L st h = some (r, h')) : h'.2.2.2.2 = h.2.2.2.2 := by
  obtain ⟨n, hn⟩ := EV_iff.mp he
  exact (ex_mono n _ _ _ _ _ _ _ _ hn).2.2
theorem EV_nx (he : EV d k pc L st h = some (r, h')) : mnx h ≤ mnx h' := by
  obtain ⟨n, hn⟩ := EV_iff.mp he
  exact (ex_mono n _ _ _ _ _ _ _ _ hn).1
theorem EV_isK {x : Int} {c : Nat} (he : EV d k pc L st h = some (r, h')) (hk : isK h x c) : isK h' x c := by
  obtain ⟨n, hn⟩ := EV_iff.mp he
  have h1 := ex_shape n _ _ _ _ _ _ _ _ hn x hk.2.1
  have h2 := (ex_mono n _ _ _ _ _ _ _ _ hn).1
  exact ⟨hk.1, by have := hk.2.1; omega, by unfold mkn; rw [h1]; exact hk.2.2⟩
end KP
theorem isK_wr {h : AM} {a i v r : Int} {c : Nat} : isK (mwr h a i v) r c ↔ isK h r c := Iff.rfl
theorem inA_wr {h : AM} {a i v r j : Int} {c : Nat} : inA (mwr h a i v) r c j ↔ inA h r c j := Iff.rfl
theorem inR_wr {h : AM} {a i v r j : Int} : inR (mwr h a i v) r j ↔ inR h r j := Iff.rfl
