theorem inAb_ne {h : AM} {r j : Int} {c : Nat} (hk : inAb h r c j = true) (hc : c ≠ 17) : mkn h r ≠ 17 := by
  unfold inAb isKb at hk
  simp only [Bool.and_eq_true, decide_eq_true_eq] at hk
  omega
theorem isKb_ne {h : AM} {r : Int} {c : Nat} (hk : isKb h r c = true) (hc : c ≠ 17) : mkn h r ≠ 17 := by
  unfold isKb at hk
  simp only [Bool.and_eq_true, decide_eq_true_eq] at hk
  omega
theorem lkp_all {P : Nat × Nat → Prop} {ix : Nat} {v : Nat × Nat} : ∀ l : List (Nat × (Nat × Nat)), (∀ p ∈ l, P p.2) → l.lookup ix = some v → P v
  | [], _, h => by cases h
  | p :: l, hl, h => by
    rw [List.lookup_cons] at h
    split at h
    · injection h with h; rw [← h]; exact hl p (List.mem_cons_self ..)
    · exact lkp_all l (fun q hq => hl q (List.mem_cons_of_mem _ hq)) h
theorem tbf_lt (c : Nat) : ∀ p ∈ tb_f c, p.2.1 < 12 := by
  by_cases h : c < 15
  · have : ∀ c, c < 15 → ∀ p ∈ tb_f c, p.2.1 < 12 := by decide +kernel
    exact this c h
  · intro p hp
    obtain ⟨n, rfl⟩ : ∃ n, c = n + 15 := ⟨c - 15, by omega⟩
    have e : tb_f (n + 15) = [] := rfl
    rw [e] at hp
    cases hp
theorem tf_lt {c ix cl j : Nat} (h : tfld c ix = some (cl, j)) : cl < 12 := lkp_all (P := fun p => p.1 < 12) _ (tbf_lt c) h
set_option maxHeartbeats 4000000 in
theorem me_byt {d k : Nat} {i : Instr} {st st' : List AV} {h h' : AM} (hp : me_ d k i st h = some (st', h')) (hB : Byt h) : Byt h' := by
  unfold me_ at hp
  simp only [cond_eq_ite] at hp
  repeat' split at hp
  all_goals first
    | (cases hp; done)
    | (injection hp with he; injection he with he1 he2; rw [← he2]; exact hB)
    | (injection hp with he; injection he with he1 he2; rw [← he2]; exact byt_v hB (i8_rng _))
    | (injection hp with he; injection he with he1 he2; rw [← he2]; exact byt_al hB (Or.inr (fun _ => rfl)))
    | (injection hp with he; injection he with he1 he2; rw [← he2]; exact byt_al hB (Or.inl (by decide)))
    | (injection hp with he; injection he with he1 he2; rw [← he2]; exact byt_al hB (Or.inl (by omega)))
    | (injection hp with he; injection he with he1 he2; rw [← he2]; exact byt_al (byt_al (byt_al (byt_al (byt_al hB (Or.inl (by decide))) (Or.inl (by decide))) (Or.inl (by decide))) (Or.inl (by decide))) (Or.inl (by decide)))
    | (injection hp with he; injection he with he1 he2; rw [← he2]; exact byt_ne hB (inAb_ne (by assumption) (by decide)))
    | (injection hp with he; injection he with he1 he2; rw [← he2]; exact byt_ne hB (isKb_ne (by assumption) (by decide)))
    | (rename_i hc; simp only [Bool.and_eq_true, decide_eq_true_eq, Bool.or_eq_true] at hc; injection hp with he; injection he with he1 he2; rw [← he2]; exact byt_ne hB (by omega))
    | (rename_i hc; simp only [Bool.and_eq_true, decide_eq_true_eq, Bool.or_eq_true] at hc; injection hp with he; injection he with he1 he2; rw [← he2]; exact byt_ne hB (inAb_ne hc.1 (by decide)))
    | (rename_i hc; simp only [Bool.and_eq_true, decide_eq_true_eq, Bool.or_eq_true, isKb, inAb] at hc; injection hp with he; injection he with he1 he2; rw [← he2]; exact byt_ne hB (by omega))
    | (rename_i hc; simp only [Bool.and_eq_true, decide_eq_true_eq, Bool.or_eq_true, isKb, inAb] at hc; injection hp with he; injection he with he1 he2; rw [← he2]; exact byt_cp hB (by omega))
    | (rename_i hf hc; have hl := tf_lt hf; simp only [Bool.and_eq_true, decide_eq_true_eq, Bool.or_eq_true, isKb] at hc; injection hp with he; injection he with he1 he2; rw [← he2]; exact byt_ne hB (by omega))
