theorem psh0 (x : Int) (st : List AV) : psh (0, x) st = (0, x) :: st := rfl
theorem psh1 (x : Int) (st : List AV) : psh (1, x) st = (1, x) :: st := rfl
theorem psh2 (x : Int) (st : List AV) : psh (2, x) st = (2, x) :: st := rfl
theorem psh3 (x : Int) (st : List AV) : psh (3, x) st = st := rfl
set_option maxRecDepth 10000 in
theorem s_hasChild {d : Nat} {s c : Int} {h : AM} (hs : isK h s 6) : EV d 65 0 [(2, s), (0, c)] [] h = some ((0, if 0 ≤ c ∧ c < mrd h s 7 then 1 else 0), h) := by
  simp only [e65_0, e65_1, e65_4, e65_5, e65_6, e65_9, e65_12, e65_13, e65_16, e65_17, hs, psh0, psh1, psh3, true_or, or_true, eq_self, Option.bind_some, List.length_nil, List.length_cons, Nat.reduceAdd, Nat.reduceLeDiff, Nat.zero_le]
  by_cases h1 : c < 0
  · rw [if_pos h1, if_neg (by omega)]
  · rw [if_neg h1]
    by_cases h2 : c < mrd h s 7
    · rw [if_pos h2, if_pos ⟨by omega, h2⟩]
    · rw [if_neg h2, if_neg (fun z => h2 z.2)]
set_option maxRecDepth 10000 in
theorem s_refuse {d : Nat} {x v : Int} {h : AM} (hs : isK h x 10) : EV d 159 0 [(2, x), (0, v)] [] h = some ((0, -1), mwr h x 11 v) := by
  simp only [e159_0, e159_1, e159_2, e159_5, e159_6, hs, psh0, psh1, psh3, true_or, or_true, eq_self, Option.bind_some, List.length_nil, List.length_cons, Nat.reduceAdd, Nat.reduceLeDiff, Nat.zero_le]
set_option maxRecDepth 10000 in
theorem s_answer {d : Nat} {x v : Int} {h : AM} (hs : isK h x 10) : EV d 158 0 [(2, x), (0, v)] [] h = some ((0, v), mwr h x 11 0) := by
  simp only [e158_0, e158_1, e158_2, e158_5, e158_6, hs, psh0, psh1, psh3, true_or, or_true, eq_self, Option.bind_some, List.length_nil, List.length_cons, Nat.reduceAdd, Nat.reduceLeDiff, Nat.zero_le]
