/-! Search: its row of sums; what comes next; how many -/
def SL : List Nat := (List.range 13).flatMap (fun k => [1, 2, 4, 6, 8, 10, 12, 14, 16, 18].map (fun j => 2 ^ k * j))
theorem SL_mem {k j : Nat} (hk : k ≤ 12) (hj : j ∈ ([1, 2, 4, 6, 8, 10, 12, 14, 16, 18] : List Nat)) : 2 ^ k * j ∈ SL := List.mem_flatMap.mpr ⟨k, List.mem_range.mpr (by omega), List.mem_map.mpr ⟨j, hj, rfl⟩⟩
theorem SL_le : ∀ n ∈ SL, n ≤ 73728 := by decide +kernel
theorem fold_gap (w : Nat → Nat) {m n : Nat} (hmn : m < n) : ∀ (l : List Nat) (a b k : Nat), a + k ≤ b → l.foldl (fun s x => if x ≤ m then s + w x else s) a + k ≤ l.foldl (fun s x => if x ≤ n then s + w x else s) b
  | [], a, b, k, h => h
  | x :: xs, a, b, k, h => by
    rw [List.foldl_cons, List.foldl_cons]
    refine fold_gap w hmn xs _ _ k ?_
    by_cases c : x ≤ m
    · rw [if_pos c, if_pos (by omega)]; omega
    · rw [if_neg c]
      split <;> omega
theorem fold_mem (w : Nat → Nat) {m n : Nat} (hmn : m < n) : ∀ (l : List Nat) (a b : Nat), n ∈ l → a ≤ b → l.foldl (fun s x => if x ≤ m then s + w x else s) a + w n ≤ l.foldl (fun s x => if x ≤ n then s + w x else s) b
  | [], a, b, h, _ => absurd h List.not_mem_nil
  | x :: xs, a, b, h, hab => by
    rw [List.foldl_cons, List.foldl_cons]
    by_cases e : x = n
    · subst e
      refine fold_gap w hmn xs _ _ _ ?_
      rw [if_neg (by omega), if_pos (Nat.le_refl _)]
      omega
    · have h' : n ∈ xs := by
        rcases List.mem_cons.mp h with z | z
        · exact absurd z.symm e
        · exact z
      refine fold_mem w hmn xs _ _ h' ?_
      by_cases c : x ≤ m
      · rw [if_pos c, if_pos (by omega)]; omega
      · rw [if_neg c]
        split <;> omega
theorem cnt_step {m n : Nat} (hn : n ∈ SL) (h : m < n) : cnt m + 1 ≤ cnt n ∧ phi m + n ≤ phi n := ⟨fold_mem (fun _ => 1) h SL 0 0 hn (Nat.le_refl _), fold_mem (fun x => x) h SL 0 0 hn (Nat.le_refl _)⟩
/-- the class's search has changed its own scratch alone -/
def SC (h h' : AM) : Prop := Shp h' ∧ RSum h' ∧ h'.2.2.2.2 = h.2.2.2.2 ∧ ∀ a i, a < 258 → a ≠ 151 → a ≠ 149 → ¬ (a = 148 ∧ (i = 2 ∨ i = 4 ∨ i = 5)) → mrd h' a i = mrd h a i
theorem SC.trans {h h1 h2 : AM} (a : SC h h1) (b : SC h1 h2) : SC h h2 := ⟨b.1, b.2.1, b.2.2.1.trans a.2.2.1, fun x i h1 h2 h3 h4 => (b.2.2.2 x i h1 h2 h3 h4).trans (a.2.2.2 x i h1 h2 h3 h4)⟩
theorem SF.sc {h h1 h2 : AM} (hf : SF h h1) (a : SC h1 h2) : SF h h2 := by
  refine ⟨hf.1.trans (fun x i hn => a.2.2.2 x i ?_ ?_ ?_ ?_), a.1, a.2.1, a.2.2.1.trans hf.2.2.2⟩
  · exact Int.lt_of_not_ge (fun z => hn (Or.inr (Or.inl z)))
  · rintro rfl; exact hn (Or.inl (by decide +kernel))
  · rintro rfl; exact hn (Or.inl (by decide +kernel))
  · rintro ⟨rfl, rfl | rfl | rfl⟩ <;> exact hn (Or.inr (Or.inr (by decide +kernel)))
/-- a write into the sums, or into the search's own numbers -/
theorem SC_wr {h h' : AM} {a i v : Int} (hs : SC h h') (ha : a = mrd h' 148 5 ∨ (a = 148 ∧ (i = 2 ∨ i = 4)) ∨ a = 149) : SC h (mwr h' a i v) := by
  obtain ⟨s1, s2, s3, s4⟩ := hs
  have hS : mrd h' 148 5 = 151 ∨ 258 ≤ mrd h' 148 5 := s2.1
  refine ⟨s1, RSum_eq (h := h') rfl ?_ s2, s3, fun b j h1 h2 h3 h4 => ?_⟩
  · rw [rd_wr, if_neg (by omega)]
  · rw [rd_wr, if_neg (by omega)]
    exact s4 b j h1 h2 h3 h4
section
variable {d : Nat} {h : AM} {s a b c k l p v w x y z S : Int}
theorem x_clear_loop (k148 : isK h 148 7) (e5 : mrd h 148 5 = S) (hS : S ≠ 148) (kS : isK h S 19) (n : Nat) (n1 : n ≤ 1000000) (hn : (n : Int) ≤ mln h S) (m : Nat) : ∀ i : Nat, i + m = n → EV d 85 19 [(2, 148), (0, (n : Int)), (1, v), (3, 1), (0, (i : Int))] [] (mfl h S 0 i v) = some ((3, 0), mfl h S 0 n v) := by
  have nS : (148 = S) = False := eq_false (fun z => hS z.symm)
  induction m with
  | zero =>
    intro i hi
    have e : i = n := by omega
    subst e
    rw [e85_19]
    simp only [e85_0, e85_1, e85_4, e85_5, e85_6, e85_9, e85_10, e85_11, e85_13, e85_16, e85_17, e85_21, e85_22, e85_25, e85_26, e85_29, e85_31, e85_32, e85_33, e85_36, e85_39, psh0, psh1, psh3, true_or, or_true, eq_self, Option.bind_some, List.length_nil, List.length_cons, Nat.reduceAdd, Nat.reduceLeDiff, Nat.zero_le, ↓reduceIte, Int.reduceLT, Int.reduceEq, Int.reduceLE, Int.reduceNeg, Int.reduceAdd, Int.reduceMul, Int.reduceSub, ne_eq, not_true_eq_false, not_false_eq_true, and_true, true_and, and_false, false_and, c3lt, c3gt, c3eq, Bool.false_eq_true, isK_wr, inA_wr, inR_wr, Int.lt_irrefl]
  | succ m ih =>
    intro i hi
    have ci : (i : Int) < n := by omega
    have w1 : w32 ((i : Int) + 1) = ((i + 1 : Nat) : Int) := by rw [w32_id (by omega) (by omega)]; omega
    have i1 : inA h S 19 i := ⟨kS, by omega, by omega⟩
    have e : mwr (mfl h S 0 i v) S i v = mfl h S 0 ((i + 1 : Nat) : Int) v := by
      have := mfl_s (h := h) (a := S) (i := 0) (n := i) (v := v) (by omega)
      rw [Int.zero_add] at this
      exact this
    rw [e85_19]
    simp only [e85_0, e85_1, e85_4, e85_5, e85_6, e85_9, e85_10, e85_11, e85_13, e85_16, e85_17, e85_21, e85_22, e85_25, e85_26, e85_29, e85_31, e85_32, e85_33, e85_36, e85_39, psh0, psh1, psh3, true_or, or_true, eq_self, Option.bind_some, List.length_nil, List.length_cons, Nat.reduceAdd, Nat.reduceLeDiff, Nat.zero_le, ↓reduceIte, Int.reduceLT, Int.reduceEq, Int.reduceLE, Int.reduceNeg, Int.reduceAdd, Int.reduceMul, Int.reduceSub, ne_eq, not_true_eq_false, not_false_eq_true, and_true, true_and, and_false, false_and, c3lt, c3gt, c3eq, Bool.false_eq_true, isK_wr, inA_wr, inR_wr, ci, isK_fl, inA_fl, k148, rdf, nS, e5, i1, w1, e]
    exact ih (i + 1) (by omega)
theorem x_clearSums {n : Nat} (hn : n ∈ SL) (hp : Shp h) (hr : RSum h) : ∃ h' S, EV d 85 0 [(2, 148), (0, (n : Int)), (1, v), (3, 1), (3, 0)] [] h = some ((3, 0), h') ∧ SC h h' ∧ mrd h' 148 5 = S ∧ (S = 151 ∨ 258 ≤ S) ∧ isK h' S 19 ∧ (n : Int) ≤ mln h' S ∧ (∀ i : Nat, i < n → mrd h' S i = v) ∧ ∀ a i, a < 258 → a ≠ 151 → ¬ (a = 148 ∧ i = 5) → mrd h' a i = mrd h a i := by
  have n73 := SL_le n hn
  have k148 := kn_148 hp
  obtain ⟨S, hS⟩ : ∃ S, mrd h 148 5 = S := ⟨_, rfl⟩
  obtain ⟨r1, r2, r3, r4, r5, r6⟩ := id hr
  rw [hS] at r1 r2 r3 r4 r5 r6
  by_cases c : mln h S < n
  · have hstep := cnt_step (m := (mln h S).toNat) hn (by omega)
    obtain ⟨m1, hm1⟩ : ∃ m1, m1 = mwr (mal h 19 n (fun _ => 0)) 148 5 (mnx h) := ⟨_, rfl⟩
    have h258 := hp.1
    have n1000 : (n : Int) ≤ 1000000 := by omega
    have n0 : (0 : Int) ≤ n := by omega
    have km : isK (mal h 19 n (fun _ => 0)) 148 7 := by
      refine ⟨by decide, by show (148 : Int) < mnx h + 1; omega, ?_⟩
      show (if (148 : Int) = mnx h then ((19 : Nat), (n : Int)) else h.2.1 148).1 = 7
      rw [if_neg (by omega)]
      exact k148.2.2
    have k1 : isK m1 148 7 := by rw [hm1]; exact km
    have e1 : mrd m1 148 5 = mnx h := by rw [hm1, rde]
    have kS : isK m1 (mnx h) 19 := by
      rw [hm1]
      refine ⟨by omega, by show mnx h < mnx h + 1; omega, ?_⟩
      show (if mnx h = mnx h then ((19 : Nat), (n : Int)) else h.2.1 (mnx h)).1 = 19
      rw [if_pos rfl]
    have lS : mln m1 (mnx h) = n := by
      rw [hm1]
      show (if mnx h = mnx h then ((19 : Nat), (n : Int)) else h.2.1 (mnx h)).2 = n
      rw [if_pos rfl]
    have fr1 : ∀ a i, a < 258 → ¬ (a = 148 ∧ i = 5) → mrd m1 a i = mrd h a i := fun a i h1 h2 => by
      rw [hm1, rd_wr, if_neg h2]
      show (if a = mnx h then 0 else h.1 a i) = _
      rw [if_neg (by omega)]
      rfl
    have sh1 : Shp m1 := by
      rw [hm1]
      refine ⟨by show 258 ≤ mnx h + 1; omega, fun q hq => ?_⟩
      have hq' : ∀ q ∈ shT, q.1 < 258 := by decide +kernel
      show (if q.1 = mnx h then ((19 : Nat), (n : Int)) else h.2.1 q.1) = _
      rw [if_neg (by have := hq' q hq; omega)]
      exact hp.2 q hq
    have rs1 : RSum m1 := by
      unfold RSum
      rw [e1, lS]
      refine ⟨Or.inr (by omega), kS, by omega, by omega, ?_, ?_⟩
      · rw [hm1]
        show mnx h + 1 ≤ 258 + (cnt ((n : Int).toNat) : Int)
        rw [Int.toNat_natCast]
        omega
      · rw [hm1]
        show msl h + ((n : Int)).toNat ≤ 200000 + phi ((n : Int).toNat)
        rw [Int.toNat_natCast]
        omega
    have gl := x_clear_loop (d := d) (v := v) k1 e1 (by omega) kS n (by omega) (by rw [lS]; omega) n 0 (by omega)
    rw [show ((0 : Nat) : Int) = 0 from rfl, mfl_0] at gl
    have rdS : ∀ a i, a ≠ mnx h → mrd (mfl m1 (mnx h) 0 n v) a i = mrd m1 a i := fun a i ha => rdf ha
    refine ⟨mfl m1 (mnx h) 0 n v, mnx h, ?_, ⟨sh1, ?_, by rw [hm1]; rfl, fun a i h1 h2 h3 h4 => ?_⟩, ?_, Or.inr (by omega), kS, by show (n : Int) ≤ mln m1 (mnx h); rw [lS]; omega, fun i hi => ?_, fun a i h1 h2 h3 => ?_⟩
    · refine Eq.trans ?_ gl
      simp only [e85_0, e85_1, e85_4, e85_5, e85_6, e85_9, e85_10, e85_11, e85_13, e85_16, e85_17, e85_21, e85_22, e85_25, e85_26, e85_29, e85_31, e85_32, e85_33, e85_36, e85_39, psh0, psh1, psh3, true_or, or_true, eq_self, Option.bind_some, List.length_nil, List.length_cons, Nat.reduceAdd, Nat.reduceLeDiff, Nat.zero_le, ↓reduceIte, Int.reduceLT, Int.reduceEq, Int.reduceLE, Int.reduceNeg, Int.reduceAdd, Int.reduceMul, Int.reduceSub, ne_eq, not_true_eq_false, not_false_eq_true, and_true, true_and, and_false, false_and, c3lt, c3gt, c3eq, Bool.false_eq_true, isK_wr, inA_wr, inR_wr, k148, hS, r2, c, n0, n1000, km, ← hm1]
    · exact RSum_eq (h := m1) rfl (rdS 148 5 (by omega)) rs1
    · rw [rdS a i (by omega)]; exact fr1 a i h1 (fun z => h4 ⟨z.1, Or.inr (Or.inr z.2)⟩)
    · rw [rdS 148 5 (by omega)]; exact e1
    · rw [rd_fl, if_pos ⟨rfl, by omega, by omega⟩]
    · rw [rdS a i (by omega)]; exact fr1 a i h1 h3
  · have gl := x_clear_loop (d := d) (v := v) k148 hS (by omega) r2 n (by omega) (by omega) n 0 (by omega)
    rw [show ((0 : Nat) : Int) = 0 from rfl, mfl_0] at gl
    have rdS : ∀ a i, a ≠ S → mrd (mfl h S 0 n v) a i = mrd h a i := fun a i ha => rdf ha
    refine ⟨mfl h S 0 n v, S, ?_, ⟨hp, RSum_eq (h := h) rfl (rdS 148 5 (by omega)) hr, rfl, fun a i h1 h2 h3 h4 => rdS a i (by omega)⟩, by rw [rdS 148 5 (by omega)]; exact hS, r1, r2, by show (n : Int) ≤ mln h S; omega, fun i hi => by rw [rd_fl, if_pos ⟨rfl, by omega, by omega⟩], fun a i h1 h2 h3 => rdS a i (by omega)⟩
    refine Eq.trans ?_ gl
    simp only [e85_0, e85_1, e85_4, e85_5, e85_6, e85_9, e85_10, e85_11, e85_13, e85_16, e85_17, e85_21, e85_22, e85_25, e85_26, e85_29, e85_31, e85_32, e85_33, e85_36, e85_39, psh0, psh1, psh3, true_or, or_true, eq_self, Option.bind_some, List.length_nil, List.length_cons, Nat.reduceAdd, Nat.reduceLeDiff, Nat.zero_le, ↓reduceIte, Int.reduceLT, Int.reduceEq, Int.reduceLE, Int.reduceNeg, Int.reduceAdd, Int.reduceMul, Int.reduceSub, ne_eq, not_true_eq_false, not_false_eq_true, and_true, true_and, and_false, false_and, c3lt, c3gt, c3eq, Bool.false_eq_true, isK_wr, inA_wr, inR_wr, k148, hS, r2, c]
/-- whether a lesson can be next -/
def okF (len : Int) (told letter needs : Nat → Int) (T l : Nat) : Bool := decide (cB (T : Int) 12 < len) && (decide (opn (T : Int) (needs l) (l : Int)) && (decide (told (cB (T : Int) 12).toNat = 0) || decide (told (cB (T : Int) 12).toNat = letter l)))
theorem x_comesNext {T l : Nat} (k148 : isK h 148 7) (t0 : mrd h 148 0 = 149) (k149 : isK h 149 16) (l149 : mln h 149 = 12) (hlen : mrd h 148 2 ≤ 12) (hs : CS h s) (hT : T < 4096) (hl : l < 12) : EV (d + 1) 86 0 [(2, 148), (2, s), (0, (T : Int)), (0, (l : Int)), (3, 0)] [] h = some ((0, b01 (okF (mrd h 148 2) (fun p => mrd h 149 p) (fun l => mrd h (s + 13 + l) 1) (fun l => mrd h (s + 13 + l) 6) T l)), h) := by
  have gb := x_bitCount (d := d) (h := h) (x := (T : Int)) (by omega) (by omega)
  have hr := cB_rng (T : Int) 12
  have gl := x_lets (d := d) (x := (T : Int)) (l := (l : Int)) hs (by omega) (by omega)
  obtain ⟨t1, t2, t3⟩ := hs.2.2.2.2.2.2.2.2.2.2.2.1 (l : Int) (by omega) (by omega)
  have ks := hs.1
  have r1 := hs.2.2.1
  unfold okF
  obtain ⟨P, hP⟩ : ∃ P : Nat, cB (T : Int) 12 = P := ⟨(cB (T : Int) 12).toNat, by omega⟩
  rw [hP] at gb ⊢
  show _ = some ((0, b01 (decide ((P : Int) < mrd h 148 2) && (decide (opn (T : Int) (mrd h (s + 13 + l) 6) (l : Int)) && (decide (mrd h 149 P = 0) || decide (mrd h 149 P = mrd h (s + 13 + l) 1))))), h)
  by_cases c1 : (P : Int) < mrd h 148 2
  · have i1 : inA h 149 16 P := ⟨k149, by omega, by rw [l149]; omega⟩
    rw [decide_eq_true c1, Bool.true_and]
    by_cases c2 : opn (T : Int) (mrd h (s + 13 + l) 6) (l : Int)
    · rw [if_pos c2] at gl
      rw [decide_eq_true c2, Bool.true_and]
      by_cases c3 : mrd h 149 P = 0
      · rw [decide_eq_true c3, Bool.true_or]
        simp only [e86_0, e86_1, e86_4, e86_6, e86_8, e86_9, e86_12, e86_15, e86_16, e86_17, e86_18, e86_21, e86_24, e86_25, e86_26, e86_27, e86_30, e86_32, e86_33, e86_36, e86_37, e86_40, e86_42, e86_43, e86_44, e86_47, e86_48, e86_49, e86_52, e86_55, e86_56, e86_59, e86_60, psh0, psh1, psh3, true_or, or_true, eq_self, Option.bind_some, List.length_nil, List.length_cons, Nat.reduceAdd, Nat.reduceLeDiff, Nat.zero_le, ↓reduceIte, Int.reduceLT, Int.reduceEq, Int.reduceLE, Int.reduceNeg, Int.reduceAdd, Int.reduceMul, Int.reduceSub, ne_eq, not_true_eq_false, not_false_eq_true, and_true, true_and, and_false, false_and, c3lt, c3gt, c3eq, Bool.false_eq_true, isK_wr, inA_wr, inR_wr, gb, k148, c1, ks, gl, t0, i1, c3, b01]
      · rw [decide_eq_false c3, Bool.false_or]
        by_cases c4 : mrd h 149 P = mrd h (s + 13 + l) 1
        · rw [decide_eq_true c4]
          have c3' : ¬ mrd h (s + 13 + l) 1 = 0 := by rw [← c4]; exact c3
          simp only [e86_0, e86_1, e86_4, e86_6, e86_8, e86_9, e86_12, e86_15, e86_16, e86_17, e86_18, e86_21, e86_24, e86_25, e86_26, e86_27, e86_30, e86_32, e86_33, e86_36, e86_37, e86_40, e86_42, e86_43, e86_44, e86_47, e86_48, e86_49, e86_52, e86_55, e86_56, e86_59, e86_60, psh0, psh1, psh3, true_or, or_true, eq_self, Option.bind_some, List.length_nil, List.length_cons, Nat.reduceAdd, Nat.reduceLeDiff, Nat.zero_le, ↓reduceIte, Int.reduceLT, Int.reduceEq, Int.reduceLE, Int.reduceNeg, Int.reduceAdd, Int.reduceMul, Int.reduceSub, ne_eq, not_true_eq_false, not_false_eq_true, and_true, true_and, and_false, false_and, c3lt, c3gt, c3eq, Bool.false_eq_true, isK_wr, inA_wr, inR_wr, gb, k148, c1, ks, gl, t0, i1, r1, t1, t2, t3, b01, c4, c3']
        · rw [decide_eq_false c4]
          simp only [e86_0, e86_1, e86_4, e86_6, e86_8, e86_9, e86_12, e86_15, e86_16, e86_17, e86_18, e86_21, e86_24, e86_25, e86_26, e86_27, e86_30, e86_32, e86_33, e86_36, e86_37, e86_40, e86_42, e86_43, e86_44, e86_47, e86_48, e86_49, e86_52, e86_55, e86_56, e86_59, e86_60, psh0, psh1, psh3, true_or, or_true, eq_self, Option.bind_some, List.length_nil, List.length_cons, Nat.reduceAdd, Nat.reduceLeDiff, Nat.zero_le, ↓reduceIte, Int.reduceLT, Int.reduceEq, Int.reduceLE, Int.reduceNeg, Int.reduceAdd, Int.reduceMul, Int.reduceSub, ne_eq, not_true_eq_false, not_false_eq_true, and_true, true_and, and_false, false_and, c3lt, c3gt, c3eq, Bool.false_eq_true, isK_wr, inA_wr, inR_wr, gb, k148, c1, ks, gl, t0, i1, c3, r1, t1, t2, t3, b01, c4]
    · rw [if_neg c2] at gl
      rw [decide_eq_false c2, Bool.false_and]
      simp only [e86_0, e86_1, e86_4, e86_6, e86_8, e86_9, e86_12, e86_15, e86_16, e86_17, e86_18, e86_21, e86_24, e86_25, e86_26, e86_27, e86_30, e86_32, e86_33, e86_36, e86_37, e86_40, e86_42, e86_43, e86_44, e86_47, e86_48, e86_49, e86_52, e86_55, e86_56, e86_59, e86_60, psh0, psh1, psh3, true_or, or_true, eq_self, Option.bind_some, List.length_nil, List.length_cons, Nat.reduceAdd, Nat.reduceLeDiff, Nat.zero_le, ↓reduceIte, Int.reduceLT, Int.reduceEq, Int.reduceLE, Int.reduceNeg, Int.reduceAdd, Int.reduceMul, Int.reduceSub, ne_eq, not_true_eq_false, not_false_eq_true, and_true, true_and, and_false, false_and, c3lt, c3gt, c3eq, Bool.false_eq_true, isK_wr, inA_wr, inR_wr, gb, k148, c1, ks, gl, b01]
  · rw [decide_eq_false c1, Bool.false_and]
    simp only [e86_0, e86_1, e86_4, e86_6, e86_8, e86_9, e86_12, e86_15, e86_16, e86_17, e86_18, e86_21, e86_24, e86_25, e86_26, e86_27, e86_30, e86_32, e86_33, e86_36, e86_37, e86_40, e86_42, e86_43, e86_44, e86_47, e86_48, e86_49, e86_52, e86_55, e86_56, e86_59, e86_60, psh0, psh1, psh3, true_or, or_true, eq_self, Option.bind_some, List.length_nil, List.length_cons, Nat.reduceAdd, Nat.reduceLeDiff, Nat.zero_le, ↓reduceIte, Int.reduceLT, Int.reduceEq, Int.reduceLE, Int.reduceNeg, Int.reduceAdd, Int.reduceMul, Int.reduceSub, ne_eq, not_true_eq_false, not_false_eq_true, and_true, true_and, and_false, false_and, c3lt, c3gt, c3eq, Bool.false_eq_true, isK_wr, inA_wr, inR_wr, gb, k148, c1, b01]
/-- what stands while sums are made: nothing but the sums (and FURTHEST) changes -/
def CQ (h0 h : AM) (S : Int) : Prop := h.2 = h0.2 ∧ ∀ a i, a ≠ S → ¬ (a = 148 ∧ i = 4) → mrd h a i = mrd h0 a i
/-- what the search reads -/
def CR (h : AM) (s S : Int) (N : Nat) : Prop := isK h 148 7 ∧ mrd h 148 0 = 149 ∧ isK h 149 16 ∧ mln h 149 = 12 ∧ (0 ≤ mrd h 148 2 ∧ mrd h 148 2 ≤ 12) ∧ CS h s ∧ (11 ≤ s ∧ s ≤ 195) ∧ mrd h s 6 = N ∧ N ≤ 12 ∧ mrd h 148 5 = S ∧ (S = 151 ∨ 258 ≤ S) ∧ isK h S 19 ∧ ((2 ^ N : Nat) : Int) ≤ mln h S
theorem CR_cq {h0 : AM} {N : Nat} (hr : CR h0 s S N) (hs : s = 162 ∨ s = 195) (hq : CQ h0 h S) : CR h s S N := by
  obtain ⟨a1, a2, a3, a4, a5, a6, a7, a8, a9, a10, a11, a12, a13⟩ := hr
  obtain ⟨q1, q2⟩ := hq
  have ek : ∀ r c, isK h r c ↔ isK h0 r c := fun r c => by unfold isK mnx mkn; rw [q1]
  have el : ∀ r, mln h r = mln h0 r := fun r => by unfold mln; rw [q1]
  have er : ∀ r j, inR h r j ↔ inR h0 r j := fun r j => by unfold inR mnx mkn mln; rw [q1]
  refine ⟨(ek _ _).mpr a1, ?_, (ek _ _).mpr a3, by rw [el]; exact a4, ?_, ?_, a7, ?_, a9, ?_, a11, (ek _ _).mpr a12, by rw [el]; exact a13⟩
  · rw [q2 _ _ (by omega) (by omega)]; exact a2
  · rw [q2 148 2 (by omega) (by omega)]; exact a5
  · obtain ⟨b0, b1, b2, b3, b4, b5, b6, b7, b8, b9, b10, b11, b12⟩ := a6
    refine ⟨(ek _ _).mpr b0, ?_, ?_, ?_, ?_, ?_, (ek _ _).mpr b6, by rw [el]; exact b7, (ek _ _).mpr b8, (ek _ _).mpr b9, by rw [el]; exact b10, fun l l0 l1 => ?_, fun k k0 k1 => ?_⟩
    · rw [q2 _ _ (by omega) (by omega)]; exact b1
    · rw [q2 _ _ (by omega) (by omega)]; exact b2
    · rw [q2 _ _ (by omega) (by omega)]; exact b3
    · rw [q2 _ _ (by omega) (by omega)]; exact b4
    · rw [q2 _ _ (by omega) (by omega)]; exact b5
    · obtain ⟨c1, c2, c3⟩ := b11 l l0 l1
      exact ⟨(er _ _).mpr c1, by rw [q2 _ _ (by omega) (by omega)]; exact c2, (ek _ _).mpr c3⟩
    · obtain ⟨c1, c2, c3, c4, c5, c6⟩ := b12 k k0 k1
      exact ⟨(er _ _).mpr c1, by rw [q2 _ _ (by omega) (by omega)]; exact c2, (ek _ _).mpr c3, by rw [q2 _ _ (by omega) (by omega)]; exact c4, (ek _ _).mpr c5, by rw [el]; exact c6⟩
  · rw [q2 s 6 (by omega) (by omega)]; exact a8
  · rw [q2 148 5 (by omega) (by omega)]; exact a10
/-- the search's question, off the memory -/
def okX (h : AM) (s : Int) : Nat → Nat → Bool := okF (mrd h 148 2) (fun p => mrd h 149 p) (fun l => mrd h (s + 13 + l) 1) (fun l => mrd h (s + 13 + l) 6)
theorem okX_cq {h0 : AM} {N : Nat} (hr : CR h0 s S N) (hs : s = 162 ∨ s = 195) (hq : CQ h0 h S) {T l : Nat} (hl : l < 12) : okX h s T l = okX h0 s T l := by
  obtain ⟨a1, a2, a3, a4, a5, a6, a7, a8, a9, a10, a11, a12, a13⟩ := hr
  have e1 : mrd h 148 2 = mrd h0 148 2 := hq.2 _ _ (by omega) (by omega)
  have e2 : ∀ p : Nat, mrd h 149 p = mrd h0 149 p := fun p => hq.2 _ _ (by omega) (by omega)
  have e3 : ∀ j, mrd h (s + 13 + l) j = mrd h0 (s + 13 + l) j := fun j => hq.2 _ _ (by omega) (by omega)
  unfold okX okF
  simp only [e1, e2, e3]
theorem x_next_q {h0 : AM} {N T l : Nat} (hr : CR h0 s S N) (hs : s = 162 ∨ s = 195) (hq : CQ h0 h S) (hT : T < 4096) (hl : l < 12) : EV (d + 1) 86 0 [(2, 148), (2, s), (0, (T : Int)), (0, (l : Int)), (3, 0)] [] h = some ((0, b01 (okX h0 s T l)), h) := by
  obtain ⟨a1, a2, a3, a4, a5, a6, a7, a8, a9, a10, a11, a12, a13⟩ := CR_cq hr hs hq
  rw [← okX_cq hr hs hq hl]
  exact x_comesNext a1 a2 a3 a4 a5.2 a6 hT hl
theorem ok_bit {len : Int} {told letter needs : Nat → Int} {T l : Nat} (hT : T < 4096) (h : okF len told letter needs T l = true) : T.testBit l = false := by
  unfold okF at h
  rw [Bool.and_eq_true, Bool.and_eq_true, decide_eq_true_iff, decide_eq_true_iff] at h
  exact opn_bit hT h.2.1
/-- the inner loop: set st is pushed on -/
theorem x_count_in {h0 : AM} {N st : Nat} (hr : CR h0 s S N) (hs : s = 162 ∨ s = 195) (hst : st < 2 ^ N) (l6 : AV) (n : Nat) : ∀ (li : Nat) (h : AM), li + n = N → CQ h0 h S → (∀ T : Nat, T < 2 ^ N → mrd h S T = PS (okX h0 s) N st li T) → ∃ h', EV (d + 2) 87 93 [(2, 148), (2, s), (0, ((2 ^ N : Nat) : Int)), (1, x), (3, 1), (0, (st : Int)), l6, (0, (li : Int))] [] h = EV (d + 2) 87 142 [(2, 148), (2, s), (0, ((2 ^ N : Nat) : Int)), (1, x), (3, 1), (0, (st : Int)), l6, (0, (N : Int))] [] h' ∧ CQ h0 h' S ∧ mrd h' 148 4 = mrd h 148 4 ∧ ∀ T : Nat, T < 2 ^ N → mrd h' S T = PS (okX h0 s) N st N T := by
  have N12 := hr.2.2.2.2.2.2.2.2.1
  have hp := pow_13 N12
  induction n with
  | zero =>
    intro li h hi hq hP
    have e : li = N := by omega
    subst e
    obtain ⟨a1, a2, a3, a4, a5, a6, a7, a8, a9, a10, a11, a12, a13⟩ := CR_cq hr hs hq
    refine ⟨h, ?_, hq, rfl, hP⟩
    rw [e87_93]
    simp only [e87_95, e87_96, e87_99, psh0, psh1, psh3, true_or, or_true, eq_self, Option.bind_some, List.length_nil, List.length_cons, Nat.reduceAdd, Nat.reduceLeDiff, Nat.zero_le, ↓reduceIte, Int.reduceLT, Int.reduceEq, Int.reduceLE, Int.reduceNeg, Int.reduceAdd, Int.reduceMul, Int.reduceSub, ne_eq, not_true_eq_false, not_false_eq_true, and_true, true_and, and_false, false_and, c3lt, c3gt, c3eq, Bool.false_eq_true, isK_wr, inA_wr, inR_wr, a6.1, a8, Int.lt_irrefl]
  | succ n ih =>
    intro li h hi hq hP
    obtain ⟨a1, a2, a3, a4, a5, a6, a7, a8, a9, a10, a11, a12, a13⟩ := CR_cq hr hs hq
    have ks := a6.1
    have ci : (li : Int) < N := by omega
    have w1 : w32 ((li : Int) + 1) = ((li + 1 : Nat) : Int) := by rw [w32_id (by omega) (by omega)]; omega
    have gn := x_next_q (d := d) (T := st) (l := li) hr hs hq (by omega) (by omega)
    cases hb : okX h0 s st li with
    | false =>
      rw [hb] at gn
      obtain ⟨h', e1, e2, e3, e4⟩ := ih (li + 1) h (by omega) hq (fun T hT => by
        rw [hP T hT, PS_step (by omega), if_neg (fun z => by rw [hb] at z; exact absurd z.1.2 (by decide)), Int.add_zero])
      refine ⟨h', ?_, e2, e3, e4⟩
      rw [← e1, e87_93]
      simp only [e87_0, e87_1, e87_2, e87_5, e87_6, e87_7, e87_8, e87_9, e87_10, e87_13, e87_14, e87_17, e87_18, e87_19, e87_20, e87_21, e87_22, e87_25, e87_26, e87_27, e87_28, e87_30, e87_32, e87_33, e87_36, e87_37, e87_40, e87_42, e87_43, e87_44, e87_45, e87_48, e87_51, e87_53, e87_56, e87_58, e87_59, e87_60, e87_63, e87_65, e87_68, e87_71, e87_73, e87_74, e87_77, e87_80, e87_81, e87_82, e87_85, e87_87, e87_88, e87_89, e87_90, e87_91, e87_95, e87_96, e87_99, e87_102, e87_103, e87_104, e87_106, e87_108, e87_111, e87_114, e87_115, e87_118, e87_120, e87_121, e87_123, e87_124, e87_125, e87_126, e87_127, e87_128, e87_131, e87_133, e87_134, e87_135, e87_136, e87_139, e87_145, e87_148, e87_149, psh0, psh1, psh3, true_or, or_true, eq_self, Option.bind_some, List.length_nil, List.length_cons, Nat.reduceAdd, Nat.reduceLeDiff, Nat.zero_le, ↓reduceIte, Int.reduceLT, Int.reduceEq, Int.reduceLE, Int.reduceNeg, Int.reduceAdd, Int.reduceMul, Int.reduceSub, ne_eq, not_true_eq_false, not_false_eq_true, and_true, true_and, and_false, false_and, c3lt, c3gt, c3eq, Bool.false_eq_true, isK_wr, inA_wr, inR_wr, ks, a8, ci, a1, gn, b01, w1]
    | true =>
      rw [hb] at gn
      have hbit : st.testBit li = false := ok_bit (by omega) hb
      have hU := ins_lt hst (show li < N by omega) hbit
      have eU := i_ins (x := st) (l := li) (by omega) (by omega) hbit
      have i1 : inA h S 19 ((st + 2 ^ li : Nat) : Int) := ⟨a12, Int.natCast_nonneg _, Int.lt_of_lt_of_le (Int.ofNat_lt.mpr hU) a13⟩
      have i2 : inA h S 19 (st : Int) := ⟨a12, Int.natCast_nonneg _, Int.lt_of_lt_of_le (Int.ofNat_lt.mpr hst) a13⟩
      have v1 := hP (st + 2 ^ li) hU
      have v2 := hP st hst
      rw [PS_full (Nat.le_refl st)] at v2
      have b1 := PS_B (ok := okX h0 s) N12 (st := st) (li := li + 1) (T := st + 2 ^ li) (by omega)
      have eS := PS_step (ok := okX h0 s) (N := N) (st := st) (li := li) (T := st + 2 ^ li) (by omega)
      rw [if_pos ⟨⟨hbit, hb⟩, rfl⟩] at eS
      have w2 : w64 (PS (okX h0 s) N st li (st + 2 ^ li) + Wy (okX h0 s) N st) = PS (okX h0 s) N st (li + 1) (st + 2 ^ li) := by rw [← eS, w64_id (by omega) (by omega)]
      obtain ⟨h', e1, e2, e3, e4⟩ := ih (li + 1) (mwr h S ((st + 2 ^ li : Nat) : Int) (PS (okX h0 s) N st (li + 1) (st + 2 ^ li))) (by omega) (by
        refine ⟨hq.1, fun a i h1 h2 => ?_⟩
        rw [rdn1 h1]
        exact hq.2 a i h1 h2) (fun T hT => by
        rw [rd_wr]
        by_cases c : T = st + 2 ^ li
        · rw [c, if_pos ⟨rfl, rfl⟩]
        · rw [if_neg (fun z => c (Int.ofNat.inj z.2)), hP T hT, PS_step (by omega), if_neg (fun z => c z.2), Int.add_zero])
      refine ⟨h', ?_, e2, ?_, e4⟩
      · rw [← e1, e87_93]
        simp only [e87_0, e87_1, e87_2, e87_5, e87_6, e87_7, e87_8, e87_9, e87_10, e87_13, e87_14, e87_17, e87_18, e87_19, e87_20, e87_21, e87_22, e87_25, e87_26, e87_27, e87_28, e87_30, e87_32, e87_33, e87_36, e87_37, e87_40, e87_42, e87_43, e87_44, e87_45, e87_48, e87_51, e87_53, e87_56, e87_58, e87_59, e87_60, e87_63, e87_65, e87_68, e87_71, e87_73, e87_74, e87_77, e87_80, e87_81, e87_82, e87_85, e87_87, e87_88, e87_89, e87_90, e87_91, e87_95, e87_96, e87_99, e87_102, e87_103, e87_104, e87_106, e87_108, e87_111, e87_114, e87_115, e87_118, e87_120, e87_121, e87_123, e87_124, e87_125, e87_126, e87_127, e87_128, e87_131, e87_133, e87_134, e87_135, e87_136, e87_139, e87_145, e87_148, e87_149, psh0, psh1, psh3, true_or, or_true, eq_self, Option.bind_some, List.length_nil, List.length_cons, Nat.reduceAdd, Nat.reduceLeDiff, Nat.zero_le, ↓reduceIte, Int.reduceLT, Int.reduceEq, Int.reduceLE, Int.reduceNeg, Int.reduceAdd, Int.reduceMul, Int.reduceSub, ne_eq, not_true_eq_false, not_false_eq_true, and_true, true_and, and_false, false_and, c3lt, c3gt, c3eq, Bool.false_eq_true, isK_wr, inA_wr, inR_wr, ks, a8, ci, a1, gn, b01, w1, a10, eU, i1, i2, v1, v2, w2]
      · rw [e3, rdn1 (by omega)]
theorem PS_skip {ok : Nat → Nat → Bool} {N st T : Nat} (h : Wy ok N st = 0) : ∀ li, li ≤ N → PS ok N st li T = PS ok N st 0 T
  | 0, _ => rfl
  | li + 1, hl => by
    rw [PS_step (by omega), PS_skip h li (by omega), h]
    split <;> omega
theorem x_count_out {h0 : AM} {N : Nat} (hr : CR h0 s S N) (hs : s = 162 ∨ s = 195) (n : Nat) : ∀ (st : Nat) (h : AM) (l6 l7 : AV), st + n = 2 ^ N → CQ h0 h S → (∀ T : Nat, T < 2 ^ N → mrd h S T = PS (okX h0 s) N st 0 T) → mrd h 148 4 = fzF (Wy (okX h0 s) N) st → ∃ h', EV (d + 2) 87 30 [(2, 148), (2, s), (0, ((2 ^ N : Nat) : Int)), (1, alF (Wy (okX h0 s) N) (mrd h0 148 2) st), (3, 1), (0, (st : Int)), l6, l7] [] h = some ((1, alF (Wy (okX h0 s) N) (mrd h0 148 2) (2 ^ N)), h') ∧ CQ h0 h' S ∧ mrd h' 148 4 = fzF (Wy (okX h0 s) N) (2 ^ N) := by
  have N12 := hr.2.2.2.2.2.2.2.2.1
  have hp := pow_13 N12
  induction n with
  | zero =>
    intro st h l6 l7 hi hq hP hz
    have e : st = 2 ^ N := by omega
    refine ⟨h, ?_, hq, by rw [hz, e]⟩
    rw [e87_30, e]
    simp only [e87_0, e87_1, e87_2, e87_5, e87_6, e87_7, e87_8, e87_9, e87_10, e87_13, e87_14, e87_17, e87_18, e87_19, e87_20, e87_21, e87_22, e87_25, e87_26, e87_27, e87_28, e87_32, e87_33, e87_36, e87_37, e87_40, e87_42, e87_43, e87_44, e87_45, e87_48, e87_51, e87_53, e87_56, e87_58, e87_59, e87_60, e87_63, e87_65, e87_68, e87_71, e87_73, e87_74, e87_77, e87_80, e87_81, e87_82, e87_85, e87_87, e87_88, e87_89, e87_90, e87_91, e87_95, e87_96, e87_99, e87_102, e87_103, e87_104, e87_106, e87_108, e87_111, e87_114, e87_115, e87_118, e87_120, e87_121, e87_123, e87_124, e87_125, e87_126, e87_127, e87_128, e87_131, e87_133, e87_134, e87_135, e87_136, e87_139, e87_142, e87_145, e87_148, e87_149, psh0, psh1, psh3, true_or, or_true, eq_self, Option.bind_some, List.length_nil, List.length_cons, Nat.reduceAdd, Nat.reduceLeDiff, Nat.zero_le, ↓reduceIte, Int.reduceLT, Int.reduceEq, Int.reduceLE, Int.reduceNeg, Int.reduceAdd, Int.reduceMul, Int.reduceSub, ne_eq, not_true_eq_false, not_false_eq_true, and_true, true_and, and_false, false_and, c3lt, c3gt, c3eq, Bool.false_eq_true, isK_wr, inA_wr, inR_wr, Int.lt_irrefl]
  | succ n ih =>
    intro st h l6 l7 hi hq hP hz
    have hst : st < 2 ^ N := by omega
    obtain ⟨a1, a2, a3, a4, a5, a6, a7, a8, a9, a10, a11, a12, a13⟩ := CR_cq hr hs hq
    have ci : (st : Int) < ((2 ^ N : Nat) : Int) := Int.ofNat_lt.mpr hst
    have w1 : w32 ((st : Int) + 1) = ((st + 1 : Nat) : Int) := by rw [w32_id (by omega) (by omega)]; omega
    have i2 : inA h S 19 (st : Int) := ⟨a12, Int.natCast_nonneg _, Int.lt_of_lt_of_le ci a13⟩
    have v2 := hP st hst
    rw [PS_full (Nat.le_refl st)] at v2
    have e2 : mrd h 148 2 = mrd h0 148 2 := hq.2 _ _ (by omega) (by omega)
    have gb := fun g => x_bitCount (d := d + 1) (h := g) (x := (st : Int)) (by omega) (by omega)
    have hcr := cB_rng (st : Int) 12
    have hfr := fzF_rng (Wy (okX h0 s) N) st
    have eA : alF (Wy (okX h0 s) N) (mrd h0 148 2) (st + 1) = alF (Wy (okX h0 s) N) (mrd h0 148 2) st + if cB (st : Int) 12 = mrd h0 148 2 then Wy (okX h0 s) N st else 0 := rfl
    have eF : fzF (Wy (okX h0 s) N) (st + 1) = if Wy (okX h0 s) N st = 0 then fzF (Wy (okX h0 s) N) st else if fzF (Wy (okX h0 s) N) st < cB (st : Int) 12 then cB (st : Int) 12 else fzF (Wy (okX h0 s) N) st := rfl
    by_cases c0 : Wy (okX h0 s) N st = 0
    · rw [if_pos c0] at eF
      have eA' : alF (Wy (okX h0 s) N) (mrd h0 148 2) (st + 1) = alF (Wy (okX h0 s) N) (mrd h0 148 2) st := by
        rw [eA, c0]
        split <;> omega
      obtain ⟨h', g1, g2, g3⟩ := ih (st + 1) h l6 l7 (by omega) hq (fun T hT => by rw [hP T hT, ← PS_next, PS_skip c0 N (Nat.le_refl _)]) (by rw [hz, eF])
      rw [eA'] at g1
      refine ⟨h', ?_, g2, g3⟩
      rw [← g1, e87_30]
      simp only [e87_0, e87_1, e87_2, e87_5, e87_6, e87_7, e87_8, e87_9, e87_10, e87_13, e87_14, e87_17, e87_18, e87_19, e87_20, e87_21, e87_22, e87_25, e87_26, e87_27, e87_28, e87_32, e87_33, e87_36, e87_37, e87_40, e87_42, e87_43, e87_44, e87_45, e87_48, e87_51, e87_53, e87_56, e87_58, e87_59, e87_60, e87_63, e87_65, e87_68, e87_71, e87_73, e87_74, e87_77, e87_80, e87_81, e87_82, e87_85, e87_87, e87_88, e87_89, e87_90, e87_91, e87_95, e87_96, e87_99, e87_102, e87_103, e87_104, e87_106, e87_108, e87_111, e87_114, e87_115, e87_118, e87_120, e87_121, e87_123, e87_124, e87_125, e87_126, e87_127, e87_128, e87_131, e87_133, e87_134, e87_135, e87_136, e87_139, e87_142, e87_145, e87_148, e87_149, psh0, psh1, psh3, true_or, or_true, eq_self, Option.bind_some, List.length_nil, List.length_cons, Nat.reduceAdd, Nat.reduceLeDiff, Nat.zero_le, ↓reduceIte, Int.reduceLT, Int.reduceEq, Int.reduceLE, Int.reduceNeg, Int.reduceAdd, Int.reduceMul, Int.reduceSub, ne_eq, not_true_eq_false, not_false_eq_true, and_true, true_and, and_false, false_and, c3lt, c3gt, c3eq, Bool.false_eq_true, isK_wr, inA_wr, inR_wr, ci, a1, a10, i2, v2, c0, w1]
    · rw [if_neg c0] at eF
      have hB := alF_bd (w := Wy (okX h0 s) N) (len := mrd h0 148 2) (st + 1) (by omega) (fun u hu => W_B N12 (by omega))
      obtain ⟨h1, hh1⟩ : ∃ h1, h1 = mwr h 148 4 (if fzF (Wy (okX h0 s) N) st < cB (st : Int) 12 then cB (st : Int) 12 else fzF (Wy (okX h0 s) N) st) := ⟨_, rfl⟩
      have q1 : CQ h0 h1 S := by
        rw [hh1]
        refine ⟨hq.1, fun a i h1 h2 => ?_⟩
        rw [rd_wr, if_neg h2]
        exact hq.2 a i h1 h2
      have z1 : mrd h1 148 4 = fzF (Wy (okX h0 s) N) (st + 1) := by rw [hh1, rde, eF]
      have p1 : ∀ T : Nat, T < 2 ^ N → mrd h1 S T = PS (okX h0 s) N st 0 T := fun T hT => by
        rw [hh1, rdn1 (by omega)]
        exact hP T hT
      have e21 : mrd h1 148 2 = mrd h0 148 2 := q1.2 _ _ (by omega) (by omega)
      have k1 : isK h1 148 7 := by rw [hh1]; exact a1
      have v21 : mrd h1 S st = Wy (okX h0 s) N st := by rw [hh1, rdn1 (by omega)]; exact v2
      have a101 : mrd h1 148 5 = S := by rw [hh1, rdn2 (by decide)]; exact a10
      have i21 : inA h1 S 19 (st : Int) := by rw [hh1]; exact i2
      obtain ⟨h2, g1, g2, g3, g4⟩ := x_count_in (d := d) (x := alF (Wy (okX h0 s) N) (mrd h0 148 2) (st + 1)) hr hs hst (0, cB (st : Int) 12) N 0 h1 (by omega) q1 p1
      obtain ⟨h3, f1, f2, f3⟩ := ih (st + 1) h2 (0, cB (st : Int) 12) (0, (N : Int)) (by omega) g2 (fun T hT => by rw [g4 T hT, PS_next]) (by rw [g3, z1])
      refine ⟨h3, ?_, f2, f3⟩
      rw [← f1]
      have g5 : EV (d + 2) 87 142 [(2, 148), (2, s), (0, ((2 ^ N : Nat) : Int)), (1, alF (Wy (okX h0 s) N) (mrd h0 148 2) (st + 1)), (3, 1), (0, (st : Int)), (0, cB (st : Int) 12), (0, (N : Int))] [] h2 = EV (d + 2) 87 30 [(2, 148), (2, s), (0, ((2 ^ N : Nat) : Int)), (1, alF (Wy (okX h0 s) N) (mrd h0 148 2) (st + 1)), (3, 1), (0, ((st + 1 : Nat) : Int)), (0, cB (st : Int) 12), (0, (N : Int))] [] h2 := by
        simp only [e87_142, e87_145, w1]
      rw [← g5, ← g1, e87_30]
      by_cases cl : cB (st : Int) 12 = mrd h0 148 2
      · rw [if_pos cl] at eA
        have w2 : w64 (alF (Wy (okX h0 s) N) (mrd h0 148 2) st + Wy (okX h0 s) N st) = alF (Wy (okX h0 s) N) (mrd h0 148 2) (st + 1) := by rw [← eA, w64_id (by omega) (by omega)]
        simp only [e87_0, e87_1, e87_2, e87_5, e87_6, e87_7, e87_8, e87_9, e87_10, e87_13, e87_14, e87_17, e87_18, e87_19, e87_20, e87_21, e87_22, e87_25, e87_26, e87_27, e87_28, e87_32, e87_33, e87_36, e87_37, e87_40, e87_42, e87_43, e87_44, e87_45, e87_48, e87_51, e87_53, e87_56, e87_58, e87_59, e87_60, e87_63, e87_65, e87_68, e87_71, e87_73, e87_74, e87_77, e87_80, e87_81, e87_82, e87_85, e87_87, e87_88, e87_89, e87_90, e87_91, e87_95, e87_96, e87_99, e87_102, e87_103, e87_104, e87_106, e87_108, e87_111, e87_114, e87_115, e87_118, e87_120, e87_121, e87_123, e87_124, e87_125, e87_126, e87_127, e87_128, e87_131, e87_133, e87_134, e87_135, e87_136, e87_139, e87_145, e87_148, e87_149, psh0, psh1, psh3, true_or, or_true, eq_self, Option.bind_some, List.length_nil, List.length_cons, Nat.reduceAdd, Nat.reduceLeDiff, Nat.zero_le, ↓reduceIte, Int.reduceLT, Int.reduceEq, Int.reduceLE, Int.reduceNeg, Int.reduceAdd, Int.reduceMul, Int.reduceSub, ne_eq, not_true_eq_false, not_false_eq_true, and_true, true_and, and_false, false_and, c3lt, c3gt, c3eq, Bool.false_eq_true, isK_wr, inA_wr, inR_wr, ci, a1, a10, i2, v2, c0, gb, hz, ← hh1, k1, e21, eq_true cl, a101, i21, v21, w2]
        rfl
      · rw [if_neg cl, Int.add_zero] at eA
        rw [eA]
        simp only [e87_0, e87_1, e87_2, e87_5, e87_6, e87_7, e87_8, e87_9, e87_10, e87_13, e87_14, e87_17, e87_18, e87_19, e87_20, e87_21, e87_22, e87_25, e87_26, e87_27, e87_28, e87_32, e87_33, e87_36, e87_37, e87_40, e87_42, e87_43, e87_44, e87_45, e87_48, e87_51, e87_53, e87_56, e87_58, e87_59, e87_60, e87_63, e87_65, e87_68, e87_71, e87_73, e87_74, e87_77, e87_80, e87_81, e87_82, e87_85, e87_87, e87_88, e87_89, e87_90, e87_91, e87_95, e87_96, e87_99, e87_102, e87_103, e87_104, e87_106, e87_108, e87_111, e87_114, e87_115, e87_118, e87_120, e87_121, e87_123, e87_124, e87_125, e87_126, e87_127, e87_128, e87_131, e87_133, e87_134, e87_135, e87_136, e87_139, e87_145, e87_148, e87_149, psh0, psh1, psh3, true_or, or_true, eq_self, Option.bind_some, List.length_nil, List.length_cons, Nat.reduceAdd, Nat.reduceLeDiff, Nat.zero_le, ↓reduceIte, Int.reduceLT, Int.reduceEq, Int.reduceLE, Int.reduceNeg, Int.reduceAdd, Int.reduceMul, Int.reduceSub, ne_eq, not_true_eq_false, not_false_eq_true, and_true, true_and, and_false, false_and, c3lt, c3gt, c3eq, Bool.false_eq_true, isK_wr, inA_wr, inR_wr, ci, a1, a10, i2, v2, c0, gb, hz, ← hh1, k1, e21, cl]
        rfl
theorem x_count {N : Nat} (hp : Shp h) (hr : RSum h) (hrr : RRef h.1) (hs : s = 162 ∨ s = 195) (hN : mrd h s 6 = N) (N12 : N ≤ 12) (hlen : 0 ≤ mrd h 148 2 ∧ mrd h 148 2 ≤ 12) : ∃ h', EV (d + 2) 87 0 [(2, 148), (2, s), (3, 0), (3, 0), (3, 0), (3, 0), (3, 0), (3, 0)] [] h = some ((1, alF (Wy (okX h s) N) (mrd h 148 2) (2 ^ N)), h') ∧ SC h h' ∧ mrd h' 148 4 = fzF (Wy (okX h s) N) (2 ^ N) := by
  have hcs := CS_of hp hrr (S6_cur hs)
  have hmem : 2 ^ N ∈ SL := by
    have := SL_mem (k := N) (j := 1) N12 (by decide)
    rwa [Nat.mul_one] at this
  have eN := shl_pow N (by omega)
  have k148 := kn_148 hp
  obtain ⟨h1, S, c1, c2, c3, c4, c5, c6, c7, c8⟩ := x_clearSums (d := d + 1) (v := 0) hmem hp hr
  have hrr1 : RRef h1.1 := fun q hq => by
    have hn : ∀ q ∈ refT, q.1 < 258 ∧ q.1 ≠ 151 ∧ ¬ (q.1 = 148 ∧ q.2.1 = 5) := by decide +kernel
    exact (c8 _ _ (hn q hq).1 (hn q hq).2.1 (hn q hq).2.2).trans (hrr q hq)
  have hp0 : 0 < 2 ^ N := Nat.two_pow_pos N
  have k1481 := kn_148 c2.1
  have i0 : inA h1 S 19 0 := ⟨c5, by decide, by omega⟩
  obtain ⟨h2, hh2⟩ : ∃ h2, h2 = mwr (mwr h1 S 0 1) 148 4 0 := ⟨_, rfl⟩
  have e2 : ∀ a i, a < 258 → a ≠ 151 → ¬ (a = 148 ∧ (i = 4 ∨ i = 5)) → mrd h2 a i = mrd h a i := fun a i z1 z2 z3 => by
    rw [hh2, rd_wr, if_neg (by omega), rdn1 (by omega)]
    exact c8 a i z1 z2 (by omega)
  have cr : CR h2 s S N := by
    refine ⟨by rw [hh2]; exact k1481, ?_, by rw [hh2]; exact kn_149 c2.1, by rw [hh2]; exact ln_149 c2.1, ?_, ?_, by omega, ?_, N12, ?_, c4, by rw [hh2]; exact c5, by rw [hh2]; exact c6⟩
    · rw [e2 148 0 (by decide) (by decide) (by omega)]; exact rf_148_0 hrr
    · rw [e2 148 2 (by decide) (by decide) (by omega)]; exact hlen
    · rw [hh2]
      refine CS_wr (CS_wr (CS_of c2.1 hrr1 (S6_cur hs)) (by omega) (by omega) (by omega) (by omega) (fun _ _ _ => by omega)) (by omega) (by omega) (by omega) (by omega) (fun _ _ _ => by omega)
    · rw [e2 s 6 (by omega) (by omega) (by omega)]; exact hN
    · rw [hh2, rdn2 (by decide), rdn1 (by omega)]; exact c3
  have eok : ∀ T l, l < 12 → okX h2 s T l = okX h s T l := fun T l hl => by
    have z1 : mrd h2 148 2 = mrd h 148 2 := e2 _ _ (by decide) (by decide) (by omega)
    have z2 : ∀ p : Nat, mrd h2 149 p = mrd h 149 p := fun p => e2 _ _ (by decide) (by decide) (by omega)
    have z3 : ∀ j, mrd h2 (s + 13 + l) j = mrd h (s + 13 + l) j := fun j => e2 _ _ (by omega) (by omega) (by omega)
    unfold okX okF
    simp only [z1, z2, z3]
  obtain ⟨h3, f1, f2, f3⟩ := x_count_out (d := d) cr hs (2 ^ N) 0 h2 (3, 0) (3, 0) (by omega) ⟨rfl, fun _ _ _ _ => rfl⟩ (fun T hT => by
    rw [PS_0, hh2, rdn1 (by omega), rd_wr]
    by_cases c : T = 0
    · subst c
      rw [if_pos ⟨rfl, rfl⟩, if_pos rfl]
    · rw [if_neg (fun z => c (by have := z.2; omega)), if_neg c]
      exact c7 T hT) (by rw [hh2, rde]; rfl)
  have el : mrd h2 148 2 = mrd h 148 2 := e2 _ _ (by decide) (by decide) (by omega)
  have eW : ∀ T, Wy (okX h2 s) N T = Wy (okX h s) N T := by
    intro T
    induction T using Nat.strongRecOn with
    | _ T ih =>
      by_cases c : T = 0
      · subst c; rfl
      · rw [W_rec c, W_rec c]
        refine sm_congr N (fun l hl => ?_)
        rw [eok _ _ (by omega)]
        by_cases hb : (T.testBit l && okX h s (T - 2 ^ l) l) = true
        · rw [if_pos hb, if_pos hb]
          exact ih _ (del_lt (Bool.and_eq_true _ _ ▸ hb).1)
        · rw [if_neg hb, if_neg hb]
  rw [el, alF_congr (w' := Wy (okX h s) N) (2 ^ N) (fun u _ => eW u)] at f1
  rw [fzF_congr (w' := Wy (okX h s) N) _ (fun u _ => eW u)] at f3
  refine ⟨h3, ?_, ?_, f3⟩
  · refine Eq.trans ?_ f1
    simp only [e87_0, e87_1, e87_2, e87_5, e87_6, e87_7, e87_8, e87_9, e87_10, e87_13, e87_14, e87_17, e87_18, e87_19, e87_20, e87_21, e87_22, e87_25, e87_26, e87_27, e87_28, e87_32, e87_33, e87_36, e87_37, e87_40, e87_42, e87_43, e87_44, e87_45, e87_48, e87_51, e87_53, e87_56, e87_58, e87_59, e87_60, e87_63, e87_65, e87_68, e87_71, e87_73, e87_74, e87_77, e87_80, e87_81, e87_82, e87_85, e87_87, e87_88, e87_89, e87_90, e87_91, e87_95, e87_96, e87_99, e87_102, e87_103, e87_104, e87_106, e87_108, e87_111, e87_114, e87_115, e87_118, e87_120, e87_121, e87_123, e87_124, e87_125, e87_126, e87_127, e87_128, e87_131, e87_133, e87_134, e87_135, e87_136, e87_139, e87_142, e87_145, e87_148, e87_149, psh0, psh1, psh3, true_or, or_true, eq_self, Option.bind_some, List.length_nil, List.length_cons, Nat.reduceAdd, Nat.reduceLeDiff, Nat.zero_le, ↓reduceIte, Int.reduceLT, Int.reduceEq, Int.reduceLE, Int.reduceNeg, Int.reduceAdd, Int.reduceMul, Int.reduceSub, ne_eq, not_true_eq_false, not_false_eq_true, and_true, true_and, and_false, false_and, c3lt, c3gt, c3eq, Bool.false_eq_true, isK_wr, inA_wr, inR_wr, hcs.1, hN, eN, k148, c1, k1481, c3, i0, ← hh2]
    rfl
  · have sc2 : SC h h2 := by
      rw [hh2]
      refine SC_wr (SC_wr c2 (Or.inl c3.symm)) (Or.inr (Or.inl ⟨rfl, Or.inr rfl⟩))
    refine sc2.trans ⟨?_, ?_, by rw [f2.1], fun a i z1 z2 z3 z4 => f2.2 a i (by omega) (fun z => z4 ⟨z.1, Or.inr (Or.inl z.2)⟩)⟩
    · have := sc2.1
      unfold Shp mnx at this ⊢
      rw [f2.1]; exact this
    · refine RSum_eq f2.1 (f2.2 _ _ (by omega) (by omega)) sc2.2.1
end
