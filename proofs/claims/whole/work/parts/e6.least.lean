/-! soonest, cheapest -/
theorem mq_upd {g g' : Nat → Option Int} {j : Nat} {v : Int} (hj : g j = none) (hj' : g' j = some v) : ∀ n, j < n → (∀ l, l < n → l ≠ j → g' l = g l) → mq g' n = if v < mq g n then v else mq g n
  | 0, h, _ => by omega
  | n + 1, h, he => by
    by_cases c : j = n
    · subst c
      rw [mq_some hj', mq_none hj, mq_congr j (fun l hl => he l (by omega) (by omega))]
    · have ih := mq_upd hj hj' n (by omega) (fun l hl hn => he l (by omega) hn)
      have en := he n (by omega) (fun z => c z.symm)
      cases hg : g n with
      | none =>
        rw [hg] at en
        rw [mq_none en, mq_none hg, ih]
      | some u =>
        rw [hg] at en
        rw [mq_some en, mq_some hg, ih]
        (repeat' split) <;> omega
def en9 (x : Int) : Int := if x = 99999 then -1 else x
/-- one lesson's offer, of the sets that are done -/
def pg (ok : Nat → Nat → Bool) (N : Nat) (c : Nat → Int) (st li T : Nat) : Nat → Option Int := fun l => if (T.testBit l && (ok (T - 2 ^ l) l && (decide (Wy ok N (T - 2 ^ l) ≠ 0) && (decide (T - 2 ^ l < st) || (decide (T - 2 ^ l = st) && decide (l < li)))))) = true then some (Dy ok N c (T - 2 ^ l) + c l) else none
def PD (ok : Nat → Nat → Bool) (N : Nat) (c : Nat → Int) (st li T : Nat) : Int := if T = 0 then 0 else mq (pg ok N c st li T) N
section
variable {ok : Nat → Nat → Bool} {N : Nat} {c : Nat → Int}
theorem PD_full {st li T : Nat} (h : T ≤ st) : PD ok N c st li T = Dy ok N c T := by
  unfold PD
  by_cases c0 : T = 0
  · subst c0
    rw [if_pos rfl, D_0]
  · rw [if_neg c0, D_rec c0]
    refine mq_congr N (fun l hl => ?_)
    unfold pg dg
    cases hb : T.testBit l with
    | false => simp
    | true =>
      have := del_lt hb
      rw [decide_eq_true (show T - 2 ^ l < st by omega), Bool.true_or, Bool.and_true]
theorem PD_0 {T : Nat} : PD ok N c 0 0 T = if T = 0 then 0 else 99999 := by
  unfold PD
  by_cases c0 : T = 0
  · rw [if_pos c0, if_pos c0]
  · rw [if_neg c0, if_neg c0]
    have hz : ∀ l, pg ok N c 0 0 T l = none := fun l => by
      unfold pg
      rw [decide_eq_false (show ¬ T - 2 ^ l < 0 by omega), decide_eq_false (show ¬ l < 0 by omega), if_neg (by simp)]
    exact (mq_bd (g := pg ok N c 0 0 T) (lo := 0) (hi := 0) N (fun l _ v hv => by rw [hz l] at hv; cases hv) (by decide) (by decide)).2.1 (fun l _ => hz l)
theorem PD_next {st T : Nat} : PD ok N c st N T = PD ok N c (st + 1) 0 T := by
  unfold PD
  congr 1
  refine mq_congr N (fun l hl => ?_)
  unfold pg
  rw [decide_eq_true hl, decide_eq_false (show ¬ l < 0 by omega), Bool.and_true, Bool.and_false, Bool.or_false]
  have : (decide (T - 2 ^ l < st) || decide (T - 2 ^ l = st)) = decide (T - 2 ^ l < st + 1) := by
    generalize T - 2 ^ l = D
    by_cases c : D < st
    · rw [decide_eq_true c, decide_eq_true (show D < st + 1 by omega), Bool.true_or]
    · by_cases c2 : D = st
      · rw [decide_eq_true c2, decide_eq_true (show D < st + 1 by omega), Bool.or_true]
      · rw [decide_eq_false c, decide_eq_false c2, decide_eq_false (show ¬ D < st + 1 by omega), Bool.or_self]
  rw [this]
theorem PD_same {st li T : Nat} (hli : li < N) (h : ¬ ((st.testBit li = false ∧ ok st li = true ∧ Wy ok N st ≠ 0) ∧ T = st + 2 ^ li)) : PD ok N c st (li + 1) T = PD ok N c st li T := by
  unfold PD
  congr 1
  refine mq_congr N (fun l hl => ?_)
  unfold pg
  by_cases e : l = li
  · subst e
    rw [decide_eq_true (show l < l + 1 by omega), decide_eq_false (show ¬ l < l by omega), Bool.and_true, Bool.and_false, Bool.or_false]
    cases hb : T.testBit l with
    | false => simp
    | true =>
      obtain ⟨h1, h2, h3⟩ := bit_del hb
      by_cases ce : T - 2 ^ l = st
      · have hn : ¬ (ok st l = true ∧ Wy ok N st ≠ 0) := fun z => h ⟨⟨by rw [← ce]; exact h3, z.1, z.2⟩, by omega⟩
        rw [ce]
        cases ho : ok st l with
        | false => simp
        | true =>
          have hw0 : Wy ok N st = 0 := Classical.byContradiction fun z => hn ⟨ho, z⟩
          simp [hw0]
      · rw [decide_eq_false ce, Bool.or_false]
  · rw [show decide (l < li + 1) = decide (l < li) from by
      by_cases c : l < li
      · rw [decide_eq_true c, decide_eq_true (by omega)]
      · rw [decide_eq_false c, decide_eq_false (by omega)]]
theorem PD_step {st li : Nat} (hli : li < N) (hb : st.testBit li = false) (ho : ok st li = true) (hw : Wy ok N st ≠ 0) : PD ok N c st (li + 1) (st + 2 ^ li) = if Dy ok N c st + c li < PD ok N c st li (st + 2 ^ li) then Dy ok N c st + c li else PD ok N c st li (st + 2 ^ li) := by
  have hp0 := Nat.two_pow_pos li
  have e : st + 2 ^ li - 2 ^ li = st := by omega
  have hb' : (st + 2 ^ li).testBit li = true := by rw [bit_ins hb, decide_eq_true rfl, Bool.or_true]
  have hne : ¬ st + 2 ^ li = 0 := by omega
  simp only [PD, if_neg hne]
  refine mq_upd (j := li) ?_ ?_ N hli (fun l hl hn => ?_)
  · unfold pg
    rw [e, decide_eq_false (show ¬ st < st by omega), decide_eq_false (show ¬ li < li by omega), if_neg (by simp)]
  · unfold pg
    rw [e, hb', ho, decide_eq_true hw, decide_eq_true (show st = st from rfl), decide_eq_true (show li < li + 1 by omega)]
    simp
  · unfold pg
    rw [show decide (l < li + 1) = decide (l < li) from by
      by_cases c : l < li
      · rw [decide_eq_true c, decide_eq_true (by omega)]
      · rw [decide_eq_false c, decide_eq_false (by omega)]]
theorem PD_B (hN : N ≤ 12) (hc : ∀ l, l < N → 0 ≤ c l ∧ c l ≤ 99) {st li T : Nat} (hT : T < 4096) : 0 ≤ PD ok N c st li T ∧ PD ok N c st li T ≤ 99999 := by
  unfold PD
  by_cases c0 : T = 0
  · rw [if_pos c0]; omega
  · rw [if_neg c0]
    refine (mq_bd (g := pg ok N c st li T) (lo := 0) (hi := 1500) N (fun l hl v hv => ?_) (by decide) (by decide)).1
    unfold pg at hv
    split at hv
    · rename_i hb
      rw [Bool.and_eq_true, Bool.and_eq_true, Bool.and_eq_true, decide_eq_true_iff] at hb
      have hlt := del_lt hb.1
      obtain ⟨i1, -, i3⟩ := D_bd (ok := ok) hN hc (T - 2 ^ l) (by omega)
      have i3 := i3 hb.2.2.1
      have hr := cB_rng ((T - 2 ^ l : Nat) : Int) 12
      have hcl := hc l hl
      have := Option.some.inj hv
      omega
    · cases hv
end
def lsF (D : Nat → Int) (len : Int) : Nat → Int
  | 0 => 99999
  | t + 1 => if cB (t : Int) 12 = len then (if D t < lsF D len t then D t else lsF D len t) else lsF D len t
theorem lsF_bd {D : Nat → Int} {len : Int} : ∀ t : Nat, (∀ u, u < t → 0 ≤ D u) → 0 ≤ lsF D len t ∧ lsF D len t ≤ 99999
  | 0, _ => by rw [lsF]; omega
  | t + 1, h => by
    have ih := lsF_bd (len := len) t (fun u hu => h u (by omega))
    have h2 := h t (by omega)
    rw [lsF]
    split
    · split <;> omega
    · exact ih
theorem lsF_congr {D D' : Nat → Int} {len : Int} : ∀ t, (∀ u, u < t → D u = D' u) → lsF D len t = lsF D' len t
  | 0, _ => rfl
  | t + 1, h => by rw [lsF, lsF, lsF_congr t (fun u hu => h u (by omega)), h t (by omega)]
section
variable {d : Nat} {h : AM} {s a b k l p v w x y z S : Int}
theorem x_lesser (hy : y ≠ 99999) (hx0 : 0 ≤ x) : EV (d + 1) 89 0 [(1, en9 x), (3, 1), (1, y), (3, 1)] [] h = some ((1, if y < x then (if x = 99999 then y else y) else (if x = 99999 then y else x)), h) := by
  unfold en9
  by_cases c : x = 99999
  · subst c
    simp only [e89_0, e89_1, e89_4, e89_5, e89_8, e89_9, e89_12, e89_13, e89_14, e89_17, psh0, psh1, psh3, true_or, or_true, eq_self, Option.bind_some, List.length_nil, List.length_cons, Nat.reduceAdd, Nat.reduceLeDiff, Nat.zero_le, ↓reduceIte, Int.reduceLT, Int.reduceEq, Int.reduceLE, Int.reduceNeg, Int.reduceAdd, Int.reduceMul, Int.reduceSub, ne_eq, not_true_eq_false, not_false_eq_true, and_true, true_and, and_false, false_and, c3lt, c3gt, c3eq, Bool.false_eq_true, isK_wr, inA_wr, inR_wr]
    split <;> rfl
  · have c1 : ¬ x = -1 := by omega
    simp only [e89_0, e89_1, e89_4, e89_5, e89_8, e89_9, e89_12, e89_13, e89_14, e89_17, psh0, psh1, psh3, true_or, or_true, eq_self, Option.bind_some, List.length_nil, List.length_cons, Nat.reduceAdd, Nat.reduceLeDiff, Nat.zero_le, ↓reduceIte, Int.reduceLT, Int.reduceEq, Int.reduceLE, Int.reduceNeg, Int.reduceAdd, Int.reduceMul, Int.reduceSub, ne_eq, not_true_eq_false, not_false_eq_true, and_true, true_and, and_false, false_and, c3lt, c3gt, c3eq, Bool.false_eq_true, isK_wr, inA_wr, inR_wr, c, c1]
def cX (h : AM) (s : Int) (bc : Bool) : Nat → Int := fun l => if bc = true then mrd h (s + 13 + l) 4 else mrd h (s + 13 + l) 3
theorem x_least_in {h0 : AM} {N st : Nat} {bc : Bool} (hr : CR h0 s S N) (hs : s = 162 ∨ s = 195) (hc : ∀ l, l < N → 0 ≤ cX h0 s bc l ∧ cX h0 s bc l ≤ 99) (hst : st < 2 ^ N) (hw : Wy (okX h0 s) N st ≠ 0) (n : Nat) : ∀ (li : Nat) (h : AM) (l8 l9 : AV), li + n = N → CQ h0 h S → (∀ T : Nat, T < 2 ^ N → mrd h S T = en9 (PD (okX h0 s) N (cX h0 s bc) st li T)) → ∃ h' l8' l9', EV (d + 2) 88 82 [(2, 148), (2, s), (0, b01 bc), (0, ((2 ^ N : Nat) : Int)), (1, x), (3, 1), (0, (st : Int)), (0, (li : Int)), l8, l9] [] h = EV (d + 2) 88 177 [(2, 148), (2, s), (0, b01 bc), (0, ((2 ^ N : Nat) : Int)), (1, x), (3, 1), (0, (st : Int)), (0, (N : Int)), l8', l9'] [] h' ∧ CQ h0 h' S ∧ ∀ T : Nat, T < 2 ^ N → mrd h' S T = en9 (PD (okX h0 s) N (cX h0 s bc) st N T) := by
  have N12 := hr.2.2.2.2.2.2.2.2.1
  have hp := pow_13 N12
  induction n with
  | zero =>
    intro li h l8 l9 hi hq hP
    have e : li = N := by omega
    subst e
    obtain ⟨a1, a2, a3, a4, a5, a6, a7, a8, a9, a10, a11, a12, a13⟩ := CR_cq hr hs hq
    refine ⟨h, l8, l9, ?_, hq, hP⟩
    rw [e88_82]
    simp only [e88_0, e88_1, e88_2, e88_5, e88_6, e88_7, e88_8, e88_9, e88_12, e88_15, e88_16, e88_19, e88_20, e88_21, e88_22, e88_25, e88_27, e88_28, e88_32, e88_33, e88_36, e88_37, e88_40, e88_42, e88_43, e88_46, e88_47, e88_50, e88_53, e88_55, e88_58, e88_59, e88_62, e88_65, e88_67, e88_68, e88_71, e88_73, e88_74, e88_77, e88_79, e88_80, e88_84, e88_85, e88_88, e88_91, e88_92, e88_93, e88_95, e88_97, e88_100, e88_103, e88_104, e88_107, e88_108, e88_111, e88_113, e88_114, e88_117, e88_118, e88_121, e88_122, e88_125, e88_127, e88_128, e88_131, e88_132, e88_134, e88_135, e88_138, e88_140, e88_141, e88_143, e88_144, e88_145, e88_146, e88_149, e88_151, e88_152, e88_154, e88_155, e88_156, e88_157, e88_158, e88_161, e88_163, e88_164, e88_166, e88_167, e88_170, e88_171, e88_174, e88_180, e88_183, e88_185, e88_186, psh0, psh1, psh3, true_or, or_true, eq_self, Option.bind_some, List.length_nil, List.length_cons, Nat.reduceAdd, Nat.reduceLeDiff, Nat.zero_le, ↓reduceIte, Int.reduceLT, Int.reduceEq, Int.reduceLE, Int.reduceNeg, Int.reduceAdd, Int.reduceMul, Int.reduceSub, ne_eq, not_true_eq_false, not_false_eq_true, and_true, true_and, and_false, false_and, c3lt, c3gt, c3eq, Bool.false_eq_true, isK_wr, inA_wr, inR_wr, a6.1, a8, Int.lt_irrefl]
  | succ n ih =>
    intro li h l8 l9 hi hq hP
    obtain ⟨a1, a2, a3, a4, a5, a6, a7, a8, a9, a10, a11, a12, a13⟩ := CR_cq hr hs hq
    have ks := a6.1
    have r1 := a6.2.2.1
    have ci : (li : Int) < N := by omega
    have w1 : w32 ((li : Int) + 1) = ((li + 1 : Nat) : Int) := by rw [w32_id (by omega) (by omega)]; omega
    have gn := x_next_q (d := d) (T := st) (l := li) hr hs hq (by omega) (by omega)
    cases hb : okX h0 s st li with
    | false =>
      rw [hb] at gn
      obtain ⟨h', l8', l9', e1, e2, e4⟩ := ih (li + 1) h l8 l9 (by omega) hq (fun T hT => by
        rw [hP T hT, PD_same (by omega) (fun z => by rw [hb] at z; exact absurd z.1.2.1 (by decide))])
      refine ⟨h', l8', l9', ?_, e2, e4⟩
      rw [← e1, e88_82]
      simp only [e88_0, e88_1, e88_2, e88_5, e88_6, e88_7, e88_8, e88_9, e88_12, e88_15, e88_16, e88_19, e88_20, e88_21, e88_22, e88_25, e88_27, e88_28, e88_32, e88_33, e88_36, e88_37, e88_40, e88_42, e88_43, e88_46, e88_47, e88_50, e88_53, e88_55, e88_58, e88_59, e88_62, e88_65, e88_67, e88_68, e88_71, e88_73, e88_74, e88_77, e88_79, e88_80, e88_84, e88_85, e88_88, e88_91, e88_92, e88_93, e88_95, e88_97, e88_100, e88_103, e88_104, e88_107, e88_108, e88_111, e88_113, e88_114, e88_117, e88_118, e88_121, e88_122, e88_125, e88_127, e88_128, e88_131, e88_132, e88_134, e88_135, e88_138, e88_140, e88_141, e88_143, e88_144, e88_145, e88_146, e88_149, e88_151, e88_152, e88_154, e88_155, e88_156, e88_157, e88_158, e88_161, e88_163, e88_164, e88_166, e88_167, e88_170, e88_171, e88_174, e88_180, e88_183, e88_185, e88_186, psh0, psh1, psh3, true_or, or_true, eq_self, Option.bind_some, List.length_nil, List.length_cons, Nat.reduceAdd, Nat.reduceLeDiff, Nat.zero_le, ↓reduceIte, Int.reduceLT, Int.reduceEq, Int.reduceLE, Int.reduceNeg, Int.reduceAdd, Int.reduceMul, Int.reduceSub, ne_eq, not_true_eq_false, not_false_eq_true, and_true, true_and, and_false, false_and, c3lt, c3gt, c3eq, Bool.false_eq_true, isK_wr, inA_wr, inR_wr, ks, a8, ci, a1, gn, b01, w1]
    | true =>
      rw [hb] at gn
      have hbit : st.testBit li = false := ok_bit (by omega) hb
      have hU := ins_lt hst (show li < N by omega) hbit
      have eU := i_ins (x := st) (l := li) (by omega) (by omega) hbit
      have i1 : inA h S 19 ((st + 2 ^ li : Nat) : Int) := ⟨a12, Int.natCast_nonneg _, Int.lt_of_lt_of_le (Int.ofNat_lt.mpr hU) a13⟩
      have i2 : inA h S 19 (st : Int) := ⟨a12, Int.natCast_nonneg _, Int.lt_of_lt_of_le (Int.ofNat_lt.mpr hst) a13⟩
      have v1 := hP (st + 2 ^ li) hU
      have v2 := hP st hst
      rw [PD_full (Nat.le_refl st)] at v2
      obtain ⟨i5, -, i6⟩ := D_bd (ok := okX h0 s) (c := cX h0 s bc) N12 hc st (by omega)
      have i6 := i6 hw
      have hcr := cB_rng (st : Int) 12
      have hcl := hc li (by omega)
      have v2' : mrd h S st = Dy (okX h0 s) N (cX h0 s bc) st := by
        rw [v2]
        unfold en9
        rw [if_neg (by omega)]
      have b1 := PD_B (ok := okX h0 s) N12 hc (st := st) (li := li) (T := st + 2 ^ li) (by omega)
      have eS := PD_step (ok := okX h0 s) (N := N) (c := cX h0 s bc) (st := st) (li := li) (by omega) hbit hb hw
      have w2 : w64 (Dy (okX h0 s) N (cX h0 s bc) st + cX h0 s bc li) = Dy (okX h0 s) N (cX h0 s bc) st + cX h0 s bc li := w64_id (by omega) (by omega)
      have gl := x_lesser (d := d) (h := h) (x := PD (okX h0 s) N (cX h0 s bc) st li (st + 2 ^ li)) (y := Dy (okX h0 s) N (cX h0 s bc) st + cX h0 s bc li) (by omega) b1.1
      have eV : (if Dy (okX h0 s) N (cX h0 s bc) st + cX h0 s bc li < PD (okX h0 s) N (cX h0 s bc) st li (st + 2 ^ li) then (if PD (okX h0 s) N (cX h0 s bc) st li (st + 2 ^ li) = 99999 then Dy (okX h0 s) N (cX h0 s bc) st + cX h0 s bc li else Dy (okX h0 s) N (cX h0 s bc) st + cX h0 s bc li) else (if PD (okX h0 s) N (cX h0 s bc) st li (st + 2 ^ li) = 99999 then Dy (okX h0 s) N (cX h0 s bc) st + cX h0 s bc li else PD (okX h0 s) N (cX h0 s bc) st li (st + 2 ^ li))) = en9 (PD (okX h0 s) N (cX h0 s bc) st (li + 1) (st + 2 ^ li)) := by
        rw [eS]
        unfold en9
        (repeat' split) <;> omega
      rw [eV] at gl
      obtain ⟨t1, t2, t3⟩ := a6.2.2.2.2.2.2.2.2.2.2.2.1 (li : Int) (by omega) (by omega)
      have e34 : ∀ j, mrd h (s + 13 + li) j = mrd h0 (s + 13 + li) j := fun j => hq.2 _ _ (by omega) (by omega)
      obtain ⟨h', l8', l9', e1, e2, e4⟩ := ih (li + 1) (mwr h S ((st + 2 ^ li : Nat) : Int) (en9 (PD (okX h0 s) N (cX h0 s bc) st (li + 1) (st + 2 ^ li)))) (1, cX h0 s bc li) (3, 1) (by omega) (by
        refine ⟨hq.1, fun a i h1 h2 => ?_⟩
        rw [rdn1 h1]
        exact hq.2 a i h1 h2) (fun T hT => by
        rw [rd_wr]
        by_cases c : T = st + 2 ^ li
        · rw [c, if_pos ⟨rfl, rfl⟩]
        · rw [if_neg (fun z => c (Int.ofNat.inj z.2)), hP T hT, PD_same (by omega) (fun z => c z.2)])
      refine ⟨h', l8', l9', ?_, e2, e4⟩
      rw [← e1, e88_82]
      cases bc with
      | true =>
        have ec : cX h0 s true li = mrd h0 (s + 13 + li) 4 := rfl
        rw [ec] at gl w2 ⊢
        simp only [e88_0, e88_1, e88_2, e88_5, e88_6, e88_7, e88_8, e88_9, e88_12, e88_15, e88_16, e88_19, e88_20, e88_21, e88_22, e88_25, e88_27, e88_28, e88_32, e88_33, e88_36, e88_37, e88_40, e88_42, e88_43, e88_46, e88_47, e88_50, e88_53, e88_55, e88_58, e88_59, e88_62, e88_65, e88_67, e88_68, e88_71, e88_73, e88_74, e88_77, e88_79, e88_80, e88_84, e88_85, e88_88, e88_91, e88_92, e88_93, e88_95, e88_97, e88_100, e88_103, e88_104, e88_107, e88_108, e88_111, e88_113, e88_114, e88_117, e88_118, e88_121, e88_122, e88_125, e88_127, e88_128, e88_131, e88_132, e88_134, e88_135, e88_138, e88_140, e88_141, e88_143, e88_144, e88_145, e88_146, e88_149, e88_151, e88_152, e88_154, e88_155, e88_156, e88_157, e88_158, e88_161, e88_163, e88_164, e88_166, e88_167, e88_170, e88_171, e88_174, e88_180, e88_183, e88_185, e88_186, psh0, psh1, psh3, true_or, or_true, eq_self, Option.bind_some, List.length_nil, List.length_cons, Nat.reduceAdd, Nat.reduceLeDiff, Nat.zero_le, ↓reduceIte, Int.reduceLT, Int.reduceEq, Int.reduceLE, Int.reduceNeg, Int.reduceAdd, Int.reduceMul, Int.reduceSub, ne_eq, not_true_eq_false, not_false_eq_true, and_true, true_and, and_false, false_and, c3lt, c3gt, c3eq, Bool.false_eq_true, isK_wr, inA_wr, inR_wr, ks, a8, ci, a1, gn, b01, r1, t1, t2, t3, e34, w1, a10, eU, i1, i2, v1, v2', w2, gl]
      | false =>
        have ec : cX h0 s false li = mrd h0 (s + 13 + li) 3 := rfl
        rw [ec] at gl w2 ⊢
        simp only [e88_0, e88_1, e88_2, e88_5, e88_6, e88_7, e88_8, e88_9, e88_12, e88_15, e88_16, e88_19, e88_20, e88_21, e88_22, e88_25, e88_27, e88_28, e88_32, e88_33, e88_36, e88_37, e88_40, e88_42, e88_43, e88_46, e88_47, e88_50, e88_53, e88_55, e88_58, e88_59, e88_62, e88_65, e88_67, e88_68, e88_71, e88_73, e88_74, e88_77, e88_79, e88_80, e88_84, e88_85, e88_88, e88_91, e88_92, e88_93, e88_95, e88_97, e88_100, e88_103, e88_104, e88_107, e88_108, e88_111, e88_113, e88_114, e88_117, e88_118, e88_121, e88_122, e88_125, e88_127, e88_128, e88_131, e88_132, e88_134, e88_135, e88_138, e88_140, e88_141, e88_143, e88_144, e88_145, e88_146, e88_149, e88_151, e88_152, e88_154, e88_155, e88_156, e88_157, e88_158, e88_161, e88_163, e88_164, e88_166, e88_167, e88_170, e88_171, e88_174, e88_180, e88_183, e88_185, e88_186, psh0, psh1, psh3, true_or, or_true, eq_self, Option.bind_some, List.length_nil, List.length_cons, Nat.reduceAdd, Nat.reduceLeDiff, Nat.zero_le, ↓reduceIte, Int.reduceLT, Int.reduceEq, Int.reduceLE, Int.reduceNeg, Int.reduceAdd, Int.reduceMul, Int.reduceSub, ne_eq, not_true_eq_false, not_false_eq_true, and_true, true_and, and_false, false_and, c3lt, c3gt, c3eq, Bool.false_eq_true, isK_wr, inA_wr, inR_wr, ks, a8, ci, a1, gn, b01, r1, t1, t2, t3, e34, w1, a10, eU, i1, i2, v1, v2', w2, gl]
end
