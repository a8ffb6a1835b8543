section
variable {d : Nat} {h g : AM} {s a b k l p t v w x y z S n : Int} {ok : Nat → Nat → Bool} {N : Nat}
/-- the lessons along the first way -/
def wyF (ok : Nat → Nat → Bool) (N : Nat) (n : Int) : Int → Int := fun q => ((fI (gP ok N n (pt ok N n q.toNat)) 0 N : Nat) : Int)
theorem CR_ff (hr : CR h s S N) (hs : s = 162 ∨ s = 195) {i m : Int} {f : Int → Int} : CR (mff h 150 i m f) s S N := by
  obtain ⟨a1, a2, a3, a4, a5, a6, a7, a8, a9, a10, a11, a12, a13⟩ := hr
  refine ⟨a1, ?_, a3, a4, ?_, ?_, a7, ?_, a9, ?_, a11, a12, a13⟩
  · rw [rdff (by decide)]; exact a2
  · rw [rdff (by decide)]; exact a5
  · obtain ⟨b0, b1, b2, b3, b4, b5, b6, b7, b8, b9, b10, b11, b12⟩ := a6
    refine ⟨b0, ?_, ?_, ?_, ?_, ?_, b6, b7, b8, b9, b10, fun l l0 l1 => ?_, fun k k0 k1 => ?_⟩
    · rw [rdff (by omega)]; exact b1
    · rw [rdff (by omega)]; exact b2
    · rw [rdff (by omega)]; exact b3
    · rw [rdff (by omega)]; exact b4
    · rw [rdff (by omega)]; exact b5
    · obtain ⟨c1, c2, c3⟩ := b11 l l0 l1
      exact ⟨c1, by rw [rdff (by omega)]; exact c2, c3⟩
    · obtain ⟨c1, c2, c3, c4, c5, c6⟩ := b12 k k0 k1
      exact ⟨c1, by rw [rdff (by omega)]; exact c2, c3, by rw [rdff (by omega)]; exact c4, c5, c6⟩
  · rw [rdff (by omega)]; exact a8
  · rw [rdff (by decide)]; exact a10
theorem x_first_2 (hr : CR h s S N) (hs : s = 162 ∨ s = 195) (hsh : Shp h) (q1 : mrd h 148 1 = 150) (hok : ∀ T l, T < 2 ^ N → l < N → ok T l = true → T.testBit l = false) (heq : ∀ T l, l < N → okX h s T l = ok T l) (L : Nat) (hL : mrd h 148 2 = L) (hG : Gy ok N L 0 = true) (hP : ∀ T : Nat, T < 2 ^ N → mrd h S T = b01 (Gy ok N L T)) (m : Nat) : ∀ p : Nat, p + m = L → EV (d + 3) 90 89 [(2, 148), (2, s), (0, x), (0, ((pt ok N L p : Nat) : Int)), (0, (p : Int))] [] (mff h 150 0 p (wyF ok N L)) = some ((0, 1), mwr (mff h 150 0 L (wyF ok N L)) 148 3 L) := by
  have N12 := hr.2.2.2.2.2.2.2.2.1
  have hp := pow_13 N12
  have L12 := hr.2.2.2.2.1.2
  rw [hL] at L12
  have k150 := kn_150 hsh
  have l150 := ln_150 hsh
  induction m with
  | zero =>
    intro p hi
    have e : p = L := by omega
    subst e
    have a1 := hr.1
    rw [e90_89]
    simp only [e90_0, e90_1, e90_2, e90_5, e90_6, e90_7, e90_8, e90_9, e90_10, e90_13, e90_14, e90_15, e90_16, e90_18, e90_21, e90_22, e90_25, e90_26, e90_29, e90_32, e90_33, e90_34, e90_35, e90_38, e90_39, e90_42, e90_43, e90_46, e90_47, e90_49, e90_50, e90_53, e90_54, e90_56, e90_59, e90_60, e90_63, e90_64, e90_65, e90_68, e90_72, e90_75, e90_76, e90_77, e90_78, e90_79, e90_82, e90_83, e90_84, e90_85, e90_86, e90_87, e90_91, e90_92, e90_95, e90_98, e90_99, e90_102, e90_104, e90_105, e90_106, e90_107, e90_110, e90_111, e90_112, e90_113, e90_114, e90_117, e90_119, e90_120, e90_121, e90_122, e90_123, e90_126, e90_129, e90_130, e90_131, e90_134, e90_137, e90_138, psh0, psh1, psh3, true_or, or_true, eq_self, Option.bind_some, List.length_nil, List.length_cons, Nat.reduceAdd, Nat.reduceLeDiff, Nat.zero_le, ↓reduceIte, Int.reduceLT, Int.reduceEq, Int.reduceLE, Int.reduceNeg, Int.reduceAdd, Int.reduceMul, Int.reduceSub, ne_eq, not_true_eq_false, not_false_eq_true, and_true, true_and, and_false, false_and, c3lt, c3gt, c3eq, Bool.false_eq_true, isK_wr, inA_wr, inR_wr, isK_ff, a1, rdff, hL, Int.lt_irrefl]
  | succ m ih =>
    intro p hi
    have ci : (p : Int) < L := by omega
    have w1 : w32 ((p : Int) + 1) = ((p + 1 : Nat) : Int) := by rw [w32_id (by omega) (by omega)]; omega
    obtain ⟨b1, b2, b3, b4, b5⟩ := pt_ok hok N12 hG p (by omega)
    obtain ⟨b6, b7⟩ := b5 ci
    have cr := CR_ff (N := N) hr hs (i := 0) (m := (p : Int)) (f := wyF ok N L)
    have heq' : ∀ l, l < N → okX (mff h 150 0 p (wyF ok N L)) s (pt ok N L p) l = ok (pt ok N L p) l := fun l hl => by
      rw [← heq _ l hl]
      have z3 : ∀ j, mrd (mff h 150 0 p (wyF ok N L)) (s + 13 + l) j = mrd h (s + 13 + l) j := fun j => rdff (by omega)
      have z2 : ∀ j, mrd (mff h 150 0 p (wyF ok N L)) 149 j = mrd h 149 j := fun j => rdff (by decide)
      have z1 : ∀ j, mrd (mff h 150 0 p (wyF ok N L)) 148 j = mrd h 148 j := fun j => rdff (by decide)
      unfold okX okF
      simp only [z1, z2, z3]
    have gg := x_goingOn (d := d) (ok := ok) (n := L) cr b1 heq' (fun l hl ho => by
      have hb := hok _ l b1 hl ho
      have hS := hr.2.2.2.2.2.2.2.2.2.2.1
      exact ⟨hb, by rw [rdff (by omega)]; exact hP _ (ins_lt b1 hl hb)⟩)
    rw [if_neg (by omega)] at gg
    have ew : ((fI (gP ok N L (pt ok N L p)) 0 N : Nat) : Int) = wyF ok N L p := rfl
    rw [ew] at gg
    have e := mff_s (h := h) (a := 150) (i := 0) (n := p) (f := wyF ok N L) (by omega)
    rw [Int.zero_add] at e
    have i1 : inA h 150 16 p := ⟨k150, by omega, by rw [l150]; omega⟩
    have rb : mrd (mff h 150 0 ((p : Int) + 1) (wyF ok N L)) 150 p = wyF ok N L p := by
      rw [rd_ff, if_pos ⟨rfl, by omega, by omega⟩, Int.sub_zero]
    have hb := hok _ _ b1 b6 b7
    have eU : i_or ((pt ok N L p : Nat) : Int) (i_shl 1 (wyF ok N L p)) = ((pt ok N L (p + 1) : Nat) : Int) := i_ins (x := pt ok N L p) (l := fI (gP ok N L (pt ok N L p)) 0 N) (by omega) (by omega) hb
    have a1 := hr.1
    rw [← ih (p + 1) (by omega), e90_89]
    simp only [e90_0, e90_1, e90_2, e90_5, e90_6, e90_7, e90_8, e90_9, e90_10, e90_13, e90_14, e90_15, e90_16, e90_18, e90_21, e90_22, e90_25, e90_26, e90_29, e90_32, e90_33, e90_34, e90_35, e90_38, e90_39, e90_42, e90_43, e90_46, e90_47, e90_49, e90_50, e90_53, e90_54, e90_56, e90_59, e90_60, e90_63, e90_64, e90_65, e90_68, e90_72, e90_75, e90_76, e90_77, e90_78, e90_79, e90_82, e90_83, e90_84, e90_85, e90_86, e90_87, e90_91, e90_92, e90_95, e90_98, e90_99, e90_102, e90_104, e90_105, e90_106, e90_107, e90_110, e90_111, e90_112, e90_113, e90_114, e90_117, e90_119, e90_120, e90_121, e90_122, e90_123, e90_126, e90_129, e90_130, e90_131, e90_134, e90_137, e90_138, psh0, psh1, psh3, true_or, or_true, eq_self, Option.bind_some, List.length_nil, List.length_cons, Nat.reduceAdd, Nat.reduceLeDiff, Nat.zero_le, ↓reduceIte, Int.reduceLT, Int.reduceEq, Int.reduceLE, Int.reduceNeg, Int.reduceAdd, Int.reduceMul, Int.reduceSub, ne_eq, not_true_eq_false, not_false_eq_true, and_true, true_and, and_false, false_and, c3lt, c3gt, c3eq, Bool.false_eq_true, isK_wr, inA_wr, inR_wr, isK_ff, inA_ff, a1, rdff, hL, ci, q1, gg, i1, e, rb, eU, w1]
    rfl
/-- frames of the class's first -/
theorem x_findFirst (hp : Shp h) (hr : RSum h) (hrr : RRef h.1) (hs : s = 162 ∨ s = 195) (hN : mrd h s 6 = N) (N12 : N ≤ 12) (L : Nat) (hL : mrd h 148 2 = L) (L12 : L ≤ 12) (heq : ∀ T l, l < N → okX h s T l = ok T l) (hok : ∀ T l, T < 2 ^ N → l < N → ok T l = true → T.testBit l = false) : ∃ h1, SC h h1 ∧ ∃ h', EV (d + 3) 90 0 [(2, 148), (2, s), (3, 0), (3, 0), (3, 0)] [] h = some ((0, b01 (Gy ok N L 0)), h') ∧ ((Gy ok N L 0 = false ∧ h' = h1) ∨ (Gy ok N L 0 = true ∧ h' = mwr (mff h1 150 0 L (wyF ok N L)) 148 3 L)) := by
  have hcs := CS_of hp hrr (S6_cur hs)
  have hmem : 2 ^ N ∈ SL := by
    have := SL_mem (k := N) (j := 1) N12 (by decide)
    rwa [Nat.mul_one] at this
  have eN := shl_pow N (by omega)
  have hp13 := pow_13 N12
  have k148 := kn_148 hp
  obtain ⟨h1, S, c1, c2, c3, c4, c5, c6, c7, c8⟩ := x_clearSums (d := d + 2) (v := 0) hmem hp hr
  have hrr1 : RRef h1.1 := fun q hq => by
    have hn : ∀ q ∈ refT, q.1 < 258 ∧ q.1 ≠ 151 ∧ ¬ (q.1 = 148 ∧ q.2.1 = 5) := by decide +kernel
    exact (c8 _ _ (hn q hq).1 (hn q hq).2.1 (hn q hq).2.2).trans (hrr q hq)
  have hp0 : 0 < 2 ^ N := Nat.two_pow_pos N
  have cr : CR h1 s S N := by
    refine ⟨kn_148 c2.1, ?_, kn_149 c2.1, ln_149 c2.1, ?_, CS_of c2.1 hrr1 (S6_cur hs), by omega, ?_, N12, c3, c4, c5, c6⟩
    · rw [c8 148 0 (by decide) (by decide) (by omega)]; exact rf_148_0 hrr
    · rw [c8 148 2 (by decide) (by decide) (by omega), hL]; omega
    · rw [c8 s 6 (by omega) (by omega) (by omega)]; exact hN
  have eok1 : ∀ T l, l < N → okX h1 s T l = ok T l := fun T l hl => by
    rw [← heq T l hl]
    have z1 : mrd h1 148 2 = mrd h 148 2 := c8 _ _ (by decide) (by decide) (by omega)
    have z2 : ∀ p : Nat, mrd h1 149 p = mrd h 149 p := fun p => c8 _ _ (by decide) (by decide) (by omega)
    have z3 : ∀ j, mrd h1 (s + 13 + l) j = mrd h (s + 13 + l) j := fun j => c8 _ _ (by omega) (by omega) (by omega)
    unfold okX okF
    simp only [z1, z2, z3]
  have hok1 : ∀ T l, T < 2 ^ N → l < N → okX h1 s T l = true → T.testBit l = false := fun T l hT hl ho => hok T l hT hl (by rw [← eok1 T l hl]; exact ho)
  have eL1 : mrd h1 148 2 = L := by rw [c8 148 2 (by decide) (by decide) (by omega), hL]
  obtain ⟨h2, l4', f1, f2, f3⟩ := x_first_1 (d := d) cr hs hok1 (2 ^ N) h1 (3, 0) (Nat.le_refl _) ⟨rfl, fun _ _ _ _ => rfl⟩ (fun T t1 t2 => by omega)
  rw [eL1] at f3
  have gG : ∀ (m T : Nat), 2 ^ N - T ≤ m → T < 2 ^ N → Gy (okX h1 s) N L T = Gy ok N L T := by
    intro m
    induction m with
    | zero => intro T z1 z2; omega
    | succ m ihm =>
      intro T z1 z2
      rw [G_rec hok1 z2, G_rec hok z2]
      congr 2
      have : fI (gP (okX h1 s) N L T) 0 N = fI (gP ok N L T) 0 N := fI_congr N 0 (fun l _ hl => by
        unfold gP
        rw [eok1 T l (by omega)]
        cases ho : ok T l with
        | false => rfl
        | true =>
          have hb := hok T l z2 (by omega) ho
          have hpl := Nat.two_pow_pos l
          rw [ihm (T + 2 ^ l) (by omega) (ins_lt z2 (by omega) hb)])
      rw [this]
  have f3' : ∀ T : Nat, T < 2 ^ N → mrd h2 S T = b01 (Gy ok N L T) := fun T hT => by rw [f3 T hT, gG (2 ^ N - T) T (Nat.le_refl _) hT]
  have cr2 := CR_cq cr hs f2
  have sc2 : SC h h2 := by
    refine c2.trans ⟨?_, RSum_eq f2.1 (f2.2 _ _ (by omega) (by omega)) c2.2.1, by rw [f2.1], fun a i z1 z2 z3 z4 => f2.2 a i (by omega) (fun z => z4 ⟨z.1, Or.inr (Or.inl z.2)⟩)⟩
    have := c2.1
    unfold Shp mnx at this ⊢
    rw [f2.1]; exact this
  have w1 : w32 (((2 ^ N : Nat) : Int) - 1) = ((2 ^ N : Nat) : Int) - 1 := w32_id (by omega) (by omega)
  have i0 : inA h2 S 19 0 := ⟨cr2.2.2.2.2.2.2.2.2.2.2.2.1, by decide, by have := cr2.2.2.2.2.2.2.2.2.2.2.2.2; omega⟩
  have e5 := cr2.2.2.2.2.2.2.2.2.2.1
  have v0 : mrd h2 S 0 = b01 (Gy ok N L 0) := f3' 0 hp0
  refine ⟨h2, sc2, ?_⟩
  have st1 : EV (d + 3) 90 0 [(2, 148), (2, s), (3, 0), (3, 0), (3, 0)] [] h = EV (d + 3) 90 71 [(2, 148), (2, s), (0, ((2 ^ N : Nat) : Int)), (0, -1), l4'] [] h2 := by
    rw [← f1]
    simp only [e90_0, e90_1, e90_2, e90_5, e90_6, e90_7, e90_8, e90_9, e90_10, e90_13, e90_14, e90_15, e90_16, e90_18, e90_21, e90_22, e90_25, e90_26, e90_29, e90_32, e90_33, e90_34, e90_35, e90_38, e90_39, e90_42, e90_43, e90_46, e90_47, e90_49, e90_50, e90_53, e90_54, e90_56, e90_59, e90_60, e90_63, e90_64, e90_65, e90_68, e90_72, e90_75, e90_76, e90_77, e90_78, e90_79, e90_82, e90_83, e90_84, e90_85, e90_86, e90_87, e90_91, e90_92, e90_95, e90_98, e90_99, e90_102, e90_104, e90_105, e90_106, e90_107, e90_110, e90_111, e90_112, e90_113, e90_114, e90_117, e90_119, e90_120, e90_121, e90_122, e90_123, e90_126, e90_129, e90_130, e90_131, e90_134, e90_137, e90_138, psh0, psh1, psh3, true_or, or_true, eq_self, Option.bind_some, List.length_nil, List.length_cons, Nat.reduceAdd, Nat.reduceLeDiff, Nat.zero_le, ↓reduceIte, Int.reduceLT, Int.reduceEq, Int.reduceLE, Int.reduceNeg, Int.reduceAdd, Int.reduceMul, Int.reduceSub, ne_eq, not_true_eq_false, not_false_eq_true, and_true, true_and, and_false, false_and, c3lt, c3gt, c3eq, Bool.false_eq_true, isK_wr, inA_wr, inR_wr, hcs.1, hN, eN, k148, c1, w1]
  cases hg : Gy ok N L 0 with
  | false =>
    rw [hg] at v0
    have v0' : mrd h2 S 0 = 0 := v0
    refine ⟨h2, ?_, Or.inl ⟨rfl, rfl⟩⟩
    rw [st1, e90_71]
    simp only [e90_0, e90_1, e90_2, e90_5, e90_6, e90_7, e90_8, e90_9, e90_10, e90_13, e90_14, e90_15, e90_16, e90_18, e90_21, e90_22, e90_25, e90_26, e90_29, e90_32, e90_33, e90_34, e90_35, e90_38, e90_39, e90_42, e90_43, e90_46, e90_47, e90_49, e90_50, e90_53, e90_54, e90_56, e90_59, e90_60, e90_63, e90_64, e90_65, e90_68, e90_72, e90_75, e90_76, e90_77, e90_78, e90_79, e90_82, e90_83, e90_84, e90_85, e90_86, e90_87, e90_91, e90_92, e90_95, e90_98, e90_99, e90_102, e90_104, e90_105, e90_106, e90_107, e90_110, e90_111, e90_112, e90_113, e90_114, e90_117, e90_119, e90_120, e90_121, e90_122, e90_123, e90_126, e90_129, e90_130, e90_131, e90_134, e90_137, e90_138, psh0, psh1, psh3, true_or, or_true, eq_self, Option.bind_some, List.length_nil, List.length_cons, Nat.reduceAdd, Nat.reduceLeDiff, Nat.zero_le, ↓reduceIte, Int.reduceLT, Int.reduceEq, Int.reduceLE, Int.reduceNeg, Int.reduceAdd, Int.reduceMul, Int.reduceSub, ne_eq, not_true_eq_false, not_false_eq_true, and_true, true_and, and_false, false_and, c3lt, c3gt, c3eq, Bool.false_eq_true, isK_wr, inA_wr, inR_wr, cr2.1, e5, i0, v0', b01]
  | true =>
    rw [hg] at v0
    have v0' : mrd h2 S 0 = 1 := v0
    have hS1 : mrd h2 148 1 = 150 := by
      rw [sc2.2.2.2 148 1 (by decide) (by decide) (by decide) (by omega)]; exact rf_148_1 hrr
    have heq2 : ∀ T l, l < N → okX h2 s T l = ok T l := fun T l hl => by rw [okX_cq cr hs f2 (by omega), eok1 T l hl]
    have gp := x_first_2 (d := d) (x := ((2 ^ N : Nat) : Int)) cr2 hs sc2.1 hS1 hok heq2 L (by rw [f2.2 148 2 (by omega) (by omega)]; exact eL1) hg f3' L 0 (by omega)
    rw [show ((0 : Nat) : Int) = 0 from rfl, mff_0] at gp
    refine ⟨mwr (mff h2 150 0 L (wyF ok N L)) 148 3 L, ?_, Or.inr ⟨rfl, rfl⟩⟩
    rw [st1, e90_71]
    simp only [e90_0, e90_1, e90_2, e90_5, e90_6, e90_7, e90_8, e90_9, e90_10, e90_13, e90_14, e90_15, e90_16, e90_18, e90_21, e90_22, e90_25, e90_26, e90_29, e90_32, e90_33, e90_34, e90_35, e90_38, e90_39, e90_42, e90_43, e90_46, e90_47, e90_49, e90_50, e90_53, e90_54, e90_56, e90_59, e90_60, e90_63, e90_64, e90_65, e90_68, e90_72, e90_75, e90_76, e90_77, e90_78, e90_79, e90_82, e90_83, e90_84, e90_85, e90_86, e90_87, e90_91, e90_92, e90_95, e90_98, e90_99, e90_102, e90_104, e90_105, e90_106, e90_107, e90_110, e90_111, e90_112, e90_113, e90_114, e90_117, e90_119, e90_120, e90_121, e90_122, e90_123, e90_126, e90_129, e90_130, e90_131, e90_134, e90_137, e90_138, psh0, psh1, psh3, true_or, or_true, eq_self, Option.bind_some, List.length_nil, List.length_cons, Nat.reduceAdd, Nat.reduceLeDiff, Nat.zero_le, ↓reduceIte, Int.reduceLT, Int.reduceEq, Int.reduceLE, Int.reduceNeg, Int.reduceAdd, Int.reduceMul, Int.reduceSub, ne_eq, not_true_eq_false, not_false_eq_true, and_true, true_and, and_false, false_and, c3lt, c3gt, c3eq, Bool.false_eq_true, isK_wr, inA_wr, inR_wr, cr2.1, e5, i0, v0', b01]
    exact gp
end
