section
variable {d : Nat} {h g : AM} {s a b k l p t v w x y z S : Int}
theorem x_least_out {h0 : AM} {N : Nat} {bc : Bool} (hr : CR h0 s S N) (hs : s = 162 ∨ s = 195) (hc : ∀ l, l < N → 0 ≤ cX h0 s bc l ∧ cX h0 s bc l ≤ 99) (n : Nat) : ∀ (st : Nat) (h : AM) (l7 l8 l9 : AV), st + n = 2 ^ N → CQ h0 h S → (∀ T : Nat, T < 2 ^ N → mrd h S T = en9 (PD (okX h0 s) N (cX h0 s bc) st 0 T)) → ∃ h', EV (d + 2) 88 30 [(2, 148), (2, s), (0, b01 bc), (0, ((2 ^ N : Nat) : Int)), (1, en9 (lsF (Dy (okX h0 s) N (cX h0 s bc)) (mrd h0 148 2) st)), (3, 1), (0, (st : Int)), l7, l8, l9] [] h = some ((0, en9 (lsF (Dy (okX h0 s) N (cX h0 s bc)) (mrd h0 148 2) (2 ^ N))), h') ∧ CQ h0 h' S := by
  have N12 := hr.2.2.2.2.2.2.2.2.1
  have hp := pow_13 N12
  have bnd := D_bd (ok := okX h0 s) (c := cX h0 s bc) N12 hc
  induction n with
  | zero =>
    intro st h l7 l8 l9 hi hq hP
    have e : st = 2 ^ N := by omega
    have hB := lsF_bd (D := Dy (okX h0 s) N (cX h0 s bc)) (len := mrd h0 148 2) (2 ^ N) (fun u hu => (bnd u (by omega)).1.1)
    have w1 : w32 (en9 (lsF (Dy (okX h0 s) N (cX h0 s bc)) (mrd h0 148 2) (2 ^ N))) = en9 (lsF (Dy (okX h0 s) N (cX h0 s bc)) (mrd h0 148 2) (2 ^ N)) := by
      unfold en9
      split
      · exact w32_id (by decide) (by decide)
      · exact w32_id (by omega) (by omega)
    refine ⟨h, ?_, hq⟩
    rw [e88_30, e]
    simp only [e88_0, e88_1, e88_2, e88_5, e88_6, e88_7, e88_8, e88_9, e88_12, e88_15, e88_16, e88_19, e88_20, e88_21, e88_22, e88_25, e88_27, e88_28, e88_32, e88_33, e88_36, e88_37, e88_40, e88_42, e88_43, e88_46, e88_47, e88_50, e88_53, e88_55, e88_58, e88_59, e88_62, e88_65, e88_67, e88_68, e88_71, e88_73, e88_74, e88_77, e88_79, e88_80, e88_84, e88_85, e88_88, e88_91, e88_92, e88_93, e88_95, e88_97, e88_100, e88_103, e88_104, e88_107, e88_108, e88_111, e88_113, e88_114, e88_117, e88_118, e88_121, e88_122, e88_125, e88_127, e88_128, e88_131, e88_132, e88_134, e88_135, e88_138, e88_140, e88_141, e88_143, e88_144, e88_145, e88_146, e88_149, e88_151, e88_152, e88_154, e88_155, e88_156, e88_157, e88_158, e88_161, e88_163, e88_164, e88_166, e88_167, e88_170, e88_171, e88_174, e88_177, e88_180, e88_183, e88_185, e88_186, psh0, psh1, psh3, true_or, or_true, eq_self, Option.bind_some, List.length_nil, List.length_cons, Nat.reduceAdd, Nat.reduceLeDiff, Nat.zero_le, ↓reduceIte, Int.reduceLT, Int.reduceEq, Int.reduceLE, Int.reduceNeg, Int.reduceAdd, Int.reduceMul, Int.reduceSub, ne_eq, not_true_eq_false, not_false_eq_true, and_true, true_and, and_false, false_and, c3lt, c3gt, c3eq, Bool.false_eq_true, isK_wr, inA_wr, inR_wr, Int.lt_irrefl, w1]
  | succ n ih =>
    intro st h l7 l8 l9 hi hq hP
    have hst : st < 2 ^ N := by omega
    obtain ⟨a1, a2, a3, a4, a5, a6, a7, a8, a9, a10, a11, a12, a13⟩ := CR_cq hr hs hq
    have ci : (st : Int) < ((2 ^ N : Nat) : Int) := Int.ofNat_lt.mpr hst
    have w1 : w32 ((st : Int) + 1) = ((st + 1 : Nat) : Int) := by rw [w32_id (by omega) (by omega)]; omega
    have i2 : inA h S 19 (st : Int) := ⟨a12, Int.natCast_nonneg _, Int.lt_of_lt_of_le ci a13⟩
    have v2 := hP st hst
    rw [PD_full (Nat.le_refl st)] at v2
    have e2 : mrd h 148 2 = mrd h0 148 2 := hq.2 _ _ (by omega) (by omega)
    have gb := fun g => x_bitCount (d := d + 1) (h := g) (x := (st : Int)) (by omega) (by omega)
    obtain ⟨i5, i7, i6⟩ := bnd st (by omega)
    have hB := lsF_bd (D := Dy (okX h0 s) N (cX h0 s bc)) (len := mrd h0 148 2) st (fun u hu => (bnd u (by omega)).1.1)
    have eL : lsF (Dy (okX h0 s) N (cX h0 s bc)) (mrd h0 148 2) (st + 1) = if cB (st : Int) 12 = mrd h0 148 2 then (if Dy (okX h0 s) N (cX h0 s bc) st < lsF (Dy (okX h0 s) N (cX h0 s bc)) (mrd h0 148 2) st then Dy (okX h0 s) N (cX h0 s bc) st else lsF (Dy (okX h0 s) N (cX h0 s bc)) (mrd h0 148 2) st) else lsF (Dy (okX h0 s) N (cX h0 s bc)) (mrd h0 148 2) st := rfl
    by_cases c0 : Wy (okX h0 s) N st = 0
    · have d9 := i7 c0
      have eL' : lsF (Dy (okX h0 s) N (cX h0 s bc)) (mrd h0 148 2) (st + 1) = lsF (Dy (okX h0 s) N (cX h0 s bc)) (mrd h0 148 2) st := by
        rw [eL, d9, if_neg (show ¬ (99999 : Int) < _ by omega)]
        split <;> rfl
      rw [d9, show en9 99999 = -1 from rfl] at v2
      obtain ⟨h', g1, g2⟩ := ih (st + 1) h l7 l8 l9 (by omega) hq (fun T hT => by
        rw [hP T hT, ← PD_next]
        congr 1
        have key : ∀ li, li ≤ N → PD (okX h0 s) N (cX h0 s bc) st li T = PD (okX h0 s) N (cX h0 s bc) st 0 T := by
          intro li
          induction li with
          | zero => intro _; rfl
          | succ li ihl => intro hl; rw [PD_same (by omega) (fun z => z.1.2.2 c0), ihl (by omega)]
        exact (key N (Nat.le_refl _)).symm)
      rw [eL'] at g1
      refine ⟨h', ?_, g2⟩
      rw [← g1, e88_30]
      simp only [e88_0, e88_1, e88_2, e88_5, e88_6, e88_7, e88_8, e88_9, e88_12, e88_15, e88_16, e88_19, e88_20, e88_21, e88_22, e88_25, e88_27, e88_28, e88_32, e88_33, e88_36, e88_37, e88_40, e88_42, e88_43, e88_46, e88_47, e88_50, e88_53, e88_55, e88_58, e88_59, e88_62, e88_65, e88_67, e88_68, e88_71, e88_73, e88_74, e88_77, e88_79, e88_80, e88_84, e88_85, e88_88, e88_91, e88_92, e88_93, e88_95, e88_97, e88_100, e88_103, e88_104, e88_107, e88_108, e88_111, e88_113, e88_114, e88_117, e88_118, e88_121, e88_122, e88_125, e88_127, e88_128, e88_131, e88_132, e88_134, e88_135, e88_138, e88_140, e88_141, e88_143, e88_144, e88_145, e88_146, e88_149, e88_151, e88_152, e88_154, e88_155, e88_156, e88_157, e88_158, e88_161, e88_163, e88_164, e88_166, e88_167, e88_170, e88_171, e88_174, e88_177, e88_180, e88_183, e88_185, e88_186, psh0, psh1, psh3, true_or, or_true, eq_self, Option.bind_some, List.length_nil, List.length_cons, Nat.reduceAdd, Nat.reduceLeDiff, Nat.zero_le, ↓reduceIte, Int.reduceLT, Int.reduceEq, Int.reduceLE, Int.reduceNeg, Int.reduceAdd, Int.reduceMul, Int.reduceSub, ne_eq, not_true_eq_false, not_false_eq_true, and_true, true_and, and_false, false_and, c3lt, c3gt, c3eq, Bool.false_eq_true, isK_wr, inA_wr, inR_wr, ci, a1, a10, i2, v2, w1]
    · have i6 := i6 c0
      have hcr := cB_rng (st : Int) 12
      have d9 : Dy (okX h0 s) N (cX h0 s bc) st ≠ 99999 := by omega
      have v2' : mrd h S st = Dy (okX h0 s) N (cX h0 s bc) st := by
        rw [v2]
        unfold en9
        rw [if_neg d9]
      have nm : ¬ Dy (okX h0 s) N (cX h0 s bc) st = -1 := by omega
      obtain ⟨h2, l8', l9', g1, g2, g4⟩ := x_least_in (d := d) (x := en9 (lsF (Dy (okX h0 s) N (cX h0 s bc)) (mrd h0 148 2) (st + 1))) hr hs hc hst c0 N 0 h l8 l9 (by omega) hq hP
      obtain ⟨h3, f1, f2⟩ := ih (st + 1) h2 (0, (N : Int)) l8' l9' (by omega) g2 (fun T hT => by rw [g4 T hT, PD_next])
      refine ⟨h3, ?_, f2⟩
      rw [← f1]
      have g5 : EV (d + 2) 88 177 [(2, 148), (2, s), (0, b01 bc), (0, ((2 ^ N : Nat) : Int)), (1, en9 (lsF (Dy (okX h0 s) N (cX h0 s bc)) (mrd h0 148 2) (st + 1))), (3, 1), (0, (st : Int)), (0, (N : Int)), l8', l9'] [] h2 = EV (d + 2) 88 30 [(2, 148), (2, s), (0, b01 bc), (0, ((2 ^ N : Nat) : Int)), (1, en9 (lsF (Dy (okX h0 s) N (cX h0 s bc)) (mrd h0 148 2) (st + 1))), (3, 1), (0, ((st + 1 : Nat) : Int)), (0, (N : Int)), l8', l9'] [] h2 := by
        simp only [e88_177, e88_180, w1]
      rw [← g5, ← g1, e88_30]
      by_cases cl : cB (st : Int) 12 = mrd h0 148 2
      · rw [if_pos cl] at eL
        have gl := x_lesser (d := d) (h := h) (x := lsF (Dy (okX h0 s) N (cX h0 s bc)) (mrd h0 148 2) st) (y := Dy (okX h0 s) N (cX h0 s bc) st) d9 hB.1
        have eV : (if Dy (okX h0 s) N (cX h0 s bc) st < lsF (Dy (okX h0 s) N (cX h0 s bc)) (mrd h0 148 2) st then (if lsF (Dy (okX h0 s) N (cX h0 s bc)) (mrd h0 148 2) st = 99999 then Dy (okX h0 s) N (cX h0 s bc) st else Dy (okX h0 s) N (cX h0 s bc) st) else (if lsF (Dy (okX h0 s) N (cX h0 s bc)) (mrd h0 148 2) st = 99999 then Dy (okX h0 s) N (cX h0 s bc) st else lsF (Dy (okX h0 s) N (cX h0 s bc)) (mrd h0 148 2) st)) = en9 (lsF (Dy (okX h0 s) N (cX h0 s bc)) (mrd h0 148 2) (st + 1)) := by
          rw [eL]
          unfold en9
          (repeat' split) <;> omega
        rw [eV] at gl
        simp only [e88_0, e88_1, e88_2, e88_5, e88_6, e88_7, e88_8, e88_9, e88_12, e88_15, e88_16, e88_19, e88_20, e88_21, e88_22, e88_25, e88_27, e88_28, e88_32, e88_33, e88_36, e88_37, e88_40, e88_42, e88_43, e88_46, e88_47, e88_50, e88_53, e88_55, e88_58, e88_59, e88_62, e88_65, e88_67, e88_68, e88_71, e88_73, e88_74, e88_77, e88_79, e88_80, e88_84, e88_85, e88_88, e88_91, e88_92, e88_93, e88_95, e88_97, e88_100, e88_103, e88_104, e88_107, e88_108, e88_111, e88_113, e88_114, e88_117, e88_118, e88_121, e88_122, e88_125, e88_127, e88_128, e88_131, e88_132, e88_134, e88_135, e88_138, e88_140, e88_141, e88_143, e88_144, e88_145, e88_146, e88_149, e88_151, e88_152, e88_154, e88_155, e88_156, e88_157, e88_158, e88_161, e88_163, e88_164, e88_166, e88_167, e88_170, e88_171, e88_174, e88_180, e88_183, e88_185, e88_186, psh0, psh1, psh3, true_or, or_true, eq_self, Option.bind_some, List.length_nil, List.length_cons, Nat.reduceAdd, Nat.reduceLeDiff, Nat.zero_le, ↓reduceIte, Int.reduceLT, Int.reduceEq, Int.reduceLE, Int.reduceNeg, Int.reduceAdd, Int.reduceMul, Int.reduceSub, ne_eq, not_true_eq_false, not_false_eq_true, and_true, true_and, and_false, false_and, c3lt, c3gt, c3eq, Bool.false_eq_true, isK_wr, inA_wr, inR_wr, ci, a1, a10, i2, v2', nm, gb, e2, eq_true cl, gl]
        rfl
      · rw [if_neg cl] at eL
        rw [eL]
        simp only [e88_0, e88_1, e88_2, e88_5, e88_6, e88_7, e88_8, e88_9, e88_12, e88_15, e88_16, e88_19, e88_20, e88_21, e88_22, e88_25, e88_27, e88_28, e88_32, e88_33, e88_36, e88_37, e88_40, e88_42, e88_43, e88_46, e88_47, e88_50, e88_53, e88_55, e88_58, e88_59, e88_62, e88_65, e88_67, e88_68, e88_71, e88_73, e88_74, e88_77, e88_79, e88_80, e88_84, e88_85, e88_88, e88_91, e88_92, e88_93, e88_95, e88_97, e88_100, e88_103, e88_104, e88_107, e88_108, e88_111, e88_113, e88_114, e88_117, e88_118, e88_121, e88_122, e88_125, e88_127, e88_128, e88_131, e88_132, e88_134, e88_135, e88_138, e88_140, e88_141, e88_143, e88_144, e88_145, e88_146, e88_149, e88_151, e88_152, e88_154, e88_155, e88_156, e88_157, e88_158, e88_161, e88_163, e88_164, e88_166, e88_167, e88_170, e88_171, e88_174, e88_180, e88_183, e88_185, e88_186, psh0, psh1, psh3, true_or, or_true, eq_self, Option.bind_some, List.length_nil, List.length_cons, Nat.reduceAdd, Nat.reduceLeDiff, Nat.zero_le, ↓reduceIte, Int.reduceLT, Int.reduceEq, Int.reduceLE, Int.reduceNeg, Int.reduceAdd, Int.reduceMul, Int.reduceSub, ne_eq, not_true_eq_false, not_false_eq_true, and_true, true_and, and_false, false_and, c3lt, c3gt, c3eq, Bool.false_eq_true, isK_wr, inA_wr, inR_wr, ci, a1, a10, i2, v2', nm, gb, e2, cl]
        rfl
theorem Dy_congr {ok ok' : Nat → Nat → Bool} {N : Nat} {c c' : Nat → Int} (h : ∀ T l, l < N → ok T l = ok' T l) (hc : ∀ l, l < N → c l = c' l) : ∀ T, Dy ok N c T = Dy ok' N c' T := by
  have eW := Wy_congr h
  intro T
  induction T using Nat.strongRecOn with
  | _ T ih =>
    by_cases c0 : T = 0
    · subst c0; rfl
    · rw [D_rec c0, D_rec c0]
      refine mq_congr N (fun l hl => ?_)
      unfold dg
      rw [h _ _ hl, eW, hc l hl]
      by_cases hb : (T.testBit l && (ok' (T - 2 ^ l) l && decide (Wy ok' N (T - 2 ^ l) ≠ 0))) = true
      · rw [if_pos hb, if_pos hb, ih _ (del_lt (Bool.and_eq_true _ _ ▸ hb).1)]
      · rw [if_neg hb, if_neg hb]
theorem x_least {N : Nat} {bc : Bool} (hp : Shp h) (hr : RSum h) (hrr : RRef h.1) (hs : s = 162 ∨ s = 195) (hN : mrd h s 6 = N) (N12 : N ≤ 12) (hlen : 0 ≤ mrd h 148 2 ∧ mrd h 148 2 ≤ 12) (hc : ∀ l, l < N → 0 ≤ cX h s bc l ∧ cX h s bc l ≤ 99) : ∃ h', EV (d + 2) 88 0 [(2, 148), (2, s), (0, b01 bc), (3, 0), (3, 0), (3, 0), (3, 0), (3, 0), (3, 0), (3, 0)] [] h = some ((0, en9 (lsF (Dy (okX h s) N (cX h s bc)) (mrd h 148 2) (2 ^ N))), h') ∧ SC h h' := by
  have hcs := CS_of hp hrr (S6_cur hs)
  have hmem : 2 ^ N ∈ SL := by
    have := SL_mem (k := N) (j := 1) N12 (by decide)
    rwa [Nat.mul_one] at this
  have eN := shl_pow N (by omega)
  have k148 := kn_148 hp
  obtain ⟨h1, S, c1, c2, c3, c4, c5, c6, c7, c8⟩ := x_clearSums (d := d + 1) (v := -1) hmem hp hr
  have hrr1 : RRef h1.1 := fun q hq => by
    have hn : ∀ q ∈ refT, q.1 < 258 ∧ q.1 ≠ 151 ∧ ¬ (q.1 = 148 ∧ q.2.1 = 5) := by decide +kernel
    exact (c8 _ _ (hn q hq).1 (hn q hq).2.1 (hn q hq).2.2).trans (hrr q hq)
  have hp0 : 0 < 2 ^ N := Nat.two_pow_pos N
  have k1481 := kn_148 c2.1
  have i0 : inA h1 S 19 0 := ⟨c5, by decide, by omega⟩
  obtain ⟨h2, hh2⟩ : ∃ h2, h2 = mwr h1 S 0 0 := ⟨_, rfl⟩
  have e2 : ∀ a i, a < 258 → a ≠ 151 → ¬ (a = 148 ∧ i = 5) → mrd h2 a i = mrd h a i := fun a i z1 z2 z3 => by
    rw [hh2, rdn1 (by omega)]
    exact c8 a i z1 z2 z3
  have cr : CR h2 s S N := by
    refine ⟨by rw [hh2]; exact k1481, ?_, by rw [hh2]; exact kn_149 c2.1, by rw [hh2]; exact ln_149 c2.1, ?_, ?_, by omega, ?_, N12, ?_, c4, by rw [hh2]; exact c5, by rw [hh2]; exact c6⟩
    · rw [e2 148 0 (by decide) (by decide) (by omega)]; exact rf_148_0 hrr
    · rw [e2 148 2 (by decide) (by decide) (by omega)]; exact hlen
    · rw [hh2]
      exact CS_wr (CS_of c2.1 hrr1 (S6_cur hs)) (by omega) (by omega) (by omega) (by omega) (fun _ _ _ => by omega)
    · rw [e2 s 6 (by omega) (by omega) (by omega)]; exact hN
    · rw [hh2, rdn1 (by omega)]; exact c3
  have eok : ∀ T l, l < N → okX h2 s T l = okX h s T l := fun T l hl => by
    have z1 : mrd h2 148 2 = mrd h 148 2 := e2 _ _ (by decide) (by decide) (by omega)
    have z2 : ∀ p : Nat, mrd h2 149 p = mrd h 149 p := fun p => e2 _ _ (by decide) (by decide) (by omega)
    have z3 : ∀ j, mrd h2 (s + 13 + l) j = mrd h (s + 13 + l) j := fun j => e2 _ _ (by omega) (by omega) (by omega)
    unfold okX okF
    simp only [z1, z2, z3]
  have ecx : ∀ l, l < N → cX h2 s bc l = cX h s bc l := fun l hl => by
    have z3 : ∀ j, mrd h2 (s + 13 + l) j = mrd h (s + 13 + l) j := fun j => e2 _ _ (by omega) (by omega) (by omega)
    unfold cX
    rw [z3, z3]
  obtain ⟨h3, f1, f2⟩ := x_least_out (d := d) (bc := bc) cr hs (fun l hl => by rw [ecx l hl]; exact hc l hl) (2 ^ N) 0 h2 (3, 0) (3, 0) (3, 0) (by omega) ⟨rfl, fun _ _ _ _ => rfl⟩ (fun T hT => by
    rw [PD_0, hh2, rd_wr]
    by_cases c : T = 0
    · subst c
      rw [if_pos ⟨rfl, rfl⟩, if_pos rfl]
      rfl
    · rw [if_neg (fun z => c (by have := z.2; omega)), if_neg c]
      exact c7 T hT)
  have el : mrd h2 148 2 = mrd h 148 2 := e2 _ _ (by decide) (by decide) (by omega)
  have eD := Dy_congr (c := cX h2 s bc) (c' := cX h s bc) eok ecx
  rw [el, lsF_congr (D' := Dy (okX h s) N (cX h s bc)) (2 ^ N) (fun u _ => eD u)] at f1
  refine ⟨h3, ?_, ?_⟩
  · refine Eq.trans ?_ f1
    simp only [e88_0, e88_1, e88_2, e88_5, e88_6, e88_7, e88_8, e88_9, e88_12, e88_15, e88_16, e88_19, e88_20, e88_21, e88_22, e88_25, e88_27, e88_28, e88_32, e88_33, e88_36, e88_37, e88_40, e88_42, e88_43, e88_46, e88_47, e88_50, e88_53, e88_55, e88_58, e88_59, e88_62, e88_65, e88_67, e88_68, e88_71, e88_73, e88_74, e88_77, e88_79, e88_80, e88_84, e88_85, e88_88, e88_91, e88_92, e88_93, e88_95, e88_97, e88_100, e88_103, e88_104, e88_107, e88_108, e88_111, e88_113, e88_114, e88_117, e88_118, e88_121, e88_122, e88_125, e88_127, e88_128, e88_131, e88_132, e88_134, e88_135, e88_138, e88_140, e88_141, e88_143, e88_144, e88_145, e88_146, e88_149, e88_151, e88_152, e88_154, e88_155, e88_156, e88_157, e88_158, e88_161, e88_163, e88_164, e88_166, e88_167, e88_170, e88_171, e88_174, e88_177, e88_180, e88_183, e88_185, e88_186, psh0, psh1, psh3, true_or, or_true, eq_self, Option.bind_some, List.length_nil, List.length_cons, Nat.reduceAdd, Nat.reduceLeDiff, Nat.zero_le, ↓reduceIte, Int.reduceLT, Int.reduceEq, Int.reduceLE, Int.reduceNeg, Int.reduceAdd, Int.reduceMul, Int.reduceSub, ne_eq, not_true_eq_false, not_false_eq_true, and_true, true_and, and_false, false_and, c3lt, c3gt, c3eq, Bool.false_eq_true, isK_wr, inA_wr, inR_wr, hcs.1, hN, eN, k148, c1, k1481, c3, i0, ← hh2]
    rfl
  · have sc2 : SC h h2 := by
      rw [hh2]
      exact SC_wr c2 (Or.inl c3.symm)
    refine sc2.trans ⟨?_, ?_, by rw [f2.1], fun a i z1 z2 z3 z4 => f2.2 a i (by omega) (fun z => z4 ⟨z.1, Or.inr (Or.inl z.2)⟩)⟩
    · have := sc2.1
      unfold Shp mnx at this ⊢
      rw [f2.1]; exact this
    · refine RSum_eq f2.1 (f2.2 _ _ (by omega) (by omega)) sc2.2.1
theorem m_least_loop {N : Nat} {bc : Bool} {D : Nat → Int} (hm : CM g) (hN : mrd g 240 1 = N) (N12 : N ≤ 12) (hw : ∀ T : Nat, T < 2 ^ N → (if bc = true then mrd g 246 T else mrd g 245 T) = D T ∧ 0 ≤ D T) (n : Nat) : ∀ st : Nat, st + n = 2 ^ N → EV (d + 2) 290 6 [(2, 235), (0, b01 bc), (0, lsF D (mrd g 235 27) st), (0, (st : Int))] [] g = some (if lsF D (mrd g 235 27) (2 ^ N) = 99999 then ((0, -1), mwr g 235 0 8) else ((0, lsF D (mrd g 235 27) (2 ^ N)), g)) := by
  have hp := pow_13 N12
  have eN := shl_pow N (by omega)
  have i1 := inC hm (j := 1) (by decide) (by decide)
  have m29 : mrd g 235 29 = 245 := rf_235_29 hm.2.2
  have m30 : mrd g 235 30 = 246 := rf_235_30 hm.2.2
  induction n with
  | zero =>
    intro st hi
    have e : st = 2 ^ N := by omega
    rw [e290_6, e]
    by_cases c : lsF D (mrd g 235 27) (2 ^ N) = 99999
    · rw [if_pos c]
      simp only [e290_0, e290_3, e290_4, e290_5, e290_7, e290_8, e290_9, e290_12, e290_13, e290_14, e290_15, e290_18, e290_19, e290_22, e290_23, e290_26, e290_29, e290_30, e290_31, e290_34, e290_35, e290_38, e290_39, e290_40, e290_43, e290_44, e290_47, e290_48, e290_49, e290_52, e290_53, e290_56, e290_59, e290_60, e290_63, e290_66, e290_67, e290_69, e290_72, e290_75, e290_76, psh0, psh1, psh3, true_or, or_true, eq_self, Option.bind_some, List.length_nil, List.length_cons, Nat.reduceAdd, Nat.reduceLeDiff, Nat.zero_le, ↓reduceIte, Int.reduceLT, Int.reduceEq, Int.reduceLE, Int.reduceNeg, Int.reduceAdd, Int.reduceMul, Int.reduceSub, ne_eq, not_true_eq_false, not_false_eq_true, and_true, true_and, and_false, false_and, c3lt, c3gt, c3eq, Bool.false_eq_true, isK_wr, inA_wr, inR_wr, hm.1, mC hm, i1, hN, eN, Int.lt_irrefl, c, m_refuse]
    · rw [if_neg c]
      simp only [e290_0, e290_3, e290_4, e290_5, e290_7, e290_8, e290_9, e290_12, e290_13, e290_14, e290_15, e290_18, e290_19, e290_22, e290_23, e290_26, e290_29, e290_30, e290_31, e290_34, e290_35, e290_38, e290_39, e290_40, e290_43, e290_44, e290_47, e290_48, e290_49, e290_52, e290_53, e290_56, e290_59, e290_60, e290_63, e290_66, e290_67, e290_69, e290_72, e290_75, e290_76, psh0, psh1, psh3, true_or, or_true, eq_self, Option.bind_some, List.length_nil, List.length_cons, Nat.reduceAdd, Nat.reduceLeDiff, Nat.zero_le, ↓reduceIte, Int.reduceLT, Int.reduceEq, Int.reduceLE, Int.reduceNeg, Int.reduceAdd, Int.reduceMul, Int.reduceSub, ne_eq, not_true_eq_false, not_false_eq_true, and_true, true_and, and_false, false_and, c3lt, c3gt, c3eq, Bool.false_eq_true, isK_wr, inA_wr, inR_wr, hm.1, mC hm, i1, hN, eN, Int.lt_irrefl, c]
  | succ n ih =>
    intro st hi
    have hst : st < 2 ^ N := by omega
    have ci : (st : Int) < ((2 ^ N : Nat) : Int) := Int.ofNat_lt.mpr hst
    have w1 : w32 ((st : Int) + 1) = ((st + 1 : Nat) : Int) := by rw [w32_id (by omega) (by omega)]; omega
    have gs := m_sizeOf (d := d) (h := g) (x := (st : Int))
    have iS5 : inA g 245 16 (st : Int) := ⟨kn_245 hm.2.1, by omega, by rw [ln_245 hm.2.1]; omega⟩
    have iS6 : inA g 246 16 (st : Int) := ⟨kn_246 hm.2.1, by omega, by rw [ln_246 hm.2.1]; omega⟩
    have eL : lsF D (mrd g 235 27) (st + 1) = if cB (st : Int) 12 = mrd g 235 27 then (if D st < lsF D (mrd g 235 27) st then D st else lsF D (mrd g 235 27) st) else lsF D (mrd g 235 27) st := rfl
    have ws := (hw st hst).1
    rw [← ih (st + 1) (by omega), e290_6, eL]
    by_cases c : cB (st : Int) 12 = mrd g 235 27
    · have ct := eq_true c
      rw [if_pos c]
      cases bc with
      | true =>
        rw [if_pos rfl] at ws
        simp only [e290_0, e290_3, e290_4, e290_5, e290_7, e290_8, e290_9, e290_12, e290_13, e290_14, e290_15, e290_18, e290_19, e290_22, e290_23, e290_26, e290_29, e290_30, e290_31, e290_34, e290_35, e290_38, e290_39, e290_40, e290_43, e290_44, e290_47, e290_48, e290_49, e290_52, e290_53, e290_56, e290_59, e290_60, e290_63, e290_66, e290_67, e290_69, e290_72, e290_75, e290_76, psh0, psh1, psh3, true_or, or_true, eq_self, Option.bind_some, List.length_nil, List.length_cons, Nat.reduceAdd, Nat.reduceLeDiff, Nat.zero_le, ↓reduceIte, Int.reduceLT, Int.reduceEq, Int.reduceLE, Int.reduceNeg, Int.reduceAdd, Int.reduceMul, Int.reduceSub, ne_eq, not_true_eq_false, not_false_eq_true, and_true, true_and, and_false, false_and, c3lt, c3gt, c3eq, Bool.false_eq_true, isK_wr, inA_wr, inR_wr, hm.1, mC hm, i1, hN, eN, ci, gs, ct, b01, m30, iS6, ws, w1]
      | false =>
        rw [if_neg (by decide)] at ws
        simp only [e290_0, e290_3, e290_4, e290_5, e290_7, e290_8, e290_9, e290_12, e290_13, e290_14, e290_15, e290_18, e290_19, e290_22, e290_23, e290_26, e290_29, e290_30, e290_31, e290_34, e290_35, e290_38, e290_39, e290_40, e290_43, e290_44, e290_47, e290_48, e290_49, e290_52, e290_53, e290_56, e290_59, e290_60, e290_63, e290_66, e290_67, e290_69, e290_72, e290_75, e290_76, psh0, psh1, psh3, true_or, or_true, eq_self, Option.bind_some, List.length_nil, List.length_cons, Nat.reduceAdd, Nat.reduceLeDiff, Nat.zero_le, ↓reduceIte, Int.reduceLT, Int.reduceEq, Int.reduceLE, Int.reduceNeg, Int.reduceAdd, Int.reduceMul, Int.reduceSub, ne_eq, not_true_eq_false, not_false_eq_true, and_true, true_and, and_false, false_and, c3lt, c3gt, c3eq, Bool.false_eq_true, isK_wr, inA_wr, inR_wr, hm.1, mC hm, i1, hN, eN, ci, gs, ct, b01, m29, iS5, ws, w1]
    · rw [if_neg c]
      simp only [e290_0, e290_3, e290_4, e290_5, e290_7, e290_8, e290_9, e290_12, e290_13, e290_14, e290_15, e290_18, e290_19, e290_22, e290_23, e290_26, e290_29, e290_30, e290_31, e290_34, e290_35, e290_38, e290_39, e290_40, e290_43, e290_44, e290_47, e290_48, e290_49, e290_52, e290_53, e290_56, e290_59, e290_60, e290_63, e290_66, e290_67, e290_69, e290_72, e290_75, e290_76, psh0, psh1, psh3, true_or, or_true, eq_self, Option.bind_some, List.length_nil, List.length_cons, Nat.reduceAdd, Nat.reduceLeDiff, Nat.zero_le, ↓reduceIte, Int.reduceLT, Int.reduceEq, Int.reduceLE, Int.reduceNeg, Int.reduceAdd, Int.reduceMul, Int.reduceSub, ne_eq, not_true_eq_false, not_false_eq_true, and_true, true_and, and_false, false_and, c3lt, c3gt, c3eq, Bool.false_eq_true, isK_wr, inA_wr, inR_wr, hm.1, mC hm, i1, hN, eN, ci, gs, c, w1]
theorem m_leastOf {N : Nat} {bc : Bool} {D : Nat → Int} (hm : CM g) (hN : mrd g 240 1 = N) (N12 : N ≤ 12) (hw : ∀ T : Nat, T < 2 ^ N → (if bc = true then mrd g 246 T else mrd g 245 T) = D T ∧ 0 ≤ D T) : EV (d + 2) 290 0 [(2, 235), (0, b01 bc), (3, 0), (3, 0)] [] g = some (if lsF D (mrd g 235 27) (2 ^ N) = 99999 then ((0, -1), mwr g 235 0 8) else ((0, lsF D (mrd g 235 27) (2 ^ N)), g)) := by
  refine Eq.trans ?_ (m_least_loop (d := d) (bc := bc) hm hN N12 hw (2 ^ N) 0 (by omega))
  simp only [e290_0, e290_3, e290_4, e290_5, e290_7, e290_8, e290_9, e290_12, e290_13, e290_14, e290_15, e290_18, e290_19, e290_22, e290_23, e290_26, e290_29, e290_30, e290_31, e290_34, e290_35, e290_38, e290_39, e290_40, e290_43, e290_44, e290_47, e290_48, e290_49, e290_52, e290_53, e290_56, e290_59, e290_60, e290_63, e290_66, e290_67, e290_69, e290_72, e290_75, e290_76, psh0, psh1, psh3, true_or, or_true, eq_self, Option.bind_some, List.length_nil, List.length_cons, Nat.reduceAdd, Nat.reduceLeDiff, Nat.zero_le, ↓reduceIte, Int.reduceLT, Int.reduceEq, Int.reduceLE, Int.reduceNeg, Int.reduceAdd, Int.reduceMul, Int.reduceSub, ne_eq, not_true_eq_false, not_false_eq_true, and_true, true_and, and_false, false_and, c3lt, c3gt, c3eq, Bool.false_eq_true, isK_wr, inA_wr, inR_wr]
  rfl
end
/-- the reference's days or costs of a lesson -/
def cM (h : AM) (bc : Bool) : Nat → Int := fun l => if bc = true then mrd h 240 (28 + l) else mrd h 240 (16 + l)
/-- both calls at once -/
theorem least_both {d : Nat} {h : AM} {s t n : Int} {N : Nat} (bc : Bool) (hI : Inv h) (hs : s = 162 ∨ s = 195) (ds : DS h s) (hN : mrd h 240 1 = N) (cT : TS h t n = 0) : (∀ h1, SF h h1 → mrd h1 148 2 = n → (∀ p : Nat, (p : Int) < n → mrd h1 149 p = tdF h t p) → ∃ h', EV (d + 2) 88 0 [(2, 148), (2, s), (0, b01 bc), (3, 0), (3, 0), (3, 0), (3, 0), (3, 0), (3, 0), (3, 0)] [] h1 = some ((0, en9 (lsF (Dy (okT h n (fun p => tdF h t p)) N (cM h bc)) n (2 ^ N))), h') ∧ SC h1 h') ∧ ∀ g, SF h g → Laid h g n (tdF h t) N → EV (d + 2) 290 0 [(2, 235), (0, b01 bc), (3, 0), (3, 0)] [] g = some (if en9 (lsF (Dy (okT h n (fun p => tdF h t p)) N (cM h bc)) n (2 ^ N)) = -1 then ((0, -1), mwr g 235 0 8) else ((0, en9 (lsF (Dy (okT h n (fun p => tdF h t p)) N (cM h bc)) n (2 ^ N))), g)) := by
  obtain ⟨d5, d6, d7, d8, dl, dc⟩ := id ds
  have hp := pow_13 (n := N) (by omega)
  have hcm : ∀ l, l < N → 0 ≤ cM h bc l ∧ cM h bc l ≤ 99 := fun l hl => by
    obtain ⟨p1, p2, p3, p4, p5, p6⟩ := dl l (by omega) (by omega)
    unfold cM
    split <;> omega
  have bnd := D_bd (ok := okT h n (fun p => tdF h t p)) (c := cM h bc) (N := N) (by omega) hcm
  constructor
  · intro h1 hf e2 ht
    have ec : ∀ l, l < N → cX h1 s bc l = cM h bc l := fun l hl => by
      obtain ⟨p1, p2, p3, p4, p5, p6⟩ := dl l (by omega) (by omega)
      unfold cX cM
      rw [hf.s hs (by omega), hf.s hs (by omega), p3.1, p4.1]
    obtain ⟨h', g1, g2⟩ := x_least (d := d) (N := N) (bc := bc) hf.2.1 hf.2.2.1 (hf.cm hI).2.2 hs (by rw [hf.s hs (by omega), d6.1, hN]) (by omega) (by rw [e2]; exact TS_n cT) (fun l hl => by rw [ec l hl]; exact hcm l hl)
    have eD := Dy_congr (N := N) (c := cX h1 s bc) (c' := cM h bc) (fun T l hl => okX_T (T := T) hs ds hf hN e2 ht hl) ec
    rw [e2, lsF_congr (D' := Dy (okT h n (fun p => tdF h t p)) N (cM h bc)) (2 ^ N) (fun u _ => eD u)] at g1
    exact ⟨h', g1, g2⟩
  · intro g hf hL
    obtain ⟨l1, l2, l3, l4⟩ := hL
    have eok : ∀ T l, l < N → okR g T l = okT h n (fun p => tdF h t p) T l := fun T l hl => okR_T hf l1 l2 hl
    have gm := m_leastOf (d := d) (bc := bc) (D := Dy (okT h n (fun p => tdF h t p)) N (cM h bc)) l4 (by rw [hf.c]; exact hN) (by omega) (fun T hT => by
      obtain ⟨u1, u2, u3⟩ := l3 T hT
      refine ⟨?_, (bnd T (by omega)).1.1⟩
      cases bc with
      | true =>
        rw [if_pos rfl, u3]
        exact Dy_congr eok (fun l hl => hf.c _) T
      | false =>
        rw [if_neg (by decide), u2]
        exact Dy_congr eok (fun l hl => hf.c _) T)
    rw [l1] at gm
    rw [gm]
    have hB := lsF_bd (D := Dy (okT h n (fun p => tdF h t p)) N (cM h bc)) (len := n) (2 ^ N) (fun u hu => (bnd u (by omega)).1.1)
    unfold en9
    by_cases c : lsF (Dy (okT h n (fun p => tdF h t p)) N (cM h bc)) n (2 ^ N) = 99999
    · rw [if_pos c, if_pos c, if_pos rfl]
    · rw [if_neg c, if_neg c, if_neg (by omega)]
theorem op_soonest : Op_soonest Inv := by
  intro d h t n hI i0 i1
  obtain ⟨s, e8, hs, k0, kM, cs, ds⟩ := ctx hI
  have ds' := ds
  have ks := cs.1
  have r1 := cs.2.2.1
  have r2 := cs.2.2.2.1
  have r3 := cs.2.2.2.2.1
  have kl := cs.2.2.2.2.2.2.2.2.2.2.2.1
  have kc := cs.2.2.2.2.2.2.2.2.2.2.2.2
  obtain ⟨d5, d6, d7, d8, dl, dc⟩ := ds
  have hm : ∀ v, CM (mwr (mwr (mwr h 0 11 v) 235 1 0) 235 0 0) := fun v => CM_q (CM_of hI)
  obtain ⟨N, hN⟩ : ∃ N : Nat, mrd h 240 1 = N := ⟨(mrd h 240 1).toNat, by omega⟩
  obtain ⟨h1, g1, g2, g3⟩ := x_askTold (d := d + 57) (t := t) (n := n) hI
  have hf1 := (SF.rf hI).sc g2
  have x6 : mrd h 0 6 = 148 := rf_0_6 hI.2.1.1
  by_cases cT : TS h t n = 0
  · obtain ⟨q1, q2⟩ := g3 cT
    rw [cT] at g1
    obtain ⟨lx, lm⟩ := least_both (d := d + 57) false hI hs ds' hN cT
    generalize en9 (lsF (Dy (okT h n (fun p => tdF h t p)) N (cM h false)) n (2 ^ N)) = R at lx lm
    refine opSF hI R (if R = -1 then 8 else 0) ?_ (fun h2 hf2 => ?_)
    · obtain ⟨h3, c1, c2⟩ := lx h1 hf1 q1 q2
      have e8' : mrd h1 0 8 = s := hf1.e8.trans e8
      have x6' : mrd h1 0 6 = 148 := (fr0 hf1.1 (by decide)).trans x6
      have hf3 := hf1.sc c2
      refine ⟨mwr h3 0 11 _, ?_, hf3.wr Scr_st (by omega), rde⟩
      have c1' : EV (d + 59) 88 0 [(2, 148), (2, s), (0, 0), (3, 0), (3, 0), (3, 0), (3, 0), (3, 0), (3, 0), (3, 0)] [] h1 = some ((0, R), h3) := c1
      simp only [e139_0, e139_1, e139_2, e139_3, e139_6, e139_7, e139_8, e139_11, e139_12, e139_13, e139_16, e139_17, e139_18, e139_19, e139_22, e139_23, e139_26, e139_27, e139_30, e139_33, psh0, psh1, psh3, true_or, or_true, eq_self, Option.bind_some, List.length_nil, List.length_cons, Nat.reduceAdd, Nat.reduceLeDiff, Nat.zero_le, ↓reduceIte, Int.reduceLT, Int.reduceEq, Int.reduceLE, Int.reduceNeg, Int.reduceAdd, Int.reduceMul, Int.reduceSub, ne_eq, not_true_eq_false, not_false_eq_true, and_true, true_and, and_false, false_and, c3lt, c3gt, c3eq, Bool.false_eq_true, isK_wr, inA_wr, inR_wr, k0, g1, hf1.k0, x6', e8', kn_148 hf1.2.1, c1', hf3.k0, x_answerIfThere]
    · have cm2 := hf2.cm hI
      have hfq : SF h (mwr (mwr h2 235 1 0) 235 0 0) := hf2.q
      obtain ⟨g', f1, f2, f3, f4, f5⟩ := m_isTold (d := d + 56) (t := t) (n := n) hI hfq N hN
      obtain ⟨f6, hL⟩ := f4 cT
      rw [if_pos cT] at f1
      have gm := lm g' f2 hL
      have gm' : EV (d + 59) 290 0 [(2, 235), (0, 0), (3, 0), (3, 0)] [] g' = _ := gm
      have y0 : mrd g' 235 0 = 0 := by rw [f6]; exact q00.1
      have y11 : mrd g' 0 11 = mrd h2 0 11 := by rw [f3]; exact q00.2
      by_cases cr : R = -1
      · rw [if_pos cr] at gm'
        subst cr
        refine ⟨mwr g' 235 0 8, ?_, f2.wr Scr_m0 (by omega), rde, by rw [rdn1 (by decide)]; exact y11⟩
        simp only [e291_0, e291_1, e291_2, e291_5, e291_6, e291_7, e291_10, e291_11, e291_12, e291_13, e291_16, e291_19, e291_20, e291_21, e291_24, e291_27, e291_28, psh0, psh1, psh3, true_or, or_true, eq_self, Option.bind_some, List.length_nil, List.length_cons, Nat.reduceAdd, Nat.reduceLeDiff, Nat.zero_le, ↓reduceIte, Int.reduceLT, Int.reduceEq, Int.reduceLE, Int.reduceNeg, Int.reduceAdd, Int.reduceMul, Int.reduceSub, ne_eq, not_true_eq_false, not_false_eq_true, and_true, true_and, and_false, false_and, c3lt, c3gt, c3eq, Bool.false_eq_true, isK_wr, inA_wr, inR_wr, cm2.1, f1, hL.2.2.2.1, gm']
      · rw [if_neg cr] at gm'
        refine ⟨g', ?_, f2, by rw [if_neg cr]; exact y0, y11⟩
        simp only [e291_0, e291_1, e291_2, e291_5, e291_6, e291_7, e291_10, e291_11, e291_12, e291_13, e291_16, e291_19, e291_20, e291_21, e291_24, e291_27, e291_28, psh0, psh1, psh3, true_or, or_true, eq_self, Option.bind_some, List.length_nil, List.length_cons, Nat.reduceAdd, Nat.reduceLeDiff, Nat.zero_le, ↓reduceIte, Int.reduceLT, Int.reduceEq, Int.reduceLE, Int.reduceNeg, Int.reduceAdd, Int.reduceMul, Int.reduceSub, ne_eq, not_true_eq_false, not_false_eq_true, and_true, true_and, and_false, false_and, c3lt, c3gt, c3eq, Bool.false_eq_true, isK_wr, inA_wr, inR_wr, cm2.1, f1, hL.2.2.2.1, gm']
  · refine opSF hI (-1) (TS h t n) ⟨mwr h1 0 11 (TS h t n), ?_, hf1.wr Scr_st (by omega), rde⟩ (fun h2 hf2 => ?_)
    · simp only [e139_0, e139_1, e139_2, e139_3, e139_6, e139_7, e139_8, e139_11, e139_12, e139_13, e139_16, e139_17, e139_18, e139_19, e139_22, e139_23, e139_26, e139_27, e139_30, e139_33, psh0, psh1, psh3, true_or, or_true, eq_self, Option.bind_some, List.length_nil, List.length_cons, Nat.reduceAdd, Nat.reduceLeDiff, Nat.zero_le, ↓reduceIte, Int.reduceLT, Int.reduceEq, Int.reduceLE, Int.reduceNeg, Int.reduceAdd, Int.reduceMul, Int.reduceSub, ne_eq, not_true_eq_false, not_false_eq_true, and_true, true_and, and_false, false_and, c3lt, c3gt, c3eq, Bool.false_eq_true, isK_wr, inA_wr, inR_wr, k0, g1, cT, hf1.k0, x_refuse]
    · have cm2 := hf2.cm hI
      have hfq : SF h (mwr (mwr h2 235 1 0) 235 0 0) := hf2.q
      obtain ⟨g', f1, f2, f3, f4, f5⟩ := m_isTold (d := d + 56) (t := t) (n := n) hI hfq N hN
      rw [if_neg cT] at f1
      refine ⟨g', ?_, f2, f5 cT, by rw [f3]; exact q00.2⟩
      simp only [e291_0, e291_1, e291_2, e291_5, e291_6, e291_7, e291_10, e291_11, e291_12, e291_13, e291_16, e291_19, e291_20, e291_21, e291_24, e291_27, e291_28, psh0, psh1, psh3, true_or, or_true, eq_self, Option.bind_some, List.length_nil, List.length_cons, Nat.reduceAdd, Nat.reduceLeDiff, Nat.zero_le, ↓reduceIte, Int.reduceLT, Int.reduceEq, Int.reduceLE, Int.reduceNeg, Int.reduceAdd, Int.reduceMul, Int.reduceSub, ne_eq, not_true_eq_false, not_false_eq_true, and_true, true_and, and_false, false_and, c3lt, c3gt, c3eq, Bool.false_eq_true, isK_wr, inA_wr, inR_wr, cm2.1, f1]
theorem op_cheapest : Op_cheapest Inv := by
  intro d h t n hI i0 i1
  obtain ⟨s, e8, hs, k0, kM, cs, ds⟩ := ctx hI
  have ds' := ds
  have ks := cs.1
  have r1 := cs.2.2.1
  have r2 := cs.2.2.2.1
  have r3 := cs.2.2.2.2.1
  have kl := cs.2.2.2.2.2.2.2.2.2.2.2.1
  have kc := cs.2.2.2.2.2.2.2.2.2.2.2.2
  obtain ⟨d5, d6, d7, d8, dl, dc⟩ := ds
  have hm : ∀ v, CM (mwr (mwr (mwr h 0 11 v) 235 1 0) 235 0 0) := fun v => CM_q (CM_of hI)
  obtain ⟨N, hN⟩ : ∃ N : Nat, mrd h 240 1 = N := ⟨(mrd h 240 1).toNat, by omega⟩
  obtain ⟨h1, g1, g2, g3⟩ := x_askTold (d := d + 57) (t := t) (n := n) hI
  have hf1 := (SF.rf hI).sc g2
  have x6 : mrd h 0 6 = 148 := rf_0_6 hI.2.1.1
  by_cases cT : TS h t n = 0
  · obtain ⟨q1, q2⟩ := g3 cT
    rw [cT] at g1
    obtain ⟨lx, lm⟩ := least_both (d := d + 57) true hI hs ds' hN cT
    generalize en9 (lsF (Dy (okT h n (fun p => tdF h t p)) N (cM h true)) n (2 ^ N)) = R at lx lm
    refine opSF hI R (if R = -1 then 8 else 0) ?_ (fun h2 hf2 => ?_)
    · obtain ⟨h3, c1, c2⟩ := lx h1 hf1 q1 q2
      have e8' : mrd h1 0 8 = s := hf1.e8.trans e8
      have x6' : mrd h1 0 6 = 148 := (fr0 hf1.1 (by decide)).trans x6
      have hf3 := hf1.sc c2
      refine ⟨mwr h3 0 11 _, ?_, hf3.wr Scr_st (by omega), rde⟩
      have c1' : EV (d + 59) 88 0 [(2, 148), (2, s), (0, 1), (3, 0), (3, 0), (3, 0), (3, 0), (3, 0), (3, 0), (3, 0)] [] h1 = some ((0, R), h3) := c1
      simp only [e140_0, e140_1, e140_2, e140_3, e140_6, e140_7, e140_8, e140_11, e140_12, e140_13, e140_16, e140_17, e140_18, e140_19, e140_22, e140_23, e140_26, e140_27, e140_30, e140_33, psh0, psh1, psh3, true_or, or_true, eq_self, Option.bind_some, List.length_nil, List.length_cons, Nat.reduceAdd, Nat.reduceLeDiff, Nat.zero_le, ↓reduceIte, Int.reduceLT, Int.reduceEq, Int.reduceLE, Int.reduceNeg, Int.reduceAdd, Int.reduceMul, Int.reduceSub, ne_eq, not_true_eq_false, not_false_eq_true, and_true, true_and, and_false, false_and, c3lt, c3gt, c3eq, Bool.false_eq_true, isK_wr, inA_wr, inR_wr, k0, g1, hf1.k0, x6', e8', kn_148 hf1.2.1, c1', hf3.k0, x_answerIfThere]
    · have cm2 := hf2.cm hI
      have hfq : SF h (mwr (mwr h2 235 1 0) 235 0 0) := hf2.q
      obtain ⟨g', f1, f2, f3, f4, f5⟩ := m_isTold (d := d + 56) (t := t) (n := n) hI hfq N hN
      obtain ⟨f6, hL⟩ := f4 cT
      rw [if_pos cT] at f1
      have gm := lm g' f2 hL
      have gm' : EV (d + 59) 290 0 [(2, 235), (0, 1), (3, 0), (3, 0)] [] g' = _ := gm
      have y0 : mrd g' 235 0 = 0 := by rw [f6]; exact q00.1
      have y11 : mrd g' 0 11 = mrd h2 0 11 := by rw [f3]; exact q00.2
      by_cases cr : R = -1
      · rw [if_pos cr] at gm'
        subst cr
        refine ⟨mwr g' 235 0 8, ?_, f2.wr Scr_m0 (by omega), rde, by rw [rdn1 (by decide)]; exact y11⟩
        simp only [e292_0, e292_1, e292_2, e292_5, e292_6, e292_7, e292_10, e292_11, e292_12, e292_13, e292_16, e292_19, e292_20, e292_21, e292_24, e292_27, e292_28, psh0, psh1, psh3, true_or, or_true, eq_self, Option.bind_some, List.length_nil, List.length_cons, Nat.reduceAdd, Nat.reduceLeDiff, Nat.zero_le, ↓reduceIte, Int.reduceLT, Int.reduceEq, Int.reduceLE, Int.reduceNeg, Int.reduceAdd, Int.reduceMul, Int.reduceSub, ne_eq, not_true_eq_false, not_false_eq_true, and_true, true_and, and_false, false_and, c3lt, c3gt, c3eq, Bool.false_eq_true, isK_wr, inA_wr, inR_wr, cm2.1, f1, hL.2.2.2.1, gm']
      · rw [if_neg cr] at gm'
        refine ⟨g', ?_, f2, by rw [if_neg cr]; exact y0, y11⟩
        simp only [e292_0, e292_1, e292_2, e292_5, e292_6, e292_7, e292_10, e292_11, e292_12, e292_13, e292_16, e292_19, e292_20, e292_21, e292_24, e292_27, e292_28, psh0, psh1, psh3, true_or, or_true, eq_self, Option.bind_some, List.length_nil, List.length_cons, Nat.reduceAdd, Nat.reduceLeDiff, Nat.zero_le, ↓reduceIte, Int.reduceLT, Int.reduceEq, Int.reduceLE, Int.reduceNeg, Int.reduceAdd, Int.reduceMul, Int.reduceSub, ne_eq, not_true_eq_false, not_false_eq_true, and_true, true_and, and_false, false_and, c3lt, c3gt, c3eq, Bool.false_eq_true, isK_wr, inA_wr, inR_wr, cm2.1, f1, hL.2.2.2.1, gm']
  · refine opSF hI (-1) (TS h t n) ⟨mwr h1 0 11 (TS h t n), ?_, hf1.wr Scr_st (by omega), rde⟩ (fun h2 hf2 => ?_)
    · simp only [e140_0, e140_1, e140_2, e140_3, e140_6, e140_7, e140_8, e140_11, e140_12, e140_13, e140_16, e140_17, e140_18, e140_19, e140_22, e140_23, e140_26, e140_27, e140_30, e140_33, psh0, psh1, psh3, true_or, or_true, eq_self, Option.bind_some, List.length_nil, List.length_cons, Nat.reduceAdd, Nat.reduceLeDiff, Nat.zero_le, ↓reduceIte, Int.reduceLT, Int.reduceEq, Int.reduceLE, Int.reduceNeg, Int.reduceAdd, Int.reduceMul, Int.reduceSub, ne_eq, not_true_eq_false, not_false_eq_true, and_true, true_and, and_false, false_and, c3lt, c3gt, c3eq, Bool.false_eq_true, isK_wr, inA_wr, inR_wr, k0, g1, cT, hf1.k0, x_refuse]
    · have cm2 := hf2.cm hI
      have hfq : SF h (mwr (mwr h2 235 1 0) 235 0 0) := hf2.q
      obtain ⟨g', f1, f2, f3, f4, f5⟩ := m_isTold (d := d + 56) (t := t) (n := n) hI hfq N hN
      rw [if_neg cT] at f1
      refine ⟨g', ?_, f2, f5 cT, by rw [f3]; exact q00.2⟩
      simp only [e292_0, e292_1, e292_2, e292_5, e292_6, e292_7, e292_10, e292_11, e292_12, e292_13, e292_16, e292_19, e292_20, e292_21, e292_24, e292_27, e292_28, psh0, psh1, psh3, true_or, or_true, eq_self, Option.bind_some, List.length_nil, List.length_cons, Nat.reduceAdd, Nat.reduceLeDiff, Nat.zero_le, ↓reduceIte, Int.reduceLT, Int.reduceEq, Int.reduceLE, Int.reduceNeg, Int.reduceAdd, Int.reduceMul, Int.reduceSub, ne_eq, not_true_eq_false, not_false_eq_true, and_true, true_and, and_false, false_and, c3lt, c3gt, c3eq, Bool.false_eq_true, isK_wr, inA_wr, inR_wr, cm2.1, f1]
