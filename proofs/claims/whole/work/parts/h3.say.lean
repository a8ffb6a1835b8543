/-! countSaid: the whole of it -/
/-- all of a row -/
def rS (ok : Nat → Nat → Bool) (vw : Nat → Bool) (m N T : Nat) : Int := sm (SV ok vw m N T) (2 * m)
theorem rS_bd {ok : Nat → Nat → Bool} {vw : Nat → Bool} {m N T : Nat} (hN : N ≤ 12) (hT : T < 4096) : 0 ≤ rS ok vw m N T ∧ rS ok vw m N T ≤ 8916100448256 := by
  obtain ⟨q1, q2⟩ := SV_B (ok := ok) (vw := vw) (m := m) hN T hT
  refine ⟨sm_nn _ (fun l _ => q1 l), ?_⟩
  by_cases c : T = 0
  · subst c
    have : rS ok vw m N 0 = 0 := by
      unfold rS
      exact Eq.trans (sm_congr (g' := fun _ => 0) _ (fun l _ => rfl)) (sm_zero _)
    rw [this]
    decide
  · have := q2 c
    have := (W_B (ok := ok) hN hT).2
    unfold rS
    omega
theorem sm_mono {a : Nat → Int} {n : Nat} (h : ∀ l, l < n → 0 ≤ a l) : ∀ k j, j + k = n → 0 ≤ sm a j ∧ sm a j ≤ sm a n
  | 0, j, e => by
    have : j = n := by omega
    subst this
    exact ⟨sm_nn j h, Int.le_refl _⟩
  | k + 1, j, e => by
    have := sm_mono h k (j + 1) (by omega)
    rw [sm] at this
    have := h j (by omega)
    exact ⟨sm_nn j (fun l hl => h l (by omega)), by omega⟩
theorem x_said_sum {d : Nat} {h0 h : AM} {s S A : Int} {N st m : Nat} (hr : CR h0 s S N) (hs : s = 162 ∨ s = 195) (hq : CQ h0 h S) (hst : st < 2 ^ N) (m1 : 1 ≤ m) (m9 : m ≤ 9) (hL : ((2 ^ N * (2 * m) : Nat) : Int) ≤ mln h0 S) (hl : cB (st : Int) 12 = mrd h0 148 2) {f : Nat → Int} (hf : ∀ c : Nat, c < 2 * m → mrd h S ((st * (2 * m) + c : Nat) : Int) = f c) (hA : ∀ j, j ≤ 2 * m → 0 ≤ A + sm f j ∧ A + sm f j < 9223372036854775808) (n : Nat) : ∀ j : Nat, j + n = 2 * m → EV (d + 2) 92 49 [(2, 148), (2, s), (0, (m : Int)), (0, ((2 * m : Nat) : Int)), (0, ((2 ^ N : Nat) : Int)), (1, A + sm f j), (3, 1), (0, (st : Int)), (0, (j : Int))] [] h = EV (d + 2) 92 90 [(2, 148), (2, s), (0, (m : Int)), (0, ((2 * m : Nat) : Int)), (0, ((2 ^ N : Nat) : Int)), (1, A + sm f (2 * m)), (3, 1), (0, (st : Int)), (0, ((2 * m : Nat) : Int))] [] h := by
  have N12 := hr.2.2.2.2.2.2.2.2.1
  have hp := pow_13 N12
  obtain ⟨a1, a2, a3, a4, a5, a6, a7, a8, a9, a10, a11, a12, a13⟩ := CR_cq hr hs hq
  have e2 : mrd h 148 2 = mrd h0 148 2 := hq.2 _ _ (by omega) (by omega)
  have gb := x_bitCount (d := d + 1) (h := h) (x := (st : Int)) (by omega) (by omega)
  induction n with
  | zero =>
    intro j hj
    have e : j = 2 * m := by omega
    subst e
    rw [e92_49]
    simp only [e92_0, e92_1, e92_4, e92_5, e92_8, e92_11, e92_12, e92_13, e92_14, e92_15, e92_16, e92_17, e92_18, e92_21, e92_22, e92_24, e92_25, e92_27, e92_28, e92_29, e92_30, e92_33, e92_34, e92_36, e92_37, e92_39, e92_41, e92_43, e92_46, e92_47, e92_51, e92_52, e92_55, e92_57, e92_60, e92_61, e92_64, e92_67, e92_69, e92_70, e92_73, e92_75, e92_76, e92_77, e92_79, e92_80, e92_81, e92_82, e92_84, e92_87, e92_91, e92_93, e92_95, e92_96, e92_99, e92_102, e92_103, e92_104, e92_106, e92_108, e92_111, e92_114, e92_115, e92_117, e92_119, e92_120, e92_122, e92_123, e92_124, e92_125, e92_128, e92_130, e92_131, e92_134, e92_137, e92_138, e92_141, e92_142, e92_143, e92_146, e92_149, e92_152, e92_155, e92_158, e92_160, psh0, psh1, psh3, true_or, or_true, eq_self, Option.bind_some, List.length_nil, List.length_cons, Nat.reduceAdd, Nat.reduceLeDiff, Nat.zero_le, ↓reduceIte, Int.reduceLT, Int.reduceEq, Int.reduceLE, Int.reduceNeg, Int.reduceAdd, Int.reduceMul, Int.reduceSub, ne_eq, not_true_eq_false, not_false_eq_true, and_true, true_and, and_false, false_and, c3lt, c3gt, c3eq, Bool.false_eq_true, isK_wr, inA_wr, inR_wr, Int.lt_irrefl]
  | succ n ih =>
    intro j hj
    have cj : (j : Int) < ((2 * m : Nat) : Int) := by omega
    have wj : w32 ((j : Int) + 1) = ((j + 1 : Nat) : Int) := by rw [w32_id (by omega) (by omega)]; omega
    have F4 : st * (2 * m) + 2 * m ≤ 2 ^ N * (2 * m) := by
      rw [← Nat.succ_mul]
      exact Nat.mul_le_mul_right _ hst
    have F5 : 2 ^ N * (2 * m) ≤ 73728 := Nat.le_trans (Nat.mul_le_mul (show 2 ^ N ≤ 4096 by omega) (show 2 * m ≤ 18 by omega)) (by decide)
    have lS : mln h S = mln h0 S := by unfold mln; rw [hq.1]
    obtain ⟨F, eF⟩ : ∃ F, F = st * (2 * m) := ⟨_, rfl⟩
    rw [← eF] at F4 hf
    have w2 : w32 ((st : Int) * ((2 * m : Nat) : Int)) = (F : Int) := by
      rw [← Int.natCast_mul, ← eF]
      exact w32_id (by omega) (by omega)
    have w3 : w32 ((F : Int) + (j : Int)) = ((F + j : Nat) : Int) := by rw [w32_id (by omega) (by omega)]; omega
    have iF : inA h S 19 ((F + j : Nat) : Int) := ⟨a12, by omega, by rw [lS]; omega⟩
    have hA1 := hA (j + 1) (by omega)
    have w4 : w64 (A + sm f j + f j) = A + sm f (j + 1) := by
      rw [show A + sm f j + f j = A + sm f (j + 1) by rw [sm]; omega]
      exact w64_id (by omega) (by omega)
    have cl : cB (st : Int) 12 = mrd h 148 2 := by rw [e2]; exact hl
    rw [← ih (j + 1) (by omega), e92_49]
    simp only [e92_0, e92_1, e92_4, e92_5, e92_8, e92_11, e92_12, e92_13, e92_14, e92_15, e92_16, e92_17, e92_18, e92_21, e92_22, e92_24, e92_25, e92_27, e92_28, e92_29, e92_30, e92_33, e92_34, e92_36, e92_37, e92_39, e92_41, e92_43, e92_46, e92_47, e92_51, e92_52, e92_55, e92_57, e92_60, e92_61, e92_64, e92_67, e92_69, e92_70, e92_73, e92_75, e92_76, e92_77, e92_79, e92_80, e92_81, e92_82, e92_84, e92_87, e92_91, e92_93, e92_95, e92_96, e92_99, e92_102, e92_103, e92_104, e92_106, e92_108, e92_111, e92_114, e92_115, e92_117, e92_119, e92_120, e92_122, e92_123, e92_124, e92_125, e92_128, e92_130, e92_131, e92_134, e92_137, e92_138, e92_141, e92_142, e92_143, e92_146, e92_149, e92_152, e92_155, e92_158, e92_160, psh0, psh1, psh3, true_or, or_true, eq_self, Option.bind_some, List.length_nil, List.length_cons, Nat.reduceAdd, Nat.reduceLeDiff, Nat.zero_le, ↓reduceIte, Int.reduceLT, Int.reduceEq, Int.reduceLE, Int.reduceNeg, Int.reduceAdd, Int.reduceMul, Int.reduceSub, ne_eq, not_true_eq_false, not_false_eq_true, and_true, true_and, and_false, false_and, c3lt, c3gt, c3eq, Bool.false_eq_true, isK_wr, inA_wr, inR_wr, cj, gb, a1, eq_true cl, a10, w2, w3, iF, hf j (by omega), w4, wj]
set_option maxHeartbeats 1000000 in
theorem x_said_out {d : Nat} {h0 : AM} {s S : Int} {N m : Nat} (hr : CR h0 s S N) (hs : s = 162 ∨ s = 195) (m1 : 1 ≤ m) (m9 : m ≤ 9) (hL : ((2 ^ N * (2 * m) : Nat) : Int) ≤ mln h0 S) (n : Nat) : ∀ (st : Nat) (h : AM) (l8 : AV), st + n = 2 ^ N → CQ h0 h S → RowS h S (okX h0 s) (vwX h0 s) m N st 0 → ∃ h', EV (d + 2) 92 39 [(2, 148), (2, s), (0, (m : Int)), (0, ((2 * m : Nat) : Int)), (0, ((2 ^ N : Nat) : Int)), (1, alF (rS (okX h0 s) (vwX h0 s) m N) (mrd h0 148 2) st), (3, 1), (0, (st : Int)), l8] [] h = some ((1, alF (rS (okX h0 s) (vwX h0 s) m N) (mrd h0 148 2) (2 ^ N)), h') ∧ CQ h0 h' S := by
  have N12 := hr.2.2.2.2.2.2.2.2.1
  have hp := pow_13 N12
  induction n with
  | zero =>
    intro st h l8 hi hq hP
    have e : st = 2 ^ N := by omega
    refine ⟨h, ?_, hq⟩
    rw [e92_39, e]
    simp only [e92_0, e92_1, e92_4, e92_5, e92_8, e92_11, e92_12, e92_13, e92_14, e92_15, e92_16, e92_17, e92_18, e92_21, e92_22, e92_24, e92_25, e92_27, e92_28, e92_29, e92_30, e92_33, e92_34, e92_36, e92_37, e92_41, e92_43, e92_46, e92_47, e92_51, e92_52, e92_55, e92_57, e92_60, e92_61, e92_64, e92_67, e92_69, e92_70, e92_73, e92_75, e92_76, e92_77, e92_79, e92_80, e92_81, e92_82, e92_84, e92_87, e92_90, e92_91, e92_95, e92_96, e92_99, e92_102, e92_103, e92_104, e92_106, e92_108, e92_111, e92_114, e92_115, e92_117, e92_119, e92_120, e92_122, e92_123, e92_124, e92_125, e92_128, e92_130, e92_131, e92_134, e92_137, e92_138, e92_141, e92_142, e92_143, e92_146, e92_149, e92_152, e92_155, e92_158, e92_160, psh0, psh1, psh3, true_or, or_true, eq_self, Option.bind_some, List.length_nil, List.length_cons, Nat.reduceAdd, Nat.reduceLeDiff, Nat.zero_le, ↓reduceIte, Int.reduceLT, Int.reduceEq, Int.reduceLE, Int.reduceNeg, Int.reduceAdd, Int.reduceMul, Int.reduceSub, ne_eq, not_true_eq_false, not_false_eq_true, and_true, true_and, and_false, false_and, c3lt, c3gt, c3eq, Bool.false_eq_true, isK_wr, inA_wr, inR_wr, Int.lt_irrefl]
  | succ n ih =>
    intro st h l8 hi hq hP
    have hst : st < 2 ^ N := by omega
    obtain ⟨a1, a2, a3, a4, a5, a6, a7, a8, a9, a10, a11, a12, a13⟩ := CR_cq hr hs hq
    have ci : (st : Int) < ((2 ^ N : Nat) : Int) := Int.ofNat_lt.mpr hst
    have w1 : w32 ((st : Int) + 1) = ((st + 1 : Nat) : Int) := by rw [w32_id (by omega) (by omega)]; omega
    have e2 : mrd h 148 2 = mrd h0 148 2 := hq.2 _ _ (by omega) (by omega)
    have gb := x_bitCount (d := d + 1) (h := h) (x := (st : Int)) (by omega) (by omega)
    have eA : alF (rS (okX h0 s) (vwX h0 s) m N) (mrd h0 148 2) (st + 1) = alF (rS (okX h0 s) (vwX h0 s) m N) (mrd h0 148 2) st + if cB (st : Int) 12 = mrd h0 148 2 then rS (okX h0 s) (vwX h0 s) m N st else 0 := rfl
    have hB0 := alF_bd (w := rS (okX h0 s) (vwX h0 s) m N) (len := mrd h0 148 2) st (by omega) (fun u hu => rS_bd N12 (by omega))
    have c0 : (0 : Int) < ((2 * m : Nat) : Int) := by omega
    have row : ∀ c : Nat, c < 2 * m → mrd h S ((st * (2 * m) + c : Nat) : Int) = SV (okX h0 s) (vwX h0 s) m N st c := fun c hc => by rw [hP st hst c hc, QS_SV (Nat.le_refl st)]
    -- to 90, with the sum so far
    have to90 : ∃ l8', EV (d + 2) 92 49 [(2, 148), (2, s), (0, (m : Int)), (0, ((2 * m : Nat) : Int)), (0, ((2 ^ N : Nat) : Int)), (1, alF (rS (okX h0 s) (vwX h0 s) m N) (mrd h0 148 2) st), (3, 1), (0, (st : Int)), (0, 0)] [] h = EV (d + 2) 92 90 [(2, 148), (2, s), (0, (m : Int)), (0, ((2 * m : Nat) : Int)), (0, ((2 ^ N : Nat) : Int)), (1, alF (rS (okX h0 s) (vwX h0 s) m N) (mrd h0 148 2) (st + 1)), (3, 1), (0, (st : Int)), l8'] [] h := by
      by_cases cl : cB (st : Int) 12 = mrd h0 148 2
      · rw [if_pos cl] at eA
        have nn := (SV_B (ok := okX h0 s) (vw := vwX h0 s) (m := m) N12 st (by omega)).1
        have rb := rS_bd (ok := okX h0 s) (vw := vwX h0 s) (m := m) N12 (show st < 4096 by omega)
        have g := x_said_sum (d := d) (A := alF (rS (okX h0 s) (vwX h0 s) m N) (mrd h0 148 2) st) hr hs hq hst m1 m9 hL cl row (fun j hj => by
          have q := sm_mono (a := SV (okX h0 s) (vwX h0 s) m N st) (n := 2 * m) (fun l _ => nn l) (2 * m - j) j (by omega)
          unfold rS at rb
          have s4 : (st : Int) ≤ 4096 := by omega
          omega) (2 * m) 0 (by omega)
        rw [show sm (SV (okX h0 s) (vwX h0 s) m N st) 0 = 0 from rfl, Int.add_zero] at g
        refine ⟨(0, ((2 * m : Nat) : Int)), ?_⟩
        rw [eA]
        exact g
      · rw [if_neg cl, Int.add_zero] at eA
        refine ⟨(0, 0), ?_⟩
        have cl' : ¬ cB (st : Int) 12 = mrd h 148 2 := by rw [e2]; exact cl
        rw [eA, e92_49]
        simp only [e92_0, e92_1, e92_4, e92_5, e92_8, e92_11, e92_12, e92_13, e92_14, e92_15, e92_16, e92_17, e92_18, e92_21, e92_22, e92_24, e92_25, e92_27, e92_28, e92_29, e92_30, e92_33, e92_34, e92_36, e92_37, e92_39, e92_41, e92_43, e92_46, e92_47, e92_51, e92_52, e92_55, e92_57, e92_60, e92_61, e92_64, e92_67, e92_69, e92_70, e92_73, e92_75, e92_76, e92_77, e92_79, e92_80, e92_81, e92_82, e92_84, e92_87, e92_91, e92_93, e92_95, e92_96, e92_99, e92_102, e92_103, e92_104, e92_106, e92_108, e92_111, e92_114, e92_115, e92_117, e92_119, e92_120, e92_122, e92_123, e92_124, e92_125, e92_128, e92_130, e92_131, e92_134, e92_137, e92_138, e92_141, e92_142, e92_143, e92_146, e92_149, e92_152, e92_155, e92_158, e92_160, psh0, psh1, psh3, true_or, or_true, eq_self, Option.bind_some, List.length_nil, List.length_cons, Nat.reduceAdd, Nat.reduceLeDiff, Nat.zero_le, ↓reduceIte, Int.reduceLT, Int.reduceEq, Int.reduceLE, Int.reduceNeg, Int.reduceAdd, Int.reduceMul, Int.reduceSub, ne_eq, not_true_eq_false, not_false_eq_true, and_true, true_and, and_false, false_and, c3lt, c3gt, c3eq, Bool.false_eq_true, isK_wr, inA_wr, inR_wr, c0, gb, a1, cl']
    obtain ⟨l8', t9⟩ := to90
    obtain ⟨h1, g1, g2, g3⟩ := x_said_in (d := d) (x := alF (rS (okX h0 s) (vwX h0 s) m N) (mrd h0 148 2) (st + 1)) hr hs hst m1 m9 hL N 0 h (by omega) hq hP
    obtain ⟨h2, f1, f2⟩ := ih (st + 1) h1 (0, (N : Int)) (by omega) g2 (fun T hT c hc => by rw [g3 T hT c hc, QS_next])
    refine ⟨h2, ?_, f2⟩
    rw [← f1]
    have g1 : EV (d + 2) 92 93 [(2, 148), (2, s), (0, (m : Int)), (0, ((2 * m : Nat) : Int)), (0, ((2 ^ N : Nat) : Int)), (1, alF (rS (okX h0 s) (vwX h0 s) m N) (mrd h0 148 2) (st + 1)), (3, 1), (0, (st : Int)), (0, 0)] [] h = _ := g1
    rw [e92_39]
    simp only [e92_41, e92_43, e92_46, e92_47, ↓reduceIte, Int.reduceLT, Int.reduceEq, Int.reduceLE, Int.reduceNeg, Int.reduceAdd, Int.reduceMul, Int.reduceSub, ne_eq, not_true_eq_false, not_false_eq_true, and_true, true_and, and_false, false_and, c3lt, c3gt, c3eq, Bool.false_eq_true, isK_wr, inA_wr, inR_wr, ci, t9]
    simp only [e92_90, e92_91, g1]
    simp only [e92_152, e92_155, w1]
