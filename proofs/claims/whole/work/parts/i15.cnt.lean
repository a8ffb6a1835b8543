/-! the class's count leaves the told letters alone -/
theorem x_count2 {d : Nat} {h : AM} {s : Int} {N : Nat} (hp : Shp h) (hr : RSum h) (hrr : RRef h.1) (hs : s = 162 ∨ s = 195) (hN : mrd h s 6 = N) (N12 : N ≤ 12) (hlen : 0 ≤ mrd h 148 2 ∧ mrd h 148 2 ≤ 12) : ∃ h', EV (d + 2) 87 0 [(2, 148), (2, s), (3, 0), (3, 0), (3, 0), (3, 0), (3, 0), (3, 0)] [] h = some ((1, alF (Wy (okX h s) N) (mrd h 148 2) (2 ^ N)), h') ∧ ∀ a i, a < 258 → a ≠ 151 → ¬ (a = 148 ∧ (i = 4 ∨ i = 5)) → mrd h' a i = mrd h a i := by
  have hcs := CS_of hp hrr (S6_cur hs)
  have hmem : 2 ^ N ∈ SL := by
    have := SL_mem (k := N) (j := 1) N12 (by decide)
    rwa [Nat.mul_one] at this
  have eN := shl_pow N (by omega)
  have k148 := kn_148 hp
  obtain ⟨h1, S, c1, c2, c3, c4, c5, c6, c7, c8⟩ := x_clearSums (d := d + 1) (v := 0) hmem hp hr
  have hrr1 : RRef h1.1 := fun q hq => by
    have hn : ∀ q ∈ refT, q.1 < 258 ∧ q.1 ≠ 151 ∧ ¬ (q.1 = 148 ∧ q.2.1 = 5) := by decide +kernel
    exact (c8 _ _ (hn q hq).1 (hn q hq).2.1 (hn q hq).2.2).trans (hrr q hq)
  have hp0 : 0 < 2 ^ N := Nat.two_pow_pos N
  have k1481 := kn_148 c2.1
  have i0 : inA h1 S 19 0 := ⟨c5, by decide, by omega⟩
  obtain ⟨h2, hh2⟩ : ∃ h2, h2 = mwr (mwr h1 S 0 1) 148 4 0 := ⟨_, rfl⟩
  have e2 : ∀ a i, a < 258 → a ≠ 151 → ¬ (a = 148 ∧ (i = 4 ∨ i = 5)) → mrd h2 a i = mrd h a i := fun a i z1 z2 z3 => by
    rw [hh2, rd_wr, if_neg (by omega), rdn1 (by omega)]
    exact c8 a i z1 z2 (by omega)
  have cr : CR h2 s S N := by
    refine ⟨by rw [hh2]; exact k1481, ?_, by rw [hh2]; exact kn_149 c2.1, by rw [hh2]; exact ln_149 c2.1, ?_, ?_, by omega, ?_, N12, ?_, c4, by rw [hh2]; exact c5, by rw [hh2]; exact c6⟩
    · rw [e2 148 0 (by decide) (by decide) (by omega)]; exact rf_148_0 hrr
    · rw [e2 148 2 (by decide) (by decide) (by omega)]; exact hlen
    · rw [hh2]
      refine CS_wr (CS_wr (CS_of c2.1 hrr1 (S6_cur hs)) (by omega) (by omega) (by omega) (by omega) (fun _ _ _ => by omega)) (by omega) (by omega) (by omega) (by omega) (fun _ _ _ => by omega)
    · rw [e2 s 6 (by omega) (by omega) (by omega)]; exact hN
    · rw [hh2, rdn2 (by decide), rdn1 (by omega)]; exact c3
  have eok : ∀ T l, l < 12 → okX h2 s T l = okX h s T l := fun T l hl => by
    have z1 : mrd h2 148 2 = mrd h 148 2 := e2 _ _ (by decide) (by decide) (by omega)
    have z2 : ∀ p : Nat, mrd h2 149 p = mrd h 149 p := fun p => e2 _ _ (by decide) (by decide) (by omega)
    have z3 : ∀ j, mrd h2 (s + 13 + l) j = mrd h (s + 13 + l) j := fun j => e2 _ _ (by omega) (by omega) (by omega)
    unfold okX okF
    simp only [z1, z2, z3]
  obtain ⟨h3, f1, f2, f3⟩ := x_count_out (d := d) cr hs (2 ^ N) 0 h2 (3, 0) (3, 0) (by omega) ⟨rfl, fun _ _ _ _ => rfl⟩ (fun T hT => by
    rw [PS_0, hh2, rdn1 (by omega), rd_wr]
    by_cases c : T = 0
    · subst c
      rw [if_pos ⟨rfl, rfl⟩, if_pos rfl]
    · rw [if_neg (fun z => c (by have := z.2; omega)), if_neg c]
      exact c7 T hT) (by rw [hh2, rde]; rfl)
  have el : mrd h2 148 2 = mrd h 148 2 := e2 _ _ (by decide) (by decide) (by omega)
  have eW : ∀ T, Wy (okX h2 s) N T = Wy (okX h s) N T := by
    intro T
    induction T using Nat.strongRecOn with
    | _ T ih =>
      by_cases c : T = 0
      · subst c; rfl
      · rw [W_rec c, W_rec c]
        refine sm_congr N (fun l hl => ?_)
        rw [eok _ _ (by omega)]
        by_cases hb : (T.testBit l && okX h s (T - 2 ^ l) l) = true
        · rw [if_pos hb, if_pos hb]
          exact ih _ (del_lt (Bool.and_eq_true _ _ ▸ hb).1)
        · rw [if_neg hb, if_neg hb]
  rw [el, alF_congr (w' := Wy (okX h s) N) (2 ^ N) (fun u _ => eW u)] at f1
  refine ⟨h3, ?_, fun a i z1 z2 z3 => by rw [f2.2 a i (by omega) (by omega)]; exact e2 a i z1 z2 z3⟩
  · refine Eq.trans ?_ f1
    simp only [e87_0, e87_1, e87_2, e87_5, e87_6, e87_7, e87_8, e87_9, e87_10, e87_13, e87_14, e87_17, e87_18, e87_19, e87_20, e87_21, e87_22, e87_25, e87_26, e87_27, e87_28, e87_32, e87_33, e87_36, e87_37, e87_40, e87_42, e87_43, e87_44, e87_45, e87_48, e87_51, e87_53, e87_56, e87_58, e87_59, e87_60, e87_63, e87_65, e87_68, e87_71, e87_73, e87_74, e87_77, e87_80, e87_81, e87_82, e87_85, e87_87, e87_88, e87_89, e87_90, e87_91, e87_95, e87_96, e87_99, e87_102, e87_103, e87_104, e87_106, e87_108, e87_111, e87_114, e87_115, e87_118, e87_120, e87_121, e87_123, e87_124, e87_125, e87_126, e87_127, e87_128, e87_131, e87_133, e87_134, e87_135, e87_136, e87_139, e87_142, e87_145, e87_148, e87_149, psh0, psh1, psh3, true_or, or_true, eq_self, Option.bind_some, List.length_nil, List.length_cons, Nat.reduceAdd, Nat.reduceLeDiff, Nat.zero_le, ↓reduceIte, Int.reduceLT, Int.reduceEq, Int.reduceLE, Int.reduceNeg, Int.reduceAdd, Int.reduceMul, Int.reduceSub, ne_eq, not_true_eq_false, not_false_eq_true, and_true, true_and, and_false, false_and, c3lt, c3gt, c3eq, Bool.false_eq_true, isK_wr, inA_wr, inR_wr, hcs.1, hN, eN, k148, c1, k1481, c3, i0, ← hh2]
    rfl
