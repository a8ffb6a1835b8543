/-! copying a school: its loops, and the reference's -/
/-- g is h with the school at s1 (age a1) copied to s2 (age a2) -/
def CPL (h g : AM) (s1 s2 n : Int) : Prop := ∀ l, 0 ≤ l → l < n → ∀ q, 0 ≤ q → q ≤ 6 → mrd g (s2 + 13 + l) q = mrd h (s1 + 13 + l) q
def CPC (h g : AM) (s1 s2 n : Int) : Prop := ∀ k, 0 ≤ k → k < n → (∀ q, 1 ≤ q → q ≤ 6 → mrd g (s2 + 25 + 2 * k) q = mrd h (s1 + 25 + 2 * k) q) ∧ ∀ q, 0 ≤ q → q < 12 → mrd g (s2 + 26 + 2 * k) q = mrd h (s1 + 26 + 2 * k) q
def CPF (h g : AM) (s a : Int) : Prop := g.2 = h.2 ∧ ∀ b q, ¬ WC s a b q → mrd g b q = mrd h b q
def CPY (h g : AM) (s1 s2 a1 a2 : Int) : Prop := CPF h g s2 a2 ∧ (∀ q, 5 ≤ q → q ≤ 8 → mrd g s2 q = mrd h s1 q) ∧ CPL h g s1 s2 (mrd h s1 6) ∧ CPC h g s1 s2 (mrd h s1 7) ∧ (mrd g a2 6 = mrd h a1 6 ∧ mrd g a2 7 = mrd h a1 7) ∧ ∀ j, 1 ≤ j → j ≤ 5 → ∀ q, 0 ≤ q → q < 30 → mrd g (a2 + j) q = mrd h (a1 + j) q
/-- where an age may lie beside a school -/
def AS (s a : Int) : Prop := (s + 5 < a ∧ a + 6 < s + 13) ∨ s + 32 < a ∨ a + 6 < s
section
variable {d : Nat} {h : AM} {s1 s2 a1 a2 : Int}
theorem cp_lessons (hp : Shp h) (hr : RRef h.1) (h1 : s1 ∈ S6) (h2 : s2 ∈ S6) (ha : a2 ∈ A7) (hd : s1 + 33 ≤ s2 ∨ s2 + 33 ≤ s1) (as1 : AS s1 a2) (as2 : AS s2 a2) (N : Nat) (hN : mrd h s1 6 = N) (N12 : N ≤ 12) (hv : ∀ l, 0 ≤ l → l < (N : Int) → mrd h (s1 + 13 + l) 2 = 0 ∨ mrd h (s1 + 13 + l) 2 = 1) (n : Nat) : ∀ (i : Nat) (g : AM), i + n = N → CPF h g s2 a2 → CPL h g s1 s2 i → ∃ g', EV (d + 1) 51 2 [(2, s2), (2, s1), (0, (i : Int))] [] g = EV (d + 1) 51 33 [(2, s2), (2, s1), (0, 0)] [] g' ∧ CPF h g' s2 a2 ∧ CPL h g' s1 s2 N := by
  induction n with
  | zero =>
    intro i g hi hf hl
    have e : i = N := by omega
    subst e
    have c1 := CS_of (Shp_eq hf.1 hp) (RRef_WC h2 ha hf.2 hr) h1
    have f6 : mrd g s1 6 = i := by rw [hf.2 _ _ (by unfold WC AS at *; omega)]; exact hN
    refine ⟨g, ?_, hf, hl⟩
    rw [e51_2]
    simp only [e51_0, e51_1, e51_3, e51_4, e51_7, e51_10, e51_11, e51_14, e51_15, e51_16, e51_17, e51_20, e51_21, e51_22, e51_25, e51_28, e51_31, e51_32, e51_34, e51_35, e51_38, e51_41, e51_42, e51_45, e51_46, e51_47, e51_48, e51_51, e51_52, e51_53, e51_56, e51_59, e51_62, e51_63, e51_66, e51_67, e51_70, e51_73, e51_74, e51_75, e51_78, e51_81, e51_82, e51_83, e51_86, e51_89, e51_90, e51_91, e51_94, e51_97, e51_98, e51_99, e51_102, e51_105, psh0, psh1, psh3, true_or, or_true, eq_self, Option.bind_some, List.length_nil, List.length_cons, Nat.reduceAdd, Nat.reduceLeDiff, Nat.zero_le, ↓reduceIte, Int.reduceLT, Int.reduceEq, Int.reduceLE, Int.reduceNeg, Int.reduceAdd, Int.reduceMul, Int.reduceSub, ne_eq, not_true_eq_false, not_false_eq_true, and_true, true_and, and_false, false_and, c3lt, c3gt, c3eq, Bool.false_eq_true, isK_wr, inA_wr, inR_wr, c1.1, f6, Int.lt_irrefl]
  | succ n ih =>
    intro i g hi hf hl
    have c : (i : Int) < N := by omega
    have c1 := CS_of (Shp_eq hf.1 hp) (RRef_WC h2 ha hf.2 hr) h1
    have c2 := CS_of (Shp_eq hf.1 hp) (RRef_WC h2 ha hf.2 hr) h2
    have f6 : mrd g s1 6 = N := by rw [hf.2 _ _ (by unfold WC AS at *; omega)]; exact hN
    obtain ⟨u1, u2, u3⟩ := c1.2.2.2.2.2.2.2.2.2.2.2.1 i (by omega) (by omega)
    obtain ⟨v1, v2, v3⟩ := c2.2.2.2.2.2.2.2.2.2.2.2.1 i (by omega) (by omega)
    have fs : ∀ q, mrd g (s1 + 13 + i) q = mrd h (s1 + 13 + i) q := fun q => hf.2 _ _ (by unfold WC AS at *; omega)
    obtain ⟨g1, k1, k2, k3, k4⟩ := x_lcopy (d := d) v3 u3 (by omega) (by rw [fs]; exact hv i (by omega) c)
    have w1 : w32 ((i : Int) + 1) = ((i + 1 : Nat) : Int) := by rw [w32_id (by omega) (by omega)]; omega
    obtain ⟨g', z1, z2, z3⟩ := ih (i + 1) g1 (by omega) ⟨k2.trans hf.1, fun b q hw => by
      rw [k3 b q (by unfold WC at hw; omega)]
      exact hf.2 b q hw⟩ (fun l l0 l1 q q0 q1 => by
      by_cases e : l = i
      · rw [e, k4 q q0 q1, fs]
      · rw [k3 _ _ (by omega)]
        exact hl l l0 (by omega) q q0 q1)
    refine ⟨g', ?_, z2, z3⟩
    rw [← z1, e51_2]
    simp only [e51_0, e51_1, e51_3, e51_4, e51_7, e51_10, e51_11, e51_14, e51_15, e51_16, e51_17, e51_20, e51_21, e51_22, e51_25, e51_28, e51_31, e51_32, e51_34, e51_35, e51_38, e51_41, e51_42, e51_45, e51_46, e51_47, e51_48, e51_51, e51_52, e51_53, e51_56, e51_59, e51_62, e51_63, e51_66, e51_67, e51_70, e51_73, e51_74, e51_75, e51_78, e51_81, e51_82, e51_83, e51_86, e51_89, e51_90, e51_91, e51_94, e51_97, e51_98, e51_99, e51_102, e51_105, psh0, psh1, psh3, true_or, or_true, eq_self, Option.bind_some, List.length_nil, List.length_cons, Nat.reduceAdd, Nat.reduceLeDiff, Nat.zero_le, ↓reduceIte, Int.reduceLT, Int.reduceEq, Int.reduceLE, Int.reduceNeg, Int.reduceAdd, Int.reduceMul, Int.reduceSub, ne_eq, not_true_eq_false, not_false_eq_true, and_true, true_and, and_false, false_and, c3lt, c3gt, c3eq, Bool.false_eq_true, isK_wr, inA_wr, inR_wr, c1.1, c2.1, f6, c, c1.2.2.1, c2.2.2.1, u1, u2, v1, v2, v3, k1, w1]
theorem cp_children (hp : Shp h) (hr : RRef h.1) (h1 : s1 ∈ S6) (h2 : s2 ∈ S6) (ha : a2 ∈ A7) (hd : s1 + 33 ≤ s2 ∨ s2 + 33 ≤ s1) (as1 : AS s1 a2) (as2 : AS s2 a2) (m : Int) (m12 : m ≤ 12) (N : Nat) (hN : mrd h s1 7 = N) (N12 : N ≤ 4) (n : Nat) : ∀ (i : Nat) (g : AM), i + n = N → CPF h g s2 a2 → CPL h g s1 s2 m → CPC h g s1 s2 i → ∃ g', EV (d + 2) 51 33 [(2, s2), (2, s1), (0, (i : Int))] [] g = EV (d + 2) 51 62 [(2, s2), (2, s1), (0, (N : Int))] [] g' ∧ CPF h g' s2 a2 ∧ CPL h g' s1 s2 m ∧ CPC h g' s1 s2 N := by
  induction n with
  | zero =>
    intro i g hi hf hl hc
    have e : i = N := by omega
    subst e
    have c1 := CS_of (Shp_eq hf.1 hp) (RRef_WC h2 ha hf.2 hr) h1
    have f6 : mrd g s1 7 = i := by rw [hf.2 _ _ (by unfold WC AS at *; omega)]; exact hN
    refine ⟨g, ?_, hf, hl, hc⟩
    rw [e51_33]
    simp only [e51_0, e51_1, e51_2, e51_3, e51_4, e51_7, e51_10, e51_11, e51_14, e51_15, e51_16, e51_17, e51_20, e51_21, e51_22, e51_25, e51_28, e51_31, e51_32, e51_34, e51_35, e51_38, e51_41, e51_42, e51_45, e51_46, e51_47, e51_48, e51_51, e51_52, e51_53, e51_56, e51_59, e51_63, e51_66, e51_67, e51_70, e51_73, e51_74, e51_75, e51_78, e51_81, e51_82, e51_83, e51_86, e51_89, e51_90, e51_91, e51_94, e51_97, e51_98, e51_99, e51_102, e51_105, psh0, psh1, psh3, true_or, or_true, eq_self, Option.bind_some, List.length_nil, List.length_cons, Nat.reduceAdd, Nat.reduceLeDiff, Nat.zero_le, ↓reduceIte, Int.reduceLT, Int.reduceEq, Int.reduceLE, Int.reduceNeg, Int.reduceAdd, Int.reduceMul, Int.reduceSub, ne_eq, not_true_eq_false, not_false_eq_true, and_true, true_and, and_false, false_and, c3lt, c3gt, c3eq, Bool.false_eq_true, isK_wr, inA_wr, inR_wr, c1.1, f6, Int.lt_irrefl]
  | succ n ih =>
    intro i g hi hf hl hc
    have c : (i : Int) < N := by omega
    have c1 := CS_of (Shp_eq hf.1 hp) (RRef_WC h2 ha hf.2 hr) h1
    have c2 := CS_of (Shp_eq hf.1 hp) (RRef_WC h2 ha hf.2 hr) h2
    have f6 : mrd g s1 7 = N := by rw [hf.2 _ _ (by unfold WC AS at *; omega)]; exact hN
    obtain ⟨u1, u2, u3, u4, u5, u6⟩ := c1.2.2.2.2.2.2.2.2.2.2.2.2 i (by omega) (by omega)
    obtain ⟨v1, v2, v3, v4, v5, v6⟩ := c2.2.2.2.2.2.2.2.2.2.2.2.2 i (by omega) (by omega)
    have eu : s1 + 26 + 2 * (i : Int) = s1 + 25 + 2 * i + 1 := by omega
    have ev : s2 + 26 + 2 * (i : Int) = s2 + 25 + 2 * i + 1 := by omega
    rw [eu] at u4 u5 u6
    rw [ev] at v4 v5 v6
    have fs : ∀ q, mrd g (s1 + 25 + 2 * i) q = mrd h (s1 + 25 + 2 * i) q := fun q => hf.2 _ _ (by unfold WC AS at *; omega)
    have ft : ∀ q, mrd g (s1 + 25 + 2 * i + 1) q = mrd h (s1 + 25 + 2 * i + 1) q := fun q => hf.2 _ _ (by unfold WC AS at *; omega)
    obtain ⟨g1, k1, k2, k3, k4, k5, k6⟩ := x_ccopy (d := d) v3 u3 v4 u4 v5 u5 v6 u6 (by omega)
    have w1 : w32 ((i : Int) + 1) = ((i + 1 : Nat) : Int) := by rw [w32_id (by omega) (by omega)]; omega
    obtain ⟨g', z1, z2, z3, z4⟩ := ih (i + 1) g1 (by omega) ⟨k2.trans hf.1, fun b q hw => by
      by_cases e : b = s2 + 25 + 2 * i
      · have q0 : q = 0 := by unfold WC at hw; omega
        rw [q0, e, k4, ← e, ← q0]
        exact hf.2 b q hw
      · rw [k3 b q e (by unfold WC at hw; omega)]
        exact hf.2 b q hw⟩ (fun l l0 l1 q q0 q1 => by
        rw [k3 _ _ (by omega) (by omega)]
        exact hl l l0 l1 q q0 q1) (fun k k0' k1' => by
      by_cases e : k = i
      · rw [e, eu, ev]
        exact ⟨fun q q0 q1 => by rw [k5 q q0 q1, fs], fun q q0 q1 => by rw [k6 q q0 q1, ft]⟩
      · refine ⟨fun q q0 q1 => ?_, fun q q0 q1 => ?_⟩
        · rw [k3 _ _ (by omega) (by omega)]
          exact (hc k k0' (by omega)).1 q q0 q1
        · rw [k3 _ _ (by omega) (by omega)]
          exact (hc k k0' (by omega)).2 q q0 q1)
    refine ⟨g', ?_, z2, z3, z4⟩
    rw [← z1, e51_33]
    simp only [e51_0, e51_1, e51_2, e51_3, e51_4, e51_7, e51_10, e51_11, e51_14, e51_15, e51_16, e51_17, e51_20, e51_21, e51_22, e51_25, e51_28, e51_31, e51_32, e51_34, e51_35, e51_38, e51_41, e51_42, e51_45, e51_46, e51_47, e51_48, e51_51, e51_52, e51_53, e51_56, e51_59, e51_63, e51_66, e51_67, e51_70, e51_73, e51_74, e51_75, e51_78, e51_81, e51_82, e51_83, e51_86, e51_89, e51_90, e51_91, e51_94, e51_97, e51_98, e51_99, e51_102, e51_105, psh0, psh1, psh3, true_or, or_true, eq_self, Option.bind_some, List.length_nil, List.length_cons, Nat.reduceAdd, Nat.reduceLeDiff, Nat.zero_le, ↓reduceIte, Int.reduceLT, Int.reduceEq, Int.reduceLE, Int.reduceNeg, Int.reduceAdd, Int.reduceMul, Int.reduceSub, ne_eq, not_true_eq_false, not_false_eq_true, and_true, true_and, and_false, false_and, c3lt, c3gt, c3eq, Bool.false_eq_true, isK_wr, inA_wr, inR_wr, c1.1, c2.1, f6, c, c1.2.2.2.1, c2.2.2.2.1, u1, u2, v1, v2, v3, k1, w1]
theorem x_copyFrom (hp : Shp h) (hr : RRef h.1) (h1 : s1 ∈ S6) (h2 : s2 ∈ S6) (e1 : mrd h s1 4 = a1) (e2 : mrd h s2 4 = a2) (ha1 : a1 ∈ A7) (ha : a2 ∈ A7) (hd : s1 + 33 ≤ s2 ∨ s2 + 33 ≤ s1) (hna : a2 ≠ a1) (as1 : AS s1 a2) (as2 : AS s2 a2) (as3 : AS s1 a1) (as4 : AS s2 a1) (b6 : 0 ≤ mrd h s1 6 ∧ mrd h s1 6 ≤ 12) (b7 : 0 ≤ mrd h s1 7 ∧ mrd h s1 7 ≤ 4) (hv : ∀ l, 0 ≤ l → l < mrd h s1 6 → mrd h (s1 + 13 + l) 2 = 0 ∨ mrd h (s1 + 13 + l) 2 = 1) (hg : mrd h a1 6 = 0 ∨ mrd h a1 6 = 1) : ∃ g, EV (d + 2) 51 0 [(2, s2), (2, s1), (3, 0)] [] h = some ((3, 0), g) ∧ CPY h g s1 s2 a1 a2 := by
  obtain ⟨N, hN⟩ : ∃ N : Nat, mrd h s1 6 = N := ⟨(mrd h s1 6).toNat, by omega⟩
  obtain ⟨K, hK⟩ : ∃ K : Nat, mrd h s1 7 = K := ⟨(mrd h s1 7).toNat, by omega⟩
  have hda : a1 + 6 < a2 ∨ a2 + 6 < a1 := by
    have : ∀ r ∈ A7, ∀ p ∈ A7, r ≠ p → p + 6 < r ∨ r + 6 < p := by decide +kernel
    exact this a2 ha a1 ha1 hna
  obtain ⟨g1, x1, x2, x3⟩ := cp_lessons (d := d + 1) hp hr h1 h2 ha hd as1 as2 N hN (by omega) (fun l l0 l1 => hv l l0 (by omega)) N 0 h (by omega) ⟨rfl, fun _ _ _ => rfl⟩ (fun l l0 l1 => absurd l1 (by omega))
  obtain ⟨g2, y1, y2, y3, y4⟩ := cp_children (d := d) hp hr h1 h2 ha hd as1 as2 N (by omega) K hK (by omega) K 0 g1 (by omega) x2 x3 (fun l l0 l1 => absurd l1 (by omega))
  have c1 := CS_of (Shp_eq y2.1 hp) (RRef_WC h2 ha y2.2 hr) h1
  have c2 := CS_of (Shp_eq y2.1 hp) (RRef_WC h2 ha y2.2 hr) h2
  have f1 : ∀ q, mrd g2 s1 q = mrd h s1 q := fun q => y2.2 _ _ (by unfold WC AS at *; omega)
  have f2 : mrd g2 s2 4 = a2 := by rw [y2.2 _ _ (by unfold WC AS at *; omega)]; exact e2
  have f3 : ∀ j q, 0 ≤ j → j ≤ 5 → mrd g2 (a1 + j) q = mrd h (a1 + j) q := fun j q j0 j1 => y2.2 _ _ (by unfold WC AS at *; omega)
  have f30 : ∀ q, mrd g2 a1 q = mrd h a1 q := fun q => by
    have := f3 0 q (by decide) (by decide)
    rwa [Int.add_zero] at this
  obtain ⟨g3, k1, k2, k3, k4, k5⟩ := x_acopy (d := d) (Shp_eq y2.1 hp) (RRef_WC h2 ha y2.2 hr) ha ha1 hna (by rw [f30]; exact hg)
  have kk : ∀ r c, isK g3 r c ↔ isK g2 r c := fun r c => isK_eq k2
  have t4 : mrd g2 s1 4 = a1 := by rw [f1]; exact e1
  have t1 : ∀ q, mrd g3 s1 q = mrd h s1 q := fun q => by rw [k3 _ _ (by unfold AS at *; omega) (by unfold AS at *; omega)]; exact f1 q
  have n12 : s1 ≠ s2 := by omega
  refine ⟨mwr (mwr (mwr (mwr g3 s2 5 (mrd h s1 5)) s2 6 (mrd h s1 6)) s2 7 (mrd h s1 7)) s2 8 (mrd h s1 8), ?_, ⟨k2.trans y2.1, fun b q hw => ?_⟩, fun q q0 q1 => ?_, fun l l0 l1 q q0 q1 => ?_, fun k k0 k1' => ⟨fun q q0 q1 => ?_, fun q q0 q1 => ?_⟩, ⟨?_, ?_⟩, fun j j0 j1 q q0 q1 => ?_⟩
  · rw [e51_0, e51_1]
    refine Eq.trans x1 (Eq.trans y1 ?_)
    rw [e51_62]
    simp only [e51_0, e51_1, e51_3, e51_4, e51_7, e51_10, e51_11, e51_14, e51_15, e51_16, e51_17, e51_20, e51_21, e51_22, e51_25, e51_28, e51_31, e51_32, e51_34, e51_35, e51_38, e51_41, e51_42, e51_45, e51_46, e51_47, e51_48, e51_51, e51_52, e51_53, e51_56, e51_59, e51_63, e51_66, e51_67, e51_70, e51_73, e51_74, e51_75, e51_78, e51_81, e51_82, e51_83, e51_86, e51_89, e51_90, e51_91, e51_94, e51_97, e51_98, e51_99, e51_102, e51_105, psh0, psh1, psh3, true_or, or_true, eq_self, Option.bind_some, List.length_nil, List.length_cons, Nat.reduceAdd, Nat.reduceLeDiff, Nat.zero_le, ↓reduceIte, Int.reduceLT, Int.reduceEq, Int.reduceLE, Int.reduceNeg, Int.reduceAdd, Int.reduceMul, Int.reduceSub, ne_eq, not_true_eq_false, not_false_eq_true, and_true, true_and, and_false, false_and, c3lt, c3gt, c3eq, Bool.false_eq_true, isK_wr, inA_wr, inR_wr, c1.1, c2.1, f2, t4, (a7_K (Shp_eq y2.1 hp) ha).1, k1, kk, rdn1 n12, t1]
  · have hw' := hw
    unfold WC at hw'
    rw [rd_wr, if_neg (by omega), rd_wr, if_neg (by omega), rd_wr, if_neg (by omega), rd_wr, if_neg (by omega), k3 _ _ (by omega) (by omega)]
    exact y2.2 b q hw
  · rcases (show q = 5 ∨ q = 6 ∨ q = 7 ∨ q = 8 by omega) with rfl | rfl | rfl | rfl <;> simp [rd_wr]
  · rw [rdn1 (by omega), rdn1 (by omega), rdn1 (by omega), rdn1 (by omega), k3 _ _ (by unfold AS at *; omega) (by unfold AS at *; omega)]
    exact y3 l l0 (by omega) q q0 q1
  · rw [rdn1 (by omega), rdn1 (by omega), rdn1 (by omega), rdn1 (by omega), k3 _ _ (by unfold AS at *; omega) (by unfold AS at *; omega)]
    exact (y4 k k0 (by omega)).1 q q0 q1
  · rw [rdn1 (by omega), rdn1 (by omega), rdn1 (by omega), rdn1 (by omega), k3 _ _ (by unfold AS at *; omega) (by unfold AS at *; omega)]
    exact (y4 k k0 (by omega)).2 q q0 q1
  · have n : a2 ≠ s2 := by unfold AS at *; omega
    rw [rdn1 n, rdn1 n, rdn1 n, rdn1 n, k4.1, f30]
  · have n : a2 ≠ s2 := by unfold AS at *; omega
    rw [rdn1 n, rdn1 n, rdn1 n, rdn1 n, k4.2, f30]
  · have n : a2 + j ≠ s2 := by unfold AS at *; omega
    rw [rdn1 n, rdn1 n, rdn1 n, rdn1 n, k5 j j0 j1 q q0 q1, f3 j q (by omega) j1]
end
