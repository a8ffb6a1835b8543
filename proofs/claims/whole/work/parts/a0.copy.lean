/-! copyName -/
def mff (h : AM) (a i n : Int) (f : Int → Int) : AM := (fun c q => if c = a ∧ i ≤ q ∧ q < i + n then f (q - i) else h.1 c q, h.2)
theorem mff_0 {h : AM} {a i : Int} {f : Int → Int} : mff h a i 0 f = h := by
  refine Prod.ext (funext fun b => funext fun j => ?_) rfl
  show (if b = a ∧ i ≤ j ∧ j < i + 0 then f (j - i) else h.1 b j) = _
  rw [if_neg (by omega)]
theorem mff_s {h : AM} {a i n : Int} {f : Int → Int} (hn : 0 ≤ n) : mwr (mff h a i n f) a (i + n) (f n) = mff h a i (n + 1) f := by
  refine Prod.ext (funext fun b => funext fun j => ?_) rfl
  show (if b = a ∧ j = i + n then f n else if b = a ∧ i ≤ j ∧ j < i + n then f (j - i) else h.1 b j) = if b = a ∧ i ≤ j ∧ j < i + (n + 1) then f (j - i) else h.1 b j
  by_cases c : b = a ∧ j = i + n
  · rw [if_pos c, if_pos (by omega), c.2, show i + n - i = n by omega]
  · rw [if_neg c]
    by_cases c2 : b = a ∧ i ≤ j ∧ j < i + n
    · rw [if_pos c2, if_pos (by omega)]
    · rw [if_neg c2, if_neg (by omega)]
theorem rd_ff {h : AM} {a i n b j : Int} {f : Int → Int} : mrd (mff h a i n f) b j = if b = a ∧ i ≤ j ∧ j < i + n then f (j - i) else mrd h b j := rfl
theorem rdff {h : AM} {a i n b j : Int} {f : Int → Int} (hb : b ≠ a) : mrd (mff h a i n f) b j = mrd h b j := by rw [rd_ff, if_neg (fun z => hb z.1)]
theorem isK_ff {h : AM} {a i n r : Int} {f : Int → Int} {c : Nat} : isK (mff h a i n f) r c ↔ isK h r c := Iff.rfl
theorem inA_ff {h : AM} {a i n r j : Int} {f : Int → Int} {c : Nat} : inA (mff h a i n f) r c j ↔ inA h r c j := Iff.rfl
theorem RRef_ffA {h : AM} {a i n : Int} {f : Int → Int} (hn : refT.all (fun q => !(q.1 == a)) = true) (hr : RRef h.1) : RRef (mff h a i n f).1 := fun q hq => by
  have := List.all_eq_true.mp hn q hq
  rw [← hr q hq]
  show (if q.1 = a ∧ i ≤ q.2.1 ∧ q.2.1 < i + n then f (q.2.1 - i) else h.1 q.1 q.2.1) = _
  rw [if_neg]
  rintro ⟨z1, z2⟩
  simp [z1] at this
theorem CM_ffA {h : AM} {a i n : Int} {f : Int → Int} (hn : refT.all (fun q => !(q.1 == a)) = true) (hm : CM h) : CM (mff h a i n f) := ⟨hm.1, hm.2.1, RRef_ffA hn hm.2.2⟩
theorem FrE_ff {ob : List Int} {ce : List (Int × Int)} {n w : Int} {m : Int → Int → Int} {h : AM} {a i k : Int} {f : Int → Int} (hs : a ∈ ob) (hf : FrE ob ce n w m h.1) : FrE ob ce n w m (mff h a i k f).1 := fun b j hb hx => by
  show (if b = a ∧ i ≤ j ∧ j < i + k then f (j - i) else h.1 b j) = _
  rw [if_neg]
  · exact hf b j hb hx
  · rintro ⟨rfl, z⟩
    exact hx (Or.inl hs)
/-- DS sees the school and the row of blocks alone -/
theorem DS_congr {h h' : AM} {s : Int} (e4 : ∀ i, mrd h' 240 i = mrd h 240 i) (e0 : ∀ a i, s ≤ a → a ≤ s + 32 → mrd h' a i = mrd h a i) (hd : DS h s) : DS h' s := by
  obtain ⟨d5, d6, d7, d8, dl, dc⟩ := hd
  unfold DS
  simp only [e4, e0 s _ (Int.le_refl _) (by omega)]
  refine ⟨d5, d6, d7, d8, fun l l0 l1 => ?_, fun k k0 k1 => ?_⟩
  · have := dl l l0 l1
    unfold DLes at this ⊢
    simp only [e4, e0 (s + 13 + l) _ (by omega) (by omega)]
    exact this
  · have := dc k k0 k1
    unfold DChi at this ⊢
    simp only [e4, e0 (s + 25 + 2 * k) _ (by omega) (by omega), e0 (s + 26 + 2 * k) _ (by omega) (by omega)]
    exact this
theorem MC_congr {h h' : AM} {k : Int} (e4 : ∀ i, mrd h' 240 i = mrd h 240 i) (hd : MC h k) : MC h' k := by
  unfold MC at hd ⊢
  simp only [e4]
  exact hd
theorem LT_congr {h h' : AM} {k p : Int} (e4 : ∀ i, mrd h' 240 i = mrd h 240 i) : LT h' k p = LT h k p := by
  unfold LT
  simp only [e4]
theorem w8_small : ∀ n, n < 27 → w8 (w32 ((n : Nat) : Int)) = n ∧ w16 (w32 ((n : Nat) : Int)) = n := by decide +kernel
theorem cut_small {so x : Int} (h0 : 0 ≤ x) (h1 : x ≤ 26) : cutF so x = x := by
  obtain ⟨n, rfl⟩ := Int.eq_ofNat_of_zero_le h0
  have := w8_small n (by omega)
  unfold cutF
  split
  · exact this.1
  · split
    · exact this.2
    · split
      · exact w32_id (by omega) (by omega)
      · rfl
theorem LT_rng {h : AM} {s k p : Int} (ds : DS h s) (k0 : 0 ≤ k) (k1 : k < mrd h 240 2) (p0 : 0 ≤ p) (p1 : p < mrd h 240 (76 + k)) : 1 ≤ LT h k p ∧ LT h k p ≤ 26 := by
  obtain ⟨d5, d6, d7, d8, dl, dc⟩ := ds
  obtain ⟨q1, q2, q3, q4, q5, q6, q7⟩ := dc k k0 k1
  obtain ⟨e1, e2, e3⟩ := q5 p p0 p1
  exact (dl _ e2 e3).1.2
section
variable {d : Nat} {h : AM} {s a b c k p t u i j v w x y z : Int}
theorem x_copy_loop (hI : Inv h) (e8 : mrd h 0 8 = s) (hs : s = 162 ∨ s = 195) (cs : CS h s) (ds : DS h s) (t0 : 0 ≤ t) (t1 : t < 4) (s0 : 0 ≤ mrd h (2 + 2 * t) 2) (k0 : 0 ≤ k) (k1 : k < mrd h 240 2) (N : Nat) (hN : mrd h 240 (76 + k) = N) (n : Nat) : ∀ i : Nat, i + n = N → EV (d + 1) 120 82 [(2, 0), (0, k), (0, t), (2, 2 + 2 * t), (2, s + 25 + 2 * k), (0, (i : Int))] [] (mff h (3 + 2 * t) 0 i (LT h k)) = some ((0, (N : Int)), mwr (mff h (3 + 2 * t) 0 N (LT h k)) 0 11 0) := by
  have kx : isK h 0 10 := kn_0 hI.1
  have d7 := ds.2.2.1
  obtain ⟨qa1, qa2, qa3, qa4, qa5, qa6, qa7⟩ := ds.2.2.2.2.2 k k0 k1
  obtain ⟨ta1, ta2, ta3, ta4, ta5, ta6⟩ := cs.2.2.2.2.2.2.2.2.2.2.2.2 k k0 (by omega)
  have hct := CT_of hI.1 hI.2.1.1 t0 t1
  obtain ⟨q1, q2, q3, q4, q5, q6⟩ := id hct
  obtain ⟨tn1, tn2⟩ := trO_n t0 t1
  have hn : ∀ b j n, b ≠ 3 + 2 * t → mrd (mff h (3 + 2 * t) 0 n (LT h k)) b j = mrd h b j := fun b j n hb => rdff hb
  have n1 : ∀ j n, mrd (mff h (3 + 2 * t) 0 n (LT h k)) 0 j = mrd h 0 j := fun j n => hn 0 j n (by omega)
  have n2 : ∀ j n, mrd (mff h (3 + 2 * t) 0 n (LT h k)) (s + 25 + 2 * k) j = mrd h (s + 25 + 2 * k) j := fun j n => hn _ j n (by omega)
  have n3 : ∀ j n, mrd (mff h (3 + 2 * t) 0 n (LT h k)) (2 + 2 * t) j = mrd h (2 + 2 * t) j := fun j n => hn _ j n (by omega)
  have ctm : ∀ n, CT (mff h (3 + 2 * t) 0 n (LT h k)) t := fun n => ⟨q1, by rw [hn 1 _ n (by omega)]; exact q2, q3, by rw [n3]; exact q4, q5, q6⟩
  have csm : ∀ n, CS (mff h (3 + 2 * t) 0 n (LT h k)) s := fun n => CS_of hI.1 (RRef_ffA tn2 hI.2.1.1) (S6_cur hs)
  have e4 : ∀ n i, mrd (mff h (3 + 2 * t) 0 n (LT h k)) 240 i = mrd h 240 i := fun n i => hn 240 i n (by omega)
  have dsm : ∀ n, DS (mff h (3 + 2 * t) 0 n (LT h k)) s := fun n => DS_congr (e4 n) (fun a i h0 h1 => hn a i n (by omega)) ds
  induction n with
  | zero =>
    intro i hi
    have e : i = N := by omega
    subst e
    rw [e120_82]
    simp only [e120_0, e120_1, e120_4, e120_7, e120_8, e120_9, e120_12, e120_13, e120_14, e120_17, e120_18, e120_19, e120_20, e120_21, e120_24, e120_27, e120_28, e120_29, e120_32, e120_33, e120_34, e120_37, e120_38, e120_41, e120_44, e120_45, e120_46, e120_49, e120_50, e120_51, e120_54, e120_57, e120_58, e120_59, e120_61, e120_63, e120_66, e120_67, e120_70, e120_73, e120_74, e120_75, e120_78, e120_79, e120_80, e120_84, e120_86, e120_89, e120_92, e120_93, e120_95, e120_96, e120_99, e120_101, e120_103, e120_106, e120_107, e120_110, e120_113, e120_116, e120_117, e120_119, e120_122, e120_125, psh0, psh1, psh3, true_or, or_true, eq_self, Option.bind_some, List.length_nil, List.length_cons, Nat.reduceAdd, Nat.reduceLeDiff, Nat.zero_le, ↓reduceIte, Int.reduceLT, Int.reduceEq, Int.reduceLE, Int.reduceNeg, Int.reduceAdd, Int.reduceMul, Int.reduceSub, ne_eq, not_true_eq_false, not_false_eq_true, and_true, true_and, and_false, false_and, c3lt, c3gt, c3eq, Bool.false_eq_true, isK_wr, inA_wr, inR_wr, isK_ff, ta3, n2, qa4.1, hN, Int.lt_irrefl, kx, x_answer]
  | succ n ih =>
    intro i hi
    have c : (i : Int) < N := by omega
    have w1 : w32 ((i : Int) + 1) = ((i + 1 : Nat) : Int) := by rw [w32_id (by omega) (by omega)]; omega
    have g1 := x_letter (d := d) (c := k) (p := i) (csm i) (dsm i) k0 (by rw [e4]; exact k1) (by omega) (by rw [e4]; omega)
    rw [LT_congr (e4 i)] at g1
    have lr := LT_rng ds k0 k1 (show 0 ≤ (i : Int) by omega) (by omega)
    have g2 := x_put (d := d) (p := i) (v := LT h k i) (ctm i) (by rw [n3]; exact s0) (by omega) (by omega)
    rw [cut_small (by omega) (by omega)] at g2
    have e := mff_s (h := h) (a := 3 + 2 * t) (i := 0) (n := i) (f := LT h k) (by omega)
    rw [Int.zero_add] at e
    rw [e] at g2
    rw [e120_82]
    simp only [e120_0, e120_1, e120_4, e120_7, e120_8, e120_9, e120_12, e120_13, e120_14, e120_17, e120_18, e120_19, e120_20, e120_21, e120_24, e120_27, e120_28, e120_29, e120_32, e120_33, e120_34, e120_37, e120_38, e120_41, e120_44, e120_45, e120_46, e120_49, e120_50, e120_51, e120_54, e120_57, e120_58, e120_59, e120_61, e120_63, e120_66, e120_67, e120_70, e120_73, e120_74, e120_75, e120_78, e120_79, e120_80, e120_84, e120_86, e120_89, e120_92, e120_93, e120_95, e120_96, e120_99, e120_101, e120_103, e120_106, e120_107, e120_110, e120_113, e120_116, e120_117, e120_119, e120_122, e120_125, psh0, psh1, psh3, true_or, or_true, eq_self, Option.bind_some, List.length_nil, List.length_cons, Nat.reduceAdd, Nat.reduceLeDiff, Nat.zero_le, ↓reduceIte, Int.reduceLT, Int.reduceEq, Int.reduceLE, Int.reduceNeg, Int.reduceAdd, Int.reduceMul, Int.reduceSub, ne_eq, not_true_eq_false, not_false_eq_true, and_true, true_and, and_false, false_and, c3lt, c3gt, c3eq, Bool.false_eq_true, isK_wr, inA_wr, inR_wr, isK_ff, ta3, n1, n2, qa4.1, hN, c, kx, e8, cs.1, q3, g1, g2, w1]
    exact ih (i + 1) (by omega)
theorem m_copy_loop (hm : CM h) (hc : MC h k) (t0 : 0 ≤ t) (t1 : t < 4) (N : Nat) (hN : mrd h 240 (76 + k) = N) (n : Nat) : ∀ i : Nat, i + n = N → EV (d + 2) 250 75 [(2, 235), (0, k), (0, t), (0, (i : Int))] [] (mff h 238 (60 * t) i (LT h k)) = some ((0, (N : Int)), mff h 238 (60 * t) N (LT h k)) := by
  have e4 : ∀ n i, mrd (mff h 238 (60 * t) n (LT h k)) 240 i = mrd h 240 i := fun n i => rdff (by decide)
  have hmm : ∀ n, CM (mff h 238 (60 * t) n (LT h k)) := fun n => CM_ffA rn_38 hm
  have hcm : ∀ n, MC (mff h 238 (60 * t) n (LT h k)) k := fun n => MC_congr (e4 n) hc
  have gl : ∀ d n, EV d 241 0 [(2, 235), (0, k)] [] (mff h 238 (60 * t) n (LT h k)) = some ((0, (N : Int)), mff h 238 (60 * t) n (LT h k)) := fun d n => by rw [m_lengthOf (hmm n) hc.1.1 hc.1.2, e4, hN]
  have m6 : mrd h 235 6 = 238 := rf_235_6 hm.2.2
  have w2 : w32 (60 * t) = 60 * t := w32_id (by omega) (by omega)
  have b12 := hc.2.1
  induction n with
  | zero =>
    intro i hi
    have e : i = N := by omega
    subst e
    rw [e250_75]
    simp only [e250_0, e250_1, e250_2, e250_5, e250_6, e250_7, e250_10, e250_11, e250_12, e250_15, e250_18, e250_19, e250_20, e250_23, e250_24, e250_25, e250_28, e250_29, e250_30, e250_33, e250_34, e250_35, e250_38, e250_39, e250_40, e250_41, e250_44, e250_47, e250_48, e250_49, e250_52, e250_53, e250_54, e250_57, e250_58, e250_59, e250_60, e250_61, e250_64, e250_67, e250_68, e250_69, e250_72, e250_73, e250_74, e250_76, e250_77, e250_78, e250_81, e250_84, e250_85, e250_88, e250_90, e250_91, e250_92, e250_93, e250_94, e250_95, e250_96, e250_97, e250_100, e250_101, e250_102, e250_105, e250_108, e250_109, e250_110, e250_113, psh0, psh1, psh3, true_or, or_true, eq_self, Option.bind_some, List.length_nil, List.length_cons, Nat.reduceAdd, Nat.reduceLeDiff, Nat.zero_le, ↓reduceIte, Int.reduceLT, Int.reduceEq, Int.reduceLE, Int.reduceNeg, Int.reduceAdd, Int.reduceMul, Int.reduceSub, ne_eq, not_true_eq_false, not_false_eq_true, and_true, true_and, and_false, false_and, c3lt, c3gt, c3eq, Bool.false_eq_true, isK_wr, inA_wr, inR_wr, isK_ff, hm.1, gl, Int.lt_irrefl]
  | succ n ih =>
    intro i hi
    have c : (i : Int) < N := by omega
    have w1 : w32 ((i : Int) + 1) = ((i + 1 : Nat) : Int) := by rw [w32_id (by omega) (by omega)]; omega
    have w3 : w32 (60 * t + i) = 60 * t + i := w32_id (by omega) (by omega)
    have g1 := m_letter (d := d) (p := i) (hmm i) (hcm i) (by omega) (by rw [e4]; omega)
    rw [LT_congr (e4 i)] at g1
    have i1 : inA h 238 19 (60 * t + i) := ⟨kn_238 hm.2.1, by omega, by rw [ln_238 hm.2.1]; omega⟩
    have e := mff_s (h := h) (a := 238) (i := 60 * t) (n := i) (f := LT h k) (by omega)
    rw [e250_75]
    simp only [e250_0, e250_1, e250_2, e250_5, e250_6, e250_7, e250_10, e250_11, e250_12, e250_15, e250_18, e250_19, e250_20, e250_23, e250_24, e250_25, e250_28, e250_29, e250_30, e250_33, e250_34, e250_35, e250_38, e250_39, e250_40, e250_41, e250_44, e250_47, e250_48, e250_49, e250_52, e250_53, e250_54, e250_57, e250_58, e250_59, e250_60, e250_61, e250_64, e250_67, e250_68, e250_69, e250_72, e250_73, e250_74, e250_76, e250_77, e250_78, e250_81, e250_84, e250_85, e250_88, e250_90, e250_91, e250_92, e250_93, e250_94, e250_95, e250_96, e250_97, e250_100, e250_101, e250_102, e250_105, e250_108, e250_109, e250_110, e250_113, psh0, psh1, psh3, true_or, or_true, eq_self, Option.bind_some, List.length_nil, List.length_cons, Nat.reduceAdd, Nat.reduceLeDiff, Nat.zero_le, ↓reduceIte, Int.reduceLT, Int.reduceEq, Int.reduceLE, Int.reduceNeg, Int.reduceAdd, Int.reduceMul, Int.reduceSub, ne_eq, not_true_eq_false, not_false_eq_true, and_true, true_and, and_false, false_and, c3lt, c3gt, c3eq, Bool.false_eq_true, isK_wr, inA_wr, inR_wr, isK_ff, inA_ff, hm.1, gl, c, rdff, m6, w1, w2, w3, g1, i1, e]
    exact ih (i + 1) (by omega)
end
set_option maxHeartbeats 1000000 in
theorem op_copyName : Op_copyName Inv := by
  intro d h k t hI b0 b1
  obtain ⟨s, e8, hs, k0, kM, cs, ds⟩ := ctx hI
  have ds' := ds
  have ks := cs.1
  have r1 := cs.2.2.1
  have r2 := cs.2.2.2.1
  have r3 := cs.2.2.2.2.1
  have kl := cs.2.2.2.2.2.2.2.2.2.2.2.1
  have kc := cs.2.2.2.2.2.2.2.2.2.2.2.2
  obtain ⟨d5, d6, d7, d8, dl, dc⟩ := ds
  have hm : ∀ v, CM (mwr (mwr (mwr h 0 11 v) 235 1 0) 235 0 0) := fun v => CM_q (CM_of hI)
  have x0 : mrd h 0 0 = 1 := rf_0_0 hI.2.1.1
  have gt := x_isTray (d := d + 59) (h := h) (c := t)
  have gtm := fun v => m_isTray (d := d + 58) (c := t) (hm v).1
  have m5 : mrd h 235 5 = 237 := rf_235_5 hI.2.1.1
  have hx := x_hasChild_q (d := d + 59) (k := k) ks d7.1
  have hl := fun v => m_isChildAt_q (d := d + 58) (k := k) hI v
  by_cases ct : 0 ≤ t ∧ t < 4
  · rw [if_pos ct] at gt
    have ct3 : 0 ≤ t ∧ t ≤ 3 := by omega
    simp only [if_pos ct3] at gtm
    have hct := CT_of hI.1 hI.2.1.1 ct.1 ct.2
    obtain ⟨q1, q2, q3, q4, q5, q6⟩ := id hct
    have j2 : inA h 237 16 t := ⟨kn_237 hI.1, ct.1, by rw [ln_237 hI.1]; omega⟩
    have rt : RTry (mrd h) t := hI.2.1.2.2.1 t ct.1 ct.2
    rcases rt with ⟨e1, e2⟩ | ⟨e1, e2, e3, e4⟩
    · refine opq hI (-1) 3 ?_ ?_
      · simp only [e120_0, e120_1, e120_4, e120_7, e120_8, e120_9, e120_12, e120_13, e120_14, e120_17, e120_18, e120_19, e120_20, e120_21, e120_24, e120_27, e120_28, e120_29, e120_32, e120_33, e120_34, e120_37, e120_38, e120_41, e120_44, e120_45, e120_46, e120_49, e120_50, e120_51, e120_54, e120_57, e120_58, e120_59, e120_61, e120_63, e120_66, e120_67, e120_70, e120_73, e120_74, e120_75, e120_78, e120_79, e120_80, e120_84, e120_86, e120_89, e120_92, e120_93, e120_95, e120_96, e120_99, e120_101, e120_103, e120_106, e120_107, e120_110, e120_113, e120_116, e120_117, e120_119, e120_122, e120_125, psh0, psh1, psh3, true_or, or_true, eq_self, Option.bind_some, List.length_nil, List.length_cons, Nat.reduceAdd, Nat.reduceLeDiff, Nat.zero_le, ↓reduceIte, Int.reduceLT, Int.reduceEq, Int.reduceLE, Int.reduceNeg, Int.reduceAdd, Int.reduceMul, Int.reduceSub, ne_eq, not_true_eq_false, not_false_eq_true, and_true, true_and, and_false, false_and, c3lt, c3gt, c3eq, Bool.false_eq_true, isK_wr, inA_wr, inR_wr, k0, x0, gt, q1, q2, q3, e1, x_refuse]
      · simp only [e250_0, e250_1, e250_2, e250_5, e250_6, e250_7, e250_10, e250_11, e250_12, e250_15, e250_18, e250_19, e250_20, e250_23, e250_24, e250_25, e250_28, e250_29, e250_30, e250_33, e250_34, e250_35, e250_38, e250_39, e250_40, e250_41, e250_44, e250_47, e250_48, e250_49, e250_52, e250_53, e250_54, e250_57, e250_58, e250_59, e250_60, e250_61, e250_64, e250_67, e250_68, e250_69, e250_72, e250_73, e250_74, e250_76, e250_77, e250_78, e250_81, e250_84, e250_85, e250_88, e250_90, e250_91, e250_92, e250_93, e250_94, e250_95, e250_96, e250_97, e250_100, e250_101, e250_102, e250_105, e250_108, e250_109, e250_110, e250_113, psh0, psh1, psh3, true_or, or_true, eq_self, Option.bind_some, List.length_nil, List.length_cons, Nat.reduceAdd, Nat.reduceLeDiff, Nat.zero_le, ↓reduceIte, Int.reduceLT, Int.reduceEq, Int.reduceLE, Int.reduceNeg, Int.reduceAdd, Int.reduceMul, Int.reduceSub, ne_eq, not_true_eq_false, not_false_eq_true, and_true, true_and, and_false, false_and, c3lt, c3gt, c3eq, Bool.false_eq_true, isK_wr, inA_wr, inR_wr, kM, gtm, rdq5, rdq, m5, j2, e2, m_refuse, wrwr]
    have n3 : ¬ mrd h 237 t < 0 := by omega
    by_cases hc : 0 ≤ k ∧ k < mrd h 240 2
    · simp only [hc, and_self, if_true] at hl hx
      obtain ⟨t1, t2, t3, t4, t5, t6⟩ := kc k hc.1 (by omega)
      obtain ⟨p1, p2, p3, p4, p5, p6, p7⟩ := dc k hc.1 hc.2
      have mc := MC_of ds' hc.1 hc.2
      by_cases cl : mrd h 237 t < mrd h 240 (76 + k)
      · refine opq hI (-1) 4 ?_ ?_
        · simp only [e120_0, e120_1, e120_4, e120_7, e120_8, e120_9, e120_12, e120_13, e120_14, e120_17, e120_18, e120_19, e120_20, e120_21, e120_24, e120_27, e120_28, e120_29, e120_32, e120_33, e120_34, e120_37, e120_38, e120_41, e120_44, e120_45, e120_46, e120_49, e120_50, e120_51, e120_54, e120_57, e120_58, e120_59, e120_61, e120_63, e120_66, e120_67, e120_70, e120_73, e120_74, e120_75, e120_78, e120_79, e120_80, e120_84, e120_86, e120_89, e120_92, e120_93, e120_95, e120_96, e120_99, e120_101, e120_103, e120_106, e120_107, e120_110, e120_113, e120_116, e120_117, e120_119, e120_122, e120_125, psh0, psh1, psh3, true_or, or_true, eq_self, Option.bind_some, List.length_nil, List.length_cons, Nat.reduceAdd, Nat.reduceLeDiff, Nat.zero_le, ↓reduceIte, Int.reduceLT, Int.reduceEq, Int.reduceLE, Int.reduceNeg, Int.reduceAdd, Int.reduceMul, Int.reduceSub, ne_eq, not_true_eq_false, not_false_eq_true, and_true, true_and, and_false, false_and, c3lt, c3gt, c3eq, Bool.false_eq_true, isK_wr, inA_wr, inR_wr, k0, x0, e8, ks, r2, gt, q1, q2, q3, e1, hx, t1, t2, t3, p4.1, e3.1, cl, x_refuse]
        · simp only [e250_0, e250_1, e250_2, e250_5, e250_6, e250_7, e250_10, e250_11, e250_12, e250_15, e250_18, e250_19, e250_20, e250_23, e250_24, e250_25, e250_28, e250_29, e250_30, e250_33, e250_34, e250_35, e250_38, e250_39, e250_40, e250_41, e250_44, e250_47, e250_48, e250_49, e250_52, e250_53, e250_54, e250_57, e250_58, e250_59, e250_60, e250_61, e250_64, e250_67, e250_68, e250_69, e250_72, e250_73, e250_74, e250_76, e250_77, e250_78, e250_81, e250_84, e250_85, e250_88, e250_90, e250_91, e250_92, e250_93, e250_94, e250_95, e250_96, e250_97, e250_100, e250_101, e250_102, e250_105, e250_108, e250_109, e250_110, e250_113, psh0, psh1, psh3, true_or, or_true, eq_self, Option.bind_some, List.length_nil, List.length_cons, Nat.reduceAdd, Nat.reduceLeDiff, Nat.zero_le, ↓reduceIte, Int.reduceLT, Int.reduceEq, Int.reduceLE, Int.reduceNeg, Int.reduceAdd, Int.reduceMul, Int.reduceSub, ne_eq, not_true_eq_false, not_false_eq_true, and_true, true_and, and_false, false_and, c3lt, c3gt, c3eq, Bool.false_eq_true, isK_wr, inA_wr, inR_wr, kM, gtm, rdq5, rdq, m5, j2, n3, hl, m_lengthOf (hm 4) hc.1 (show k < 4 by omega), cl, m_refuse, wrwr]
      · obtain ⟨N, hN⟩ : ∃ N : Nat, mrd h 240 (76 + k) = N := ⟨(mrd h 240 (76 + k)).toNat, by omega⟩
        have gx := x_copy_loop (d := d + 59) hI e8 hs cs ds' ct.1 ct.2 (by omega) hc.1 hc.2 N hN N 0 (by omega)
        rw [show ((0 : Nat) : Int) = 0 from rfl, mff_0] at gx
        obtain ⟨tn1, tn2⟩ := trO_n ct.1 ct.2
        obtain ⟨m1, hm1⟩ : ∃ m1, m1 = mff h (3 + 2 * t) 0 N (LT h k) := ⟨_, rfl⟩
        rw [← hm1] at gx
        have cm1 : CM m1 := by rw [hm1]; exact CM_ffA tn2 (CM_of hI)
        have r1' : ∀ b q, b ≠ 3 + 2 * t → mrd m1 b q = mrd h b q := fun b q hb => by rw [hm1]; exact rdff hb
        have cm2 : CM (mwr (mwr (mwr m1 0 11 0) 235 1 0) 235 0 0) := CM_q cm1
        have z40 : ∀ q, mrd m1 240 q = mrd h 240 q := fun q => r1' 240 q (by omega)
        have z37 : ∀ q, mrd m1 237 q = mrd h 237 q := fun q => r1' 237 q (by omega)
        have z40' : ∀ q, mrd (mwr (mwr (mwr m1 0 11 0) 235 1 0) 235 0 0) 240 q = mrd h 240 q := fun q => by rw [rdq (by decide) (by decide)]; exact z40 q
        have mc' : MC (mwr (mwr (mwr m1 0 11 0) 235 1 0) 235 0 0) k := MC_congr z40' mc
        have y5 : mrd m1 235 5 = 237 := rf_235_5 cm1.2.2
        have jj : ∀ a c q, inA m1 a c q ↔ inA h a c q := fun a c q => by rw [hm1]; exact inA_ff
        have gm := m_copy_loop (d := d + 58) cm2 mc' ct.1 ct.2 N (by rw [z40', hN]) N 0 (by omega)
        rw [show ((0 : Nat) : Int) = 0 from rfl, mff_0] at gm
        have eL : LT (mwr (mwr (mwr m1 0 11 0) 235 1 0) 235 0 0) k = LT h k := funext fun p => LT_congr z40'
        rw [eL] at gm
        have gtm' := m_isTray (d := d + 58) (c := t) cm2.1
        rw [if_pos ct3] at gtm'
        have hl' : EV (d + 59) 240 0 [(2, 235), (0, k)] [] (mwr (mwr (mwr m1 0 11 0) 235 1 0) 235 0 0) = some ((0, 1), mwr (mwr (mwr m1 0 11 0) 235 1 0) 235 0 0) := by
          rw [m_isChildAt cm2 (by rw [z40']; omega), z40', if_pos (by omega)]
        have gl' : EV (d + 59) 241 0 [(2, 235), (0, k)] [] (mwr (mwr (mwr m1 0 11 0) 235 1 0) 235 0 0) = some ((0, mrd h 240 (76 + k)), mwr (mwr (mwr m1 0 11 0) 235 1 0) 235 0 0) := by
          rw [m_lengthOf cm2 hc.1 (by omega), z40']
        refine ⟨N, mwr m1 0 11 0, mff (mwr (mwr (mwr m1 0 11 0) 235 1 0) 235 0 0) 238 (60 * t) N (LT h k), ?_, ?_, ?_⟩
        · simp only [e120_0, e120_1, e120_4, e120_7, e120_8, e120_9, e120_12, e120_13, e120_14, e120_17, e120_18, e120_19, e120_20, e120_21, e120_24, e120_27, e120_28, e120_29, e120_32, e120_33, e120_34, e120_37, e120_38, e120_41, e120_44, e120_45, e120_46, e120_49, e120_50, e120_51, e120_54, e120_57, e120_58, e120_59, e120_61, e120_63, e120_66, e120_67, e120_70, e120_73, e120_74, e120_75, e120_78, e120_79, e120_80, e120_84, e120_86, e120_89, e120_92, e120_93, e120_95, e120_96, e120_99, e120_101, e120_103, e120_106, e120_107, e120_110, e120_113, e120_116, e120_117, e120_119, e120_122, e120_125, psh0, psh1, psh3, true_or, or_true, eq_self, Option.bind_some, List.length_nil, List.length_cons, Nat.reduceAdd, Nat.reduceLeDiff, Nat.zero_le, ↓reduceIte, Int.reduceLT, Int.reduceEq, Int.reduceLE, Int.reduceNeg, Int.reduceAdd, Int.reduceMul, Int.reduceSub, ne_eq, not_true_eq_false, not_false_eq_true, and_true, true_and, and_false, false_and, c3lt, c3gt, c3eq, Bool.false_eq_true, isK_wr, inA_wr, inR_wr, k0, x0, e8, ks, r2, gt, q1, q2, q3, e1, hx, t1, t2, t3, p4.1, e3.1, cl]
          exact gx
        · simp only [e250_0, e250_1, e250_2, e250_5, e250_6, e250_7, e250_10, e250_11, e250_12, e250_15, e250_18, e250_19, e250_20, e250_23, e250_24, e250_25, e250_28, e250_29, e250_30, e250_33, e250_34, e250_35, e250_38, e250_39, e250_40, e250_41, e250_44, e250_47, e250_48, e250_49, e250_52, e250_53, e250_54, e250_57, e250_58, e250_59, e250_60, e250_61, e250_64, e250_67, e250_68, e250_69, e250_72, e250_73, e250_74, e250_76, e250_77, e250_78, e250_81, e250_84, e250_85, e250_88, e250_90, e250_91, e250_92, e250_93, e250_94, e250_95, e250_96, e250_97, e250_100, e250_101, e250_102, e250_105, e250_108, e250_109, e250_110, e250_113, psh0, psh1, psh3, true_or, or_true, eq_self, Option.bind_some, List.length_nil, List.length_cons, Nat.reduceAdd, Nat.reduceLeDiff, Nat.zero_le, ↓reduceIte, Int.reduceLT, Int.reduceEq, Int.reduceLE, Int.reduceNeg, Int.reduceAdd, Int.reduceMul, Int.reduceSub, ne_eq, not_true_eq_false, not_false_eq_true, and_true, true_and, and_false, false_and, c3lt, c3gt, c3eq, Bool.false_eq_true, isK_wr, inA_wr, inR_wr, cm1.1, gtm', rdq5, rdq, y5, jj, j2, z37, n3, hl', gl', cl]
          exact gm
        · have hr : ∀ b q, mrd (mff (mwr (mwr (mwr m1 0 11 0) 235 1 0) 235 0 0) 238 (60 * t) N (LT h k)) b q = if b = 238 ∧ 60 * t ≤ q ∧ q < 60 * t + N then LT h k (q - 60 * t) else if b = 235 ∧ q = 0 then 0 else if b = 235 ∧ q = 1 then 0 else if b = 0 ∧ q = 11 then 0 else if b = 3 + 2 * t ∧ 0 ≤ q ∧ q < N then LT h k q else mrd h b q := by
            intro b q
            rw [hm1]
            simp only [rd_wr, rd_ff, Int.sub_zero, Int.zero_add]
          refine Inv_mk hI (Rel_tray ?_ hI.2.1 ?_) ?_ cm2.2.1 (RSum_tr (h := h) (by rw [hm1]; rfl) ?_ hI) (by rw [hm1]; rfl)
          · rw [hm1]
            exact FrE_ff (by decide) (FrE_wr (Or.inl Scr_m0) (FrE_wr (Or.inl Scr_m1) (FrE_wr (Or.inl Scr_st) (FrE_ff tn1 FrE.rf))))
          · intro x x0 x1
            show RTry (mrd _) x
            have hu : RTry (mrd h) x := hI.2.1.2.2.1 x x0 x1
            by_cases c : x = t
            · subst c
              right
              refine ⟨?_, ⟨?_, ?_, ?_⟩, ⟨?_, ?_, ?_⟩, fun q z0 z1 => ?_⟩
              · rw [hr]; grind
              · rw [hr, hr]; grind
              · rw [hr]; grind
              · rw [hr]; grind
              · rw [hr, hr]; grind
              · rw [hr]; grind
              · rw [hr]; grind
              · have z1' : q < mrd h 237 x := by
                  rw [hr] at z1; grind
                rw [hr, hr]
                by_cases cq : q < N
                · rw [if_neg (by omega), if_neg (by omega), if_neg (by omega), if_neg (by omega), if_pos ⟨rfl, z0, cq⟩, if_pos ⟨rfl, by omega⟩]
                  congr 1
                  omega
                · rw [if_neg (by omega), if_neg (by omega), if_neg (by omega), if_neg (by omega), if_neg (fun z => cq z.2.2), if_neg (by omega), if_neg (by omega), if_neg (by omega), if_neg (by omega), if_neg (by omega)]
                  exact e4 q z0 z1'
            · refine RTry_of (m := mrd h) (funext fun i => ?_) (funext fun i => ?_) ?_ ?_ (fun q _ _ => ?_) hu
              · rw [hr]; grind
              · rw [hr]; grind
              · rw [hr]; grind
              · rw [hr]; grind
              · rw [hr, if_neg (by omega), if_neg (by omega), if_neg (by omega), if_neg (by omega), if_neg (by omega)]
          · rw [hr, hr]; grind
          · rw [hr]; grind
    · simp only [hc, if_false] at hl hx
      refine opq hI (-1) 2 ?_ ?_
      · simp only [e120_0, e120_1, e120_4, e120_7, e120_8, e120_9, e120_12, e120_13, e120_14, e120_17, e120_18, e120_19, e120_20, e120_21, e120_24, e120_27, e120_28, e120_29, e120_32, e120_33, e120_34, e120_37, e120_38, e120_41, e120_44, e120_45, e120_46, e120_49, e120_50, e120_51, e120_54, e120_57, e120_58, e120_59, e120_61, e120_63, e120_66, e120_67, e120_70, e120_73, e120_74, e120_75, e120_78, e120_79, e120_80, e120_84, e120_86, e120_89, e120_92, e120_93, e120_95, e120_96, e120_99, e120_101, e120_103, e120_106, e120_107, e120_110, e120_113, e120_116, e120_117, e120_119, e120_122, e120_125, psh0, psh1, psh3, true_or, or_true, eq_self, Option.bind_some, List.length_nil, List.length_cons, Nat.reduceAdd, Nat.reduceLeDiff, Nat.zero_le, ↓reduceIte, Int.reduceLT, Int.reduceEq, Int.reduceLE, Int.reduceNeg, Int.reduceAdd, Int.reduceMul, Int.reduceSub, ne_eq, not_true_eq_false, not_false_eq_true, and_true, true_and, and_false, false_and, c3lt, c3gt, c3eq, Bool.false_eq_true, isK_wr, inA_wr, inR_wr, k0, x0, e8, ks, gt, q1, q2, q3, e1, hx, x_refuse]
      · simp only [e250_0, e250_1, e250_2, e250_5, e250_6, e250_7, e250_10, e250_11, e250_12, e250_15, e250_18, e250_19, e250_20, e250_23, e250_24, e250_25, e250_28, e250_29, e250_30, e250_33, e250_34, e250_35, e250_38, e250_39, e250_40, e250_41, e250_44, e250_47, e250_48, e250_49, e250_52, e250_53, e250_54, e250_57, e250_58, e250_59, e250_60, e250_61, e250_64, e250_67, e250_68, e250_69, e250_72, e250_73, e250_74, e250_76, e250_77, e250_78, e250_81, e250_84, e250_85, e250_88, e250_90, e250_91, e250_92, e250_93, e250_94, e250_95, e250_96, e250_97, e250_100, e250_101, e250_102, e250_105, e250_108, e250_109, e250_110, e250_113, psh0, psh1, psh3, true_or, or_true, eq_self, Option.bind_some, List.length_nil, List.length_cons, Nat.reduceAdd, Nat.reduceLeDiff, Nat.zero_le, ↓reduceIte, Int.reduceLT, Int.reduceEq, Int.reduceLE, Int.reduceNeg, Int.reduceAdd, Int.reduceMul, Int.reduceSub, ne_eq, not_true_eq_false, not_false_eq_true, and_true, true_and, and_false, false_and, c3lt, c3gt, c3eq, Bool.false_eq_true, isK_wr, inA_wr, inR_wr, kM, gtm, rdq5, rdq, m5, j2, n3, hl, m_refuse, wrwr]
  · rw [if_neg ct] at gt
    have ct3 : ¬ (0 ≤ t ∧ t ≤ 3) := by omega
    simp only [if_neg ct3] at gtm
    refine opq hI (-1) 1 ?_ ?_
    · simp only [e120_0, e120_1, e120_4, e120_7, e120_8, e120_9, e120_12, e120_13, e120_14, e120_17, e120_18, e120_19, e120_20, e120_21, e120_24, e120_27, e120_28, e120_29, e120_32, e120_33, e120_34, e120_37, e120_38, e120_41, e120_44, e120_45, e120_46, e120_49, e120_50, e120_51, e120_54, e120_57, e120_58, e120_59, e120_61, e120_63, e120_66, e120_67, e120_70, e120_73, e120_74, e120_75, e120_78, e120_79, e120_80, e120_84, e120_86, e120_89, e120_92, e120_93, e120_95, e120_96, e120_99, e120_101, e120_103, e120_106, e120_107, e120_110, e120_113, e120_116, e120_117, e120_119, e120_122, e120_125, psh0, psh1, psh3, true_or, or_true, eq_self, Option.bind_some, List.length_nil, List.length_cons, Nat.reduceAdd, Nat.reduceLeDiff, Nat.zero_le, ↓reduceIte, Int.reduceLT, Int.reduceEq, Int.reduceLE, Int.reduceNeg, Int.reduceAdd, Int.reduceMul, Int.reduceSub, ne_eq, not_true_eq_false, not_false_eq_true, and_true, true_and, and_false, false_and, c3lt, c3gt, c3eq, Bool.false_eq_true, isK_wr, inA_wr, inR_wr, k0, gt, x_refuse]
    · simp only [e250_0, e250_1, e250_2, e250_5, e250_6, e250_7, e250_10, e250_11, e250_12, e250_15, e250_18, e250_19, e250_20, e250_23, e250_24, e250_25, e250_28, e250_29, e250_30, e250_33, e250_34, e250_35, e250_38, e250_39, e250_40, e250_41, e250_44, e250_47, e250_48, e250_49, e250_52, e250_53, e250_54, e250_57, e250_58, e250_59, e250_60, e250_61, e250_64, e250_67, e250_68, e250_69, e250_72, e250_73, e250_74, e250_76, e250_77, e250_78, e250_81, e250_84, e250_85, e250_88, e250_90, e250_91, e250_92, e250_93, e250_94, e250_95, e250_96, e250_97, e250_100, e250_101, e250_102, e250_105, e250_108, e250_109, e250_110, e250_113, psh0, psh1, psh3, true_or, or_true, eq_self, Option.bind_some, List.length_nil, List.length_cons, Nat.reduceAdd, Nat.reduceLeDiff, Nat.zero_le, ↓reduceIte, Int.reduceLT, Int.reduceEq, Int.reduceLE, Int.reduceNeg, Int.reduceAdd, Int.reduceMul, Int.reduceSub, ne_eq, not_true_eq_false, not_false_eq_true, and_true, true_and, and_false, false_and, c3lt, c3gt, c3eq, Bool.false_eq_true, isK_wr, inA_wr, inR_wr, kM, gtm, m_refuse, wrwr]
