/-! plans: the class -/
def PDh (h : AM) : PDt := (fun k => (PN h k : Int), fun k p => mrd h 238 (60 * k + p), fun l => mrd h 240 (40 + l), fun k l => dyF (mrd h 240 (16 + l)) (mrd h 240 (64 + k)))
/-- a lesson that is planned -/
def LOK (h : AM) (s l : Int) : Prop := (0 ≤ l ∧ l < 12) ∧ (mrd h (s + 13 + l) 5 = mrd h 240 (40 + l) ∧ -1 ≤ mrd h 240 (40 + l) ∧ mrd h 240 (40 + l) < 4) ∧ (mrd h (s + 13 + l) 3 = mrd h 240 (16 + l) ∧ 1 ≤ mrd h 240 (16 + l) ∧ mrd h 240 (16 + l) ≤ 30)
def HX (h : AM) (s : Int) (nc : Nat) : Prop := (Shp h ∧ RRef h.1 ∧ (s = 162 ∨ s = 195) ∧ mrd h s 7 = nc ∧ nc ≤ 4) ∧ ∀ k : Int, 0 ≤ k → k < nc → ((mrd h (2 + 2 * k) 1 = 0 ∧ PN h k = 0) ∨ (mrd h (2 + 2 * k) 1 = 1 ∧ mrd h (2 + 2 * k) 3 = (PN h k : Int) ∧ ∀ p : Int, 0 ≤ p → p < PN h k → mrd h (3 + 2 * k) p = mrd h 238 (60 * k + p))) ∧ PN h k ≤ 12 ∧ (mrd h (s + 25 + 2 * k) 2 = mrd h 240 (64 + k) ∧ 0 ≤ mrd h 240 (64 + k) ∧ mrd h 240 (64 + k) ≤ 9) ∧ ∀ p : Int, 0 ≤ p → p < PN h k → LOK h s (mrd h 238 (60 * k + p))
theorem HX_PV {h : AM} {s : Int} {nc : Nat} (hx : HX h s nc) : PV (PDh h) nc := fun k k0 k1 => by
  obtain ⟨-, h2, h3, h4⟩ := hx.2 k k0 k1
  refine ⟨⟨by show (0 : Int) ≤ (PN h k : Int); omega, by show (PN h k : Int) ≤ 12; omega⟩, fun p p0 p1 => ?_⟩
  obtain ⟨q1, q2, q3⟩ := h4 p p0 p1
  exact ⟨dyF_rng q3.2 h3.2, q2.2, q1⟩
/-- what making a plan may change -/
def FPX (h h' : AM) : Prop := h'.2 = h.2 ∧ (∀ a i, a < 152 ∨ 161 < a → mrd h' a i = mrd h a i) ∧ (∀ i, mrd h' 155 i = mrd h 155 i) ∧ ∀ i, i ≠ 3 → i ≠ 6 → mrd h' 152 i = mrd h 152 i
theorem FPX_rr {h h' : AM} (hf : FPX h h') (hr : RRef h.1) : RRef h'.1 := fun q hq => by
  have hd : ∀ q ∈ refT, (q.1 < 152 ∨ 161 < q.1) ∨ q.1 = 155 ∨ (q.1 = 152 ∧ q.2.1 ≠ 3 ∧ q.2.1 ≠ 6) := by decide +kernel
  rw [← hr q hq]
  rcases hd q hq with z | z | z
  · exact hf.2.1 _ _ z
  · rw [z]; exact hf.2.2.1 _
  · rw [z.1]; exact hf.2.2.2 _ z.2.1 z.2.2
theorem FPX_wr {h h' : AM} {a i v : Int} (hf : FPX h h') (h1 : 152 ≤ a ∧ a ≤ 161) (h2 : a ≠ 155) (h3 : a = 152 → i = 3 ∨ i = 6) : FPX h (mwr h' a i v) := by
  refine ⟨hf.1, fun b j hb => ?_, fun j => ?_, fun j n3 n6 => ?_⟩
  · rw [rd_wr, if_neg (by omega)]; exact hf.2.1 b j hb
  · rw [rd_wr, if_neg (by omega)]; exact hf.2.2.1 j
  · rw [rd_wr, if_neg (by rintro ⟨z1, z2⟩; have := h3 z1.symm; omega)]; exact hf.2.2.2 j n3 n6
/-- the plan's objects -/
theorem pl_K {h : AM} (hp : Shp h) (hr : RRef h.1) {k : Int} (k0 : 0 ≤ k) (k1 : k < 4) : (isK h 152 4 ∧ mrd h 152 0 = 153 ∧ mrd h 152 1 = 154 ∧ mrd h 152 2 = 155 ∧ mrd h 152 4 = 160 ∧ mrd h 152 5 = 161) ∧ (inA h 153 16 k ∧ inA h 154 16 k ∧ inA h 160 16 k ∧ inA h 161 16 k ∧ inR h 155 k ∧ mrd h 155 k = 156 + k ∧ isK h (156 + k) 16 ∧ mln h (156 + k) = 12) := by
  have e1 : ∀ k, k < 4 → (155, ((k : Nat) : Int), 156 + ((k : Nat) : Int)) ∈ refT := by decide +kernel
  have e2 : ∀ k, k < 4 → (156 + ((k : Nat) : Int), 16, 12) ∈ shT := by decide +kernel
  have q1 := e1 k.toNat (by omega)
  have q2 := e2 k.toNat (by omega)
  rw [Int.toNat_of_nonneg k0] at q1 q2
  refine ⟨⟨kn_152 hp, rf_152_0 hr, rf_152_1 hr, rf_152_2 hr, rf_152_4 hr, rf_152_5 hr⟩, ⟨kn_153 hp, k0, by rw [ln_153 hp]; exact k1⟩, ⟨kn_154 hp, k0, by rw [ln_154 hp]; exact k1⟩, ⟨kn_160 hp, k0, by rw [ln_160 hp]; exact k1⟩, ⟨kn_161 hp, k0, by rw [ln_161 hp]; exact k1⟩, ⟨⟨(kn_155 hp).1, (kn_155 hp).2.1, by rw [(kn_155 hp).2.2]; decide, by rw [(kn_155 hp).2.2]; decide⟩, k0, by rw [ln_155 hp]; exact k1⟩, hr _ q1, (Shp_K hp q2).1, (Shp_K hp q2).2⟩
def TB5 (h : AM) (k day ov : Int) : AM := mwr (mwr (mwr (mwr (mwr h 154 k (mrd h 154 k + (day - mrd h 160 k))) (156 + k) (mrd h 153 k) day) 153 k (mrd h 153 k + 1)) 160 k ov) 152 3 (if mrd h 152 3 < ov then ov else mrd h 152 3)
def TB (h : AM) (k day ov m : Int) : AM := if m = -1 then TB5 h k day ov else mwr (TB5 h k day ov) 161 m ov
section
variable {d : Nat} {h h0 g : AM} {s a b c i k l p v w x y z day : Int}
theorem x_tryBegin (hp : Shp h) (hr : RRef h.1) (hs : s = 162 ∨ s = 195) (k0 : 0 ≤ k) (k1 : k < 4) (l0 : 0 ≤ l) (l1 : l < 12) (b1 : 1 ≤ mrd h (s + 13 + l) 3 ∧ mrd h (s + 13 + l) 3 ≤ 30) (b2 : 0 ≤ mrd h (s + 25 + 2 * k) 2 ∧ mrd h (s + 25 + 2 * k) 2 ≤ 9) (bm : -1 ≤ mrd h (s + 13 + l) 5 ∧ mrd h (s + 13 + l) 5 < 4) (d0 : 0 ≤ day) (d1 : day ≤ 1440) (f0 : 0 ≤ mrd h 160 k) (f1 : mrd h 160 k ≤ 1500) (w0 : 0 ≤ mrd h 154 k) (w1 : mrd h 154 k ≤ 20000) (n0 : 0 ≤ mrd h 153 k) (n1 : mrd h 153 k < 12) : EV (d + 1) 31 0 [(2, 152), (2, s), (0, k), (0, l), (0, day), (3, 0), (3, 0)] [] h = some (if mrd h (s + 13 + l) 5 < 0 ∨ mrd h 161 (mrd h (s + 13 + l) 5) ≤ day then ((0, 1), TB h k day (day + dyF (mrd h (s + 13 + l) 3) (mrd h (s + 25 + 2 * k) 2)) (mrd h (s + 13 + l) 5)) else ((0, 0), h)) := by
  have cs : CS h s := CS_of hp hr (S6_cur hs)
  have gd := x_daysFor (d := d) cs k0 k1 l0 l1 b1 b2
  have hdy := dyF_rng b1 b2
  obtain ⟨ks, -, r1, r2, r3, r4, -, -, k7, k8, k9, kl, kc⟩ := id cs
  obtain ⟨q1, q2, q3, q4, q5, q6⟩ := kc k k0 k1
  obtain ⟨t1, t2, t3⟩ := kl _ l0 l1
  obtain ⟨⟨p1, p2, p3, p4, p5, p6⟩, a1, a2, a3, a4, a5, a6, a7, a8⟩ := pl_K hp hr k0 k1
  rw [← show dyF (mrd h (s + 13 + l) 3) (mrd h (s + 25 + 2 * k) 2) = (if mrd h (s + 13 + l) 3 - mrd h (s + 25 + 2 * k) 2 < 1 then 1 else mrd h (s + 13 + l) 3 - mrd h (s + 25 + 2 * k) 2) from rfl] at gd
  generalize dyF (mrd h (s + 13 + l) 3) (mrd h (s + 25 + 2 * k) 2) = dy at gd hdy ⊢
  have i7 : inA h (156 + k) 16 (mrd h 153 k) := ⟨a7, n0, by rw [a8]; exact n1⟩
  have u1 : w32 (day + dy) = day + dy := w32_id (by omega) (by omega)
  have u2 : w32 (day - mrd h 160 k) = day - mrd h 160 k := w32_id (by omega) (by omega)
  have u3 : w32 (mrd h 154 k + (day - mrd h 160 k)) = mrd h 154 k + (day - mrd h 160 k) := w32_id (by omega) (by omega)
  have u4 : w32 (mrd h 153 k + 1) = mrd h 153 k + 1 := w32_id (by omega) (by omega)
  have z1 : (152 = 156 + k) = False := eq_false (by omega)
  have z2 : (153 = 156 + k) = False := eq_false (by omega)
  have z3 : (160 = 156 + k) = False := eq_false (by omega)
  have z4 : (155 = 156 + k) = False := eq_false (by omega)
  have z5 : (161 = 156 + k) = False := eq_false (by omega)
  unfold TB TB5
  by_cases cm : mrd h (s + 13 + l) 5 = -1
  · rw [if_pos (show mrd h (s + 13 + l) 5 < 0 ∨ _ from Or.inl (by omega)), if_pos cm]
    simp only [e31_0, e31_1, e31_4, e31_5, e31_6, e31_9, e31_11, e31_13, e31_14, e31_17, e31_18, e31_21, e31_23, e31_24, e31_26, e31_29, e31_30, e31_31, e31_33, e31_34, e31_35, e31_38, e31_39, e31_40, e31_41, e31_44, e31_45, e31_47, e31_48, e31_51, e31_52, e31_53, e31_54, e31_56, e31_57, e31_60, e31_61, e31_62, e31_63, e31_64, e31_65, e31_66, e31_69, e31_70, e31_71, e31_72, e31_75, e31_76, e31_77, e31_79, e31_80, e31_81, e31_84, e31_85, e31_86, e31_87, e31_88, e31_89, e31_90, e31_91, e31_94, e31_95, e31_97, e31_98, e31_99, e31_100, e31_103, e31_105, e31_108, e31_111, e31_113, e31_114, e31_117, e31_118, e31_121, e31_123, e31_125, e31_126, e31_127, psh0, psh1, psh3, true_or, or_true, eq_self, Option.bind_some, List.length_nil, List.length_cons, Nat.reduceAdd, Nat.reduceLeDiff, Nat.zero_le, ↓reduceIte, Int.reduceLT, Int.reduceEq, Int.reduceLE, Int.reduceNeg, Int.reduceAdd, Int.reduceMul, Int.reduceSub, ne_eq, not_true_eq_false, not_false_eq_true, and_true, true_and, and_false, false_and, c3lt, c3gt, c3eq, Bool.false_eq_true, isK_wr, inA_wr, inR_wr, ks, r1, r2, t1, t2, t3, q1, q2, cm, gd, u1, p1, p2, p3, p4, p5, p6, a1, a2, a3, a5, a6, u2, u3, u4, rd_wr, z1, z2, z3, z4, i7]
  · obtain ⟨⟨-, -, -, -, -, -⟩, -, -, -, a4', -, -, -, -⟩ := pl_K hp hr (show 0 ≤ mrd h (s + 13 + l) 5 by omega) bm.2
    by_cases cd : mrd h 161 (mrd h (s + 13 + l) 5) ≤ day
    · have cd' : ¬ day < mrd h 161 (mrd h (s + 13 + l) 5) := by omega
      rw [if_pos (Or.inr cd), if_neg cm]
      simp only [e31_0, e31_1, e31_4, e31_5, e31_6, e31_9, e31_11, e31_13, e31_14, e31_17, e31_18, e31_21, e31_23, e31_24, e31_26, e31_29, e31_30, e31_31, e31_33, e31_34, e31_35, e31_38, e31_39, e31_40, e31_41, e31_44, e31_45, e31_47, e31_48, e31_51, e31_52, e31_53, e31_54, e31_56, e31_57, e31_60, e31_61, e31_62, e31_63, e31_64, e31_65, e31_66, e31_69, e31_70, e31_71, e31_72, e31_75, e31_76, e31_77, e31_79, e31_80, e31_81, e31_84, e31_85, e31_86, e31_87, e31_88, e31_89, e31_90, e31_91, e31_94, e31_95, e31_97, e31_98, e31_99, e31_100, e31_103, e31_105, e31_108, e31_111, e31_113, e31_114, e31_117, e31_118, e31_121, e31_123, e31_125, e31_126, e31_127, psh0, psh1, psh3, true_or, or_true, eq_self, Option.bind_some, List.length_nil, List.length_cons, Nat.reduceAdd, Nat.reduceLeDiff, Nat.zero_le, ↓reduceIte, Int.reduceLT, Int.reduceEq, Int.reduceLE, Int.reduceNeg, Int.reduceAdd, Int.reduceMul, Int.reduceSub, ne_eq, not_true_eq_false, not_false_eq_true, and_true, true_and, and_false, false_and, c3lt, c3gt, c3eq, Bool.false_eq_true, isK_wr, inA_wr, inR_wr, ks, r1, r2, t1, t2, t3, q1, q2, cm, cd', gd, u1, p1, p2, p3, p4, p5, p6, a1, a2, a3, a4', a5, a6, u2, u3, u4, rd_wr, z1, z2, z3, z4, i7]
    · have cd' : day < mrd h 161 (mrd h (s + 13 + l) 5) := by omega
      rw [if_neg (show ¬ (mrd h (s + 13 + l) 5 < 0 ∨ mrd h 161 (mrd h (s + 13 + l) 5) ≤ day) by omega)]
      simp only [e31_0, e31_1, e31_4, e31_5, e31_6, e31_9, e31_11, e31_13, e31_14, e31_17, e31_18, e31_21, e31_23, e31_24, e31_26, e31_29, e31_30, e31_31, e31_33, e31_34, e31_35, e31_38, e31_39, e31_40, e31_41, e31_44, e31_45, e31_47, e31_48, e31_51, e31_52, e31_53, e31_54, e31_56, e31_57, e31_60, e31_61, e31_62, e31_63, e31_64, e31_65, e31_66, e31_69, e31_70, e31_71, e31_72, e31_75, e31_76, e31_77, e31_79, e31_80, e31_81, e31_84, e31_85, e31_86, e31_87, e31_88, e31_89, e31_90, e31_91, e31_94, e31_95, e31_97, e31_98, e31_99, e31_100, e31_103, e31_105, e31_108, e31_111, e31_113, e31_114, e31_117, e31_118, e31_121, e31_123, e31_125, e31_126, e31_127, psh0, psh1, psh3, true_or, or_true, eq_self, Option.bind_some, List.length_nil, List.length_cons, Nat.reduceAdd, Nat.reduceLeDiff, Nat.zero_le, ↓reduceIte, Int.reduceLT, Int.reduceEq, Int.reduceLE, Int.reduceNeg, Int.reduceAdd, Int.reduceMul, Int.reduceSub, ne_eq, not_true_eq_false, not_false_eq_true, and_true, true_and, and_false, false_and, c3lt, c3gt, c3eq, Bool.false_eq_true, isK_wr, inA_wr, inR_wr, ks, r1, r2, t1, t2, t3, cm, cd', p1, p6, a4']
/-- the class's plan in memory -/
def RPX (nc : Nat) (S : PSt) (h : AM) : Prop := (∀ k : Int, 0 ≤ k → k < nc → mrd h 160 k = S.1 k ∧ mrd h 153 k = S.2.1 k ∧ mrd h 154 k = S.2.2.1 k ∧ ∀ j, 0 ≤ j → j < S.2.1 k → mrd h (156 + k) j = S.2.2.2.2 k j) ∧ (∀ m : Int, 0 ≤ m → m < 4 → mrd h 161 m = S.2.2.2.1 m) ∧ mrd h 152 3 = dn nc S.1 ∧ mrd h 152 6 = nc
theorem RPX_B {D : PDt} {nc : Nat} {S : PSt} (h4 : nc ≤ 4) (k0 : 0 ≤ k) (k1 : k < nc) (hR : RPX nc S h) (hm : -1 ≤ pM D S k ∧ pM D S k < 4) (hf : S.1 k ≤ pO D day S k) : RPX nc (pB D day k S) (TB h k day (pO D day S k) (pM D S k)) := by
  obtain ⟨R1, R2, R3, R4⟩ := hR
  have e5 : ∀ a i, a ≠ 161 → mrd (TB h k day (pO D day S k) (pM D S k)) a i = mrd (TB5 h k day (pO D day S k)) a i := fun a i ha => by
    unfold TB
    split
    · rfl
    · rw [rdn1 ha]
  obtain ⟨a1, a2, a3, a4⟩ := R1 k k0 k1
  refine ⟨fun j j0 j1 => ?_, fun m m0 m1 => ?_, ?_, ?_⟩
  · obtain ⟨b1, b2, b3, b4⟩ := R1 j j0 j1
    rw [e5 _ _ (by decide), e5 _ _ (by decide), e5 _ _ (by decide)]
    by_cases e : j = k
    · subst e
      obtain ⟨x1, x2, x3⟩ := pB_2 (D := D) (day := day) (k := j) (S := S)
      rw [x1, x2, x3]
      refine ⟨?_, ?_, ?_, fun q q0 q1 => ?_⟩
      · unfold TB5
        rw [rd_wr, if_neg (by omega), rde]
      · unfold TB5
        rw [rd_wr, if_neg (by omega), rd_wr, if_neg (by omega), rde, a2]
      · unfold TB5
        rw [rd_wr, if_neg (by omega), rd_wr, if_neg (by omega), rd_wr, if_neg (by omega), rd_wr, if_neg (by omega), rde, a3, a1]
      · rw [e5 _ _ (by omega)]
        unfold TB5
        rw [rd_wr, if_neg (by omega), rd_wr, if_neg (by omega), rd_wr, if_neg (by omega), rd_wr, a2]
        show _ = if j = j ∧ q = S.2.1 j then day else S.2.2.2.2 j q
        by_cases c : q = S.2.1 j
        · rw [if_pos ⟨rfl, c⟩, if_pos ⟨rfl, c⟩]
        · rw [if_neg (fun z => c z.2), if_neg (fun z => c z.2), rd_wr, if_neg (by omega)]
          exact a4 q q0 (by omega)
    · obtain ⟨x1, x2, x3⟩ := pB_1 (D := D) (day := day) (S := S) e
      rw [x1, x2, x3]
      refine ⟨?_, ?_, ?_, fun q q0 q1 => ?_⟩
      · unfold TB5
        rw [rd_wr, if_neg (by omega), rd_wr, if_neg (by omega), rd_wr, if_neg (by omega), rd_wr, if_neg (by omega), rd_wr, if_neg (by omega)]
        exact b1
      · unfold TB5
        rw [rd_wr, if_neg (by omega), rd_wr, if_neg (by omega), rd_wr, if_neg (by omega), rd_wr, if_neg (by omega), rd_wr, if_neg (by omega)]
        exact b2
      · unfold TB5
        rw [rd_wr, if_neg (by omega), rd_wr, if_neg (by omega), rd_wr, if_neg (by omega), rd_wr, if_neg (by omega), rd_wr, if_neg (by omega)]
        exact b3
      · rw [e5 _ _ (by omega)]
        unfold TB5
        rw [rd_wr, if_neg (by omega), rd_wr, if_neg (by omega), rd_wr, if_neg (by omega), rd_wr, if_neg (by omega), rd_wr, if_neg (by omega)]
        show _ = if j = k ∧ q = S.2.1 k then day else S.2.2.2.2 j q
        rw [if_neg (fun z => e z.1)]
        exact b4 q q0 q1
  · have hb := R2 m m0 m1
    have e0 : mrd (TB5 h k day (pO D day S k)) 161 m = mrd h 161 m := by
      unfold TB5
      rw [rd_wr, if_neg (by omega), rd_wr, if_neg (by omega), rd_wr, if_neg (by omega), rd_wr, if_neg (by omega), rd_wr, if_neg (by omega)]
    show mrd (TB h k day (pO D day S k) (pM D S k)) 161 m = (if pM D S k < 0 then S.2.2.2.1 else upI S.2.2.2.1 (pM D S k) (pO D day S k)) m
    unfold TB
    by_cases c : pM D S k = -1
    · rw [if_pos c, if_pos (by omega), e0, hb]
    · rw [if_neg c, if_neg (by omega)]
      by_cases e : m = pM D S k
      · rw [e, rde, upI_e]
      · rw [rdn2 e, upI_n e, e0, hb]
  · rw [e5 _ _ (by decide)]
    unfold TB5
    rw [rde, R3]
    show _ = dn nc (upI S.1 k (pO D day S k))
    rw [dn_up k0 hf, if_pos k1]
  · rw [e5 _ _ (by decide)]
    unfold TB5
    rw [rdn2 (by decide), rd_wr, if_neg (by omega), rd_wr, if_neg (by omega), rd_wr, if_neg (by omega), rd_wr, if_neg (by omega)]
    exact R4
theorem FPX_TB {ov m : Int} (hf : FPX h0 h) (k0 : 0 ≤ k) (k1 : k < 4) : FPX h0 (TB h k day ov m) := by
  have h5 : FPX h0 (TB5 h k day ov) := by
    unfold TB5
    exact FPX_wr (FPX_wr (FPX_wr (FPX_wr (FPX_wr hf (by omega) (by omega) (by omega)) (by omega) (by omega) (by omega)) (by omega) (by omega) (by omega)) (by omega) (by omega) (by omega)) (by omega) (by omega) (by omega)
  unfold TB
  split
  · exact h5
  · exact FPX_wr h5 (by omega) (by omega) (by omega)
end
