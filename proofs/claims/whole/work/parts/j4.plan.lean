/-! plans: the reference -/
def LOM (h : AM) (l : Int) : Prop := (0 ≤ l ∧ l < 12) ∧ (-1 ≤ mrd h 240 (40 + l) ∧ mrd h 240 (40 + l) < 4) ∧ (1 ≤ mrd h 240 (16 + l) ∧ mrd h 240 (16 + l) ≤ 30)
def HM (h : AM) (nc : Nat) : Prop := (CM h ∧ mrd h 240 2 = nc ∧ nc ≤ 4) ∧ ∀ k : Int, 0 ≤ k → k < nc → (mrd h 237 k = -1 ∨ 0 ≤ mrd h 237 k) ∧ PN h k ≤ 12 ∧ (0 ≤ mrd h 240 (64 + k) ∧ mrd h 240 (64 + k) ≤ 9) ∧ ∀ p : Int, 0 ≤ p → p < PN h k → LOM h (mrd h 238 (60 * k + p))
theorem HM_PV {h : AM} {nc : Nat} (hx : HM h nc) : PV (PDh h) nc := fun k k0 k1 => by
  obtain ⟨-, h2, h3, h4⟩ := hx.2 k k0 k1
  refine ⟨⟨by show (0 : Int) ≤ (PN h k : Int); omega, by show (PN h k : Int) ≤ 12; omega⟩, fun p p0 p1 => ?_⟩
  obtain ⟨q1, q2, q3⟩ := h4 p p0 p1
  exact ⟨dyF_rng q3 h3, q2, q1⟩
def FPM (g g' : AM) : Prop := g'.2 = g.2 ∧ ∀ a i, a < 251 ∨ 256 < a → mrd g' a i = mrd g a i
theorem FPM_cm {g g' : AM} (hf : FPM g g') (hm : CM g) : CM g' := by
  refine ⟨(isK_eq hf.1).mpr hm.1, Shp_eq hf.1 hm.2.1, fun q hq => ?_⟩
  have hd : ∀ q ∈ refT, q.1 < 251 ∨ 256 < q.1 := by decide +kernel
  rw [← hm.2.2 q hq]
  exact hf.2 _ _ (hd q hq)
theorem FPM_wr {g g' : AM} {a i v : Int} (hf : FPM g g') (h1 : 251 ≤ a ∧ a ≤ 256) : FPM g (mwr g' a i v) := ⟨hf.1, fun b j hb => by rw [rd_wr, if_neg (by omega)]; exact hf.2 b j hb⟩
theorem PN_eq {g g' : AM} (h : ∀ i, mrd g' 237 i = mrd g 237 i) (k : Int) : PN g' k = PN g k := by unfold PN; rw [h]
def RPM (nc : Nat) (S : PSt) (h : AM) : Prop := (∀ k : Int, 0 ≤ k → k < nc → mrd h 251 k = S.1 k ∧ mrd h 252 k = S.2.1 k ∧ mrd h 253 k = S.2.2.1 k ∧ ∀ j, 0 ≤ j → j < S.2.1 k → mrd h 254 (12 * k + j) = S.2.2.2.2 k j) ∧ ∀ m : Int, 0 ≤ m → m < 4 → mrd h 256 m = S.2.2.2.1 m
def BM5 (g : AM) (k day ov : Int) : AM := mwr (mwr (mwr (mwr g 254 (12 * k + mrd g 252 k) day) 253 k (mrd g 253 k + (day - mrd g 251 k))) 251 k ov) 252 k (mrd g 252 k + 1)
def BM (g : AM) (k day ov m : Int) : AM := if m < 0 then BM5 g k day ov else mwr (BM5 g k day ov) 256 m ov
/-- the reference's plan objects -/
theorem pm_K {g : AM} (hm : CM g) {k : Int} (k0 : 0 ≤ k) (k1 : k < 4) : (mrd g 235 36 = 251 ∧ mrd g 235 37 = 252 ∧ mrd g 235 38 = 253 ∧ mrd g 235 39 = 254 ∧ mrd g 235 40 = 255 ∧ mrd g 235 41 = 256) ∧ inA g 251 16 k ∧ inA g 252 16 k ∧ inA g 253 16 k ∧ inA g 255 16 k ∧ inA g 256 16 k ∧ ∀ j, 0 ≤ j → j < 12 → inA g 254 16 (12 * k + j) :=
  ⟨⟨rf_235_36 hm.2.2, rf_235_37 hm.2.2, rf_235_38 hm.2.2, rf_235_39 hm.2.2, rf_235_40 hm.2.2, rf_235_41 hm.2.2⟩, ⟨kn_251 hm.2.1, k0, by rw [ln_251 hm.2.1]; exact k1⟩, ⟨kn_252 hm.2.1, k0, by rw [ln_252 hm.2.1]; exact k1⟩, ⟨kn_253 hm.2.1, k0, by rw [ln_253 hm.2.1]; exact k1⟩, ⟨kn_255 hm.2.1, k0, by rw [ln_255 hm.2.1]; exact k1⟩, ⟨kn_256 hm.2.1, k0, by rw [ln_256 hm.2.1]; exact k1⟩, fun j j0 j1 => ⟨kn_254 hm.2.1, by omega, by rw [ln_254 hm.2.1]; omega⟩⟩
section
variable {d : Nat} {h g g0 : AM} {s a b c i k l p v w x y z day : Int}
theorem RPM_B {D : PDt} {nc : Nat} {S : PSt} (h4 : nc ≤ 4) (k0 : 0 ≤ k) (k1 : k < nc) (hv : PV D nc) (hI : PI D nc day S) (hn : S.2.1 k < 12) (hR : RPM nc S g) (hm : -1 ≤ pM D S k ∧ pM D S k < 4) : RPM nc (pB D day k S) (BM g k day (pO D day S k) (pM D S k)) := by
  obtain ⟨R1, R2⟩ := hR
  have e5 : ∀ a i, a ≠ 256 → mrd (BM g k day (pO D day S k) (pM D S k)) a i = mrd (BM5 g k day (pO D day S k)) a i := fun a i ha => by
    unfold BM
    split
    · rfl
    · rw [rdn1 ha]
  obtain ⟨a1, a2, a3, a4⟩ := R1 k k0 k1
  have hk := hI k k0 k1
  refine ⟨fun j j0 j1 => ?_, fun m m0 m1 => ?_⟩
  · obtain ⟨b1, b2, b3, b4⟩ := R1 j j0 j1
    have hj := hI j j0 j1
    have hl := (hv j j0 j1).1
    rw [e5 _ _ (by decide), e5 _ _ (by decide), e5 _ _ (by decide)]
    by_cases e : j = k
    · subst e
      obtain ⟨x1, x2, x3⟩ := pB_2 (D := D) (day := day) (k := j) (S := S)
      rw [x1, x2, x3]
      refine ⟨?_, ?_, ?_, fun q q0 q1 => ?_⟩
      · unfold BM5
        rw [rd_wr, if_neg (by omega), rde]
      · unfold BM5
        rw [rde, a2]
      · unfold BM5
        rw [rd_wr, if_neg (by omega), rd_wr, if_neg (by omega), rde, a3, a1]
      · rw [e5 _ _ (by omega)]
        unfold BM5
        rw [rd_wr, if_neg (by omega), rd_wr, if_neg (by omega), rd_wr, if_neg (by omega), rd_wr, a2]
        show _ = if j = j ∧ q = S.2.1 j then day else S.2.2.2.2 j q
        by_cases c : q = S.2.1 j
        · rw [if_pos ⟨rfl, by rw [c]⟩, if_pos ⟨rfl, c⟩]
        · rw [if_neg (by omega), if_neg (fun z => c z.2)]
          exact a4 q q0 (by omega)
    · obtain ⟨x1, x2, x3⟩ := pB_1 (D := D) (day := day) (S := S) e
      rw [x1, x2, x3]
      refine ⟨?_, ?_, ?_, fun q q0 q1 => ?_⟩
      · unfold BM5
        rw [rd_wr, if_neg (by omega), rd_wr, if_neg (by omega), rd_wr, if_neg (by omega), rd_wr, if_neg (by omega)]
        exact b1
      · unfold BM5
        rw [rd_wr, if_neg (by omega), rd_wr, if_neg (by omega), rd_wr, if_neg (by omega), rd_wr, if_neg (by omega)]
        exact b2
      · unfold BM5
        rw [rd_wr, if_neg (by omega), rd_wr, if_neg (by omega), rd_wr, if_neg (by omega), rd_wr, if_neg (by omega)]
        exact b3
      · rw [e5 _ _ (by omega)]
        unfold BM5
        rw [rd_wr, if_neg (by omega), rd_wr, if_neg (by omega), rd_wr, if_neg (by omega), rd_wr, if_neg (by omega)]
        show _ = if j = k ∧ q = S.2.1 k then day else S.2.2.2.2 j q
        rw [if_neg (fun z => e z.1)]
        exact b4 q q0 q1
  · have hb := R2 m m0 m1
    have e0 : mrd (BM5 g k day (pO D day S k)) 256 m = mrd g 256 m := by
      unfold BM5
      rw [rd_wr, if_neg (by omega), rd_wr, if_neg (by omega), rd_wr, if_neg (by omega), rd_wr, if_neg (by omega)]
    show mrd (BM g k day (pO D day S k) (pM D S k)) 256 m = (if pM D S k < 0 then S.2.2.2.1 else upI S.2.2.2.1 (pM D S k) (pO D day S k)) m
    unfold BM
    by_cases c : pM D S k < 0
    · rw [if_pos c, if_pos c, e0, hb]
    · rw [if_neg c, if_neg c]
      by_cases e : m = pM D S k
      · rw [e, rde, upI_e]
      · rw [rdn2 e, upI_n e, e0, hb]
theorem FPM_B {ov m : Int} (hf : FPM g0 g) : FPM g0 (BM g k day ov m) := by
  have h5 : FPM g0 (BM5 g k day ov) := by
    unfold BM5
    exact FPM_wr (FPM_wr (FPM_wr (FPM_wr hf (by omega)) (by omega)) (by omega)) (by omega)
  unfold BM
  split
  · exact h5
  · exact FPM_wr h5 (by omega)
theorem bg_tail {nc : Nat} {P : PSt} {l4 l5 : AV} {i : Nat} (hx : HM g0 nc) (hf : FPM g0 g) (hR : RPM nc P g) (hP : PI (PDh g0) nc day P) (i1 : i < nc) (x0 : 0 ≤ x) (x1 : x ≤ 48) : EV (d + 1) 308 157 [(2, 235), (0, day), (0, x), (0, (i : Int)), l4, l5] [] g = EV (d + 1) 308 4 [(2, 235), (0, day), (0, x + lf (PDh g0) P i), (0, ((i + 1 : Nat) : Int)), l4, l5] [] g := by
  obtain ⟨⟨hm0, e2, n4⟩, hk⟩ := hx
  have hm := FPM_cm hf hm0
  obtain ⟨h1, h2, h3, h4⟩ := hk i (by omega) (by omega)
  have e7 : ∀ i, mrd g 237 i = mrd g0 237 i := fun i => hf.2 _ _ (by omega)
  have gp := m_planLong (d := d) (k := (i : Int)) hm (by omega) (by omega) (by rw [e7]; exact h1)
  rw [PN_eq e7] at gp
  obtain ⟨⟨r1, r2, r3, r4, r5, r6⟩, j1, j2, j3, j4, j5, j6⟩ := pm_K hm (k := (i : Int)) (by omega) (by omega)
  obtain ⟨f1, f2, f3⟩ := hP i (by omega) (by omega)
  have f2' : P.2.1 i ≤ (PN g0 i : Int) := f2.2
  have b2 : mrd g 252 i = P.2.1 i := (hR.1 i (by omega) (by omega)).2.1
  have el : lf (PDh g0) P i = (PN g0 i : Int) - P.2.1 i := rfl
  have w1 : w32 ((i : Int) + 1) = ((i + 1 : Nat) : Int) := by rw [w32_id (by omega) (by omega)]; omega
  have w2 : w32 ((PN g0 i : Int) - P.2.1 i) = lf (PDh g0) P i := by rw [el]; exact w32_id (by omega) (by omega)
  have w3 : w32 (x + lf (PDh g0) P i) = x + lf (PDh g0) P i := w32_id (by omega) (by omega)
  rw [e308_157]
  simp only [e308_158, e308_159, e308_160, e308_163, e308_164, e308_167, e308_168, e308_169, e308_170, e308_171, e308_172, e308_175, psh0, psh1, psh3, true_or, or_true, eq_self, Option.bind_some, List.length_nil, List.length_cons, Nat.reduceAdd, Nat.reduceLeDiff, Nat.zero_le, ↓reduceIte, Int.reduceLT, Int.reduceEq, Int.reduceLE, Int.reduceNeg, Int.reduceAdd, Int.reduceMul, Int.reduceSub, ne_eq, not_true_eq_false, not_false_eq_true, and_true, true_and, and_false, false_and, c3lt, c3gt, c3eq, Bool.false_eq_true, isK_wr, inA_wr, inR_wr, hm.1, gp, r2, j2, b2, w1, w2, w3]
theorem bg_head {nc : Nat} {P : PSt} {l4 l5 : AV} {i : Nat} (hx : HM g0 nc) (hf : FPM g0 g) (hR : RPM nc P g) (hP : PI (PDh g0) nc day P) (i1 : i < nc) (d0 : 0 ≤ day) (d1 : day ≤ 1440) : ∃ g' l4' l5', EV (d + 2) 308 4 [(2, 235), (0, day), (0, x), (0, (i : Int)), l4, l5] [] g = EV (d + 2) 308 157 [(2, 235), (0, day), (0, x), (0, (i : Int)), l4', l5'] [] g' ∧ FPM g0 g' ∧ RPM nc (pS (PDh g0) day i P) g' := by
  have hv := HM_PV hx
  obtain ⟨⟨hm0, e2, n4⟩, hk⟩ := hx
  have hm := FPM_cm hf hm0
  obtain ⟨h1, h2, h3, h4⟩ := hk i (by omega) (by omega)
  have i0' : (0 : Int) ≤ i := by omega
  have i1' : (i : Int) < nc := by omega
  have i4 : (i : Int) < 4 := by omega
  have e7 : ∀ i, mrd g 237 i = mrd g0 237 i := fun i => hf.2 _ _ (by omega)
  have e40 : ∀ i, mrd g 240 i = mrd g0 240 i := fun i => hf.2 _ _ (by omega)
  have gp := m_planLong (d := d + 1) (k := (i : Int)) hm i0' i4 (by rw [e7]; exact h1)
  rw [PN_eq e7] at gp
  obtain ⟨⟨r1, r2, r3, r4, r5, r6⟩, j1, j2, j3, j4, j5, j6⟩ := pm_K hm i0' i4
  obtain ⟨f1, f2, f3⟩ := hP i i0' i1'
  have f2' : P.2.1 i ≤ (PN g0 i : Int) := f2.2
  obtain ⟨b1, b2, b3, b4⟩ := hR.1 i i0' i1'
  have ci : (i : Int) < mrd g 240 2 := by rw [e40, e2]; exact i1'
  have ic := inC hm (j := 2) (by decide) (by decide)
  have skip : ¬ pC (PDh g0) day i P → pS (PDh g0) day i P = P := fun z => if_neg z
  by_cases c1 : P.2.1 i < (PN g0 i : Int)
  · by_cases c2 : day < P.1 i
    · have c : ¬ pC (PDh g0) day i P := fun z => by have := z.2.1; omega
      refine ⟨g, l4, l5, ?_, hf, by rw [skip c]; exact hR⟩
      rw [e308_4]
      simp only [e308_0, e308_1, e308_2, e308_3, e308_5, e308_6, e308_9, e308_10, e308_11, e308_14, e308_15, e308_18, e308_19, e308_20, e308_21, e308_22, e308_25, e308_28, e308_29, e308_32, e308_33, e308_34, e308_35, e308_38, e308_39, e308_40, e308_41, e308_44, e308_45, e308_46, e308_49, e308_50, e308_52, e308_53, e308_56, e308_58, e308_60, e308_61, e308_62, e308_64, e308_66, e308_69, e308_70, e308_73, e308_75, e308_76, e308_77, e308_80, e308_81, e308_84, e308_86, e308_87, e308_88, e308_89, e308_92, e308_93, e308_94, e308_95, e308_96, e308_97, e308_98, e308_101, e308_102, e308_103, e308_104, e308_105, e308_106, e308_109, e308_110, e308_111, e308_112, e308_113, e308_114, e308_115, e308_118, e308_119, e308_120, e308_121, e308_122, e308_124, e308_127, e308_128, e308_129, e308_130, e308_133, e308_134, e308_135, e308_136, e308_137, e308_138, e308_139, e308_141, e308_144, e308_145, e308_148, e308_150, e308_151, e308_154, e308_155, e308_156, e308_158, e308_159, e308_160, e308_163, e308_164, e308_167, e308_168, e308_169, e308_170, e308_171, e308_172, e308_175, e308_178, e308_179, psh0, psh1, psh3, true_or, or_true, eq_self, Option.bind_some, List.length_nil, List.length_cons, Nat.reduceAdd, Nat.reduceLeDiff, Nat.zero_le, ↓reduceIte, Int.reduceLT, Int.reduceEq, Int.reduceLE, Int.reduceNeg, Int.reduceAdd, Int.reduceMul, Int.reduceSub, ne_eq, not_true_eq_false, not_false_eq_true, and_true, true_and, and_false, false_and, c3lt, c3gt, c3eq, Bool.false_eq_true, isK_wr, inA_wr, inR_wr, hm.1, mC hm, ic, ci, r1, r2, j1, j2, b1, b2, gp, c1, c2]
    · obtain ⟨k1, k2, k3⟩ := h4 (P.2.1 i) f2.1 c1
      have xl : pL (PDh g0) P i = mrd g0 238 (60 * i + P.2.1 i) := rfl
      have xm : pM (PDh g0) P i = mrd g0 240 (40 + pL (PDh g0) P i) := rfl
      have xo : pO (PDh g0) day P i = day + dyF (mrd g0 240 (16 + pL (PDh g0) P i)) (mrd g0 240 (64 + i)) := rfl
      rw [← xl] at k1 k2 k3
      have gn := m_numberOf (d := d + 1) (t := (i : Int)) (p := P.2.1 i) hm i0' i4 f2.1 (by omega)
      rw [hf.2 238 _ (by omega), ← xl] at gn
      have wl : w32 (pL (PDh g0) P i) = pL (PDh g0) P i := w32_id (by omega) (by omega)
      have w4 : w32 (40 + pL (PDh g0) P i) = 40 + pL (PDh g0) P i := w32_id (by omega) (by omega)
      have i40 := inC hm (j := 40 + pL (PDh g0) P i) (by omega) (by omega)
      have z5 : mrd g 240 (40 + pL (PDh g0) P i) = pM (PDh g0) P i := by rw [e40, xm]
      rw [← xm] at k2
      have hdy := dyF_rng k3 h3
      by_cases c3 : pM (PDh g0) P i < 0 ∨ P.2.2.2.1 (pM (PDh g0) P i) ≤ day
      · have c : pC (PDh g0) day i P := ⟨c1, by omega, c3⟩
        have e : pS (PDh g0) day i P = pB (PDh g0) day i P := if_pos c
        rw [e]
        have w5 : w32 (12 * (i : Int)) = 12 * i := w32_id (by omega) (by omega)
        have w6 : w32 (12 * (i : Int) + P.2.1 i) = 12 * i + P.2.1 i := w32_id (by omega) (by omega)
        have w7 : w32 (day - P.1 i) = day - P.1 i := w32_id (by omega) (by omega)
        have w8 : w32 (P.2.2.1 i + (day - P.1 i)) = P.2.2.1 i + (day - P.1 i) := w32_id (by omega) (by omega)
        have w9 : w32 (P.2.1 i + 1) = P.2.1 i + 1 := w32_id (by omega) (by omega)
        have w10 : w32 (day + dyF (mrd g0 240 (16 + pL (PDh g0) P i)) (mrd g0 240 (64 + i))) = pO (PDh g0) day P i := by rw [xo]; exact w32_id (by omega) (by omega)
        have i54 := j6 (P.2.1 i) f2.1 (by omega)
        have gd : ∀ v1 v2, EV (d + 1) 251 0 [(2, 235), (0, (i : Int)), (0, pL (PDh g0) P i)] [] (mwr (mwr g 254 (12 * i + P.2.1 i) v1) 253 i v2) = some ((0, dyF (mrd g0 240 (16 + pL (PDh g0) P i)) (mrd g0 240 (64 + i))), mwr (mwr g 254 (12 * i + P.2.1 i) v1) 253 i v2) := fun v1 v2 => by
          have hm2 : CM (mwr (mwr g 254 (12 * i + P.2.1 i) v1) 253 i v2) := FPM_cm (FPM_wr (FPM_wr hf (by omega)) (by omega)) hm0
          have e3 : ∀ j, mrd (mwr (mwr g 254 (12 * i + P.2.1 i) v1) 253 i v2) 240 j = mrd g0 240 j := fun j => by rw [rdn1 (by decide), rdn1 (by decide), e40]
          rw [m_daysOf hm2 i0' i4 k1.1 k1.2 (by rw [e3]; exact k3) (by rw [e3]; exact h3), e3, e3]
          rfl
        refine ⟨BM g i day (pO (PDh g0) day P i) (pM (PDh g0) P i), (0, pL (PDh g0) P i), (0, pM (PDh g0) P i), ?_, FPM_B hf, RPM_B n4 i0' i1' hv hP (by omega) hR k2⟩
        unfold BM BM5
        rw [e308_4, b1, b2, b3]
        by_cases cm : pM (PDh g0) P i < 0
        · rw [if_pos cm]
          simp only [e308_0, e308_1, e308_2, e308_3, e308_5, e308_6, e308_9, e308_10, e308_11, e308_14, e308_15, e308_18, e308_19, e308_20, e308_21, e308_22, e308_25, e308_28, e308_29, e308_32, e308_33, e308_34, e308_35, e308_38, e308_39, e308_40, e308_41, e308_44, e308_45, e308_46, e308_49, e308_50, e308_52, e308_53, e308_56, e308_58, e308_60, e308_61, e308_62, e308_64, e308_66, e308_69, e308_70, e308_73, e308_75, e308_76, e308_77, e308_80, e308_81, e308_84, e308_86, e308_87, e308_88, e308_89, e308_92, e308_93, e308_94, e308_95, e308_96, e308_97, e308_98, e308_101, e308_102, e308_103, e308_104, e308_105, e308_106, e308_109, e308_110, e308_111, e308_112, e308_113, e308_114, e308_115, e308_118, e308_119, e308_120, e308_121, e308_122, e308_124, e308_127, e308_128, e308_129, e308_130, e308_133, e308_134, e308_135, e308_136, e308_137, e308_138, e308_139, e308_141, e308_144, e308_145, e308_148, e308_150, e308_151, e308_154, e308_155, e308_156, e308_158, e308_159, e308_160, e308_163, e308_164, e308_167, e308_168, e308_169, e308_170, e308_171, e308_172, e308_175, e308_178, e308_179, psh0, psh1, psh3, true_or, or_true, eq_self, Option.bind_some, List.length_nil, List.length_cons, Nat.reduceAdd, Nat.reduceLeDiff, Nat.zero_le, ↓reduceIte, Int.reduceLT, Int.reduceEq, Int.reduceLE, Int.reduceNeg, Int.reduceAdd, Int.reduceMul, Int.reduceSub, ne_eq, not_true_eq_false, not_false_eq_true, and_true, true_and, and_false, false_and, c3lt, c3gt, c3eq, Bool.false_eq_true, isK_wr, inA_wr, inR_wr, hm.1, mC hm, ic, ci, r1, r2, r3, r4, j1, j2, j3, b1, b2, b3, gp, c1, c2, gn, wl, w4, i40, z5, cm, w5, w6, w7, w8, w9, w10, i54, rd_wr, gd]
        · rw [if_neg cm]
          obtain ⟨-, -, -, -, -, j5', -⟩ := pm_K hm (k := pM (PDh g0) P i) (by omega) k2.2
          have c4 : ¬ day < mrd g 256 (pM (PDh g0) P i) := by
            rw [hR.2 _ (by omega) k2.2]
            rcases c3 with z | z <;> omega
          simp only [e308_0, e308_1, e308_2, e308_3, e308_5, e308_6, e308_9, e308_10, e308_11, e308_14, e308_15, e308_18, e308_19, e308_20, e308_21, e308_22, e308_25, e308_28, e308_29, e308_32, e308_33, e308_34, e308_35, e308_38, e308_39, e308_40, e308_41, e308_44, e308_45, e308_46, e308_49, e308_50, e308_52, e308_53, e308_56, e308_58, e308_60, e308_61, e308_62, e308_64, e308_66, e308_69, e308_70, e308_73, e308_75, e308_76, e308_77, e308_80, e308_81, e308_84, e308_86, e308_87, e308_88, e308_89, e308_92, e308_93, e308_94, e308_95, e308_96, e308_97, e308_98, e308_101, e308_102, e308_103, e308_104, e308_105, e308_106, e308_109, e308_110, e308_111, e308_112, e308_113, e308_114, e308_115, e308_118, e308_119, e308_120, e308_121, e308_122, e308_124, e308_127, e308_128, e308_129, e308_130, e308_133, e308_134, e308_135, e308_136, e308_137, e308_138, e308_139, e308_141, e308_144, e308_145, e308_148, e308_150, e308_151, e308_154, e308_155, e308_156, e308_158, e308_159, e308_160, e308_163, e308_164, e308_167, e308_168, e308_169, e308_170, e308_171, e308_172, e308_175, e308_178, e308_179, psh0, psh1, psh3, true_or, or_true, eq_self, Option.bind_some, List.length_nil, List.length_cons, Nat.reduceAdd, Nat.reduceLeDiff, Nat.zero_le, ↓reduceIte, Int.reduceLT, Int.reduceEq, Int.reduceLE, Int.reduceNeg, Int.reduceAdd, Int.reduceMul, Int.reduceSub, ne_eq, not_true_eq_false, not_false_eq_true, and_true, true_and, and_false, false_and, c3lt, c3gt, c3eq, Bool.false_eq_true, isK_wr, inA_wr, inR_wr, hm.1, mC hm, ic, ci, r1, r2, r3, r4, r6, j1, j2, j3, j5', b1, b2, b3, gp, c1, c2, c4, gn, wl, w4, i40, z5, cm, w5, w6, w7, w8, w9, w10, i54, rd_wr, gd]
      · have c : ¬ pC (PDh g0) day i P := fun z => c3 z.2.2
        have cm : ¬ pM (PDh g0) P i < 0 := fun z => c3 (Or.inl z)
        obtain ⟨-, -, -, -, -, j5', -⟩ := pm_K hm (k := pM (PDh g0) P i) (by omega) k2.2
        have c4 : day < mrd g 256 (pM (PDh g0) P i) := by
          rw [hR.2 _ (by omega) k2.2]
          have : ¬ P.2.2.2.1 (pM (PDh g0) P i) ≤ day := fun z => c3 (Or.inr z)
          omega
        refine ⟨g, (0, pL (PDh g0) P i), (0, pM (PDh g0) P i), ?_, hf, by rw [skip c]; exact hR⟩
        rw [e308_4]
        simp only [e308_0, e308_1, e308_2, e308_3, e308_5, e308_6, e308_9, e308_10, e308_11, e308_14, e308_15, e308_18, e308_19, e308_20, e308_21, e308_22, e308_25, e308_28, e308_29, e308_32, e308_33, e308_34, e308_35, e308_38, e308_39, e308_40, e308_41, e308_44, e308_45, e308_46, e308_49, e308_50, e308_52, e308_53, e308_56, e308_58, e308_60, e308_61, e308_62, e308_64, e308_66, e308_69, e308_70, e308_73, e308_75, e308_76, e308_77, e308_80, e308_81, e308_84, e308_86, e308_87, e308_88, e308_89, e308_92, e308_93, e308_94, e308_95, e308_96, e308_97, e308_98, e308_101, e308_102, e308_103, e308_104, e308_105, e308_106, e308_109, e308_110, e308_111, e308_112, e308_113, e308_114, e308_115, e308_118, e308_119, e308_120, e308_121, e308_122, e308_124, e308_127, e308_128, e308_129, e308_130, e308_133, e308_134, e308_135, e308_136, e308_137, e308_138, e308_139, e308_141, e308_144, e308_145, e308_148, e308_150, e308_151, e308_154, e308_155, e308_156, e308_158, e308_159, e308_160, e308_163, e308_164, e308_167, e308_168, e308_169, e308_170, e308_171, e308_172, e308_175, e308_178, e308_179, psh0, psh1, psh3, true_or, or_true, eq_self, Option.bind_some, List.length_nil, List.length_cons, Nat.reduceAdd, Nat.reduceLeDiff, Nat.zero_le, ↓reduceIte, Int.reduceLT, Int.reduceEq, Int.reduceLE, Int.reduceNeg, Int.reduceAdd, Int.reduceMul, Int.reduceSub, ne_eq, not_true_eq_false, not_false_eq_true, and_true, true_and, and_false, false_and, c3lt, c3gt, c3eq, Bool.false_eq_true, isK_wr, inA_wr, inR_wr, hm.1, mC hm, ic, ci, r1, r2, r6, j1, j2, j5', b1, b2, gp, c1, c2, c4, gn, wl, w4, i40, z5, cm]
  · have c : ¬ pC (PDh g0) day i P := fun z => c1 z.1
    refine ⟨g, l4, l5, ?_, hf, by rw [skip c]; exact hR⟩
    rw [e308_4]
    simp only [e308_0, e308_1, e308_2, e308_3, e308_5, e308_6, e308_9, e308_10, e308_11, e308_14, e308_15, e308_18, e308_19, e308_20, e308_21, e308_22, e308_25, e308_28, e308_29, e308_32, e308_33, e308_34, e308_35, e308_38, e308_39, e308_40, e308_41, e308_44, e308_45, e308_46, e308_49, e308_50, e308_52, e308_53, e308_56, e308_58, e308_60, e308_61, e308_62, e308_64, e308_66, e308_69, e308_70, e308_73, e308_75, e308_76, e308_77, e308_80, e308_81, e308_84, e308_86, e308_87, e308_88, e308_89, e308_92, e308_93, e308_94, e308_95, e308_96, e308_97, e308_98, e308_101, e308_102, e308_103, e308_104, e308_105, e308_106, e308_109, e308_110, e308_111, e308_112, e308_113, e308_114, e308_115, e308_118, e308_119, e308_120, e308_121, e308_122, e308_124, e308_127, e308_128, e308_129, e308_130, e308_133, e308_134, e308_135, e308_136, e308_137, e308_138, e308_139, e308_141, e308_144, e308_145, e308_148, e308_150, e308_151, e308_154, e308_155, e308_156, e308_158, e308_159, e308_160, e308_163, e308_164, e308_167, e308_168, e308_169, e308_170, e308_171, e308_172, e308_175, e308_178, e308_179, psh0, psh1, psh3, true_or, or_true, eq_self, Option.bind_some, List.length_nil, List.length_cons, Nat.reduceAdd, Nat.reduceLeDiff, Nat.zero_le, ↓reduceIte, Int.reduceLT, Int.reduceEq, Int.reduceLE, Int.reduceNeg, Int.reduceAdd, Int.reduceMul, Int.reduceSub, ne_eq, not_true_eq_false, not_false_eq_true, and_true, true_and, and_false, false_and, c3lt, c3gt, c3eq, Bool.false_eq_true, isK_wr, inA_wr, inR_wr, hm.1, mC hm, ic, ci, r2, j2, b2, gp, c1]
theorem bg_loop {nc : Nat} {S : PSt} (hx : HM g0 nc) (d0 : 0 ≤ day) (d1 : day ≤ 1440) (hI : PI (PDh g0) nc day S) (n : Nat) : ∀ (i : Nat) (g : AM) (l4 l5 : AV), i + n = nc → RPM nc (pD (PDh g0) day i S) g → FPM g0 g → ∃ g', EV (d + 2) 308 4 [(2, 235), (0, day), (0, su i (lf (PDh g0) (pD (PDh g0) day i S))), (0, (i : Int)), l4, l5] [] g = some ((0, su nc (lf (PDh g0) (pD (PDh g0) day nc S))), g') ∧ RPM nc (pD (PDh g0) day nc S) g' ∧ FPM g0 g' := by
  have hv := HM_PV hx
  induction n with
  | zero =>
    intro i g l4 l5 hi hR hf
    have e : i = nc := by omega
    subst e
    have hm := FPM_cm hf hx.1.1
    have ic := inC hm (j := 2) (by decide) (by decide)
    have e2 : mrd g 240 2 = i := (hf.2 _ _ (by omega)).trans hx.1.2.1
    refine ⟨g, ?_, hR, hf⟩
    rw [e308_4]
    simp only [e308_0, e308_1, e308_2, e308_3, e308_5, e308_6, e308_9, e308_10, e308_11, e308_14, e308_15, e308_18, e308_19, e308_20, e308_21, e308_22, e308_25, e308_28, e308_29, e308_32, e308_33, e308_34, e308_35, e308_38, e308_39, e308_40, e308_41, e308_44, e308_45, e308_46, e308_49, e308_50, e308_52, e308_53, e308_56, e308_58, e308_60, e308_61, e308_62, e308_64, e308_66, e308_69, e308_70, e308_73, e308_75, e308_76, e308_77, e308_80, e308_81, e308_84, e308_86, e308_87, e308_88, e308_89, e308_92, e308_93, e308_94, e308_95, e308_96, e308_97, e308_98, e308_101, e308_102, e308_103, e308_104, e308_105, e308_106, e308_109, e308_110, e308_111, e308_112, e308_113, e308_114, e308_115, e308_118, e308_119, e308_120, e308_121, e308_122, e308_124, e308_127, e308_128, e308_129, e308_130, e308_133, e308_134, e308_135, e308_136, e308_137, e308_138, e308_139, e308_141, e308_144, e308_145, e308_148, e308_150, e308_151, e308_154, e308_155, e308_156, e308_158, e308_159, e308_160, e308_163, e308_164, e308_167, e308_168, e308_169, e308_170, e308_171, e308_172, e308_175, e308_178, e308_179, psh0, psh1, psh3, true_or, or_true, eq_self, Option.bind_some, List.length_nil, List.length_cons, Nat.reduceAdd, Nat.reduceLeDiff, Nat.zero_le, ↓reduceIte, Int.reduceLT, Int.reduceEq, Int.reduceLE, Int.reduceNeg, Int.reduceAdd, Int.reduceMul, Int.reduceSub, ne_eq, not_true_eq_false, not_false_eq_true, and_true, true_and, and_false, false_and, c3lt, c3gt, c3eq, Bool.false_eq_true, isK_wr, inA_wr, inR_wr, hm.1, mC hm, ic, e2, Int.lt_irrefl]
  | succ n ih =>
    intro i g l4 l5 hi hR hf
    have hP := PI_D hv d0 d1 hI i (by omega)
    have hP' := PI_D hv d0 d1 hI (i + 1) (by omega)
    have ih' := ih (i + 1)
    rw [pD] at ih' hP'
    generalize pD (PDh g0) day i S = P at hR hP ih' hP' ⊢
    obtain ⟨g1, l4', l5', a1, a2, a3⟩ := bg_head (d := d) (i := i) (x := su i (lf (PDh g0) P)) (l4 := l4) (l5 := l5) hx hf hR hP (by omega) d0 d1
    have es : su i (lf (PDh g0) (pS (PDh g0) day i P)) = su i (lf (PDh g0) P) := su_congr i (fun j j0 j1 => by
      unfold lf pS
      split
      · rw [(pB_1 (show j ≠ i by omega)).2.1]
      · rfl)
    have b0 := su_nn i (fun j j0 j1 => lf_nn hP j j0 (by omega))
    have b1 := su_le (f := lf (PDh g0) P) (g := fun _ => 12) i (fun j j0 j1 => by
      have := (hv j j0 (by omega)).1
      have := hP j j0 (by omega)
      unfold lf
      omega)
    rw [su_k] at b1
    have n4 := hx.1.2.2
    have gt := bg_tail (d := d + 1) (i := i) (x := su i (lf (PDh g0) P)) (l4 := l4') (l5 := l5') hx a2 a3 hP' (by omega) b0 (by omega)
    obtain ⟨g', c1, c2⟩ := ih' g1 l4' l5' (by omega) a3 a2
    refine ⟨g', ?_, c2⟩
    rw [a1, gt, ← c1, su, es]
theorem m_begins {nc : Nat} {S : PSt} (hx : HM g0 nc) (d0 : 0 ≤ day) (d1 : day ≤ 1440) (hI : PI (PDh g0) nc day S) (hR : RPM nc S g) (hf : FPM g0 g) : ∃ g', EV (d + 2) 308 0 [(2, 235), (0, day), (3, 0), (3, 0), (3, 0), (3, 0)] [] g = some ((0, su nc (lf (PDh g0) (pD (PDh g0) day nc S))), g') ∧ RPM nc (pD (PDh g0) day nc S) g' ∧ FPM g0 g' := by
  obtain ⟨g', a1, a2⟩ := bg_loop (d := d) hx d0 d1 hI nc 0 g (3, 0) (3, 0) (by omega) hR hf
  refine ⟨g', ?_, a2⟩
  rw [← a1]
  simp only [e308_0, e308_1, e308_2, e308_3]
  rfl
theorem pl_z {nc : Nat} (hx : HM g0 nc) (l2 l3 : AV) (n : Nat) : ∀ (i : Nat) (g : AM), i + n = 4 → FPM g0 g → (∀ k : Int, 0 ≤ k → k < i → mrd g 251 k = 0 ∧ mrd g 252 k = 0 ∧ mrd g 253 k = 0 ∧ mrd g 256 k = 0) → ∃ g', EV (d + 2) 309 46 [(2, 235), (0, (i : Int)), l2, l3] [] g = EV (d + 2) 309 87 [(2, 235), (0, 0), l2, l3] [] g' ∧ FPM g0 g' ∧ RPM nc (pR (PDh g0) nc 0) g' := by
  obtain ⟨⟨hm0, e2, n4⟩, hk⟩ := hx
  induction n with
  | zero =>
    intro i g hi hf hz
    have e : i = 4 := by omega
    subst e
    refine ⟨g, ?_, hf, fun k k0 k1 => ?_, fun m m0 m1 => (hz m m0 m1).2.2.2⟩
    · rw [e309_46]
      simp only [e309_0, e309_1, e309_2, e309_5, e309_6, e309_7, e309_10, e309_11, e309_12, e309_13, e309_14, e309_17, e309_18, e309_19, e309_22, e309_23, e309_24, e309_27, e309_28, e309_29, e309_32, e309_33, e309_34, e309_37, e309_38, e309_41, e309_44, e309_45, e309_47, e309_48, e309_51, e309_52, e309_55, e309_56, e309_57, e309_58, e309_59, e309_62, e309_63, e309_64, e309_65, e309_66, e309_69, e309_70, e309_71, e309_72, e309_73, e309_76, e309_77, e309_78, e309_79, e309_82, e309_85, e309_86, e309_88, e309_89, e309_92, e309_95, e309_98, e309_101, e309_102, e309_103, e309_104, e309_105, e309_106, e309_107, e309_110, e309_111, e309_112, e309_115, e309_116, e309_119, e309_120, e309_121, e309_122, e309_125, e309_126, e309_127, e309_128, e309_131, e309_132, e309_133, e309_136, e309_137, e309_140, e309_143, e309_144, e309_145, e309_148, e309_149, e309_150, e309_153, e309_154, psh0, psh1, psh3, true_or, or_true, eq_self, Option.bind_some, List.length_nil, List.length_cons, Nat.reduceAdd, Nat.reduceLeDiff, Nat.zero_le, ↓reduceIte, Int.reduceLT, Int.reduceEq, Int.reduceLE, Int.reduceNeg, Int.reduceAdd, Int.reduceMul, Int.reduceSub, ne_eq, not_true_eq_false, not_false_eq_true, and_true, true_and, and_false, false_and, c3lt, c3gt, c3eq, Bool.false_eq_true, isK_wr, inA_wr, inR_wr]
      rfl
    · obtain ⟨x1, x2, x3, x4⟩ := hz k k0 (by omega)
      exact ⟨x1, x2, x3, fun j j0 j1 => absurd (show j < 0 from j1) (by omega)⟩
  | succ n ih =>
    intro i g hi hf hz
    have hm := FPM_cm hf hm0
    have i0 : (0 : Int) ≤ i := by omega
    have i4 : (i : Int) < 4 := by omega
    obtain ⟨⟨r1, r2, r3, r4, r5, r6⟩, j1, j2, j3, j4, j5, j6⟩ := pm_K hm i0 i4
    have w1 : w32 ((i : Int) + 1) = ((i + 1 : Nat) : Int) := by rw [w32_id (by omega) (by omega)]; omega
    obtain ⟨g', a1, a2⟩ := ih (i + 1) (mwr (mwr (mwr (mwr g 251 i 0) 252 i 0) 253 i 0) 256 i 0) (by omega) (FPM_wr (FPM_wr (FPM_wr (FPM_wr hf (by omega)) (by omega)) (by omega)) (by omega)) (fun k k0 k1 => by
      by_cases c : k = i
      · rw [c]
        simp [rd_wr]
      · have := hz k k0 (by omega)
        simp only [rdn2 c]
        exact this)
    refine ⟨g', ?_, a2⟩
    rw [← a1, e309_46]
    simp only [e309_0, e309_1, e309_2, e309_5, e309_6, e309_7, e309_10, e309_11, e309_12, e309_13, e309_14, e309_17, e309_18, e309_19, e309_22, e309_23, e309_24, e309_27, e309_28, e309_29, e309_32, e309_33, e309_34, e309_37, e309_38, e309_41, e309_44, e309_45, e309_47, e309_48, e309_51, e309_52, e309_55, e309_56, e309_57, e309_58, e309_59, e309_62, e309_63, e309_64, e309_65, e309_66, e309_69, e309_70, e309_71, e309_72, e309_73, e309_76, e309_77, e309_78, e309_79, e309_82, e309_85, e309_86, e309_88, e309_89, e309_92, e309_95, e309_98, e309_101, e309_102, e309_103, e309_104, e309_105, e309_106, e309_107, e309_110, e309_111, e309_112, e309_115, e309_116, e309_119, e309_120, e309_121, e309_122, e309_125, e309_126, e309_127, e309_128, e309_131, e309_132, e309_133, e309_136, e309_137, e309_140, e309_143, e309_144, e309_145, e309_148, e309_149, e309_150, e309_153, e309_154, psh0, psh1, psh3, true_or, or_true, eq_self, Option.bind_some, List.length_nil, List.length_cons, Nat.reduceAdd, Nat.reduceLeDiff, Nat.zero_le, ↓reduceIte, Int.reduceLT, Int.reduceEq, Int.reduceLE, Int.reduceNeg, Int.reduceAdd, Int.reduceMul, Int.reduceSub, ne_eq, not_true_eq_false, not_false_eq_true, and_true, true_and, and_false, false_and, c3lt, c3gt, c3eq, Bool.false_eq_true, isK_wr, inA_wr, inR_wr, i4, hm.1, r1, r2, r3, r6, j1, j2, j3, j5, rd_wr, w1]
theorem pl_w {nc N : Nat} (hx : HM g0 nc) (hN : N ≤ 1411) (hz : su nc (lf (PDh g0) (pR (PDh g0) nc N)) = 0) (hpos : ∀ i : Nat, 1 ≤ i → i < N → 0 < su nc (lf (PDh g0) (pR (PDh g0) nc i))) (l2 l3 : AV) (n : Nat) : ∀ (j : Nat) (g : AM), j + n + 1 = N → FPM g0 g → RPM nc (pR (PDh g0) nc j) g → ∃ g' x, EV (d + 3) 309 87 [(2, 235), (0, (j : Int)), l2, l3] [] g = EV (d + 3) 309 101 [(2, 235), (0, x), l2, l3] [] g' ∧ FPM g0 g' ∧ RPM nc (pR (PDh g0) nc N) g' := by
  induction n with
  | zero =>
    intro j g hj hf hR
    have hm := FPM_cm hf hx.1.1
    obtain ⟨g1, -, -⟩ := run_pr (HM_PV hx) j (by omega) (fun i i1 i2 => hpos i i1 (by omega))
    obtain ⟨g', a1, a2, a3⟩ := m_begins (d := d) (day := (j : Int)) hx (by omega) (by omega) g1 hR hf
    have e : j + 1 = N := by omega
    have a1 : EV (d + 2) 308 0 [(2, 235), (0, (j : Int)), (3, 0), (3, 0), (3, 0), (3, 0)] [] g = some ((0, su nc (lf (PDh g0) (pR (PDh g0) nc (j + 1)))), g') := a1
    have a2 : RPM nc (pR (PDh g0) nc (j + 1)) g' := a2
    rw [e] at a1 a2
    rw [hz] at a1
    refine ⟨g', j, ?_, a3, a2⟩
    rw [e309_87]
    simp only [e309_0, e309_1, e309_2, e309_5, e309_6, e309_7, e309_10, e309_11, e309_12, e309_13, e309_14, e309_17, e309_18, e309_19, e309_22, e309_23, e309_24, e309_27, e309_28, e309_29, e309_32, e309_33, e309_34, e309_37, e309_38, e309_41, e309_44, e309_45, e309_46, e309_47, e309_48, e309_51, e309_52, e309_55, e309_56, e309_57, e309_58, e309_59, e309_62, e309_63, e309_64, e309_65, e309_66, e309_69, e309_70, e309_71, e309_72, e309_73, e309_76, e309_77, e309_78, e309_79, e309_82, e309_85, e309_86, e309_88, e309_89, e309_92, e309_95, e309_98, e309_102, e309_103, e309_104, e309_105, e309_106, e309_107, e309_110, e309_111, e309_112, e309_115, e309_116, e309_119, e309_120, e309_121, e309_122, e309_125, e309_126, e309_127, e309_128, e309_131, e309_132, e309_133, e309_136, e309_137, e309_140, e309_143, e309_144, e309_145, e309_148, e309_149, e309_150, e309_153, e309_154, psh0, psh1, psh3, true_or, or_true, eq_self, Option.bind_some, List.length_nil, List.length_cons, Nat.reduceAdd, Nat.reduceLeDiff, Nat.zero_le, ↓reduceIte, Int.reduceLT, Int.reduceEq, Int.reduceLE, Int.reduceNeg, Int.reduceAdd, Int.reduceMul, Int.reduceSub, ne_eq, not_true_eq_false, not_false_eq_true, and_true, true_and, and_false, false_and, c3lt, c3gt, c3eq, Bool.false_eq_true, isK_wr, inA_wr, inR_wr, hm.1, a1]
  | succ n ih =>
    intro j g hj hf hR
    have hm := FPM_cm hf hx.1.1
    obtain ⟨g1, -, -⟩ := run_pr (HM_PV hx) j (by omega) (fun i i1 i2 => hpos i i1 (by omega))
    obtain ⟨g2, a1, a2, a3⟩ := m_begins (d := d) (day := (j : Int)) hx (by omega) (by omega) g1 hR hf
    have a1 : EV (d + 2) 308 0 [(2, 235), (0, (j : Int)), (3, 0), (3, 0), (3, 0), (3, 0)] [] g = some ((0, su nc (lf (PDh g0) (pR (PDh g0) nc (j + 1)))), g2) := a1
    have hp := hpos (j + 1) (by omega) (by omega)
    have w1 : w32 ((j : Int) + 1) = ((j + 1 : Nat) : Int) := by rw [w32_id (by omega) (by omega)]; omega
    obtain ⟨g', x, b1, b2⟩ := ih (j + 1) g2 (by omega) a3 a2
    refine ⟨g', x, ?_, b2⟩
    rw [← b1, e309_87]
    simp only [e309_0, e309_1, e309_2, e309_5, e309_6, e309_7, e309_10, e309_11, e309_12, e309_13, e309_14, e309_17, e309_18, e309_19, e309_22, e309_23, e309_24, e309_27, e309_28, e309_29, e309_32, e309_33, e309_34, e309_37, e309_38, e309_41, e309_44, e309_45, e309_46, e309_47, e309_48, e309_51, e309_52, e309_55, e309_56, e309_57, e309_58, e309_59, e309_62, e309_63, e309_64, e309_65, e309_66, e309_69, e309_70, e309_71, e309_72, e309_73, e309_76, e309_77, e309_78, e309_79, e309_82, e309_85, e309_86, e309_88, e309_89, e309_92, e309_95, e309_98, e309_102, e309_103, e309_104, e309_105, e309_106, e309_107, e309_110, e309_111, e309_112, e309_115, e309_116, e309_119, e309_120, e309_121, e309_122, e309_125, e309_126, e309_127, e309_128, e309_131, e309_132, e309_133, e309_136, e309_137, e309_140, e309_143, e309_144, e309_145, e309_148, e309_149, e309_150, e309_153, e309_154, psh0, psh1, psh3, true_or, or_true, eq_self, Option.bind_some, List.length_nil, List.length_cons, Nat.reduceAdd, Nat.reduceLeDiff, Nat.zero_le, ↓reduceIte, Int.reduceLT, Int.reduceEq, Int.reduceLE, Int.reduceNeg, Int.reduceAdd, Int.reduceMul, Int.reduceSub, ne_eq, not_true_eq_false, not_false_eq_true, and_true, true_and, and_false, false_and, c3lt, c3gt, c3eq, Bool.false_eq_true, isK_wr, inA_wr, inR_wr, hm.1, a1, hp, w1]
theorem pl_f {nc : Nat} {S : PSt} (hx : HM g0 nc) (hb : ∀ k : Int, 0 ≤ k → k < nc → S.1 k ≤ 2000) (l1 : AV) (n : Nat) : ∀ (i : Nat) (g : AM), i + n = nc → FPM g0 g → RPM nc S g → (∀ k : Int, 0 ≤ k → k < i → mrd g 255 k = (PN g0 k : Int)) → ∃ g', EV (d + 2) 309 105 [(2, 235), l1, (0, dn i S.1), (0, (i : Int))] [] g = EV (d + 2) 309 143 [(2, 235), l1, (0, dn nc S.1), (0, (nc : Int))] [] g' ∧ FPM g0 g' ∧ RPM nc S g' ∧ ∀ k : Int, 0 ≤ k → k < nc → mrd g' 255 k = (PN g0 k : Int) := by
  obtain ⟨⟨hm0, e2, n4⟩, hk⟩ := hx
  induction n with
  | zero =>
    intro i g hi hf hR hz
    have e : i = nc := by omega
    subst e
    have hm := FPM_cm hf hm0
    have ic := inC hm (j := 2) (by decide) (by decide)
    have e2' : mrd g 240 2 = i := (hf.2 _ _ (by omega)).trans e2
    refine ⟨g, ?_, hf, hR, hz⟩
    rw [e309_105]
    simp only [e309_0, e309_1, e309_2, e309_5, e309_6, e309_7, e309_10, e309_11, e309_12, e309_13, e309_14, e309_17, e309_18, e309_19, e309_22, e309_23, e309_24, e309_27, e309_28, e309_29, e309_32, e309_33, e309_34, e309_37, e309_38, e309_41, e309_44, e309_45, e309_46, e309_47, e309_48, e309_51, e309_52, e309_55, e309_56, e309_57, e309_58, e309_59, e309_62, e309_63, e309_64, e309_65, e309_66, e309_69, e309_70, e309_71, e309_72, e309_73, e309_76, e309_77, e309_78, e309_79, e309_82, e309_85, e309_86, e309_87, e309_88, e309_89, e309_92, e309_95, e309_98, e309_101, e309_102, e309_103, e309_104, e309_106, e309_107, e309_110, e309_111, e309_112, e309_115, e309_116, e309_119, e309_120, e309_121, e309_122, e309_125, e309_126, e309_127, e309_128, e309_131, e309_132, e309_133, e309_136, e309_137, e309_140, e309_144, e309_145, e309_148, e309_149, e309_150, e309_153, e309_154, psh0, psh1, psh3, true_or, or_true, eq_self, Option.bind_some, List.length_nil, List.length_cons, Nat.reduceAdd, Nat.reduceLeDiff, Nat.zero_le, ↓reduceIte, Int.reduceLT, Int.reduceEq, Int.reduceLE, Int.reduceNeg, Int.reduceAdd, Int.reduceMul, Int.reduceSub, ne_eq, not_true_eq_false, not_false_eq_true, and_true, true_and, and_false, false_and, c3lt, c3gt, c3eq, Bool.false_eq_true, isK_wr, inA_wr, inR_wr, hm.1, mC hm, ic, e2', Int.lt_irrefl]
  | succ n ih =>
    intro i g hi hf hR hz
    have hm := FPM_cm hf hm0
    have ic := inC hm (j := 2) (by decide) (by decide)
    have e2' : mrd g 240 2 = nc := (hf.2 _ _ (by omega)).trans e2
    have i0 : (0 : Int) ≤ i := by omega
    have i1 : (i : Int) < nc := by omega
    have i4 : (i : Int) < 4 := by omega
    obtain ⟨h1, h2, h3, h4⟩ := hk i i0 i1
    have e7 : ∀ i, mrd g 237 i = mrd g0 237 i := fun i => hf.2 _ _ (by omega)
    have gp := m_planLong (d := d + 1) (k := (i : Int)) hm i0 i4 (by rw [e7]; exact h1)
    rw [PN_eq e7] at gp
    obtain ⟨⟨r1, r2, r3, r4, r5, r6⟩, j1, j2, j3, j4, j5, j6⟩ := pm_K hm i0 i4
    have b1 : mrd g 251 i = S.1 i := (hR.1 i i0 i1).1
    have w1 : w32 ((i : Int) + 1) = ((i + 1 : Nat) : Int) := by rw [w32_id (by omega) (by omega)]; omega
    obtain ⟨g', a1, a2⟩ := ih (i + 1) (mwr g 255 i (PN g0 i : Int)) (by omega) (FPM_wr hf (by omega)) ⟨fun k k0 k1 => by
      simp only [rdn1 (show (251 : Int) ≠ 255 by decide), rdn1 (show (252 : Int) ≠ 255 by decide), rdn1 (show (253 : Int) ≠ 255 by decide), rdn1 (show (254 : Int) ≠ 255 by decide)]
      exact hR.1 k k0 k1, fun m m0 m1 => by rw [rdn1 (by decide)]; exact hR.2 m m0 m1⟩ (fun k k0 k1 => by
      rw [rd_wr]
      by_cases c : k = i
      · rw [if_pos ⟨rfl, c⟩, c]
      · rw [if_neg (fun z => c z.2)]
        exact hz k k0 (by omega))
    have ed : dn (i + 1) S.1 = if dn i S.1 < S.1 i then S.1 i else dn i S.1 := rfl
    refine ⟨g', ?_, a2⟩
    rw [← a1, e309_105, ed]
    simp only [e309_0, e309_1, e309_2, e309_5, e309_6, e309_7, e309_10, e309_11, e309_12, e309_13, e309_14, e309_17, e309_18, e309_19, e309_22, e309_23, e309_24, e309_27, e309_28, e309_29, e309_32, e309_33, e309_34, e309_37, e309_38, e309_41, e309_44, e309_45, e309_46, e309_47, e309_48, e309_51, e309_52, e309_55, e309_56, e309_57, e309_58, e309_59, e309_62, e309_63, e309_64, e309_65, e309_66, e309_69, e309_70, e309_71, e309_72, e309_73, e309_76, e309_77, e309_78, e309_79, e309_82, e309_85, e309_86, e309_87, e309_88, e309_89, e309_92, e309_95, e309_98, e309_101, e309_102, e309_103, e309_104, e309_106, e309_107, e309_110, e309_111, e309_112, e309_115, e309_116, e309_119, e309_120, e309_121, e309_122, e309_125, e309_126, e309_127, e309_128, e309_131, e309_132, e309_133, e309_136, e309_137, e309_140, e309_144, e309_145, e309_148, e309_149, e309_150, e309_153, e309_154, psh0, psh1, psh3, true_or, or_true, eq_self, Option.bind_some, List.length_nil, List.length_cons, Nat.reduceAdd, Nat.reduceLeDiff, Nat.zero_le, ↓reduceIte, Int.reduceLT, Int.reduceEq, Int.reduceLE, Int.reduceNeg, Int.reduceAdd, Int.reduceMul, Int.reduceSub, ne_eq, not_true_eq_false, not_false_eq_true, and_true, true_and, and_false, false_and, c3lt, c3gt, c3eq, Bool.false_eq_true, isK_wr, inA_wr, inR_wr, hm.1, mC hm, ic, e2', i1, r5, r1, j4, j1, gp, rd_wr, b1, w1]
end
