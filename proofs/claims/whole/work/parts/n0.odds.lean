/-! odds -/
section
variable {d : Nat} {h g g0 a b : AM} {s k seed many x : Int}
/-- the reference keeps the school's cells -/
theorem od_keep {l1 l2 l3 l5 l6 : AV} (hm0 : CM g0) (n : Nat) : ∀ (i : Nat) (g : AM), i + n = 128 → g.2 = g0.2 → (∀ x j, ¬ (x = 241 ∧ 0 ≤ j ∧ j < 128) → mrd g x j = mrd g0 x j) → (∀ j : Int, 0 ≤ j → j < i → mrd g 241 j = mrd g0 240 j) → ∃ g', EV d 323 78 [(2, 235), l1, l2, l3, (0, (i : Int)), l5, l6] [] g = EV d 323 106 [(2, 235), l1, l2, l3, (0, 128), l5, l6] [] g' ∧ g'.2 = g0.2 ∧ (∀ x j, ¬ (x = 241 ∧ 0 ≤ j ∧ j < 128) → mrd g' x j = mrd g0 x j) ∧ ∀ j : Int, 0 ≤ j → j < 128 → mrd g' 241 j = mrd g0 240 j := by
  induction n with
  | zero =>
    intro i g hi e2 ef ek
    have e : i = 128 := by omega
    subst e
    refine ⟨g, ?_, e2, ef, ek⟩
    rw [e323_78]
    simp only [e323_0, e323_1, e323_2, e323_5, e323_6, e323_7, e323_10, e323_11, e323_12, e323_15, e323_18, e323_19, e323_20, e323_23, e323_24, e323_25, e323_26, e323_27, e323_30, e323_33, e323_36, e323_37, e323_38, e323_39, e323_42, e323_43, e323_44, e323_45, e323_48, e323_51, e323_52, e323_53, e323_56, e323_57, e323_58, e323_61, e323_64, e323_65, e323_68, e323_69, e323_71, e323_74, e323_75, e323_76, e323_80, e323_83, e323_86, e323_87, e323_90, e323_92, e323_93, e323_96, e323_98, e323_99, e323_100, e323_103, e323_107, e323_109, e323_110, e323_112, e323_114, e323_115, e323_118, e323_119, e323_120, e323_122, e323_123, e323_126, e323_128, e323_129, e323_130, e323_131, e323_134, e323_137, e323_138, e323_141, e323_142, e323_143, e323_145, e323_146, e323_148, e323_150, e323_153, e323_156, e323_157, e323_160, e323_162, e323_163, e323_166, e323_168, e323_169, e323_170, e323_173, e323_176, e323_179, e323_182, e323_183, e323_185, e323_186, e323_187, e323_188, e323_191, psh0, psh1, psh3, true_or, or_true, eq_self, Option.bind_some, List.length_nil, List.length_cons, Nat.reduceAdd, Nat.reduceLeDiff, Nat.zero_le, ↓reduceIte, Int.reduceLT, Int.reduceEq, Int.reduceLE, Int.reduceNeg, Int.reduceAdd, Int.reduceMul, Int.reduceSub, ne_eq, not_true_eq_false, not_false_eq_true, and_true, true_and, and_false, false_and, c3lt, c3gt, c3eq, Bool.false_eq_true, isK_wr, inA_wr, inR_wr]
    rfl
  | succ n ih =>
    intro i g hi e2 ef ek
    have hm : CM g := ⟨(isK_eq e2).mpr hm0.1, Shp_eq e2 hm0.2.1, fun q hq => by
      have hd : ∀ q ∈ refT, q.1 ≠ 241 := by decide +kernel
      rw [← hm0.2.2 q hq]
      exact ef _ _ (fun z => hd q hq z.1)⟩
    have ci : (i : Int) < 128 := by omega
    have w1 : w32 ((i : Int) + 1) = ((i + 1 : Nat) : Int) := by rw [w32_id (by omega) (by omega)]; omega
    have m21 : mrd g 235 21 = 241 := rf_235_21 hm.2.2
    have j1 : inA g 241 16 i := ⟨kn_241 hm.2.1, by omega, by rw [ln_241 hm.2.1]; omega⟩
    have j2 := inC hm (j := (i : Int)) (by omega) (by omega)
    obtain ⟨g', z1, z2⟩ := ih (i + 1) (mwr g 241 i (mrd g 240 i)) (by omega) e2 (fun x j hx => by rw [rd_wr, if_neg (by omega)]; exact ef x j hx) (fun j j0 j1 => by
      rw [rd_wr]
      by_cases c : j = i
      · rw [if_pos ⟨rfl, c⟩, c]
        exact ef _ _ (by omega)
      · rw [if_neg (fun z => c z.2)]
        exact ek j j0 (by omega))
    refine ⟨g', ?_, z2⟩
    rw [← z1, e323_78]
    simp only [e323_0, e323_1, e323_2, e323_5, e323_6, e323_7, e323_10, e323_11, e323_12, e323_15, e323_18, e323_19, e323_20, e323_23, e323_24, e323_25, e323_26, e323_27, e323_30, e323_33, e323_36, e323_37, e323_38, e323_39, e323_42, e323_43, e323_44, e323_45, e323_48, e323_51, e323_52, e323_53, e323_56, e323_57, e323_58, e323_61, e323_64, e323_65, e323_68, e323_69, e323_71, e323_74, e323_75, e323_76, e323_80, e323_83, e323_86, e323_87, e323_90, e323_92, e323_93, e323_96, e323_98, e323_99, e323_100, e323_103, e323_107, e323_109, e323_110, e323_112, e323_114, e323_115, e323_118, e323_119, e323_120, e323_122, e323_123, e323_126, e323_128, e323_129, e323_130, e323_131, e323_134, e323_137, e323_138, e323_141, e323_142, e323_143, e323_145, e323_146, e323_148, e323_150, e323_153, e323_156, e323_157, e323_160, e323_162, e323_163, e323_166, e323_168, e323_169, e323_170, e323_173, e323_176, e323_179, e323_182, e323_183, e323_185, e323_186, e323_187, e323_188, e323_191, psh0, psh1, psh3, true_or, or_true, eq_self, Option.bind_some, List.length_nil, List.length_cons, Nat.reduceAdd, Nat.reduceLeDiff, Nat.zero_le, ↓reduceIte, Int.reduceLT, Int.reduceEq, Int.reduceLE, Int.reduceNeg, Int.reduceAdd, Int.reduceMul, Int.reduceSub, ne_eq, not_true_eq_false, not_false_eq_true, and_true, true_and, and_false, false_and, c3lt, c3gt, c3eq, Bool.false_eq_true, isK_wr, inA_wr, inR_wr, ci, hm.1, mC hm, m21, j1, j2, w1]
/-- and takes them back -/
theorem od_take {l1 l2 l3 l4 l5 : AV} (hm0 : CM g0) (n : Nat) : ∀ (i : Nat) (g : AM), i + n = 128 → g.2 = g0.2 → (∀ x j, ¬ (x = 240 ∧ 0 ≤ j ∧ j < 128) → mrd g x j = mrd g0 x j) → (∀ j : Int, 0 ≤ j → j < i → mrd g 240 j = mrd g0 241 j) → ∃ g', EV d 323 148 [(2, 235), l1, l2, l3, l4, l5, (0, (i : Int))] [] g = EV d 323 176 [(2, 235), l1, l2, l3, l4, l5, (0, 128)] [] g' ∧ g'.2 = g0.2 ∧ (∀ x j, ¬ (x = 240 ∧ 0 ≤ j ∧ j < 128) → mrd g' x j = mrd g0 x j) ∧ ∀ j : Int, 0 ≤ j → j < 128 → mrd g' 240 j = mrd g0 241 j := by
  induction n with
  | zero =>
    intro i g hi e2 ef ek
    have e : i = 128 := by omega
    subst e
    refine ⟨g, ?_, e2, ef, ek⟩
    rw [e323_148]
    simp only [e323_0, e323_1, e323_2, e323_5, e323_6, e323_7, e323_10, e323_11, e323_12, e323_15, e323_18, e323_19, e323_20, e323_23, e323_24, e323_25, e323_26, e323_27, e323_30, e323_33, e323_36, e323_37, e323_38, e323_39, e323_42, e323_43, e323_44, e323_45, e323_48, e323_51, e323_52, e323_53, e323_56, e323_57, e323_58, e323_61, e323_64, e323_65, e323_68, e323_69, e323_71, e323_74, e323_75, e323_76, e323_78, e323_80, e323_83, e323_86, e323_87, e323_90, e323_92, e323_93, e323_96, e323_98, e323_99, e323_100, e323_103, e323_106, e323_107, e323_109, e323_110, e323_112, e323_114, e323_115, e323_118, e323_119, e323_120, e323_122, e323_123, e323_126, e323_128, e323_129, e323_130, e323_131, e323_134, e323_137, e323_138, e323_141, e323_142, e323_143, e323_145, e323_146, e323_150, e323_153, e323_156, e323_157, e323_160, e323_162, e323_163, e323_166, e323_168, e323_169, e323_170, e323_173, e323_179, e323_182, e323_183, e323_185, e323_186, e323_187, e323_188, e323_191, psh0, psh1, psh3, true_or, or_true, eq_self, Option.bind_some, List.length_nil, List.length_cons, Nat.reduceAdd, Nat.reduceLeDiff, Nat.zero_le, ↓reduceIte, Int.reduceLT, Int.reduceEq, Int.reduceLE, Int.reduceNeg, Int.reduceAdd, Int.reduceMul, Int.reduceSub, ne_eq, not_true_eq_false, not_false_eq_true, and_true, true_and, and_false, false_and, c3lt, c3gt, c3eq, Bool.false_eq_true, isK_wr, inA_wr, inR_wr]
    rfl
  | succ n ih =>
    intro i g hi e2 ef ek
    have hm : CM g := ⟨(isK_eq e2).mpr hm0.1, Shp_eq e2 hm0.2.1, fun q hq => by
      have hd : ∀ q ∈ refT, q.1 ≠ 240 := by decide +kernel
      rw [← hm0.2.2 q hq]
      exact ef _ _ (fun z => hd q hq z.1)⟩
    have ci : (i : Int) < 128 := by omega
    have w1 : w32 ((i : Int) + 1) = ((i + 1 : Nat) : Int) := by rw [w32_id (by omega) (by omega)]; omega
    have m21 : mrd g 235 21 = 241 := rf_235_21 hm.2.2
    have j1 : inA g 241 16 i := ⟨kn_241 hm.2.1, by omega, by rw [ln_241 hm.2.1]; omega⟩
    have j2 := inC hm (j := (i : Int)) (by omega) (by omega)
    obtain ⟨g', z1, z2⟩ := ih (i + 1) (mwr g 240 i (mrd g 241 i)) (by omega) e2 (fun x j hx => by rw [rd_wr, if_neg (by omega)]; exact ef x j hx) (fun j j0 j1 => by
      rw [rd_wr]
      by_cases c : j = i
      · rw [if_pos ⟨rfl, c⟩, c]
        exact ef _ _ (by omega)
      · rw [if_neg (fun z => c z.2)]
        exact ek j j0 (by omega))
    refine ⟨g', ?_, z2⟩
    rw [← z1, e323_148]
    simp only [e323_0, e323_1, e323_2, e323_5, e323_6, e323_7, e323_10, e323_11, e323_12, e323_15, e323_18, e323_19, e323_20, e323_23, e323_24, e323_25, e323_26, e323_27, e323_30, e323_33, e323_36, e323_37, e323_38, e323_39, e323_42, e323_43, e323_44, e323_45, e323_48, e323_51, e323_52, e323_53, e323_56, e323_57, e323_58, e323_61, e323_64, e323_65, e323_68, e323_69, e323_71, e323_74, e323_75, e323_76, e323_78, e323_80, e323_83, e323_86, e323_87, e323_90, e323_92, e323_93, e323_96, e323_98, e323_99, e323_100, e323_103, e323_106, e323_107, e323_109, e323_110, e323_112, e323_114, e323_115, e323_118, e323_119, e323_120, e323_122, e323_123, e323_126, e323_128, e323_129, e323_130, e323_131, e323_134, e323_137, e323_138, e323_141, e323_142, e323_143, e323_145, e323_146, e323_150, e323_153, e323_156, e323_157, e323_160, e323_162, e323_163, e323_166, e323_168, e323_169, e323_170, e323_173, e323_179, e323_182, e323_183, e323_185, e323_186, e323_187, e323_188, e323_191, psh0, psh1, psh3, true_or, or_true, eq_self, Option.bind_some, List.length_nil, List.length_cons, Nat.reduceAdd, Nat.reduceLeDiff, Nat.zero_le, ↓reduceIte, Int.reduceLT, Int.reduceEq, Int.reduceLE, Int.reduceNeg, Int.reduceAdd, Int.reduceMul, Int.reduceSub, ne_eq, not_true_eq_false, not_false_eq_true, and_true, true_and, and_false, false_and, c3lt, c3gt, c3eq, Bool.false_eq_true, isK_wr, inA_wr, inR_wr, ci, hm.1, mC hm, m21, j1, j2, w1]
end
def OX (h a : AM) : Prop := a.2 = h.2 ∧ RRef a.1 ∧ ∀ x i, ¬ (113 ≤ x ∧ x ≤ 147 ∧ x ≠ 146) → mrd a x i = mrd h x i
def OB (g1 b : AM) : Prop := b.2 = g1.2 ∧ RRef b.1 ∧ (∀ x i, x ≠ 240 → x ≠ 241 → x ≠ 243 → ¬ (x = 235 ∧ (i = 27 ∨ (45 ≤ i ∧ i ≤ 51))) → mrd b x i = mrd g1 x i) ∧ (∀ i, mrd b 240 i = mrd g1 240 i) ∧ ∀ j : Int, 0 ≤ j → j < 128 → mrd b 241 j = mrd g1 240 j
set_option maxHeartbeats 1000000 in
theorem od_loop {d M : Nat} {h g1 : AM} {s k seed : Int} (hI : Inv h) (e8 : mrd h 0 8 = s) (hs : s = 162 ∨ s = 195) (h6 : mrd h (mrd h s 4) 6 = 1) (k0 : 0 ≤ k) (k1 : k < mrd h s 7) (s0 : 0 ≤ seed) (s1 : seed + M ≤ 10000) (M20 : M ≤ 20) (hm1 : CM g1) (hg : ∀ x i, x = 240 ∨ x = 242 → mrd g1 x i = mrd h x i) (n : Nat) : ∀ (i : Nat) (a b : AM) (c : Nat) (l6 : AV), i + n = M → c ≤ i → OX h a → OB g1 b → ∃ (a' b' : AM) (c' : Nat) (l6' : AV), EV (d + 20) 155 82 [(2, 0), (0, k), (0, seed), (0, (M : Int)), (0, (c : Int)), (0, (i : Int))] [] a = EV (d + 20) 155 143 [(2, 0), (0, k), (0, seed), (0, (M : Int)), (0, (c' : Int)), (0, (M : Int))] [] a' ∧ EV (d + 20) 323 112 [(2, 235), (0, k), (0, seed), (0, (M : Int)), (0, (c : Int)), (0, (i : Int)), l6] [] b = EV (d + 20) 323 182 [(2, 235), (0, k), (0, seed), (0, (M : Int)), (0, (c' : Int)), (0, (M : Int)), l6'] [] b' ∧ c' ≤ M ∧ OX h a' ∧ OB g1 b' := by
  obtain ⟨ca, ca2, R9, R10⟩ := cur_a hI e8
  obtain ⟨b6, b7, hv⟩ := cp_pre R9
  induction n with
  | zero =>
    intro i a b c l6 hi hc ha hb
    have e : i = M := by omega
    subst e
    refine ⟨a, b, c, l6, ?_, ?_, hc, ha, hb⟩
    · rw [e155_82]
      simp only [e155_0, e155_1, e155_4, e155_5, e155_8, e155_11, e155_12, e155_13, e155_16, e155_17, e155_18, e155_21, e155_22, e155_25, e155_28, e155_29, e155_30, e155_33, e155_34, e155_36, e155_39, e155_40, e155_41, e155_42, e155_43, e155_44, e155_47, e155_50, e155_51, e155_52, e155_55, e155_56, e155_57, e155_60, e155_63, e155_66, e155_69, e155_70, e155_72, e155_75, e155_76, e155_77, e155_79, e155_80, e155_84, e155_85, e155_88, e155_89, e155_92, e155_93, e155_96, e155_99, e155_100, e155_103, e155_104, e155_107, e155_108, e155_110, e155_111, e155_114, e155_115, e155_118, e155_119, e155_122, e155_125, e155_126, e155_127, e155_128, e155_131, e155_134, e155_137, e155_140, e155_144, e155_146, e155_147, e155_148, e155_149, e155_152, e155_153, e155_156, psh0, psh1, psh3, true_or, or_true, eq_self, Option.bind_some, List.length_nil, List.length_cons, Nat.reduceAdd, Nat.reduceLeDiff, Nat.zero_le, ↓reduceIte, Int.reduceLT, Int.reduceEq, Int.reduceLE, Int.reduceNeg, Int.reduceAdd, Int.reduceMul, Int.reduceSub, ne_eq, not_true_eq_false, not_false_eq_true, and_true, true_and, and_false, false_and, c3lt, c3gt, c3eq, Bool.false_eq_true, isK_wr, inA_wr, inR_wr, Int.lt_irrefl]
    · rw [e323_112]
      simp only [e323_0, e323_1, e323_2, e323_5, e323_6, e323_7, e323_10, e323_11, e323_12, e323_15, e323_18, e323_19, e323_20, e323_23, e323_24, e323_25, e323_26, e323_27, e323_30, e323_33, e323_36, e323_37, e323_38, e323_39, e323_42, e323_43, e323_44, e323_45, e323_48, e323_51, e323_52, e323_53, e323_56, e323_57, e323_58, e323_61, e323_64, e323_65, e323_68, e323_69, e323_71, e323_74, e323_75, e323_76, e323_80, e323_83, e323_86, e323_87, e323_90, e323_92, e323_93, e323_96, e323_98, e323_99, e323_100, e323_103, e323_106, e323_107, e323_109, e323_110, e323_114, e323_115, e323_118, e323_119, e323_120, e323_122, e323_123, e323_126, e323_128, e323_129, e323_130, e323_131, e323_134, e323_137, e323_138, e323_141, e323_142, e323_143, e323_145, e323_146, e323_150, e323_153, e323_156, e323_157, e323_160, e323_162, e323_163, e323_166, e323_168, e323_169, e323_170, e323_173, e323_176, e323_179, e323_183, e323_185, e323_186, e323_187, e323_188, e323_191, psh0, psh1, psh3, true_or, or_true, eq_self, Option.bind_some, List.length_nil, List.length_cons, Nat.reduceAdd, Nat.reduceLeDiff, Nat.zero_le, ↓reduceIte, Int.reduceLT, Int.reduceEq, Int.reduceLE, Int.reduceNeg, Int.reduceAdd, Int.reduceMul, Int.reduceSub, ne_eq, not_true_eq_false, not_false_eq_true, and_true, true_and, and_false, false_and, c3lt, c3gt, c3eq, Bool.false_eq_true, isK_wr, inA_wr, inR_wr, Int.lt_irrefl]
  | succ n ih =>
    intro i a b c l6 hi hc ha hb
    obtain ⟨a2, ar, af⟩ := id ha
    obtain ⟨b2, br, bf, bc, bk⟩ := id hb
    have ci : (i : Int) < M := by omega
    have hpa : Shp a := Shp_eq a2 hI.1
    have hmb : CM b := ⟨(isK_eq b2).mpr hm1.1, Shp_eq b2 hm1.2.1, br⟩
    have k0a : isK a 0 10 := kn_0 hpa
    have x3 : mrd a 0 3 = 113 := rf_0_3 ar
    have x5 : mrd a 0 5 = 147 := rf_0_5 ar
    have x8 : mrd a 0 8 = s := by rw [af _ _ (by omega)]; exact e8
    have s6 := S6_cur hs
    have csa : CS a s := CS_of hpa ar s6
    have ct : CS a 113 := CS_of hpa ar (by decide)
    have e113 : mrd a 113 4 = 119 := ar (113, 4, 119) (by decide +kernel)
    have gne : mrd h s 4 ≠ 119 := by omega
    have as4 : mrd a s 4 = mrd h s 4 := af _ _ (by omega)
    have bh : 162 ≤ s ∧ s ≤ 195 := by omega
    have zaf : ∀ x i, 147 < x → mrd a x i = mrd h x i := fun x i hx => af x i (by omega)
    -- the trial is a copy
    obtain ⟨a1, G1, ⟨F1, F2⟩, G2, G3, G4, G5, G6⟩ := x_copyFrom (d := d + 17) (h := a) (s1 := s) (s2 := 113) (a1 := mrd h s 4) (a2 := 119) hpa ar s6 (by decide) as4 e113 ca (by decide) (by omega) (fun z => gne z.symm) (AS_all _ s6 _ (by decide)) (AS_all _ (by decide) _ (by decide)) (AS_all _ s6 _ ca) (AS_all _ (by decide) _ ca) (by rw [zaf _ _ (by omega)]; exact b6) (by rw [zaf _ _ (by omega)]; exact b7) (fun l l0 l1 => by rw [zaf _ _ (by omega)] at l1 ⊢; exact hv l l0 l1) (by rw [zaf _ _ (by omega)]; exact R10.1)
    have r1 : RRef a1.1 := RRef_WC (s := 113) (a := 119) (by decide) (by decide) F2 ar
    have hp1 : Shp a1 := Shp_eq F1 hpa
    have wc : ∀ x q, WC 113 119 x q → 113 ≤ x ∧ x ≤ 145 := fun x q z => by unfold WC at z; omega
    have f1 : ∀ x q, x < 113 ∨ 145 < x → mrd a1 x q = mrd a x q := fun x q hx => F2 x q (fun z => by have := wc x q z; omega)
    have e4 : mrd a1 113 4 = 119 := r1 (113, 4, 119) (by decide +kernel)
    have yb : ∀ i, (mx a1 b).1 240 i = mrd h 240 i := fun i => (mxb (by decide) (by decide)).trans ((bc i).trans (hg _ _ (Or.inl rfl)))
    have yw : ∀ i, (mx a1 b).1 242 i = mrd h 242 i := fun i => (mxb (by decide) (by decide)).trans ((bf _ _ (by decide) (by decide) (by decide) (by omega)).trans (hg _ _ (Or.inr rfl)))
    have ya : ∀ x q, x < 235 → (mx a1 b).1 x q = mrd a1 x q := fun x q hx => mxa (by omega)
    have hR : RSch (mx a1 b).1 113 0 0 := by
      refine RSch_cp (m := mrd h) (s1 := s) (B1 := 0) (w1 := 0) (fun q q0 q1 => ?_) (fun l l0 l1 q q0 q1 => ?_) (fun k k0 k1 => ⟨fun q q0 q1 => ?_, fun q q0 q1 => ?_⟩) (fun i _ _ => yb _) (fun i _ _ => yw _) R9
      · rw [ya _ _ (by decide), G2 q q0 q1]; exact zaf _ _ (by omega)
      · have b62 := b6.2
        rw [ya _ _ (by omega), G3 l l0 (by rw [zaf _ _ (by omega)]; exact l1) q q0 q1]; exact zaf _ _ (by omega)
      · have b72 := b7.2
        rw [ya _ _ (by omega), (G4 k k0 (by rw [zaf _ _ (by omega)]; exact k1)).1 q q0 q1]; exact zaf _ _ (by omega)
      · have b72 := b7.2
        rw [ya _ _ (by omega), (G4 k k0 (by rw [zaf _ _ (by omega)]; exact k1)).2 q q0 q1]; exact zaf _ _ (by omega)
    have n7 : mrd a1 113 7 = mrd h s 7 := by rw [G2 7 (by decide) (by decide)]; exact zaf _ _ (by omega)
    have n6 : mrd a1 113 6 = mrd h s 6 := by rw [G2 6 (by decide) (by decide)]; exact zaf _ _ (by omega)
    have hA : RAge (mx a1 b).1 119 0 (mrd h s 7) (mrd h s 6) := by
      refine RAge_cp (m := mrd h) (a1 := mrd h s 4) (B1 := 0) ⟨?_, ?_⟩ (fun j j0 j1 q q0 q1 => ?_) (fun i _ _ => yb _) R10
      · rw [ya _ _ (by decide), G5.1]; exact zaf _ _ (by omega)
      · rw [ya _ _ (by decide), G5.2]; exact zaf _ _ (by omega)
      · rw [ya _ _ (by omega), G6 j j0 j1 q q0 q1]; exact zaf _ _ (by omega)
    have h61 : mrd a1 119 6 = 1 := by rw [G5.1, zaf _ _ (by omega)]; exact h6
    have ws : w32 (seed + (i : Int)) = seed + i := w32_id (by omega) (by omega)
    obtain ⟨a3, b3, z1, z2, z3, z4, z5, z6⟩ := lv_run (d := d + 1) (h := a1) (g1 := b) (s := 113) (L := 147) (seed := seed + i) hp1 r1 hmb (Or.inl rfl) (Or.inr rfl) e4 (by decide) n7 n6 hR hA h61 (by omega) (by omega)
    have e23 : a3.2 = a1.2 := z3.1
    have r3 : RRef a3.1 := fun q hq => by
      have hd : ∀ q ∈ refT, q.1 ≠ 147 ∧ ¬ (q.1 = 117 ∧ q.2.1 = 1) ∧ q.1 ≠ 118 ∧ ¬ (138 ≤ q.1 ∧ q.1 ≤ 145 ∧ ((3 ≤ q.2.1 ∧ q.2.1 ≤ 6) ∨ (q.1 - 113) % 2 = 0)) := by decide +kernel
      obtain ⟨y1, y2, y3, y4⟩ := hd q hq
      rw [← r1 q hq]
      have := z3.2 q.1 q.2.1 (by omega) (by omega) (by omega) (by omega)
      rw [rdn1 y1] at this
      exact this
    have hp3 : Shp a3 := Shp_eq e23 hp1
    have e2b : b3.2 = b.2 := z4.1
    have rb3 : RRef b3.1 := fun q hq => by
      have hd : ∀ q ∈ refT, q.1 ≠ 240 ∧ q.1 ≠ 243 ∧ ¬ (q.1 = 235 ∧ (q.2.1 = 27 ∨ (45 ≤ q.2.1 ∧ q.2.1 ≤ 51))) := by decide +kernel
      obtain ⟨w1, w2, w3⟩ := hd q hq
      rw [← br q hq]
      exact z4.2 _ _ (fun z => w1 z.1) w2 w3
    have hm3 : CM b3 := ⟨(isK_eq e2b).mpr hmb.1, Shp_eq e2b hmb.2.1, rb3⟩
    have f3 : ∀ i, mrd a3 113 i = mrd a1 113 i := fun i => by
      rw [z3.2 _ _ (by omega) (by omega) (by omega) (by omega), rdn1 (by decide)]
    have hB : BF a3 b3 113 147 119 (mrd h s 7) (mrd h s 6) := ⟨⟨hp3, r3, hm3⟩, Or.inl rfl, Or.inr rfl, ⟨by rw [f3]; exact e4, by decide, AS_all _ (by decide) _ (by decide)⟩, by rw [f3]; exact n7, by rw [f3]; exact n6⟩
    have hS : Sim 0 0 a3 b3 113 147 a3 b3 := ⟨⟨rfl, fun _ _ _ _ _ _ => rfl⟩, ⟨rfl, fun _ _ _ _ _ => rfl⟩, z5, z6⟩
    obtain ⟨-, -, r, r01, a4, b4, y1, y2, y3, y4⟩ := said_both (d := d + 18) (d' := d + 16) hB hS k0 k1
    have hm4 : CM b4 := ⟨(isK_eq y4.1).mpr hm3.1, Shp_eq y4.1 hm3.2.1, fun q hq => by
      have hd : ∀ q ∈ refT, q.1 ≠ 243 ∧ ¬ (q.1 = 235 ∧ q.2.1 = 27) := by decide +kernel
      obtain ⟨w1, w2⟩ := hd q hq
      rw [← rb3 q hq]
      exact y4.2 _ _ w1 w2⟩
    obtain ⟨b5, t1, t2, t3, t4⟩ := od_take (d := d + 20) (l1 := (0, k)) (l2 := (0, seed)) (l3 := (0, (M : Int))) (l4 := (0, (c : Int) + r)) (l5 := (0, (i : Int))) hm4 128 0 b4 (by omega) rfl (fun _ _ _ => rfl) (fun j j0 j1 => by omega)
    have t1 : EV (d + 20) 323 148 [(2, 235), (0, k), (0, seed), (0, (M : Int)), (0, (c : Int) + r), (0, (i : Int)), (0, 0)] [] b4 = _ := t1
    have m4 : ∀ x j, x ≠ 243 → ¬ (x = 240 ∧ 68 ≤ j ∧ j < 128) → ¬ (x = 235 ∧ (j = 27 ∨ (45 ≤ j ∧ j ≤ 51))) → mrd b4 x j = mrd b x j := fun x j n1 n2 n3 => by
      rw [y4.2 x j n1 (by omega), z4.2 x j n2 n1 n3]
    have hOB : OB g1 b5 := by
      refine ⟨t2.trans (y4.1.trans (e2b.trans b2)), fun q hq => ?_, fun x j n1 n2 n3 n4 => ?_, fun j => ?_, fun j j0 j1 => ?_⟩
      · have hd : ∀ q ∈ refT, q.1 ≠ 240 := by decide +kernel
        rw [← hm4.2.2 q hq]
        exact t3 _ _ (fun z => hd q hq z.1)
      · rw [t3 x j (by omega), m4 x j n3 (by omega) n4]
        exact bf x j n1 n2 n3 n4
      · by_cases cj : 0 ≤ j ∧ j < 128
        · rw [t4 j cj.1 cj.2, m4 _ _ (by decide) (by omega) (by omega)]
          exact bk j cj.1 cj.2
        · rw [t3 _ _ (by omega), m4 _ _ (by decide) (by omega) (by omega)]
          exact bc j
      · rw [t3 _ _ (by omega), m4 _ _ (by decide) (by omega) (by omega)]
        exact bk j j0 j1
    have hOX : OX h a4 := by
      refine ⟨y3.1.trans (e23.trans (F1.trans a2)), fun q hq => ?_, fun x j hx => ?_⟩
      · have hd : ∀ q ∈ refT, ¬ (q.1 = 117 ∧ q.2.1 = 1) ∧ q.1 ≠ 118 := by decide +kernel
        obtain ⟨w1, w2⟩ := hd q hq
        rw [← r3 q hq]
        exact y3.2 _ _ w2 w1
      · rw [y3.2 x j (by omega) (by omega), z3.2 x j (by omega) (by omega) (by omega) (by omega), rdn1 (by omega), f1 _ _ (by omega)]
        exact af x j hx
    obtain ⟨cn, hcn⟩ : ∃ cn : Nat, (cn : Int) = (c : Int) + r ∧ cn ≤ i + 1 := by
      rcases r01 with rfl | rfl
      · exact ⟨c, by omega, by omega⟩
      · exact ⟨c + 1, by omega, by omega⟩
    obtain ⟨a', b', c', l6', u1, u2, u3⟩ := ih (i + 1) a4 b5 cn (0, 128) (by omega) hcn.2 hOX hOB
    rw [hcn.1] at u1 u2
    have w1 : w32 ((i : Int) + 1) = ((i + 1 : Nat) : Int) := by rw [w32_id (by omega) (by omega)]; omega
    have wc1 : w32 ((c : Int) + 1) = (c : Int) + 1 := w32_id (by omega) (by omega)
    have wc0 : w32 ((c : Int) + 0) = (c : Int) + 0 := w32_id (by omega) (by omega)
    have k01 : isK a1 0 10 := kn_0 hp1
    have k03 : isK a3 0 10 := kn_0 hp3
    have z31 : mrd a1 0 3 = 113 := rf_0_3 r1
    have z51 : mrd a1 0 5 = 147 := rf_0_5 r1
    have z33 : mrd a3 0 3 = 113 := rf_0_3 r3
    have c3 : CS a3 113 := CS_of hp3 r3 (by decide)
    have k47 : isK a1 147 3 := kn_147 hp1
    obtain ⟨v1, v2, -⟩ := c3.2.2.2.2.2.2.2.2.2.2.2.2 k k0 (by have := b7.2; omega)
    have z22 : mrd a3 113 2 = 116 := c3.2.2.2.1
    have v1 : inR a3 116 k := v1
    have v2 : mrd a3 116 k = 138 + 2 * k := v2
    have y1 : EV (d + 19) 74 0 [(2, 113), (2, 138 + 2 * k), (0, -1)] [] a3 = some ((0, r), a4) := y1
    refine ⟨a', b', c', l6', ?_, ?_, u3⟩
    · rw [← u1, e155_82]
      rcases r01 with rfl | rfl
      · simp only [e155_0, e155_1, e155_4, e155_5, e155_8, e155_11, e155_12, e155_13, e155_16, e155_17, e155_18, e155_21, e155_22, e155_25, e155_28, e155_29, e155_30, e155_33, e155_34, e155_36, e155_39, e155_40, e155_41, e155_42, e155_43, e155_44, e155_47, e155_50, e155_51, e155_52, e155_55, e155_56, e155_57, e155_60, e155_63, e155_66, e155_69, e155_70, e155_72, e155_75, e155_76, e155_77, e155_79, e155_80, e155_84, e155_85, e155_88, e155_89, e155_92, e155_93, e155_96, e155_99, e155_100, e155_103, e155_104, e155_107, e155_108, e155_110, e155_111, e155_114, e155_115, e155_118, e155_119, e155_122, e155_125, e155_126, e155_127, e155_128, e155_131, e155_134, e155_137, e155_140, e155_144, e155_146, e155_147, e155_148, e155_149, e155_152, e155_153, e155_156, psh0, psh1, psh3, true_or, or_true, eq_self, Option.bind_some, List.length_nil, List.length_cons, Nat.reduceAdd, Nat.reduceLeDiff, Nat.zero_le, ↓reduceIte, Int.reduceLT, Int.reduceEq, Int.reduceLE, Int.reduceNeg, Int.reduceAdd, Int.reduceMul, Int.reduceSub, ne_eq, not_true_eq_false, not_false_eq_true, and_true, true_and, and_false, false_and, c3lt, c3gt, c3eq, Bool.false_eq_true, isK_wr, inA_wr, inR_wr, ci, k0a, x3, x8, ct.1, G1, k01, z51, z31, ws, k47, z1, k03, z33, c3.1, z22, v1, v2, y1, w1, Int.add_zero]
      · simp only [e155_0, e155_1, e155_4, e155_5, e155_8, e155_11, e155_12, e155_13, e155_16, e155_17, e155_18, e155_21, e155_22, e155_25, e155_28, e155_29, e155_30, e155_33, e155_34, e155_36, e155_39, e155_40, e155_41, e155_42, e155_43, e155_44, e155_47, e155_50, e155_51, e155_52, e155_55, e155_56, e155_57, e155_60, e155_63, e155_66, e155_69, e155_70, e155_72, e155_75, e155_76, e155_77, e155_79, e155_80, e155_84, e155_85, e155_88, e155_89, e155_92, e155_93, e155_96, e155_99, e155_100, e155_103, e155_104, e155_107, e155_108, e155_110, e155_111, e155_114, e155_115, e155_118, e155_119, e155_122, e155_125, e155_126, e155_127, e155_128, e155_131, e155_134, e155_137, e155_140, e155_144, e155_146, e155_147, e155_148, e155_149, e155_152, e155_153, e155_156, psh0, psh1, psh3, true_or, or_true, eq_self, Option.bind_some, List.length_nil, List.length_cons, Nat.reduceAdd, Nat.reduceLeDiff, Nat.zero_le, ↓reduceIte, Int.reduceLT, Int.reduceEq, Int.reduceLE, Int.reduceNeg, Int.reduceAdd, Int.reduceMul, Int.reduceSub, ne_eq, not_true_eq_false, not_false_eq_true, and_true, true_and, and_false, false_and, c3lt, c3gt, c3eq, Bool.false_eq_true, isK_wr, inA_wr, inR_wr, ci, k0a, x3, x8, ct.1, G1, k01, z51, z31, ws, k47, z1, k03, z33, c3.1, z22, v1, v2, y1, wc1, w1]
    · rw [← u2, e323_112]
      rcases r01 with rfl | rfl
      · simp only [e323_0, e323_1, e323_2, e323_5, e323_6, e323_7, e323_10, e323_11, e323_12, e323_15, e323_18, e323_19, e323_20, e323_23, e323_24, e323_25, e323_26, e323_27, e323_30, e323_33, e323_36, e323_37, e323_38, e323_39, e323_42, e323_43, e323_44, e323_45, e323_48, e323_51, e323_52, e323_53, e323_56, e323_57, e323_58, e323_61, e323_64, e323_65, e323_68, e323_69, e323_71, e323_74, e323_75, e323_76, e323_80, e323_83, e323_86, e323_87, e323_90, e323_92, e323_93, e323_96, e323_98, e323_99, e323_100, e323_103, e323_106, e323_107, e323_109, e323_110, e323_114, e323_115, e323_118, e323_119, e323_120, e323_122, e323_123, e323_126, e323_128, e323_129, e323_130, e323_131, e323_134, e323_137, e323_138, e323_141, e323_142, e323_143, e323_145, e323_146, e323_150, e323_153, e323_156, e323_157, e323_160, e323_162, e323_163, e323_166, e323_168, e323_169, e323_170, e323_173, e323_179, e323_183, e323_185, e323_186, e323_187, e323_188, e323_191, psh0, psh1, psh3, true_or, or_true, eq_self, Option.bind_some, List.length_nil, List.length_cons, Nat.reduceAdd, Nat.reduceLeDiff, Nat.zero_le, ↓reduceIte, Int.reduceLT, Int.reduceEq, Int.reduceLE, Int.reduceNeg, Int.reduceAdd, Int.reduceMul, Int.reduceSub, ne_eq, not_true_eq_false, not_false_eq_true, and_true, true_and, and_false, false_and, c3lt, c3gt, c3eq, Bool.false_eq_true, isK_wr, inA_wr, inR_wr, ci, hmb.1, ws, z2, hm3.1, y2, wc0]
        rw [t1, e323_176]
        simp only [e323_0, e323_1, e323_2, e323_5, e323_6, e323_7, e323_10, e323_11, e323_12, e323_15, e323_18, e323_19, e323_20, e323_23, e323_24, e323_25, e323_26, e323_27, e323_30, e323_33, e323_36, e323_37, e323_38, e323_39, e323_42, e323_43, e323_44, e323_45, e323_48, e323_51, e323_52, e323_53, e323_56, e323_57, e323_58, e323_61, e323_64, e323_65, e323_68, e323_69, e323_71, e323_74, e323_75, e323_76, e323_80, e323_83, e323_86, e323_87, e323_90, e323_92, e323_93, e323_96, e323_98, e323_99, e323_100, e323_103, e323_106, e323_107, e323_109, e323_110, e323_114, e323_115, e323_118, e323_119, e323_120, e323_122, e323_123, e323_126, e323_128, e323_129, e323_130, e323_131, e323_134, e323_137, e323_138, e323_141, e323_142, e323_143, e323_145, e323_146, e323_150, e323_153, e323_156, e323_157, e323_160, e323_162, e323_163, e323_166, e323_168, e323_169, e323_170, e323_173, e323_179, e323_183, e323_185, e323_186, e323_187, e323_188, e323_191, psh0, psh1, psh3, true_or, or_true, eq_self, Option.bind_some, List.length_nil, List.length_cons, Nat.reduceAdd, Nat.reduceLeDiff, Nat.zero_le, ↓reduceIte, Int.reduceLT, Int.reduceEq, Int.reduceLE, Int.reduceNeg, Int.reduceAdd, Int.reduceMul, Int.reduceSub, ne_eq, not_true_eq_false, not_false_eq_true, and_true, true_and, and_false, false_and, c3lt, c3gt, c3eq, Bool.false_eq_true, isK_wr, inA_wr, inR_wr, w1]
      · simp only [e323_0, e323_1, e323_2, e323_5, e323_6, e323_7, e323_10, e323_11, e323_12, e323_15, e323_18, e323_19, e323_20, e323_23, e323_24, e323_25, e323_26, e323_27, e323_30, e323_33, e323_36, e323_37, e323_38, e323_39, e323_42, e323_43, e323_44, e323_45, e323_48, e323_51, e323_52, e323_53, e323_56, e323_57, e323_58, e323_61, e323_64, e323_65, e323_68, e323_69, e323_71, e323_74, e323_75, e323_76, e323_80, e323_83, e323_86, e323_87, e323_90, e323_92, e323_93, e323_96, e323_98, e323_99, e323_100, e323_103, e323_106, e323_107, e323_109, e323_110, e323_114, e323_115, e323_118, e323_119, e323_120, e323_122, e323_123, e323_126, e323_128, e323_129, e323_130, e323_131, e323_134, e323_137, e323_138, e323_141, e323_142, e323_143, e323_145, e323_146, e323_150, e323_153, e323_156, e323_157, e323_160, e323_162, e323_163, e323_166, e323_168, e323_169, e323_170, e323_173, e323_179, e323_183, e323_185, e323_186, e323_187, e323_188, e323_191, psh0, psh1, psh3, true_or, or_true, eq_self, Option.bind_some, List.length_nil, List.length_cons, Nat.reduceAdd, Nat.reduceLeDiff, Nat.zero_le, ↓reduceIte, Int.reduceLT, Int.reduceEq, Int.reduceLE, Int.reduceNeg, Int.reduceAdd, Int.reduceMul, Int.reduceSub, ne_eq, not_true_eq_false, not_false_eq_true, and_true, true_and, and_false, false_and, c3lt, c3gt, c3eq, Bool.false_eq_true, isK_wr, inA_wr, inR_wr, ci, hmb.1, ws, z2, hm3.1, y2, wc1]
        rw [t1, e323_176]
        simp only [e323_0, e323_1, e323_2, e323_5, e323_6, e323_7, e323_10, e323_11, e323_12, e323_15, e323_18, e323_19, e323_20, e323_23, e323_24, e323_25, e323_26, e323_27, e323_30, e323_33, e323_36, e323_37, e323_38, e323_39, e323_42, e323_43, e323_44, e323_45, e323_48, e323_51, e323_52, e323_53, e323_56, e323_57, e323_58, e323_61, e323_64, e323_65, e323_68, e323_69, e323_71, e323_74, e323_75, e323_76, e323_80, e323_83, e323_86, e323_87, e323_90, e323_92, e323_93, e323_96, e323_98, e323_99, e323_100, e323_103, e323_106, e323_107, e323_109, e323_110, e323_114, e323_115, e323_118, e323_119, e323_120, e323_122, e323_123, e323_126, e323_128, e323_129, e323_130, e323_131, e323_134, e323_137, e323_138, e323_141, e323_142, e323_143, e323_145, e323_146, e323_150, e323_153, e323_156, e323_157, e323_160, e323_162, e323_163, e323_166, e323_168, e323_169, e323_170, e323_173, e323_179, e323_183, e323_185, e323_186, e323_187, e323_188, e323_191, psh0, psh1, psh3, true_or, or_true, eq_self, Option.bind_some, List.length_nil, List.length_cons, Nat.reduceAdd, Nat.reduceLeDiff, Nat.zero_le, ↓reduceIte, Int.reduceLT, Int.reduceEq, Int.reduceLE, Int.reduceNeg, Int.reduceAdd, Int.reduceMul, Int.reduceSub, ne_eq, not_true_eq_false, not_false_eq_true, and_true, true_and, and_false, false_and, c3lt, c3gt, c3eq, Bool.false_eq_true, isK_wr, inA_wr, inR_wr, w1]
