/-! tokens: the class's advance -/
theorem min_self {q e m : Nat} (h : e - q ≤ m) : min (e - q) m = e - q := by omega
section
variable {d N : Nat} {a : AM}
theorem RDX.wr {i v : Int} (h : RDX a N) (hi : 4 ≤ i) : RDX (mwr a 110 i v) N := by
  refine ⟨h.1, fun q hq => ?_, by rw [rdn2 (by omega)]; exact h.2.2.1, h.2.2.2⟩
  have hd : ∀ q ∈ refT, ¬ (q.1 = 110 ∧ 4 ≤ q.2.1) := by decide +kernel
  have := hd q hq
  rw [← h.2.1 q hq]
  show mrd (mwr a 110 i v) q.1 q.2.1 = mrd a q.1 q.2.1
  rw [rd_wr, if_neg (by omega)]
theorem AF.rf : AF a a := ⟨rfl, fun _ _ _ => rfl⟩
theorem AF.wr {a' : AM} {i v : Int} (h : AF a a') (h0 : 4 ≤ i) (h1 : i ≤ 8) : AF a (mwr a' 110 i v) := ⟨h.1, fun x j hx => by rw [rd_wr, if_neg (by omega)]; exact h.2 x j hx⟩
theorem AF.tr {a1 a2 : AM} (h : AF a a1) (h2 : AF a1 a2) : AF a a2 := ⟨h2.1.trans h.1, fun x i hx => (h2.2 x i hx).trans (h.2 x i hx)⟩
theorem x_advW (hx : RDX a N) {q : Nat} (h6 : mrd a 110 6 = q) (h4 : mrd a 110 4 = q) (h7 : mrd a 110 7 = 0) (h8 : mrd a 110 8 = -1) (hq : q ≤ N) : ∃ a', EV d 36 0 [(2, 110), (3, 0)] [] a = some ((3, 0), a') ∧ AF a a' ∧ TkX (mrd a 111) a' q (wen (mrd a 111) N q) 1 := by
  obtain ⟨e1, e2, e3⟩ := wen_rng (T := mrd a 111) hq
  have g := x_word (d := d) hx h6 hq (l1 := (3, 0)) (N - q) 0 (by omega) (fun j hj => by omega)
  have ea : mwr (mwr a 110 7 (wv (mrd a 111) q (min 0 8))) 110 4 ((q + 0 : Nat) : Int) = a := by
    have z1 : wv (mrd a 111) q (min 0 8) = mrd a 110 7 := by rw [h7]; rfl
    have z2 : ((q + 0 : Nat) : Int) = mrd a 110 4 := by rw [h4]; rfl
    rw [z1, wr_same, z2, wr_same]
  rw [ea, show q + 0 = q from rfl] at g
  rw [show fI (fun j => !lte (mrd a 111 ((j : Nat) : Int))) q (N - q) = wen (mrd a 111) N q from rfl] at g
  obtain ⟨e, he⟩ : ∃ e, e = wen (mrd a 111) N q := ⟨_, rfl⟩
  rw [← he] at g e1 e2 e3 ⊢
  obtain ⟨v, hv⟩ : ∃ v, v = wv (mrd a 111) q (min (e - q) 8) := ⟨_, rfl⟩
  rw [← hv] at g
  obtain ⟨a1, ha1⟩ : ∃ a1, a1 = mwr (mwr (mwr a 110 7 v) 110 4 (e : Int)) 110 5 1 := ⟨_, rfl⟩
  have hx1 : RDX a1 N := by rw [ha1]; exact ((hx.wr (by decide)).wr (by decide)).wr (by decide)
  have hA1 : AF a a1 := by rw [ha1]; exact ((AF.rf.wr (by decide) (by decide)).wr (by decide) (by decide)).wr (by decide) (by decide)
  have k1 : isK a 110 5 := hx.f.1
  have k11 : isK a1 110 5 := hx1.f.1
  have x4 : mrd a1 110 4 = e := by rw [ha1, rdn2 (by decide), rde]
  have x5 : mrd a1 110 5 = 1 := by rw [ha1, rde]
  have x6 : mrd a1 110 6 = q := by rw [ha1, rdn2 (by decide), rdn2 (by decide), rdn2 (by decide)]; exact h6
  have x7 : mrd a1 110 7 = v := by rw [ha1, rdn2 (by decide), rdn2 (by decide), rde]
  have x8 : mrd a1 110 8 = -1 := by rw [ha1, rdn2 (by decide), rdn2 (by decide), rdn2 (by decide)]; exact h8
  have h9 := hx.2.2.2
  have wd : w32 ((e : Int) - (q : Int)) = ((e - q : Nat) : Int) := by rw [w32_id (by omega) (by omega)]; omega
  have ep : EV d 36 0 [(2, 110), (3, 0)] [] a = EV d 36 99 [(2, 110), (3, 0)] [] a1 := by
    rw [g, e36_94, ha1]
    simp only [e36_95, e36_96, psh0, psh1, psh3, true_or, or_true, eq_self, Option.bind_some, List.length_nil, List.length_cons, Nat.reduceAdd, Nat.reduceLeDiff, Nat.zero_le, ↓reduceIte, Int.reduceLT, Int.reduceEq, Int.reduceLE, Int.reduceNeg, Int.reduceAdd, Int.reduceMul, Int.reduceSub, ne_eq, not_true_eq_false, not_false_eq_true, and_true, true_and, and_false, false_and, c3lt, c3gt, c3eq, Bool.false_eq_true, isK_wr, inA_wr, inR_wr, k1]
  by_cases c : (8 : Int) < ((e - q : Nat) : Int)
  · refine ⟨a1, ?_, hA1, x5, x6, fun _ => x4, fun z => absurd rfl z, fun _ => ⟨?_, ?_⟩, fun z => by omega, fun z => by omega⟩
    · rw [ep, e36_99]
      simp only [e36_1, e36_4, e36_5, e36_8, e36_11, e36_12, e36_15, e36_16, e36_19, e36_19z, e36_20, e36_22, e36_25, e36_26, e36_29, e36_30, e36_33, e36_33z, e36_34, e36_36, e36_39, e36_40, e36_43, e36_44, e36_47, e36_48, e36_50, e36_53, e36_54, e36_55, e36_58, e36_61, e36_62, e36_63, e36_66, e36_67, e36_70, e36_70z, e36_71, e36_73, e36_74, e36_75, e36_76, e36_77, e36_78, e36_81, e36_82, e36_82i, e36_83, e36_86, e36_87, e36_88, e36_91, e36_94, e36_95, e36_96, e36_100, e36_103, e36_104, e36_107, e36_108, e36_110, e36_113, e36_114, e36_115, e36_117, e36_119, e36_122, e36_123, e36_126, e36_127, e36_128, e36_129, e36_132, e36_133, e36_136, e36_137, e36_138, e36_141, e36_144, e36_147, psh0, psh1, psh3, true_or, or_true, eq_self, Option.bind_some, List.length_nil, List.length_cons, Nat.reduceAdd, Nat.reduceLeDiff, Nat.zero_le, ↓reduceIte, Int.reduceLT, Int.reduceEq, Int.reduceLE, Int.reduceNeg, Int.reduceAdd, Int.reduceMul, Int.reduceSub, ne_eq, not_true_eq_false, not_false_eq_true, and_true, true_and, and_false, false_and, c3lt, c3gt, c3eq, Bool.false_eq_true, isK_wr, inA_wr, inR_wr, k11, x4, x6, wd, c]
    · rw [x7, hv]
    · rw [x8, if_neg (by omega)]
  · have gr := x_res (d := d) hx1 x7 23 0 (by omega)
    have e0 : mwr a1 110 8 (wi v 0) = a1 := by
      have : wi v 0 = mrd a1 110 8 := by rw [x8]; rfl
      rw [this, wr_same]
    rw [e0] at gr
    have gr : EV d 36 116 [(2, 110), (0, 0)] [] a1 = _ := gr
    refine ⟨mwr a1 110 8 (wi v 23), ?_, hA1.wr (by decide) (by decide), by rw [rdn2 (by decide)]; exact x5, by rw [rdn2 (by decide)]; exact x6, fun _ => by rw [rdn2 (by decide)]; exact x4, fun z => absurd rfl z, fun _ => ⟨?_, ?_⟩, fun z => by omega, fun z => by omega⟩
    · rw [ep, ← gr, e36_99]
      simp only [e36_1, e36_4, e36_5, e36_8, e36_11, e36_12, e36_15, e36_16, e36_19, e36_19z, e36_20, e36_22, e36_25, e36_26, e36_29, e36_30, e36_33, e36_33z, e36_34, e36_36, e36_39, e36_40, e36_43, e36_44, e36_47, e36_48, e36_50, e36_53, e36_54, e36_55, e36_58, e36_61, e36_62, e36_63, e36_66, e36_67, e36_70, e36_70z, e36_71, e36_73, e36_74, e36_75, e36_76, e36_77, e36_78, e36_81, e36_82, e36_82i, e36_83, e36_86, e36_87, e36_88, e36_91, e36_94, e36_95, e36_96, e36_100, e36_103, e36_104, e36_107, e36_108, e36_110, e36_113, e36_114, e36_115, e36_117, e36_119, e36_122, e36_123, e36_126, e36_127, e36_128, e36_129, e36_132, e36_133, e36_136, e36_137, e36_138, e36_141, e36_144, e36_147, psh0, psh1, psh3, true_or, or_true, eq_self, Option.bind_some, List.length_nil, List.length_cons, Nat.reduceAdd, Nat.reduceLeDiff, Nat.zero_le, ↓reduceIte, Int.reduceLT, Int.reduceEq, Int.reduceLE, Int.reduceNeg, Int.reduceAdd, Int.reduceMul, Int.reduceSub, ne_eq, not_true_eq_false, not_false_eq_true, and_true, true_and, and_false, false_and, c3lt, c3gt, c3eq, Bool.false_eq_true, isK_wr, inA_wr, inR_wr, k11, x4, x6, wd, c]
    · rw [rdn2 (by decide), x7, hv]
    · rw [rde, if_pos (by omega), hv, min_self (by omega)]
theorem x_advN (hx : RDX a N) {q : Nat} (h6 : mrd a 110 6 = q) (h4 : mrd a 110 4 = q) (h7 : mrd a 110 7 = 0) (h8 : mrd a 110 8 = -1) (hq : q ≤ N) : ∃ a', EV d 37 0 [(2, 110)] [] a = some ((3, 0), a') ∧ AF a a' ∧ TkX (mrd a 111) a' q (den (mrd a 111) N q) (if 4 < den (mrd a 111) N q - q then 4 else 2) := by
  obtain ⟨e1, e2, e3⟩ := den_rng (T := mrd a 111) hq
  have g := x_num (d := d) hx h6 hq (N - q) 0 (by omega) (fun j hj => by omega)
  have ea : mwr (mwr a 110 7 (dgv (mrd a 111) q (min 0 4))) 110 4 ((q + 0 : Nat) : Int) = a := by
    have z1 : dgv (mrd a 111) q (min 0 4) = mrd a 110 7 := by rw [h7]; rfl
    have z2 : ((q + 0 : Nat) : Int) = mrd a 110 4 := by rw [h4]; rfl
    rw [z1, wr_same, z2, wr_same]
  rw [ea, show q + 0 = q from rfl] at g
  rw [show fI (fun j => !dgi (mrd a 111 ((j : Nat) : Int))) q (N - q) = den (mrd a 111) N q from rfl] at g
  obtain ⟨e, he⟩ : ∃ e, e = den (mrd a 111) N q := ⟨_, rfl⟩
  rw [← he] at g e1 e2 e3 ⊢
  obtain ⟨v, hv⟩ : ∃ v, v = dgv (mrd a 111) q (min (e - q) 4) := ⟨_, rfl⟩
  rw [← hv] at g
  obtain ⟨a1, ha1⟩ : ∃ a1, a1 = mwr (mwr a 110 7 v) 110 4 (e : Int) := ⟨_, rfl⟩
  rw [← ha1] at g
  have hx1 : RDX a1 N := by rw [ha1]; exact (hx.wr (by decide)).wr (by decide)
  have hA1 : AF a a1 := by rw [ha1]; exact (AF.rf.wr (by decide) (by decide)).wr (by decide) (by decide)
  have k11 : isK a1 110 5 := hx1.f.1
  have x4 : mrd a1 110 4 = e := by rw [ha1, rde]
  have x6 : mrd a1 110 6 = q := by rw [ha1, rdn2 (by decide), rdn2 (by decide)]; exact h6
  have x7 : mrd a1 110 7 = v := by rw [ha1, rdn2 (by decide), rde]
  have x8 : mrd a1 110 8 = -1 := by rw [ha1, rdn2 (by decide), rdn2 (by decide)]; exact h8
  have h9 := hx.2.2.2
  have wd : w32 ((e : Int) - (q : Int)) = ((e - q : Nat) : Int) := by rw [w32_id (by omega) (by omega)]; omega
  by_cases c : 4 < e - q
  · have c' : (4 : Int) < ((e - q : Nat) : Int) := by omega
    rw [if_pos c]
    refine ⟨mwr a1 110 5 4, ?_, hA1.wr (by decide) (by decide), rde, by rw [rdn2 (by decide)]; exact x6, fun z => absurd rfl z, fun _ => by rw [rdn2 (by decide)]; exact x8, fun z => by omega, fun z => by omega, fun z => by omega⟩
    rw [g, e37_91]
    simp only [e37_1, e37_4, e37_5, e37_8, e37_11, e37_12, e37_15, e37_16, e37_19, e37_19z, e37_20, e37_22, e37_25, e37_26, e37_29, e37_30, e37_33, e37_33z, e37_34, e37_36, e37_39, e37_40, e37_43, e37_44, e37_47, e37_48, e37_49, e37_52, e37_53, e37_54, e37_57, e37_60, e37_61, e37_62, e37_65, e37_66, e37_69, e37_69z, e37_70, e37_72, e37_73, e37_74, e37_75, e37_78, e37_79, e37_79i, e37_80, e37_83, e37_84, e37_85, e37_88, e37_92, e37_93, e37_96, e37_97, e37_100, e37_101, e37_102, e37_105, e37_106, e37_109, e37_110, e37_113, psh0, psh1, psh3, true_or, or_true, eq_self, Option.bind_some, List.length_nil, List.length_cons, Nat.reduceAdd, Nat.reduceLeDiff, Nat.zero_le, ↓reduceIte, Int.reduceLT, Int.reduceEq, Int.reduceLE, Int.reduceNeg, Int.reduceAdd, Int.reduceMul, Int.reduceSub, ne_eq, not_true_eq_false, not_false_eq_true, and_true, true_and, and_false, false_and, c3lt, c3gt, c3eq, Bool.false_eq_true, isK_wr, inA_wr, inR_wr, k11, x4, x6, wd, c']
  · have c' : ¬ (4 : Int) < ((e - q : Nat) : Int) := by omega
    rw [if_neg c]
    refine ⟨mwr a1 110 5 2, ?_, hA1.wr (by decide) (by decide), rde, by rw [rdn2 (by decide)]; exact x6, fun _ => by rw [rdn2 (by decide)]; exact x4, fun _ => by rw [rdn2 (by decide)]; exact x8, fun z => by omega, fun _ => ?_, fun z => by omega⟩
    · rw [g, e37_91]
      simp only [e37_1, e37_4, e37_5, e37_8, e37_11, e37_12, e37_15, e37_16, e37_19, e37_19z, e37_20, e37_22, e37_25, e37_26, e37_29, e37_30, e37_33, e37_33z, e37_34, e37_36, e37_39, e37_40, e37_43, e37_44, e37_47, e37_48, e37_49, e37_52, e37_53, e37_54, e37_57, e37_60, e37_61, e37_62, e37_65, e37_66, e37_69, e37_69z, e37_70, e37_72, e37_73, e37_74, e37_75, e37_78, e37_79, e37_79i, e37_80, e37_83, e37_84, e37_85, e37_88, e37_92, e37_93, e37_96, e37_97, e37_100, e37_101, e37_102, e37_105, e37_106, e37_109, e37_110, e37_113, psh0, psh1, psh3, true_or, or_true, eq_self, Option.bind_some, List.length_nil, List.length_cons, Nat.reduceAdd, Nat.reduceLeDiff, Nat.zero_le, ↓reduceIte, Int.reduceLT, Int.reduceEq, Int.reduceLE, Int.reduceNeg, Int.reduceAdd, Int.reduceMul, Int.reduceSub, ne_eq, not_true_eq_false, not_false_eq_true, and_true, true_and, and_false, false_and, c3lt, c3gt, c3eq, Bool.false_eq_true, isK_wr, inA_wr, inR_wr, k11, x4, x6, wd, c']
    · rw [rdn2 (by decide), x7, hv, min_self (by omega)]
set_option maxHeartbeats 1000000 in
theorem x_advance (hx : RDX a N) {P : Nat} (hP : mrd a 110 4 = P) (hN : P ≤ N) : ∃ a', EV (d + 1) 35 0 [(2, 110)] [] a = some ((3, 0), a') ∧ AF a a' ∧ TkX (mrd a 111) a' (skp (mrd a 111) N P) (tkE (mrd a 111) N (skp (mrd a 111) N P)) (tkK (mrd a 111) N (skp (mrd a 111) N P)) := by
  have g := x_skip (d := d + 1) hx (N - P) P (by omega)
  rw [← hP, wr_same] at g
  have hs := fI_rng (fun j => !bl_ (mrd a 111 ((j : Nat) : Int))) (N - P) P
  rw [show fI (fun j => !bl_ (mrd a 111 ((j : Nat) : Int))) P (N - P) = skp (mrd a 111) N P from rfl] at g hs
  obtain ⟨q, hq⟩ : ∃ q, q = skp (mrd a 111) N P := ⟨_, rfl⟩
  rw [← hq] at g hs ⊢
  have qN : q ≤ N := by omega
  obtain ⟨a1, ha1⟩ : ∃ a1, a1 = mwr (mwr (mwr (mwr a 110 4 (q : Int)) 110 6 (q : Int)) 110 7 0) 110 8 (-1) := ⟨_, rfl⟩
  have hx1 : RDX a1 N := by rw [ha1]; exact (((hx.wr (by decide)).wr (by decide)).wr (by decide)).wr (by decide)
  have hA1 : AF a a1 := by rw [ha1]; exact (((AF.rf.wr (by decide) (by decide)).wr (by decide) (by decide)).wr (by decide) (by decide)).wr (by decide) (by decide)
  have k1 : isK a 110 5 := hx.f.1
  obtain ⟨k11, k2, k3, k4, k5, k6, k7⟩ := hx1.f
  have e3 := hx1.2.2.1
  have h9 := hx.2.2.2
  have x4 : mrd a1 110 4 = q := by rw [ha1, rdn2 (by decide), rdn2 (by decide), rdn2 (by decide), rde]
  have x6 : mrd a1 110 6 = q := by rw [ha1, rdn2 (by decide), rdn2 (by decide), rde]
  have x7 : mrd a1 110 7 = 0 := by rw [ha1, rdn2 (by decide), rde]
  have x8 : mrd a1 110 8 = -1 := by rw [ha1, rde]
  have xT : ∀ j, mrd a1 111 j = mrd a 111 j := fun j => hA1.2 _ _ (by omega)
  have xT' : mrd a1 111 = mrd a 111 := funext xT
  have ep : EV (d + 1) 35 0 [(2, 110)] [] a = EV (d + 1) 35 70 [(2, 110)] [] a1 := by
    rw [g, e35_52, ha1]
    simp only [e35_53, e35_54, e35_57, e35_60, e35_61, e35_62, e35_65, e35_66, e35_67, psh0, psh1, psh3, true_or, or_true, eq_self, Option.bind_some, List.length_nil, List.length_cons, Nat.reduceAdd, Nat.reduceLeDiff, Nat.zero_le, ↓reduceIte, Int.reduceLT, Int.reduceEq, Int.reduceLE, Int.reduceNeg, Int.reduceAdd, Int.reduceMul, Int.reduceSub, ne_eq, not_true_eq_false, not_false_eq_true, and_true, true_and, and_false, false_and, c3lt, c3gt, c3eq, Bool.false_eq_true, isK_wr, inA_wr, inR_wr, k1, rde]
  rw [ep, e35_70]
  unfold tkE tkK
  by_cases cN : q < N
  · have cN' : (q : Int) < N := by omega
    have j1 : inA a1 111 17 q := ⟨k4, by omega, by omega⟩
    rw [if_pos cN, if_pos cN]
    by_cases cl : lte (mrd a 111 q) = true
    · rw [if_pos cl, if_pos cl]
      simp only [lte, decide_eq_true_eq] at cl
      have c1 : ¬ mrd a 111 q < 97 := by omega
      have c2 : ¬ 122 < mrd a 111 q := by omega
      obtain ⟨a', z1, z2, z3⟩ := x_advW (d := d) hx1 x6 x4 x7 x8 qN
      rw [xT'] at z3
      refine ⟨a', ?_, hA1.tr z2, z3⟩
      simp only [e35_1, e35_4, e35_5, e35_8, e35_11, e35_12, e35_15, e35_16, e35_19, e35_19z, e35_20, e35_22, e35_25, e35_26, e35_29, e35_30, e35_33, e35_33z, e35_34, e35_36, e35_39, e35_40, e35_40i, e35_41, e35_44, e35_45, e35_46, e35_49, e35_52, e35_53, e35_54, e35_57, e35_60, e35_61, e35_62, e35_65, e35_66, e35_67, e35_71, e35_74, e35_75, e35_78, e35_81, e35_82, e35_83, e35_86, e35_89, e35_90, e35_93, e35_94, e35_97, e35_97z, e35_98, e35_100, e35_103, e35_104, e35_107, e35_108, e35_111, e35_111z, e35_112, e35_114, e35_117, e35_118, e35_121, e35_124, e35_125, e35_128, e35_129, e35_132, e35_132z, e35_133, e35_135, e35_138, e35_139, e35_142, e35_143, e35_146, e35_146z, e35_147, e35_149, e35_152, e35_153, e35_156, e35_159, e35_160, e35_163, e35_164, e35_167, e35_167z, e35_168, e35_170, e35_173, e35_174, e35_177, e35_178, e35_181, e35_181z, e35_182, e35_184, e35_187, e35_188, e35_191, e35_192, e35_195, e35_195z, e35_196, e35_198, e35_201, e35_202, e35_205, e35_206, e35_209, e35_209z, e35_210, e35_212, e35_215, e35_216, e35_217, e35_220, e35_221, e35_222, e35_225, e35_226, e35_229, e35_229z, e35_230, e35_231, e35_234, e35_235, e35_235i, e35_236, e35_239, e35_240, e35_241, e35_244, e35_247, e35_248, e35_249, e35_252, psh0, psh1, psh3, true_or, or_true, eq_self, Option.bind_some, List.length_nil, List.length_cons, Nat.reduceAdd, Nat.reduceLeDiff, Nat.zero_le, ↓reduceIte, Int.reduceLT, Int.reduceEq, Int.reduceLE, Int.reduceNeg, Int.reduceAdd, Int.reduceMul, Int.reduceSub, ne_eq, not_true_eq_false, not_false_eq_true, and_true, true_and, and_false, false_and, c3lt, c3gt, c3eq, Bool.false_eq_true, isK_wr, inA_wr, inR_wr, k11, k2, x4, e3, cN', j1, xT, c1, c2, z1]
    · rw [if_neg cl, if_neg cl]
      simp only [lte, decide_eq_true_eq] at cl
      -- up to 124, whichever of the two bounds failed
      have e124 : EV (d + 1) 35 71 [(2, 110)] [(2, 110)] a1 = EV (d + 1) 35 124 [(2, 110)] [] a1 := by
        by_cases c1 : mrd a 111 q < 97
        · simp only [e35_1, e35_4, e35_5, e35_8, e35_11, e35_12, e35_15, e35_16, e35_19, e35_19z, e35_20, e35_22, e35_25, e35_26, e35_29, e35_30, e35_33, e35_33z, e35_34, e35_36, e35_39, e35_40, e35_40i, e35_41, e35_44, e35_45, e35_46, e35_49, e35_52, e35_53, e35_54, e35_57, e35_60, e35_61, e35_62, e35_65, e35_66, e35_67, e35_71, e35_74, e35_75, e35_78, e35_81, e35_82, e35_83, e35_86, e35_89, e35_90, e35_93, e35_94, e35_97, e35_97z, e35_98, e35_100, e35_103, e35_104, e35_107, e35_108, e35_111, e35_111z, e35_112, e35_114, e35_117, e35_118, e35_121, e35_125, e35_128, e35_129, e35_132, e35_132z, e35_133, e35_135, e35_138, e35_139, e35_142, e35_143, e35_146, e35_146z, e35_147, e35_149, e35_152, e35_153, e35_156, e35_159, e35_160, e35_163, e35_164, e35_167, e35_167z, e35_168, e35_170, e35_173, e35_174, e35_177, e35_178, e35_181, e35_181z, e35_182, e35_184, e35_187, e35_188, e35_191, e35_192, e35_195, e35_195z, e35_196, e35_198, e35_201, e35_202, e35_205, e35_206, e35_209, e35_209z, e35_210, e35_212, e35_215, e35_216, e35_217, e35_220, e35_221, e35_222, e35_225, e35_226, e35_229, e35_229z, e35_230, e35_231, e35_234, e35_235, e35_235i, e35_236, e35_239, e35_240, e35_241, e35_244, e35_247, e35_248, e35_249, e35_252, psh0, psh1, psh3, true_or, or_true, eq_self, Option.bind_some, List.length_nil, List.length_cons, Nat.reduceAdd, Nat.reduceLeDiff, Nat.zero_le, ↓reduceIte, Int.reduceLT, Int.reduceEq, Int.reduceLE, Int.reduceNeg, Int.reduceAdd, Int.reduceMul, Int.reduceSub, ne_eq, not_true_eq_false, not_false_eq_true, and_true, true_and, and_false, false_and, c3lt, c3gt, c3eq, Bool.false_eq_true, isK_wr, inA_wr, inR_wr, k11, k2, x4, e3, cN', j1, xT, c1]
        · have c2 : 122 < mrd a 111 q := by omega
          simp only [e35_1, e35_4, e35_5, e35_8, e35_11, e35_12, e35_15, e35_16, e35_19, e35_19z, e35_20, e35_22, e35_25, e35_26, e35_29, e35_30, e35_33, e35_33z, e35_34, e35_36, e35_39, e35_40, e35_40i, e35_41, e35_44, e35_45, e35_46, e35_49, e35_52, e35_53, e35_54, e35_57, e35_60, e35_61, e35_62, e35_65, e35_66, e35_67, e35_71, e35_74, e35_75, e35_78, e35_81, e35_82, e35_83, e35_86, e35_89, e35_90, e35_93, e35_94, e35_97, e35_97z, e35_98, e35_100, e35_103, e35_104, e35_107, e35_108, e35_111, e35_111z, e35_112, e35_114, e35_117, e35_118, e35_121, e35_125, e35_128, e35_129, e35_132, e35_132z, e35_133, e35_135, e35_138, e35_139, e35_142, e35_143, e35_146, e35_146z, e35_147, e35_149, e35_152, e35_153, e35_156, e35_159, e35_160, e35_163, e35_164, e35_167, e35_167z, e35_168, e35_170, e35_173, e35_174, e35_177, e35_178, e35_181, e35_181z, e35_182, e35_184, e35_187, e35_188, e35_191, e35_192, e35_195, e35_195z, e35_196, e35_198, e35_201, e35_202, e35_205, e35_206, e35_209, e35_209z, e35_210, e35_212, e35_215, e35_216, e35_217, e35_220, e35_221, e35_222, e35_225, e35_226, e35_229, e35_229z, e35_230, e35_231, e35_234, e35_235, e35_235i, e35_236, e35_239, e35_240, e35_241, e35_244, e35_247, e35_248, e35_249, e35_252, psh0, psh1, psh3, true_or, or_true, eq_self, Option.bind_some, List.length_nil, List.length_cons, Nat.reduceAdd, Nat.reduceLeDiff, Nat.zero_le, ↓reduceIte, Int.reduceLT, Int.reduceEq, Int.reduceLE, Int.reduceNeg, Int.reduceAdd, Int.reduceMul, Int.reduceSub, ne_eq, not_true_eq_false, not_false_eq_true, and_true, true_and, and_false, false_and, c3lt, c3gt, c3eq, Bool.false_eq_true, isK_wr, inA_wr, inR_wr, k11, k2, x4, e3, cN', j1, xT, c1, c2]
      rw [e124, e35_124]
      by_cases cd : dgi (mrd a 111 q) = true
      · rw [if_pos cd, if_pos cd]
        simp only [dgi, decide_eq_true_eq] at cd
        have c1 : ¬ mrd a 111 q < 48 := by omega
        have c2 : ¬ 57 < mrd a 111 q := by omega
        obtain ⟨a', z1, z2, z3⟩ := x_advN (d := d) hx1 x6 x4 x7 x8 qN
        rw [xT'] at z3
        refine ⟨a', ?_, hA1.tr z2, z3⟩
        simp only [e35_1, e35_4, e35_5, e35_8, e35_11, e35_12, e35_15, e35_16, e35_19, e35_19z, e35_20, e35_22, e35_25, e35_26, e35_29, e35_30, e35_33, e35_33z, e35_34, e35_36, e35_39, e35_40, e35_40i, e35_41, e35_44, e35_45, e35_46, e35_49, e35_52, e35_53, e35_54, e35_57, e35_60, e35_61, e35_62, e35_65, e35_66, e35_67, e35_71, e35_74, e35_75, e35_78, e35_81, e35_82, e35_83, e35_86, e35_89, e35_90, e35_93, e35_94, e35_97, e35_97z, e35_98, e35_100, e35_103, e35_104, e35_107, e35_108, e35_111, e35_111z, e35_112, e35_114, e35_117, e35_118, e35_121, e35_125, e35_128, e35_129, e35_132, e35_132z, e35_133, e35_135, e35_138, e35_139, e35_142, e35_143, e35_146, e35_146z, e35_147, e35_149, e35_152, e35_153, e35_156, e35_159, e35_160, e35_163, e35_164, e35_167, e35_167z, e35_168, e35_170, e35_173, e35_174, e35_177, e35_178, e35_181, e35_181z, e35_182, e35_184, e35_187, e35_188, e35_191, e35_192, e35_195, e35_195z, e35_196, e35_198, e35_201, e35_202, e35_205, e35_206, e35_209, e35_209z, e35_210, e35_212, e35_215, e35_216, e35_217, e35_220, e35_221, e35_222, e35_225, e35_226, e35_229, e35_229z, e35_230, e35_231, e35_234, e35_235, e35_235i, e35_236, e35_239, e35_240, e35_241, e35_244, e35_247, e35_248, e35_249, e35_252, psh0, psh1, psh3, true_or, or_true, eq_self, Option.bind_some, List.length_nil, List.length_cons, Nat.reduceAdd, Nat.reduceLeDiff, Nat.zero_le, ↓reduceIte, Int.reduceLT, Int.reduceEq, Int.reduceLE, Int.reduceNeg, Int.reduceAdd, Int.reduceMul, Int.reduceSub, ne_eq, not_true_eq_false, not_false_eq_true, and_true, true_and, and_false, false_and, c3lt, c3gt, c3eq, Bool.false_eq_true, isK_wr, inA_wr, inR_wr, k11, k2, x4, j1, xT, c1, c2, z1]
      · rw [if_neg cd, if_neg cd]
        simp only [dgi, decide_eq_true_eq] at cd
        have e159 : EV (d + 1) 35 125 [(2, 110)] [(2, 110)] a1 = EV (d + 1) 35 159 [(2, 110)] [] a1 := by
          by_cases c1 : mrd a 111 q < 48
          · simp only [e35_1, e35_4, e35_5, e35_8, e35_11, e35_12, e35_15, e35_16, e35_19, e35_19z, e35_20, e35_22, e35_25, e35_26, e35_29, e35_30, e35_33, e35_33z, e35_34, e35_36, e35_39, e35_40, e35_40i, e35_41, e35_44, e35_45, e35_46, e35_49, e35_52, e35_53, e35_54, e35_57, e35_60, e35_61, e35_62, e35_65, e35_66, e35_67, e35_71, e35_74, e35_75, e35_78, e35_81, e35_82, e35_83, e35_86, e35_89, e35_90, e35_93, e35_94, e35_97, e35_97z, e35_98, e35_100, e35_103, e35_104, e35_107, e35_108, e35_111, e35_111z, e35_112, e35_114, e35_117, e35_118, e35_121, e35_125, e35_128, e35_129, e35_132, e35_132z, e35_133, e35_135, e35_138, e35_139, e35_142, e35_143, e35_146, e35_146z, e35_147, e35_149, e35_152, e35_153, e35_156, e35_160, e35_163, e35_164, e35_167, e35_167z, e35_168, e35_170, e35_173, e35_174, e35_177, e35_178, e35_181, e35_181z, e35_182, e35_184, e35_187, e35_188, e35_191, e35_192, e35_195, e35_195z, e35_196, e35_198, e35_201, e35_202, e35_205, e35_206, e35_209, e35_209z, e35_210, e35_212, e35_215, e35_216, e35_217, e35_220, e35_221, e35_222, e35_225, e35_226, e35_229, e35_229z, e35_230, e35_231, e35_234, e35_235, e35_235i, e35_236, e35_239, e35_240, e35_241, e35_244, e35_247, e35_248, e35_249, e35_252, psh0, psh1, psh3, true_or, or_true, eq_self, Option.bind_some, List.length_nil, List.length_cons, Nat.reduceAdd, Nat.reduceLeDiff, Nat.zero_le, ↓reduceIte, Int.reduceLT, Int.reduceEq, Int.reduceLE, Int.reduceNeg, Int.reduceAdd, Int.reduceMul, Int.reduceSub, ne_eq, not_true_eq_false, not_false_eq_true, and_true, true_and, and_false, false_and, c3lt, c3gt, c3eq, Bool.false_eq_true, isK_wr, inA_wr, inR_wr, k11, k2, x4, j1, xT, c1]
          · have c2 : 57 < mrd a 111 q := by omega
            simp only [e35_1, e35_4, e35_5, e35_8, e35_11, e35_12, e35_15, e35_16, e35_19, e35_19z, e35_20, e35_22, e35_25, e35_26, e35_29, e35_30, e35_33, e35_33z, e35_34, e35_36, e35_39, e35_40, e35_40i, e35_41, e35_44, e35_45, e35_46, e35_49, e35_52, e35_53, e35_54, e35_57, e35_60, e35_61, e35_62, e35_65, e35_66, e35_67, e35_71, e35_74, e35_75, e35_78, e35_81, e35_82, e35_83, e35_86, e35_89, e35_90, e35_93, e35_94, e35_97, e35_97z, e35_98, e35_100, e35_103, e35_104, e35_107, e35_108, e35_111, e35_111z, e35_112, e35_114, e35_117, e35_118, e35_121, e35_125, e35_128, e35_129, e35_132, e35_132z, e35_133, e35_135, e35_138, e35_139, e35_142, e35_143, e35_146, e35_146z, e35_147, e35_149, e35_152, e35_153, e35_156, e35_160, e35_163, e35_164, e35_167, e35_167z, e35_168, e35_170, e35_173, e35_174, e35_177, e35_178, e35_181, e35_181z, e35_182, e35_184, e35_187, e35_188, e35_191, e35_192, e35_195, e35_195z, e35_196, e35_198, e35_201, e35_202, e35_205, e35_206, e35_209, e35_209z, e35_210, e35_212, e35_215, e35_216, e35_217, e35_220, e35_221, e35_222, e35_225, e35_226, e35_229, e35_229z, e35_230, e35_231, e35_234, e35_235, e35_235i, e35_236, e35_239, e35_240, e35_241, e35_244, e35_247, e35_248, e35_249, e35_252, psh0, psh1, psh3, true_or, or_true, eq_self, Option.bind_some, List.length_nil, List.length_cons, Nat.reduceAdd, Nat.reduceLeDiff, Nat.zero_le, ↓reduceIte, Int.reduceLT, Int.reduceEq, Int.reduceLE, Int.reduceNeg, Int.reduceAdd, Int.reduceMul, Int.reduceSub, ne_eq, not_true_eq_false, not_false_eq_true, and_true, true_and, and_false, false_and, c3lt, c3gt, c3eq, Bool.false_eq_true, isK_wr, inA_wr, inR_wr, k11, k2, x4, j1, xT, c1, c2]
        rw [e159, e35_159]
        by_cases cs : sgn_ (mrd a 111 q) = true
        · rw [if_pos cs, if_pos cs]
          simp only [sgn_, decide_eq_true_eq] at cs
          have e215 : EV (d + 1) 35 160 [(2, 110)] [(2, 110)] a1 = EV (d + 1) 35 215 [(2, 110)] [] a1 := by
            by_cases c1 : mrd a 111 q = 59
            · simp only [e35_1, e35_4, e35_5, e35_8, e35_11, e35_12, e35_15, e35_16, e35_19, e35_19z, e35_20, e35_22, e35_25, e35_26, e35_29, e35_30, e35_33, e35_33z, e35_34, e35_36, e35_39, e35_40, e35_40i, e35_41, e35_44, e35_45, e35_46, e35_49, e35_52, e35_53, e35_54, e35_57, e35_60, e35_61, e35_62, e35_65, e35_66, e35_67, e35_71, e35_74, e35_75, e35_78, e35_81, e35_82, e35_83, e35_86, e35_89, e35_90, e35_93, e35_94, e35_97, e35_97z, e35_98, e35_100, e35_103, e35_104, e35_107, e35_108, e35_111, e35_111z, e35_112, e35_114, e35_117, e35_118, e35_121, e35_125, e35_128, e35_129, e35_132, e35_132z, e35_133, e35_135, e35_138, e35_139, e35_142, e35_143, e35_146, e35_146z, e35_147, e35_149, e35_152, e35_153, e35_156, e35_160, e35_163, e35_164, e35_167, e35_167z, e35_168, e35_170, e35_173, e35_174, e35_177, e35_178, e35_181, e35_181z, e35_182, e35_184, e35_187, e35_188, e35_191, e35_192, e35_195, e35_195z, e35_196, e35_198, e35_201, e35_202, e35_205, e35_206, e35_209, e35_209z, e35_210, e35_212, e35_216, e35_217, e35_220, e35_221, e35_222, e35_225, e35_226, e35_229, e35_229z, e35_230, e35_231, e35_234, e35_235, e35_235i, e35_236, e35_239, e35_240, e35_241, e35_244, e35_247, e35_248, e35_249, e35_252, psh0, psh1, psh3, true_or, or_true, eq_self, Option.bind_some, List.length_nil, List.length_cons, Nat.reduceAdd, Nat.reduceLeDiff, Nat.zero_le, ↓reduceIte, Int.reduceLT, Int.reduceEq, Int.reduceLE, Int.reduceNeg, Int.reduceAdd, Int.reduceMul, Int.reduceSub, ne_eq, not_true_eq_false, not_false_eq_true, and_true, true_and, and_false, false_and, c3lt, c3gt, c3eq, Bool.false_eq_true, isK_wr, inA_wr, inR_wr, k11, k2, x4, j1, xT, c1]
            · by_cases c2 : mrd a 111 q = 60
              · simp only [e35_1, e35_4, e35_5, e35_8, e35_11, e35_12, e35_15, e35_16, e35_19, e35_19z, e35_20, e35_22, e35_25, e35_26, e35_29, e35_30, e35_33, e35_33z, e35_34, e35_36, e35_39, e35_40, e35_40i, e35_41, e35_44, e35_45, e35_46, e35_49, e35_52, e35_53, e35_54, e35_57, e35_60, e35_61, e35_62, e35_65, e35_66, e35_67, e35_71, e35_74, e35_75, e35_78, e35_81, e35_82, e35_83, e35_86, e35_89, e35_90, e35_93, e35_94, e35_97, e35_97z, e35_98, e35_100, e35_103, e35_104, e35_107, e35_108, e35_111, e35_111z, e35_112, e35_114, e35_117, e35_118, e35_121, e35_125, e35_128, e35_129, e35_132, e35_132z, e35_133, e35_135, e35_138, e35_139, e35_142, e35_143, e35_146, e35_146z, e35_147, e35_149, e35_152, e35_153, e35_156, e35_160, e35_163, e35_164, e35_167, e35_167z, e35_168, e35_170, e35_173, e35_174, e35_177, e35_178, e35_181, e35_181z, e35_182, e35_184, e35_187, e35_188, e35_191, e35_192, e35_195, e35_195z, e35_196, e35_198, e35_201, e35_202, e35_205, e35_206, e35_209, e35_209z, e35_210, e35_212, e35_216, e35_217, e35_220, e35_221, e35_222, e35_225, e35_226, e35_229, e35_229z, e35_230, e35_231, e35_234, e35_235, e35_235i, e35_236, e35_239, e35_240, e35_241, e35_244, e35_247, e35_248, e35_249, e35_252, psh0, psh1, psh3, true_or, or_true, eq_self, Option.bind_some, List.length_nil, List.length_cons, Nat.reduceAdd, Nat.reduceLeDiff, Nat.zero_le, ↓reduceIte, Int.reduceLT, Int.reduceEq, Int.reduceLE, Int.reduceNeg, Int.reduceAdd, Int.reduceMul, Int.reduceSub, ne_eq, not_true_eq_false, not_false_eq_true, and_true, true_and, and_false, false_and, c3lt, c3gt, c3eq, Bool.false_eq_true, isK_wr, inA_wr, inR_wr, k11, k2, x4, j1, xT, c1, c2]
              · by_cases c3 : mrd a 111 q = 62
                · simp only [e35_1, e35_4, e35_5, e35_8, e35_11, e35_12, e35_15, e35_16, e35_19, e35_19z, e35_20, e35_22, e35_25, e35_26, e35_29, e35_30, e35_33, e35_33z, e35_34, e35_36, e35_39, e35_40, e35_40i, e35_41, e35_44, e35_45, e35_46, e35_49, e35_52, e35_53, e35_54, e35_57, e35_60, e35_61, e35_62, e35_65, e35_66, e35_67, e35_71, e35_74, e35_75, e35_78, e35_81, e35_82, e35_83, e35_86, e35_89, e35_90, e35_93, e35_94, e35_97, e35_97z, e35_98, e35_100, e35_103, e35_104, e35_107, e35_108, e35_111, e35_111z, e35_112, e35_114, e35_117, e35_118, e35_121, e35_125, e35_128, e35_129, e35_132, e35_132z, e35_133, e35_135, e35_138, e35_139, e35_142, e35_143, e35_146, e35_146z, e35_147, e35_149, e35_152, e35_153, e35_156, e35_160, e35_163, e35_164, e35_167, e35_167z, e35_168, e35_170, e35_173, e35_174, e35_177, e35_178, e35_181, e35_181z, e35_182, e35_184, e35_187, e35_188, e35_191, e35_192, e35_195, e35_195z, e35_196, e35_198, e35_201, e35_202, e35_205, e35_206, e35_209, e35_209z, e35_210, e35_212, e35_216, e35_217, e35_220, e35_221, e35_222, e35_225, e35_226, e35_229, e35_229z, e35_230, e35_231, e35_234, e35_235, e35_235i, e35_236, e35_239, e35_240, e35_241, e35_244, e35_247, e35_248, e35_249, e35_252, psh0, psh1, psh3, true_or, or_true, eq_self, Option.bind_some, List.length_nil, List.length_cons, Nat.reduceAdd, Nat.reduceLeDiff, Nat.zero_le, ↓reduceIte, Int.reduceLT, Int.reduceEq, Int.reduceLE, Int.reduceNeg, Int.reduceAdd, Int.reduceMul, Int.reduceSub, ne_eq, not_true_eq_false, not_false_eq_true, and_true, true_and, and_false, false_and, c3lt, c3gt, c3eq, Bool.false_eq_true, isK_wr, inA_wr, inR_wr, k11, k2, x4, j1, xT, c1, c2, c3]
                · have c4 : mrd a 111 q = 61 := by omega
                  simp only [e35_1, e35_4, e35_5, e35_8, e35_11, e35_12, e35_15, e35_16, e35_19, e35_19z, e35_20, e35_22, e35_25, e35_26, e35_29, e35_30, e35_33, e35_33z, e35_34, e35_36, e35_39, e35_40, e35_40i, e35_41, e35_44, e35_45, e35_46, e35_49, e35_52, e35_53, e35_54, e35_57, e35_60, e35_61, e35_62, e35_65, e35_66, e35_67, e35_71, e35_74, e35_75, e35_78, e35_81, e35_82, e35_83, e35_86, e35_89, e35_90, e35_93, e35_94, e35_97, e35_97z, e35_98, e35_100, e35_103, e35_104, e35_107, e35_108, e35_111, e35_111z, e35_112, e35_114, e35_117, e35_118, e35_121, e35_125, e35_128, e35_129, e35_132, e35_132z, e35_133, e35_135, e35_138, e35_139, e35_142, e35_143, e35_146, e35_146z, e35_147, e35_149, e35_152, e35_153, e35_156, e35_160, e35_163, e35_164, e35_167, e35_167z, e35_168, e35_170, e35_173, e35_174, e35_177, e35_178, e35_181, e35_181z, e35_182, e35_184, e35_187, e35_188, e35_191, e35_192, e35_195, e35_195z, e35_196, e35_198, e35_201, e35_202, e35_205, e35_206, e35_209, e35_209z, e35_210, e35_212, e35_216, e35_217, e35_220, e35_221, e35_222, e35_225, e35_226, e35_229, e35_229z, e35_230, e35_231, e35_234, e35_235, e35_235i, e35_236, e35_239, e35_240, e35_241, e35_244, e35_247, e35_248, e35_249, e35_252, psh0, psh1, psh3, true_or, or_true, eq_self, Option.bind_some, List.length_nil, List.length_cons, Nat.reduceAdd, Nat.reduceLeDiff, Nat.zero_le, ↓reduceIte, Int.reduceLT, Int.reduceEq, Int.reduceLE, Int.reduceNeg, Int.reduceAdd, Int.reduceMul, Int.reduceSub, ne_eq, not_true_eq_false, not_false_eq_true, and_true, true_and, and_false, false_and, c3lt, c3gt, c3eq, Bool.false_eq_true, isK_wr, inA_wr, inR_wr, k11, k2, x4, j1, xT, c1, c2, c3, c4]
          have w1 : w32 ((q : Int) + 1) = ((q + 1 : Nat) : Int) := by rw [w32_id (by omega) (by omega)]; omega
          have u0 : ∀ v, mrd (mwr a1 110 5 v) 110 0 = 111 := fun v => by rw [rdn2 (by decide)]; exact k2
          have u4 : ∀ v, mrd (mwr a1 110 5 v) 110 4 = q := fun v => by rw [rdn2 (by decide)]; exact x4
          have uT : ∀ v j, mrd (mwr a1 110 5 v) 111 j = mrd a 111 j := fun v j => by rw [rdn1 (by decide)]; exact xT j
          have u5 : ∀ v w, mrd (mwr (mwr a1 110 5 v) 110 7 w) 110 4 = q := fun v w => by rw [rdn2 (by decide), rdn2 (by decide)]; exact x4
          refine ⟨mwr (mwr (mwr a1 110 5 3) 110 7 (mrd a 111 q)) 110 4 ((q + 1 : Nat) : Int), ?_, ((hA1.wr (by decide) (by decide)).wr (by decide) (by decide)).wr (by decide) (by decide), by rw [rdn2 (by decide), rdn2 (by decide), rde], by rw [rdn2 (by decide), rdn2 (by decide), rdn2 (by decide)]; exact x6, fun _ => rde, fun _ => by rw [rdn2 (by decide), rdn2 (by decide), rdn2 (by decide)]; exact x8, fun z => by omega, fun z => by omega, fun _ => by rw [rdn2 (by decide), rde]⟩
          rw [e215, e35_215]
          simp only [e35_1, e35_4, e35_5, e35_8, e35_11, e35_12, e35_15, e35_16, e35_19, e35_19z, e35_20, e35_22, e35_25, e35_26, e35_29, e35_30, e35_33, e35_33z, e35_34, e35_36, e35_39, e35_40, e35_40i, e35_41, e35_44, e35_45, e35_46, e35_49, e35_52, e35_53, e35_54, e35_57, e35_60, e35_61, e35_62, e35_65, e35_66, e35_67, e35_71, e35_74, e35_75, e35_78, e35_81, e35_82, e35_83, e35_86, e35_89, e35_90, e35_93, e35_94, e35_97, e35_97z, e35_98, e35_100, e35_103, e35_104, e35_107, e35_108, e35_111, e35_111z, e35_112, e35_114, e35_117, e35_118, e35_121, e35_125, e35_128, e35_129, e35_132, e35_132z, e35_133, e35_135, e35_138, e35_139, e35_142, e35_143, e35_146, e35_146z, e35_147, e35_149, e35_152, e35_153, e35_156, e35_160, e35_163, e35_164, e35_167, e35_167z, e35_168, e35_170, e35_173, e35_174, e35_177, e35_178, e35_181, e35_181z, e35_182, e35_184, e35_187, e35_188, e35_191, e35_192, e35_195, e35_195z, e35_196, e35_198, e35_201, e35_202, e35_205, e35_206, e35_209, e35_209z, e35_210, e35_212, e35_216, e35_217, e35_220, e35_221, e35_222, e35_225, e35_226, e35_229, e35_229z, e35_230, e35_231, e35_234, e35_235, e35_235i, e35_236, e35_239, e35_240, e35_241, e35_244, e35_247, e35_248, e35_249, e35_252, psh0, psh1, psh3, true_or, or_true, eq_self, Option.bind_some, List.length_nil, List.length_cons, Nat.reduceAdd, Nat.reduceLeDiff, Nat.zero_le, ↓reduceIte, Int.reduceLT, Int.reduceEq, Int.reduceLE, Int.reduceNeg, Int.reduceAdd, Int.reduceMul, Int.reduceSub, ne_eq, not_true_eq_false, not_false_eq_true, and_true, true_and, and_false, false_and, c3lt, c3gt, c3eq, Bool.false_eq_true, isK_wr, inA_wr, inR_wr, k11, u0, u4, u5, j1, uT, w1]
        · rw [if_neg cs, if_neg cs]
          simp only [sgn_, decide_eq_true_eq] at cs
          have c1 : ¬ mrd a 111 q = 59 := by omega
          have c2 : ¬ mrd a 111 q = 60 := by omega
          have c3 : ¬ mrd a 111 q = 62 := by omega
          have c4 : ¬ mrd a 111 q = 61 := by omega
          refine ⟨mwr a1 110 5 4, ?_, hA1.wr (by decide) (by decide), rde, by rw [rdn2 (by decide)]; exact x6, fun z => absurd rfl z, fun _ => by rw [rdn2 (by decide)]; exact x8, fun z => by omega, fun z => by omega, fun z => by omega⟩
          simp only [e35_1, e35_4, e35_5, e35_8, e35_11, e35_12, e35_15, e35_16, e35_19, e35_19z, e35_20, e35_22, e35_25, e35_26, e35_29, e35_30, e35_33, e35_33z, e35_34, e35_36, e35_39, e35_40, e35_40i, e35_41, e35_44, e35_45, e35_46, e35_49, e35_52, e35_53, e35_54, e35_57, e35_60, e35_61, e35_62, e35_65, e35_66, e35_67, e35_71, e35_74, e35_75, e35_78, e35_81, e35_82, e35_83, e35_86, e35_89, e35_90, e35_93, e35_94, e35_97, e35_97z, e35_98, e35_100, e35_103, e35_104, e35_107, e35_108, e35_111, e35_111z, e35_112, e35_114, e35_117, e35_118, e35_121, e35_125, e35_128, e35_129, e35_132, e35_132z, e35_133, e35_135, e35_138, e35_139, e35_142, e35_143, e35_146, e35_146z, e35_147, e35_149, e35_152, e35_153, e35_156, e35_160, e35_163, e35_164, e35_167, e35_167z, e35_168, e35_170, e35_173, e35_174, e35_177, e35_178, e35_181, e35_181z, e35_182, e35_184, e35_187, e35_188, e35_191, e35_192, e35_195, e35_195z, e35_196, e35_198, e35_201, e35_202, e35_205, e35_206, e35_209, e35_209z, e35_210, e35_212, e35_215, e35_216, e35_217, e35_220, e35_221, e35_222, e35_225, e35_226, e35_229, e35_229z, e35_230, e35_231, e35_234, e35_235, e35_235i, e35_236, e35_239, e35_240, e35_241, e35_244, e35_247, e35_248, e35_249, e35_252, psh0, psh1, psh3, true_or, or_true, eq_self, Option.bind_some, List.length_nil, List.length_cons, Nat.reduceAdd, Nat.reduceLeDiff, Nat.zero_le, ↓reduceIte, Int.reduceLT, Int.reduceEq, Int.reduceLE, Int.reduceNeg, Int.reduceAdd, Int.reduceMul, Int.reduceSub, ne_eq, not_true_eq_false, not_false_eq_true, and_true, true_and, and_false, false_and, c3lt, c3gt, c3eq, Bool.false_eq_true, isK_wr, inA_wr, inR_wr, k11, k2, x4, j1, xT, c1, c2, c3, c4]
  · have cN' : ¬ (q : Int) < N := by omega
    rw [if_neg cN, if_neg cN]
    refine ⟨mwr a1 110 5 0, ?_, hA1.wr (by decide) (by decide), rde, by rw [rdn2 (by decide)]; exact x6, fun _ => by rw [rdn2 (by decide)]; exact x4, fun _ => by rw [rdn2 (by decide)]; exact x8, fun z => by omega, fun z => by omega, fun z => by omega⟩
    simp only [e35_1, e35_4, e35_5, e35_8, e35_11, e35_12, e35_15, e35_16, e35_19, e35_19z, e35_20, e35_22, e35_25, e35_26, e35_29, e35_30, e35_33, e35_33z, e35_34, e35_36, e35_39, e35_40, e35_40i, e35_41, e35_44, e35_45, e35_46, e35_49, e35_52, e35_53, e35_54, e35_57, e35_60, e35_61, e35_62, e35_65, e35_66, e35_67, e35_71, e35_74, e35_75, e35_78, e35_81, e35_82, e35_83, e35_86, e35_89, e35_90, e35_93, e35_94, e35_97, e35_97z, e35_98, e35_100, e35_103, e35_104, e35_107, e35_108, e35_111, e35_111z, e35_112, e35_114, e35_117, e35_118, e35_121, e35_124, e35_125, e35_128, e35_129, e35_132, e35_132z, e35_133, e35_135, e35_138, e35_139, e35_142, e35_143, e35_146, e35_146z, e35_147, e35_149, e35_152, e35_153, e35_156, e35_159, e35_160, e35_163, e35_164, e35_167, e35_167z, e35_168, e35_170, e35_173, e35_174, e35_177, e35_178, e35_181, e35_181z, e35_182, e35_184, e35_187, e35_188, e35_191, e35_192, e35_195, e35_195z, e35_196, e35_198, e35_201, e35_202, e35_205, e35_206, e35_209, e35_209z, e35_210, e35_212, e35_215, e35_216, e35_217, e35_220, e35_221, e35_222, e35_225, e35_226, e35_229, e35_229z, e35_230, e35_231, e35_234, e35_235, e35_235i, e35_236, e35_239, e35_240, e35_241, e35_244, e35_247, e35_248, e35_249, e35_252, psh0, psh1, psh3, true_or, or_true, eq_self, Option.bind_some, List.length_nil, List.length_cons, Nat.reduceAdd, Nat.reduceLeDiff, Nat.zero_le, ↓reduceIte, Int.reduceLT, Int.reduceEq, Int.reduceLE, Int.reduceNeg, Int.reduceAdd, Int.reduceMul, Int.reduceSub, ne_eq, not_true_eq_false, not_false_eq_true, and_true, true_and, and_false, false_and, c3lt, c3gt, c3eq, Bool.false_eq_true, isK_wr, inA_wr, inR_wr, k11, x4, e3, cN']
end
