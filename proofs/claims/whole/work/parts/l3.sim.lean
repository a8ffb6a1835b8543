/-! ages lived: fate -/
theorem e25_49w {d : Nat} {L st : List AV} {h : AM} {p0 : Int} (hs : rst4 st = true) : EV (d + 1) 25 49 L ((0, p0) :: st) h = (EV d 327 0 [(0, p0)] [] h).bind (fun q => EV (d + 1) 25 52 L (psh q.1 st) q.2) := by
  have := E_csr (d := d) (L := L) (st := st) (h := h) [(0, p0)] (m25 dX3_meetFate_49) (by rw [ow25]; exact tr_3_147) (by decide) td327 (by rw [np327]; rfl) (by rw [ml327]; exact Nat.le_of_ble_eq_true rfl) rfl hs
  unfold mkl at this
  rw [ml327] at this
  exact this
theorem cB_z {x : Int} : ∀ n, cB x n = 0 → ∀ i, i < n → bI x i = false
  | 0, _, i, hi => by omega
  | n + 1, h, i, hi => by
    rw [cB] at h
    have r := cB_rng x n
    by_cases c : bI x n = true
    · rw [if_pos c] at h; omega
    · by_cases e : i = n
      · rw [e]; simpa using c
      · rw [if_neg c] at h
        exact cB_z n (by omega) i (by omega)
theorem sF_z {P : Nat → Bool} {N : Nat} (hN : N ≤ 12) : sF P N = 0 ↔ cB (sF P N) 12 = 0 := by
  constructor
  · intro h
    rw [h]
    decide +kernel
  · intro h
    refine bI_ext (sF_in _ _) z32 (fun i hi => ?_)
    rw [bI_0]
    by_cases c : i < 12
    · exact cB_z 12 h i c
    · rw [sF_bit P N i (by omega), decide_eq_false (by omega), Bool.false_and]
theorem sF_12 {P : Nat → Bool} {N : Nat} (hN : N ≤ 12) : 0 ≤ sF P N ∧ sF P N < 4096 := by
  have := bI_rng (n := 12) (sF_in P N) (by decide) (fun i h0 _ => by rw [sF_bit P N i (by omega), decide_eq_false (by omega), Bool.false_and])
  omega
section
variable {d d' : Nat} {a0 b0 a b a' b' : AM} {s L g nc nl e c e' c' k l p v n x w : Int}
theorem Sim.rnd (hB : BF a0 b0 s L g nc nl) (hS : Sim e c a0 b0 s L a b) : Sim e c a0 b0 s L (mwr a L 7 (rndF (mrd b 235 46))) (mwr b 235 46 (rndF (mrd b 235 46))) := by
  refine hS.same hB (FNa.rf.wr (by decide) (by decide)) (FNb.rf.wr (by decide) (by decide)) ?_
  have h := hS.2.2.2
  have r := rn_rng h.2.2.2.2.2.2.2.1 h.2.2.2.2.2.2.2.2
  unfold LV at h ⊢
  rw [rdn2 (by decide), rdn2 (by decide), rdn2 (by decide), rdn2 (by decide), rdn2 (by decide), rdn2 (by decide), rdn2 (by decide), rdn2 (by decide), rdn2 (by decide), rdn2 (by decide), rdn2 (by decide), rdn2 (by decide), rde, rde]
  exact ⟨h.1, h.2.1, h.2.2.1, h.2.2.2.1, h.2.2.2.2.1, h.2.2.2.2.2.1, rfl, r⟩
theorem m_fate_loop (hk : isK b 235 11) (l2 : AV) (n : Nat) : ∀ (l : Nat) (w : Int), l + n = 12 → 0 ≤ w → w ≤ 100 → mbF x n l w ≠ -1 → EV (d + 1) 315 87 [(2, 235), (0, k), l2, (0, x), (0, w), (0, (l : Int))] [] b = EV (d + 1) 315 126 [(2, 235), (0, k), l2, (0, x), (0, 0), (0, mbF x n l w)] [] b := by
  induction n with
  | zero =>
    intro l w hl w0 w1 hn
    exact absurd rfl hn
  | succ n ih =>
    intro l w hl w0 w1 hn
    have u1 : w32 ((l : Int) + 1) = ((l + 1 : Nat) : Int) := by rw [w32_id (by omega) (by omega)]; omega
    have gh := m_has (d := d) (h := b) (x := x) (l := (l : Int)) (by omega) (by omega)
    rw [Int.toNat_natCast] at gh
    rw [mbF] at hn ⊢
    by_cases hx : bI x l = true
    · rw [if_pos hx] at gh hn ⊢
      by_cases c0 : w = 0
      · rw [if_pos c0, e315_87]
        subst c0
        simp only [e315_0, e315_1, e315_3, e315_6, e315_7, e315_8, e315_10, e315_13, e315_14, e315_15, e315_16, e315_17, e315_20, e315_23, e315_24, e315_25, e315_27, e315_30, e315_31, e315_32, e315_35, e315_38, e315_39, e315_40, e315_41, e315_42, e315_43, e315_46, e315_49, e315_52, e315_55, e315_56, e315_59, e315_60, e315_61, e315_62, e315_63, e315_64, e315_67, e315_68, e315_69, e315_72, e315_73, e315_74, e315_75, e315_76, e315_79, e315_82, e315_84, e315_85, e315_88, e315_90, e315_93, e315_96, e315_98, e315_101, e315_103, e315_104, e315_106, e315_109, e315_112, e315_113, e315_116, e315_117, e315_118, e315_120, e315_123, e315_127, e315_128, e315_130, e315_133, psh0, psh1, psh3, true_or, or_true, eq_self, Option.bind_some, List.length_nil, List.length_cons, Nat.reduceAdd, Nat.reduceLeDiff, Nat.zero_le, ↓reduceIte, Int.reduceLT, Int.reduceEq, Int.reduceLE, Int.reduceNeg, Int.reduceAdd, Int.reduceMul, Int.reduceSub, ne_eq, not_true_eq_false, not_false_eq_true, and_true, true_and, and_false, false_and, c3lt, c3gt, c3eq, Bool.false_eq_true, isK_wr, inA_wr, inR_wr, gh]
      · rw [if_neg c0] at hn ⊢
        have cw : 0 < w := by omega
        have u2 : w32 (w - 1) = w - 1 := w32_id (by omega) (by omega)
        rw [← ih (l + 1) (w - 1) (by omega) (by omega) (by omega) hn, e315_87]
        simp only [e315_0, e315_1, e315_3, e315_6, e315_7, e315_8, e315_10, e315_13, e315_14, e315_15, e315_16, e315_17, e315_20, e315_23, e315_24, e315_25, e315_27, e315_30, e315_31, e315_32, e315_35, e315_38, e315_39, e315_40, e315_41, e315_42, e315_43, e315_46, e315_49, e315_52, e315_55, e315_56, e315_59, e315_60, e315_61, e315_62, e315_63, e315_64, e315_67, e315_68, e315_69, e315_72, e315_73, e315_74, e315_75, e315_76, e315_79, e315_82, e315_84, e315_85, e315_88, e315_90, e315_93, e315_96, e315_98, e315_101, e315_103, e315_104, e315_106, e315_109, e315_112, e315_113, e315_116, e315_117, e315_118, e315_120, e315_123, e315_127, e315_128, e315_130, e315_133, psh0, psh1, psh3, true_or, or_true, eq_self, Option.bind_some, List.length_nil, List.length_cons, Nat.reduceAdd, Nat.reduceLeDiff, Nat.zero_le, ↓reduceIte, Int.reduceLT, Int.reduceEq, Int.reduceLE, Int.reduceNeg, Int.reduceAdd, Int.reduceMul, Int.reduceSub, ne_eq, not_true_eq_false, not_false_eq_true, and_true, true_and, and_false, false_and, c3lt, c3gt, c3eq, Bool.false_eq_true, isK_wr, inA_wr, inR_wr, gh, cw, u1, u2]
    · rw [if_neg hx] at gh hn ⊢
      have u2 : w32 (w - 0) = w := by rw [w32_id (by omega) (by omega)]; omega
      rw [← ih (l + 1) w (by omega) w0 w1 hn, e315_87]
      simp only [e315_0, e315_1, e315_3, e315_6, e315_7, e315_8, e315_10, e315_13, e315_14, e315_15, e315_16, e315_17, e315_20, e315_23, e315_24, e315_25, e315_27, e315_30, e315_31, e315_32, e315_35, e315_38, e315_39, e315_40, e315_41, e315_42, e315_43, e315_46, e315_49, e315_52, e315_55, e315_56, e315_59, e315_60, e315_61, e315_62, e315_63, e315_64, e315_67, e315_68, e315_69, e315_72, e315_73, e315_74, e315_75, e315_76, e315_79, e315_82, e315_84, e315_85, e315_88, e315_90, e315_93, e315_96, e315_98, e315_101, e315_103, e315_104, e315_106, e315_109, e315_112, e315_113, e315_116, e315_117, e315_118, e315_120, e315_123, e315_127, e315_128, e315_130, e315_133, psh0, psh1, psh3, true_or, or_true, eq_self, Option.bind_some, List.length_nil, List.length_cons, Nat.reduceAdd, Nat.reduceLeDiff, Nat.zero_le, ↓reduceIte, Int.reduceLT, Int.reduceEq, Int.reduceLE, Int.reduceNeg, Int.reduceAdd, Int.reduceMul, Int.reduceSub, ne_eq, not_true_eq_false, not_false_eq_true, and_true, true_and, and_false, false_and, c3lt, c3gt, c3eq, Bool.false_eq_true, isK_wr, inA_wr, inR_wr, gh, u1, u2]
set_option maxHeartbeats 1000000 in
theorem lv_fate (hB : BF a0 b0 s L g nc nl) (hS : Sim 0 1 a0 b0 s L a b) (k0 : 0 ≤ k) (k1 : k < nc) : ∃ a' b' r, (r = 0 ∨ r = 1) ∧ EV (d + 6) 25 0 [(2, L), (2, s), (2, s + 25 + 2 * k), (3, 0), (3, 0)] [] a = some ((3, 0), a') ∧ EV (d' + 6) 315 0 [(2, 235), (0, k), (3, 0), (3, 0), (3, 0), (3, 0)] [] b = some ((0, r), b') ∧ Sim (1 - r) 1 a0 b0 s L a' b' ∧ mrd b' 235 48 = mrd b 235 48 := by
  obtain ⟨-, -, hm, cs0, -, kL, -⟩ := hS.sh hB
  have bs := hB.bs
  have lv := hS.2.2.2.2.2.2.2.2.2
  have e7 : mrd a L 7 = mrd b 235 46 := lv.1
  have gd := x_draw (d := d + 5) (n := 16) kL (by decide)
  have gm := m_draw (d := d' + 5) (n := 16) hm.1 (by decide)
  have hv := dr_rng (n := 16) lv.2.1 lv.2.2 (by decide) (by decide)
  rw [e7] at gd
  have hS1 := hS.rnd hB
  obtain ⟨x0, hx0⟩ : ∃ x0, x0 = mrd b 235 46 := ⟨_, rfl⟩
  rw [← hx0] at gd gm hv hS1
  obtain ⟨v, hvv⟩ : ∃ v, v = drwF x0 16 := ⟨_, rfl⟩
  rw [← hvv] at gd gm hv
  obtain ⟨a1, ha1⟩ : ∃ a1, a1 = mwr a L 7 (rndF x0) := ⟨_, rfl⟩
  obtain ⟨b1, hb1⟩ : ∃ b1, b1 = mwr b 235 46 (rndF x0) := ⟨_, rfl⟩
  rw [← ha1] at gd hS1
  rw [← hb1] at gm hS1
  have e48 : mrd b1 235 48 = mrd b 235 48 := by rw [hb1, rdn2 (by decide)]
  rw [← e48]
  obtain ⟨hp, hr, hm1, cs, ds, kL1, es, el, eg, eb⟩ := hS1.sh hB
  have ks0 := cs0.1
  have ks := cs.1
  obtain ⟨⟨N0, N12, n4, M1, M2, A6, A7⟩, q2, q3, q6, q5, q4⟩ := hS1.chi hB k0 k1
  obtain ⟨t1, t2, t3, t4, t5, t6⟩ := cs.2.2.2.2.2.2.2.2.2.2.2.2 k k0 (by omega)
  obtain ⟨M, hM⟩ := Int.eq_ofNat_of_zero_le q6.2.1
  obtain ⟨N, hN⟩ := Int.eq_ofNat_of_zero_le N0
  have e4 : ∀ i, mrd (mx a1 b1) 240 i = mrd b1 240 i := fun i => mxb (by decide) (by decide)
  have d6 : k < mrd (mx a1 b1) 240 2 := by rw [e4, M2]; exact k1
  have hMx : mrd (mx a1 b1) 240 (76 + k) = M := by rw [e4]; exact hM
  have hNx : mrd (mx a1 b1) 240 1 = N := by rw [e4, M1]; exact hN
  obtain ⟨u1, u2, u3, u4⟩ := spell_hl ds k0 d6 M hMx
  have yk : ∀ i, mrd (mx a1 b1) (s + 25 + 2 * k) i = mrd a1 (s + 25 + 2 * k) i := fun i => mxa (by omega)
  have yn : ∀ i, mrd (mx a1 b1) (s + 26 + 2 * k) i = mrd a1 (s + 26 + 2 * k) i := fun i => mxa (by omega)
  have yl : ∀ l i : Int, l < 12 → mrd (mx a1 b1) (s + 13 + l) i = mrd a1 (s + 13 + l) i := fun l i hl => mxa (by omega)
  have ys : ∀ i, mrd (mx a1 b1) s i = mrd a1 s i := fun i => mxa (by omega)
  rw [yk] at u1
  have u3' : ∀ p : Nat, p < M → 0 ≤ mrd a1 (s + 26 + 2 * k) p ∧ mrd a1 (s + 26 + 2 * k) p < 12 ∧ mrd a1 (s + 13 + mrd a1 (s + 26 + 2 * k) p) 2 = vow (mrd a1 (s + 13 + mrd a1 (s + 26 + 2 * k) p) 1) := fun p hp => by
    obtain ⟨w1, w2, w3⟩ := u3 p hp
    rw [yn] at w1 w2 w3
    rw [yl _ _ w2, yl _ _ w2] at w3
    exact ⟨w1, w2, w3⟩
  by_cases c8 : v < 8
  · -- the choice
    have hR : RSch (mx a1 b1).1 s 0 0 := hS1.2.2.1
    obtain ⟨a2, f1, f2⟩ := x_choose (d := d + 4) cs k0 (show k < 4 by omega) M u1 u3' N (A6.trans hN) (by omega) (fun l hl => (hS1.les hB (by omega) (by omega)).2.2.2.2.2) (fun l hl => by have := (hS1.les hB (l := l) (by omega) (by omega)).2.1; rw [this.1]; exact this.2) (by rw [q2.1]; exact q2.2) (fun l hl hb => by
      have := chi_lt (l := l) hR k0 (by show k < mrd (mx a1 b1) s 7; rw [ys, A7]; exact k1) (by omega) (by omega) (by rw [Int.toNat_natCast]; show bI (mrd (mx a1 b1) (s + 25 + 2 * k) 5) l = false; rw [yk]; exact hb)
      have : mrd (mx a1 b1) (s + 25 + 2 * k) 6 < 12 := this
      rw [yk, u1] at this
      omega)
    have hMC : MC b1 k := MC_congr (h := mx a1 b1) (fun i => (e4 i).symm) (MC_of ds k0 d6)
    obtain ⟨b2, m1, m2⟩ := m_choiceOf (d := d' + 1) hm1 hMC M hM N (M1.trans hN) (by omega) (fun l hl => (hS1.les hB (by omega) (by omega)).2.1.2) q2.2
    have eb := ch_both ds k0 d6 M hMx N hNx
    have ex : chF (rdX a1 s k) (swX a1 s k M) (dyX a1 s k) N = chF (rdX (mx a1 b1) s k) (swX (mx a1 b1) s k M) (dyX (mx a1 b1) s k) N := by
      refine chF_congr N (fun i hi => ?_) (fun i hi => ?_) (fun i hi => ?_)
      · have z6 := yl (i : Int) 6 (by omega)
        have z4 := yl (i : Int) 4 (by omega)
        simp only [rdX, rdy, yk, z6, z4]
      · unfold swX
        rw [ys, yl _ _ (by omega), kp_congr (g := fun p => mrd (mx a1 b1) (s + 13 + mrd (mx a1 b1) (s + 26 + 2 * k) p) 1) M (fun _ _ => rfl) (fun p hp => by rw [yn, yl _ _ (u3' p hp).2.1])]
      · unfold dyX
        rw [yk, yl _ _ (by omega)]
    have em : chF (rdM (mx a1 b1) k M) (swM (mx a1 b1) k M) (dyM (mx a1 b1) k) N = chF (rdM b1 k M) (swM b1 k M) (dyM b1 k) N := by
      refine chF_congr N (fun i hi => ?_) (fun i hi => ?_) (fun i hi => ?_)
      · unfold rdM
        simp only [e4]
      · unfold swM
        rw [e4, e4, kp_congr (g := fun p => LT b1 k p) M (fun _ _ => rfl) (fun p _ => LT_congr e4)]
      · unfold dyM
        rw [e4, e4]
    rw [ex, eb, em] at f1
    have hq := chF_rng (rdM b1 k M) (swM b1 k M) (dyM b1 k) N
    generalize (chF (rdM b1 k M) (swM b1 k M) (dyM b1 k) N).1 = R at f1 m1 hq
    have hS2 : Sim 0 1 a0 b0 s L a2 b2 := hS1.same hB (FNa.rf.vx f2) (FNb.rf.vm m2) (hS1.2.2.2.cg (fun i _ _ => f2.2 _ _ (by omega) (by omega)) (fun i _ _ => m2.2 _ _ (by decide) (by omega)))
    obtain ⟨a', b', r, r01, z1, z2, z3, z4⟩ := lv_learn (d := d + 2) (d' := d' + 2) (l := R) hB hS2 k0 k1 (by omega)
    have ks2 : isK a2 s 6 := (isK_eq f2.1).mpr ks
    have kL2 : isK a2 L 3 := (isK_eq f2.1).mpr kL1
    have hm2 : isK b2 235 11 := (isK_eq m2.1).mpr hm1.1
    refine ⟨a', b', r, r01, ?_, ?_, z3, z4.trans (m2.2 _ _ (by decide) (by omega))⟩
    · simp only [e25_0, e25_1, e25_3, e25_6, e25_7, e25_8, e25_10, e25_13, e25_14, e25_15, e25_16, e25_17, e25_18, e25_21, e25_24, e25_27, e25_28, e25_30, e25_33, e25_34, e25_35, e25_36, e25_39, e25_41, e25_42, e25_43, e25_44, e25_46, e25_47, e25_49, e25_52, e25_55, e25_58, e25_61, e25_64, e25_65, e25_66, e25_67, e25_68, e25_71, e25_74, e25_77, psh0, psh1, psh3, true_or, or_true, eq_self, Option.bind_some, List.length_nil, List.length_cons, Nat.reduceAdd, Nat.reduceLeDiff, Nat.zero_le, ↓reduceIte, Int.reduceLT, Int.reduceEq, Int.reduceLE, Int.reduceNeg, Int.reduceAdd, Int.reduceMul, Int.reduceSub, ne_eq, not_true_eq_false, not_false_eq_true, and_true, true_and, and_false, false_and, c3lt, c3gt, c3eq, Bool.false_eq_true, isK_wr, inA_wr, inR_wr, kL, gd, c8, ks, f1, kL2, z1]
    · simp only [e315_0, e315_1, e315_3, e315_6, e315_7, e315_8, e315_10, e315_13, e315_14, e315_15, e315_16, e315_17, e315_20, e315_23, e315_24, e315_25, e315_27, e315_30, e315_31, e315_32, e315_35, e315_38, e315_39, e315_40, e315_41, e315_42, e315_43, e315_46, e315_49, e315_52, e315_55, e315_56, e315_59, e315_60, e315_61, e315_62, e315_63, e315_64, e315_67, e315_68, e315_69, e315_72, e315_73, e315_74, e315_75, e315_76, e315_79, e315_82, e315_84, e315_85, e315_88, e315_90, e315_93, e315_96, e315_98, e315_101, e315_103, e315_104, e315_106, e315_109, e315_112, e315_113, e315_116, e315_117, e315_118, e315_120, e315_123, e315_126, e315_127, e315_128, e315_130, e315_133, psh0, psh1, psh3, true_or, or_true, eq_self, Option.bind_some, List.length_nil, List.length_cons, Nat.reduceAdd, Nat.reduceLeDiff, Nat.zero_le, ↓reduceIte, Int.reduceLT, Int.reduceEq, Int.reduceLE, Int.reduceNeg, Int.reduceAdd, Int.reduceMul, Int.reduceSub, ne_eq, not_true_eq_false, not_false_eq_true, and_true, true_and, and_false, false_and, c3lt, c3gt, c3eq, Bool.false_eq_true, isK_wr, inA_wr, inR_wr, hm.1, gm, c8, hm1.1, m1, hm2, z2, r01]
  by_cases c14 : v < 14
  · -- one that is ready
    have gr := x_readySet (d := d + 4) (c := k) cs k0 (show k < 4 by omega) true N (A6.trans hN) (by omega)
    have gq := m_readyOf (d := d' + 2) (k := k) hm1 k0 (show k < 4 by omega) true q6.2.1 q6.2.2 N (M1.trans hN) (by omega)
    have eb := rdy_both (mi := true) (N := N) ds hNx k0 d6
    have ex : sF (rdy (mrd a1 (s + 25 + 2 * k) 5) (mrd a1 (s + 25 + 2 * k) 3) (fun l => mrd a1 (s + 13 + l) 6) (fun l => mrd a1 (s + 13 + l) 4) true) N = sF (rdy (mrd (mx a1 b1) (s + 25 + 2 * k) 5) (mrd (mx a1 b1) (s + 25 + 2 * k) 3) (fun l => mrd (mx a1 b1) (s + 13 + l) 6) (fun l => mrd (mx a1 b1) (s + 13 + l) 4) true) N := by
      rw [yk, yk]
      exact rdy_congr N (fun i hi => (yl _ _ (by omega)).symm) (fun i hi => (yl _ _ (by omega)).symm)
    have em : RD (mx a1 b1) k true N = RD b1 k true N := by
      unfold RD
      simp only [e4]
    rw [ex, eb, em] at gr
    have hs12 := sF_12 (P := rdy (kb (fun p => mrd b1 240 (80 + 12 * k + p)) (mrd b1 240 (76 + k)).toNat) (mrd b1 240 (68 + k)) (fun l => mrd b1 240 (52 + l)) (fun l => mrd b1 240 (28 + l)) true) (N := N) (by omega)
    have hz := sF_z (P := rdy (kb (fun p => mrd b1 240 (80 + 12 * k + p)) (mrd b1 240 (76 + k)).toNat) (mrd b1 240 (68 + k)) (fun l => mrd b1 240 (52 + l)) (fun l => mrd b1 240 (28 + l)) true) (N := N) (by omega)
    have hbit := fun i => sF_bit (rdy (kb (fun p => mrd b1 240 (80 + 12 * k + p)) (mrd b1 240 (76 + k)).toNat) (mrd b1 240 (68 + k)) (fun l => mrd b1 240 (52 + l)) (fun l => mrd b1 240 (28 + l)) true) N i (by omega)
    rw [← show RD b1 k true N = sF (rdy (kb (fun p => mrd b1 240 (80 + 12 * k + p)) (mrd b1 240 (76 + k)).toNat) (mrd b1 240 (68 + k)) (fun l => mrd b1 240 (52 + l)) (fun l => mrd b1 240 (28 + l)) true) N from rfl] at hs12 hz hbit
    simp only [if_true] at gr gq
    generalize RD b1 k true N = R at gr gq hs12 hz hbit
    have gb := x_bitCount (d := d + 5) (h := a1) hs12.1 hs12.2
    have gs := m_sizeOf (d := d' + 4) (h := b1) (x := R)
    have cb := cB_rng R 12
    have rs5 : ∀ x, rst4 [(2, L), (0, x), (2, s + 25 + 2 * k), (2, s), (2, L)] = true := fun x => rfl
    by_cases cz : R = 0
    · have c0 := hz.mp cz
      rw [cz] at gr gq gb c0
      rw [c0] at gb
      have gn : EV (d + 5) 27 0 [(0, (0 : Int)), (0, -1), (3, 0), (3, 0)] [] a1 = some ((0, -1), a1) := x_memberOf1
      obtain ⟨a', b', r, r01, z1, z2, z3, z4⟩ := lv_learn (d := d + 2) (d' := d' + 2) (l := -1) hB hS1 k0 k1 (Or.inl rfl)
      have er : r = 0 ∧ b' = b1 := by
        have : EV (d' + 2 + 3) 313 0 [(2, 235), (0, k), (0, -1)] [] b1 = some ((0, 0), b1) := by simp only [e313_0, e313_1, e313_4, e313_5, e313_6, e313_7, e313_10, e313_13, e313_14, e313_15, e313_16, e313_17, e313_18, e313_21, e313_22, e313_22i, e313_23, e313_26, e313_27, e313_28, e313_31, e313_32, psh0, psh1, psh3, true_or, or_true, eq_self, Option.bind_some, List.length_nil, List.length_cons, Nat.reduceAdd, Nat.reduceLeDiff, Nat.zero_le, ↓reduceIte, Int.reduceLT, Int.reduceEq, Int.reduceLE, Int.reduceNeg, Int.reduceAdd, Int.reduceMul, Int.reduceSub, ne_eq, not_true_eq_false, not_false_eq_true, and_true, true_and, and_false, false_and, c3lt, c3gt, c3eq, Bool.false_eq_true, isK_wr, inA_wr, inR_wr]
        rw [this] at z2
        have z2 := Option.some.inj z2
        exact ⟨by have := congrArg (fun q => q.1.2) z2; exact this.symm, by have := congrArg (fun q => q.2) z2; exact this.symm⟩
      rw [er.1, er.2] at z3
      refine ⟨a', b1, 0, Or.inl rfl, ?_, ?_, z3, rfl⟩
      · simp only [e25_0, e25_1, e25_3, e25_6, e25_7, e25_8, e25_10, e25_13, e25_14, e25_15, e25_16, e25_17, e25_18, e25_21, e25_24, e25_27, e25_28, e25_30, e25_33, e25_34, e25_35, e25_36, e25_39, e25_41, e25_42, e25_43, e25_44, e25_46, e25_47, e25_49, e25_52, e25_55, e25_58, e25_61, e25_64, e25_65, e25_66, e25_67, e25_68, e25_71, e25_74, e25_77, psh0, psh1, psh3, true_or, or_true, eq_self, Option.bind_some, List.length_nil, List.length_cons, Nat.reduceAdd, Nat.reduceLeDiff, Nat.zero_le, ↓reduceIte, Int.reduceLT, Int.reduceEq, Int.reduceLE, Int.reduceNeg, Int.reduceAdd, Int.reduceMul, Int.reduceSub, ne_eq, not_true_eq_false, not_false_eq_true, and_true, true_and, and_false, false_and, c3lt, c3gt, c3eq, Bool.false_eq_true, isK_wr, inA_wr, inR_wr, kL, gd, c8, c14, ks, gr, e25_49w, rs5, gb, kL1, x_draw0, gn, z1]
      · simp only [e315_0, e315_1, e315_3, e315_6, e315_7, e315_8, e315_10, e315_13, e315_14, e315_15, e315_16, e315_17, e315_20, e315_23, e315_24, e315_25, e315_27, e315_30, e315_31, e315_32, e315_35, e315_38, e315_39, e315_40, e315_41, e315_42, e315_43, e315_46, e315_49, e315_52, e315_55, e315_56, e315_59, e315_60, e315_61, e315_62, e315_63, e315_64, e315_67, e315_68, e315_69, e315_72, e315_73, e315_74, e315_75, e315_76, e315_79, e315_82, e315_84, e315_85, e315_88, e315_90, e315_93, e315_96, e315_98, e315_101, e315_103, e315_104, e315_106, e315_109, e315_112, e315_113, e315_116, e315_117, e315_118, e315_120, e315_123, e315_126, e315_127, e315_128, e315_130, e315_133, psh0, psh1, psh3, true_or, or_true, eq_self, Option.bind_some, List.length_nil, List.length_cons, Nat.reduceAdd, Nat.reduceLeDiff, Nat.zero_le, ↓reduceIte, Int.reduceLT, Int.reduceEq, Int.reduceLE, Int.reduceNeg, Int.reduceAdd, Int.reduceMul, Int.reduceSub, ne_eq, not_true_eq_false, not_false_eq_true, and_true, true_and, and_false, false_and, c3lt, c3gt, c3eq, Bool.false_eq_true, isK_wr, inA_wr, inR_wr, hm.1, gm, c8, c14, hm1.1, gq]
    · have c0 : 0 < cB R 12 := by
        have : ¬ cB R 12 = 0 := fun z => cz (hz.mpr z)
        omega
      have lv1 := hS1.2.2.2.2.2.2.2.2.2
      have e71 : mrd a1 L 7 = mrd b1 235 46 := lv1.1
      have hv2 := dr_rng (n := cB R 12) lv1.2.1 lv1.2.2 c0 (by omega)
      have gd2 := x_draw (d := d + 5) kL1 c0
      have gm2 := m_draw (d := d' + 5) hm1.1 c0
      rw [e71] at gd2
      have hS2 := hS1.rnd hB
      obtain ⟨x1, hx1⟩ : ∃ x1, x1 = mrd b1 235 46 := ⟨_, rfl⟩
      rw [← hx1] at gd2 gm2 hv2 hS2
      obtain ⟨w, hw⟩ : ∃ w, w = drwF x1 (cB R 12) := ⟨_, rfl⟩
      rw [← hw] at gd2 gm2 hv2
      obtain ⟨a2, ha2⟩ : ∃ a2, a2 = mwr a1 L 7 (rndF x1) := ⟨_, rfl⟩
      obtain ⟨b2, hb2⟩ : ∃ b2, b2 = mwr b1 235 46 (rndF x1) := ⟨_, rfl⟩
      rw [← ha2] at gd2 hS2
      rw [← hb2] at gm2 hS2
      obtain ⟨-, -, hm2, -, -, kL2, -⟩ := hS2.sh hB
      have hmb := mb_there (x := R) 12 0 w hv2.1 (by
        have z0 : cB R 0 = 0 := rfl
        rw [z0]; show w < cB R 12 - 0; omega)
      have hrg := mbF_rng (x := R) 12 0 w
      have gn := x_memberOf (d := d + 5) (h := a2) (x := R) hv2.1 (show w ≤ 100 by omega)
      have gl := m_fate_loop (d := d' + 5) (b := b2) (k := k) (x := R) hm2.1 (0, v) 12 0 w (by omega) hv2.1 (by omega) hmb
      have hl : 0 ≤ mbF R 12 0 w ∧ mbF R 12 0 w < nl := by
        rcases hrg with z | ⟨y1, y2, y3⟩
        · exact absurd z hmb
        · rw [hbit, Bool.and_eq_true, decide_eq_true_eq] at y3
          exact ⟨by omega, by omega⟩
      generalize mbF R 12 0 w = l at gn gl hl
      obtain ⟨a', b', r, r01, z1, z2, z3, z4⟩ := lv_learn (d := d + 2) (d' := d' + 2) (l := l) hB hS2 k0 k1 (Or.inr hl)
      have gl : EV (d' + 6) 315 87 [(2, 235), (0, k), (0, v), (0, R), (0, w), (0, 0)] [] b2 = _ := gl
      refine ⟨a', b', r, r01, ?_, ?_, z3, z4.trans (by rw [hb2, rdn2 (by decide)])⟩
      · simp only [e25_0, e25_1, e25_3, e25_6, e25_7, e25_8, e25_10, e25_13, e25_14, e25_15, e25_16, e25_17, e25_18, e25_21, e25_24, e25_27, e25_28, e25_30, e25_33, e25_34, e25_35, e25_36, e25_39, e25_41, e25_42, e25_43, e25_44, e25_46, e25_47, e25_49, e25_52, e25_55, e25_58, e25_61, e25_64, e25_65, e25_66, e25_67, e25_68, e25_71, e25_74, e25_77, psh0, psh1, psh3, true_or, or_true, eq_self, Option.bind_some, List.length_nil, List.length_cons, Nat.reduceAdd, Nat.reduceLeDiff, Nat.zero_le, ↓reduceIte, Int.reduceLT, Int.reduceEq, Int.reduceLE, Int.reduceNeg, Int.reduceAdd, Int.reduceMul, Int.reduceSub, ne_eq, not_true_eq_false, not_false_eq_true, and_true, true_and, and_false, false_and, c3lt, c3gt, c3eq, Bool.false_eq_true, isK_wr, inA_wr, inR_wr, kL, gd, c8, c14, ks, gr, e25_49w, rs5, gb, kL1, gd2, gn, kL2, z1]
      · simp only [e315_0, e315_1, e315_3, e315_6, e315_7, e315_8, e315_10, e315_13, e315_14, e315_15, e315_16, e315_17, e315_20, e315_23, e315_24, e315_25, e315_27, e315_30, e315_31, e315_32, e315_35, e315_38, e315_39, e315_40, e315_41, e315_42, e315_43, e315_46, e315_49, e315_52, e315_55, e315_56, e315_59, e315_60, e315_61, e315_62, e315_63, e315_64, e315_67, e315_68, e315_69, e315_72, e315_73, e315_74, e315_75, e315_76, e315_79, e315_82, e315_84, e315_85, e315_88, e315_90, e315_93, e315_96, e315_98, e315_101, e315_103, e315_104, e315_106, e315_109, e315_112, e315_113, e315_116, e315_117, e315_118, e315_120, e315_123, e315_127, e315_128, e315_130, e315_133, psh0, psh1, psh3, true_or, or_true, eq_self, Option.bind_some, List.length_nil, List.length_cons, Nat.reduceAdd, Nat.reduceLeDiff, Nat.zero_le, ↓reduceIte, Int.reduceLT, Int.reduceEq, Int.reduceLE, Int.reduceNeg, Int.reduceAdd, Int.reduceMul, Int.reduceSub, ne_eq, not_true_eq_false, not_false_eq_true, and_true, true_and, and_false, false_and, c3lt, c3gt, c3eq, Bool.false_eq_true, isK_wr, inA_wr, inR_wr, hm.1, gm, c8, c14, hm1.1, gq, cz, gs, gm2]
        rw [gl, e315_126]
        simp only [e315_0, e315_1, e315_3, e315_6, e315_7, e315_8, e315_10, e315_13, e315_14, e315_15, e315_16, e315_17, e315_20, e315_23, e315_24, e315_25, e315_27, e315_30, e315_31, e315_32, e315_35, e315_38, e315_39, e315_40, e315_41, e315_42, e315_43, e315_46, e315_49, e315_52, e315_55, e315_56, e315_59, e315_60, e315_61, e315_62, e315_63, e315_64, e315_67, e315_68, e315_69, e315_72, e315_73, e315_74, e315_75, e315_76, e315_79, e315_82, e315_84, e315_85, e315_88, e315_90, e315_93, e315_96, e315_98, e315_101, e315_103, e315_104, e315_106, e315_109, e315_112, e315_113, e315_116, e315_117, e315_118, e315_120, e315_123, e315_127, e315_128, e315_130, e315_133, psh0, psh1, psh3, true_or, or_true, eq_self, Option.bind_some, List.length_nil, List.length_cons, Nat.reduceAdd, Nat.reduceLeDiff, Nat.zero_le, ↓reduceIte, Int.reduceLT, Int.reduceEq, Int.reduceLE, Int.reduceNeg, Int.reduceAdd, Int.reduceMul, Int.reduceSub, ne_eq, not_true_eq_false, not_false_eq_true, and_true, true_and, and_false, false_and, c3lt, c3gt, c3eq, Bool.false_eq_true, isK_wr, inA_wr, inR_wr, hm2.1, z2, r01]
  · -- a loss
    have ge := m_lengthOf (d := d' + 5) hm1 k0 (show k < 4 by omega)
    by_cases cz : mrd b1 240 (76 + k) = 0
    · have hx := x_hasPlace (d := d + 4) (h := a1) (c := -1) t3
      rw [if_neg (by omega)] at hx
      have w2 := hS1.w2
      have gt : EV (d + 5) 24 0 [(2, L), (2, s + 25 + 2 * k), (0, -1)] [] a1 = some ((3, 0), mwr a1 L 2 (mrd a1 L 2 + 1)) := by
        simp only [e24_0, e24_1, e24_2, e24_5, e24_8, e24_9, e24_10, e24_13, e24_13r, e24_14, e24_15, e24_15i, e24_16, e24_19, e24_20, e24_21, e24_24, e24_27, e24_28, e24_28i, e24_29, e24_32, e24_33, e24_34, e24_37, psh0, psh1, psh3, true_or, or_true, eq_self, Option.bind_some, List.length_nil, List.length_cons, Nat.reduceAdd, Nat.reduceLeDiff, Nat.zero_le, ↓reduceIte, Int.reduceLT, Int.reduceEq, Int.reduceLE, Int.reduceNeg, Int.reduceAdd, Int.reduceMul, Int.reduceSub, ne_eq, not_true_eq_false, not_false_eq_true, and_true, true_and, and_false, false_and, c3lt, c3gt, c3eq, Bool.false_eq_true, isK_wr, inA_wr, inR_wr, kL1, hx, t3, w2]
      have eq6 : mrd a1 (s + 25 + 2 * k) 6 = 0 := q6.1.trans cz
      refine ⟨_, b1, 0, Or.inl rfl, ?_, ?_, lv_miss hB hS1, rfl⟩
      · simp only [e25_0, e25_1, e25_3, e25_6, e25_7, e25_8, e25_10, e25_13, e25_14, e25_15, e25_16, e25_17, e25_18, e25_21, e25_24, e25_27, e25_28, e25_30, e25_33, e25_34, e25_35, e25_36, e25_39, e25_41, e25_42, e25_43, e25_44, e25_46, e25_47, e25_49, e25_52, e25_55, e25_58, e25_61, e25_64, e25_65, e25_66, e25_67, e25_68, e25_71, e25_74, e25_77, psh0, psh1, psh3, true_or, or_true, eq_self, Option.bind_some, List.length_nil, List.length_cons, Nat.reduceAdd, Nat.reduceLeDiff, Nat.zero_le, ↓reduceIte, Int.reduceLT, Int.reduceEq, Int.reduceLE, Int.reduceNeg, Int.reduceAdd, Int.reduceMul, Int.reduceSub, ne_eq, not_true_eq_false, not_false_eq_true, and_true, true_and, and_false, false_and, c3lt, c3gt, c3eq, Bool.false_eq_true, isK_wr, inA_wr, inR_wr, kL, gd, c8, c14, t3, eq6, kL1, x_draw0, gt]
      · simp only [e315_0, e315_1, e315_3, e315_6, e315_7, e315_8, e315_10, e315_13, e315_14, e315_15, e315_16, e315_17, e315_20, e315_23, e315_24, e315_25, e315_27, e315_30, e315_31, e315_32, e315_35, e315_38, e315_39, e315_40, e315_41, e315_42, e315_43, e315_46, e315_49, e315_52, e315_55, e315_56, e315_59, e315_60, e315_61, e315_62, e315_63, e315_64, e315_67, e315_68, e315_69, e315_72, e315_73, e315_74, e315_75, e315_76, e315_79, e315_82, e315_84, e315_85, e315_88, e315_90, e315_93, e315_96, e315_98, e315_101, e315_103, e315_104, e315_106, e315_109, e315_112, e315_113, e315_116, e315_117, e315_118, e315_120, e315_123, e315_126, e315_127, e315_128, e315_130, e315_133, psh0, psh1, psh3, true_or, or_true, eq_self, Option.bind_some, List.length_nil, List.length_cons, Nat.reduceAdd, Nat.reduceLeDiff, Nat.zero_le, ↓reduceIte, Int.reduceLT, Int.reduceEq, Int.reduceLE, Int.reduceNeg, Int.reduceAdd, Int.reduceMul, Int.reduceSub, ne_eq, not_true_eq_false, not_false_eq_true, and_true, true_and, and_false, false_and, c3lt, c3gt, c3eq, Bool.false_eq_true, isK_wr, inA_wr, inR_wr, hm.1, gm, c8, c14, hm1.1, ge, cz]
    · have c0 : 0 < mrd b1 240 (76 + k) := by omega
      have lv1 := hS1.2.2.2.2.2.2.2.2.2
      have e71 : mrd a1 L 7 = mrd b1 235 46 := lv1.1
      have hv2 := dr_rng (n := mrd b1 240 (76 + k)) lv1.2.1 lv1.2.2 c0 (by omega)
      have gd2 := x_draw (d := d + 5) kL1 c0
      have gm2 := m_draw (d := d' + 5) hm1.1 c0
      rw [e71] at gd2
      have hS2 := hS1.rnd hB
      obtain ⟨x1, hx1⟩ : ∃ x1, x1 = mrd b1 235 46 := ⟨_, rfl⟩
      rw [← hx1] at gd2 gm2 hv2 hS2
      obtain ⟨w, hw⟩ : ∃ w, w = drwF x1 (mrd b1 240 (76 + k)) := ⟨_, rfl⟩
      rw [← hw] at gd2 gm2 hv2
      obtain ⟨a2, ha2⟩ : ∃ a2, a2 = mwr a1 L 7 (rndF x1) := ⟨_, rfl⟩
      obtain ⟨b2, hb2⟩ : ∃ b2, b2 = mwr b1 235 46 (rndF x1) := ⟨_, rfl⟩
      rw [← ha2] at gd2 hS2
      rw [← hb2] at gm2 hS2
      obtain ⟨-, -, hm2, -, -, kL2, -⟩ := hS2.sh hB
      obtain ⟨a', b', r, r01, z1, z2, z3, z4⟩ := lv_lose (d := d + 2) (d' := d' + 2) (p := w) hB hS2 k0 k1 hv2.1
      refine ⟨a', b', r, r01, ?_, ?_, z3, z4.trans (by rw [hb2, rdn2 (by decide)])⟩
      · simp only [e25_0, e25_1, e25_3, e25_6, e25_7, e25_8, e25_10, e25_13, e25_14, e25_15, e25_16, e25_17, e25_18, e25_21, e25_24, e25_27, e25_28, e25_30, e25_33, e25_34, e25_35, e25_36, e25_39, e25_41, e25_42, e25_43, e25_44, e25_46, e25_47, e25_49, e25_52, e25_55, e25_58, e25_61, e25_64, e25_65, e25_66, e25_67, e25_68, e25_71, e25_74, e25_77, psh0, psh1, psh3, true_or, or_true, eq_self, Option.bind_some, List.length_nil, List.length_cons, Nat.reduceAdd, Nat.reduceLeDiff, Nat.zero_le, ↓reduceIte, Int.reduceLT, Int.reduceEq, Int.reduceLE, Int.reduceNeg, Int.reduceAdd, Int.reduceMul, Int.reduceSub, ne_eq, not_true_eq_false, not_false_eq_true, and_true, true_and, and_false, false_and, c3lt, c3gt, c3eq, Bool.false_eq_true, isK_wr, inA_wr, inR_wr, kL, gd, c8, c14, t3, q6.1, kL1, gd2, kL2, z1]
      · rcases r01 with rfl | rfl
        · simp only [e315_0, e315_1, e315_3, e315_6, e315_7, e315_8, e315_10, e315_13, e315_14, e315_15, e315_16, e315_17, e315_20, e315_23, e315_24, e315_25, e315_27, e315_30, e315_31, e315_32, e315_35, e315_38, e315_39, e315_40, e315_41, e315_42, e315_43, e315_46, e315_49, e315_52, e315_55, e315_56, e315_59, e315_60, e315_61, e315_62, e315_63, e315_64, e315_67, e315_68, e315_69, e315_72, e315_73, e315_74, e315_75, e315_76, e315_79, e315_82, e315_84, e315_85, e315_88, e315_90, e315_93, e315_96, e315_98, e315_101, e315_103, e315_104, e315_106, e315_109, e315_112, e315_113, e315_116, e315_117, e315_118, e315_120, e315_123, e315_126, e315_127, e315_128, e315_130, e315_133, psh0, psh1, psh3, true_or, or_true, eq_self, Option.bind_some, List.length_nil, List.length_cons, Nat.reduceAdd, Nat.reduceLeDiff, Nat.zero_le, ↓reduceIte, Int.reduceLT, Int.reduceEq, Int.reduceLE, Int.reduceNeg, Int.reduceAdd, Int.reduceMul, Int.reduceSub, ne_eq, not_true_eq_false, not_false_eq_true, and_true, true_and, and_false, false_and, c3lt, c3gt, c3eq, Bool.false_eq_true, isK_wr, inA_wr, inR_wr, hm.1, gm, c8, c14, hm1.1, ge, c0, gm2, hm2.1, z2]
        · simp only [e315_0, e315_1, e315_3, e315_6, e315_7, e315_8, e315_10, e315_13, e315_14, e315_15, e315_16, e315_17, e315_20, e315_23, e315_24, e315_25, e315_27, e315_30, e315_31, e315_32, e315_35, e315_38, e315_39, e315_40, e315_41, e315_42, e315_43, e315_46, e315_49, e315_52, e315_55, e315_56, e315_59, e315_60, e315_61, e315_62, e315_63, e315_64, e315_67, e315_68, e315_69, e315_72, e315_73, e315_74, e315_75, e315_76, e315_79, e315_82, e315_84, e315_85, e315_88, e315_90, e315_93, e315_96, e315_98, e315_101, e315_103, e315_104, e315_106, e315_109, e315_112, e315_113, e315_116, e315_117, e315_118, e315_120, e315_123, e315_126, e315_127, e315_128, e315_130, e315_133, psh0, psh1, psh3, true_or, or_true, eq_self, Option.bind_some, List.length_nil, List.length_cons, Nat.reduceAdd, Nat.reduceLeDiff, Nat.zero_le, ↓reduceIte, Int.reduceLT, Int.reduceEq, Int.reduceLE, Int.reduceNeg, Int.reduceAdd, Int.reduceMul, Int.reduceSub, ne_eq, not_true_eq_false, not_false_eq_true, and_true, true_and, and_false, false_and, c3lt, c3gt, c3eq, Bool.false_eq_true, isK_wr, inA_wr, inR_wr, hm.1, gm, c8, c14, hm1.1, ge, c0, gm2, hm2.1, z2]
end
