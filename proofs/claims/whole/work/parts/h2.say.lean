/-! saySo, and countSaid's inner loop -/
theorem adv_cg {m b c : Nat} {f g : Nat → Int} (j : Nat) (h : ∀ st, st < j → f st = g st) : adv m b f c j = adv m b g c j := sm_congr j (fun l hl => by rw [h l hl])
theorem x_saySo {d : Nat} {h0 : AM} {S : Int} {u t m b : Nat} (k148 : isK h0 148 7) (e5 : mrd h0 148 5 = S) (hSn : S ≠ 148) (kS : isK h0 S 19) (ut : u < t) (t4 : t < 4096) (m1 : 1 ≤ m) (m9 : m ≤ 9) (hb : b + m ≤ 2 * m) (hD : ((t * (2 * m) + 2 * m : Nat) : Int) ≤ mln h0 S) (hz : u = 0 → mrd h0 S ((t * (2 * m) + b : Nat) : Int) = 0) (hB : u ≠ 0 → ∀ c j : Nat, c < 2 * m → j ≤ 2 * m → 0 ≤ mrd h0 S ((t * (2 * m) + c : Nat) : Int) + adv m b (fun c => mrd h0 S ((u * (2 * m) + c : Nat) : Int)) c j ∧ mrd h0 S ((t * (2 * m) + c : Nat) : Int) + adv m b (fun c => mrd h0 S ((u * (2 * m) + c : Nat) : Int)) c j < 9223372036854775808) : ∃ h', EV d 93 0 [(2, 148), (0, (u : Int)), (0, (t : Int)), (0, (b : Int)), (0, (m : Int)), (3, 0), (3, 0), (3, 0)] [] h0 = some ((3, 0), h') ∧ h'.2 = h0.2 ∧ (∀ a i, a ≠ S → mrd h' a i = mrd h0 a i) ∧ (∀ i : Int, i < ((t * (2 * m) : Nat) : Int) ∨ ((t * (2 * m) + 2 * m : Nat) : Int) ≤ i → mrd h' S i = mrd h0 S i) ∧ (∀ c : Nat, c < 2 * m → mrd h' S ((t * (2 * m) + c : Nat) : Int) = mrd h0 S ((t * (2 * m) + c : Nat) : Int) + (if u = 0 then (if c = b then 1 else 0) else adv m b (fun c => mrd h0 S ((u * (2 * m) + c : Nat) : Int)) c (2 * m))) := by
  by_cases c : u = 0
  · subst c
    obtain ⟨D, eD⟩ : ∃ D, D = t * (2 * m) := ⟨_, rfl⟩
    have D4 : D ≤ 73728 := by
      rw [eD]
      exact Nat.le_trans (Nat.mul_le_mul (show t ≤ 4096 by omega) (show 2 * m ≤ 18 by omega)) (by decide)
    have xD : (t : Int) * 2 * (m : Int) = (D : Int) := by rw [eD]; push_cast; rw [Int.mul_assoc]
    rw [← eD] at hD hz ⊢
    have w1 : w32 ((t : Int) * 2) = (t : Int) * 2 := w32_id (by omega) (by omega)
    have w3 : w32 (D : Int) = D := w32_id (by omega) (by omega)
    have w4 : w32 ((D : Int) + (b : Int)) = ((D + b : Nat) : Int) := by rw [w32_id (by omega) (by omega)]; omega
    have i1 : inA h0 S 19 ((D + b : Nat) : Int) := ⟨kS, by omega, by omega⟩
    refine ⟨mwr h0 S ((D + b : Nat) : Int) 1, ?_, rfl, fun a i ha => rdn1 ha, fun i hi => rdn2 (by omega), fun c c1 => ?_⟩
    · simp only [e93_0, e93_1, e93_4, e93_5, e93_8, e93_9, e93_10, e93_11, e93_13, e93_14, e93_15, e93_16, e93_17, e93_18, e93_19, e93_20, e93_24, e93_25, e93_27, e93_28, e93_31, e93_33, e93_34, e93_37, e93_39, e93_40, e93_42, e93_43, e93_46, e93_47, e93_50, e93_51, e93_53, e93_55, e93_58, e93_60, e93_61, e93_62, e93_65, e93_66, e93_68, e93_70, e93_71, e93_73, e93_74, e93_77, e93_78, e93_81, e93_82, e93_83, e93_84, e93_86, e93_87, e93_89, e93_90, e93_91, e93_92, e93_93, e93_96, e93_97, e93_98, e93_99, e93_101, e93_102, e93_104, e93_105, e93_106, e93_107, e93_108, e93_111, e93_114, psh0, psh1, psh3, true_or, or_true, eq_self, Option.bind_some, List.length_nil, List.length_cons, Nat.reduceAdd, Nat.reduceLeDiff, Nat.zero_le, ↓reduceIte, Int.reduceLT, Int.reduceEq, Int.reduceLE, Int.reduceNeg, Int.reduceAdd, Int.reduceMul, Int.reduceSub, ne_eq, not_true_eq_false, not_false_eq_true, and_true, true_and, and_false, false_and, c3lt, c3gt, c3eq, Bool.false_eq_true, isK_wr, inA_wr, inR_wr, k148, e5, w1, xD, w3, w4, i1, show ((0 : Nat) : Int) = 0 from rfl]
    · rw [if_pos rfl]
      by_cases e : c = b
      · rw [e, rde, hz rfl, if_pos rfl]; rfl
      · rw [rdn2 (by omega), if_neg e, Int.add_zero]
  · obtain ⟨h', z1, z2, z3, z4, z5⟩ := x_say_loop (d := d) k148 e5 hSn kS ut t4 m1 m9 hb hD (hB c) (2 * m) 0 h0 (3, 0) (3, 0) (by omega) rfl (fun _ _ _ => rfl) (fun _ _ => rfl) (fun c _ => by
      rw [show adv m b (fun c => mrd h0 S ((u * (2 * m) + c : Nat) : Int)) c 0 = 0 from rfl, Int.add_zero])
    refine ⟨h', ?_, z2, z3, z4, fun c' c1 => by rw [if_neg c]; exact z5 c' c1⟩
    have cu : ¬ ((u : Int) = 0) := by omega
    rw [← z1]
    simp only [e93_0, e93_1, e93_4, e93_5, e93_8, e93_9, e93_10, e93_11, e93_13, e93_14, e93_15, e93_16, e93_17, e93_18, e93_19, e93_20, e93_24, e93_25, e93_27, e93_28, e93_31, e93_33, e93_34, e93_37, e93_39, e93_40, e93_42, e93_43, e93_46, e93_47, e93_50, e93_51, e93_53, e93_55, e93_58, e93_60, e93_61, e93_62, e93_65, e93_66, e93_68, e93_70, e93_71, e93_73, e93_74, e93_77, e93_78, e93_81, e93_82, e93_83, e93_84, e93_86, e93_87, e93_89, e93_90, e93_91, e93_92, e93_93, e93_96, e93_97, e93_98, e93_99, e93_101, e93_102, e93_104, e93_105, e93_106, e93_107, e93_108, e93_111, e93_114, psh0, psh1, psh3, true_or, or_true, eq_self, Option.bind_some, List.length_nil, List.length_cons, Nat.reduceAdd, Nat.reduceLeDiff, Nat.zero_le, ↓reduceIte, Int.reduceLT, Int.reduceEq, Int.reduceLE, Int.reduceNeg, Int.reduceAdd, Int.reduceMul, Int.reduceSub, ne_eq, not_true_eq_false, not_false_eq_true, and_true, true_and, and_false, false_and, c3lt, c3gt, c3eq, Bool.false_eq_true, isK_wr, inA_wr, inR_wr, cu, show ((0 : Nat) : Int) = 0 from rfl]
/-- rows of the sums -/
def RowS (h : AM) (S : Int) (ok : Nat → Nat → Bool) (vw : Nat → Bool) (m N st li : Nat) : Prop := ∀ T : Nat, T < 2 ^ N → ∀ c : Nat, c < 2 * m → mrd h S ((T * (2 * m) + c : Nat) : Int) = QS ok N (KS ok vw m N c) st li T
theorem QS_z {ok : Nat → Nat → Bool} {N : Nat} {K : Nat → Nat → Int} {li : Nat} : QS ok N K 0 li (0 + 2 ^ li) = 0 := by
  unfold QS
  refine Eq.trans (sm_congr (g' := fun _ => 0) N (fun l hl => ?_)) (sm_zero N)
  rw [Nat.zero_add, Nat.testBit_two_pow]
  by_cases c : li = l
  · subst c
    simp
  · simp [c]
theorem row_ne {T t m c : Nat} (h : T ≠ t) (hc : c < 2 * m) : ((T * (2 * m) + c : Nat) : Int) < ((t * (2 * m) : Nat) : Int) ∨ ((t * (2 * m) + 2 * m : Nat) : Int) ≤ ((T * (2 * m) + c : Nat) : Int) := by
  rcases Nat.lt_or_gt_of_ne h with q | q
  · left
    have : (T + 1) * (2 * m) ≤ t * (2 * m) := Nat.mul_le_mul_right _ q
    rw [Nat.succ_mul] at this
    omega
  · right
    have : (t + 1) * (2 * m) ≤ T * (2 * m) := Nat.mul_le_mul_right _ q
    rw [Nat.succ_mul] at this
    omega
def vwX (h : AM) (s : Int) : Nat → Bool := fun l => decide (mrd h (s + 13 + l) 2 ≠ 0)
set_option maxHeartbeats 1000000 in
theorem x_said_in {d : Nat} {h0 : AM} {s S : Int} {N st m : Nat} {x : Int} (hr : CR h0 s S N) (hs : s = 162 ∨ s = 195) (hst : st < 2 ^ N) (m1 : 1 ≤ m) (m9 : m ≤ 9) (hL : ((2 ^ N * (2 * m) : Nat) : Int) ≤ mln h0 S) (n : Nat) : ∀ (li : Nat) (h : AM), li + n = N → CQ h0 h S → RowS h S (okX h0 s) (vwX h0 s) m N st li → ∃ h', EV (d + 2) 92 93 [(2, 148), (2, s), (0, (m : Int)), (0, ((2 * m : Nat) : Int)), (0, ((2 ^ N : Nat) : Int)), (1, x), (3, 1), (0, (st : Int)), (0, (li : Int))] [] h = EV (d + 2) 92 152 [(2, 148), (2, s), (0, (m : Int)), (0, ((2 * m : Nat) : Int)), (0, ((2 ^ N : Nat) : Int)), (1, x), (3, 1), (0, (st : Int)), (0, (N : Int))] [] h' ∧ CQ h0 h' S ∧ RowS h' S (okX h0 s) (vwX h0 s) m N st N := by
  have N12 := hr.2.2.2.2.2.2.2.2.1
  have hp := pow_13 N12
  induction n with
  | zero =>
    intro li h hi hq hP
    have e : li = N := by omega
    subst e
    obtain ⟨a1, a2, a3, a4, a5, a6, a7, a8, a9, a10, a11, a12, a13⟩ := CR_cq hr hs hq
    refine ⟨h, ?_, hq, hP⟩
    rw [e92_93]
    simp only [e92_0, e92_1, e92_4, e92_5, e92_8, e92_11, e92_12, e92_13, e92_14, e92_15, e92_16, e92_17, e92_18, e92_21, e92_22, e92_24, e92_25, e92_27, e92_28, e92_29, e92_30, e92_33, e92_34, e92_36, e92_37, e92_39, e92_41, e92_43, e92_46, e92_47, e92_49, e92_51, e92_52, e92_55, e92_57, e92_60, e92_61, e92_64, e92_67, e92_69, e92_70, e92_73, e92_75, e92_76, e92_77, e92_79, e92_80, e92_81, e92_82, e92_84, e92_87, e92_90, e92_91, e92_95, e92_96, e92_99, e92_102, e92_103, e92_104, e92_106, e92_108, e92_111, e92_114, e92_115, e92_117, e92_119, e92_120, e92_122, e92_123, e92_124, e92_125, e92_128, e92_130, e92_131, e92_134, e92_137, e92_138, e92_141, e92_142, e92_143, e92_146, e92_149, e92_155, e92_158, e92_160, psh0, psh1, psh3, true_or, or_true, eq_self, Option.bind_some, List.length_nil, List.length_cons, Nat.reduceAdd, Nat.reduceLeDiff, Nat.zero_le, ↓reduceIte, Int.reduceLT, Int.reduceEq, Int.reduceLE, Int.reduceNeg, Int.reduceAdd, Int.reduceMul, Int.reduceSub, ne_eq, not_true_eq_false, not_false_eq_true, and_true, true_and, and_false, false_and, c3lt, c3gt, c3eq, Bool.false_eq_true, isK_wr, inA_wr, inR_wr, a6.1, a8, Int.lt_irrefl]
  | succ n ih =>
    intro li h hi hq hP
    obtain ⟨a1, a2, a3, a4, a5, a6, a7, a8, a9, a10, a11, a12, a13⟩ := CR_cq hr hs hq
    have ks := a6.1
    have ci : (li : Int) < N := by omega
    have w1 : w32 ((li : Int) + 1) = ((li + 1 : Nat) : Int) := by rw [w32_id (by omega) (by omega)]; omega
    have gn := x_next_q (d := d) (T := st) (l := li) hr hs hq (by omega) (by omega)
    cases hb : okX h0 s st li with
    | false =>
      rw [hb] at gn
      obtain ⟨h', e1, e2, e3⟩ := ih (li + 1) h (by omega) hq (fun T hT c hc => by
        rw [hP T hT c hc, QS_step (by omega), if_neg (fun z => by rw [hb] at z; exact absurd z.1.2 (by decide)), Int.add_zero])
      refine ⟨h', ?_, e2, e3⟩
      rw [← e1, e92_93]
      simp only [e92_0, e92_1, e92_4, e92_5, e92_8, e92_11, e92_12, e92_13, e92_14, e92_15, e92_16, e92_17, e92_18, e92_21, e92_22, e92_24, e92_25, e92_27, e92_28, e92_29, e92_30, e92_33, e92_34, e92_36, e92_37, e92_39, e92_41, e92_43, e92_46, e92_47, e92_49, e92_51, e92_52, e92_55, e92_57, e92_60, e92_61, e92_64, e92_67, e92_69, e92_70, e92_73, e92_75, e92_76, e92_77, e92_79, e92_80, e92_81, e92_82, e92_84, e92_87, e92_90, e92_91, e92_95, e92_96, e92_99, e92_102, e92_103, e92_104, e92_106, e92_108, e92_111, e92_114, e92_115, e92_117, e92_119, e92_120, e92_122, e92_123, e92_124, e92_125, e92_128, e92_130, e92_131, e92_134, e92_137, e92_138, e92_141, e92_142, e92_143, e92_146, e92_149, e92_155, e92_158, e92_160, psh0, psh1, psh3, true_or, or_true, eq_self, Option.bind_some, List.length_nil, List.length_cons, Nat.reduceAdd, Nat.reduceLeDiff, Nat.zero_le, ↓reduceIte, Int.reduceLT, Int.reduceEq, Int.reduceLE, Int.reduceNeg, Int.reduceAdd, Int.reduceMul, Int.reduceSub, ne_eq, not_true_eq_false, not_false_eq_true, and_true, true_and, and_false, false_and, c3lt, c3gt, c3eq, Bool.false_eq_true, isK_wr, inA_wr, inR_wr, ks, a8, ci, a1, gn, b01, w1]
    | true =>
      rw [hb] at gn
      have hbit : st.testBit li = false := ok_bit (by omega) hb
      have hU := ins_lt hst (show li < N by omega) hbit
      have eU := i_ins (x := st) (l := li) (by omega) (by omega) hbit
      have p0 := Nat.two_pow_pos li
      obtain ⟨t, ht⟩ : ∃ t, t = st + 2 ^ li := ⟨_, rfl⟩
      rw [← ht] at hU eU
      have hD : ((t * (2 * m) + 2 * m : Nat) : Int) ≤ mln h S := by
        have q : (t + 1) * (2 * m) ≤ 2 ^ N * (2 * m) := Nat.mul_le_mul_right _ hU
        rw [Nat.succ_mul] at q
        have lS : mln h S = mln h0 S := by unfold mln; rw [hq.1]
        rw [lS]
        omega
      have bg2 : bgS (vwX h0 s) m li + m ≤ 2 * m := by unfold bgS; split <;> omega
      have hF : ∀ c, c < 2 * m → mrd h S ((st * (2 * m) + c : Nat) : Int) = SV (okX h0 s) (vwX h0 s) m N st c := fun c hc => by rw [hP st hst c hc, QS_SV (Nat.le_refl st)]
      have eS : ∀ c, QS (okX h0 s) N (KS (okX h0 s) (vwX h0 s) m N c) st (li + 1) t = QS (okX h0 s) N (KS (okX h0 s) (vwX h0 s) m N c) st li t + KS (okX h0 s) (vwX h0 s) m N c st li := fun c => by
        rw [QS_step (by omega), if_pos ⟨⟨hbit, hb⟩, ht⟩]
      have bd : ∀ c, c < 2 * m → ∀ li, 0 ≤ QS (okX h0 s) N (KS (okX h0 s) (vwX h0 s) m N c) st li t ∧ QS (okX h0 s) N (KS (okX h0 s) (vwX h0 s) m N c) st li t ≤ 12 * 8916100448256 := fun c hc li => QS_B (by decide) (by omega) N12 (fun U l hU => KS_bd N12 hU hc)
      obtain ⟨h1, z1, z2, z3, z4, z5⟩ := x_saySo (d := d + 1) (h0 := h) (S := S) (u := st) (t := t) (m := m) (b := bgS (vwX h0 s) m li) a1 a10 (by omega) a12 (by omega) (by omega) m1 m9 bg2 hD (fun z => by
          rw [hP t hU _ (by omega), ht, z, QS_z]) (fun z c j hc hj => by
          have b1 := bd c hc li
          have b2 := bd c hc (li + 1)
          have eK : KS (okX h0 s) (vwX h0 s) m N c st li = adv m (bgS (vwX h0 s) m li) (SV (okX h0 s) (vwX h0 s) m N st) c (2 * m) := by unfold KS; rw [if_neg z]
          rw [eS c, eK] at b2
          have nn := (SV_B (ok := okX h0 s) (vw := vwX h0 s) (m := m) N12 st (by omega)).1
          have mo := adv_mono (m := m) (b := bgS (vwX h0 s) m li) (c := c) (f := SV (okX h0 s) (vwX h0 s) m N st) (n := 2 * m) (fun q _ => nn q) (2 * m - j) j (by omega)
          have n0 := adv_nn (m := m) (b := bgS (vwX h0 s) m li) (c := c) (j := j) (fun q _ => nn q)
          rw [hP t hU c hc, adv_cg j (g := SV (okX h0 s) (vwX h0 s) m N st) (fun q hq => hF q (by omega))]
          omega)
      have q1 : CQ h0 h1 S := ⟨z2.trans hq.1, fun a i h1 h2 => by rw [z3 a i h1]; exact hq.2 a i h1 h2⟩
      obtain ⟨h', e1, e2, e3⟩ := ih (li + 1) h1 (by omega) q1 (fun T hT c hc => by
        by_cases e : T = t
        · rw [e, z5 c hc, hP t hU c hc, eS c]
          congr 1
          unfold KS
          by_cases z : st = 0
          · rw [if_pos z, if_pos z]
          · rw [if_neg z, if_neg z]
            exact adv_cg _ (fun q hq => hF q hq)
        · rw [z4 _ (row_ne e hc), hP T hT c hc, QS_step (by omega), if_neg (fun z => e (z.2.trans ht.symm)), Int.add_zero])
      refine ⟨h', ?_, e2, e3⟩
      obtain ⟨t1, t2, t3⟩ := a6.2.2.2.2.2.2.2.2.2.2.2.1 li (by omega) (by omega)
      have r1 := a6.2.2.1
      have ev : mrd h (s + 13 + li) 2 = mrd h0 (s + 13 + li) 2 := hq.2 _ _ (by omega) (by omega)
      rw [← e1, e92_93]
      by_cases cv : mrd h0 (s + 13 + li) 2 = 0
      · have eb : bgS (vwX h0 s) m li = 0 := by unfold bgS vwX; simp [cv]
        rw [eb] at z1
        have z1 : EV (d + 1) 93 0 [(2, 148), (0, (st : Int)), (0, (t : Int)), (0, 0), (0, (m : Int)), (3, 0), (3, 0), (3, 0)] [] h = _ := z1
        simp only [e92_0, e92_1, e92_4, e92_5, e92_8, e92_11, e92_12, e92_13, e92_14, e92_15, e92_16, e92_17, e92_18, e92_21, e92_22, e92_24, e92_25, e92_27, e92_28, e92_29, e92_30, e92_33, e92_34, e92_36, e92_37, e92_39, e92_41, e92_43, e92_46, e92_47, e92_49, e92_51, e92_52, e92_55, e92_57, e92_60, e92_61, e92_64, e92_67, e92_69, e92_70, e92_73, e92_75, e92_76, e92_77, e92_79, e92_80, e92_81, e92_82, e92_84, e92_87, e92_90, e92_91, e92_95, e92_96, e92_99, e92_102, e92_103, e92_104, e92_106, e92_108, e92_111, e92_114, e92_115, e92_117, e92_119, e92_120, e92_122, e92_123, e92_124, e92_125, e92_128, e92_130, e92_131, e92_134, e92_137, e92_138, e92_141, e92_142, e92_143, e92_146, e92_149, e92_155, e92_158, e92_160, psh0, psh1, psh3, true_or, or_true, eq_self, Option.bind_some, List.length_nil, List.length_cons, Nat.reduceAdd, Nat.reduceLeDiff, Nat.zero_le, ↓reduceIte, Int.reduceLT, Int.reduceEq, Int.reduceLE, Int.reduceNeg, Int.reduceAdd, Int.reduceMul, Int.reduceSub, ne_eq, not_true_eq_false, not_false_eq_true, and_true, true_and, and_false, false_and, c3lt, c3gt, c3eq, Bool.false_eq_true, isK_wr, inA_wr, inR_wr, ks, a8, ci, a1, gn, b01, w1, eU, r1, t1, t2, t3, ev, cv, z1]
      · have eb : bgS (vwX h0 s) m li = m := by unfold bgS vwX; simp [cv]
        rw [eb] at z1
        simp only [e92_0, e92_1, e92_4, e92_5, e92_8, e92_11, e92_12, e92_13, e92_14, e92_15, e92_16, e92_17, e92_18, e92_21, e92_22, e92_24, e92_25, e92_27, e92_28, e92_29, e92_30, e92_33, e92_34, e92_36, e92_37, e92_39, e92_41, e92_43, e92_46, e92_47, e92_49, e92_51, e92_52, e92_55, e92_57, e92_60, e92_61, e92_64, e92_67, e92_69, e92_70, e92_73, e92_75, e92_76, e92_77, e92_79, e92_80, e92_81, e92_82, e92_84, e92_87, e92_90, e92_91, e92_95, e92_96, e92_99, e92_102, e92_103, e92_104, e92_106, e92_108, e92_111, e92_114, e92_115, e92_117, e92_119, e92_120, e92_122, e92_123, e92_124, e92_125, e92_128, e92_130, e92_131, e92_134, e92_137, e92_138, e92_141, e92_142, e92_143, e92_146, e92_149, e92_155, e92_158, e92_160, psh0, psh1, psh3, true_or, or_true, eq_self, Option.bind_some, List.length_nil, List.length_cons, Nat.reduceAdd, Nat.reduceLeDiff, Nat.zero_le, ↓reduceIte, Int.reduceLT, Int.reduceEq, Int.reduceLE, Int.reduceNeg, Int.reduceAdd, Int.reduceMul, Int.reduceSub, ne_eq, not_true_eq_false, not_false_eq_true, and_true, true_and, and_false, false_and, c3lt, c3gt, c3eq, Bool.false_eq_true, isK_wr, inA_wr, inR_wr, ks, a8, ci, a1, gn, b01, w1, eU, r1, t1, t2, t3, ev, cv, z1]
