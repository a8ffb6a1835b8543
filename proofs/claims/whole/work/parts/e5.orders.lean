/-! orders -/
def OQ (g0 g : AM) : Prop := g.2 = g0.2 ∧ ∀ a i, a ≠ 249 → mrd g a i = mrd g0 a i
theorem CM_oq {g g' : AM} (hm : CM g) (hsp : OQ g g') : CM g' := by
  refine ⟨?_, ?_, fun q hq => ?_⟩
  · have := hm.1
    unfold isK mnx mkn at this ⊢
    rw [hsp.1]; exact this
  · have hS := hm.2.1
    unfold Shp mnx at hS ⊢
    rw [hsp.1]; exact hS
  · have hn : ∀ q ∈ refT, q.1 ≠ 249 := by decide +kernel
    exact (hsp.2 _ _ (hn q hq)).trans (hm.2.2 q hq)
theorem SF.oq {h h1 h2 : AM} (hf : SF h h1) (a : OQ h1 h2) : SF h h2 := by
  refine hf.st a.1 (fun x i hn => a.2 x i (fun z => hn ?_)) (a.2 _ _ (by decide))
  rw [z]; exact Or.inl (by decide +kernel)
def okO (h : AM) : Nat → Nat → Bool := fun T l => decide (opn (T : Int) (mrd h 240 (52 + l)) (l : Int))
def OrdU (g g0 : AM) (N st : Nat) : Prop := ∀ T : Nat, T < st → mrd g 249 T = Wy (okO g0) N T
section
variable {d : Nat} {h g : AM} {s a b c k l p t v w x y z : Int}
theorem m_fo_in {g0 : AM} {N st : Nat} (hm0 : CM g0) (hN : mrd g0 240 1 = N) (N12 : N ≤ 12) (hst : st < 2 ^ N) (n : Nat) : ∀ (li : Nat) (g : AM) (l3 : AV), li + n = N → OQ g0 g → OrdU g g0 N st → mrd g 249 st = (if st = 0 then 1 else 0) + sm (wg (okO g0) N st) li → ∃ g' l3', EV (d + 2) 298 31 [(2, 235), (0, (st : Int)), (0, (li : Int)), l3] [] g = EV (d + 2) 298 84 [(2, 235), (0, (st : Int)), (0, (N : Int)), l3'] [] g' ∧ OQ g0 g' ∧ OrdU g' g0 N (st + 1) := by
  have hp := pow_13 N12
  induction n with
  | zero =>
    intro li g l3 hi hq hU e1
    have e : li = N := by omega
    subst e
    have cm := CM_oq hm0 hq
    have i1 := inC cm (j := 1) (by decide) (by decide)
    have a2 : mrd g 240 1 = li := by rw [hq.2 _ _ (by decide)]; exact hN
    refine ⟨g, l3, ?_, hq, fun T hT => ?_⟩
    · rw [e298_31]
      simp only [e298_0, e298_1, e298_3, e298_4, e298_5, e298_8, e298_9, e298_10, e298_11, e298_14, e298_15, e298_18, e298_19, e298_20, e298_23, e298_24, e298_27, e298_28, e298_29, e298_30, e298_32, e298_33, e298_36, e298_37, e298_38, e298_41, e298_42, e298_43, e298_44, e298_45, e298_46, e298_47, e298_48, e298_49, e298_50, e298_51, e298_54, e298_55, e298_56, e298_57, e298_60, e298_63, e298_64, e298_67, e298_68, e298_69, e298_70, e298_71, e298_74, e298_75, e298_76, e298_77, e298_78, e298_81, e298_87, e298_90, psh0, psh1, psh3, true_or, or_true, eq_self, Option.bind_some, List.length_nil, List.length_cons, Nat.reduceAdd, Nat.reduceLeDiff, Nat.zero_le, ↓reduceIte, Int.reduceLT, Int.reduceEq, Int.reduceLE, Int.reduceNeg, Int.reduceAdd, Int.reduceMul, Int.reduceSub, ne_eq, not_true_eq_false, not_false_eq_true, and_true, true_and, and_false, false_and, c3lt, c3gt, c3eq, Bool.false_eq_true, isK_wr, inA_wr, inR_wr, cm.1, mC cm, i1, a2, Int.lt_irrefl]
    · by_cases c : T = st
      · subst c
        rw [e1]
        by_cases c0 : T = 0
        · subst c0
          rw [if_pos rfl, sm_congr (g' := fun _ => 0) li (fun l hl => by unfold wg; rw [Nat.zero_testBit]; rfl), (sm_0 li (fun l hl => Int.le_refl 0)).mpr (fun l hl => rfl)]
          rfl
        · rw [if_neg c0, Int.zero_add, W_rec c0]
          rfl
      · exact hU T (by omega)
  | succ n ih =>
    intro li g l3 hi hq hU e1
    have cm := CM_oq hm0 hq
    have i1 := inC cm (j := 1) (by decide) (by decide)
    have a2 : mrd g 240 1 = N := by rw [hq.2 _ _ (by decide)]; exact hN
    have ci : (li : Int) < N := by omega
    have w1 : w32 ((li : Int) + 1) = ((li + 1 : Nat) : Int) := by rw [w32_id (by omega) (by omega)]; omega
    have m34 : mrd g 235 34 = 249 := rf_235_34 cm.2.2
    have hp0 := Nat.two_pow_pos li
    have eS1 : sm (wg (okO g0) N st) (li + 1) = sm (wg (okO g0) N st) li + wg (okO g0) N st li := rfl
    cases hb : st.testBit li with
    | false =>
      have er := i_nodel (t := st) (l := li) (by omega) (by omega) hb
      have z1 : wg (okO g0) N st li = 0 := by unfold wg; rw [hb]; rfl
      obtain ⟨g', l4', f1, f2, f3⟩ := ih (li + 1) g (0, (st : Int)) (by omega) hq hU (by rw [e1, eS1, z1, Int.add_zero])
      refine ⟨g', l4', ?_, f2, f3⟩
      rw [← f1, e298_31]
      simp only [e298_0, e298_1, e298_3, e298_4, e298_5, e298_8, e298_9, e298_10, e298_11, e298_14, e298_15, e298_18, e298_19, e298_20, e298_23, e298_24, e298_27, e298_28, e298_29, e298_30, e298_32, e298_33, e298_36, e298_37, e298_38, e298_41, e298_42, e298_43, e298_44, e298_45, e298_46, e298_47, e298_48, e298_49, e298_50, e298_51, e298_54, e298_55, e298_56, e298_57, e298_60, e298_63, e298_64, e298_67, e298_68, e298_69, e298_70, e298_71, e298_74, e298_75, e298_76, e298_77, e298_78, e298_81, e298_87, e298_90, psh0, psh1, psh3, true_or, or_true, eq_self, Option.bind_some, List.length_nil, List.length_cons, Nat.reduceAdd, Nat.reduceLeDiff, Nat.zero_le, ↓reduceIte, Int.reduceLT, Int.reduceEq, Int.reduceLE, Int.reduceNeg, Int.reduceAdd, Int.reduceMul, Int.reduceSub, ne_eq, not_true_eq_false, not_false_eq_true, and_true, true_and, and_false, false_and, c3lt, c3gt, c3eq, Bool.false_eq_true, isK_wr, inA_wr, inR_wr, cm.1, mC cm, i1, a2, ci, er, w1]
    | true =>
      obtain ⟨h1, h2, h3⟩ := bit_del hb
      have hlt := del_lt hb
      have er := i_del (t := st) (l := li) (by omega) (by omega) hb
      obtain ⟨R, hR⟩ : ∃ R, R = st - 2 ^ li := ⟨_, rfl⟩
      rw [← hR] at er hlt h3
      have nrs : ¬ (R : Int) = (st : Int) := by omega
      have iR : inA g 249 19 (R : Int) := ⟨kn_249 cm.2.1, by omega, by rw [ln_249 cm.2.1]; omega⟩
      have iS : inA g 249 19 (st : Int) := ⟨kn_249 cm.2.1, by omega, by rw [ln_249 cm.2.1]; omega⟩
      have u1 := hU R hlt
      have go := m_isOpenTo (d := d) (x := (R : Int)) (l := (li : Int)) cm (by omega) (by omega)
      rw [hq.2 240 _ (by decide)] at go
      by_cases co : opn (R : Int) (mrd g0 240 (52 + li)) (li : Int)
      · rw [if_pos co] at go
        have z1 : wg (okO g0) N st li = Wy (okO g0) N R := by
          unfold wg okO
          rw [← hR, hb, decide_eq_true co]
          rfl
        have bW := W_B (ok := okO g0) N12 (show R < 4096 by omega)
        have bS := sm_bd (g := wg (okO g0) N st) (B := 8916100448256) li (fun l hl => by
          unfold wg
          split
          · exact W_B N12 (Nat.lt_of_le_of_lt (Nat.sub_le _ _) (show st < 4096 by omega))
          · exact ⟨by decide, by decide⟩)
        have w5 : w64 ((if st = 0 then 1 else 0) + sm (wg (okO g0) N st) li + Wy (okO g0) N R) = (if st = 0 then 1 else 0) + sm (wg (okO g0) N st) (li + 1) := by
          rw [eS1, z1, w64_id]
          · omega
          · split <;> omega
          · split <;> omega
        obtain ⟨g', l4', f1, f2, f3⟩ := ih (li + 1) (mwr g 249 st ((if st = 0 then 1 else 0) + sm (wg (okO g0) N st) (li + 1))) (0, (R : Int)) (by omega) ⟨hq.1, fun a i y1 => by
          rw [rdn1 y1]
          exact hq.2 a i y1⟩ (fun T hT => by
          rw [rdn2 (by omega)]
          exact hU T hT) rde
        refine ⟨g', l4', ?_, f2, f3⟩
        rw [← f1, e298_31]
        simp only [e298_0, e298_1, e298_3, e298_4, e298_5, e298_8, e298_9, e298_10, e298_11, e298_14, e298_15, e298_18, e298_19, e298_20, e298_23, e298_24, e298_27, e298_28, e298_29, e298_30, e298_32, e298_33, e298_36, e298_37, e298_38, e298_41, e298_42, e298_43, e298_44, e298_45, e298_46, e298_47, e298_48, e298_49, e298_50, e298_51, e298_54, e298_55, e298_56, e298_57, e298_60, e298_63, e298_64, e298_67, e298_68, e298_69, e298_70, e298_71, e298_74, e298_75, e298_76, e298_77, e298_78, e298_81, e298_87, e298_90, psh0, psh1, psh3, true_or, or_true, eq_self, Option.bind_some, List.length_nil, List.length_cons, Nat.reduceAdd, Nat.reduceLeDiff, Nat.zero_le, ↓reduceIte, Int.reduceLT, Int.reduceEq, Int.reduceLE, Int.reduceNeg, Int.reduceAdd, Int.reduceMul, Int.reduceSub, ne_eq, not_true_eq_false, not_false_eq_true, and_true, true_and, and_false, false_and, c3lt, c3gt, c3eq, Bool.false_eq_true, isK_wr, inA_wr, inR_wr, cm.1, mC cm, i1, a2, ci, er, nrs, go, m34, iR, iS, u1, e1, w5, w1]
      · rw [if_neg co] at go
        have z1 : wg (okO g0) N st li = 0 := by
          unfold wg okO
          rw [← hR, decide_eq_false co]
          simp
        obtain ⟨g', l4', f1, f2, f3⟩ := ih (li + 1) g (0, (R : Int)) (by omega) hq hU (by rw [e1, eS1, z1, Int.add_zero])
        refine ⟨g', l4', ?_, f2, f3⟩
        rw [← f1, e298_31]
        simp only [e298_0, e298_1, e298_3, e298_4, e298_5, e298_8, e298_9, e298_10, e298_11, e298_14, e298_15, e298_18, e298_19, e298_20, e298_23, e298_24, e298_27, e298_28, e298_29, e298_30, e298_32, e298_33, e298_36, e298_37, e298_38, e298_41, e298_42, e298_43, e298_44, e298_45, e298_46, e298_47, e298_48, e298_49, e298_50, e298_51, e298_54, e298_55, e298_56, e298_57, e298_60, e298_63, e298_64, e298_67, e298_68, e298_69, e298_70, e298_71, e298_74, e298_75, e298_76, e298_77, e298_78, e298_81, e298_87, e298_90, psh0, psh1, psh3, true_or, or_true, eq_self, Option.bind_some, List.length_nil, List.length_cons, Nat.reduceAdd, Nat.reduceLeDiff, Nat.zero_le, ↓reduceIte, Int.reduceLT, Int.reduceEq, Int.reduceLE, Int.reduceNeg, Int.reduceAdd, Int.reduceMul, Int.reduceSub, ne_eq, not_true_eq_false, not_false_eq_true, and_true, true_and, and_false, false_and, c3lt, c3gt, c3eq, Bool.false_eq_true, isK_wr, inA_wr, inR_wr, cm.1, mC cm, i1, a2, ci, er, nrs, go, w1]
theorem m_fo_out {g0 : AM} {N : Nat} (hm0 : CM g0) (hN : mrd g0 240 1 = N) (N12 : N ≤ 12) (n : Nat) : ∀ (st : Nat) (g : AM) (l2 l3 : AV), st + n = 2 ^ N → OQ g0 g → OrdU g g0 N st → ∃ g', EV (d + 2) 298 2 [(2, 235), (0, (st : Int)), l2, l3] [] g = some ((3, 0), g') ∧ OQ g0 g' ∧ OrdU g' g0 N (2 ^ N) := by
  have hp := pow_13 N12
  have eN := shl_pow N (by omega)
  induction n with
  | zero =>
    intro st g l2 l3 hi hq hU
    have e : st = 2 ^ N := by omega
    have cm := CM_oq hm0 hq
    have i1 := inC cm (j := 1) (by decide) (by decide)
    have a2 : mrd g 240 1 = N := by rw [hq.2 _ _ (by decide)]; exact hN
    refine ⟨g, ?_, hq, by rw [← e]; exact hU⟩
    rw [e298_2, e]
    simp only [e298_0, e298_1, e298_3, e298_4, e298_5, e298_8, e298_9, e298_10, e298_11, e298_14, e298_15, e298_18, e298_19, e298_20, e298_23, e298_24, e298_27, e298_28, e298_29, e298_30, e298_32, e298_33, e298_36, e298_37, e298_38, e298_41, e298_42, e298_43, e298_44, e298_45, e298_46, e298_47, e298_48, e298_49, e298_50, e298_51, e298_54, e298_55, e298_56, e298_57, e298_60, e298_63, e298_64, e298_67, e298_68, e298_69, e298_70, e298_71, e298_74, e298_75, e298_76, e298_77, e298_78, e298_81, e298_84, e298_87, e298_90, psh0, psh1, psh3, true_or, or_true, eq_self, Option.bind_some, List.length_nil, List.length_cons, Nat.reduceAdd, Nat.reduceLeDiff, Nat.zero_le, ↓reduceIte, Int.reduceLT, Int.reduceEq, Int.reduceLE, Int.reduceNeg, Int.reduceAdd, Int.reduceMul, Int.reduceSub, ne_eq, not_true_eq_false, not_false_eq_true, and_true, true_and, and_false, false_and, c3lt, c3gt, c3eq, Bool.false_eq_true, isK_wr, inA_wr, inR_wr, cm.1, mC cm, i1, a2, eN, Int.lt_irrefl]
  | succ n ih =>
    intro st g l2 l3 hi hq hU
    have hst : st < 2 ^ N := by omega
    have cm := CM_oq hm0 hq
    have i1 := inC cm (j := 1) (by decide) (by decide)
    have a2 : mrd g 240 1 = N := by rw [hq.2 _ _ (by decide)]; exact hN
    have ci : (st : Int) < ((2 ^ N : Nat) : Int) := Int.ofNat_lt.mpr hst
    have w1 : w32 ((st : Int) + 1) = ((st + 1 : Nat) : Int) := by rw [w32_id (by omega) (by omega)]; omega
    have m34 : mrd g 235 34 = 249 := rf_235_34 cm.2.2
    have iS : inA g 249 19 (st : Int) := ⟨kn_249 cm.2.1, by omega, by rw [ln_249 cm.2.1]; omega⟩
    obtain ⟨g1, l3', f1, f2, f3⟩ := m_fo_in (d := d) hm0 hN N12 hst N 0 (mwr g 249 st (if st = 0 then 1 else 0)) l3 (by omega) ⟨hq.1, fun a i y1 => by
      rw [rdn1 y1]
      exact hq.2 a i y1⟩ (fun T hT => by
      rw [rdn2 (by omega)]
      exact hU T hT) (by rw [rde]; exact (Int.add_zero _).symm)
    obtain ⟨g', k1, k2, k3⟩ := ih (st + 1) g1 (0, (N : Int)) l3' (by omega) f2 f3
    refine ⟨g', ?_, k2, k3⟩
    rw [← k1]
    have f4 : EV (d + 2) 298 84 [(2, 235), (0, (st : Int)), (0, (N : Int)), l3'] [] g1 = EV (d + 2) 298 2 [(2, 235), (0, ((st + 1 : Nat) : Int)), (0, (N : Int)), l3'] [] g1 := by
      simp only [e298_84, e298_87, w1]
    rw [← f4, ← f1, e298_2]
    by_cases c0 : st = 0
    · subst c0
      have ci0 : (0 : Int) < ((2 ^ N : Nat) : Int) := ci
      have j4 : inA g 249 19 0 := iS
      simp only [e298_0, e298_1, e298_3, e298_4, e298_5, e298_8, e298_9, e298_10, e298_11, e298_14, e298_15, e298_18, e298_19, e298_20, e298_23, e298_24, e298_27, e298_28, e298_29, e298_30, e298_32, e298_33, e298_36, e298_37, e298_38, e298_41, e298_42, e298_43, e298_44, e298_45, e298_46, e298_47, e298_48, e298_49, e298_50, e298_51, e298_54, e298_55, e298_56, e298_57, e298_60, e298_63, e298_64, e298_67, e298_68, e298_69, e298_70, e298_71, e298_74, e298_75, e298_76, e298_77, e298_78, e298_81, e298_87, e298_90, psh0, psh1, psh3, true_or, or_true, eq_self, Option.bind_some, List.length_nil, List.length_cons, Nat.reduceAdd, Nat.reduceLeDiff, Nat.zero_le, ↓reduceIte, Int.reduceLT, Int.reduceEq, Int.reduceLE, Int.reduceNeg, Int.reduceAdd, Int.reduceMul, Int.reduceSub, ne_eq, not_true_eq_false, not_false_eq_true, and_true, true_and, and_false, false_and, c3lt, c3gt, c3eq, Bool.false_eq_true, isK_wr, inA_wr, inR_wr, cm.1, mC cm, i1, a2, eN, ci0, m34, j4, Int.natCast_zero]
    · have c0' : ¬ (st : Int) = 0 := by omega
      rw [if_neg c0]
      simp only [e298_0, e298_1, e298_3, e298_4, e298_5, e298_8, e298_9, e298_10, e298_11, e298_14, e298_15, e298_18, e298_19, e298_20, e298_23, e298_24, e298_27, e298_28, e298_29, e298_30, e298_32, e298_33, e298_36, e298_37, e298_38, e298_41, e298_42, e298_43, e298_44, e298_45, e298_46, e298_47, e298_48, e298_49, e298_50, e298_51, e298_54, e298_55, e298_56, e298_57, e298_60, e298_63, e298_64, e298_67, e298_68, e298_69, e298_70, e298_71, e298_74, e298_75, e298_76, e298_77, e298_78, e298_81, e298_87, e298_90, psh0, psh1, psh3, true_or, or_true, eq_self, Option.bind_some, List.length_nil, List.length_cons, Nat.reduceAdd, Nat.reduceLeDiff, Nat.zero_le, ↓reduceIte, Int.reduceLT, Int.reduceEq, Int.reduceLE, Int.reduceNeg, Int.reduceAdd, Int.reduceMul, Int.reduceSub, ne_eq, not_true_eq_false, not_false_eq_true, and_true, true_and, and_false, false_and, c3lt, c3gt, c3eq, Bool.false_eq_true, isK_wr, inA_wr, inR_wr, cm.1, mC cm, i1, a2, eN, ci, c0', m34, iS]
      rfl
theorem m_fillOrders {g0 : AM} {N : Nat} (hm0 : CM g0) (hN : mrd g0 240 1 = N) (N12 : N ≤ 12) : ∃ g', EV (d + 2) 298 0 [(2, 235), (3, 0), (3, 0), (3, 0)] [] g0 = some ((3, 0), g') ∧ OQ g0 g' ∧ OrdU g' g0 N (2 ^ N) := by
  obtain ⟨g', k1, k2, k3⟩ := m_fo_out (d := d) hm0 hN N12 (2 ^ N) 0 g0 (3, 0) (3, 0) (by omega) ⟨rfl, fun _ _ _ => rfl⟩ (fun T hT => by omega)
  refine ⟨g', Eq.trans ?_ k1, k2, k3⟩
  simp only [e298_0, e298_1]
  rfl
theorem m_orders_loop {N : Nat} {w : Nat → Int} (hm : CM g) (hN : mrd g 240 1 = N) (N12 : N ≤ 12) (hw : ∀ T : Nat, T < 2 ^ N → mrd g 249 T = w T ∧ 0 ≤ w T ∧ w T ≤ 8916100448256) (n : Nat) : ∀ st : Nat, st + n = 2 ^ N → EV (d + 2) 299 38 [(2, 235), (0, x), (1, alF w x st), (3, 1), (0, (st : Int))] [] g = some ((1, alF w x (2 ^ N)), g) := by
  have hp := pow_13 N12
  have eN := shl_pow N (by omega)
  have i1 := inC hm (j := 1) (by decide) (by decide)
  have m34 : mrd g 235 34 = 249 := rf_235_34 hm.2.2
  induction n with
  | zero =>
    intro st hi
    have e : st = 2 ^ N := by omega
    rw [e299_38, e]
    simp only [e299_0, e299_1, e299_2, e299_5, e299_6, e299_7, e299_10, e299_11, e299_12, e299_13, e299_16, e299_19, e299_22, e299_23, e299_24, e299_27, e299_28, e299_29, e299_30, e299_33, e299_34, e299_35, e299_36, e299_40, e299_41, e299_42, e299_45, e299_46, e299_47, e299_48, e299_51, e299_52, e299_54, e299_57, e299_58, e299_61, e299_62, e299_65, e299_67, e299_68, e299_71, e299_72, e299_73, e299_74, e299_77, e299_80, e299_81, psh0, psh1, psh3, true_or, or_true, eq_self, Option.bind_some, List.length_nil, List.length_cons, Nat.reduceAdd, Nat.reduceLeDiff, Nat.zero_le, ↓reduceIte, Int.reduceLT, Int.reduceEq, Int.reduceLE, Int.reduceNeg, Int.reduceAdd, Int.reduceMul, Int.reduceSub, ne_eq, not_true_eq_false, not_false_eq_true, and_true, true_and, and_false, false_and, c3lt, c3gt, c3eq, Bool.false_eq_true, isK_wr, inA_wr, inR_wr, hm.1, mC hm, i1, hN, eN, Int.lt_irrefl]
  | succ n ih =>
    intro st hi
    have hst : st < 2 ^ N := by omega
    have ci : (st : Int) < ((2 ^ N : Nat) : Int) := Int.ofNat_lt.mpr hst
    have w1 : w32 ((st : Int) + 1) = ((st + 1 : Nat) : Int) := by rw [w32_id (by omega) (by omega)]; omega
    have gs := m_sizeOf (d := d) (h := g) (x := (st : Int))
    have iS4 : inA g 249 19 (st : Int) := ⟨kn_249 hm.2.1, by omega, by rw [ln_249 hm.2.1]; omega⟩
    have hB := alF_bd (w := w) (len := x) (st + 1) (by omega) (fun u hu => (hw u (by omega)).2)
    have hB0 := alF_bd (w := w) (len := x) st (by omega) (fun u hu => (hw u (by omega)).2)
    have eA : alF w x (st + 1) = alF w x st + if cB (st : Int) 12 = x then w st else 0 := rfl
    have ws := (hw st hst).1
    rw [← ih (st + 1) (by omega), e299_38]
    by_cases c : cB (st : Int) 12 = x
    · rw [if_pos c] at eA
      have w2 : w64 (alF w x st + w st) = alF w x (st + 1) := by rw [← eA, w64_id (by omega) (by omega)]
      have ct := eq_true c
      simp only [e299_0, e299_1, e299_2, e299_5, e299_6, e299_7, e299_10, e299_11, e299_12, e299_13, e299_16, e299_19, e299_22, e299_23, e299_24, e299_27, e299_28, e299_29, e299_30, e299_33, e299_34, e299_35, e299_36, e299_40, e299_41, e299_42, e299_45, e299_46, e299_47, e299_48, e299_51, e299_52, e299_54, e299_57, e299_58, e299_61, e299_62, e299_65, e299_67, e299_68, e299_71, e299_72, e299_73, e299_74, e299_77, e299_80, e299_81, psh0, psh1, psh3, true_or, or_true, eq_self, Option.bind_some, List.length_nil, List.length_cons, Nat.reduceAdd, Nat.reduceLeDiff, Nat.zero_le, ↓reduceIte, Int.reduceLT, Int.reduceEq, Int.reduceLE, Int.reduceNeg, Int.reduceAdd, Int.reduceMul, Int.reduceSub, ne_eq, not_true_eq_false, not_false_eq_true, and_true, true_and, and_false, false_and, c3lt, c3gt, c3eq, Bool.false_eq_true, isK_wr, inA_wr, inR_wr, hm.1, mC hm, i1, hN, eN, ci, gs, ct, m34, iS4, ws, w2, w1]
    · rw [if_neg c] at eA
      have w2 : w64 (alF w x st + 0) = alF w x (st + 1) := by rw [← eA, w64_id (by omega) (by omega)]
      simp only [e299_0, e299_1, e299_2, e299_5, e299_6, e299_7, e299_10, e299_11, e299_12, e299_13, e299_16, e299_19, e299_22, e299_23, e299_24, e299_27, e299_28, e299_29, e299_30, e299_33, e299_34, e299_35, e299_36, e299_40, e299_41, e299_42, e299_45, e299_46, e299_47, e299_48, e299_51, e299_52, e299_54, e299_57, e299_58, e299_61, e299_62, e299_65, e299_67, e299_68, e299_71, e299_72, e299_73, e299_74, e299_77, e299_80, e299_81, psh0, psh1, psh3, true_or, or_true, eq_self, Option.bind_some, List.length_nil, List.length_cons, Nat.reduceAdd, Nat.reduceLeDiff, Nat.zero_le, ↓reduceIte, Int.reduceLT, Int.reduceEq, Int.reduceLE, Int.reduceNeg, Int.reduceAdd, Int.reduceMul, Int.reduceSub, ne_eq, not_true_eq_false, not_false_eq_true, and_true, true_and, and_false, false_and, c3lt, c3gt, c3eq, Bool.false_eq_true, isK_wr, inA_wr, inR_wr, hm.1, mC hm, i1, hN, eN, ci, gs, c, w2, w1]
theorem x_hearAny_loop {h0 : AM} (hI : Inv h0) (M : Nat) (M12 : M ≤ 12) (m : Nat) : ∀ i : Nat, i + m = M → EV d 84 2 [(2, 148), (0, (M : Int)), (0, (i : Int))] [] (mff h0 149 0 i (fun _ => 0)) = some ((3, 0), mwr (mff h0 149 0 M (fun _ => 0)) 148 2 M) := by
  have q0 : mrd h0 148 0 = 149 := rf_148_0 hI.2.1.1
  have k148 := kn_148 hI.1
  induction m with
  | zero =>
    intro i hi
    have e : i = M := by omega
    subst e
    rw [e84_2]
    simp only [e84_0, e84_1, e84_3, e84_4, e84_7, e84_8, e84_11, e84_12, e84_13, e84_14, e84_17, e84_20, e84_21, e84_22, e84_25, psh0, psh1, psh3, true_or, or_true, eq_self, Option.bind_some, List.length_nil, List.length_cons, Nat.reduceAdd, Nat.reduceLeDiff, Nat.zero_le, ↓reduceIte, Int.reduceLT, Int.reduceEq, Int.reduceLE, Int.reduceNeg, Int.reduceAdd, Int.reduceMul, Int.reduceSub, ne_eq, not_true_eq_false, not_false_eq_true, and_true, true_and, and_false, false_and, c3lt, c3gt, c3eq, Bool.false_eq_true, isK_wr, inA_wr, inR_wr, isK_ff, Int.lt_irrefl, k148]
  | succ m ih =>
    intro i hi
    have ci : (i : Int) < M := by omega
    have w1 : w32 ((i : Int) + 1) = ((i + 1 : Nat) : Int) := by rw [w32_id (by omega) (by omega)]; omega
    have i2 : inA h0 149 16 i := ⟨kn_149 hI.1, by omega, by rw [ln_149 hI.1]; omega⟩
    have e := mff_s (h := h0) (a := 149) (i := 0) (n := i) (f := fun _ => 0) (by omega)
    rw [Int.zero_add] at e
    rw [← ih (i + 1) (by omega), e84_2]
    simp only [e84_0, e84_1, e84_3, e84_4, e84_7, e84_8, e84_11, e84_12, e84_13, e84_14, e84_17, e84_20, e84_21, e84_22, e84_25, psh0, psh1, psh3, true_or, or_true, eq_self, Option.bind_some, List.length_nil, List.length_cons, Nat.reduceAdd, Nat.reduceLeDiff, Nat.zero_le, ↓reduceIte, Int.reduceLT, Int.reduceEq, Int.reduceLE, Int.reduceNeg, Int.reduceAdd, Int.reduceMul, Int.reduceSub, ne_eq, not_true_eq_false, not_false_eq_true, and_true, true_and, and_false, false_and, c3lt, c3gt, c3eq, Bool.false_eq_true, isK_wr, inA_wr, inR_wr, isK_ff, inA_ff, rdff, ci, k148, q0, i2, w1, e]
    rfl
end
theorem x_hearAny {d : Nat} {h : AM} (hI : Inv h) (M : Nat) (M12 : M ≤ 12) : ∃ h1, EV d 84 0 [(2, 148), (0, (M : Int)), (3, 0)] [] h = some ((3, 0), h1) ∧ SF h h1 ∧ SC h h1 ∧ mrd h1 148 2 = M ∧ ∀ p : Nat, (p : Int) < M → mrd h1 149 p = 0 := by
  have gl := x_hearAny_loop (d := d) hI M M12 M 0 (by omega)
  rw [show ((0 : Nat) : Int) = 0 from rfl, mff_0] at gl
  have sc : SC h (mwr (mff h 149 0 M (fun _ => 0)) 148 2 M) := SC_wr (SC_ff (SC.rf hI.1 hI.2.2.2.1)) (Or.inr (Or.inl ⟨rfl, Or.inl rfl⟩))
  refine ⟨mwr (mff h 149 0 M (fun _ => 0)) 148 2 M, ?_, (SF.rf hI).sc sc, sc, rde, fun p hp => ?_⟩
  · refine Eq.trans ?_ gl
    simp only [e84_0, e84_1, e84_3, e84_4, e84_7, e84_8, e84_11, e84_12, e84_13, e84_14, e84_17, e84_20, e84_21, e84_22, e84_25, psh0, psh1, psh3, true_or, or_true, eq_self, Option.bind_some, List.length_nil, List.length_cons, Nat.reduceAdd, Nat.reduceLeDiff, Nat.zero_le, ↓reduceIte, Int.reduceLT, Int.reduceEq, Int.reduceLE, Int.reduceNeg, Int.reduceAdd, Int.reduceMul, Int.reduceSub, ne_eq, not_true_eq_false, not_false_eq_true, and_true, true_and, and_false, false_and, c3lt, c3gt, c3eq, Bool.false_eq_true, isK_wr, inA_wr, inR_wr]
  · rw [rdn1 (by decide), rd_ff, if_pos ⟨rfl, by omega, by omega⟩]
theorem alF_congr2 {w w' : Nat → Int} {x : Int} : ∀ t : Nat, (∀ u : Nat, u < t → cB (u : Int) 12 = x → w u = w' u) → alF w x t = alF w' x t
  | 0, _ => rfl
  | t + 1, h => by
    rw [alF, alF, alF_congr2 t (fun u hu => h u (by omega))]
    split
    · rename_i c; rw [h t (by omega) c]
    · rfl
theorem W_lim {h : AM} {n : Int} {N : Nat} (N12 : N ≤ 12) : ∀ T : Nat, T < 2 ^ N → cB (T : Int) 12 ≤ n → Wy (okT h n (fun _ => 0)) N T = Wy (okO h) N T := by
  have hp := pow_13 N12
  intro T
  induction T using Nat.strongRecOn with
  | _ T ih =>
    intro hT hc
    by_cases c : T = 0
    · subst c; rfl
    · rw [W_rec c, W_rec c]
      refine sm_congr N (fun l hl => ?_)
      cases hb : T.testBit l with
      | false => simp
      | true =>
        obtain ⟨h1, h2, h3⟩ := bit_del hb
        have hlt := del_lt hb
        have hp0 := Nat.two_pow_pos l
        have h4 := cB_ins (x := T - 2 ^ l) (l := l) (by omega) (by omega) h3
        rw [← h2] at h4
        have e : okT h n (fun _ => 0) (T - 2 ^ l) l = okO h (T - 2 ^ l) l := by
          unfold okT okF okO
          rw [decide_eq_true (show cB ((T - 2 ^ l : Nat) : Int) 12 < n by omega), Bool.true_and, decide_eq_true rfl, Bool.true_or, Bool.and_true]
        rw [e, ih _ hlt (by omega) (by omega)]
theorem okO_sf {h g : AM} (hf : SF h g) : okO g = okO h := by
  unfold okO
  simp only [hf.c]
theorem op_orders : Op_orders Inv := by
  intro d h n hI i0
  obtain ⟨s, e8, hs, k0, kM, cs, ds⟩ := ctx hI
  have ds' := ds
  have ks := cs.1
  have r1 := cs.2.2.1
  have r2 := cs.2.2.2.1
  have r3 := cs.2.2.2.2.1
  have kl := cs.2.2.2.2.2.2.2.2.2.2.2.1
  have kc := cs.2.2.2.2.2.2.2.2.2.2.2.2
  obtain ⟨d5, d6, d7, d8, dl, dc⟩ := ds
  have hm : ∀ v, CM (mwr (mwr (mwr h 0 11 v) 235 1 0) 235 0 0) := fun v => CM_q (CM_of hI)
  have x6 : mrd h 0 6 = 148 := rf_0_6 hI.2.1.1
  have k148 := kn_148 hI.1
  obtain ⟨N, hN⟩ : ∃ N : Nat, mrd h 240 1 = N := ⟨(mrd h 240 1).toNat, by omega⟩
  have hp := pow_13 (n := N) (by omega)
  by_cases hc : 0 ≤ n ∧ n ≤ 12
  · obtain ⟨M, rfl⟩ := Int.eq_ofNat_of_zero_le hc.1
    have c0 : ¬ (M : Int) < 0 := by omega
    have c1 : ¬ 12 < (M : Int) := by omega
    have eA : alF (Wy (okT h M (fun _ => 0)) N) M (2 ^ N) = alF (Wy (okO h) N) M (2 ^ N) := alF_congr2 _ (fun u hu hcu => W_lim (by omega) u hu (by omega))
    refine opSF hI (alF (Wy (okO h) N) M (2 ^ N)) 0 ?_ (fun h2 hf2 => ?_)
    · obtain ⟨h1, g1, g2, g3, g4, g5⟩ := x_hearAny (d := d + 59) hI M (by omega)
      have hf2 : SF h (mwr h1 0 11 0) := g2.wr Scr_st (by omega)
      obtain ⟨h3, b1, b2, b3⟩ := xs_count (d := d + 57) (n := M) (f := fun _ => 0) hI hs ds' hf2 hN (by rw [rdn1 (by decide)]; exact g4) (by omega) (fun p hp => by rw [rdn1 (by decide)]; exact g5 p hp)
      rw [eA] at b1
      have e8' : mrd h1 0 8 = s := g2.e8.trans e8
      have x6' : mrd h1 0 6 = 148 := (fr0 g2.1 (by decide)).trans x6
      refine ⟨h3, ?_, hf2.sc b2, ?_⟩
      · simp only [e146_0, e146_1, e146_4, e146_5, e146_7, e146_10, e146_11, e146_12, e146_15, e146_16, e146_17, e146_18, e146_21, e146_22, e146_25, e146_26, e146_27, e146_30, e146_31, e146_34, e146_35, e146_38, e146_41, psh0, psh1, psh3, true_or, or_true, eq_self, Option.bind_some, List.length_nil, List.length_cons, Nat.reduceAdd, Nat.reduceLeDiff, Nat.zero_le, ↓reduceIte, Int.reduceLT, Int.reduceEq, Int.reduceLE, Int.reduceNeg, Int.reduceAdd, Int.reduceMul, Int.reduceSub, ne_eq, not_true_eq_false, not_false_eq_true, and_true, true_and, and_false, false_and, c3lt, c3gt, c3eq, Bool.false_eq_true, isK_wr, inA_wr, inR_wr, k0, c0, c1, x6, k148, g1, g2.k0, rd_wr, x6', e8', kn_148 g2.2.1, b1]
      · rw [b2.2.2.2 0 11 (by decide) (by decide) (by decide) (by omega), rde]
    · have cm2 := hf2.cm hI
      have hfq : SF h (mwr (mwr h2 235 1 0) 235 0 0) := hf2.q
      have cmq := hfq.cm hI
      obtain ⟨g', f1, f2, f3⟩ := m_fillOrders (d := d + 57) cmq (by rw [hfq.c]; exact hN) (by omega)
      have hf3 := hfq.oq f2
      have ga := m_orders_loop (d := d + 58) (x := M) (w := Wy (okO h) N) (hf3.cm hI) (by rw [hf3.c]; exact hN) (by omega) (fun T hT => ⟨by rw [f3 T hT, okO_sf hfq], W_B (by omega) (by omega)⟩) (2 ^ N) 0 (by omega)
      refine ⟨g', ?_, hf3, by rw [f2.2 _ _ (by decide)]; exact q00.1, by rw [f2.2 _ _ (by decide)]; exact q00.2⟩
      refine Eq.trans ?_ ga
      simp only [e299_0, e299_1, e299_2, e299_5, e299_6, e299_7, e299_10, e299_11, e299_12, e299_13, e299_16, e299_19, e299_22, e299_23, e299_24, e299_27, e299_28, e299_29, e299_30, e299_33, e299_34, e299_35, e299_36, e299_40, e299_41, e299_42, e299_45, e299_46, e299_47, e299_48, e299_51, e299_52, e299_54, e299_57, e299_58, e299_61, e299_62, e299_65, e299_67, e299_68, e299_71, e299_72, e299_73, e299_74, e299_77, e299_80, e299_81, psh0, psh1, psh3, true_or, or_true, eq_self, Option.bind_some, List.length_nil, List.length_cons, Nat.reduceAdd, Nat.reduceLeDiff, Nat.zero_le, ↓reduceIte, Int.reduceLT, Int.reduceEq, Int.reduceLE, Int.reduceNeg, Int.reduceAdd, Int.reduceMul, Int.reduceSub, ne_eq, not_true_eq_false, not_false_eq_true, and_true, true_and, and_false, false_and, c3lt, c3gt, c3eq, Bool.false_eq_true, isK_wr, inA_wr, inR_wr, cm2.1, m_isIn, hc, f1]
      rfl
  · refine opq hI (-1) 5 ?_ ?_
    · by_cases c0 : n < 0
      · simp only [e146_0, e146_1, e146_4, e146_5, e146_7, e146_10, e146_11, e146_12, e146_15, e146_16, e146_17, e146_18, e146_21, e146_22, e146_25, e146_26, e146_27, e146_30, e146_31, e146_34, e146_35, e146_38, e146_41, psh0, psh1, psh3, true_or, or_true, eq_self, Option.bind_some, List.length_nil, List.length_cons, Nat.reduceAdd, Nat.reduceLeDiff, Nat.zero_le, ↓reduceIte, Int.reduceLT, Int.reduceEq, Int.reduceLE, Int.reduceNeg, Int.reduceAdd, Int.reduceMul, Int.reduceSub, ne_eq, not_true_eq_false, not_false_eq_true, and_true, true_and, and_false, false_and, c3lt, c3gt, c3eq, Bool.false_eq_true, isK_wr, inA_wr, inR_wr, k0, c0, x_refuse]
      · have c1 : 12 < n := by omega
        simp only [e146_0, e146_1, e146_4, e146_5, e146_7, e146_10, e146_11, e146_12, e146_15, e146_16, e146_17, e146_18, e146_21, e146_22, e146_25, e146_26, e146_27, e146_30, e146_31, e146_34, e146_35, e146_38, e146_41, psh0, psh1, psh3, true_or, or_true, eq_self, Option.bind_some, List.length_nil, List.length_cons, Nat.reduceAdd, Nat.reduceLeDiff, Nat.zero_le, ↓reduceIte, Int.reduceLT, Int.reduceEq, Int.reduceLE, Int.reduceNeg, Int.reduceAdd, Int.reduceMul, Int.reduceSub, ne_eq, not_true_eq_false, not_false_eq_true, and_true, true_and, and_false, false_and, c3lt, c3gt, c3eq, Bool.false_eq_true, isK_wr, inA_wr, inR_wr, k0, c0, c1, x_refuse]
    · simp only [e299_0, e299_1, e299_2, e299_5, e299_6, e299_7, e299_10, e299_11, e299_12, e299_13, e299_16, e299_19, e299_22, e299_23, e299_24, e299_27, e299_28, e299_29, e299_30, e299_33, e299_34, e299_35, e299_36, e299_40, e299_41, e299_42, e299_45, e299_46, e299_47, e299_48, e299_51, e299_52, e299_54, e299_57, e299_58, e299_61, e299_62, e299_65, e299_67, e299_68, e299_71, e299_72, e299_73, e299_74, e299_77, e299_80, e299_81, psh0, psh1, psh3, true_or, or_true, eq_self, Option.bind_some, List.length_nil, List.length_cons, Nat.reduceAdd, Nat.reduceLeDiff, Nat.zero_le, ↓reduceIte, Int.reduceLT, Int.reduceEq, Int.reduceLE, Int.reduceNeg, Int.reduceAdd, Int.reduceMul, Int.reduceSub, ne_eq, not_true_eq_false, not_false_eq_true, and_true, true_and, and_false, false_and, c3lt, c3gt, c3eq, Bool.false_eq_true, isK_wr, inA_wr, inR_wr, kM, m_isIn, hc, m_refuse, wrwr]
