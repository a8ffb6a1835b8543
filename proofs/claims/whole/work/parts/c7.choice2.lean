/-! choice: the reference -/
def swM (g : AM) (k : Int) (M : Nat) : Nat → Bool := fun l => decide (stL (mrd g 240 3) (kp (fun _ => false) (fun p => LT g k p) M ++ [mrd g 240 (4 + l)]) = -1)
def dyM (g : AM) (k : Int) : Nat → Int := fun l => dyF (mrd g 240 (16 + l)) (mrd g 240 (64 + k))
def rdM (g : AM) (k : Int) (M : Nat) : Nat → Bool := rdy (kb (fun p => mrd g 240 (80 + 12 * k + p)) M) (mrd g 240 (68 + k)) (fun l => mrd g 240 (52 + l)) (fun l => mrd g 240 (28 + l)) true
theorem CM_vm {g g' : AM} (hm : CM g) (hsp : VM g g') : CM g' := by
  refine ⟨?_, ?_, fun q hq => ?_⟩
  · have := hm.1
    unfold isK mnx mkn at this ⊢
    rw [hsp.1]; exact this
  · have hS := hm.2.1
    unfold Shp mnx at hS ⊢
    rw [hsp.1]; exact hS
  · have hn : ∀ q ∈ refT, q.1 ≠ 243 ∧ ¬ (q.1 = 235 ∧ q.2.1 = 27) := by decide +kernel
    exact (hsp.2 _ _ (hn q hq).1 (hn q hq).2).trans (hm.2.2 q hq)
theorem VM.c {g g' : AM} (a : VM g g') (i : Int) : mrd g' 240 i = mrd g 240 i := a.2 _ _ (by decide) (by omega)
theorem sdB_snoc {so : Int} {l : List Int} {x : Int} : sdB so (l ++ [x]) = b01 (decide (stL so (l ++ [x]) = -1)) := by
  unfold sdB b01
  have : 0 < (l ++ [x]).length := by rw [len_snoc]; omega
  by_cases c : stL so (l ++ [x]) = -1
  · rw [if_pos ⟨this, c⟩, if_pos (decide_eq_true c)]
  · rw [if_neg (fun z => c z.2), if_neg (by simpa using c)]
section
variable {d : Nat} {h g : AM} {s a b c k l p v w x y z : Int}
theorem m_saysWith {i : Nat} (hm : CM g) (hc : MC g k) (M : Nat) (hM : mrd g 240 (76 + k) = M) (i12 : i < 12) : ∃ g', EV (d + 3) 272 0 [(2, 235), (0, k), (0, (i : Int))] [] g = some ((0, b01 (swM g k M i)), g') ∧ VM g g' := by
  obtain ⟨g1, e1, e2⟩ := m_layName (d := d) (x := 0) hm hc M hM
  rw [kp_0] at e2
  have b12 := hc.2.1
  have hm1 := CM_spm hm e2
  have m26 : mrd g1 235 26 = 243 := rf_235_26 hm1.2.2
  have eL : mrd g1 235 27 = M := by rw [e2.2.2.1, kp_none]
  have iV : inA g1 243 16 M := ⟨kn_243 hm1.2.1, by omega, by rw [ln_243 hm1.2.1]; omega⟩
  have w1 : w32 (4 + (i : Int)) = 4 + i := w32_id (by omega) (by omega)
  have w2 : w32 ((M : Int) + 1) = (M : Int) + 1 := w32_id (by omega) (by omega)
  have iC := inC hm1 (j := 4 + (i : Int)) (by omega) (by omega)
  have e4 : mrd g1 240 (4 + i) = mrd g 240 (4 + i) := e2.2.1 _ _ (by decide) (by omega)
  obtain ⟨G, hG⟩ : ∃ G, G = mwr (mwr g1 243 M (mrd g 240 (4 + i))) 235 27 ((M : Int) + 1) := ⟨_, rfl⟩
  have hsp : SpM g G (kp (fun _ => false) (fun p => LT g k p) M ++ [mrd g 240 (4 + i)]) := by
    rw [hG]
    refine ⟨e2.1, fun a j h1 h2 => ?_, ?_, fun p hp => ?_⟩
    · rw [rd_wr, if_neg h2, rd_wr, if_neg (by omega)]
      exact e2.2.1 a j h1 h2
    · rw [rde, len_snoc, kp_none]; push_cast; rfl
    · rw [rdn1 (by omega), rd_wr, getD_snoc hp, kp_none]
      rw [len_snoc, kp_none] at hp
      by_cases c2 : p = M
      · rw [if_pos ⟨rfl, by omega⟩, if_pos c2]
      · rw [if_neg (by omega), if_neg c2]
        exact e2.2.2.2 p (by rw [kp_none]; omega)
  have hmG := CM_spm hm hsp
  have g3 := m_isSaid (d := d) hmG hsp.2.2.1 hsp.2.2.2 (by rw [len_snoc, kp_none]; omega)
  rw [hsp.2.1 240 3 (by decide) (by omega), sdB_snoc] at g3
  refine ⟨G, ?_, hsp.vm⟩
  have h01 : b01 (swM g k M i) = 0 ∨ b01 (swM g k M i) = 1 := by unfold b01; split <;> simp
  have g3' : EV (d + 2) 269 0 [(2, 235)] [] G = some ((0, b01 (swM g k M i)), G) := g3
  simp only [e272_0, e272_1, e272_2, e272_3, e272_6, e272_7, e272_10, e272_11, e272_14, e272_15, e272_18, e272_19, e272_20, e272_21, e272_22, e272_23, e272_24, e272_24i, e272_25, e272_28, e272_29, e272_30, e272_33, e272_34, e272_37, psh0, psh1, psh3, true_or, or_true, eq_self, Option.bind_some, List.length_nil, List.length_cons, Nat.reduceAdd, Nat.reduceLeDiff, Nat.zero_le, ↓reduceIte, Int.reduceLT, Int.reduceEq, Int.reduceLE, Int.reduceNeg, Int.reduceAdd, Int.reduceMul, Int.reduceSub, ne_eq, not_true_eq_false, not_false_eq_true, and_true, true_and, and_false, false_and, c3lt, c3gt, c3eq, Bool.false_eq_true, isK_wr, inA_wr, inR_wr, hm.1, e1, hm1.1, m26, eL, mC hm1, w1, iC, e4, iV, rd_wr, w2, ← hG, hmG.1, g3', h01]
/-- the decision -/
theorem m_choice_B {best D1 D2 R : Int} {bs sd : Bool} {i : Nat} (hk : isK h 235 11) (i12 : i < 12) (hb : -1 ≤ best) (g1 : EV d 251 0 [(2, 235), (0, a), (0, (i : Int))] [] h = some ((0, D1), h)) (g2 : best ≠ -1 → EV d 251 0 [(2, 235), (0, a), (0, best)] [] h = some ((0, D2), h)) : EV (d + 1) 273 47 [(2, 235), (0, a), (0, R), (0, best), (0, b01 bs), (0, (i : Int)), (0, b01 sd)] [] h = EV (d + 1) 273 15 [(2, 235), (0, a), (0, R), (0, if best = -1 ∨ (sd = true ∧ bs = false) ∨ (sd = bs ∧ D1 < D2) then (i : Int) else best), (0, b01 (if best = -1 ∨ (sd = true ∧ bs = false) ∨ (sd = bs ∧ D1 < D2) then sd else bs)), (0, ((i + 1 : Nat) : Int)), (0, b01 sd)] [] h := by
  have w1 : w32 ((i : Int) + 1) = ((i + 1 : Nat) : Int) := by rw [w32_id (by omega) (by omega)]; omega
  by_cases cb : best = -1
  · rw [if_pos (Or.inl cb), if_pos (Or.inl cb), cb]
    simp only [e273_0, e273_1, e273_2, e273_3, e273_6, e273_7, e273_8, e273_9, e273_10, e273_12, e273_13, e273_17, e273_18, e273_21, e273_22, e273_23, e273_26, e273_27, e273_29, e273_32, e273_35, e273_38, e273_39, e273_40, e273_42, e273_45, e273_47, e273_48, e273_51, e273_53, e273_56, e273_58, e273_61, e273_63, e273_65, e273_68, e273_69, e273_70, e273_72, e273_75, e273_76, e273_77, e273_78, e273_81, e273_84, e273_87, e273_89, e273_90, e273_92, e273_94, e273_97, e273_100, e273_101, psh0, psh1, psh3, true_or, or_true, eq_self, Option.bind_some, List.length_nil, List.length_cons, Nat.reduceAdd, Nat.reduceLeDiff, Nat.zero_le, ↓reduceIte, Int.reduceLT, Int.reduceEq, Int.reduceLE, Int.reduceNeg, Int.reduceAdd, Int.reduceMul, Int.reduceSub, ne_eq, not_true_eq_false, not_false_eq_true, and_true, true_and, and_false, false_and, c3lt, c3gt, c3eq, Bool.false_eq_true, isK_wr, inA_wr, inR_wr, w1]
  · have g2 := g2 cb
    have cb' : ¬ best < 0 := by omega
    cases sd with
    | true =>
      cases bs with
      | false =>
        rw [if_pos (Or.inr (Or.inl ⟨rfl, rfl⟩)), if_pos (Or.inr (Or.inl ⟨rfl, rfl⟩))]
        simp only [e273_0, e273_1, e273_2, e273_3, e273_6, e273_7, e273_8, e273_9, e273_10, e273_12, e273_13, e273_17, e273_18, e273_21, e273_22, e273_23, e273_26, e273_27, e273_29, e273_32, e273_35, e273_38, e273_39, e273_40, e273_42, e273_45, e273_47, e273_48, e273_51, e273_53, e273_56, e273_58, e273_61, e273_63, e273_65, e273_68, e273_69, e273_70, e273_72, e273_75, e273_76, e273_77, e273_78, e273_81, e273_84, e273_87, e273_89, e273_90, e273_92, e273_94, e273_97, e273_100, e273_101, psh0, psh1, psh3, true_or, or_true, eq_self, Option.bind_some, List.length_nil, List.length_cons, Nat.reduceAdd, Nat.reduceLeDiff, Nat.zero_le, ↓reduceIte, Int.reduceLT, Int.reduceEq, Int.reduceLE, Int.reduceNeg, Int.reduceAdd, Int.reduceMul, Int.reduceSub, ne_eq, not_true_eq_false, not_false_eq_true, and_true, true_and, and_false, false_and, c3lt, c3gt, c3eq, Bool.false_eq_true, isK_wr, inA_wr, inR_wr, b01, cb', w1]
      | true =>
        by_cases cd : D1 < D2
        · rw [if_pos (Or.inr (Or.inr ⟨rfl, cd⟩)), if_pos (Or.inr (Or.inr ⟨rfl, cd⟩))]
          simp only [e273_0, e273_1, e273_2, e273_3, e273_6, e273_7, e273_8, e273_9, e273_10, e273_12, e273_13, e273_17, e273_18, e273_21, e273_22, e273_23, e273_26, e273_27, e273_29, e273_32, e273_35, e273_38, e273_39, e273_40, e273_42, e273_45, e273_47, e273_48, e273_51, e273_53, e273_56, e273_58, e273_61, e273_63, e273_65, e273_68, e273_69, e273_70, e273_72, e273_75, e273_76, e273_77, e273_78, e273_81, e273_84, e273_87, e273_89, e273_90, e273_92, e273_94, e273_97, e273_100, e273_101, psh0, psh1, psh3, true_or, or_true, eq_self, Option.bind_some, List.length_nil, List.length_cons, Nat.reduceAdd, Nat.reduceLeDiff, Nat.zero_le, ↓reduceIte, Int.reduceLT, Int.reduceEq, Int.reduceLE, Int.reduceNeg, Int.reduceAdd, Int.reduceMul, Int.reduceSub, ne_eq, not_true_eq_false, not_false_eq_true, and_true, true_and, and_false, false_and, c3lt, c3gt, c3eq, Bool.false_eq_true, isK_wr, inA_wr, inR_wr, b01, cb', hk, g1, g2, cd, w1]
        · have cn : ¬ (best = -1 ∨ (true = true ∧ true = false) ∨ (true = true ∧ D1 < D2)) := by
            rintro (z | z | z)
            · exact cb z
            · exact absurd z.2 (by decide)
            · exact cd z.2
          rw [if_neg cn, if_neg cn]
          simp only [e273_0, e273_1, e273_2, e273_3, e273_6, e273_7, e273_8, e273_9, e273_10, e273_12, e273_13, e273_17, e273_18, e273_21, e273_22, e273_23, e273_26, e273_27, e273_29, e273_32, e273_35, e273_38, e273_39, e273_40, e273_42, e273_45, e273_47, e273_48, e273_51, e273_53, e273_56, e273_58, e273_61, e273_63, e273_65, e273_68, e273_69, e273_70, e273_72, e273_75, e273_76, e273_77, e273_78, e273_81, e273_84, e273_87, e273_89, e273_90, e273_92, e273_94, e273_97, e273_100, e273_101, psh0, psh1, psh3, true_or, or_true, eq_self, Option.bind_some, List.length_nil, List.length_cons, Nat.reduceAdd, Nat.reduceLeDiff, Nat.zero_le, ↓reduceIte, Int.reduceLT, Int.reduceEq, Int.reduceLE, Int.reduceNeg, Int.reduceAdd, Int.reduceMul, Int.reduceSub, ne_eq, not_true_eq_false, not_false_eq_true, and_true, true_and, and_false, false_and, c3lt, c3gt, c3eq, Bool.false_eq_true, isK_wr, inA_wr, inR_wr, b01, cb', hk, g1, g2, cd, w1]
    | false =>
      cases bs with
      | true =>
        have cn : ¬ (best = -1 ∨ (false = true ∧ true = false) ∨ (false = true ∧ D1 < D2)) := by
          rintro (z | z | z)
          · exact cb z
          · exact absurd z.1 (by decide)
          · exact absurd z.1 (by decide)
        rw [if_neg cn, if_neg cn]
        simp only [e273_0, e273_1, e273_2, e273_3, e273_6, e273_7, e273_8, e273_9, e273_10, e273_12, e273_13, e273_17, e273_18, e273_21, e273_22, e273_23, e273_26, e273_27, e273_29, e273_32, e273_35, e273_38, e273_39, e273_40, e273_42, e273_45, e273_47, e273_48, e273_51, e273_53, e273_56, e273_58, e273_61, e273_63, e273_65, e273_68, e273_69, e273_70, e273_72, e273_75, e273_76, e273_77, e273_78, e273_81, e273_84, e273_87, e273_89, e273_90, e273_92, e273_94, e273_97, e273_100, e273_101, psh0, psh1, psh3, true_or, or_true, eq_self, Option.bind_some, List.length_nil, List.length_cons, Nat.reduceAdd, Nat.reduceLeDiff, Nat.zero_le, ↓reduceIte, Int.reduceLT, Int.reduceEq, Int.reduceLE, Int.reduceNeg, Int.reduceAdd, Int.reduceMul, Int.reduceSub, ne_eq, not_true_eq_false, not_false_eq_true, and_true, true_and, and_false, false_and, c3lt, c3gt, c3eq, Bool.false_eq_true, isK_wr, inA_wr, inR_wr, b01, cb', w1]
      | false =>
        by_cases cd : D1 < D2
        · rw [if_pos (Or.inr (Or.inr ⟨rfl, cd⟩)), if_pos (Or.inr (Or.inr ⟨rfl, cd⟩))]
          simp only [e273_0, e273_1, e273_2, e273_3, e273_6, e273_7, e273_8, e273_9, e273_10, e273_12, e273_13, e273_17, e273_18, e273_21, e273_22, e273_23, e273_26, e273_27, e273_29, e273_32, e273_35, e273_38, e273_39, e273_40, e273_42, e273_45, e273_47, e273_48, e273_51, e273_53, e273_56, e273_58, e273_61, e273_63, e273_65, e273_68, e273_69, e273_70, e273_72, e273_75, e273_76, e273_77, e273_78, e273_81, e273_84, e273_87, e273_89, e273_90, e273_92, e273_94, e273_97, e273_100, e273_101, psh0, psh1, psh3, true_or, or_true, eq_self, Option.bind_some, List.length_nil, List.length_cons, Nat.reduceAdd, Nat.reduceLeDiff, Nat.zero_le, ↓reduceIte, Int.reduceLT, Int.reduceEq, Int.reduceLE, Int.reduceNeg, Int.reduceAdd, Int.reduceMul, Int.reduceSub, ne_eq, not_true_eq_false, not_false_eq_true, and_true, true_and, and_false, false_and, c3lt, c3gt, c3eq, Bool.false_eq_true, isK_wr, inA_wr, inR_wr, b01, cb', hk, g1, g2, cd, w1]
        · have cn : ¬ (best = -1 ∨ (false = true ∧ false = false) ∨ (false = false ∧ D1 < D2)) := by
            rintro (z | z | z)
            · exact cb z
            · exact absurd z.1 (by decide)
            · exact cd z.2
          rw [if_neg cn, if_neg cn]
          simp only [e273_0, e273_1, e273_2, e273_3, e273_6, e273_7, e273_8, e273_9, e273_10, e273_12, e273_13, e273_17, e273_18, e273_21, e273_22, e273_23, e273_26, e273_27, e273_29, e273_32, e273_35, e273_38, e273_39, e273_40, e273_42, e273_45, e273_47, e273_48, e273_51, e273_53, e273_56, e273_58, e273_61, e273_63, e273_65, e273_68, e273_69, e273_70, e273_72, e273_75, e273_76, e273_77, e273_78, e273_81, e273_84, e273_87, e273_89, e273_90, e273_92, e273_94, e273_97, e273_100, e273_101, psh0, psh1, psh3, true_or, or_true, eq_self, Option.bind_some, List.length_nil, List.length_cons, Nat.reduceAdd, Nat.reduceLeDiff, Nat.zero_le, ↓reduceIte, Int.reduceLT, Int.reduceEq, Int.reduceLE, Int.reduceNeg, Int.reduceAdd, Int.reduceMul, Int.reduceSub, ne_eq, not_true_eq_false, not_false_eq_true, and_true, true_and, and_false, false_and, c3lt, c3gt, c3eq, Bool.false_eq_true, isK_wr, inA_wr, inR_wr, b01, cb', hk, g1, g2, cd, w1]
theorem m_choice_loop {g0 : AM} (hm0 : CM g0) (hc0 : MC g0 k) (M : Nat) (hM : mrd g0 240 (76 + k) = M) (N : Nat) (hN : mrd g0 240 1 = N) (N12 : N ≤ 12) (hd : ∀ l : Nat, l < N → 1 ≤ mrd g0 240 (16 + l) ∧ mrd g0 240 (16 + l) ≤ 30) (hg : 0 ≤ mrd g0 240 (64 + k) ∧ mrd g0 240 (64 + k) ≤ 9) (n : Nat) : ∀ (i : Nat) (g : AM) (l6 : AV), i + n = N → VM g0 g → ∃ g', EV (d + 4) 273 15 [(2, 235), (0, k), (0, sF (rdM g0 k M) N), (0, (chF (rdM g0 k M) (swM g0 k M) (dyM g0 k) i).1), (0, b01 (chF (rdM g0 k M) (swM g0 k M) (dyM g0 k) i).2), (0, (i : Int)), l6] [] g = some ((0, (chF (rdM g0 k M) (swM g0 k M) (dyM g0 k) N).1), g') ∧ VM g0 g' := by
  induction n with
  | zero =>
    intro i g l6 hi hvm
    have e : i = N := by omega
    subst e
    have cm := CM_vm hm0 hvm
    have i1 := inC cm (j := 1) (by decide) (by decide)
    have e1 : mrd g 240 1 = i := by rw [hvm.c, hN]
    refine ⟨g, ?_, hvm⟩
    rw [e273_15]
    simp only [e273_0, e273_1, e273_2, e273_3, e273_6, e273_7, e273_8, e273_9, e273_10, e273_12, e273_13, e273_17, e273_18, e273_21, e273_22, e273_23, e273_26, e273_27, e273_29, e273_32, e273_35, e273_38, e273_39, e273_40, e273_42, e273_45, e273_47, e273_48, e273_51, e273_53, e273_56, e273_58, e273_61, e273_63, e273_65, e273_68, e273_69, e273_70, e273_72, e273_75, e273_76, e273_77, e273_78, e273_81, e273_84, e273_87, e273_89, e273_90, e273_92, e273_94, e273_97, e273_100, e273_101, psh0, psh1, psh3, true_or, or_true, eq_self, Option.bind_some, List.length_nil, List.length_cons, Nat.reduceAdd, Nat.reduceLeDiff, Nat.zero_le, ↓reduceIte, Int.reduceLT, Int.reduceEq, Int.reduceLE, Int.reduceNeg, Int.reduceAdd, Int.reduceMul, Int.reduceSub, ne_eq, not_true_eq_false, not_false_eq_true, and_true, true_and, and_false, false_and, c3lt, c3gt, c3eq, Bool.false_eq_true, isK_wr, inA_wr, inR_wr, cm.1, mC cm, i1, e1, Int.lt_irrefl]
  | succ n ih =>
    intro i g l6 hi hvm
    have cm := CM_vm hm0 hvm
    have i1 := inC cm (j := 1) (by decide) (by decide)
    have e1 : mrd g 240 1 = N := by rw [hvm.c, hN]
    have ci : (i : Int) < N := by omega
    have w1 : w32 ((i : Int) + 1) = ((i + 1 : Nat) : Int) := by rw [w32_id (by omega) (by omega)]; omega
    have hh : EV (d + 3) 188 0 [(0, sF (rdM g0 k M) N), (0, (i : Int))] [] g = some ((0, if bI (sF (rdM g0 k M) N) i = true then 1 else 0), g) := m_has (by omega) (by omega)
    rw [sF_bit _ _ _ (by omega), decide_eq_true (show i < N by omega), Bool.true_and] at hh
    have ek : chF (rdM g0 k M) (swM g0 k M) (dyM g0 k) (i + 1) = if rdM g0 k M i = true then (if (chF (rdM g0 k M) (swM g0 k M) (dyM g0 k) i).1 = -1 ∨ (swM g0 k M i = true ∧ (chF (rdM g0 k M) (swM g0 k M) (dyM g0 k) i).2 = false) ∨ (swM g0 k M i = (chF (rdM g0 k M) (swM g0 k M) (dyM g0 k) i).2 ∧ dyM g0 k i < dyM g0 k (chF (rdM g0 k M) (swM g0 k M) (dyM g0 k) i).1.toNat) then ((i : Int), swM g0 k M i) else chF (rdM g0 k M) (swM g0 k M) (dyM g0 k) i) else chF (rdM g0 k M) (swM g0 k M) (dyM g0 k) i := rfl
    cases hb : rdM g0 k M i with
    | false =>
      rw [hb, if_neg (by decide)] at ek hh
      obtain ⟨h3, e3, e4⟩ := ih (i + 1) g l6 (by omega) hvm
      rw [ek] at e3
      refine ⟨h3, ?_, e4⟩
      rw [← e3, e273_15]
      simp only [e273_0, e273_1, e273_2, e273_3, e273_6, e273_7, e273_8, e273_9, e273_10, e273_12, e273_13, e273_17, e273_18, e273_21, e273_22, e273_23, e273_26, e273_27, e273_29, e273_32, e273_35, e273_38, e273_39, e273_40, e273_42, e273_45, e273_47, e273_48, e273_51, e273_53, e273_56, e273_58, e273_61, e273_63, e273_65, e273_68, e273_69, e273_70, e273_72, e273_75, e273_76, e273_77, e273_78, e273_81, e273_84, e273_87, e273_89, e273_90, e273_92, e273_94, e273_97, e273_100, e273_101, psh0, psh1, psh3, true_or, or_true, eq_self, Option.bind_some, List.length_nil, List.length_cons, Nat.reduceAdd, Nat.reduceLeDiff, Nat.zero_le, ↓reduceIte, Int.reduceLT, Int.reduceEq, Int.reduceLE, Int.reduceNeg, Int.reduceAdd, Int.reduceMul, Int.reduceSub, ne_eq, not_true_eq_false, not_false_eq_true, and_true, true_and, and_false, false_and, c3lt, c3gt, c3eq, Bool.false_eq_true, isK_wr, inA_wr, inR_wr, cm.1, mC cm, i1, e1, ci, hh, w1]
    | true =>
      rw [hb, if_pos rfl] at ek hh
      have hq := chF_rng (rdM g0 k M) (swM g0 k M) (dyM g0 k) i
      generalize chF (rdM g0 k M) (swM g0 k M) (dyM g0 k) i = B at ek hq
      obtain ⟨g3, e3, e4⟩ := m_saysWith (d := d) (i := i) cm (MC_congr hvm.c hc0) M (by rw [hvm.c]; exact hM) (by omega)
      have esw : swM g k M i = swM g0 k M i := by
        unfold swM
        rw [hvm.c, hvm.c, kp_congr (g := fun p => LT g0 k p) M (fun _ _ => rfl) (fun p _ => LT_congr hvm.c)]
      rw [esw] at e3
      have vm3 := hvm.trans e4
      have cm3 := CM_vm hm0 vm3
      have gd : ∀ l : Nat, l < N → EV (d + 3) 251 0 [(2, 235), (0, k), (0, (l : Int))] [] g3 = some ((0, dyM g0 k l), g3) := fun l hl' => by
        rw [m_daysOf cm3 hc0.1.1 hc0.1.2 (by omega) (by omega) (by rw [vm3.c]; exact hd l hl') (by rw [vm3.c]; exact hg), vm3.c, vm3.c]
        rfl
      have e5 := m_choice_B (d := d + 3) (h := g3) (a := k) (R := sF (rdM g0 k M) N) (best := B.1) (bs := B.2) (sd := swM g0 k M i) (i := i) (D2 := dyM g0 k B.1.toNat) cm3.1 (by omega) hq.1 (gd i (by omega)) (fun hne => by
        have := gd B.1.toNat (by omega)
        rw [Int.toNat_of_nonneg (by omega)] at this
        exact this)
      obtain ⟨h4, e7, e8⟩ := ih (i + 1) g3 (0, b01 (swM g0 k M i)) (by omega) vm3
      refine ⟨h4, ?_, e8⟩
      rw [← e7, ek]
      refine Eq.trans ?_ (e5.trans ?_)
      · rw [e273_15]
        simp only [e273_0, e273_1, e273_2, e273_3, e273_6, e273_7, e273_8, e273_9, e273_10, e273_12, e273_13, e273_17, e273_18, e273_21, e273_22, e273_23, e273_26, e273_27, e273_29, e273_32, e273_35, e273_38, e273_39, e273_40, e273_42, e273_45, e273_48, e273_51, e273_53, e273_56, e273_58, e273_61, e273_63, e273_65, e273_68, e273_69, e273_70, e273_72, e273_75, e273_76, e273_77, e273_78, e273_81, e273_84, e273_87, e273_89, e273_90, e273_92, e273_94, e273_97, e273_100, e273_101, psh0, psh1, psh3, true_or, or_true, eq_self, Option.bind_some, List.length_nil, List.length_cons, Nat.reduceAdd, Nat.reduceLeDiff, Nat.zero_le, ↓reduceIte, Int.reduceLT, Int.reduceEq, Int.reduceLE, Int.reduceNeg, Int.reduceAdd, Int.reduceMul, Int.reduceSub, ne_eq, not_true_eq_false, not_false_eq_true, and_true, true_and, and_false, false_and, c3lt, c3gt, c3eq, Bool.false_eq_true, isK_wr, inA_wr, inR_wr, cm.1, mC cm, i1, e1, ci, hh, e3]
      · by_cases cc : B.1 = -1 ∨ (swM g0 k M i = true ∧ B.2 = false) ∨ (swM g0 k M i = B.2 ∧ dyM g0 k i < dyM g0 k B.1.toNat)
        · rw [if_pos cc, if_pos cc, if_pos cc]
        · rw [if_neg cc, if_neg cc, if_neg cc]
theorem m_choiceOf {g0 : AM} (hm0 : CM g0) (hc0 : MC g0 k) (M : Nat) (hM : mrd g0 240 (76 + k) = M) (N : Nat) (hN : mrd g0 240 1 = N) (N12 : N ≤ 12) (hd : ∀ l : Nat, l < N → 1 ≤ mrd g0 240 (16 + l) ∧ mrd g0 240 (16 + l) ≤ 30) (hg : 0 ≤ mrd g0 240 (64 + k) ∧ mrd g0 240 (64 + k) ≤ 9) : ∃ g', EV (d + 4) 273 0 [(2, 235), (0, k), (3, 0), (3, 0), (3, 0), (3, 0), (3, 0)] [] g0 = some ((0, (chF (rdM g0 k M) (swM g0 k M) (dyM g0 k) N).1), g') ∧ VM g0 g' := by
  obtain ⟨h4, e7, e8⟩ := m_choice_loop (d := d) hm0 hc0 M hM N hN N12 hd hg N 0 g0 (3, 0) (by omega) VM.rf
  have gr := m_readyOf (d := d) hm0 hc0.1.1 hc0.1.2 true hc0.2.1.1 hc0.2.1.2 N hN N12
  rw [if_pos rfl] at gr
  have eR : RD g0 k true N = sF (rdM g0 k M) N := by
    unfold RD rdM
    rw [hM, Int.toNat_natCast]
  rw [eR] at gr
  refine ⟨h4, Eq.trans ?_ e7, e8⟩
  simp only [e273_0, e273_1, e273_2, e273_3, e273_6, e273_7, e273_8, e273_9, e273_10, e273_12, e273_13, e273_17, e273_18, e273_21, e273_22, e273_23, e273_26, e273_27, e273_29, e273_32, e273_35, e273_38, e273_39, e273_40, e273_42, e273_45, e273_47, e273_48, e273_51, e273_53, e273_56, e273_58, e273_61, e273_63, e273_65, e273_68, e273_69, e273_70, e273_72, e273_75, e273_76, e273_77, e273_78, e273_81, e273_84, e273_87, e273_89, e273_90, e273_92, e273_94, e273_97, e273_100, e273_101, psh0, psh1, psh3, true_or, or_true, eq_self, Option.bind_some, List.length_nil, List.length_cons, Nat.reduceAdd, Nat.reduceLeDiff, Nat.zero_le, ↓reduceIte, Int.reduceLT, Int.reduceEq, Int.reduceLE, Int.reduceNeg, Int.reduceAdd, Int.reduceMul, Int.reduceSub, ne_eq, not_true_eq_false, not_false_eq_true, and_true, true_and, and_false, false_and, c3lt, c3gt, c3eq, Bool.false_eq_true, isK_wr, inA_wr, inR_wr, hm0.1, gr]
  rfl
end
theorem ch_both {h : AM} {s k : Int} (ds : DS h s) (k0 : 0 ≤ k) (k1 : k < mrd h 240 2) (M : Nat) (hM : mrd h 240 (76 + k) = M) (N : Nat) (hN : mrd h 240 1 = N) : chF (rdX h s k) (swX h s k M) (dyX h s k) N = chF (rdM h k M) (swM h k M) (dyM h k) N := by
  obtain ⟨d5, d6, d7, d8, dl, dc⟩ := id ds
  obtain ⟨q1, q2, q3, q4, q5, q6, q7⟩ := dc k k0 k1
  obtain ⟨u1, u2, u3, u4⟩ := spell_hl ds k0 k1 M hM
  refine chF_congr N (fun i hi => ?_) (fun i hi => ?_) (fun i hi => ?_)
  · obtain ⟨p1, p2, p3, p4, p5, p6⟩ := dl i (by omega) (by omega)
    simp only [rdX, rdM, rdy, q7, q2.1, p4.1, p6.1, hM, Int.toNat_natCast]
  · obtain ⟨p1, p2, p3, p4, p5, p6⟩ := dl i (by omega) (by omega)
    unfold swX swM
    rw [d8.1, p1.1, kp_congr (g := fun p => LT h k p) M (fun _ _ => rfl) u4]
  · obtain ⟨p1, p2, p3, p4, p5, p6⟩ := dl i (by omega) (by omega)
    unfold dyX dyM
    rw [p3.1, q1.1]
theorem op_choice : Op_choice Inv := by
  intro d h a0 hI i0
  obtain ⟨s, e8, hs, k0, kM, cs, ds⟩ := ctx hI
  have ds' := ds
  have ks := cs.1
  have r1 := cs.2.2.1
  have r2 := cs.2.2.2.1
  have r3 := cs.2.2.2.2.1
  have kl := cs.2.2.2.2.2.2.2.2.2.2.2.1
  have kc := cs.2.2.2.2.2.2.2.2.2.2.2.2
  obtain ⟨d5, d6, d7, d8, dl, dc⟩ := ds
  have hm : ∀ v, CM (mwr (mwr (mwr h 0 11 v) 235 1 0) 235 0 0) := fun v => CM_q (CM_of hI)
  have hx := x_hasChild_q (d := d + 59) (k := a0) ks d7.1
  by_cases hc : 0 ≤ a0 ∧ a0 < mrd h 240 2
  · simp only [hc, and_self, if_true] at hx
    obtain ⟨t1, t2, t3, t4, t5, t6⟩ := kc a0 hc.1 (by omega)
    obtain ⟨q1, q2, q3, q4, q5, q6, q7⟩ := dc a0 hc.1 hc.2
    obtain ⟨M, hM⟩ : ∃ M : Nat, mrd h 240 (76 + a0) = M := ⟨(mrd h 240 (76 + a0)).toNat, by omega⟩
    obtain ⟨N, hN⟩ : ∃ N : Nat, mrd h 240 1 = N := ⟨(mrd h 240 1).toNat, by omega⟩
    obtain ⟨u1, u2, u3, u4⟩ := spell_hl ds' hc.1 hc.2 M hM
    have hR : RSch h.1 s 0 0 := by rw [← e8]; exact hI.2.1.2.2.2.2.2.2.2.2.1.1
    have hq := chF_rng (rdM h a0 M) (swM h a0 M) (dyM h a0) N
    have eb := ch_both ds' hc.1 hc.2 M hM N hN
    refine opSF hI (chF (rdM h a0 M) (swM h a0 M) (dyM h a0) N).1 (if (chF (rdM h a0 M) (swM h a0 M) (dyM h a0) N).1 = -1 then 8 else 0) ?_ ?_
    · obtain ⟨h', e1, e2⟩ := x_choose (d := d + 58) cs hc.1 (show a0 < 4 by omega) M u1 u3 N (by rw [d6.1, hN]) (by omega) (fun l hl => by obtain ⟨p1, p2, -⟩ := dl l (by omega) (by omega); rw [p2, p1.1]) (fun l hl => by have := (dl l (by omega) (by omega)).2.2.1; rw [this.1]; exact this.2) (by rw [q1.1]; exact q1.2) (fun l hl hb => by
        have := chi_lt (l := l) hR hc.1 (by have : h.1 s 7 = mrd h 240 2 := d7.1; omega) (by omega) (by omega) (by rw [Int.toNat_natCast]; exact hb)
        have e : h.1 (s + 25 + 2 * a0) 6 = (M : Int) := u1
        omega)
      rw [eb] at e1
      have hf := (SF.rf hI).vx hs e2
      have kk := hf.k0
      refine ⟨mwr h' 0 11 _, ?_, hf.wr Scr_st (by omega), rde⟩
      simp only [e128_0, e128_1, e128_4, e128_5, e128_8, e128_11, e128_12, e128_13, e128_16, e128_17, e128_18, e128_19, e128_22, e128_23, e128_26, e128_29, e128_30, e128_31, e128_34, e128_37, psh0, psh1, psh3, true_or, or_true, eq_self, Option.bind_some, List.length_nil, List.length_cons, Nat.reduceAdd, Nat.reduceLeDiff, Nat.zero_le, ↓reduceIte, Int.reduceLT, Int.reduceEq, Int.reduceLE, Int.reduceNeg, Int.reduceAdd, Int.reduceMul, Int.reduceSub, ne_eq, not_true_eq_false, not_false_eq_true, and_true, true_and, and_false, false_and, c3lt, c3gt, c3eq, Bool.false_eq_true, isK_wr, inA_wr, inR_wr, k0, e8, ks, r2, hx, t1, t2, e1, kk, x_answerIfThere]
    · intro h1 hf1
      have cm1 := hf1.cm hI
      have hfq : SF h (mwr (mwr h1 235 1 0) 235 0 0) := hf1.q
      have hl := m_isChildAt_s (d := d + 58) (k := a0) hI hfq
      rw [if_pos hc] at hl
      have cmq := hfq.cm hI
      obtain ⟨h2, e1, e2⟩ := m_choiceOf (d := d + 55) cmq (MC_congr hfq.c (MC_of ds' hc.1 hc.2)) M (by rw [hfq.c]; exact hM) N (by rw [hfq.c]; exact hN) (by omega) (fun l hl => by rw [hfq.c]; exact (dl l (by omega) (by omega)).2.2.1.2) (by rw [hfq.c]; exact q1.2)
      have ec : chF (rdM (mwr (mwr h1 235 1 0) 235 0 0) a0 M) (swM (mwr (mwr h1 235 1 0) 235 0 0) a0 M) (dyM (mwr (mwr h1 235 1 0) 235 0 0) a0) N = chF (rdM h a0 M) (swM h a0 M) (dyM h a0) N := by
        refine chF_congr N (fun i hi => ?_) (fun i hi => ?_) (fun i hi => ?_)
        · unfold rdM
          simp only [hfq.c]
        · unfold swM
          rw [hfq.c, hfq.c, kp_congr (g := fun p => LT h a0 p) M (fun _ _ => rfl) (fun p _ => LT_congr hfq.c)]
        · unfold dyM
          rw [hfq.c, hfq.c]
      rw [ec] at e1
      have hf2 := hfq.vm e2
      have cm2 := hf2.cm hI
      have z0 : mrd h2 235 0 = 0 := by rw [e2.2 _ _ (by decide) (by omega)]; exact q00.1
      have z11 : mrd h2 0 11 = mrd h1 0 11 := by rw [e2.2 _ _ (by decide) (by omega)]; exact q00.2
      generalize (chF (rdM h a0 M) (swM h a0 M) (dyM h a0) N).1 = R at e1 hq
      by_cases cr : R < 0
      · have er : R = -1 := by omega
        subst er
        refine ⟨mwr h2 235 0 8, ?_, hf2.wr Scr_m0 (by omega), rde, by rw [rdn1 (by decide)]; exact z11⟩
        simp only [e274_0, e274_1, e274_2, e274_5, e274_6, e274_7, e274_10, e274_11, e274_12, e274_15, e274_18, e274_19, e274_20, e274_23, e274_24, e274_25, e274_26, e274_29, e274_30, e274_31, e274_34, e274_35, e274_37, e274_40, e274_43, e274_44, psh0, psh1, psh3, true_or, or_true, eq_self, Option.bind_some, List.length_nil, List.length_cons, Nat.reduceAdd, Nat.reduceLeDiff, Nat.zero_le, ↓reduceIte, Int.reduceLT, Int.reduceEq, Int.reduceLE, Int.reduceNeg, Int.reduceAdd, Int.reduceMul, Int.reduceSub, ne_eq, not_true_eq_false, not_false_eq_true, and_true, true_and, and_false, false_and, c3lt, c3gt, c3eq, Bool.false_eq_true, isK_wr, inA_wr, inR_wr, cm1.1, hl, e1, cm2.1, m_refuse]
      · refine ⟨h2, ?_, hf2, by rw [if_neg (by omega)]; exact z0, z11⟩
        simp only [e274_0, e274_1, e274_2, e274_5, e274_6, e274_7, e274_10, e274_11, e274_12, e274_15, e274_18, e274_19, e274_20, e274_23, e274_24, e274_25, e274_26, e274_29, e274_30, e274_31, e274_34, e274_35, e274_37, e274_40, e274_43, e274_44, psh0, psh1, psh3, true_or, or_true, eq_self, Option.bind_some, List.length_nil, List.length_cons, Nat.reduceAdd, Nat.reduceLeDiff, Nat.zero_le, ↓reduceIte, Int.reduceLT, Int.reduceEq, Int.reduceLE, Int.reduceNeg, Int.reduceAdd, Int.reduceMul, Int.reduceSub, ne_eq, not_true_eq_false, not_false_eq_true, and_true, true_and, and_false, false_and, c3lt, c3gt, c3eq, Bool.false_eq_true, isK_wr, inA_wr, inR_wr, cm1.1, hl, e1, cr]
  · have hl := fun v => m_isChildAt_q (d := d + 58) (k := a0) hI v
    simp only [hc, if_false] at hl hx
    refine opq hI (-1) 2 ?_ ?_
    · simp only [e128_0, e128_1, e128_4, e128_5, e128_8, e128_11, e128_12, e128_13, e128_16, e128_17, e128_18, e128_19, e128_22, e128_23, e128_26, e128_29, e128_30, e128_31, e128_34, e128_37, psh0, psh1, psh3, true_or, or_true, eq_self, Option.bind_some, List.length_nil, List.length_cons, Nat.reduceAdd, Nat.reduceLeDiff, Nat.zero_le, ↓reduceIte, Int.reduceLT, Int.reduceEq, Int.reduceLE, Int.reduceNeg, Int.reduceAdd, Int.reduceMul, Int.reduceSub, ne_eq, not_true_eq_false, not_false_eq_true, and_true, true_and, and_false, false_and, c3lt, c3gt, c3eq, Bool.false_eq_true, isK_wr, inA_wr, inR_wr, k0, e8, ks, x_refuse, hx]
    · simp only [e274_0, e274_1, e274_2, e274_5, e274_6, e274_7, e274_10, e274_11, e274_12, e274_15, e274_18, e274_19, e274_20, e274_23, e274_24, e274_25, e274_26, e274_29, e274_30, e274_31, e274_34, e274_35, e274_37, e274_40, e274_43, e274_44, psh0, psh1, psh3, true_or, or_true, eq_self, Option.bind_some, List.length_nil, List.length_cons, Nat.reduceAdd, Nat.reduceLeDiff, Nat.zero_le, ↓reduceIte, Int.reduceLT, Int.reduceEq, Int.reduceLE, Int.reduceNeg, Int.reduceAdd, Int.reduceMul, Int.reduceSub, ne_eq, not_true_eq_false, not_false_eq_true, and_true, true_and, and_false, false_and, c3lt, c3gt, c3eq, Bool.false_eq_true, isK_wr, inA_wr, inR_wr, kM, hl, m_refuse, wrwr]
