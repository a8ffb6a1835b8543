/-! names told: both readers -/
def FnM (a : AM) (s v : Int) : Int := fd (mrd a (s + 1)) v 0 (mrd a s 5).toNat
def FnL (a : AM) (s v : Int) : Int := fd (fun l => mrd a (s + 13 + l) 0) v 0 (mrd a s 6).toNat
def FnC (a : AM) (s v : Int) : Int := fd (fun l => mrd a (s + 25 + 2 * l) 1) v 0 (mrd a s 7).toNat
section
variable {d d' N : Nat} {a a' b b' : AM} {s v B : Int}
theorem FnM_r (h0 : 0 ≤ mrd a s 5) : -1 ≤ FnM a s v ∧ FnM a s v < mrd a s 5 := by
  have := fd_rng (f := mrd a (s + 1)) (v := v) (mrd a s 5).toNat 0
  unfold FnM; omega
theorem FnL_r (h0 : 0 ≤ mrd a s 6) : -1 ≤ FnL a s v ∧ FnL a s v < mrd a s 6 := by
  have := fd_rng (f := fun l => mrd a (s + 13 + l) 0) (v := v) (mrd a s 6).toNat 0
  unfold FnL; omega
theorem FnC_r (h0 : 0 ≤ mrd a s 7) : -1 ≤ FnC a s v ∧ FnC a s v < mrd a s 7 := by
  have := fd_rng (f := fun l => mrd a (s + 25 + 2 * l) 1) (v := v) (mrd a s 7).toNat 0
  unfold FnC; omega
theorem x_FnM (cs : CS a s) (h0 : 0 ≤ mrd a s 5) (h1 : mrd a s 5 ≤ 4) : EV d 60 0 [(2, s), (1, v), (3, 1), (3, 0)] [] a = some ((0, FnM a s v), a) := x_fM cs (by omega) (by omega)
theorem x_FnL (cs : CS a s) (h0 : 0 ≤ mrd a s 6) (h1 : mrd a s 6 ≤ 12) : EV d 61 0 [(2, s), (1, v), (3, 1), (3, 0)] [] a = some ((0, FnL a s v), a) := x_fL cs (by omega) (by omega)
theorem x_FnC (cs : CS a s) (h0 : 0 ≤ mrd a s 7) (h1 : mrd a s 7 ≤ 4) : EV d 62 0 [(2, s), (1, v), (3, 1), (3, 0)] [] a = some ((0, FnC a s v), a) := x_fC cs (by omega) (by omega)
theorem m_FnM (hm : CM b) (B0 : 0 ≤ B) (B4 : B ≤ 4) (h0 : 0 ≤ mrd a s 5) (h1 : mrd a s 5 ≤ 4) (e : mrd a s 5 = mrd b 240 (410 * B)) (hn : ∀ j, 0 ≤ j → j < mrd a s 5 → mrd a (s + 1) j = mrd b 242 (20 * B + 0 + j)) : EV (d + 1) 223 0 [(2, 235), (0, B)] [] b = some ((0, FnM a s (mrd b 235 19)), b) := by
  rw [m_mN hm B0 B4 (n := (mrd a s 5).toNat) (by omega) (by omega)]
  unfold FnM
  rw [fd_congr _ 0 (fun j _ hj => (hn j (by omega) (by omega)).symm)]
theorem m_FnL (hm : CM b) (B0 : 0 ≤ B) (B4 : B ≤ 4) (h0 : 0 ≤ mrd a s 6) (h1 : mrd a s 6 ≤ 12) (e : mrd a s 6 = mrd b 240 (410 * B + 1)) (hn : ∀ j, 0 ≤ j → j < mrd a s 6 → mrd a (s + 13 + j) 0 = mrd b 242 (20 * B + 4 + j)) : EV (d + 1) 224 0 [(2, 235), (0, B)] [] b = some ((0, FnL a s (mrd b 235 19)), b) := by
  rw [m_lN hm B0 B4 (n := (mrd a s 6).toNat) (by omega) (by omega)]
  unfold FnL
  rw [fd_congr (f := fun k => mrd b 242 (20 * B + 4 + k)) (g := fun l => mrd a (s + 13 + l) 0) _ 0 (fun j _ hj => (hn j (by omega) (by omega)).symm)]
theorem m_FnC (hm : CM b) (B0 : 0 ≤ B) (B4 : B ≤ 4) (h0 : 0 ≤ mrd a s 7) (h1 : mrd a s 7 ≤ 4) (e : mrd a s 7 = mrd b 240 (410 * B + 2)) (hn : ∀ j, 0 ≤ j → j < mrd a s 7 → mrd a (s + 25 + 2 * j) 1 = mrd b 242 (20 * B + 16 + j)) : EV (d + 1) 225 0 [(2, 235), (0, B)] [] b = some ((0, FnC a s (mrd b 235 19)), b) := by
  rw [m_cN hm B0 B4 (n := (mrd a s 7).toNat) (by omega) (by omega)]
  unfold FnC
  rw [fd_congr (f := fun k => mrd b 242 (20 * B + 16 + k)) (g := fun l => mrd a (s + 25 + 2 * l) 1) _ 0 (fun j _ hj => (hn j (by omega) (by omega)).symm)]
/-- told, run -/
theorem m_told0 {z : Int} (kM : isK b 235 11) (h : 0 < mrd b 235 12) : EV d 227 0 [(2, 235), (0, B), (0, z), (3, 0)] [] b = some ((0, 0), b) := by
  have h0 : ¬ mrd b 235 12 = 0 := by omega
  simp only [e227_0, e227_1, e227_4, e227_7, e227_8, e227_11, e227_14, e227_15, e227_18, e227_19, e227_22, e227_25, e227_26, e227_27, e227_28, e227_31, e227_32, e227_33, e227_36, e227_39, e227_40, e227_41, e227_44, e227_45, e227_46, e227_49, e227_52, e227_53, e227_54, e227_57, e227_58, e227_59, e227_62, e227_63, e227_64, e227_65, e227_68, e227_71, e227_72, e227_73, e227_76, psh0, psh1, psh3, true_or, or_true, eq_self, Option.bind_some, List.length_nil, List.length_cons, Nat.reduceAdd, Nat.reduceLeDiff, Nat.zero_le, ↓reduceIte, Int.reduceLT, Int.reduceEq, Int.reduceLE, Int.reduceNeg, Int.reduceAdd, Int.reduceMul, Int.reduceSub, ne_eq, not_true_eq_false, not_false_eq_true, and_true, true_and, and_false, false_and, c3lt, c3gt, c3eq, Bool.false_eq_true, isK_wr, inA_wr, inR_wr, kM, h, h0]
theorem m_toldW {z : Int} (kM : isK b 235 11) (h : mrd b 235 12 = 0) (n0 : nq b = 0) (g : EV (d + 3) 214 0 [(2, 235)] [] b = some ((3, 0), b')) (k' : isK b' 235 11) (h' : 0 < mrd b' 235 12) : EV (d + 4) 227 0 [(2, 235), (0, B), (0, z), (3, 0)] [] b = some ((0, 0), b') := by
  have gn := m_isName (d := d) kM
  rw [show (if mrd b 235 14 = 1 ∧ mrd b 235 18 ≤ 8 ∧ wx b = -1 then 1 else 0 : Int) = 0 from n0] at gn
  simp only [e227_0, e227_1, e227_4, e227_7, e227_8, e227_11, e227_14, e227_15, e227_18, e227_19, e227_22, e227_25, e227_26, e227_27, e227_28, e227_31, e227_32, e227_33, e227_36, e227_39, e227_40, e227_41, e227_44, e227_45, e227_46, e227_49, e227_52, e227_53, e227_54, e227_57, e227_58, e227_59, e227_62, e227_63, e227_64, e227_65, e227_68, e227_71, e227_72, e227_73, e227_76, psh0, psh1, psh3, true_or, or_true, eq_self, Option.bind_some, List.length_nil, List.length_cons, Nat.reduceAdd, Nat.reduceLeDiff, Nat.zero_le, ↓reduceIte, Int.reduceLT, Int.reduceEq, Int.reduceLE, Int.reduceNeg, Int.reduceAdd, Int.reduceMul, Int.reduceSub, ne_eq, not_true_eq_false, not_false_eq_true, and_true, true_and, and_false, false_and, c3lt, c3gt, c3eq, Bool.false_eq_true, isK_wr, inA_wr, inR_wr, kM, h, gn, g, k', h']
theorem m_toldT {z k : Int} (kM : isK b 235 11) (h : mrd b 235 12 = 0) (n1 : nq b = 1) (hz : (z = 0 ∧ EV (d + 3) 223 0 [(2, 235), (0, B)] [] b = some ((0, k), b)) ∨ (z = 1 ∧ EV (d + 3) 224 0 [(2, 235), (0, B)] [] b = some ((0, k), b)) ∨ (z = 2 ∧ EV (d + 3) 225 0 [(2, 235), (0, B)] [] b = some ((0, k), b))) : EV (d + 4) 227 0 [(2, 235), (0, B), (0, z), (3, 0)] [] b = some ((0, if 0 < k then k else 0), if k < 0 then flm b 3 (mrd b 235 15) else b) := by
  have gn := m_isName (d := d) kM
  rw [show (if mrd b 235 14 = 1 ∧ mrd b 235 18 ≤ 8 ∧ wx b = -1 then 1 else 0 : Int) = 1 from n1] at gn
  have gf := m_fail (d := d + 3) (w := 3) (p := mrd b 235 15) kM
  have emax : (if 0 < k then k else 0 : Int) = if 0 < k then k else 0 := rfl
  by_cases ck : k < 0
  · rw [if_pos ck]
    have c0 : ¬ 0 < k := by omega
    rw [if_neg c0]
    rcases hz with ⟨rfl, g⟩ | ⟨rfl, g⟩ | ⟨rfl, g⟩
    all_goals simp only [e227_0, e227_1, e227_4, e227_7, e227_8, e227_11, e227_14, e227_15, e227_18, e227_19, e227_22, e227_25, e227_26, e227_27, e227_28, e227_31, e227_32, e227_33, e227_36, e227_39, e227_40, e227_41, e227_44, e227_45, e227_46, e227_49, e227_52, e227_53, e227_54, e227_57, e227_58, e227_59, e227_62, e227_63, e227_64, e227_65, e227_68, e227_71, e227_72, e227_73, e227_76, psh0, psh1, psh3, true_or, or_true, eq_self, Option.bind_some, List.length_nil, List.length_cons, Nat.reduceAdd, Nat.reduceLeDiff, Nat.zero_le, ↓reduceIte, Int.reduceLT, Int.reduceEq, Int.reduceLE, Int.reduceNeg, Int.reduceAdd, Int.reduceMul, Int.reduceSub, ne_eq, not_true_eq_false, not_false_eq_true, and_true, true_and, and_false, false_and, c3lt, c3gt, c3eq, Bool.false_eq_true, isK_wr, inA_wr, inR_wr, kM, h, gn, g, ck, gf, c0]
  · rw [if_neg ck]
    by_cases c0 : 0 < k
    · rw [if_pos c0]
      rcases hz with ⟨rfl, g⟩ | ⟨rfl, g⟩ | ⟨rfl, g⟩
      all_goals simp only [e227_0, e227_1, e227_4, e227_7, e227_8, e227_11, e227_14, e227_15, e227_18, e227_19, e227_22, e227_25, e227_26, e227_27, e227_28, e227_31, e227_32, e227_33, e227_36, e227_39, e227_40, e227_41, e227_44, e227_45, e227_46, e227_49, e227_52, e227_53, e227_54, e227_57, e227_58, e227_59, e227_62, e227_63, e227_64, e227_65, e227_68, e227_71, e227_72, e227_73, e227_76, psh0, psh1, psh3, true_or, or_true, eq_self, Option.bind_some, List.length_nil, List.length_cons, Nat.reduceAdd, Nat.reduceLeDiff, Nat.zero_le, ↓reduceIte, Int.reduceLT, Int.reduceEq, Int.reduceLE, Int.reduceNeg, Int.reduceAdd, Int.reduceMul, Int.reduceSub, ne_eq, not_true_eq_false, not_false_eq_true, and_true, true_and, and_false, false_and, c3lt, c3gt, c3eq, Bool.false_eq_true, isK_wr, inA_wr, inR_wr, kM, h, gn, g, ck, gf, c0]
    · have k0 : k = 0 := by omega
      subst k0
      rw [if_neg c0]
      rcases hz with ⟨rfl, g⟩ | ⟨rfl, g⟩ | ⟨rfl, g⟩
      all_goals simp only [e227_0, e227_1, e227_4, e227_7, e227_8, e227_11, e227_14, e227_15, e227_18, e227_19, e227_22, e227_25, e227_26, e227_27, e227_28, e227_31, e227_32, e227_33, e227_36, e227_39, e227_40, e227_41, e227_44, e227_45, e227_46, e227_49, e227_52, e227_53, e227_54, e227_57, e227_58, e227_59, e227_62, e227_63, e227_64, e227_65, e227_68, e227_71, e227_72, e227_73, e227_76, psh0, psh1, psh3, true_or, or_true, eq_self, Option.bind_some, List.length_nil, List.length_cons, Nat.reduceAdd, Nat.reduceLeDiff, Nat.zero_le, ↓reduceIte, Int.reduceLT, Int.reduceEq, Int.reduceLE, Int.reduceNeg, Int.reduceAdd, Int.reduceMul, Int.reduceSub, ne_eq, not_true_eq_false, not_false_eq_true, and_true, true_and, and_false, false_and, c3lt, c3gt, c3eq, Bool.false_eq_true, isK_wr, inA_wr, inR_wr, kM, h, gn, g]
theorem m_rTold {z u : Int} {b1 : AM} (kM : isK b 235 11) (g : EV d 227 0 [(2, 235), (0, B), (0, z), (3, 0)] [] b = some ((0, u), b1)) (k1 : isK b1 235 11) (g2 : EV d 215 0 [(2, 235), (0, 1)] [] b1 = some ((3, 0), b')) : EV (d + 1) 228 0 [(2, 235), (0, B), (0, z), (3, 0)] [] b = some ((0, u), b') := by
  simp only [e228_0, e228_1, e228_2, e228_3, e228_6, e228_7, e228_8, e228_9, e228_12, e228_13, psh0, psh1, psh3, true_or, or_true, eq_self, Option.bind_some, List.length_nil, List.length_cons, Nat.reduceAdd, Nat.reduceLeDiff, Nat.zero_le, ↓reduceIte, Int.reduceLT, Int.reduceEq, Int.reduceLE, Int.reduceNeg, Int.reduceAdd, Int.reduceMul, Int.reduceSub, ne_eq, not_true_eq_false, not_false_eq_true, and_true, true_and, and_false, false_and, c3lt, c3gt, c3eq, Bool.false_eq_true, isK_wr, inA_wr, inR_wr, kM, g, k1, g2]
/-- seeName, a find, passFound; and readTold -/
theorem rt_both {z : Int} {F : Int → Int} (q : QQ N a b) (hF : ∀ v, -1 ≤ F v) (hz : (z = 0 ∧ EV (d' + 3) 223 0 [(2, 235), (0, B)] [] b = some ((0, F (mrd b 235 19)), b)) ∨ (z = 1 ∧ EV (d' + 3) 224 0 [(2, 235), (0, B)] [] b = some ((0, F (mrd b 235 19)), b)) ∨ (z = 2 ∧ EV (d' + 3) 225 0 [(2, 235), (0, B)] [] b = some ((0, F (mrd b 235 19)), b))) : ∃ v a1 u a' u' b', EV (d + 2) 48 0 [(2, 110)] [] a = some ((1, v), a1) ∧ AX a a1 ∧ EV (d + 2) 49 0 [(2, 110), (0, F v)] [] a1 = some ((0, u), a') ∧ EV (d' + 5) 228 0 [(2, 235), (0, B), (0, z), (3, 0)] [] b = some ((0, u'), b') ∧ Stp2 N a b a' b' ∧ (0 ≤ u ∧ (u = F v ∨ u = 0)) ∧ (u' = 0 ∨ u' = F (mrd b 235 19)) ∧ (mrd a' 110 9 = 0 → u' = u ∧ u = F (mrd b 235 19)) := by
  have e12 := q.e12
  have ge := q.ge
  obtain ⟨v, a1, b1, s1, s2, s3, s4, s5, s6, s7⟩ := sn_both (d := d) (d' := d' + 2) q
  by_cases c : mrd a 110 9 = 0
  · by_cases cn : nq b = 1
    · obtain ⟨rfl, rfl, ev, v0, h14⟩ := s6 c cn
      obtain ⟨u, a', b', p1, p2, p3, p4, p5⟩ := pf_both (d := d) (d' := d' + 2) (k := F v) q (hF v) (fun _ => h14)
      have g := m_toldT (d := d') (B := B) (z := z) q.km (by omega) cn hz
      rw [← ev] at g hz
      have k1 : isK (if F v < 0 then flm b1 3 (mrd b1 235 15) else b1) 235 11 := by
        split
        · exact (blm_both q (w := 3) (by decide)).1.km
        · exact q.km
      refine ⟨v, a1, u, a', _, b', s1, s2, p1, m_rTold q.km g k1 p2, p3, p4, ?_, fun z => ?_⟩
      · rw [← ev]
        split
        · exact Or.inr rfl
        · exact Or.inl rfl
      · have := p5 z
        rw [← ev]
        split
        · exact ⟨this.1.symm, this.1⟩
        · exact ⟨by omega, this.1⟩
    · obtain ⟨n0, gw, w1, v0⟩ := s7 c cn
      have r5 := s4.e12
      have r6 := s4.ge
      have g := m_toldW (d := d') (B := B) (z := z) q.km (by omega) n0 gw s4.km (by omega)
      obtain ⟨u, a', b', p1, p2, p3, p4, p5⟩ := pf_both (d := d) (d' := d' + 2) (k := F v) s4 (hF v) (fun z => absurd z w1)
      obtain ⟨f1, f2, f3, f4, f5⟩ := p3
      obtain ⟨rfl, rfl⟩ := f5 w1
      exact ⟨v, a', u, a', 0, b', s1, s2, p1, m_rTold q.km g s4.km (m_must0 s4.km (by omega)), ⟨s2, s3, s4, fun z => absurd z w1, fun z => absurd c z⟩, p4, Or.inl rfl, fun z => absurd z w1⟩
  · obtain ⟨rfl, rfl, ev⟩ := s5 c
    obtain ⟨u, a', b', p1, p2, p3, p4, p5⟩ := pf_both (d := d) (d' := d' + 2) (k := F v) q (hF v) (fun z => absurd z c)
    obtain ⟨f1, f2, f3, f4, f5⟩ := p3
    obtain ⟨rfl, rfl⟩ := f5 c
    exact ⟨v, a', u, a', 0, b', s1, s2, p1, m_rTold q.km (m_told0 q.km (by omega)) q.km (m_must0 q.km (by omega)), ⟨s2, s3, s4, fun z => absurd z c, fun _ => ⟨rfl, rfl⟩⟩, p4, Or.inl rfl, fun z => absurd z c⟩
end
