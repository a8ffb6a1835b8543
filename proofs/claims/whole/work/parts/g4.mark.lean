/-! mark -/
theorem cp_pre {m : Int → Int → Int} {s B w : Int} (h : RSch m s B w) : (0 ≤ m s 6 ∧ m s 6 ≤ 12) ∧ (0 ≤ m s 7 ∧ m s 7 ≤ 4) ∧ ∀ l, 0 ≤ l → l < m s 6 → m (s + 13 + l) 2 = 0 ∨ m (s + 13 + l) 2 = 1 := by
  obtain ⟨h1, h2, h3, h4, h5, h6⟩ := h
  refine ⟨h2.2, h3.2, fun l l0 l1 => ?_⟩
  have := (h5 l l0 l1).2.2.1
  rw [this]
  unfold vow
  split
  · right; rfl
  · left; rfl
theorem AS_all : ∀ s ∈ S6, ∀ a ∈ A7, AS s a := by unfold AS; decide +kernel
theorem cur_a {h : AM} (hI : Inv h) {s : Int} (e8 : mrd h 0 8 = s) : mrd h s 4 ∈ A7 ∧ (mrd h s 4 = 168 ∨ mrd h s 4 = 201 ∨ mrd h s 4 = 228) ∧ RSch (mrd h) s 0 0 ∧ RAge (mrd h) (mrd h s 4) 0 (mrd h s 7) (mrd h s 6) := by
  obtain ⟨R1, R2, R3, R4, R5, R6, R7, R8, ⟨R9, R10⟩, R11⟩ := hI.2.1
  rw [show h.1 0 8 = s from e8] at R9 R10
  have : mrd h s 4 = 168 ∨ mrd h s 4 = 201 ∨ mrd h s 4 = 228 := by
    obtain ⟨z1, z2, z3, -⟩ := R8
    rw [show h.1 0 8 = s from e8] at z1
    rcases z1 with z | z
    · rw [z.1]; exact z2
    · rw [z.1]; exact z3
  refine ⟨?_, this, R9, R10⟩
  rcases this with e | e | e <;> rw [e] <;> decide
theorem kept_a {m : Int → Int → Int} (hr : RRef m) {i : Int} (i0 : 0 ≤ i) (i1 : i < 3) : 11 + 33 * i ∈ S6 ∧ 17 + 33 * i ∈ A7 ∧ m (11 + 33 * i) 4 = 17 + 33 * i ∧ m 10 i = 11 + 33 * i := by
  rcases (show i = 0 ∨ i = 1 ∨ i = 2 by omega) with rfl | rfl | rfl
  · exact ⟨by decide, by decide, hr (11, 4, 17) (by decide +kernel), hr (10, 0, 11) (by decide +kernel)⟩
  · exact ⟨by decide, by decide, hr (44, 4, 50) (by decide +kernel), hr (10, 1, 44) (by decide +kernel)⟩
  · exact ⟨by decide, by decide, hr (77, 4, 83) (by decide +kernel), hr (10, 2, 77) (by decide +kernel)⟩
def mkO : List Int := (List.range 99).map (fun n : Nat => (n : Int) + 11) ++ [240, 242]
def mkC : List (Int × Int) := [(0, 16), (235, 23)]
theorem mkO_in {b : Int} (h0 : 11 ≤ b) (h1 : b ≤ 109) : b ∈ mkO := by
  unfold mkO
  refine List.mem_append_left _ (List.mem_map.mpr ⟨(b - 11).toNat, List.mem_range.mpr (by omega), by omega⟩)
theorem Rel_mark {m m' : Int → Int → Int} (hf : FrE mkO mkC 0 0 m m') (h : Rel m) (h1 : RRef m') (hc : RCur m') (hm : RMrk m') (hk : RKid m') : Rel m' := by
  obtain ⟨-, h2, h3, h4, h5, h6, h7, h8, h9, h10⟩ := h
  exact Rel_mk h1 (RNum_E hf (by decide +kernel) h2) (RTrys_E hf (by decide +kernel) h3) (RTap_E hf (by decide +kernel) h4) (RPln_E hf (by decide +kernel) h5) (RLiv_E hf (by decide +kernel) h6) (RFst_E hf (by decide +kernel) h7) (RPtr_Ek hf (by decide +kernel) hk h8) hc hm
theorem rn_23 : refT.all (fun q => !(q.1 == 235 && q.2.1 == 23)) = true := by decide +kernel
theorem rn_016 : refT.all (fun q => !(q.1 == 0 && q.2.1 == 16)) = true := by decide +kernel
set_option maxHeartbeats 2000000 in
theorem op_mark : Op_mark Inv := by
  intro d h hI
  obtain ⟨s, e8, hs, k0, kM, cs, ds⟩ := ctx hI
  have ds' := ds
  have ks := cs.1
  have r1 := cs.2.2.1
  have r2 := cs.2.2.2.1
  have r3 := cs.2.2.2.2.1
  have kl := cs.2.2.2.2.2.2.2.2.2.2.2.1
  have kc := cs.2.2.2.2.2.2.2.2.2.2.2.2
  obtain ⟨d5, d6, d7, d8, dl, dc⟩ := ds
  have hm : ∀ v, CM (mwr (mwr (mwr h 0 11 v) 235 1 0) 235 0 0) := fun v => CM_q (CM_of hI)
  obtain ⟨ca, ca2, R9, R10⟩ := cur_a hI e8
  have hR1 := hI.2.1.1
  obtain ⟨⟨M1, M2, M3⟩, M4⟩ := hI.2.1.2.2.2.2.2.2.2.2.2
  have M1 : mrd h 0 16 = mrd h 235 23 := M1
  have M2 : 0 ≤ mrd h 0 16 := M2
  have M3 : mrd h 0 16 ≤ 3 := M3
  by_cases c : mrd h 0 16 = 3
  · refine opq hI (-1) 7 ?_ ?_
    · simp only [e156_0, e156_1, e156_4, e156_5, e156_8, e156_9, e156_11, e156_14, e156_15, e156_16, e156_19, e156_20, e156_23, e156_24, e156_25, e156_28, e156_31, e156_32, e156_32i, e156_33, e156_36, e156_37, e156_38, e156_41, e156_42, e156_43, e156_46, e156_49, psh0, psh1, psh3, true_or, or_true, eq_self, Option.bind_some, List.length_nil, List.length_cons, Nat.reduceAdd, Nat.reduceLeDiff, Nat.zero_le, ↓reduceIte, Int.reduceLT, Int.reduceEq, Int.reduceLE, Int.reduceNeg, Int.reduceAdd, Int.reduceMul, Int.reduceSub, ne_eq, not_true_eq_false, not_false_eq_true, and_true, true_and, and_false, false_and, c3lt, c3gt, c3eq, Bool.false_eq_true, isK_wr, inA_wr, inR_wr, k0, c, x_refuse]
    · simp only [e325_0, e325_1, e325_2, e325_5, e325_6, e325_7, e325_10, e325_11, e325_14, e325_15, e325_18, e325_19, e325_21, e325_24, e325_25, e325_26, e325_26i, e325_27, e325_30, e325_31, e325_32, e325_35, e325_36, e325_37, e325_38, e325_41, e325_44, e325_45, e325_48, psh0, psh1, psh3, true_or, or_true, eq_self, Option.bind_some, List.length_nil, List.length_cons, Nat.reduceAdd, Nat.reduceLeDiff, Nat.zero_le, ↓reduceIte, Int.reduceLT, Int.reduceEq, Int.reduceLE, Int.reduceNeg, Int.reduceAdd, Int.reduceMul, Int.reduceSub, ne_eq, not_true_eq_false, not_false_eq_true, and_true, true_and, and_false, false_and, c3lt, c3gt, c3eq, Bool.false_eq_true, isK_wr, inA_wr, inR_wr, kM, rdq5, ← M1, c, m_refuse, wrwr]
  obtain ⟨i, hi⟩ : ∃ i, mrd h 0 16 = i := ⟨_, rfl⟩
  rw [hi] at M1 M2 M3 c
  have ci : i < 3 := by omega
  have cn : ¬ (3 ≤ i) := by omega
  obtain ⟨s2, a2, ea2, ek⟩ := kept_a (m := mrd h) hR1 M2 ci
  obtain ⟨b6, b7, hv⟩ := cp_pre R9
  have s6 := S6_cur hs
  obtain ⟨g, G1, ⟨F1, F2⟩, G2, G3, G4, G5, G6⟩ := x_copyFrom (d := d + 57) hI.1 hR1 s6 s2 rfl ea2 ca a2 (by omega) (by omega) (AS_all _ s6 _ a2) (AS_all _ s2 _ a2) (AS_all _ s6 _ ca) (AS_all _ s2 _ ca) b6 b7 hv R10.1
  have cmg : CM g := ⟨(isK_eq F1).mpr kM, Shp_eq F1 hI.1, RRef_WC s2 a2 F2 hR1⟩
  have kg0 : isK g 0 10 := (isK_eq F1).mpr k0
  have fF : ∀ b q, b < 11 ∨ 109 < b → mrd g b q = mrd h b q := fun b q hb => F2 b q (by unfold WC; omega)
  have w1 : w32 (i + 1) = i + 1 := w32_id (by omega) (by omega)
  have jR : inR h 10 i := by
    refine ⟨⟨(kn_10 hI.1).1, (kn_10 hI.1).2.1, by rw [(kn_10 hI.1).2.2]; decide, by rw [(kn_10 hI.1).2.2]; decide⟩, M2, by rw [ln_10 hI.1]; exact ci⟩
  have x2 : mrd h 0 2 = 10 := rf_0_2 hR1
  have k2s : isK h (11 + 33 * i) 6 := (CS_of hI.1 hR1 s2).1
  have f016 : mrd g 0 16 = i := by rw [fF _ _ (by omega)]; exact hi
  have f23 : mrd g 235 23 = i := by rw [fF _ _ (by omega)]; exact M1.symm
  obtain ⟨g', hg'⟩ : ∃ g', g' = mwr (mwr (mwr (mwr (mwr g 0 16 (i + 1)) 0 11 0) 235 1 0) 235 0 0) 235 23 (i + 1) := ⟨_, rfl⟩
  have cmg' : CM g' := by
    rw [hg']
    exact CM_wr rn_23 (CM_q (CM_wr rn_016 cmg))
  have gc := m_copy (d := d + 59) (x := 0) (y := i + 1) cmg' (by omega) (by omega) (by omega) (by omega) (by omega)
  have e23 : mrd (mcy g' 0 (i + 1)) 235 23 = i + 1 := by
    rw [rd_cy, if_neg (by omega), if_neg (by omega), hg', rde]
  have kgm : isK (mcy g' 0 (i + 1)) 235 11 := cmg'.1
  have r23 : mrd g' 235 23 = i + 1 := by rw [hg', rde]
  have kg' : isK g' 235 11 := cmg'.1
  refine ⟨i + 1, mwr (mwr g 0 16 (i + 1)) 0 11 0, mcy g' 0 (i + 1), ?_, ?_, ?_⟩
  · simp only [e156_0, e156_1, e156_4, e156_5, e156_8, e156_9, e156_11, e156_14, e156_15, e156_16, e156_19, e156_20, e156_23, e156_24, e156_25, e156_28, e156_31, e156_32, e156_32i, e156_33, e156_36, e156_37, e156_38, e156_41, e156_42, e156_43, e156_46, e156_49, psh0, psh1, psh3, true_or, or_true, eq_self, Option.bind_some, List.length_nil, List.length_cons, Nat.reduceAdd, Nat.reduceLeDiff, Nat.zero_le, ↓reduceIte, Int.reduceLT, Int.reduceEq, Int.reduceLE, Int.reduceNeg, Int.reduceAdd, Int.reduceMul, Int.reduceSub, ne_eq, not_true_eq_false, not_false_eq_true, and_true, true_and, and_false, false_and, c3lt, c3gt, c3eq, Bool.false_eq_true, isK_wr, inA_wr, inR_wr, k0, kg0, hi, ci, x2, jR, ek, k2s, e8, G1, f016, w1, rde, x_answer]
  · have q23 : mrd (mwr (mwr (mwr (mwr g 0 16 (i + 1)) 0 11 0) 235 1 0) 235 0 0) 235 23 = i := by
      rw [rdq5 (by decide) (by decide), rdn1 (by decide)]; exact f23
    have e36 : EV (d + 60) 325 0 [(2, 235)] [] (mwr (mwr g 0 16 (i + 1)) 0 11 0) = EV (d + 60) 325 35 [(2, 235)] [] g' := by
      rw [hg']
      simp only [e325_0, e325_1, e325_2, e325_5, e325_6, e325_7, e325_10, e325_11, e325_14, e325_15, e325_18, e325_19, e325_21, e325_24, e325_25, e325_26, e325_26i, e325_27, e325_30, e325_31, e325_32, e325_36, e325_37, e325_38, e325_41, e325_44, e325_45, e325_48, psh0, psh1, psh3, true_or, or_true, eq_self, Option.bind_some, List.length_nil, List.length_cons, Nat.reduceAdd, Nat.reduceLeDiff, Nat.zero_le, ↓reduceIte, Int.reduceLT, Int.reduceEq, Int.reduceLE, Int.reduceNeg, Int.reduceAdd, Int.reduceMul, Int.reduceSub, ne_eq, not_true_eq_false, not_false_eq_true, and_true, true_and, and_false, false_and, c3lt, c3gt, c3eq, Bool.false_eq_true, isK_wr, inA_wr, inR_wr, cmg.1, q23, c, w1]
    rw [e36, e325_35]
    simp only [e325_0, e325_1, e325_2, e325_5, e325_6, e325_7, e325_10, e325_11, e325_14, e325_15, e325_18, e325_19, e325_21, e325_24, e325_25, e325_26, e325_26i, e325_27, e325_30, e325_31, e325_32, e325_36, e325_37, e325_38, e325_41, e325_44, e325_45, e325_48, psh0, psh1, psh3, true_or, or_true, eq_self, Option.bind_some, List.length_nil, List.length_cons, Nat.reduceAdd, Nat.reduceLeDiff, Nat.zero_le, ↓reduceIte, Int.reduceLT, Int.reduceEq, Int.reduceLE, Int.reduceNeg, Int.reduceAdd, Int.reduceMul, Int.reduceSub, ne_eq, not_true_eq_false, not_false_eq_true, and_true, true_and, and_false, false_and, c3lt, c3gt, c3eq, Bool.false_eq_true, isK_wr, inA_wr, inR_wr, kg', kgm, r23, gc, e23]
  · have hr : ∀ b q, mrd (mcy g' 0 (i + 1)) b q = if b = 242 ∧ 20 * (i + 1) ≤ q ∧ q < 20 * (i + 1) + 20 then mrd h 242 (q - 20 * (i + 1)) else if b = 240 ∧ 410 * (i + 1) ≤ q ∧ q < 410 * (i + 1) + 410 then mrd h 240 (q - 410 * (i + 1)) else if b = 235 ∧ q = 23 then i + 1 else if b = 235 ∧ q = 0 then 0 else if b = 235 ∧ q = 1 then 0 else if b = 0 ∧ q = 11 then 0 else if b = 0 ∧ q = 16 then i + 1 else mrd g b q := by
      intro b q
      have y1 : ∀ q, mrd g' 242 q = mrd h 242 q := fun q => by
        rw [hg', rdn1 (by decide), rdq (by decide) (by decide), rdn1 (by decide), fF _ _ (by decide)]
      have y2 : ∀ q, mrd g' 240 q = mrd h 240 q := fun q => by
        rw [hg', rdn1 (by decide), rdq (by decide) (by decide), rdn1 (by decide), fF _ _ (by decide)]
      rw [rd_cy, y1, y2, Int.mul_zero, Int.mul_zero, Int.zero_add, Int.zero_add, hg']
      simp only [rd_wr]
    have hk : ∀ b q, b ≠ 242 → b ≠ 240 → b ≠ 235 → b ≠ 0 → mrd (mcy g' 0 (i + 1)) b q = mrd g b q := fun b q n1 n2 n3 n4 => by
      rw [hr, if_neg (fun z => n1 z.1), if_neg (fun z => n2 z.1), if_neg (fun z => n3 z.1), if_neg (fun z => n3 z.1), if_neg (fun z => n3 z.1), if_neg (fun z => n4 z.1), if_neg (fun z => n4 z.1)]
    have h40 : ∀ q, q < 410 * (i + 1) → mrd (mcy g' 0 (i + 1)) 240 q = mrd h 240 q := fun q hq => by
      rw [hr, if_neg (by omega), if_neg (by omega), if_neg (by omega), if_neg (by omega), if_neg (by omega), if_neg (by omega), if_neg (by omega), fF _ _ (by decide)]
    have h42 : ∀ q, q < 20 * (i + 1) → mrd (mcy g' 0 (i + 1)) 242 q = mrd h 242 q := fun q hq => by
      rw [hr, if_neg (by omega), if_neg (by omega), if_neg (by omega), if_neg (by omega), if_neg (by omega), if_neg (by omega), if_neg (by omega), fF _ _ (by decide)]
    have e08 : mrd (mcy g' 0 (i + 1)) 0 8 = s := by
      rw [hr, if_neg (by omega), if_neg (by omega), if_neg (by omega), if_neg (by omega), if_neg (by omega), if_neg (by omega), if_neg (by omega), fF _ _ (by decide)]
      exact e8
    have o16 : mrd (mcy g' 0 (i + 1)) 0 16 = i + 1 := by
      rw [hr, if_neg (by omega), if_neg (by omega), if_neg (by omega), if_neg (by omega), if_neg (by omega), if_neg (by omega), if_pos ⟨rfl, rfl⟩]
    have hS : ∀ b q, 109 < b → b < 235 → mrd (mcy g' 0 (i + 1)) b q = mrd h b q := fun b q h0 h1 => by
      rw [hk _ _ (by omega) (by omega) (by omega) (by omega), fF _ _ (by omega)]
    have hG : ∀ b q, 11 ≤ b → b ≤ 109 → mrd (mcy g' 0 (i + 1)) b q = mrd g b q := fun b q h0 h1 => hk _ _ (by omega) (by omega) (by omega) (by omega)
    have kid : RKid (mrd h) := hI.2.1.2.2.2.2.2.2.2.1.2.2.2.2.2.2.2
    have kid2 : RKid (mrd (mcy g' 0 (i + 1))) := fun x hx p p0 p1 => by
      by_cases e : x = 17 + 33 * i + 2
      · rw [hG _ _ (by omega) (by omega), e, G6 2 (by decide) (by decide) p p0 p1]
        refine kid _ ?_ p p0 p1
        rcases ca2 with z | z | z <;> rw [z] <;> decide
      · have hx' : x = 19 ∨ x = 52 ∨ x = 85 ∨ 109 < x ∧ x < 235 := by
          have : ∀ x ∈ ([19, 52, 85, 170, 203, 230] : List Int), x = 19 ∨ x = 52 ∨ x = 85 ∨ 109 < x ∧ x < 235 := by decide
          exact this x hx
        by_cases e2 : 109 < x
        · rw [hS _ _ e2 (by omega)]; exact kid x hx p p0 p1
        · rw [hG _ _ (by omega) (by omega), F2 _ _ (by unfold WC; omega)]; exact kid x hx p p0 p1
    refine Inv_mk hI (Rel_mark ?_ hI.2.1 ?_ ⟨?_, ?_⟩ ⟨⟨?_, ?_, ?_⟩, fun j j0 j1 => ?_⟩ kid2) ?_ cmg'.2.1 (RSum_tr (h := h) (by rw [hg']; exact F1) ?_ hI) (by rw [hg']; show g.2.2.2.2 = _; rw [F1])
    · intro b q hb hx
      show mrd (mcy g' 0 (i + 1)) b q = mrd h b q
      have n1 : b < 11 ∨ 109 < b := Decidable.byContradiction fun z => hx (Or.inl (mkO_in (by omega) (by omega)))
      have n2 : b ≠ 240 := fun z => hx (Or.inl (by rw [z]; decide +kernel))
      have n3 : b ≠ 242 := fun z => hx (Or.inl (by rw [z]; decide +kernel))
      have n4 : ¬ (b = 235 ∧ q = 23) := fun z => hx (Or.inr (Or.inl (by rw [z.1, z.2]; decide +kernel)))
      have n5 : ¬ (b = 0 ∧ q = 16) := fun z => hx (Or.inr (Or.inl (by rw [z.1, z.2]; decide +kernel)))
      have n6 : ¬ (b = 235 ∧ q = 0) := fun z => hb (by rw [z.1, z.2]; exact Scr_m0)
      have n7 : ¬ (b = 235 ∧ q = 1) := fun z => hb (by rw [z.1, z.2]; exact Scr_m1)
      have n8 : ¬ (b = 0 ∧ q = 11) := fun z => hb (by rw [z.1, z.2]; exact Scr_st)
      rw [hr, if_neg (fun z => n3 z.1), if_neg (fun z => n2 z.1), if_neg n4, if_neg n6, if_neg n7, if_neg n8, if_neg n5, fF _ _ n1]
    · exact RRef_ffA (by decide +kernel) (RRef_ffA (by decide +kernel) cmg'.2.2)
    · show RSch (mrd (mcy g' 0 (i + 1))) (mrd (mcy g' 0 (i + 1)) 0 8) 0 0
      rw [e08]
      refine RSch_cp (m := mrd h) (fun q _ _ => hS _ _ (by omega) (by omega)) (fun l l0 l1 q _ _ => hS _ _ (by omega) (by omega)) (fun k k0 k1 => ⟨fun q _ _ => hS _ _ (by omega) (by omega), fun q _ _ => hS _ _ (by omega) (by omega)⟩) (fun q q0 q1 => h40 _ (by omega)) (fun q q0 q1 => h42 _ (by omega)) R9
    · show RAge (mrd (mcy g' 0 (i + 1))) (mrd (mcy g' 0 (i + 1)) (mrd (mcy g' 0 (i + 1)) 0 8) 4) 0 (mrd (mcy g' 0 (i + 1)) (mrd (mcy g' 0 (i + 1)) 0 8) 7) (mrd (mcy g' 0 (i + 1)) (mrd (mcy g' 0 (i + 1)) 0 8) 6)
      rw [e08, hS s 4 (by omega) (by omega), hS s 6 (by omega) (by omega), hS s 7 (by omega) (by omega)]
      exact RAge_cp (m := mrd h) ⟨hS _ _ (by omega) (by omega), hS _ _ (by omega) (by omega)⟩ (fun j j0 j1 q _ _ => hS _ _ (by omega) (by omega)) (fun q q0 q1 => h40 _ (by omega)) R10
    · show mrd (mcy g' 0 (i + 1)) 0 16 = mrd (mcy g' 0 (i + 1)) 235 23
      rw [o16, e23]
    · show 0 ≤ mrd (mcy g' 0 (i + 1)) 0 16
      rw [o16]; omega
    · show mrd (mcy g' 0 (i + 1)) 0 16 ≤ 3
      rw [o16]; omega
    · have j1 : j < mrd (mcy g' 0 (i + 1)) 0 16 := j1
      rw [o16] at j1
      show RSch (mrd (mcy g' 0 (i + 1))) (11 + 33 * j) (410 * (j + 1)) (20 * (j + 1)) ∧ RAge (mrd (mcy g' 0 (i + 1))) (17 + 33 * j) (410 * (j + 1)) (mrd (mcy g' 0 (i + 1)) (11 + 33 * j) 7) (mrd (mcy g' 0 (i + 1)) (11 + 33 * j) 6)
      have hG : ∀ b q, 11 ≤ b → b ≤ 109 → mrd (mcy g' 0 (i + 1)) b q = mrd g b q := fun b q h0 h1 => hk _ _ (by omega) (by omega) (by omega) (by omega)
      by_cases e : j = i
      · subst e
        have z40 : ∀ q, 0 ≤ q → q < 410 → mrd (mcy g' 0 (j + 1)) 240 (410 * (j + 1) + q) = mrd h 240 (0 + q) := fun q q0 q1 => by
          rw [hr, if_neg (by omega), if_pos ⟨rfl, by omega, by omega⟩]
          congr 1
          omega
        have z42 : ∀ q, 0 ≤ q → q < 20 → mrd (mcy g' 0 (j + 1)) 242 (20 * (j + 1) + q) = mrd h 242 (0 + q) := fun q q0 q1 => by
          rw [hr, if_pos ⟨rfl, by omega, by omega⟩]
          congr 1
          omega
        refine ⟨RSch_cp (m := mrd h) (s1 := s) (fun q q0 q1 => ?_) (fun l l0 l1 q q0 q1 => ?_) (fun k k0 k1 => ⟨fun q q0 q1 => ?_, fun q q0 q1 => ?_⟩) (fun q q0 q1 => z40 q q0 (by omega)) (fun q q0 q1 => z42 q q0 (by omega)) R9, ?_⟩
        · rw [hG _ _ (by omega) (by omega)]; exact G2 q q0 q1
        · rw [hG _ _ (by omega) (by omega)]; exact G3 l l0 l1 q q0 q1
        · rw [hG _ _ (by omega) (by omega)]; exact (G4 k k0 k1).1 q q0 q1
        · rw [hG _ _ (by omega) (by omega)]; exact (G4 k k0 k1).2 q q0 q1
        · rw [hG _ _ (by omega) (by omega), hG _ _ (by omega) (by omega), G2 7 (by decide) (by decide), G2 6 (by decide) (by decide)]
          refine RAge_cp (m := mrd h) (a1 := mrd h s 4) ⟨?_, ?_⟩ (fun j' j0' j1' q q0 q1 => ?_) (fun q q0 q1 => z40 q (by omega) q1) R10
          · rw [hG _ _ (by omega) (by omega)]; exact G5.1
          · rw [hG _ _ (by omega) (by omega)]; exact G5.2
          · rw [hG _ _ (by omega) (by omega)]; exact G6 j' j0' j1' q q0 q1
      · obtain ⟨q1, q2⟩ := M4 j j0 (by show j < mrd h 0 16; omega)
        have q1 : RSch (mrd h) (11 + 33 * j) (410 * (j + 1)) (20 * (j + 1)) := q1
        have q2 : RAge (mrd h) (17 + 33 * j) (410 * (j + 1)) (mrd h (11 + 33 * j) 7) (mrd h (11 + 33 * j) 6) := q2
        have hJ : ∀ b q, 11 + 33 * j ≤ b → b ≤ 11 + 33 * j + 32 → mrd (mcy g' 0 (i + 1)) b q = mrd h b q := fun b q h0 h1 => by
          rw [hG _ _ (by omega) (by omega), F2 _ _ (by unfold WC; omega)]
        have b6' := q1.2.1.2.2
        have b7' := q1.2.2.1.2.2
        refine ⟨RSch_cp (m := mrd h) (fun q _ _ => hJ _ _ (by omega) (by omega)) (fun l l0 l1 q _ _ => hJ _ _ (by omega) (by omega)) (fun k k0 k1 => ⟨fun q _ _ => hJ _ _ (by omega) (by omega), fun q _ _ => hJ _ _ (by omega) (by omega)⟩) (fun q q0 q1 => h40 _ (by omega)) (fun q q0 q1 => h42 _ (by omega)) q1, ?_⟩
        rw [hJ (11 + 33 * j) 7 (by omega) (by omega), hJ (11 + 33 * j) 6 (by omega) (by omega)]
        exact RAge_cp (m := mrd h) ⟨hJ _ _ (by omega) (by omega), hJ _ _ (by omega) (by omega)⟩ (fun j j0 j1 q _ _ => hJ _ _ (by omega) (by omega)) (fun q q0 q1 => h40 _ (by omega)) q2
    · rw [hr, hr, if_neg (by omega), if_neg (by omega), if_neg (by omega), if_neg (by omega), if_neg (by omega), if_pos ⟨rfl, rfl⟩, if_neg (by omega), if_neg (by omega), if_neg (by omega), if_pos ⟨rfl, rfl⟩]
    · exact hS _ _ (by decide) (by decide)
