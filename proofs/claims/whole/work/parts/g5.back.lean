/-! back -/
def bkO : List Int := (List.range 32).map (fun n : Nat => (n : Int) + 163) ++ (List.range 39).map (fun n : Nat => (n : Int) + 196) ++ [240, 242]
def bkC : List (Int × Int) := [(0, 16), (235, 23), (162, 5), (162, 6), (162, 7), (162, 8), (195, 5), (195, 6), (195, 7), (195, 8)]
theorem bkO_in {b : Int} (h0 : 162 < b) (h1 : b ≤ 234) (h2 : b ≠ 195) : b ∈ bkO := by
  unfold bkO
  refine List.mem_append_left _ ?_
  by_cases c : b < 195
  · exact List.mem_append_left _ (List.mem_map.mpr ⟨(b - 163).toNat, List.mem_range.mpr (by omega), by omega⟩)
  · exact List.mem_append_right _ (List.mem_map.mpr ⟨(b - 196).toNat, List.mem_range.mpr (by omega), by omega⟩)
theorem bkC_in {s q : Int} (hs : s = 162 ∨ s = 195) (q0 : 5 ≤ q) (q1 : q ≤ 8) : (s, q) ∈ bkC := by
  rcases (show q = 5 ∨ q = 6 ∨ q = 7 ∨ q = 8 by omega) with rfl | rfl | rfl | rfl <;> rcases hs with rfl | rfl <;> decide
theorem Rel_back {m m' : Int → Int → Int} (hf : FrE bkO bkC 0 0 m m') (h : Rel m) (h1 : RRef m') (hc : RCur m') (hm : RMrk m') (hk : RKid m') : Rel m' := by
  obtain ⟨-, h2, h3, h4, h5, h6, h7, h8, h9, h10⟩ := h
  exact Rel_mk h1 (RNum_E hf (by decide +kernel) h2) (RTrys_E hf (by decide +kernel) h3) (RTap_E hf (by decide +kernel) h4) (RPln_E hf (by decide +kernel) h5) (RLiv_E hf (by decide +kernel) h6) (RFst_E hf (by decide +kernel) h7) (RPtr_Ek hf (by decide +kernel) hk h8) hc hm
theorem WC_cur {s a b q : Int} (hs : s = 162 ∨ s = 195) (ha : a = 168 ∨ a = 201 ∨ a = 228) (z : WC s a b q) : ((b, q) ∈ bkC ∨ b ∈ bkO) ∧ 162 ≤ b ∧ b ≤ 234 := by
  have key : (b = s ∧ 5 ≤ q ∧ q ≤ 8) ∨ (162 < b ∧ b ≤ 234 ∧ b ≠ 195) := by
    unfold WC at z
    rcases hs with rfl | rfl <;> rcases ha with rfl | rfl | rfl <;> omega
  rcases key with y | y
  · exact ⟨Or.inl (by rw [y.1]; exact bkC_in hs y.2.1 y.2.2), by omega, by omega⟩
  · exact ⟨Or.inr (bkO_in y.1 y.2.1 y.2.2), by omega, by omega⟩
theorem WC_4 {s a : Int} (hs : s = 162 ∨ s = 195) (ha : a = 168 ∨ a = 201 ∨ a = 228) : ¬ WC s a s 4 := by
  unfold WC
  rcases hs with rfl | rfl <;> rcases ha with rfl | rfl | rfl <;> omega
theorem WC_k {s a x q : Int} (hs : s = 162 ∨ s = 195) (ha : a = 168 ∨ a = 201 ∨ a = 228) (hx : x ∈ ([19, 52, 85, 170, 203, 230] : List Int)) (ne : x ≠ a + 2) : ¬ WC s a x q := by
  have hx' : x = 19 ∨ x = 52 ∨ x = 85 ∨ x = 170 ∨ x = 203 ∨ x = 230 := by simpa using hx
  clear hx
  unfold WC
  rcases hs with rfl | rfl <;> rcases ha with rfl | rfl | rfl <;> omega
set_option maxHeartbeats 1000000 in
theorem bk_inv {h g h2 : AM} {s i : Int} (hI : Inv h) (e8 : mrd h 0 8 = s) (bs : 162 ≤ s ∧ s ≤ 195) (ba : 168 ≤ mrd h s 4 ∧ mrd h s 4 ≤ 228) (i0 : 0 ≤ i) (ci : i < 3) (hi : mrd h 0 16 = i + 1)
  (wc : ∀ b q, WC s (mrd h s 4) b q → (b, q) ∈ bkC ∨ b ∈ bkO) (wr : ∀ b q, WC s (mrd h s 4) b q → 162 ≤ b ∧ b ≤ 234) (w4 : ¬ WC s (mrd h s 4) s 4) (wk : ∀ x ∈ ([19, 52, 85, 170, 203, 230] : List Int), ∀ q, x ≠ mrd h s 4 + 2 → ¬ WC s (mrd h s 4) x q)
  (M4 : ∀ j, 0 ≤ j → j < mrd h 0 16 → RSch (mrd h) (11 + 33 * j) (410 * (j + 1)) (20 * (j + 1)) ∧ RAge (mrd h) (17 + 33 * j) (410 * (j + 1)) (mrd h (11 + 33 * j) 7) (mrd h (11 + 33 * j) 6))
  (F2 : ∀ b q, ¬ WC s (mrd h s 4) b q → mrd g b q = mrd (mwr h 0 16 i) b q)
  (G2 : ∀ q, 5 ≤ q → q ≤ 8 → mrd g s q = mrd h (11 + 33 * i) q) (G3 : ∀ l, 0 ≤ l → l < mrd h (11 + 33 * i) 6 → ∀ q, 0 ≤ q → q ≤ 6 → mrd g (s + 13 + l) q = mrd h (11 + 33 * i + 13 + l) q)
  (G4 : ∀ k, 0 ≤ k → k < mrd h (11 + 33 * i) 7 → (∀ q, 1 ≤ q → q ≤ 6 → mrd g (s + 25 + 2 * k) q = mrd h (11 + 33 * i + 25 + 2 * k) q) ∧ ∀ q, 0 ≤ q → q < 12 → mrd g (s + 26 + 2 * k) q = mrd h (11 + 33 * i + 26 + 2 * k) q)
  (G5 : mrd g (mrd h s 4) 6 = mrd h (17 + 33 * i) 6 ∧ mrd g (mrd h s 4) 7 = mrd h (17 + 33 * i) 7) (G6 : ∀ j, 1 ≤ j → j ≤ 5 → ∀ q, 0 ≤ q → q < 30 → mrd g (mrd h s 4 + j) q = mrd h (17 + 33 * i + j) q)
  (e22 : h2.2 = h.2) (hrr : RRef h2.1)
  (hr : ∀ b q, mrd h2 b q = if b = 235 ∧ q = 23 then i else if b = 242 ∧ 0 ≤ q ∧ q < 20 then mrd h 242 (20 * (i + 1) + q) else if b = 240 ∧ 0 ≤ q ∧ q < 410 then mrd h 240 (410 * (i + 1) + q) else if b = 235 ∧ q = 0 then 0 else if b = 235 ∧ q = 1 then 0 else if b = 0 ∧ q = 11 then 0 else mrd g b q) : Inv h2 := by
  obtain ⟨Q1, Q2⟩ := M4 i i0 (by omega)
  obtain ⟨h0, hh0⟩ : ∃ h0, h0 = mwr h 0 16 i := ⟨_, rfl⟩
  rw [← hh0] at F2
  have z0 : ∀ b q, b ≠ 0 → mrd h0 b q = mrd h b q := fun b q hb => by rw [hh0, rdn1 hb]
  have fF0 : ∀ b q, b < 162 ∨ 234 < b → mrd g b q = mrd h0 b q := fun b q hb => F2 b q (fun z => by have := wr b q z; omega)
  have fF : ∀ b q, b ≠ 0 → b < 162 ∨ 234 < b → mrd g b q = mrd h b q := fun b q n hb => by rw [fF0 b q hb, z0 _ _ n]
  have b6s := Q1.2.1.2.2
  have b7s := Q1.2.2.1.2.2
  have hk : ∀ b q, b ≠ 242 → b ≠ 240 → b ≠ 235 → b ≠ 0 → mrd h2 b q = mrd g b q := fun b q n1 n2 n3 n4 => by
    rw [hr, if_neg (fun z => n3 z.1), if_neg (fun z => n1 z.1), if_neg (fun z => n2 z.1), if_neg (fun z => n3 z.1), if_neg (fun z => n3 z.1), if_neg (fun z => n4 z.1)]
  have h40 : ∀ q, 410 ≤ q → mrd h2 240 q = mrd h 240 q := fun q hq => by
    rw [hr, if_neg (by omega), if_neg (by omega), if_neg (by omega), if_neg (by omega), if_neg (by omega), if_neg (by omega), fF _ _ (by decide) (by decide)]
  have h42 : ∀ q, 20 ≤ q → mrd h2 242 q = mrd h 242 q := fun q hq => by
    rw [hr, if_neg (by omega), if_neg (by omega), if_neg (by omega), if_neg (by omega), if_neg (by omega), if_neg (by omega), fF _ _ (by decide) (by decide)]
  have hz : ∀ q, q ≠ 11 → mrd h2 0 q = mrd h0 0 q := fun q hq => by
    rw [hr, if_neg (by omega), if_neg (by omega), if_neg (by omega), if_neg (by omega), if_neg (by omega), if_neg (by omega), fF0 _ _ (by decide)]
  have e08 : mrd h2 0 8 = s := by
    rw [hz _ (by decide), hh0, rdn2 (by decide)]
    exact e8
  have o16 : mrd h2 0 16 = i := by rw [hz _ (by decide), hh0, rde]
  have hG : ∀ b q, 162 ≤ b → b ≤ 234 → mrd h2 b q = mrd g b q := fun b q x0 x1 => hk _ _ (by omega) (by omega) (by omega) (by omega)
  have hS : ∀ b q, 0 < b → b < 162 → mrd h2 b q = mrd h b q := fun b q x0 x1 => by
    rw [hk _ _ (by omega) (by omega) (by omega) (by omega), fF _ _ (by omega) (by omega)]
  have e4s : mrd h2 s 4 = mrd h s 4 := by
    rw [hG _ _ (by omega) (by omega), F2 _ _ w4, z0 _ _ (by omega)]
  have z40 : ∀ q, 0 ≤ q → q < 410 → mrd h2 240 (0 + q) = mrd h 240 (410 * (i + 1) + q) := fun q q0 q1 => by
    rw [hr, if_neg (by omega), if_neg (by omega), if_pos ⟨rfl, by omega, by omega⟩, Int.zero_add]
  have z42 : ∀ q, 0 ≤ q → q < 20 → mrd h2 242 (0 + q) = mrd h 242 (20 * (i + 1) + q) := fun q q0 q1 => by
    rw [hr, if_neg (by omega), if_pos ⟨rfl, by omega, by omega⟩, Int.zero_add]
  have kid : RKid (mrd h) := hI.2.1.2.2.2.2.2.2.2.1.2.2.2.2.2.2.2
  have kid2 : RKid (mrd h2) := fun x hx p p0 p1 => by
    have hx' : (0 < x ∧ x < 162) ∨ (162 ≤ x ∧ x ≤ 234) := by
      have : ∀ x ∈ ([19, 52, 85, 170, 203, 230] : List Int), (0 < x ∧ x < 162) ∨ (162 ≤ x ∧ x ≤ 234) := by decide
      exact this x hx
    by_cases e : x < 162
    · rw [hS _ _ (by omega) e]; exact kid x hx p p0 p1
    · rw [hG _ _ (by omega) (by omega)]
      by_cases e2 : x = mrd h s 4 + 2
      · rw [e2, G6 2 (by decide) (by decide) p p0 p1]
        refine kid _ ?_ p p0 p1
        rcases (show i = 0 ∨ i = 1 ∨ i = 2 by omega) with rfl | rfl | rfl <;> decide
      · rw [F2 _ _ (wk x hx p e2), z0 _ _ (by omega)]; exact kid x hx p p0 p1
  refine Inv_mk hI (Rel_back ?_ hI.2.1 ?_ ⟨?_, ?_⟩ ⟨⟨?_, ?_, ?_⟩, fun j j0 j1 => ?_⟩ kid2) ?_ (Shp_eq e22 hI.1) (RSum_tr (h := h) e22 ?_ hI) (by rw [e22])
  · intro b q hb hx
    show mrd h2 b q = mrd h b q
    have n2 : b ≠ 240 := fun z => hx (Or.inl (by rw [z]; decide +kernel))
    have n3 : b ≠ 242 := fun z => hx (Or.inl (by rw [z]; decide +kernel))
    have n4 : ¬ (b = 235 ∧ q = 23) := fun z => hx (Or.inr (Or.inl (by rw [z.1, z.2]; decide +kernel)))
    have n5 : ¬ (b = 0 ∧ q = 16) := fun z => hx (Or.inr (Or.inl (by rw [z.1, z.2]; decide +kernel)))
    have n6 : ¬ (b = 235 ∧ q = 0) := fun z => hb (by rw [z.1, z.2]; exact Scr_m0)
    have n7 : ¬ (b = 235 ∧ q = 1) := fun z => hb (by rw [z.1, z.2]; exact Scr_m1)
    have n8 : ¬ (b = 0 ∧ q = 11) := fun z => hb (by rw [z.1, z.2]; exact Scr_st)
    have n1 : ¬ WC s (mrd h s 4) b q := fun z => hx ((wc b q z).elim (fun y => Or.inr (Or.inl y)) Or.inl)
    rw [hr, if_neg n4, if_neg (fun z => n3 z.1), if_neg (fun z => n2 z.1), if_neg n6, if_neg n7, if_neg n8, F2 _ _ n1, hh0, rd_wr, if_neg n5]
  · exact hrr
  · show RSch (mrd h2) (mrd h2 0 8) 0 0
    rw [e08]
    refine RSch_cp (m := mrd h) (s1 := 11 + 33 * i) (fun q q0 q1 => ?_) (fun l l0 l1 q q0 q1 => ?_) (fun k k0 k1 => ⟨fun q q0 q1 => ?_, fun q q0 q1 => ?_⟩) (fun q q0 q1 => z40 q q0 (by omega)) (fun q q0 q1 => z42 q q0 (by omega)) Q1
    · rw [hG _ _ (by omega) (by omega)]; exact G2 q q0 q1
    · rw [hG _ _ (by omega) (by omega)]; exact G3 l l0 l1 q q0 q1
    · rw [hG _ _ (by omega) (by omega)]; exact (G4 k k0 k1).1 q q0 q1
    · rw [hG _ _ (by omega) (by omega)]; exact (G4 k k0 k1).2 q q0 q1
  · show RAge (mrd h2) (mrd h2 (mrd h2 0 8) 4) 0 (mrd h2 (mrd h2 0 8) 7) (mrd h2 (mrd h2 0 8) 6)
    rw [e08, e4s, hG s 7 (by omega) (by omega), hG s 6 (by omega) (by omega), G2 7 (by decide) (by decide), G2 6 (by decide) (by decide)]
    refine RAge_cp (m := mrd h) (a1 := 17 + 33 * i) ⟨?_, ?_⟩ (fun j' j0' j1' q q0 q1 => ?_) (fun q q0 q1 => z40 q (by omega) q1) Q2
    · rw [hG _ _ (by omega) (by omega)]; exact G5.1
    · rw [hG _ _ (by omega) (by omega)]; exact G5.2
    · rw [hG _ _ (by omega) (by omega)]; exact G6 j' j0' j1' q q0 q1
  · show mrd h2 0 16 = mrd h2 235 23
    rw [o16, hr, if_pos ⟨rfl, rfl⟩]
  · show 0 ≤ mrd h2 0 16
    rw [o16]; omega
  · show mrd h2 0 16 ≤ 3
    rw [o16]; omega
  · have j1 : j < mrd h2 0 16 := j1
    rw [o16] at j1
    show RSch (mrd h2) (11 + 33 * j) (410 * (j + 1)) (20 * (j + 1)) ∧ RAge (mrd h2) (17 + 33 * j) (410 * (j + 1)) (mrd h2 (11 + 33 * j) 7) (mrd h2 (11 + 33 * j) 6)
    obtain ⟨q1, q2⟩ := M4 j j0 (by show j < mrd h 0 16; omega)
    have q1 : RSch (mrd h) (11 + 33 * j) (410 * (j + 1)) (20 * (j + 1)) := q1
    have q2 : RAge (mrd h) (17 + 33 * j) (410 * (j + 1)) (mrd h (11 + 33 * j) 7) (mrd h (11 + 33 * j) 6) := q2
    have b6' := q1.2.1.2.2
    have b7' := q1.2.2.1.2.2
    refine ⟨RSch_cp (m := mrd h) (fun q _ _ => hS _ _ (by omega) (by omega)) (fun l l0 l1 q _ _ => hS _ _ (by omega) (by omega)) (fun k k0 k1 => ⟨fun q _ _ => hS _ _ (by omega) (by omega), fun q _ _ => hS _ _ (by omega) (by omega)⟩) (fun q q0 q1 => h40 _ (by omega)) (fun q q0 q1 => h42 _ (by omega)) q1, ?_⟩
    rw [hS (11 + 33 * j) 7 (by omega) (by omega), hS (11 + 33 * j) 6 (by omega) (by omega)]
    exact RAge_cp (m := mrd h) ⟨hS _ _ (by omega) (by omega), hS _ _ (by omega) (by omega)⟩ (fun j j0 j1 q _ _ => hS _ _ (by omega) (by omega)) (fun q q0 q1 => h40 _ (by omega)) q2
  · rw [hr, hr, if_neg (by omega), if_neg (by omega), if_neg (by omega), if_neg (by omega), if_neg (by omega), if_pos ⟨rfl, rfl⟩, if_neg (by omega), if_neg (by omega), if_neg (by omega), if_pos ⟨rfl, rfl⟩]
  · exact hS _ _ (by decide) (by decide)
set_option maxHeartbeats 1000000 in
theorem op_back : Op_back Inv := by
  intro d h hI
  obtain ⟨s, e8, hs, k0, kM, cs, ds⟩ := ctx hI
  have ds' := ds
  have ks := cs.1
  have r1 := cs.2.2.1
  have r2 := cs.2.2.2.1
  have r3 := cs.2.2.2.2.1
  have kl := cs.2.2.2.2.2.2.2.2.2.2.2.1
  have kc := cs.2.2.2.2.2.2.2.2.2.2.2.2
  obtain ⟨d5, d6, d7, d8, dl, dc⟩ := ds
  have hm : ∀ v, CM (mwr (mwr (mwr h 0 11 v) 235 1 0) 235 0 0) := fun v => CM_q (CM_of hI)
  obtain ⟨ca, ca2, R9, R10⟩ := cur_a hI e8
  have hR1 := hI.2.1.1
  obtain ⟨⟨M1, M2, M3⟩, M4⟩ := hI.2.1.2.2.2.2.2.2.2.2.2
  have M1 : mrd h 0 16 = mrd h 235 23 := M1
  have M2 : 0 ≤ mrd h 0 16 := M2
  have M3 : mrd h 0 16 ≤ 3 := M3
  by_cases c : mrd h 0 16 = 0
  · refine opq hI (-1) 8 ?_ ?_
    · simp only [e157_0, e157_1, e157_4, e157_7, e157_8, e157_10, e157_13, e157_14, e157_15, e157_15i, e157_16, e157_19, e157_20, e157_21, e157_24, e157_25, e157_28, e157_29, e157_32, e157_33, e157_36, e157_37, e157_40, e157_41, e157_42, e157_45, e157_48, psh0, psh1, psh3, true_or, or_true, eq_self, Option.bind_some, List.length_nil, List.length_cons, Nat.reduceAdd, Nat.reduceLeDiff, Nat.zero_le, ↓reduceIte, Int.reduceLT, Int.reduceEq, Int.reduceLE, Int.reduceNeg, Int.reduceAdd, Int.reduceMul, Int.reduceSub, ne_eq, not_true_eq_false, not_false_eq_true, and_true, true_and, and_false, false_and, c3lt, c3gt, c3eq, Bool.false_eq_true, isK_wr, inA_wr, inR_wr, k0, c, x_refuse]
    · simp only [e326_0, e326_1, e326_2, e326_5, e326_6, e326_7, e326_10, e326_11, e326_14, e326_17, e326_18, e326_20, e326_23, e326_24, e326_25, e326_26, e326_29, e326_30, e326_33, e326_34, e326_34i, e326_35, e326_38, e326_39, e326_40, e326_43, e326_44, e326_47, psh0, psh1, psh3, true_or, or_true, eq_self, Option.bind_some, List.length_nil, List.length_cons, Nat.reduceAdd, Nat.reduceLeDiff, Nat.zero_le, ↓reduceIte, Int.reduceLT, Int.reduceEq, Int.reduceLE, Int.reduceNeg, Int.reduceAdd, Int.reduceMul, Int.reduceSub, ne_eq, not_true_eq_false, not_false_eq_true, and_true, true_and, and_false, false_and, c3lt, c3gt, c3eq, Bool.false_eq_true, isK_wr, inA_wr, inR_wr, kM, rdq5, ← M1, c, m_refuse, wrwr]
  obtain ⟨i, hi⟩ : ∃ i, mrd h 0 16 = i + 1 := ⟨mrd h 0 16 - 1, by omega⟩
  rw [hi] at M1 M2 M3 c
  have i0 : 0 ≤ i := by omega
  have ci : i < 3 := by omega
  have cp : 0 < i + 1 := by omega
  obtain ⟨Q1, Q2⟩ := M4 i i0 (by show i < mrd h 0 16; omega)
  have Q1 : RSch (mrd h) (11 + 33 * i) (410 * (i + 1)) (20 * (i + 1)) := Q1
  have Q2 : RAge (mrd h) (17 + 33 * i) (410 * (i + 1)) (mrd h (11 + 33 * i) 7) (mrd h (11 + 33 * i) 6) := Q2
  obtain ⟨s2, a2, ea2, ek⟩ := kept_a (m := mrd h) hR1 i0 ci
  obtain ⟨b6, b7, hv⟩ := cp_pre Q1
  have s6 := S6_cur hs
  obtain ⟨h0, hh0⟩ : ∃ h0, h0 = mwr h 0 16 i := ⟨_, rfl⟩
  have z0 : ∀ b q, b ≠ 0 → mrd h0 b q = mrd h b q := fun b q hb => by rw [hh0, rdn1 hb]
  have cm0 : CM h0 := by rw [hh0]; exact CM_wr rn_016 (CM_of hI)
  have z01 : h0.2 = h.2 := by rw [hh0]; rfl
  obtain ⟨g, G1, ⟨F1, F2⟩, G2, G3, G4, G5, G6⟩ := x_copyFrom (d := d + 57) (h := h0) (a1 := 17 + 33 * i) (a2 := mrd h s 4) cm0.2.1 cm0.2.2 s2 s6 (by rw [z0 _ _ (by omega)]; exact ea2) (by rw [z0 _ _ (by omega)]) a2 ca (by omega) (by omega) (AS_all _ s2 _ ca) (AS_all _ s6 _ ca) (AS_all _ s2 _ a2) (AS_all _ s6 _ a2) (by rw [z0 _ _ (by omega)]; exact b6) (by rw [z0 _ _ (by omega)]; exact b7) (fun l l0 l1 => by rw [z0 _ _ (by omega)] at l1 ⊢; exact hv l l0 l1) (by rw [z0 _ _ (by omega)]; exact Q2.1)
  rw [z0 _ _ (by omega)] at G3 G4 G5
  rw [z0 _ _ (by omega)] at G5
  have G2 : ∀ q, 5 ≤ q → q ≤ 8 → mrd g s q = mrd h (11 + 33 * i) q := fun q q0 q1 => by rw [G2 q q0 q1, z0 _ _ (by omega)]
  have G3 : ∀ l, 0 ≤ l → l < mrd h (11 + 33 * i) 6 → ∀ q, 0 ≤ q → q ≤ 6 → mrd g (s + 13 + l) q = mrd h (11 + 33 * i + 13 + l) q := fun l l0 l1 q q0 q1 => by rw [G3 l l0 l1 q q0 q1, z0 _ _ (by omega)]
  have G4 : ∀ k, 0 ≤ k → k < mrd h (11 + 33 * i) 7 → (∀ q, 1 ≤ q → q ≤ 6 → mrd g (s + 25 + 2 * k) q = mrd h (11 + 33 * i + 25 + 2 * k) q) ∧ ∀ q, 0 ≤ q → q < 12 → mrd g (s + 26 + 2 * k) q = mrd h (11 + 33 * i + 26 + 2 * k) q := fun k k0 k1 => ⟨fun q q0 q1 => by rw [(G4 k k0 k1).1 q q0 q1, z0 _ _ (by omega)], fun q q0 q1 => by rw [(G4 k k0 k1).2 q q0 q1, z0 _ _ (by omega)]⟩
  have G6 : ∀ j, 1 ≤ j → j ≤ 5 → ∀ q, 0 ≤ q → q < 30 → mrd g (mrd h s 4 + j) q = mrd h (17 + 33 * i + j) q := fun j j0 j1 q q0 q1 => by rw [G6 j j0 j1 q q0 q1, z0 _ _ (by omega)]
  have F1' : g.2 = h.2 := F1.trans z01
  have cmg : CM g := ⟨(isK_eq F1').mpr kM, Shp_eq F1' hI.1, RRef_WC s6 ca F2 cm0.2.2⟩
  have kg0 : isK g 0 10 := (isK_eq F1').mpr k0
  have fF0 : ∀ b q, b < 162 ∨ 234 < b → mrd g b q = mrd h0 b q := fun b q hb => F2 b q (fun z => by have := (WC_cur hs ca2 z).2; omega)
  have fF : ∀ b q, b ≠ 0 → b < 162 ∨ 234 < b → mrd g b q = mrd h b q := fun b q n hb => by rw [fF0 b q hb, z0 _ _ n]
  have w1 : w32 (i + 1 - 1) = i := by rw [w32_id (by omega) (by omega)]; omega
  have jR : inR h 10 i := by
    refine ⟨⟨(kn_10 hI.1).1, (kn_10 hI.1).2.1, by rw [(kn_10 hI.1).2.2]; decide, by rw [(kn_10 hI.1).2.2]; decide⟩, i0, by rw [ln_10 hI.1]; exact ci⟩
  have x2 : mrd h 0 2 = 10 := rf_0_2 hR1
  have f016 : mrd g 0 16 = i := by rw [fF0 _ _ (by omega), hh0, rde]
  have f23 : mrd g 235 23 = i + 1 := by rw [fF _ _ (by decide) (by omega)]; exact M1.symm
  obtain ⟨g', hg'⟩ : ∃ g', g' = mwr (mwr (mwr g 0 11 0) 235 1 0) 235 0 0 := ⟨_, rfl⟩
  have cmg' : CM g' := by rw [hg']; exact CM_q cmg
  have gc := m_copy (d := d + 59) (x := i + 1) (y := 0) cmg' (by omega) (by omega) (by omega) (by omega) (by omega)
  have r23 : mrd g' 235 23 = i + 1 := by rw [hg', rdq5 (by decide) (by decide)]; exact f23
  have e23 : mrd (mcy g' (i + 1) 0) 235 23 = i + 1 := by
    rw [rd_cy, if_neg (by omega), if_neg (by omega), r23]
  have kg' : isK g' 235 11 := cmg'.1
  have kgm : isK (mcy g' (i + 1) 0) 235 11 := cmg'.1
  refine ⟨i, mwr g 0 11 0, mwr (mcy g' (i + 1) 0) 235 23 i, ?_, ?_, ?_⟩
  · have u8 : mrd h0 0 8 = s := by rw [hh0, rdn2 (by decide)]; exact e8
    have u2 : mrd h0 0 2 = 10 := by rw [hh0, rdn2 (by decide)]; exact x2
    have u16 : mrd h0 0 16 = i := by rw [hh0, rde]
    have uk : isK h0 0 10 := by rw [hh0]; exact k0
    have us : isK h0 s 6 := by rw [hh0]; exact ks
    have ur : inR h0 10 i := by rw [hh0]; exact jR
    have ue : mrd h0 10 i = 11 + 33 * i := by rw [z0 _ _ (by decide)]; exact ek
    have e24 : EV (d + 60) 157 0 [(2, 0)] [] h = EV (d + 60) 157 24 [(2, 0)] [] h0 := by
      rw [hh0]
      simp only [e157_0, e157_1, e157_4, e157_7, e157_8, e157_10, e157_13, e157_14, e157_15, e157_15i, e157_16, e157_19, e157_20, e157_21, e157_25, e157_28, e157_29, e157_32, e157_33, e157_36, e157_37, e157_40, e157_41, e157_42, e157_45, e157_48, psh0, psh1, psh3, true_or, or_true, eq_self, Option.bind_some, List.length_nil, List.length_cons, Nat.reduceAdd, Nat.reduceLeDiff, Nat.zero_le, ↓reduceIte, Int.reduceLT, Int.reduceEq, Int.reduceLE, Int.reduceNeg, Int.reduceAdd, Int.reduceMul, Int.reduceSub, ne_eq, not_true_eq_false, not_false_eq_true, and_true, true_and, and_false, false_and, c3lt, c3gt, c3eq, Bool.false_eq_true, isK_wr, inA_wr, inR_wr, k0, hi, cp, w1]
    rw [e24, e157_24]
    simp only [e157_0, e157_1, e157_4, e157_7, e157_8, e157_10, e157_13, e157_14, e157_15, e157_15i, e157_16, e157_19, e157_20, e157_21, e157_25, e157_28, e157_29, e157_32, e157_33, e157_36, e157_37, e157_40, e157_41, e157_42, e157_45, e157_48, psh0, psh1, psh3, true_or, or_true, eq_self, Option.bind_some, List.length_nil, List.length_cons, Nat.reduceAdd, Nat.reduceLeDiff, Nat.zero_le, ↓reduceIte, Int.reduceLT, Int.reduceEq, Int.reduceLE, Int.reduceNeg, Int.reduceAdd, Int.reduceMul, Int.reduceSub, ne_eq, not_true_eq_false, not_false_eq_true, and_true, true_and, and_false, false_and, c3lt, c3gt, c3eq, Bool.false_eq_true, isK_wr, inA_wr, inR_wr, uk, us, u8, u2, u16, ur, ue, G1, kg0, f016, x_answer]
  · have e25 : EV (d + 60) 326 0 [(2, 235)] [] (mwr g 0 11 0) = EV (d + 60) 326 24 [(2, 235)] [] g' := by
      have q23 : mrd (mwr (mwr (mwr g 0 11 0) 235 1 0) 235 0 0) 235 23 = i + 1 := by rw [rdq5 (by decide) (by decide)]; exact f23
      rw [hg']
      simp only [e326_0, e326_1, e326_2, e326_5, e326_6, e326_7, e326_10, e326_11, e326_14, e326_17, e326_18, e326_20, e326_23, e326_25, e326_26, e326_29, e326_30, e326_33, e326_34, e326_34i, e326_35, e326_38, e326_39, e326_40, e326_43, e326_44, e326_47, psh0, psh1, psh3, true_or, or_true, eq_self, Option.bind_some, List.length_nil, List.length_cons, Nat.reduceAdd, Nat.reduceLeDiff, Nat.zero_le, ↓reduceIte, Int.reduceLT, Int.reduceEq, Int.reduceLE, Int.reduceNeg, Int.reduceAdd, Int.reduceMul, Int.reduceSub, ne_eq, not_true_eq_false, not_false_eq_true, and_true, true_and, and_false, false_and, c3lt, c3gt, c3eq, Bool.false_eq_true, isK_wr, inA_wr, inR_wr, cmg.1, q23, c]
    rw [e25, e326_24]
    simp only [e326_0, e326_1, e326_2, e326_5, e326_6, e326_7, e326_10, e326_11, e326_14, e326_17, e326_18, e326_20, e326_23, e326_25, e326_26, e326_29, e326_30, e326_33, e326_34, e326_34i, e326_35, e326_38, e326_39, e326_40, e326_43, e326_44, e326_47, psh0, psh1, psh3, true_or, or_true, eq_self, Option.bind_some, List.length_nil, List.length_cons, Nat.reduceAdd, Nat.reduceLeDiff, Nat.zero_le, ↓reduceIte, Int.reduceLT, Int.reduceEq, Int.reduceLE, Int.reduceNeg, Int.reduceAdd, Int.reduceMul, Int.reduceSub, ne_eq, not_true_eq_false, not_false_eq_true, and_true, true_and, and_false, false_and, c3lt, c3gt, c3eq, Bool.false_eq_true, isK_wr, inA_wr, inR_wr, kg', kgm, r23, gc, e23, w1, rde]
  · have hr : ∀ b q, mrd (mwr (mcy g' (i + 1) 0) 235 23 i) b q = if b = 235 ∧ q = 23 then i else if b = 242 ∧ 0 ≤ q ∧ q < 20 then mrd h 242 (20 * (i + 1) + q) else if b = 240 ∧ 0 ≤ q ∧ q < 410 then mrd h 240 (410 * (i + 1) + q) else if b = 235 ∧ q = 0 then 0 else if b = 235 ∧ q = 1 then 0 else if b = 0 ∧ q = 11 then 0 else mrd g b q := by
      intro b q
      have y1 : ∀ q, mrd g' 242 q = mrd h 242 q := fun q => by
        rw [hg', rdq (by decide) (by decide), fF _ _ (by decide) (by decide)]
      have y2 : ∀ q, mrd g' 240 q = mrd h 240 q := fun q => by
        rw [hg', rdq (by decide) (by decide), fF _ _ (by decide) (by decide)]
      rw [rd_wr, rd_cy, y1, y2, Int.mul_zero, Int.mul_zero, Int.zero_add, Int.zero_add, Int.sub_zero, hg']
      simp only [rd_wr]
    have e22 : (mwr (mcy g' (i + 1) 0) 235 23 i).2 = h.2 := by rw [← F1', show (mwr (mcy g' (i + 1) 0) 235 23 i).2 = g'.2 from rfl, hg']; rfl
    rw [hh0] at F2
    exact bk_inv hI e8 (by omega) (by omega) i0 ci hi (fun b q z => (WC_cur hs ca2 z).1) (fun b q z => (WC_cur hs ca2 z).2) (WC_4 hs ca2) (fun x hx q ne => WC_k hs ca2 hx ne) M4 F2 G2 G3 G4 G5 G6 e22 (RRef_wr rn_23 (RRef_ffA (by decide +kernel) (RRef_ffA (by decide +kernel) cmg'.2.2))) hr
