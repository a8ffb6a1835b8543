/-! ages lived: a run, and the call live -/
def RUX (h : AM) (L seed : Int) : AM := mwr (mwr (mwr (mwr (mwr (mwr (mwr (mwr h L 0 1) L 1 0) L 2 0) L 3 0) L 4 0) L 5 0) L 6 0) L 7 seed
def RUM (g : AM) (seed : Int) : AM := mwr (mwr (mwr (mwr (mwr (mwr (mwr g 235 46 seed) 235 47 0) 235 48 0) 235 49 0) 235 50 0) 235 51 0) 235 45 0
theorem RUX_2 {h : AM} {L seed : Int} : (RUX h L seed).2 = h.2 := by
  unfold RUX
  rw [wr_2, wr_2, wr_2, wr_2, wr_2, wr_2, wr_2, wr_2]
theorem RUM_2 {g : AM} {seed : Int} : (RUM g seed).2 = g.2 := by
  unfold RUM
  rw [wr_2, wr_2, wr_2, wr_2, wr_2, wr_2, wr_2]
theorem RUX_n {h : AM} {L seed x i : Int} (hx : x ≠ L) : mrd (RUX h L seed) x i = mrd h x i := by
  unfold RUX
  rw [rdn1 hx, rdn1 hx, rdn1 hx, rdn1 hx, rdn1 hx, rdn1 hx, rdn1 hx, rdn1 hx]
theorem RUM_n {g : AM} {seed x i : Int} (hx : ¬ (x = 235 ∧ 45 ≤ i ∧ i ≤ 51)) : mrd (RUM g seed) x i = mrd g x i := by
  unfold RUM
  rw [rd_wr, if_neg (by omega), rd_wr, if_neg (by omega), rd_wr, if_neg (by omega), rd_wr, if_neg (by omega), rd_wr, if_neg (by omega), rd_wr, if_neg (by omega), rd_wr, if_neg (by omega)]
section
variable {d : Nat} {h g1 : AM} {s L g nc nl seed : Int}
theorem lv_run (hp : Shp h) (hr : RRef h.1) (hm : CM g1) (h3 : s = 113 ∨ s = 162 ∨ s = 195) (hL : L = 146 ∨ L = 147) (e4 : mrd h s 4 = g) (hg : g ∈ A7) (e7 : mrd h s 7 = nc) (e6 : mrd h s 6 = nl) (hR : RSch (mx h g1).1 s 0 0) (hA : RAge (mx h g1).1 g 0 nc nl) (h6 : mrd h g 6 = 1) (s0 : 0 ≤ seed) (s1 : seed < 65536) : ∃ a' b', EV (d + 18) 18 0 [(2, L), (2, s), (0, seed)] [] h = some ((3, 0), a') ∧ EV (d + 18) 320 0 [(2, 235), (0, seed)] [] g1 = some ((3, 0), b') ∧ FA s L (mwr h L 0 1) a' ∧ FB g1 b' ∧ RSch (mx a' b').1 s 0 0 ∧ LV 0 0 L a' b' := by
  obtain ⟨a0, ha0⟩ : ∃ a0, a0 = RUX h L seed := ⟨_, rfl⟩
  obtain ⟨b0, hb0⟩ : ∃ b0, b0 = RUM g1 seed := ⟨_, rfl⟩
  have gd : ∀ s ∈ ([113, 162, 195] : List Int), ∀ g ∈ A7, ¬ (g ≤ 147 ∧ 146 ≤ g + 6) ∧ (17 ≤ g ∧ g ≤ 228) := by decide +kernel
  obtain ⟨y3, y4⟩ := gd s (by rcases h3 with rfl | rfl | rfl <;> decide) g hg
  have bs : 113 ≤ s ∧ s ≤ 195 ∧ ¬ (s ≤ L ∧ L ≤ s + 32) ∧ 146 ≤ L ∧ L ≤ 147 := by omega
  have na : ∀ x i, x ≠ L → mrd a0 x i = mrd h x i := fun x i hx => by rw [ha0]; exact RUX_n hx
  have nb : ∀ x i, ¬ (x = 235 ∧ 45 ≤ i ∧ i ≤ 51) → mrd b0 x i = mrd g1 x i := fun x i hx => by rw [hb0]; exact RUM_n hx
  have e2a : a0.2 = h.2 := by rw [ha0]; exact RUX_2
  have e2b : b0.2 = g1.2 := by rw [hb0]; exact RUM_2
  have hr0 : RRef a0.1 := fun q hq => by
    have hd : ∀ q ∈ refT, q.1 ≠ 146 ∧ q.1 ≠ 147 := by decide +kernel
    have := hd q hq
    rw [← hr q hq]
    exact na _ _ (by omega)
  have hm0 : CM b0 := by
    refine ⟨(isK_eq e2b).mpr hm.1, Shp_eq e2b hm.2.1, fun q hq => ?_⟩
    have hd : ∀ q ∈ refT, ¬ (q.1 = 235 ∧ 45 ≤ q.2.1 ∧ q.2.1 ≤ 51) := by decide +kernel
    rw [← hm.2.2 q hq]
    exact nb _ _ (hd q hq)
  have hB : BF a0 b0 s L g nc nl := ⟨⟨Shp_eq e2a hp, hr0, hm0⟩, h3, hL, ⟨by rw [na _ _ (by omega)]; exact e4, hg, AS_all _ (s3_6 h3) _ hg⟩, by rw [na _ _ (by omega)]; exact e7, by rw [na _ _ (by omega)]; exact e6⟩
  have key : ∀ x, x ≠ L → x ≠ 235 → (mx a0 b0).1 x = (mx h g1).1 x := fun x n1 n2 => funext fun i => by
    show mrd (mx a0 b0) x i = mrd (mx h g1) x i
    by_cases c : x < 235 ∨ 258 ≤ x
    · rw [mxa c, mxa c]
      exact na x i n1
    · rw [mxb (by omega) (by omega), mxb (by omega) (by omega)]
      exact nb x i (by omega)
  have hR0 : RSch (mx a0 b0).1 s 0 0 := RSch_of (key s (by omega) (by omega)) (fun l _ _ => key _ (by omega) (by omega)) (fun k _ _ => ⟨key _ (by omega) (by omega), key _ (by omega) (by omega)⟩) (key _ (by omega) (by omega)) (key _ (by omega) (by omega)) hR
  have hA0 : RAge (mx a0 b0).1 g 0 nc nl := RAge_of (key g (by omega) (by omega)) (key _ (by omega) (by omega)) (key _ (by omega) (by omega)) (key _ (by omega) (by omega)) (key _ (by omega) (by omega)) (key _ (by omega) (by omega)) (key _ (by omega) (by omega)) hA
  have hAG : AGE a0 b0 g nc nl := ⟨hA0, by rw [na _ _ (by omega)]; exact h6⟩
  have hLV : LV 0 0 L a0 b0 := by
    unfold LV
    have x1 : mrd a0 L 1 = 0 := by rw [ha0]; unfold RUX; rw [rdn2 (by decide), rdn2 (by decide), rdn2 (by decide), rdn2 (by decide), rdn2 (by decide), rdn2 (by decide), rde]
    have x2 : mrd a0 L 2 = 0 := by rw [ha0]; unfold RUX; rw [rdn2 (by decide), rdn2 (by decide), rdn2 (by decide), rdn2 (by decide), rdn2 (by decide), rde]
    have x3 : mrd a0 L 3 = 0 := by rw [ha0]; unfold RUX; rw [rdn2 (by decide), rdn2 (by decide), rdn2 (by decide), rdn2 (by decide), rde]
    have x4 : mrd a0 L 4 = 0 := by rw [ha0]; unfold RUX; rw [rdn2 (by decide), rdn2 (by decide), rdn2 (by decide), rde]
    have x5 : mrd a0 L 5 = 0 := by rw [ha0]; unfold RUX; rw [rdn2 (by decide), rdn2 (by decide), rde]
    have x6 : mrd a0 L 6 = 0 := by rw [ha0]; unfold RUX; rw [rdn2 (by decide), rde]
    have x7 : mrd a0 L 7 = seed := by rw [ha0]; unfold RUX; rw [rde]
    have z5 : mrd b0 235 45 = 0 := by rw [hb0]; unfold RUM; rw [rde]
    have z51 : mrd b0 235 51 = 0 := by rw [hb0]; unfold RUM; rw [rdn2 (by decide), rde]
    have z50 : mrd b0 235 50 = 0 := by rw [hb0]; unfold RUM; rw [rdn2 (by decide), rdn2 (by decide), rde]
    have z49 : mrd b0 235 49 = 0 := by rw [hb0]; unfold RUM; rw [rdn2 (by decide), rdn2 (by decide), rdn2 (by decide), rde]
    have z48 : mrd b0 235 48 = 0 := by rw [hb0]; unfold RUM; rw [rdn2 (by decide), rdn2 (by decide), rdn2 (by decide), rdn2 (by decide), rde]
    have z47 : mrd b0 235 47 = 0 := by rw [hb0]; unfold RUM; rw [rdn2 (by decide), rdn2 (by decide), rdn2 (by decide), rdn2 (by decide), rdn2 (by decide), rde]
    have z46 : mrd b0 235 46 = seed := by rw [hb0]; unfold RUM; rw [rdn2 (by decide), rdn2 (by decide), rdn2 (by decide), rdn2 (by decide), rdn2 (by decide), rdn2 (by decide), rde]
    rw [x1, x2, x3, x4, x5, x6, x7, z5, z51, z50, z49, z48, z47, z46]
    exact ⟨⟨rfl, by decide, by decide⟩, ⟨rfl, by decide, by decide⟩, rfl, rfl, ⟨rfl, Or.inl rfl⟩, ⟨rfl, Or.inl rfl⟩, rfl, s0, s1⟩
  have hS0 : Sim 0 0 a0 b0 s L a0 b0 := ⟨⟨rfl, fun _ _ _ _ _ _ => rfl⟩, ⟨rfl, fun _ _ _ _ _ => rfl⟩, hR0, hLV⟩
  obtain ⟨⟨N0, N30, N9⟩, -, -, -⟩ := hAG.f hB
  have hW := lv_walk (d := d + 1) hB hAG 4 0 rfl
  obtain ⟨a', b', z1, z2, z3⟩ := hW 0 (mrd a0 g 7) a0 b0 hS0 ⟨by decide, N0, Int.le_refl _, fun q q0 q1 => ⟨Nat.zero_le _, by
    have := (hS0.stp hB hA0 hAG.2 q0 q1).2.1.2.2
    exact this⟩⟩
  have z1 : EV (d + 17) 19 0 [(2, L), (2, s), (0, 0), (0, mrd a0 g 7), (0, 0), (3, 0)] [] a0 = some ((3, 0), a') := z1
  have z2 : EV (d + 17) 319 0 [(2, 235), (0, 0), (0, mrd a0 g 7), (3, 0)] [] b0 = some ((3, 0), b') := z2
  have kL : isK h L 3 := by
    rcases hL with rfl | rfl
    · exact kn_146 hp
    · exact kn_147 hp
  have ks : isK h s 6 := (CS_of hp hr (s3_6 h3)).1
  have kg : isK h g 0 := (a7_K hp hg).1
  have i9 : inA b0 240 16 129 := inC hm0 (by decide) (by decide)
  have x4 : mrd a0 s 4 = g := hB.2.2.2.1.1
  have kL0 : isK a0 L 3 := (isK_eq e2a).mpr kL
  have ks0 : isK a0 s 6 := (isK_eq e2a).mpr ks
  have kg0 : isK a0 g 0 := (isK_eq e2a).mpr kg
  have m9 : mrd b0 240 129 = mrd a0 g 7 := N9.symm
  refine ⟨a', b', ?_, ?_, ⟨z3.1.1.trans e2a, fun x i n1 n2 n3 n4 => ?_⟩, ⟨z3.2.1.1.trans e2b, fun x i n1 n2 n3 => ?_⟩, z3.2.2.1, z3.2.2.2⟩
  · have e40 : EV (d + 18) 18 0 [(2, L), (2, s), (0, seed)] [] h = EV (d + 18) 18 40 [(2, L), (2, s), (0, seed)] [] a0 := by
      rw [ha0]
      unfold RUX
      simp only [e18_0, e18_1, e18_2, e18_5, e18_6, e18_7, e18_10, e18_11, e18_12, e18_15, e18_16, e18_17, e18_20, e18_21, e18_22, e18_25, e18_26, e18_27, e18_30, e18_31, e18_32, e18_35, e18_36, e18_37, e18_41, e18_42, e18_43, e18_44, e18_47, e18_50, e18_51, e18_54, psh0, psh1, psh3, true_or, or_true, eq_self, Option.bind_some, List.length_nil, List.length_cons, Nat.reduceAdd, Nat.reduceLeDiff, Nat.zero_le, ↓reduceIte, Int.reduceLT, Int.reduceEq, Int.reduceLE, Int.reduceNeg, Int.reduceAdd, Int.reduceMul, Int.reduceSub, ne_eq, not_true_eq_false, not_false_eq_true, and_true, true_and, and_false, false_and, c3lt, c3gt, c3eq, Bool.false_eq_true, isK_wr, inA_wr, inR_wr, kL]
    rw [e40, e18_40]
    simp only [e18_0, e18_1, e18_2, e18_5, e18_6, e18_7, e18_10, e18_11, e18_12, e18_15, e18_16, e18_17, e18_20, e18_21, e18_22, e18_25, e18_26, e18_27, e18_30, e18_31, e18_32, e18_35, e18_36, e18_37, e18_41, e18_42, e18_43, e18_44, e18_47, e18_50, e18_51, e18_54, psh0, psh1, psh3, true_or, or_true, eq_self, Option.bind_some, List.length_nil, List.length_cons, Nat.reduceAdd, Nat.reduceLeDiff, Nat.zero_le, ↓reduceIte, Int.reduceLT, Int.reduceEq, Int.reduceLE, Int.reduceNeg, Int.reduceAdd, Int.reduceMul, Int.reduceSub, ne_eq, not_true_eq_false, not_false_eq_true, and_true, true_and, and_false, false_and, c3lt, c3gt, c3eq, Bool.false_eq_true, isK_wr, inA_wr, inR_wr, kL0, ks0, kg0, x4, z1]
  · have e35 : EV (d + 18) 320 0 [(2, 235), (0, seed)] [] g1 = EV (d + 18) 320 35 [(2, 235), (0, seed)] [] b0 := by
      rw [hb0]
      unfold RUM
      simp only [e320_0, e320_1, e320_2, e320_5, e320_6, e320_7, e320_10, e320_11, e320_12, e320_15, e320_16, e320_17, e320_20, e320_21, e320_22, e320_25, e320_26, e320_27, e320_30, e320_31, e320_32, e320_36, e320_37, e320_38, e320_41, e320_44, e320_45, e320_48, psh0, psh1, psh3, true_or, or_true, eq_self, Option.bind_some, List.length_nil, List.length_cons, Nat.reduceAdd, Nat.reduceLeDiff, Nat.zero_le, ↓reduceIte, Int.reduceLT, Int.reduceEq, Int.reduceLE, Int.reduceNeg, Int.reduceAdd, Int.reduceMul, Int.reduceSub, ne_eq, not_true_eq_false, not_false_eq_true, and_true, true_and, and_false, false_and, c3lt, c3gt, c3eq, Bool.false_eq_true, isK_wr, inA_wr, inR_wr, hm.1]
    rw [e35, e320_35]
    simp only [e320_0, e320_1, e320_2, e320_5, e320_6, e320_7, e320_10, e320_11, e320_12, e320_15, e320_16, e320_17, e320_20, e320_21, e320_22, e320_25, e320_26, e320_27, e320_30, e320_31, e320_32, e320_36, e320_37, e320_38, e320_41, e320_44, e320_45, e320_48, psh0, psh1, psh3, true_or, or_true, eq_self, Option.bind_some, List.length_nil, List.length_cons, Nat.reduceAdd, Nat.reduceLeDiff, Nat.zero_le, ↓reduceIte, Int.reduceLT, Int.reduceEq, Int.reduceLE, Int.reduceNeg, Int.reduceAdd, Int.reduceMul, Int.reduceSub, ne_eq, not_true_eq_false, not_false_eq_true, and_true, true_and, and_false, false_and, c3lt, c3gt, c3eq, Bool.false_eq_true, isK_wr, inA_wr, inR_wr, hm0.1, mC hm0, i9, m9, z2]
  · rw [z3.1.2 x i n1 n2 n3 n4, ha0]
    unfold RUX
    rw [rd_wr, if_neg (by omega), rd_wr, if_neg (by omega), rd_wr, if_neg (by omega), rd_wr, if_neg (by omega), rd_wr, if_neg (by omega), rd_wr, if_neg (by omega), rd_wr, if_neg (by omega)]
  · rw [z3.2.1.2 x i n1 n2 n3]
    exact nb x i (by omega)
end
def lvO : List Int := [146, 257, 188, 190, 192, 194, 221, 223, 225, 227]
def lvC : List (Int × Int) := (235, 44) :: chC
theorem Rel_live {m m' : Int → Int → Int} (hf : FrE lvO lvC 128 0 m m') (h : Rel m) (hs : RSch m' (m 0 8) 0 0) (hl : RLiv m') : Rel m' := by
  obtain ⟨h1, h2, h3, h4, h5, h6, h7, h8, h9, h10⟩ := h
  have hp := id h8
  have e8 : m' 0 8 = m 0 8 := hf.C (by decide +kernel)
  have ss : m 0 8 ∈ ([162, 195] : List Int) := by
    rcases hp.1 with z | z <;> rw [z.1] <;> decide
  have ha : m (m 0 8) 4 ∈ ([168, 201, 228] : List Int) := by
    rcases hp.1 with z | z <;> rw [z.1]
    · rcases hp.2.1 with z | z | z <;> rw [z] <;> decide
    · rcases hp.2.2.1 with z | z | z <;> rw [z] <;> decide
  have q : ([162, 195] : List Int).all (fun s => okA lvO lvC s) = true := by decide +kernel
  have e : m' (m 0 8) = m (m 0 8) := hf.A (List.all_eq_true.mp q _ ss)
  have qa : ([168, 201, 228] : List Int).all (fun a => (agO a).all (okA lvO lvC)) = true := by decide +kernel
  refine Rel_mk (RRef_E hf (by decide +kernel) h1) (RNum_E hf (by decide +kernel) h2) (RTrys_E hf (by decide +kernel) h3) (RTap_E hf (by decide +kernel) h4) (RPln_E hf (by decide +kernel) h5) hl (RFst_E hf (by decide +kernel) h7) (RPtr_E hf (by decide +kernel) h8) ?_ (RMrk_E hf (by decide +kernel) (by decide) (by decide) h10)
  unfold RCur
  rw [e8, e]
  exact ⟨hs, RAge_E hf (List.all_eq_true.mp qa _ ha) (by decide +kernel) (by decide) h9.2⟩
theorem chi_lv {s x i : Int} (hs : s = 162 ∨ s = 195) (hx : s + 25 ≤ x ∧ x ≤ s + 32 ∧ ((3 ≤ i ∧ i ≤ 6) ∨ (x - s) % 2 = 0)) : x ∈ lvO ∨ (x, i) ∈ lvC := by
  have q : ∀ s ∈ ([162, 195] : List Int), ∀ j ∈ ([25, 27, 29, 31] : List Int), (∀ i ∈ ([3, 4, 5, 6] : List Int), (s + j, i) ∈ lvC) ∧ s + j + 1 ∈ lvO := by decide +kernel
  have ss : s ∈ ([162, 195] : List Int) := by rcases hs with rfl | rfl <;> decide
  by_cases c : (x - s) % 2 = 0
  · left
    have : ∃ j ∈ ([25, 27, 29, 31] : List Int), x = s + j + 1 := by
      rcases (show x = s + 26 ∨ x = s + 28 ∨ x = s + 30 ∨ x = s + 32 by omega) with e | e | e | e
      · exact ⟨25, by decide, by omega⟩
      · exact ⟨27, by decide, by omega⟩
      · exact ⟨29, by decide, by omega⟩
      · exact ⟨31, by decide, by omega⟩
    obtain ⟨j, hj, e⟩ := this
    rw [e]
    exact (q s ss j hj).2
  · right
    have : ∃ j ∈ ([25, 27, 29, 31] : List Int), x = s + j := by
      rcases (show x = s + 25 ∨ x = s + 27 ∨ x = s + 29 ∨ x = s + 31 by omega) with e | e | e | e
      · exact ⟨25, by decide, e⟩
      · exact ⟨27, by decide, e⟩
      · exact ⟨29, by decide, e⟩
      · exact ⟨31, by decide, e⟩
    obtain ⟨j, hj, e⟩ := this
    have hm : i ∈ ([3, 4, 5, 6] : List Int) := by rcases (show i = 3 ∨ i = 4 ∨ i = 5 ∨ i = 6 by omega) with e | e | e | e <;> rw [e] <;> decide
    rw [e]
    exact (q s ss j hj).1 i hm
set_option maxHeartbeats 1000000 in
theorem op_live : Op_live Inv := by
  intro d h seed hI i0
  obtain ⟨s, e8, hs, k0, kM, cs, ds⟩ := ctx hI
  have ds' := ds
  have ks := cs.1
  have r1 := cs.2.2.1
  have r2 := cs.2.2.2.1
  have r3 := cs.2.2.2.2.1
  have kl := cs.2.2.2.2.2.2.2.2.2.2.2.1
  have kc := cs.2.2.2.2.2.2.2.2.2.2.2.2
  obtain ⟨d5, d6, d7, d8, dl, dc⟩ := ds
  have hm : ∀ v, CM (mwr (mwr (mwr h 0 11 v) 235 1 0) 235 0 0) := fun v => CM_q (CM_of hI)
  obtain ⟨ca, ca2, R9, R10⟩ := cur_a hI e8
  have kg : isK h (mrd h s 4) 0 := (a7_K hI.1 ca).1
  have gtm := fun v => inC (hm v) (j := 128) (by decide) (by decide)
  have x4 : mrd h 0 4 = 146 := rf_0_4 hI.2.1.1
  by_cases c : 0 ≤ seed ∧ seed ≤ 9999
  · have c0 : ¬ seed < 0 := by omega
    have c1 : ¬ 9999 < seed := by omega
    have e128 : mrd h (mrd h s 4) 6 = mrd h 240 128 := by
      have := R10.2.1
      rwa [show (0 : Int) + 128 = 128 from rfl] at this
    by_cases ct : mrd h (mrd h s 4) 6 = 0
    · refine opq hI (-1) 8 ?_ ?_
      · simp only [e153_0, e153_1, e153_4, e153_5, e153_8, e153_11, e153_12, e153_13, e153_16, e153_17, e153_18, e153_21, e153_24, e153_27, e153_30, e153_31, e153_33, e153_36, e153_37, e153_38, e153_41, e153_42, e153_45, e153_46, e153_49, e153_50, e153_51, e153_54, e153_57, e153_60, psh0, psh1, psh3, true_or, or_true, eq_self, Option.bind_some, List.length_nil, List.length_cons, Nat.reduceAdd, Nat.reduceLeDiff, Nat.zero_le, ↓reduceIte, Int.reduceLT, Int.reduceEq, Int.reduceLE, Int.reduceNeg, Int.reduceAdd, Int.reduceMul, Int.reduceSub, ne_eq, not_true_eq_false, not_false_eq_true, and_true, true_and, and_false, false_and, c3lt, c3gt, c3eq, Bool.false_eq_true, isK_wr, inA_wr, inR_wr, k0, c0, c1, e8, ks, kg, ct, x_refuse]
      · have ct' : mrd h 240 128 = 0 := e128.symm.trans ct
        simp only [e321_0, e321_1, e321_2, e321_5, e321_6, e321_7, e321_10, e321_11, e321_12, e321_13, e321_16, e321_19, e321_22, e321_23, e321_24, e321_27, e321_28, e321_29, e321_32, e321_35, e321_36, e321_39, e321_40, e321_42, e321_45, e321_46, e321_47, e321_48, e321_51, e321_52, e321_55, e321_56, e321_57, e321_60, e321_61, e321_62, e321_65, e321_66, e321_67, e321_70, e321_71, e321_72, e321_75, e321_76, e321_77, e321_80, e321_81, e321_82, e321_85, e321_86, e321_87, e321_90, e321_91, e321_92, e321_93, e321_96, e321_97, e321_100, psh0, psh1, psh3, true_or, or_true, eq_self, Option.bind_some, List.length_nil, List.length_cons, Nat.reduceAdd, Nat.reduceLeDiff, Nat.zero_le, ↓reduceIte, Int.reduceLT, Int.reduceEq, Int.reduceLE, Int.reduceNeg, Int.reduceAdd, Int.reduceMul, Int.reduceSub, ne_eq, not_true_eq_false, not_false_eq_true, and_true, true_and, and_false, false_and, c3lt, c3gt, c3eq, Bool.false_eq_true, isK_wr, inA_wr, inR_wr, kM, m_isIn, c, mC (hm _), gtm, rdq, ct', m_refuse, wrwr]
    · have h6 : mrd h (mrd h s 4) 6 = 1 := R10.1.resolve_left ct
      have h3 : s = 113 ∨ s = 162 ∨ s = 195 := by omega
      have Rg : ∀ g1 : AM, (∀ x i, x = 240 ∨ x = 242 → mrd g1 x i = mrd h x i) → RSch (mx h g1).1 s 0 0 ∧ RAge (mx h g1).1 (mrd h s 4) 0 (mrd h s 7) (mrd h s 6) := by
        intro g1 hg1
        have key : ∀ x, x < 235 ∨ x = 240 ∨ x = 242 → (mx h g1).1 x = mrd h x := fun x hx => funext fun i => by
          show mrd (mx h g1) x i = mrd h x i
          by_cases q : x < 235
          · exact mxa (by omega)
          · rw [mxb (by omega) (by omega)]
            exact hg1 x i (by omega)
        have ga : mrd h s 4 + 5 < 235 := by omega
        exact ⟨RSch_of (m := mrd h) (key s (by omega)) (fun l _ _ => key _ (by omega)) (fun k _ _ => ⟨key _ (by omega), key _ (by omega)⟩) (key _ (by omega)) (key _ (by omega)) R9, RAge_of (m := mrd h) (key _ (by omega)) (key _ (by omega)) (key _ (by omega)) (key _ (by omega)) (key _ (by omega)) (key _ (by omega)) (key _ (by omega)) R10⟩
      obtain ⟨Ra, Rb⟩ := Rg h (fun _ _ _ => rfl)
      obtain ⟨a', -, z1, -, z3, -, -, -⟩ := lv_run (d := d + 41) (L := 146) (g1 := h) hI.1 hI.2.1.1 (CM_of hI) h3 (Or.inl rfl) rfl ca rfl rfl Ra Rb h6 c.1 (by omega)
      have fa : ∀ x i, x ≠ 146 → ¬ (x = s + 4 ∧ i = 1) → x ≠ s + 5 → ¬ (s + 25 ≤ x ∧ x ≤ s + 32 ∧ ((3 ≤ i ∧ i ≤ 6) ∨ (x - s) % 2 = 0)) → mrd a' x i = mrd h x i := fun x i n1 n2 n3 n4 => by
        rw [z3.2 x i (by omega) n2 n3 n4, rdn1 n1]
      obtain ⟨g1, hg1⟩ : ∃ g1, g1 = mwr (mwr (mwr a' 0 11 0) 235 1 0) 235 0 0 := ⟨_, rfl⟩
      have e2a : a'.2 = h.2 := z3.1
      have cma : CM a' := by
        refine ⟨(isK_eq e2a).mpr kM, Shp_eq e2a hI.1, fun q hq => ?_⟩
        have hd : ∀ s ∈ ([162, 195] : List Int), ∀ q ∈ refT, q.1 ≠ 146 ∧ ¬ (q.1 = s + 4 ∧ q.2.1 = 1) ∧ q.1 ≠ s + 5 ∧ ¬ (s + 25 ≤ q.1 ∧ q.1 ≤ s + 32 ∧ ((3 ≤ q.2.1 ∧ q.2.1 ≤ 6) ∨ (q.1 - s) % 2 = 0)) := by decide +kernel
        obtain ⟨y1, y2, y3, y4⟩ := hd s (by rcases hs with rfl | rfl <;> decide) q hq
        rw [← hI.2.1.1 q hq]
        exact fa _ _ y1 y2 y3 y4
      have cmg : CM g1 := by rw [hg1]; exact CM_q cma
      obtain ⟨Ra2, Rb2⟩ := Rg g1 (fun x i hx => by rw [hg1, rdq (by omega) (by omega)]; exact fa _ _ (by omega) (by omega) (by omega) (by omega))
      obtain ⟨a2, b', y1, y2, y3, y4, y5, y6⟩ := lv_run (d := d + 41) (L := 146) (g1 := g1) hI.1 hI.2.1.1 cmg h3 (Or.inl rfl) rfl ca rfl rfl Ra2 Rb2 h6 c.1 (by omega)
      have ea : a2 = a' := by
        rw [z1] at y1
        exact ((Prod.mk.inj (Option.some.inj y1)).2).symm
      rw [ea] at y5 y6
      have k0a : isK a' 0 10 := (isK_eq e2a).mpr k0
      have kLa : isK a' 146 3 := (isK_eq e2a).mpr (kn_146 hI.1)
      have x4a : mrd a' 0 4 = 146 := by rw [fa _ _ (by decide) (by omega) (by omega) (by omega)]; exact x4
      have e2b : b'.2 = h.2 := by
        rw [y4.1, hg1]
        exact e2a
      have cmb : CM b' := by
        refine ⟨(isK_eq e2b).mpr kM, Shp_eq e2b hI.1, fun q hq => ?_⟩
        have hd : ∀ q ∈ refT, q.1 ≠ 240 ∧ q.1 ≠ 243 ∧ ¬ (q.1 = 235 ∧ (q.2.1 = 27 ∨ (45 ≤ q.2.1 ∧ q.2.1 ≤ 51))) := by decide +kernel
        obtain ⟨w1, w2, w3⟩ := hd q hq
        rw [← cmg.2.2 q hq]
        exact y4.2 _ _ (fun z => w1 z.1) w2 w3
      have m43 : mrd b' 235 43 = 257 := rf_235_43 cmb.2.2
      have j57 : ∀ j, 0 ≤ j → j < 4 → inA b' 257 16 j := fun j j0 j1 => ⟨kn_257 cmb.2.1, j0, by rw [ln_257 cmb.2.1]; exact j1⟩
      have j0 := j57 0 (by decide) (by decide)
      have j1 := j57 1 (by decide) (by decide)
      have j2 := j57 2 (by decide) (by decide)
      have j3 := j57 3 (by decide) (by decide)
      obtain ⟨h2, hh2⟩ : ∃ h2, h2 = mwr (mwr (mwr (mwr (mwr b' 257 0 (mrd b' 235 48)) 257 1 (mrd b' 235 49)) 257 2 (mrd b' 235 50)) 257 3 (mrd b' 235 51)) 235 44 1 := ⟨_, rfl⟩
      have n2 : ∀ x i, x ≠ 257 → ¬ (x = 235 ∧ i = 44) → mrd h2 x i = mrd b' x i := fun x i n1 n2 => by
        rw [hh2, rd_wr, if_neg n2, rdn1 n1, rdn1 n1, rdn1 n1, rdn1 n1]
      have e47 : mrd h2 235 47 = mrd b' 235 47 := n2 _ _ (by decide) (by decide)
      refine ⟨mrd b' 235 47, mwr a' 0 11 0, h2, ?_, ?_, ?_⟩
      · have e1 : mrd a' 146 1 = mrd b' 235 47 := y6.1.1
        simp only [e153_0, e153_1, e153_4, e153_5, e153_8, e153_11, e153_12, e153_13, e153_16, e153_17, e153_18, e153_21, e153_24, e153_27, e153_30, e153_31, e153_33, e153_36, e153_37, e153_38, e153_41, e153_42, e153_45, e153_46, e153_49, e153_50, e153_51, e153_54, e153_57, e153_60, psh0, psh1, psh3, true_or, or_true, eq_self, Option.bind_some, List.length_nil, List.length_cons, Nat.reduceAdd, Nat.reduceLeDiff, Nat.zero_le, ↓reduceIte, Int.reduceLT, Int.reduceEq, Int.reduceLE, Int.reduceNeg, Int.reduceAdd, Int.reduceMul, Int.reduceSub, ne_eq, not_true_eq_false, not_false_eq_true, and_true, true_and, and_false, false_and, c3lt, c3gt, c3eq, Bool.false_eq_true, isK_wr, inA_wr, inR_wr, k0, c0, c1, e8, ks, kg, ct, x4, kn_146 hI.1, z1, k0a, x4a, kLa, e1, x_answer]
      · have ct' : ¬ mrd h 240 128 = 0 := by rw [← e128]; exact ct
        have e128a : mrd g1 240 128 = mrd h 240 128 := by rw [hg1, rdq (by decide) (by decide)]; exact fa _ _ (by omega) (by omega) (by omega) (by omega)
        have c28 := inC cmg (j := 128) (by decide) (by decide)
        have kg1 : isK a' 235 11 := cma.1
        have e46 : EV (d + 60) 321 0 [(2, 235), (0, seed)] [] (mwr a' 0 11 0) = EV (d + 60) 321 46 [(2, 235), (0, seed)] [] g1 := by
          rw [hg1] at c28 e128a cmg ⊢
          simp only [e321_0, e321_1, e321_2, e321_5, e321_6, e321_7, e321_10, e321_11, e321_12, e321_13, e321_16, e321_19, e321_22, e321_23, e321_24, e321_27, e321_28, e321_29, e321_32, e321_35, e321_36, e321_39, e321_40, e321_42, e321_45, e321_47, e321_48, e321_51, e321_52, e321_55, e321_56, e321_57, e321_60, e321_61, e321_62, e321_65, e321_66, e321_67, e321_70, e321_71, e321_72, e321_75, e321_76, e321_77, e321_80, e321_81, e321_82, e321_85, e321_86, e321_87, e321_90, e321_91, e321_92, e321_93, e321_96, e321_97, e321_100, psh0, psh1, psh3, true_or, or_true, eq_self, Option.bind_some, List.length_nil, List.length_cons, Nat.reduceAdd, Nat.reduceLeDiff, Nat.zero_le, ↓reduceIte, Int.reduceLT, Int.reduceEq, Int.reduceLE, Int.reduceNeg, Int.reduceAdd, Int.reduceMul, Int.reduceSub, ne_eq, not_true_eq_false, not_false_eq_true, and_true, true_and, and_false, false_and, c3lt, c3gt, c3eq, Bool.false_eq_true, isK_wr, inA_wr, inR_wr, kg1, m_isIn, c, mC cmg, c28, e128a, ct']
        rw [e46, e321_46, hh2]
        simp only [e321_0, e321_1, e321_2, e321_5, e321_6, e321_7, e321_10, e321_11, e321_12, e321_13, e321_16, e321_19, e321_22, e321_23, e321_24, e321_27, e321_28, e321_29, e321_32, e321_35, e321_36, e321_39, e321_40, e321_42, e321_45, e321_47, e321_48, e321_51, e321_52, e321_55, e321_56, e321_57, e321_60, e321_61, e321_62, e321_65, e321_66, e321_67, e321_70, e321_71, e321_72, e321_75, e321_76, e321_77, e321_80, e321_81, e321_82, e321_85, e321_86, e321_87, e321_90, e321_91, e321_92, e321_93, e321_96, e321_97, e321_100, psh0, psh1, psh3, true_or, or_true, eq_self, Option.bind_some, List.length_nil, List.length_cons, Nat.reduceAdd, Nat.reduceLeDiff, Nat.zero_le, ↓reduceIte, Int.reduceLT, Int.reduceEq, Int.reduceLE, Int.reduceNeg, Int.reduceAdd, Int.reduceMul, Int.reduceSub, ne_eq, not_true_eq_false, not_false_eq_true, and_true, true_and, and_false, false_and, c3lt, c3gt, c3eq, Bool.false_eq_true, isK_wr, inA_wr, inR_wr, cmg.1, y2, cmb.1, m43, j0, j1, j2, j3, rd_wr]
      · have fin : ∀ x i, x < 235 → ¬ (x = 0 ∧ i = 11) → mrd h2 x i = mrd a' x i := fun x i hx hn => by
          rw [n2 _ _ (by omega) (by omega), y4.2 _ _ (by omega) (by omega) (by omega), hg1, rdn1 (by omega), rdn1 (by omega), rd_wr, if_neg hn]
        have e22 : h2.2 = h.2 := by
          rw [hh2]
          exact e2b
        have hmx : ∀ x, (x < 235 ∧ x ≠ 0) ∨ x = 240 ∨ x = 242 → h2.1 x = (mx a' b').1 x := fun x hx => funext fun i => by
          show mrd h2 x i = mrd (mx a' b') x i
          by_cases q : x < 235
          · rw [mxa (by omega)]
            exact fin x i q (by omega)
          · rw [mxb (by omega) (by omega)]
            exact n2 x i (by omega) (by omega)
        refine Inv_mk hI (Rel_live ?_ hI.2.1 ?_ ⟨Or.inr ?_, ?_, fun _ => ⟨?_, ?_, ?_, ?_, ?_⟩⟩) ?_ (Shp_eq e22 hI.1) (RSum_tr (h := h) e22 ?_ hI) (by rw [e22])
        · intro x i hn hx
          show mrd h2 x i = mrd h x i
          have no : x ∉ lvO := fun z => hx (Or.inl z)
          have nc : (x, i) ∉ lvC := fun z => hx (Or.inr (Or.inl z))
          have n240 : ¬ (x = 240 ∧ i < 128) := fun z => hx (Or.inr (Or.inr (Or.inl z)))
          have q1 : x ≠ 146 := fun z => no (by rw [z]; decide)
          have q2 : x ≠ 257 := fun z => no (by rw [z]; decide)
          have q3 : ¬ (x = 235 ∧ i = 44) := fun z => nc (by rw [z.1, z.2]; decide)
          have q4 : ¬ (x = 0 ∧ i = 11) := fun z => hn (by rw [z.1, z.2]; exact Scr_st)
          have q5 : ¬ (x = s + 4 ∧ i = 1) := fun z => hn (by rw [z.1, z.2]; exact (Scr_v hs).2)
          have q6 : x ≠ s + 5 := fun z => hn (by rw [z]; exact (Scr_v hs).1 i)
          have q7 : ¬ (s + 25 ≤ x ∧ x ≤ s + 32 ∧ ((3 ≤ i ∧ i ≤ 6) ∨ (x - s) % 2 = 0)) := fun z => (chi_lv hs z).elim no nc
          have q8 : x ≠ 243 := fun z => hn (by rw [z]; exact Or.inl (by decide +kernel))
          have q9 : ¬ (x = 235 ∧ (i = 27 ∨ (45 ≤ i ∧ i ≤ 51))) := fun z => hn (by
            have hq : ∀ i ∈ ([27, 45, 46, 47, 48, 49, 50, 51] : List Int), (235, i) ∈ scrF := by decide +kernel
            rw [z.1]
            exact Or.inr (Or.inr (hq i (by
              rcases (show i = 27 ∨ i = 45 ∨ i = 46 ∨ i = 47 ∨ i = 48 ∨ i = 49 ∨ i = 50 ∨ i = 51 by omega) with e | e | e | e | e | e | e | e <;> rw [e] <;> decide))))
          have q10 : ¬ (x = 235 ∧ i = 0) := fun z => hn (by rw [z.1, z.2]; exact Scr_m0)
          have q11 : ¬ (x = 235 ∧ i = 1) := fun z => hn (by rw [z.1, z.2]; exact Scr_m1)
          rw [n2 x i q2 q3, y4.2 x i (by omega) q8 q9, hg1, rd_wr, if_neg q10, rd_wr, if_neg q11, rd_wr, if_neg q4]
          exact fa x i q1 q5 q6 q7
        · show RSch h2.1 (mrd h 0 8) 0 0
          rw [e8]
          exact RSch_of (hmx s (by omega)) (fun l _ _ => hmx _ (by omega)) (fun k _ _ => ⟨hmx _ (by omega), hmx _ (by omega)⟩) (hmx _ (by omega)) (hmx _ (by omega)) y5
        · show mrd h2 146 0 = 1
          rw [fin _ _ (by decide) (by decide), z3.2 _ _ (by omega) (by omega) (by omega) (by omega), rde]
        · show mrd h2 146 0 = mrd h2 235 44
          rw [fin _ _ (by decide) (by decide), z3.2 _ _ (by omega) (by omega) (by omega) (by omega), rde, hh2, rde]
        · show mrd h2 146 2 = mrd h2 257 0
          rw [fin _ _ (by decide) (by decide), y6.2.1.1, Int.add_zero, hh2, rdn1 (by decide), rdn2 (by decide), rdn2 (by decide), rdn2 (by decide), rde]
        · show mrd h2 146 3 = mrd h2 257 1
          rw [fin _ _ (by decide) (by decide), y6.2.2.1, hh2, rdn1 (by decide), rdn2 (by decide), rdn2 (by decide), rde]
        · show mrd h2 146 4 = mrd h2 257 2
          rw [fin _ _ (by decide) (by decide), y6.2.2.2.1, hh2, rdn1 (by decide), rdn2 (by decide), rde]
        · show mrd h2 146 5 = mrd h2 257 3
          rw [fin _ _ (by decide) (by decide), y6.2.2.2.2.1.1, hh2, rdn1 (by decide), rde]
        · show mrd h2 146 5 = 0 ∨ mrd h2 146 5 = 1
          rw [fin _ _ (by decide) (by decide), y6.2.2.2.2.1.1]
          exact y6.2.2.2.2.1.2
        · rw [n2 _ _ (by decide) (by decide), n2 _ _ (by decide) (by decide), y4.2 _ _ (by decide) (by decide) (by decide), y4.2 _ _ (by decide) (by decide) (by decide), hg1, rdn1 (by decide), rdn1 (by decide), rde, rde]
        · rw [fin _ _ (by decide) (by decide)]
          exact fa _ _ (by decide) (by omega) (by omega) (by omega)
  · refine opq hI (-1) 5 ?_ ?_
    · by_cases c0 : seed < 0
      · simp only [e153_0, e153_1, e153_4, e153_5, e153_8, e153_11, e153_12, e153_13, e153_16, e153_17, e153_18, e153_21, e153_24, e153_27, e153_30, e153_31, e153_33, e153_36, e153_37, e153_38, e153_41, e153_42, e153_45, e153_46, e153_49, e153_50, e153_51, e153_54, e153_57, e153_60, psh0, psh1, psh3, true_or, or_true, eq_self, Option.bind_some, List.length_nil, List.length_cons, Nat.reduceAdd, Nat.reduceLeDiff, Nat.zero_le, ↓reduceIte, Int.reduceLT, Int.reduceEq, Int.reduceLE, Int.reduceNeg, Int.reduceAdd, Int.reduceMul, Int.reduceSub, ne_eq, not_true_eq_false, not_false_eq_true, and_true, true_and, and_false, false_and, c3lt, c3gt, c3eq, Bool.false_eq_true, isK_wr, inA_wr, inR_wr, k0, c0, x_refuse]
      · have c1 : 9999 < seed := by omega
        simp only [e153_0, e153_1, e153_4, e153_5, e153_8, e153_11, e153_12, e153_13, e153_16, e153_17, e153_18, e153_21, e153_24, e153_27, e153_30, e153_31, e153_33, e153_36, e153_37, e153_38, e153_41, e153_42, e153_45, e153_46, e153_49, e153_50, e153_51, e153_54, e153_57, e153_60, psh0, psh1, psh3, true_or, or_true, eq_self, Option.bind_some, List.length_nil, List.length_cons, Nat.reduceAdd, Nat.reduceLeDiff, Nat.zero_le, ↓reduceIte, Int.reduceLT, Int.reduceEq, Int.reduceLE, Int.reduceNeg, Int.reduceAdd, Int.reduceMul, Int.reduceSub, ne_eq, not_true_eq_false, not_false_eq_true, and_true, true_and, and_false, false_and, c3lt, c3gt, c3eq, Bool.false_eq_true, isK_wr, inA_wr, inR_wr, k0, c0, c1, x_refuse]
    · simp only [e321_0, e321_1, e321_2, e321_5, e321_6, e321_7, e321_10, e321_11, e321_12, e321_13, e321_16, e321_19, e321_22, e321_23, e321_24, e321_27, e321_28, e321_29, e321_32, e321_35, e321_36, e321_39, e321_40, e321_42, e321_45, e321_46, e321_47, e321_48, e321_51, e321_52, e321_55, e321_56, e321_57, e321_60, e321_61, e321_62, e321_65, e321_66, e321_67, e321_70, e321_71, e321_72, e321_75, e321_76, e321_77, e321_80, e321_81, e321_82, e321_85, e321_86, e321_87, e321_90, e321_91, e321_92, e321_93, e321_96, e321_97, e321_100, psh0, psh1, psh3, true_or, or_true, eq_self, Option.bind_some, List.length_nil, List.length_cons, Nat.reduceAdd, Nat.reduceLeDiff, Nat.zero_le, ↓reduceIte, Int.reduceLT, Int.reduceEq, Int.reduceLE, Int.reduceNeg, Int.reduceAdd, Int.reduceMul, Int.reduceSub, ne_eq, not_true_eq_false, not_false_eq_true, and_true, true_and, and_false, false_and, c3lt, c3gt, c3eq, Bool.false_eq_true, isK_wr, inA_wr, inR_wr, kM, m_isIn, c, m_refuse, wrwr]
