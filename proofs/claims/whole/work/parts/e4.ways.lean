/-! ways, goes, lives -/
theorem okF_congr {len : Int} {told told' letter letter' needs needs' : Nat → Int} {T l : Nat} (h1 : ∀ p : Nat, (p : Int) < len → told p = told' p) (h2 : letter l = letter' l) (h3 : needs l = needs' l) : okF len told letter needs T l = okF len told' letter' needs' T l := by
  have hr := cB_rng (T : Int) 12
  unfold okF
  rw [h2]
  simp only [h3]
  by_cases c : cB (T : Int) 12 < len
  · rw [h1 (cB (T : Int) 12).toNat (by omega)]
  · rw [decide_eq_false c, Bool.false_and, Bool.false_and]
theorem Wy_congr {ok ok' : Nat → Nat → Bool} {N : Nat} (h : ∀ T l, l < N → ok T l = ok' T l) : ∀ T, Wy ok N T = Wy ok' N T := by
  intro T
  induction T using Nat.strongRecOn with
  | _ T ih =>
    by_cases c : T = 0
    · subst c; rfl
    · rw [W_rec c, W_rec c]
      refine sm_congr N (fun l hl => ?_)
      rw [h _ _ hl]
      by_cases hb : (T.testBit l && ok' (T - 2 ^ l) l) = true
      · rw [if_pos hb, if_pos hb]
        exact ih _ (del_lt (Bool.and_eq_true _ _ ▸ hb).1)
      · rw [if_neg hb, if_neg hb]
/-- the question of a row of letters f, n long, asked of the school as the reference has it -/
def okT (h : AM) (n : Int) (f : Nat → Int) : Nat → Nat → Bool := okF n f (fun l => mrd h 240 (4 + l)) (fun l => mrd h 240 (52 + l))
theorem okX_T {h h1 : AM} {s n : Int} {f : Nat → Int} {N : Nat} (hs : s = 162 ∨ s = 195) (ds : DS h s) (hf : SF h h1) (hN : mrd h 240 1 = N) (e2 : mrd h1 148 2 = n) (ht : ∀ p : Nat, (p : Int) < n → mrd h1 149 p = f p) {T l : Nat} (hl : l < N) : okX h1 s T l = okT h n f T l := by
  obtain ⟨d5, d6, d7, d8, dl, dc⟩ := ds
  obtain ⟨p1, p2, p3, p4, p5, p6⟩ := dl l (by omega) (by omega)
  unfold okX okT
  rw [e2]
  refine okF_congr ht ?_ ?_
  · show mrd h1 (s + 13 + l) 1 = mrd h 240 (4 + l)
    rw [hf.s hs (by omega), p1.1]
  · show mrd h1 (s + 13 + l) 6 = mrd h 240 (52 + l)
    rw [hf.s hs (by omega), p6.1]
theorem okR_T {h g : AM} {n : Int} {f : Nat → Int} {N : Nat} (hf : SF h g) (e2 : mrd g 235 27 = n) (ht : ∀ p : Nat, (p : Int) < n → mrd g 243 p = f p) {T l : Nat} (hl : l < N) : okR g T l = okT h n f T l := by
  unfold okR okT
  rw [e2]
  exact okF_congr ht (hf.c _) (hf.c _)
/-- the class counts -/
theorem xs_count {d : Nat} {h h1 : AM} {s n : Int} {f : Nat → Int} {N : Nat} (hI : Inv h) (hs : s = 162 ∨ s = 195) (ds : DS h s) (hf : SF h h1) (hN : mrd h 240 1 = N) (e2 : mrd h1 148 2 = n) (n0 : 0 ≤ n ∧ n ≤ 12) (ht : ∀ p : Nat, (p : Int) < n → mrd h1 149 p = f p) : ∃ h', EV (d + 2) 87 0 [(2, 148), (2, s), (3, 0), (3, 0), (3, 0), (3, 0), (3, 0), (3, 0)] [] h1 = some ((1, alF (Wy (okT h n f) N) n (2 ^ N)), h') ∧ SC h1 h' ∧ mrd h' 148 4 = fzF (Wy (okT h n f) N) (2 ^ N) := by
  have d6 := ds.2.1
  obtain ⟨h', g1, g2, g3⟩ := x_count (d := d) (N := N) hf.2.1 hf.2.2.1 (hf.cm hI).2.2 hs (by rw [hf.s hs (by omega), d6.1, hN]) (by omega) (by rw [e2]; exact n0)
  have eW := Wy_congr (N := N) (fun T l hl => okX_T (T := T) hs ds hf hN e2 ht hl)
  rw [e2, alF_congr (w' := Wy (okT h n f) N) (2 ^ N) (fun u _ => eW u)] at g1
  rw [fzF_congr (w' := Wy (okT h n f) N) (2 ^ N) (fun u _ => eW u)] at g3
  exact ⟨h', g1, g2, g3⟩
/-- the reference sums up -/
theorem ms_allWays {d : Nat} {h g : AM} {x n : Int} {f : Nat → Int} {N : Nat} (hI : Inv h) (hf : SF h g) (hN : mrd h 240 1 = N) (N12 : N ≤ 12) (e2 : mrd g 235 27 = n) (ht : ∀ p : Nat, (p : Int) < n → mrd g 243 p = f p) (hu : RowsU g g N (2 ^ N)) : EV (d + 2) 288 0 [(2, 235), (0, x), (3, 0), (3, 0), (3, 0)] [] g = some ((1, alF (Wy (okT h n f) N) x (2 ^ N)), g) := by
  have hp := pow_13 N12
  have eW := Wy_congr (N := N) (fun T l hl => okR_T (T := T) hf e2 ht hl)
  exact m_allWays (hf.cm hI) (by rw [hf.c]; exact hN) N12 (fun T hT => ⟨(hu T hT).1.trans (eW T), W_B N12 (by omega)⟩)
theorem op_ways : Op_ways Inv := by
  intro d h t n hI i0 i1
  obtain ⟨s, e8, hs, k0, kM, cs, ds⟩ := ctx hI
  have ds' := ds
  have ks := cs.1
  have r1 := cs.2.2.1
  have r2 := cs.2.2.2.1
  have r3 := cs.2.2.2.2.1
  have kl := cs.2.2.2.2.2.2.2.2.2.2.2.1
  have kc := cs.2.2.2.2.2.2.2.2.2.2.2.2
  obtain ⟨d5, d6, d7, d8, dl, dc⟩ := ds
  have hm : ∀ v, CM (mwr (mwr (mwr h 0 11 v) 235 1 0) 235 0 0) := fun v => CM_q (CM_of hI)
  obtain ⟨N, hN⟩ : ∃ N : Nat, mrd h 240 1 = N := ⟨(mrd h 240 1).toNat, by omega⟩
  obtain ⟨h1, g1, g2, g3⟩ := x_askTold (d := d + 57) (t := t) (n := n) hI
  have hf1 := (SF.rf hI).sc g2
  have x6 : mrd h 0 6 = 148 := rf_0_6 hI.2.1.1
  by_cases cT : TS h t n = 0
  · obtain ⟨q1, q2⟩ := g3 cT
    rw [cT] at g1
    have hn : 0 ≤ n ∧ n ≤ 12 := by
      unfold TS at cT
      by_cases c : RW h t n 0 = 0
      · obtain ⟨-, -, -, c4, c5⟩ := RW_0 c; exact ⟨c4, c5⟩
      · rw [if_neg c] at cT; exact absurd cT c
    refine opSF hI (alF (Wy (okT h n (fun p => tdF h t p)) N) n (2 ^ N)) 0 ?_ (fun h2 hf2 => ?_)
    · have hf2 : SF h (mwr h1 0 11 0) := hf1.wr Scr_st (by omega)
      obtain ⟨h3, c1, c2, c3⟩ := xs_count (d := d + 57) (n := n) (f := fun p => tdF h t p) hI hs ds' hf2 hN (by rw [rdn1 (by decide)]; exact q1) hn (fun p hp => by rw [rdn1 (by decide)]; exact q2 p hp)
      have e8' : mrd h1 0 8 = s := hf1.e8.trans e8
      have x6' : mrd h1 0 6 = 148 := (fr0 hf1.1 (by decide)).trans x6
      refine ⟨h3, ?_, hf2.sc c2, ?_⟩
      · simp only [e141_0, e141_1, e141_2, e141_3, e141_6, e141_7, e141_8, e141_11, e141_12, e141_13, e141_16, e141_17, e141_18, e141_19, e141_20, e141_23, e141_24, e141_27, e141_28, e141_31, e141_34, psh0, psh1, psh3, true_or, or_true, eq_self, Option.bind_some, List.length_nil, List.length_cons, Nat.reduceAdd, Nat.reduceLeDiff, Nat.zero_le, ↓reduceIte, Int.reduceLT, Int.reduceEq, Int.reduceLE, Int.reduceNeg, Int.reduceAdd, Int.reduceMul, Int.reduceSub, ne_eq, not_true_eq_false, not_false_eq_true, and_true, true_and, and_false, false_and, c3lt, c3gt, c3eq, Bool.false_eq_true, isK_wr, inA_wr, inR_wr, k0, g1, hf1.k0, rd_wr, x6', e8', kn_148 hf1.2.1, c1]
      · rw [c2.2.2.2 0 11 (by decide) (by decide) (by decide) (by omega), rde]
    · have cm2 := hf2.cm hI
      have hfq : SF h (mwr (mwr h2 235 1 0) 235 0 0) := hf2.q
      obtain ⟨g', f1, f2, f3, f4, f5⟩ := m_isTold (d := d + 56) (t := t) (n := n) hI hfq N hN
      obtain ⟨f6, l1, l2, l3, l4⟩ := f4 cT
      rw [if_pos cT] at f1
      have ga := ms_allWays (d := d + 57) (x := n) (n := n) (f := fun p => tdF h t p) hI f2 hN (by omega) l1 l2 l3
      refine ⟨g', ?_, f2, by rw [f6]; exact q00.1, by rw [f3]; exact q00.2⟩
      simp only [e293_0, e293_1, e293_2, e293_5, e293_6, e293_7, e293_10, e293_11, e293_12, e293_13, e293_16, e293_19, e293_20, e293_21, e293_24, e293_27, e293_30, psh0, psh1, psh3, true_or, or_true, eq_self, Option.bind_some, List.length_nil, List.length_cons, Nat.reduceAdd, Nat.reduceLeDiff, Nat.zero_le, ↓reduceIte, Int.reduceLT, Int.reduceEq, Int.reduceLE, Int.reduceNeg, Int.reduceAdd, Int.reduceMul, Int.reduceSub, ne_eq, not_true_eq_false, not_false_eq_true, and_true, true_and, and_false, false_and, c3lt, c3gt, c3eq, Bool.false_eq_true, isK_wr, inA_wr, inR_wr, cm2.1, f1, l4.1, ga]
  · refine opSF hI (-1) (TS h t n) ⟨mwr h1 0 11 (TS h t n), ?_, hf1.wr Scr_st (by omega), rde⟩ (fun h2 hf2 => ?_)
    · simp only [e141_0, e141_1, e141_2, e141_3, e141_6, e141_7, e141_8, e141_11, e141_12, e141_13, e141_16, e141_17, e141_18, e141_19, e141_20, e141_23, e141_24, e141_27, e141_28, e141_31, e141_34, psh0, psh1, psh3, true_or, or_true, eq_self, Option.bind_some, List.length_nil, List.length_cons, Nat.reduceAdd, Nat.reduceLeDiff, Nat.zero_le, ↓reduceIte, Int.reduceLT, Int.reduceEq, Int.reduceLE, Int.reduceNeg, Int.reduceAdd, Int.reduceMul, Int.reduceSub, ne_eq, not_true_eq_false, not_false_eq_true, and_true, true_and, and_false, false_and, c3lt, c3gt, c3eq, Bool.false_eq_true, isK_wr, inA_wr, inR_wr, k0, g1, cT, hf1.k0, x_refuse]
    · have cm2 := hf2.cm hI
      have hfq : SF h (mwr (mwr h2 235 1 0) 235 0 0) := hf2.q
      obtain ⟨g', f1, f2, f3, f4, f5⟩ := m_isTold (d := d + 56) (t := t) (n := n) hI hfq N hN
      rw [if_neg cT] at f1
      refine ⟨g', ?_, f2, f5 cT, by rw [f3]; exact q00.2⟩
      simp only [e293_0, e293_1, e293_2, e293_5, e293_6, e293_7, e293_10, e293_11, e293_12, e293_13, e293_16, e293_19, e293_20, e293_21, e293_24, e293_27, e293_30, psh0, psh1, psh3, true_or, or_true, eq_self, Option.bind_some, List.length_nil, List.length_cons, Nat.reduceAdd, Nat.reduceLeDiff, Nat.zero_le, ↓reduceIte, Int.reduceLT, Int.reduceEq, Int.reduceLE, Int.reduceNeg, Int.reduceAdd, Int.reduceMul, Int.reduceSub, ne_eq, not_true_eq_false, not_false_eq_true, and_true, true_and, and_false, false_and, c3lt, c3gt, c3eq, Bool.false_eq_true, isK_wr, inA_wr, inR_wr, cm2.1, f1]
theorem TS_n {h : AM} {t n : Int} (cT : TS h t n = 0) : 0 ≤ n ∧ n ≤ 12 := by
  unfold TS at cT
  by_cases c : RW h t n 0 = 0
  · obtain ⟨-, -, -, c4, c5⟩ := RW_0 c; exact ⟨c4, c5⟩
  · rw [if_neg c] at cT; exact absurd cT c
/-! how far ways go -/
theorem fzF_spec {w : Nat → Int} (w0 : w 0 ≠ 0) : ∀ t : Nat, 0 < t → (∃ u, u < t ∧ w u ≠ 0 ∧ cB (u : Int) 12 = fzF w t) ∧ ∀ u, u < t → w u ≠ 0 → cB (u : Int) 12 ≤ fzF w t := by
  intro t
  induction t with
  | zero => intro h; omega
  | succ t ih =>
    intro _
    rw [fzF]
    by_cases ct : t = 0
    · subst ct
      have cz : cB ((0 : Nat) : Int) 12 = 0 := by decide +kernel
      have e0 : fzF w 0 = 0 := rfl
      rw [if_neg w0, cz, e0, if_neg (by decide)]
      refine ⟨⟨0, by omega, w0, cz⟩, fun u hu _ => ?_⟩
      have : u = 0 := by omega
      subst this
      rw [cz]; exact Int.le_refl 0
    · obtain ⟨⟨u, u1, u2, u3⟩, hu⟩ := ih (by omega)
      by_cases cw : w t = 0
      · rw [if_pos cw]
        refine ⟨⟨u, by omega, u2, u3⟩, fun v hv hw => hu v ?_ hw⟩
        by_cases e : v = t
        · subst e; exact absurd cw hw
        · omega
      · rw [if_neg cw]
        by_cases cl : fzF w t < cB (t : Int) 12
        · rw [if_pos cl]
          refine ⟨⟨t, by omega, cw, rfl⟩, fun v hv hw => ?_⟩
          by_cases e : v = t
          · subst e; exact Int.le_refl _
          · have := hu v (by omega) hw; omega
        · rw [if_neg cl]
          refine ⟨⟨u, by omega, u2, u3⟩, fun v hv hw => ?_⟩
          by_cases e : v = t
          · subst e; omega
          · exact hu v (by omega) hw
theorem alF_0 {w : Nat → Int} {x : Int} : ∀ t : Nat, (∀ u : Nat, u < t → cB (u : Int) 12 = x → w u = 0) → alF w x t = 0
  | 0, _ => rfl
  | t + 1, h => by
    rw [alF, alF_0 t (fun u hu => h u (by omega))]
    split
    · rename_i c; rw [h t (by omega) c]; rfl
    · rfl
theorem alF_pos {w : Nat → Int} {x : Int} : ∀ t, (∀ u, u < t → 0 ≤ w u) → 0 ≤ alF w x t ∧ ∀ u, u < t → cB (u : Int) 12 = x → w u ≤ alF w x t
  | 0, _ => ⟨Int.le_refl 0, fun u hu => by omega⟩
  | t + 1, h => by
    obtain ⟨h1, h2⟩ := alF_pos (x := x) t (fun u hu => h u (by omega))
    have h3 := h t (by omega)
    rw [alF]
    refine ⟨by split <;> omega, fun u hu hc => ?_⟩
    by_cases e : u = t
    · subst e
      rw [if_pos hc]; omega
    · have := h2 u (by omega) hc
      split <;> omega
theorem W_size {n : Int} {told letter needs : Nat → Int} {N : Nat} (hN : N ≤ 12) (n0 : 0 ≤ n) {T : Nat} (hT : T < 2 ^ N) (hw : Wy (okF n told letter needs) N T ≠ 0) : cB (T : Int) 12 ≤ n := by
  have hp := pow_13 hN
  by_cases c : T = 0
  · subst c
    have cz : cB ((0 : Nat) : Int) 12 = 0 := by decide +kernel
    rw [cz]; exact n0
  · obtain ⟨l, hl, hb⟩ := (W_pos hN c (by omega)).mp hw
    rw [Bool.and_eq_true, Bool.and_eq_true] at hb
    obtain ⟨h1, h2, h3⟩ := bit_del hb.1
    have hp0 := Nat.two_pow_pos l
    have h4 := cB_ins (x := T - 2 ^ l) (l := l) (by omega) (by omega) h3
    rw [← h2] at h4
    have h5 := hb.2.1
    unfold okF at h5
    rw [Bool.and_eq_true, decide_eq_true_iff] at h5
    omega
theorem m_goes_loop {d : Nat} {g : AM} {t x F : Int} {w : Int → Int} (hk : isK g 235 11) (ga : ∀ x, EV (d + 2) 288 0 [(2, 235), (0, x), (3, 0), (3, 0), (3, 0)] [] g = some ((1, w x), g)) (hF : w F ≠ 0) (hz : ∀ j, F < j → j ≤ 12 → w j = 0) (F0 : 0 ≤ F) (m : Nat) : ∀ j : Int, F ≤ j → j ≤ 12 → j = F + m → EV (d + 3) 296 23 [(2, 235), (0, t), (0, x), (0, j)] [] g = some ((0, F), g) := by
  induction m with
  | zero =>
    intro j h1 h2 h3
    have e : j = F := by omega
    subst e
    rw [e296_23]
    simp only [e296_0, e296_1, e296_2, e296_5, e296_6, e296_7, e296_10, e296_11, e296_12, e296_13, e296_16, e296_19, e296_20, e296_21, e296_22, e296_24, e296_25, e296_28, e296_29, e296_30, e296_33, e296_36, e296_39, e296_40, psh0, psh1, psh3, true_or, or_true, eq_self, Option.bind_some, List.length_nil, List.length_cons, Nat.reduceAdd, Nat.reduceLeDiff, Nat.zero_le, ↓reduceIte, Int.reduceLT, Int.reduceEq, Int.reduceLE, Int.reduceNeg, Int.reduceAdd, Int.reduceMul, Int.reduceSub, ne_eq, not_true_eq_false, not_false_eq_true, and_true, true_and, and_false, false_and, c3lt, c3gt, c3eq, Bool.false_eq_true, isK_wr, inA_wr, inR_wr, hk, ga, hF]
  | succ m ih =>
    intro j h1 h2 h3
    have hw := hz j (by omega) h2
    have w1 : w32 (j + -1) = j - 1 := by rw [w32_id (by omega) (by omega)]; omega
    rw [← ih (j - 1) (by omega) (by omega) (by omega), e296_23]
    simp only [e296_0, e296_1, e296_2, e296_5, e296_6, e296_7, e296_10, e296_11, e296_12, e296_13, e296_16, e296_19, e296_20, e296_21, e296_22, e296_24, e296_25, e296_28, e296_29, e296_30, e296_33, e296_36, e296_39, e296_40, psh0, psh1, psh3, true_or, or_true, eq_self, Option.bind_some, List.length_nil, List.length_cons, Nat.reduceAdd, Nat.reduceLeDiff, Nat.zero_le, ↓reduceIte, Int.reduceLT, Int.reduceEq, Int.reduceLE, Int.reduceNeg, Int.reduceAdd, Int.reduceMul, Int.reduceSub, ne_eq, not_true_eq_false, not_false_eq_true, and_true, true_and, and_false, false_and, c3lt, c3gt, c3eq, Bool.false_eq_true, isK_wr, inA_wr, inR_wr, hk, ga, hw, w1]
theorem op_goes : Op_goes Inv := by
  intro d h t n hI i0 i1
  obtain ⟨s, e8, hs, k0, kM, cs, ds⟩ := ctx hI
  have ds' := ds
  have ks := cs.1
  have r1 := cs.2.2.1
  have r2 := cs.2.2.2.1
  have r3 := cs.2.2.2.2.1
  have kl := cs.2.2.2.2.2.2.2.2.2.2.2.1
  have kc := cs.2.2.2.2.2.2.2.2.2.2.2.2
  obtain ⟨d5, d6, d7, d8, dl, dc⟩ := ds
  have hm : ∀ v, CM (mwr (mwr (mwr h 0 11 v) 235 1 0) 235 0 0) := fun v => CM_q (CM_of hI)
  obtain ⟨N, hN⟩ : ∃ N : Nat, mrd h 240 1 = N := ⟨(mrd h 240 1).toNat, by omega⟩
  obtain ⟨h1, g1, g2, g3⟩ := x_askTold (d := d + 57) (t := t) (n := n) hI
  have hf1 := (SF.rf hI).sc g2
  have x6 : mrd h 0 6 = 148 := rf_0_6 hI.2.1.1
  by_cases cT : TS h t n = 0
  · obtain ⟨q1, q2⟩ := g3 cT
    rw [cT] at g1
    have hn := TS_n cT
    have hp := pow_13 (n := N) (by omega)
    have hp0 := Nat.two_pow_pos N
    have hsp := fzF_spec (w := Wy (okT h n (fun p => tdF h t p)) N) (by rw [W_0]; decide) (2 ^ N) hp0
    have hnn : ∀ u, u < 2 ^ N → 0 ≤ Wy (okT h n (fun p => tdF h t p)) N u := fun u hu => (W_B (by omega) (by omega)).1
    refine opSF hI (fzF (Wy (okT h n (fun p => tdF h t p)) N) (2 ^ N)) 0 ?_ (fun h2 hf2 => ?_)
    · obtain ⟨h3, c1, c2, c3⟩ := xs_count (d := d + 57) (n := n) (f := fun p => tdF h t p) hI hs ds' hf1 hN q1 hn q2
      have e8' : mrd h1 0 8 = s := hf1.e8.trans e8
      have x6' : mrd h1 0 6 = 148 := (fr0 hf1.1 (by decide)).trans x6
      have hf3 := hf1.sc c2
      have x6'' : mrd h3 0 6 = 148 := (fr0 hf3.1 (by decide)).trans x6
      refine ⟨mwr h3 0 11 0, ?_, hf3.wr Scr_st (by omega), rde⟩
      simp only [e144_0, e144_1, e144_2, e144_3, e144_6, e144_7, e144_8, e144_11, e144_12, e144_13, e144_16, e144_17, e144_18, e144_21, e144_22, e144_25, e144_28, e144_29, e144_30, e144_31, e144_34, e144_37, e144_40, psh0, psh1, psh3, true_or, or_true, eq_self, Option.bind_some, List.length_nil, List.length_cons, Nat.reduceAdd, Nat.reduceLeDiff, Nat.zero_le, ↓reduceIte, Int.reduceLT, Int.reduceEq, Int.reduceLE, Int.reduceNeg, Int.reduceAdd, Int.reduceMul, Int.reduceSub, ne_eq, not_true_eq_false, not_false_eq_true, and_true, true_and, and_false, false_and, c3lt, c3gt, c3eq, Bool.false_eq_true, isK_wr, inA_wr, inR_wr, k0, g1, hf1.k0, x6', e8', kn_148 hf1.2.1, c1, hf3.k0, x6'', kn_148 hf3.2.1, c3, x_answer]
    · have cm2 := hf2.cm hI
      have hfq : SF h (mwr (mwr h2 235 1 0) 235 0 0) := hf2.q
      obtain ⟨g', f1, f2, f3, f4, f5⟩ := m_isTold (d := d + 56) (t := t) (n := n) hI hfq N hN
      obtain ⟨f6, l1, l2, l3, l4⟩ := f4 cT
      rw [if_pos cT] at f1
      have ga := fun x => ms_allWays (d := d + 57) (x := x) (n := n) (f := fun p => tdF h t p) hI f2 hN (by omega) l1 l2 l3
      obtain ⟨⟨u, u1, u2, u3⟩, hu⟩ := hsp
      have hsz := W_size (n := n) (by omega) hn.1 u1 u2
      have hfr := fzF_rng (Wy (okT h n (fun p => tdF h t p)) N) (2 ^ N)
      have gl := m_goes_loop (d := d + 57) (t := t) (x := n) (F := fzF (Wy (okT h n (fun p => tdF h t p)) N) (2 ^ N)) l4.1 ga (by
        have := (alF_pos (w := Wy (okT h n (fun p => tdF h t p)) N) (x := fzF (Wy (okT h n (fun p => tdF h t p)) N) (2 ^ N)) (2 ^ N) hnn).2 u u1 u3
        have := hnn u u1
        omega) (fun j h1 h2 => alF_0 _ (fun v hv hc => Classical.byContradiction fun hne => by have := hu v hv hne; omega)) hfr.1 (n - fzF (Wy (okT h n (fun p => tdF h t p)) N) (2 ^ N)).toNat n (by omega) hn.2 (by omega)
      refine ⟨g', ?_, f2, by rw [f6]; exact q00.1, by rw [f3]; exact q00.2⟩
      refine Eq.trans ?_ gl
      simp only [e296_0, e296_1, e296_2, e296_5, e296_6, e296_7, e296_10, e296_11, e296_12, e296_13, e296_16, e296_19, e296_20, e296_21, e296_22, e296_24, e296_25, e296_28, e296_29, e296_30, e296_33, e296_36, e296_39, e296_40, psh0, psh1, psh3, true_or, or_true, eq_self, Option.bind_some, List.length_nil, List.length_cons, Nat.reduceAdd, Nat.reduceLeDiff, Nat.zero_le, ↓reduceIte, Int.reduceLT, Int.reduceEq, Int.reduceLE, Int.reduceNeg, Int.reduceAdd, Int.reduceMul, Int.reduceSub, ne_eq, not_true_eq_false, not_false_eq_true, and_true, true_and, and_false, false_and, c3lt, c3gt, c3eq, Bool.false_eq_true, isK_wr, inA_wr, inR_wr, cm2.1, f1]
  · refine opSF hI (-1) (TS h t n) ⟨mwr h1 0 11 (TS h t n), ?_, hf1.wr Scr_st (by omega), rde⟩ (fun h2 hf2 => ?_)
    · simp only [e144_0, e144_1, e144_2, e144_3, e144_6, e144_7, e144_8, e144_11, e144_12, e144_13, e144_16, e144_17, e144_18, e144_21, e144_22, e144_25, e144_28, e144_29, e144_30, e144_31, e144_34, e144_37, e144_40, psh0, psh1, psh3, true_or, or_true, eq_self, Option.bind_some, List.length_nil, List.length_cons, Nat.reduceAdd, Nat.reduceLeDiff, Nat.zero_le, ↓reduceIte, Int.reduceLT, Int.reduceEq, Int.reduceLE, Int.reduceNeg, Int.reduceAdd, Int.reduceMul, Int.reduceSub, ne_eq, not_true_eq_false, not_false_eq_true, and_true, true_and, and_false, false_and, c3lt, c3gt, c3eq, Bool.false_eq_true, isK_wr, inA_wr, inR_wr, k0, g1, cT, hf1.k0, x_refuse]
    · have cm2 := hf2.cm hI
      have hfq : SF h (mwr (mwr h2 235 1 0) 235 0 0) := hf2.q
      obtain ⟨g', f1, f2, f3, f4, f5⟩ := m_isTold (d := d + 56) (t := t) (n := n) hI hfq N hN
      rw [if_neg cT] at f1
      refine ⟨g', ?_, f2, f5 cT, by rw [f3]; exact q00.2⟩
      simp only [e296_0, e296_1, e296_2, e296_5, e296_6, e296_7, e296_10, e296_11, e296_12, e296_13, e296_16, e296_19, e296_20, e296_21, e296_22, e296_24, e296_25, e296_28, e296_29, e296_30, e296_33, e296_36, e296_39, e296_40, psh0, psh1, psh3, true_or, or_true, eq_self, Option.bind_some, List.length_nil, List.length_cons, Nat.reduceAdd, Nat.reduceLeDiff, Nat.zero_le, ↓reduceIte, Int.reduceLT, Int.reduceEq, Int.reduceLE, Int.reduceNeg, Int.reduceAdd, Int.reduceMul, Int.reduceSub, ne_eq, not_true_eq_false, not_false_eq_true, and_true, true_and, and_false, false_and, c3lt, c3gt, c3eq, Bool.false_eq_true, isK_wr, inA_wr, inR_wr, cm2.1, f1]
section
variable {d : Nat} {h g : AM} {s a b c k l p t v w x y z : Int}
theorem x_hearName_loop {h0 : AM} (hI : Inv h0) (h6 : s = 162 ∨ s = 195) (ds : DS h0 s) (k0 : 0 ≤ k) (k1 : k < mrd h0 240 2) (M : Nat) (hM : mrd h0 240 (76 + k) = M) (m : Nat) : ∀ i : Nat, i + m = M → EV (d + 1) 83 2 [(2, 148), (2, s), (2, s + 25 + 2 * k), (0, (i : Int))] [] (mff h0 149 0 i (fun p => LT h0 k p)) = some ((3, 0), mwr (mff h0 149 0 M (fun p => LT h0 k p)) 148 2 M) := by
  have q0 : mrd h0 148 0 = 149 := rf_148_0 hI.2.1.1
  have k148 := kn_148 hI.1
  have sf : ∀ j, SF h0 (mff h0 149 0 j (fun p => LT h0 k p)) := fun j => (SF.rf hI).sc (SC_ff (SC.rf hI.1 hI.2.2.2.1))
  have d7 := ds.2.2.1
  have b12 := (MC_of ds k0 k1).2.1
  have q6 := (ds.2.2.2.2.2 k k0 k1).2.2.2.1
  have nC : (s + 25 + 2 * k = 149) = False := eq_false (by omega)
  obtain ⟨t1, t2, t3, t4, t5, t6⟩ := (CS_of hI.1 hI.2.1.1 (S6_cur h6)).2.2.2.2.2.2.2.2.2.2.2.2 k k0 (by omega)
  induction m with
  | zero =>
    intro i hi
    have e : i = M := by omega
    subst e
    rw [e83_2]
    simp only [e83_0, e83_1, e83_3, e83_4, e83_7, e83_10, e83_11, e83_14, e83_15, e83_16, e83_17, e83_18, e83_21, e83_22, e83_25, e83_28, e83_29, e83_30, e83_33, e83_36, psh0, psh1, psh3, true_or, or_true, eq_self, Option.bind_some, List.length_nil, List.length_cons, Nat.reduceAdd, Nat.reduceLeDiff, Nat.zero_le, ↓reduceIte, Int.reduceLT, Int.reduceEq, Int.reduceLE, Int.reduceNeg, Int.reduceAdd, Int.reduceMul, Int.reduceSub, ne_eq, not_true_eq_false, not_false_eq_true, and_true, true_and, and_false, false_and, c3lt, c3gt, c3eq, Bool.false_eq_true, isK_wr, inA_wr, inR_wr, isK_ff, t3, rdff, nC, q6.1, hM, Int.lt_irrefl, k148]
  | succ m ih =>
    intro i hi
    have ci : (i : Int) < M := by omega
    have w1 : w32 ((i : Int) + 1) = ((i + 1 : Nat) : Int) := by rw [w32_id (by omega) (by omega)]; omega
    have i2 : inA h0 149 16 i := ⟨kn_149 hI.1, by omega, by rw [ln_149 hI.1]; omega⟩
    have gl := x_letter (d := d) (c := k) (p := (i : Int)) ((sf i).cs hI h6) ((sf i).ds h6 ds) k0 (by rw [(sf i).c]; exact k1) (by omega) (by rw [(sf i).c]; omega)
    rw [LT_congr (sf i).c] at gl
    have e := mff_s (h := h0) (a := 149) (i := 0) (n := i) (f := fun p => LT h0 k p) (by omega)
    rw [Int.zero_add] at e
    have ks := (CS_of hI.1 hI.2.1.1 (S6_cur h6)).1
    rw [← ih (i + 1) (by omega), e83_2]
    simp only [e83_0, e83_1, e83_3, e83_4, e83_7, e83_10, e83_11, e83_14, e83_15, e83_16, e83_17, e83_18, e83_21, e83_22, e83_25, e83_28, e83_29, e83_30, e83_33, e83_36, psh0, psh1, psh3, true_or, or_true, eq_self, Option.bind_some, List.length_nil, List.length_cons, Nat.reduceAdd, Nat.reduceLeDiff, Nat.zero_le, ↓reduceIte, Int.reduceLT, Int.reduceEq, Int.reduceLE, Int.reduceNeg, Int.reduceAdd, Int.reduceMul, Int.reduceSub, ne_eq, not_true_eq_false, not_false_eq_true, and_true, true_and, and_false, false_and, c3lt, c3gt, c3eq, Bool.false_eq_true, isK_wr, inA_wr, inR_wr, isK_ff, inA_ff, t3, rdff, nC, q6.1, hM, ci, k148, q0, ks, gl, i2, w1, e]
    rfl
end
theorem op_lives : Op_lives Inv := by
  intro d h a0 hI i0
  obtain ⟨s, e8, hs, k0, kM, cs, ds⟩ := ctx hI
  have ds' := ds
  have ks := cs.1
  have r1 := cs.2.2.1
  have r2 := cs.2.2.2.1
  have r3 := cs.2.2.2.2.1
  have kl := cs.2.2.2.2.2.2.2.2.2.2.2.1
  have kc := cs.2.2.2.2.2.2.2.2.2.2.2.2
  obtain ⟨d5, d6, d7, d8, dl, dc⟩ := ds
  have hm : ∀ v, CM (mwr (mwr (mwr h 0 11 v) 235 1 0) 235 0 0) := fun v => CM_q (CM_of hI)
  have hx := x_hasChild_q (d := d + 59) (k := a0) ks d7.1
  have x6 : mrd h 0 6 = 148 := rf_0_6 hI.2.1.1
  have k148 := kn_148 hI.1
  by_cases hc : 0 ≤ a0 ∧ a0 < mrd h 240 2
  · simp only [hc, and_self, if_true] at hx
    obtain ⟨t1, t2, t3, t4, t5, t6⟩ := kc a0 hc.1 (by omega)
    obtain ⟨q1, q2, q3, q4, q5, q6, q7⟩ := dc a0 hc.1 hc.2
    obtain ⟨N, hN⟩ : ∃ N : Nat, mrd h 240 1 = N := ⟨(mrd h 240 1).toNat, by omega⟩
    obtain ⟨M, hM⟩ : ∃ M : Nat, mrd h 240 (76 + a0) = M := ⟨(mrd h 240 (76 + a0)).toNat, by omega⟩
    refine opSF hI (alF (Wy (okT h M (fun p => LT h a0 p)) N) M (2 ^ N)) 0 ?_ (fun h2 hf2 => ?_)
    · have gl := x_hearName_loop (d := d + 58) hI hs ds' hc.1 hc.2 M hM M 0 (by omega)
      rw [show ((0 : Nat) : Int) = 0 from rfl, mff_0] at gl
      have gl' : EV (d + 59) 83 0 [(2, 148), (2, s), (2, s + 25 + 2 * a0), (3, 0)] [] h = some ((3, 0), mwr (mff h 149 0 M (fun p => LT h a0 p)) 148 2 M) := by
        refine Eq.trans ?_ gl
        simp only [e83_0, e83_1, e83_3, e83_4, e83_7, e83_10, e83_11, e83_14, e83_15, e83_16, e83_17, e83_18, e83_21, e83_22, e83_25, e83_28, e83_29, e83_30, e83_33, e83_36, psh0, psh1, psh3, true_or, or_true, eq_self, Option.bind_some, List.length_nil, List.length_cons, Nat.reduceAdd, Nat.reduceLeDiff, Nat.zero_le, ↓reduceIte, Int.reduceLT, Int.reduceEq, Int.reduceLE, Int.reduceNeg, Int.reduceAdd, Int.reduceMul, Int.reduceSub, ne_eq, not_true_eq_false, not_false_eq_true, and_true, true_and, and_false, false_and, c3lt, c3gt, c3eq, Bool.false_eq_true, isK_wr, inA_wr, inR_wr]
      obtain ⟨h1, hh1⟩ : ∃ h1, h1 = mwr (mff h 149 0 M (fun p => LT h a0 p)) 148 2 M := ⟨_, rfl⟩
      rw [← hh1] at gl'
      have hf1 : SF h h1 := by
        rw [hh1]
        exact (SF.rf hI).sc (SC_wr (SC_ff (SC.rf hI.1 hI.2.2.2.1)) (Or.inr (Or.inl ⟨rfl, Or.inl rfl⟩)))
      have hf2 : SF h (mwr h1 0 11 0) := hf1.wr Scr_st (by omega)
      obtain ⟨h3, c1, c2, c3⟩ := xs_count (d := d + 57) (n := M) (f := fun p => LT h a0 p) hI hs ds' hf2 hN (by rw [rdn1 (by decide), hh1, rde]) (by omega) (fun p hp => by
        rw [rdn1 (by decide), hh1, rdn1 (by decide), rd_ff, if_pos ⟨rfl, by omega, by omega⟩, Int.sub_zero])
      have e8' : mrd h1 0 8 = s := hf1.e8.trans e8
      have x6' : mrd h1 0 6 = 148 := (fr0 hf1.1 (by decide)).trans x6
      refine ⟨h3, ?_, hf2.sc c2, ?_⟩
      · simp only [e145_0, e145_1, e145_4, e145_5, e145_8, e145_11, e145_12, e145_13, e145_16, e145_17, e145_18, e145_19, e145_22, e145_23, e145_26, e145_27, e145_30, e145_33, e145_34, e145_35, e145_38, e145_39, e145_40, e145_43, e145_44, e145_47, e145_48, e145_51, e145_54, psh0, psh1, psh3, true_or, or_true, eq_self, Option.bind_some, List.length_nil, List.length_cons, Nat.reduceAdd, Nat.reduceLeDiff, Nat.zero_le, ↓reduceIte, Int.reduceLT, Int.reduceEq, Int.reduceLE, Int.reduceNeg, Int.reduceAdd, Int.reduceMul, Int.reduceSub, ne_eq, not_true_eq_false, not_false_eq_true, and_true, true_and, and_false, false_and, c3lt, c3gt, c3eq, Bool.false_eq_true, isK_wr, inA_wr, inR_wr, k0, e8, ks, r2, hx, t1, t2, x6, k148, gl', hf1.k0, rd_wr, x6', e8', kn_148 hf1.2.1, c1]
      · rw [c2.2.2.2 0 11 (by decide) (by decide) (by decide) (by omega), rde]
    · have cm2 := hf2.cm hI
      have hfq : SF h (mwr (mwr h2 235 1 0) 235 0 0) := hf2.q
      have hl := m_isChildAt_s (d := d + 58) (k := a0) hI hfq
      rw [if_pos hc] at hl
      obtain ⟨g1, e1, e2⟩ := ms_lay (d := d + 57) (x := 0) hI ds' hc.1 hc.2 M hM hfq
      rw [kp_0] at e2
      have hf3 := hfq.spm e2
      have cm3 := hf3.cm hI
      have e27 : mrd g1 235 27 = M := by rw [e2.2.2.1, kp_none]
      have er : ∀ p : Nat, (p : Int) < M → mrd g1 243 p = LT h a0 p := fun p hp => by
        rw [e2.2.2.2 p (by rw [kp_none]; omega), kp_getD _ _ _ (by omega)]
      have fr1 : FR g1 N := by
        refine ⟨cm3, by rw [hf3.c]; exact hN, by omega, by rw [e27]; omega, fun p hp => ?_, fun l hl => ?_⟩
        · rw [e27] at hp
          rw [er p hp]
          have := LT_rng ds' hc.1 hc.2 (p := p) (by omega) (by omega)
          omega
        · obtain ⟨p1, p2, p3, p4, p5, p6⟩ := dl l (by omega) (by omega)
          rw [hf3.c, hf3.c]
          omega
      obtain ⟨g2, f1, f2, f3⟩ := m_fill (d := d + 57) fr1
      have hf4 := hf3.fq f2
      have cm4 := hf4.cm hI
      have e27' : mrd g2 235 27 = M := by rw [f2.2 _ _ (by decide) (by decide) (by decide)]; exact e27
      have ga := ms_allWays (d := d + 57) (x := M) (n := M) (f := fun p => LT h a0 p) hI hf4 hN (by omega) e27' (fun p hp => by rw [f2.2 _ _ (by decide) (by decide) (by decide)]; exact er p hp) (RowsU_self f2 fr1 f3)
      refine ⟨g2, ?_, hf4, ?_, ?_⟩
      · simp only [e297_0, e297_1, e297_2, e297_5, e297_6, e297_7, e297_10, e297_11, e297_12, e297_15, e297_18, e297_19, e297_20, e297_23, e297_24, e297_25, e297_26, e297_27, e297_28, e297_31, e297_32, e297_35, e297_36, e297_37, e297_40, e297_43, psh0, psh1, psh3, true_or, or_true, eq_self, Option.bind_some, List.length_nil, List.length_cons, Nat.reduceAdd, Nat.reduceLeDiff, Nat.zero_le, ↓reduceIte, Int.reduceLT, Int.reduceEq, Int.reduceLE, Int.reduceNeg, Int.reduceAdd, Int.reduceMul, Int.reduceSub, ne_eq, not_true_eq_false, not_false_eq_true, and_true, true_and, and_false, false_and, c3lt, c3gt, c3eq, Bool.false_eq_true, isK_wr, inA_wr, inR_wr, cm2.1, hl, e1, cm3.1, f1, cm4.1, e27', ga]
      · rw [f2.2 _ _ (by decide) (by decide) (by decide), e2.2.1 _ _ (by decide) (by omega)]; exact q00.1
      · rw [f2.2 _ _ (by decide) (by decide) (by decide), e2.2.1 _ _ (by decide) (by omega)]; exact q00.2
  · have hl := fun v => m_isChildAt_q (d := d + 58) (k := a0) hI v
    simp only [hc, if_false] at hl hx
    refine opq hI (-1) 2 ?_ ?_
    · simp only [e145_0, e145_1, e145_4, e145_5, e145_8, e145_11, e145_12, e145_13, e145_16, e145_17, e145_18, e145_19, e145_22, e145_23, e145_26, e145_27, e145_30, e145_33, e145_34, e145_35, e145_38, e145_39, e145_40, e145_43, e145_44, e145_47, e145_48, e145_51, e145_54, psh0, psh1, psh3, true_or, or_true, eq_self, Option.bind_some, List.length_nil, List.length_cons, Nat.reduceAdd, Nat.reduceLeDiff, Nat.zero_le, ↓reduceIte, Int.reduceLT, Int.reduceEq, Int.reduceLE, Int.reduceNeg, Int.reduceAdd, Int.reduceMul, Int.reduceSub, ne_eq, not_true_eq_false, not_false_eq_true, and_true, true_and, and_false, false_and, c3lt, c3gt, c3eq, Bool.false_eq_true, isK_wr, inA_wr, inR_wr, k0, e8, ks, x_refuse, hx]
    · simp only [e297_0, e297_1, e297_2, e297_5, e297_6, e297_7, e297_10, e297_11, e297_12, e297_15, e297_18, e297_19, e297_20, e297_23, e297_24, e297_25, e297_26, e297_27, e297_28, e297_31, e297_32, e297_35, e297_36, e297_37, e297_40, e297_43, psh0, psh1, psh3, true_or, or_true, eq_self, Option.bind_some, List.length_nil, List.length_cons, Nat.reduceAdd, Nat.reduceLeDiff, Nat.zero_le, ↓reduceIte, Int.reduceLT, Int.reduceEq, Int.reduceLE, Int.reduceNeg, Int.reduceAdd, Int.reduceMul, Int.reduceSub, ne_eq, not_true_eq_false, not_false_eq_true, and_true, true_and, and_false, false_and, c3lt, c3gt, c3eq, Bool.false_eq_true, isK_wr, inA_wr, inR_wr, kM, hl, m_refuse, wrwr]
