def AllOps (Inv : AM → Prop) : Prop := Op_status Inv ∧ Op_top Inv ∧ Op_bottom Inv ∧ Op_tray Inv ∧ Op_write Inv ∧ Op_read Inv ∧ Op_pour Inv ∧ Op_feed Inv ∧ Op_school Inv ∧ Op_age Inv ∧ Op_fault Inv ∧ Op_many Inv ∧ Op_lesson Inv ∧ Op_child Inv ∧ Op_letter Inv ∧ Op_teaches Inv ∧ Op_copyName Inv ∧ Op_learn Inv ∧ Op_lose Inv ∧ Op_rest Inv ∧ Op_pay Inv ∧ Op_ready Inv ∧ Op_takes Inv ∧ Op_opens Inv ∧ Op_choice Inv ∧ Op_said Inv ∧ Op_stumbles Inv ∧ Op_drop Inv ∧ Op_firm Inv ∧ Op_weak Inv ∧ Op_vowels Inv ∧ Op_rhyme Inv ∧ Op_apart Inv ∧ Op_behind Inv ∧ Op_life Inv ∧ Op_soonest Inv ∧ Op_cheapest Inv ∧ Op_ways Inv ∧ Op_first Inv ∧ Op_firstAt Inv ∧ Op_goes Inv ∧ Op_lives Inv ∧ Op_orders Inv ∧ Op_reach Inv ∧ Op_sayable Inv ∧ Op_root Inv ∧ Op_plans Inv ∧ Op_waited Inv ∧ Op_began Inv ∧ Op_live Inv ∧ Op_lived Inv ∧ Op_odds Inv ∧ Op_mark Inv ∧ Op_back Inv
theorem and63 (x : Int) : 0 ≤ i_and x 63 ∧ i_and x 63 ≤ 63 := by
  unfold i_and i2
  obtain ⟨j, hj, e⟩ := pk_andE (Int32.ofInt x) (m := Int32.ofInt 63) 6 (by decide)
  dsimp only
  rw [e, nI_toInt (by omega)]
  omega

set_option maxRecDepth 100000 in
set_option maxHeartbeats 8000000 in
theorem law_step {Inv : AM → Prop} (hB : Base Inv) (hops : AllOps Inv) {d : Nat} {i : Int} {h : AM} (hI : Inv h) (h0 : 0 ≤ i) (h6 : i + 6 ≤ mscl h) : ∃ h2, Inv h2 ∧ h2.2.2.2.2 = h.2.2.2.2 ∧ EV (d + 61) 332 27 [(2, -2), (2, 0), (2, 235), (0, i)] [] h = EV (d + 61) 332 1842 [(2, -2), (2, 0), (2, 235), (0, i)] [] h2 := by
  obtain ⟨o0, o1, o2, o3, o4, o5, o6, o7, o8, o9, o10, o11, o12, o13, o14, o15, o16, o17, o18, o19, o20, o21, o22, o23, o24, o25, o26, o27, o28, o29, o30, o31, o32, o33, o34, o35, o36, o37, o38, o39, o40, o41, o42, o43, o44, o45, o46, o47, o48, o49, o50, o51, o52, o53⟩ := hops
  obtain ⟨k0, km, hx, l0, l1⟩ := hB h hI
  have q0 : i < mscl h := by omega
  simp only [e332_27, e332_28, e332_29s, e332_30, e332_32, h0, q0]
  obtain ⟨a0, a1⟩ := and63 (msc h i)
  generalize i_and (msc h i) 63 = a at a0 a1 ⊢
  by_cases hd : 53 < a
  · rw [e332_33 (Or.inr hd)]
    exact ⟨h, hI, rfl, rfl⟩
  by_cases c0 : a = 0
  · subst c0
    rw [e332_33c0]
    exact law_status hB o0 hI h0 h6
  by_cases c1 : a = 1
  · subst c1
    rw [e332_33c1]
    exact law_top hB o1 hI h0 h6
  by_cases c2 : a = 2
  · subst c2
    rw [e332_33c2]
    exact law_bottom hB o2 hI h0 h6
  by_cases c3 : a = 3
  · subst c3
    rw [e332_33c3]
    exact law_tray hB o3 hI h0 h6
  by_cases c4 : a = 4
  · subst c4
    rw [e332_33c4]
    exact law_write hB o4 hI h0 h6
  by_cases c5 : a = 5
  · subst c5
    rw [e332_33c5]
    exact law_read hB o5 hI h0 h6
  by_cases c6 : a = 6
  · subst c6
    rw [e332_33c6]
    exact law_pour hB o6 hI h0 h6
  by_cases c7 : a = 7
  · subst c7
    rw [e332_33c7]
    exact law_feed hB o7 hI h0 h6
  by_cases c8 : a = 8
  · subst c8
    rw [e332_33c8]
    exact law_school hB o8 hI h0 h6
  by_cases c9 : a = 9
  · subst c9
    rw [e332_33c9]
    exact law_age hB o9 hI h0 h6
  by_cases c10 : a = 10
  · subst c10
    rw [e332_33c10]
    exact law_fault hB o10 hI h0 h6
  by_cases c11 : a = 11
  · subst c11
    rw [e332_33c11]
    exact law_many hB o11 hI h0 h6
  by_cases c12 : a = 12
  · subst c12
    rw [e332_33c12]
    exact law_lesson hB o12 hI h0 h6
  by_cases c13 : a = 13
  · subst c13
    rw [e332_33c13]
    exact law_child hB o13 hI h0 h6
  by_cases c14 : a = 14
  · subst c14
    rw [e332_33c14]
    exact law_letter hB o14 hI h0 h6
  by_cases c15 : a = 15
  · subst c15
    rw [e332_33c15]
    exact law_teaches hB o15 hI h0 h6
  by_cases c16 : a = 16
  · subst c16
    rw [e332_33c16]
    exact law_copyName hB o16 hI h0 h6
  by_cases c17 : a = 17
  · subst c17
    rw [e332_33c17]
    exact law_learn hB o17 hI h0 h6
  by_cases c18 : a = 18
  · subst c18
    rw [e332_33c18]
    exact law_lose hB o18 hI h0 h6
  by_cases c19 : a = 19
  · subst c19
    rw [e332_33c19]
    exact law_rest hB o19 hI h0 h6
  by_cases c20 : a = 20
  · subst c20
    rw [e332_33c20]
    exact law_pay hB o20 hI h0 h6
  by_cases c21 : a = 21
  · subst c21
    rw [e332_33c21]
    exact law_ready hB o21 hI h0 h6
  by_cases c22 : a = 22
  · subst c22
    rw [e332_33c22]
    exact law_takes hB o22 hI h0 h6
  by_cases c23 : a = 23
  · subst c23
    rw [e332_33c23]
    exact law_opens hB o23 hI h0 h6
  by_cases c24 : a = 24
  · subst c24
    rw [e332_33c24]
    exact law_choice hB o24 hI h0 h6
  by_cases c25 : a = 25
  · subst c25
    rw [e332_33c25]
    exact law_said hB o25 hI h0 h6
  by_cases c26 : a = 26
  · subst c26
    rw [e332_33c26]
    exact law_stumbles hB o26 hI h0 h6
  by_cases c27 : a = 27
  · subst c27
    rw [e332_33c27]
    exact law_drop hB o27 hI h0 h6
  by_cases c28 : a = 28
  · subst c28
    rw [e332_33c28]
    exact law_firm hB o28 hI h0 h6
  by_cases c29 : a = 29
  · subst c29
    rw [e332_33c29]
    exact law_weak hB o29 hI h0 h6
  by_cases c30 : a = 30
  · subst c30
    rw [e332_33c30]
    exact law_vowels hB o30 hI h0 h6
  by_cases c31 : a = 31
  · subst c31
    rw [e332_33c31]
    exact law_rhyme hB o31 hI h0 h6
  by_cases c32 : a = 32
  · subst c32
    rw [e332_33c32]
    exact law_apart hB o32 hI h0 h6
  by_cases c33 : a = 33
  · subst c33
    rw [e332_33c33]
    exact law_behind hB o33 hI h0 h6
  by_cases c34 : a = 34
  · subst c34
    rw [e332_33c34]
    exact law_life hB o34 hI h0 h6
  by_cases c35 : a = 35
  · subst c35
    rw [e332_33c35]
    exact law_soonest hB o35 hI h0 h6
  by_cases c36 : a = 36
  · subst c36
    rw [e332_33c36]
    exact law_cheapest hB o36 hI h0 h6
  by_cases c37 : a = 37
  · subst c37
    rw [e332_33c37]
    exact law_ways hB o37 hI h0 h6
  by_cases c38 : a = 38
  · subst c38
    rw [e332_33c38]
    exact law_first hB o38 hI h0 h6
  by_cases c39 : a = 39
  · subst c39
    rw [e332_33c39]
    exact law_firstAt hB o39 hI h0 h6
  by_cases c40 : a = 40
  · subst c40
    rw [e332_33c40]
    exact law_goes hB o40 hI h0 h6
  by_cases c41 : a = 41
  · subst c41
    rw [e332_33c41]
    exact law_lives hB o41 hI h0 h6
  by_cases c42 : a = 42
  · subst c42
    rw [e332_33c42]
    exact law_orders hB o42 hI h0 h6
  by_cases c43 : a = 43
  · subst c43
    rw [e332_33c43]
    exact law_reach hB o43 hI h0 h6
  by_cases c44 : a = 44
  · subst c44
    rw [e332_33c44]
    exact law_sayable hB o44 hI h0 h6
  by_cases c45 : a = 45
  · subst c45
    rw [e332_33c45]
    exact law_root hB o45 hI h0 h6
  by_cases c46 : a = 46
  · subst c46
    rw [e332_33c46]
    exact law_plans hB o46 hI h0 h6
  by_cases c47 : a = 47
  · subst c47
    rw [e332_33c47]
    exact law_waited hB o47 hI h0 h6
  by_cases c48 : a = 48
  · subst c48
    rw [e332_33c48]
    exact law_began hB o48 hI h0 h6
  by_cases c49 : a = 49
  · subst c49
    rw [e332_33c49]
    exact law_live hB o49 hI h0 h6
  by_cases c50 : a = 50
  · subst c50
    rw [e332_33c50]
    exact law_lived hB o50 hI h0 h6
  by_cases c51 : a = 51
  · subst c51
    rw [e332_33c51]
    exact law_odds hB o51 hI h0 h6
  by_cases c52 : a = 52
  · subst c52
    rw [e332_33c52]
    exact law_mark hB o52 hI h0 h6
  by_cases c53 : a = 53
  · subst c53
    rw [e332_33c53]
    exact law_back hB o53 hI h0 h6
  omega
theorem law_loop {Inv : AM → Prop} (hB : Base Inv) (hops : AllOps Inv) (d : Nat) : ∀ (n : Nat) (i : Int) (h : AM), Inv h → 0 ≤ i → i ≤ mscl h + 6 → mscl h - i < n → ∃ h2, Inv h2 ∧ EV (d + 61) 332 18 [(2, -2), (2, 0), (2, 235), (0, i)] [] h = some ((0, 1), h2) := by
  intro n
  induction n with
  | zero =>
    intro i h hI h0 hi6 hn
    obtain ⟨k0, km, hx, l0, l1⟩ := hB h hI
    refine ⟨h, hI, ?_⟩
    have w : w32 (mscl h - 6) = mscl h - 6 := w32_id (by omega) (by omega)
    simp only [e332_18, e332_19, e332_20s, e332_21, e332_23, e332_24, w]
    rw [if_pos (by omega)]
    simp only [e332_1848, e332_1849, true_or, or_true, eq_self]
  | succ n ih =>
    intro i h hI h0 hi6 hn
    obtain ⟨k0, km, hx, l0, l1⟩ := hB h hI
    have w : w32 (mscl h - 6) = mscl h - 6 := w32_id (by omega) (by omega)
    simp only [e332_18, e332_19, e332_20s, e332_21, e332_23, e332_24, w]
    by_cases hc : mscl h - 6 < i
    · refine ⟨h, hI, ?_⟩
      rw [if_pos hc]
      simp only [e332_1848, e332_1849, true_or, or_true, eq_self]
    · rw [if_neg hc]
      obtain ⟨h2, hI2, hs, he⟩ := law_step hB hops (d := d) hI h0 (by omega)
      have hl := (sc_of hs).2
      have w6 : w32 (i + 6) = i + 6 := w32_id (by omega) (by omega)
      rw [he]
      simp only [e332_1842, e332_1845, w6]
      exact ih (i + 6) h2 hI2 (by omega) (by omega) (by omega)
/-- LawOk out of an invariant: its start, its 54 calls, its room -/
theorem LawOk_of {Inv : AM → Prop} (hB : Base Inv) (hops : AllOps Inv) (hroom : ∀ h, Inv h → mnx h ≤ 600000 ∧ msl h ≤ 7302249)
    (hinit : ∀ (xs : Int → Int) (L : Int), 0 ≤ L → L ≤ 3072 → (∀ j, in32 (xs j)) → ∃ h2, Inv h2 ∧ EV 800 332 0 [(2, -2), (3, 0), (3, 0), (3, 0)] [] (hst xs L) = EV 800 332 18 [(2, -2), (2, 0), (2, 235), (0, 0)] [] h2) : LawOk := by
  intro xs L h0 h1 hx
  obtain ⟨h2, hI, he⟩ := hinit xs L h0 h1 hx
  obtain ⟨k0, km, hx2, l0, l1⟩ := hB h2 hI
  obtain ⟨h3, hI3, he3⟩ := law_loop hB hops 739 (mscl h2 + 1).toNat 0 h2 hI (by omega) (by omega) (by omega)
  exact ⟨h3, he.trans he3, hroom h3 hI3⟩
