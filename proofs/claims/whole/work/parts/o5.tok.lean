/-! the reference's words -/
def spV (p q r s t u : Int) : Int :=
  let w0 := w64 (w64 (w64 (w64 (p - 96) * 32) + q) - 96)
  let w1 := if 0 < r then w64 (w64 (w64 (w0 * 32) + r) - 96) else w0
  let w2 := if 0 < s then w64 (w64 (w64 (w1 * 32) + s) - 96) else w1
  let w3 := if 0 < t then w64 (w64 (w64 (w2 * 32) + t) - 96) else w2
  if 0 < u then w64 (w64 (w64 (w3 * 32) + u) - 96) else w3
theorem n10_ : ((1 : Int) = 0) = False := by decide
theorem cmp3_z {a b : Int} : cmp3 a b = 0 ↔ a = b := by
  unfold cmp3
  split
  · constructor <;> intro <;> omega
  · split
    · constructor <;> intro <;> omega
    · constructor <;> intro <;> omega
section
variable {d : Nat} {b : AM}
theorem m_spelled (p q r s t u : Int) : EV d 195 0 [(0, p), (0, q), (0, r), (0, s), (0, t), (0, u), (3, 0), (3, 0)] [] b = some ((1, spV p q r s t u), b) := by
  unfold spV
  by_cases c1 : 0 < r
  all_goals by_cases c2 : 0 < s
  all_goals by_cases c3 : 0 < t
  all_goals by_cases c4 : 0 < u
  all_goals simp only [e195_0, e195_1, e195_2, e195_5, e195_6, e195_9, e195_10, e195_11, e195_12, e195_13, e195_16, e195_17, e195_19, e195_20, e195_23, e195_25, e195_28, e195_29, e195_30, e195_31, e195_32, e195_35, e195_36, e195_39, e195_41, e195_43, e195_44, e195_47, e195_49, e195_52, e195_53, e195_54, e195_55, e195_56, e195_59, e195_60, e195_63, e195_65, e195_67, e195_69, e195_72, e195_74, e195_77, e195_78, e195_80, e195_81, e195_82, e195_85, e195_86, e195_89, e195_91, e195_93, e195_95, e195_98, e195_100, e195_103, e195_104, e195_106, e195_107, e195_108, e195_111, e195_112, e195_115, e195_117, psh0, psh1, psh3, true_or, or_true, eq_self, Option.bind_some, List.length_nil, List.length_cons, Nat.reduceAdd, Nat.reduceLeDiff, Nat.zero_le, c1, c2, c3, c4, if_true, if_false, n10_]
def isW (b : AM) (v : Int) : Int := if mrd b 235 14 = 1 ∧ mrd b 235 19 = v then 1 else 0
theorem m_isWord {w : Int} (kM : isK b 235 11) : EV d 196 0 [(2, 235), (1, w), (3, 1)] [] b = some ((0, isW b w), b) := by
  unfold isW
  by_cases c1 : mrd b 235 14 = 1
  · by_cases c2 : mrd b 235 19 = w
    · have := cmp3_z.2 c2
      rw [if_pos ⟨c1, c2⟩]
      simp only [e196_0, e196_1, e196_4, e196_5, e196_8, e196_9, e196_12, e196_13, e196_14, e196_17, e196_18, e196_21, e196_22, psh0, psh1, psh3, true_or, or_true, eq_self, Option.bind_some, List.length_nil, List.length_cons, Nat.reduceAdd, Nat.reduceLeDiff, Nat.zero_le, kM, c1, this, if_true, if_false, n10_]
    · have : ¬ cmp3 (mrd b 235 19) w = 0 := fun z => c2 (cmp3_z.1 z)
      rw [if_neg (fun z => c2 z.2)]
      simp only [e196_0, e196_1, e196_4, e196_5, e196_8, e196_9, e196_12, e196_13, e196_14, e196_17, e196_18, e196_21, e196_22, psh0, psh1, psh3, true_or, or_true, eq_self, Option.bind_some, List.length_nil, List.length_cons, Nat.reduceAdd, Nat.reduceLeDiff, Nat.zero_le, kM, c1, this, if_true, if_false, n10_]
  · rw [if_neg (fun z => c1 z.1)]
    simp only [e196_0, e196_1, e196_4, e196_5, e196_8, e196_9, e196_12, e196_13, e196_14, e196_17, e196_18, e196_21, e196_22, psh0, psh1, psh3, true_or, or_true, eq_self, Option.bind_some, List.length_nil, List.length_cons, Nat.reduceAdd, Nat.reduceLeDiff, Nat.zero_le, kM, c1, if_true, if_false, n10_]
/-- the reserved word that the token is -/
def wx (b : AM) : Int := if mrd b 235 14 = 1 then wi (mrd b 235 19) 23 else -1
theorem wi_lt {v : Int} : ∀ n : Nat, -1 ≤ wi v n ∧ wi v n < n
  | 0 => by rw [wi]; omega
  | n + 1 => by
    rw [wi]
    have := wi_lt (v := v) n
    split <;> omega
theorem wi_get {v : Int} : ∀ n w : Nat, wi v n = w → RWd.getD w 0 = v
  | 0, w, h => by rw [wi] at h; omega
  | n + 1, w, h => by
    rw [wi] at h
    split at h
    · have : n = w := by omega
      rw [← this]; assumption
    · exact wi_get n w h
theorem wi_self : ∀ w : Nat, w < 23 → wi (RWd.getD w 0) 23 = w := by decide +kernel
theorem wx_rng : -1 ≤ wx b ∧ wx b ≤ 22 := by
  unfold wx
  have := wi_lt (v := mrd b 235 19) 23
  split <;> omega
def wq (b : AM) (k : Int) : Int := if wx b = k then 1 else 0
theorem wq_or (b : AM) (k : Int) : wq b k = 0 ∨ wq b k = 1 := by unfold wq; split; exact Or.inr rfl; exact Or.inl rfl
theorem isW_wq {k : Nat} (hk : k < 23) : isW b (RWd.getD k 0) = wq b k := by
  unfold isW wq wx
  by_cases c : mrd b 235 14 = 1
  · rw [if_pos c]
    by_cases c2 : mrd b 235 19 = RWd.getD k 0
    · rw [if_pos ⟨c, c2⟩, c2, wi_self k hk, if_pos rfl]
    · rw [if_neg (fun z => c2 z.2), if_neg (fun z => c2 (wi_get 23 k z).symm)]
  · rw [if_neg c, if_neg (fun z => c z.1), if_neg (by omega)]
theorem m_sp0 : EV d 195 0 [(0, 109), (0, 97), (0, 115), (0, 116), (0, 101), (0, 114), (3, 0), (3, 0)] [] b = some ((1, 437899442), b) := by
  rw [m_spelled, show spV 109 97 115 116 101 114 = 437899442 by decide +kernel]
theorem m_iw0 (kM : isK b 235 11) : EV d 196 0 [(2, 235), (1, 437899442), (3, 1)] [] b = some ((0, wq b 0), b) := by
  rw [m_isWord kM]; exact congrArg (fun z => some ((0, z), b)) (isW_wq (k := 0) (by decide))
theorem m_sp1 : EV d 195 0 [(0, 108), (0, 101), (0, 115), (0, 115), (0, 111), (0, 110), (3, 0), (3, 0)] [] b = some ((1, 408538606), b) := by
  rw [m_spelled, show spV 108 101 115 115 111 110 = 408538606 by decide +kernel]
theorem m_iw1 (kM : isK b 235 11) : EV d 196 0 [(2, 235), (1, 408538606), (3, 1)] [] b = some ((0, wq b 1), b) := by
  rw [m_isWord kM]; exact congrArg (fun z => some ((0, z), b)) (isW_wq (k := 1) (by decide))
theorem m_sp2 : EV d 195 0 [(0, 103), (0, 105), (0, 118), (0, 101), (0, 115), (0, 0), (3, 0), (3, 0)] [] b = some ((1, 7657651), b) := by
  rw [m_spelled, show spV 103 105 118 101 115 0 = 7657651 by decide +kernel]
theorem m_iw2 (kM : isK b 235 11) : EV d 196 0 [(2, 235), (1, 7657651), (3, 1)] [] b = some ((0, wq b 2), b) := by
  rw [m_isWord kM]; exact congrArg (fun z => some ((0, z), b)) (isW_wq (k := 2) (by decide))
theorem m_sp3 : EV d 195 0 [(0, 116), (0, 97), (0, 107), (0, 101), (0, 115), (0, 0), (3, 0), (3, 0)] [] b = some ((1, 21015731), b) := by
  rw [m_spelled, show spV 116 97 107 101 115 0 = 21015731 by decide +kernel]
theorem m_iw3 (kM : isK b 235 11) : EV d 196 0 [(2, 235), (1, 21015731), (3, 1)] [] b = some ((0, wq b 3), b) := by
  rw [m_isWord kM]; exact congrArg (fun z => some ((0, z), b)) (isW_wq (k := 3) (by decide))
theorem m_sp4 : EV d 195 0 [(0, 99), (0, 111), (0, 115), (0, 116), (0, 115), (0, 0), (3, 0), (3, 0)] [] b = some ((1, 3657363), b) := by
  rw [m_spelled, show spV 99 111 115 116 115 0 = 3657363 by decide +kernel]
theorem m_iw4 (kM : isK b 235 11) : EV d 196 0 [(2, 235), (1, 3657363), (3, 1)] [] b = some ((0, wq b 4), b) := by
  rw [m_isWord kM]; exact congrArg (fun z => some ((0, z), b)) (isW_wq (k := 4) (by decide))
theorem m_sp5 : EV d 195 0 [(0, 98), (0, 121), (0, 0), (0, 0), (0, 0), (0, 0), (3, 0), (3, 0)] [] b = some ((1, 89), b) := by
  rw [m_spelled, show spV 98 121 0 0 0 0 = 89 by decide +kernel]
theorem m_iw5 (kM : isK b 235 11) : EV d 196 0 [(2, 235), (1, 89), (3, 1)] [] b = some ((0, wq b 5), b) := by
  rw [m_isWord kM]; exact congrArg (fun z => some ((0, z), b)) (isW_wq (k := 5) (by decide))
theorem m_sp6 : EV d 195 0 [(0, 110), (0, 101), (0, 101), (0, 100), (0, 115), (0, 0), (3, 0), (3, 0)] [] b = some ((1, 14849171), b) := by
  rw [m_spelled, show spV 110 101 101 100 115 0 = 14849171 by decide +kernel]
theorem m_iw6 (kM : isK b 235 11) : EV d 196 0 [(2, 235), (1, 14849171), (3, 1)] [] b = some ((0, wq b 6), b) := by
  rw [m_isWord kM]; exact congrArg (fun z => some ((0, z), b)) (isW_wq (k := 6) (by decide))
theorem m_sp7 : EV d 195 0 [(0, 99), (0, 104), (0, 105), (0, 108), (0, 100), (0, 0), (3, 0), (3, 0)] [] b = some ((1, 3417476), b) := by
  rw [m_spelled, show spV 99 104 105 108 100 0 = 3417476 by decide +kernel]
theorem m_iw7 (kM : isK b 235 11) : EV d 196 0 [(2, 235), (1, 3417476), (3, 1)] [] b = some ((0, wq b 7), b) := by
  rw [m_isWord kM]; exact congrArg (fun z => some ((0, z), b)) (isW_wq (k := 7) (by decide))
theorem m_sp8 : EV d 195 0 [(0, 103), (0, 105), (0, 102), (0, 116), (0, 0), (0, 0), (3, 0), (3, 0)] [] b = some ((1, 238804), b) := by
  rw [m_spelled, show spV 103 105 102 116 0 0 = 238804 by decide +kernel]
theorem m_iw8 (kM : isK b 235 11) : EV d 196 0 [(2, 235), (1, 238804), (3, 1)] [] b = some ((0, wq b 8), b) := by
  rw [m_isWord kM]; exact congrArg (fun z => some ((0, z), b)) (isW_wq (k := 8) (by decide))
theorem m_sp9 : EV d 195 0 [(0, 112), (0, 117), (0, 114), (0, 115), (0, 101), (0, 0), (3, 0), (3, 0)] [] b = some ((1, 17484389), b) := by
  rw [m_spelled, show spV 112 117 114 115 101 0 = 17484389 by decide +kernel]
theorem m_iw9 (kM : isK b 235 11) : EV d 196 0 [(2, 235), (1, 17484389), (3, 1)] [] b = some ((0, wq b 9), b) := by
  rw [m_isWord kM]; exact congrArg (fun z => some ((0, z), b)) (isW_wq (k := 9) (by decide))
theorem m_sp10 : EV d 195 0 [(0, 115), (0, 111), (0, 117), (0, 110), (0, 100), (0, 115), (3, 0), (3, 0)] [] b = some ((1, 653965459), b) := by
  rw [m_spelled, show spV 115 111 117 110 100 115 = 653965459 by decide +kernel]
theorem m_iw10 (kM : isK b 235 11) : EV d 196 0 [(2, 235), (1, 653965459), (3, 1)] [] b = some ((0, wq b 10), b) := by
  rw [m_isWord kM]; exact congrArg (fun z => some ((0, z), b)) (isW_wq (k := 10) (by decide))
theorem m_sp11 : EV d 195 0 [(0, 108), (0, 101), (0, 97), (0, 114), (0, 110), (0, 0), (3, 0), (3, 0)] [] b = some ((1, 12748366), b) := by
  rw [m_spelled, show spV 108 101 97 114 110 0 = 12748366 by decide +kernel]
theorem m_iw11 (kM : isK b 235 11) : EV d 196 0 [(2, 235), (1, 12748366), (3, 1)] [] b = some ((0, wq b 11), b) := by
  rw [m_isWord kM]; exact congrArg (fun z => some ((0, z), b)) (isW_wq (k := 11) (by decide))
theorem m_sp12 : EV d 195 0 [(0, 108), (0, 111), (0, 115), (0, 101), (0, 0), (0, 0), (3, 0), (3, 0)] [] b = some ((1, 409189), b) := by
  rw [m_spelled, show spV 108 111 115 101 0 0 = 409189 by decide +kernel]
theorem m_iw12 (kM : isK b 235 11) : EV d 196 0 [(2, 235), (1, 409189), (3, 1)] [] b = some ((0, wq b 12), b) := by
  rw [m_isWord kM]; exact congrArg (fun z => some ((0, z), b)) (isW_wq (k := 12) (by decide))
theorem m_sp13 : EV d 195 0 [(0, 102), (0, 97), (0, 116), (0, 101), (0, 0), (0, 0), (3, 0), (3, 0)] [] b = some ((1, 198277), b) := by
  rw [m_spelled, show spV 102 97 116 101 0 0 = 198277 by decide +kernel]
theorem m_iw13 (kM : isK b 235 11) : EV d 196 0 [(2, 235), (1, 198277), (3, 1)] [] b = some ((0, wq b 13), b) := by
  rw [m_isWord kM]; exact congrArg (fun z => some ((0, z), b)) (isW_wq (k := 13) (by decide))
theorem m_sp14 : EV d 195 0 [(0, 114), (0, 101), (0, 115), (0, 116), (0, 0), (0, 0), (3, 0), (3, 0)] [] b = some ((1, 595572), b) := by
  rw [m_spelled, show spV 114 101 115 116 0 0 = 595572 by decide +kernel]
theorem m_iw14 (kM : isK b 235 11) : EV d 196 0 [(2, 235), (1, 595572), (3, 1)] [] b = some ((0, wq b 14), b) := by
  rw [m_isWord kM]; exact congrArg (fun z => some ((0, z), b)) (isW_wq (k := 14) (by decide))
theorem m_sp15 : EV d 195 0 [(0, 112), (0, 97), (0, 121), (0, 0), (0, 0), (0, 0), (3, 0), (3, 0)] [] b = some ((1, 16441), b) := by
  rw [m_spelled, show spV 112 97 121 0 0 0 = 16441 by decide +kernel]
theorem m_iw15 (kM : isK b 235 11) : EV d 196 0 [(2, 235), (1, 16441), (3, 1)] [] b = some ((0, wq b 15), b) := by
  rw [m_isWord kM]; exact congrArg (fun z => some ((0, z), b)) (isW_wq (k := 15) (by decide))
theorem m_sp16 : EV d 195 0 [(0, 119), (0, 104), (0, 101), (0, 110), (0, 0), (0, 0), (3, 0), (3, 0)] [] b = some ((1, 762030), b) := by
  rw [m_spelled, show spV 119 104 101 110 0 0 = 762030 by decide +kernel]
theorem m_iw16 (kM : isK b 235 11) : EV d 196 0 [(2, 235), (1, 762030), (3, 1)] [] b = some ((0, wq b 16), b) := by
  rw [m_isWord kM]; exact congrArg (fun z => some ((0, z), b)) (isW_wq (k := 16) (by decide))
theorem m_sp17 : EV d 195 0 [(0, 108), (0, 111), (0, 110), (0, 103), (0, 0), (0, 0), (3, 0), (3, 0)] [] b = some ((1, 409031), b) := by
  rw [m_spelled, show spV 108 111 110 103 0 0 = 409031 by decide +kernel]
theorem m_iw17 (kM : isK b 235 11) : EV d 196 0 [(2, 235), (1, 409031), (3, 1)] [] b = some ((0, wq b 17), b) := by
  rw [m_isWord kM]; exact congrArg (fun z => some ((0, z), b)) (isW_wq (k := 17) (by decide))
theorem m_sp18 : EV d 195 0 [(0, 115), (0, 97), (0, 121), (0, 115), (0, 0), (0, 0), (3, 0), (3, 0)] [] b = some ((1, 624435), b) := by
  rw [m_spelled, show spV 115 97 121 115 0 0 = 624435 by decide +kernel]
theorem m_iw18 (kM : isK b 235 11) : EV d 196 0 [(2, 235), (1, 624435), (3, 1)] [] b = some ((0, wq b 18), b) := by
  rw [m_isWord kM]; exact congrArg (fun z => some ((0, z), b)) (isW_wq (k := 18) (by decide))
theorem m_sp19 : EV d 195 0 [(0, 107), (0, 110), (0, 111), (0, 119), (0, 115), (0, 0), (3, 0), (3, 0)] [] b = some ((1, 12009203), b) := by
  rw [m_spelled, show spV 107 110 111 119 115 0 = 12009203 by decide +kernel]
theorem m_iw19 (kM : isK b 235 11) : EV d 196 0 [(2, 235), (1, 12009203), (3, 1)] [] b = some ((0, wq b 19), b) := by
  rw [m_isWord kM]; exact congrArg (fun z => some ((0, z), b)) (isW_wq (k := 19) (by decide))
theorem m_sp20 : EV d 195 0 [(0, 108), (0, 111), (0, 111), (0, 112), (0, 0), (0, 0), (3, 0), (3, 0)] [] b = some ((1, 409072), b) := by
  rw [m_spelled, show spV 108 111 111 112 0 0 = 409072 by decide +kernel]
theorem m_iw20 (kM : isK b 235 11) : EV d 196 0 [(2, 235), (1, 409072), (3, 1)] [] b = some ((0, wq b 20), b) := by
  rw [m_isWord kM]; exact congrArg (fun z => some ((0, z), b)) (isW_wq (k := 20) (by decide))
theorem m_sp21 : EV d 195 0 [(0, 101), (0, 110), (0, 100), (0, 0), (0, 0), (0, 0), (3, 0), (3, 0)] [] b = some ((1, 5572), b) := by
  rw [m_spelled, show spV 101 110 100 0 0 0 = 5572 by decide +kernel]
theorem m_iw21 (kM : isK b 235 11) : EV d 196 0 [(2, 235), (1, 5572), (3, 1)] [] b = some ((0, wq b 21), b) := by
  rw [m_isWord kM]; exact congrArg (fun z => some ((0, z), b)) (isW_wq (k := 21) (by decide))
theorem m_sp22 : EV d 195 0 [(0, 115), (0, 116), (0, 111), (0, 112), (0, 0), (0, 0), (3, 0), (3, 0)] [] b = some ((1, 643568), b) := by
  rw [m_spelled, show spV 115 116 111 112 0 0 = 643568 by decide +kernel]
theorem m_iw22 (kM : isK b 235 11) : EV d 196 0 [(2, 235), (1, 643568), (3, 1)] [] b = some ((0, wq b 22), b) := by
  rw [m_isWord kM]; exact congrArg (fun z => some ((0, z), b)) (isW_wq (k := 22) (by decide))
theorem m_isMaster (kM : isK b 235 11) : EV (d + 1) 197 0 [(2, 235)] [] b = some ((0, wq b 0), b) := by
  simp only [e197_0, e197_1, e197_3, e197_5, e197_7, e197_9, e197_11, e197_13, e197_16, e197_19, psh0, psh1, psh3, true_or, or_true, eq_self, Option.bind_some, List.length_nil, List.length_cons, Nat.reduceAdd, Nat.reduceLeDiff, Nat.zero_le, kM, m_sp0, m_iw0 kM, wq_or b 0]
theorem m_isLesson (kM : isK b 235 11) : EV (d + 1) 198 0 [(2, 235)] [] b = some ((0, wq b 1), b) := by
  simp only [e198_0, e198_1, e198_3, e198_5, e198_7, e198_9, e198_11, e198_13, e198_16, e198_19, psh0, psh1, psh3, true_or, or_true, eq_self, Option.bind_some, List.length_nil, List.length_cons, Nat.reduceAdd, Nat.reduceLeDiff, Nat.zero_le, kM, m_sp1, m_iw1 kM, wq_or b 1]
theorem m_isGives (kM : isK b 235 11) : EV (d + 1) 199 0 [(2, 235)] [] b = some ((0, wq b 2), b) := by
  simp only [e199_0, e199_1, e199_3, e199_5, e199_7, e199_9, e199_11, e199_12, e199_15, e199_18, psh0, psh1, psh3, true_or, or_true, eq_self, Option.bind_some, List.length_nil, List.length_cons, Nat.reduceAdd, Nat.reduceLeDiff, Nat.zero_le, kM, m_sp2, m_iw2 kM, wq_or b 2]
theorem m_isTakes (kM : isK b 235 11) : EV (d + 1) 200 0 [(2, 235)] [] b = some ((0, wq b 3), b) := by
  simp only [e200_0, e200_1, e200_3, e200_5, e200_7, e200_9, e200_11, e200_12, e200_15, e200_18, psh0, psh1, psh3, true_or, or_true, eq_self, Option.bind_some, List.length_nil, List.length_cons, Nat.reduceAdd, Nat.reduceLeDiff, Nat.zero_le, kM, m_sp3, m_iw3 kM, wq_or b 3]
theorem m_isCosts (kM : isK b 235 11) : EV (d + 1) 201 0 [(2, 235)] [] b = some ((0, wq b 4), b) := by
  simp only [e201_0, e201_1, e201_3, e201_5, e201_7, e201_9, e201_11, e201_12, e201_15, e201_18, psh0, psh1, psh3, true_or, or_true, eq_self, Option.bind_some, List.length_nil, List.length_cons, Nat.reduceAdd, Nat.reduceLeDiff, Nat.zero_le, kM, m_sp4, m_iw4 kM, wq_or b 4]
theorem m_isBy (kM : isK b 235 11) : EV (d + 1) 202 0 [(2, 235)] [] b = some ((0, wq b 5), b) := by
  simp only [e202_0, e202_1, e202_3, e202_5, e202_6, e202_7, e202_8, e202_9, e202_12, e202_15, psh0, psh1, psh3, true_or, or_true, eq_self, Option.bind_some, List.length_nil, List.length_cons, Nat.reduceAdd, Nat.reduceLeDiff, Nat.zero_le, kM, m_sp5, m_iw5 kM, wq_or b 5]
theorem m_isNeeds (kM : isK b 235 11) : EV (d + 1) 203 0 [(2, 235)] [] b = some ((0, wq b 6), b) := by
  simp only [e203_0, e203_1, e203_3, e203_5, e203_7, e203_9, e203_11, e203_12, e203_15, e203_18, psh0, psh1, psh3, true_or, or_true, eq_self, Option.bind_some, List.length_nil, List.length_cons, Nat.reduceAdd, Nat.reduceLeDiff, Nat.zero_le, kM, m_sp6, m_iw6 kM, wq_or b 6]
theorem m_isChild (kM : isK b 235 11) : EV (d + 1) 204 0 [(2, 235)] [] b = some ((0, wq b 7), b) := by
  simp only [e204_0, e204_1, e204_3, e204_5, e204_7, e204_9, e204_11, e204_12, e204_15, e204_18, psh0, psh1, psh3, true_or, or_true, eq_self, Option.bind_some, List.length_nil, List.length_cons, Nat.reduceAdd, Nat.reduceLeDiff, Nat.zero_le, kM, m_sp7, m_iw7 kM, wq_or b 7]
theorem m_isGift (kM : isK b 235 11) : EV (d + 1) 205 0 [(2, 235)] [] b = some ((0, wq b 8), b) := by
  simp only [e205_0, e205_1, e205_3, e205_5, e205_7, e205_9, e205_10, e205_11, e205_14, e205_17, psh0, psh1, psh3, true_or, or_true, eq_self, Option.bind_some, List.length_nil, List.length_cons, Nat.reduceAdd, Nat.reduceLeDiff, Nat.zero_le, kM, m_sp8, m_iw8 kM, wq_or b 8]
theorem m_isPurse (kM : isK b 235 11) : EV (d + 1) 206 0 [(2, 235)] [] b = some ((0, wq b 9), b) := by
  simp only [e206_0, e206_1, e206_3, e206_5, e206_7, e206_9, e206_11, e206_12, e206_15, e206_18, psh0, psh1, psh3, true_or, or_true, eq_self, Option.bind_some, List.length_nil, List.length_cons, Nat.reduceAdd, Nat.reduceLeDiff, Nat.zero_le, kM, m_sp9, m_iw9 kM, wq_or b 9]
theorem m_isSounds (kM : isK b 235 11) : EV (d + 1) 207 0 [(2, 235)] [] b = some ((0, wq b 10), b) := by
  simp only [e207_0, e207_1, e207_3, e207_5, e207_7, e207_9, e207_11, e207_13, e207_16, e207_19, psh0, psh1, psh3, true_or, or_true, eq_self, Option.bind_some, List.length_nil, List.length_cons, Nat.reduceAdd, Nat.reduceLeDiff, Nat.zero_le, kM, m_sp10, m_iw10 kM, wq_or b 10]
theorem m_isEnd (kM : isK b 235 11) : EV (d + 1) 210 0 [(2, 235)] [] b = some ((0, wq b 21), b) := by
  simp only [e210_0, e210_1, e210_3, e210_5, e210_7, e210_8, e210_9, e210_10, e210_13, e210_16, psh0, psh1, psh3, true_or, or_true, eq_self, Option.bind_some, List.length_nil, List.length_cons, Nat.reduceAdd, Nat.reduceLeDiff, Nat.zero_le, kM, m_sp21, m_iw21 kM, wq_or b 21]
def swF (i : Int) : Int := if 11 ≤ i ∧ i ≤ 16 then i - 11 else if i = 20 then 6 else if i = 22 then 7 else -1
def twF (i : Int) : Int := if 17 ≤ i ∧ i ≤ 19 then i - 17 else -1
theorem wq_1 {k : Int} (h : wx b = k) : wq b k = 1 := if_pos h
theorem wq_0 {k : Int} (h : wx b ≠ k) : wq b k = 0 := if_neg h
theorem m_stepWord (kM : isK b 235 11) : EV (d + 1) 208 0 [(2, 235)] [] b = some ((0, swF (wx b)), b) := by
  by_cases c11 : wx b = 11
  · have z : swF (wx b) = 0 := by rw [c11]; decide
    rw [z]
    simp only [e208_0, e208_1, e208_3, e208_5, e208_7, e208_9, e208_11, e208_12, e208_15, e208_18, e208_21, e208_22, e208_23, e208_24, e208_26, e208_28, e208_30, e208_32, e208_33, e208_34, e208_37, e208_40, e208_43, e208_44, e208_45, e208_46, e208_48, e208_50, e208_52, e208_54, e208_55, e208_56, e208_59, e208_62, e208_65, e208_66, e208_67, e208_68, e208_70, e208_72, e208_74, e208_76, e208_77, e208_78, e208_81, e208_84, e208_87, e208_88, e208_89, e208_90, e208_92, e208_94, e208_96, e208_97, e208_98, e208_99, e208_102, e208_105, e208_108, e208_109, e208_110, e208_111, e208_113, e208_115, e208_117, e208_119, e208_120, e208_121, e208_124, e208_127, e208_130, e208_131, e208_132, e208_133, e208_135, e208_137, e208_139, e208_141, e208_142, e208_143, e208_146, e208_149, e208_152, e208_154, e208_155, e208_156, e208_158, e208_160, e208_162, e208_164, e208_165, e208_166, e208_169, e208_172, e208_175, e208_177, e208_180, e208_181, psh0, psh1, psh3, true_or, or_true, eq_self, Option.bind_some, List.length_nil, List.length_cons, Nat.reduceAdd, Nat.reduceLeDiff, Nat.zero_le, kM, m_sp11, m_iw11 kM, wq_1 c11, if_true, if_false, n10_]
  by_cases c12 : wx b = 12
  · have z : swF (wx b) = 1 := by rw [c12]; decide
    rw [z]
    simp only [e208_0, e208_1, e208_3, e208_5, e208_7, e208_9, e208_11, e208_12, e208_15, e208_18, e208_21, e208_22, e208_23, e208_24, e208_26, e208_28, e208_30, e208_32, e208_33, e208_34, e208_37, e208_40, e208_43, e208_44, e208_45, e208_46, e208_48, e208_50, e208_52, e208_54, e208_55, e208_56, e208_59, e208_62, e208_65, e208_66, e208_67, e208_68, e208_70, e208_72, e208_74, e208_76, e208_77, e208_78, e208_81, e208_84, e208_87, e208_88, e208_89, e208_90, e208_92, e208_94, e208_96, e208_97, e208_98, e208_99, e208_102, e208_105, e208_108, e208_109, e208_110, e208_111, e208_113, e208_115, e208_117, e208_119, e208_120, e208_121, e208_124, e208_127, e208_130, e208_131, e208_132, e208_133, e208_135, e208_137, e208_139, e208_141, e208_142, e208_143, e208_146, e208_149, e208_152, e208_154, e208_155, e208_156, e208_158, e208_160, e208_162, e208_164, e208_165, e208_166, e208_169, e208_172, e208_175, e208_177, e208_180, e208_181, psh0, psh1, psh3, true_or, or_true, eq_self, Option.bind_some, List.length_nil, List.length_cons, Nat.reduceAdd, Nat.reduceLeDiff, Nat.zero_le, kM, m_sp11, m_iw11 kM, m_sp12, m_iw12 kM, wq_0 c11, wq_1 c12, if_true, if_false, n10_]
  by_cases c13 : wx b = 13
  · have z : swF (wx b) = 2 := by rw [c13]; decide
    rw [z]
    simp only [e208_0, e208_1, e208_3, e208_5, e208_7, e208_9, e208_11, e208_12, e208_15, e208_18, e208_21, e208_22, e208_23, e208_24, e208_26, e208_28, e208_30, e208_32, e208_33, e208_34, e208_37, e208_40, e208_43, e208_44, e208_45, e208_46, e208_48, e208_50, e208_52, e208_54, e208_55, e208_56, e208_59, e208_62, e208_65, e208_66, e208_67, e208_68, e208_70, e208_72, e208_74, e208_76, e208_77, e208_78, e208_81, e208_84, e208_87, e208_88, e208_89, e208_90, e208_92, e208_94, e208_96, e208_97, e208_98, e208_99, e208_102, e208_105, e208_108, e208_109, e208_110, e208_111, e208_113, e208_115, e208_117, e208_119, e208_120, e208_121, e208_124, e208_127, e208_130, e208_131, e208_132, e208_133, e208_135, e208_137, e208_139, e208_141, e208_142, e208_143, e208_146, e208_149, e208_152, e208_154, e208_155, e208_156, e208_158, e208_160, e208_162, e208_164, e208_165, e208_166, e208_169, e208_172, e208_175, e208_177, e208_180, e208_181, psh0, psh1, psh3, true_or, or_true, eq_self, Option.bind_some, List.length_nil, List.length_cons, Nat.reduceAdd, Nat.reduceLeDiff, Nat.zero_le, kM, m_sp11, m_iw11 kM, m_sp12, m_iw12 kM, m_sp13, m_iw13 kM, wq_0 c11, wq_0 c12, wq_1 c13, if_true, if_false, n10_]
  by_cases c14 : wx b = 14
  · have z : swF (wx b) = 3 := by rw [c14]; decide
    rw [z]
    simp only [e208_0, e208_1, e208_3, e208_5, e208_7, e208_9, e208_11, e208_12, e208_15, e208_18, e208_21, e208_22, e208_23, e208_24, e208_26, e208_28, e208_30, e208_32, e208_33, e208_34, e208_37, e208_40, e208_43, e208_44, e208_45, e208_46, e208_48, e208_50, e208_52, e208_54, e208_55, e208_56, e208_59, e208_62, e208_65, e208_66, e208_67, e208_68, e208_70, e208_72, e208_74, e208_76, e208_77, e208_78, e208_81, e208_84, e208_87, e208_88, e208_89, e208_90, e208_92, e208_94, e208_96, e208_97, e208_98, e208_99, e208_102, e208_105, e208_108, e208_109, e208_110, e208_111, e208_113, e208_115, e208_117, e208_119, e208_120, e208_121, e208_124, e208_127, e208_130, e208_131, e208_132, e208_133, e208_135, e208_137, e208_139, e208_141, e208_142, e208_143, e208_146, e208_149, e208_152, e208_154, e208_155, e208_156, e208_158, e208_160, e208_162, e208_164, e208_165, e208_166, e208_169, e208_172, e208_175, e208_177, e208_180, e208_181, psh0, psh1, psh3, true_or, or_true, eq_self, Option.bind_some, List.length_nil, List.length_cons, Nat.reduceAdd, Nat.reduceLeDiff, Nat.zero_le, kM, m_sp11, m_iw11 kM, m_sp12, m_iw12 kM, m_sp13, m_iw13 kM, m_sp14, m_iw14 kM, wq_0 c11, wq_0 c12, wq_0 c13, wq_1 c14, if_true, if_false, n10_]
  by_cases c15 : wx b = 15
  · have z : swF (wx b) = 4 := by rw [c15]; decide
    rw [z]
    simp only [e208_0, e208_1, e208_3, e208_5, e208_7, e208_9, e208_11, e208_12, e208_15, e208_18, e208_21, e208_22, e208_23, e208_24, e208_26, e208_28, e208_30, e208_32, e208_33, e208_34, e208_37, e208_40, e208_43, e208_44, e208_45, e208_46, e208_48, e208_50, e208_52, e208_54, e208_55, e208_56, e208_59, e208_62, e208_65, e208_66, e208_67, e208_68, e208_70, e208_72, e208_74, e208_76, e208_77, e208_78, e208_81, e208_84, e208_87, e208_88, e208_89, e208_90, e208_92, e208_94, e208_96, e208_97, e208_98, e208_99, e208_102, e208_105, e208_108, e208_109, e208_110, e208_111, e208_113, e208_115, e208_117, e208_119, e208_120, e208_121, e208_124, e208_127, e208_130, e208_131, e208_132, e208_133, e208_135, e208_137, e208_139, e208_141, e208_142, e208_143, e208_146, e208_149, e208_152, e208_154, e208_155, e208_156, e208_158, e208_160, e208_162, e208_164, e208_165, e208_166, e208_169, e208_172, e208_175, e208_177, e208_180, e208_181, psh0, psh1, psh3, true_or, or_true, eq_self, Option.bind_some, List.length_nil, List.length_cons, Nat.reduceAdd, Nat.reduceLeDiff, Nat.zero_le, kM, m_sp11, m_iw11 kM, m_sp12, m_iw12 kM, m_sp13, m_iw13 kM, m_sp14, m_iw14 kM, m_sp15, m_iw15 kM, wq_0 c11, wq_0 c12, wq_0 c13, wq_0 c14, wq_1 c15, if_true, if_false, n10_]
  by_cases c16 : wx b = 16
  · have z : swF (wx b) = 5 := by rw [c16]; decide
    rw [z]
    simp only [e208_0, e208_1, e208_3, e208_5, e208_7, e208_9, e208_11, e208_12, e208_15, e208_18, e208_21, e208_22, e208_23, e208_24, e208_26, e208_28, e208_30, e208_32, e208_33, e208_34, e208_37, e208_40, e208_43, e208_44, e208_45, e208_46, e208_48, e208_50, e208_52, e208_54, e208_55, e208_56, e208_59, e208_62, e208_65, e208_66, e208_67, e208_68, e208_70, e208_72, e208_74, e208_76, e208_77, e208_78, e208_81, e208_84, e208_87, e208_88, e208_89, e208_90, e208_92, e208_94, e208_96, e208_97, e208_98, e208_99, e208_102, e208_105, e208_108, e208_109, e208_110, e208_111, e208_113, e208_115, e208_117, e208_119, e208_120, e208_121, e208_124, e208_127, e208_130, e208_131, e208_132, e208_133, e208_135, e208_137, e208_139, e208_141, e208_142, e208_143, e208_146, e208_149, e208_152, e208_154, e208_155, e208_156, e208_158, e208_160, e208_162, e208_164, e208_165, e208_166, e208_169, e208_172, e208_175, e208_177, e208_180, e208_181, psh0, psh1, psh3, true_or, or_true, eq_self, Option.bind_some, List.length_nil, List.length_cons, Nat.reduceAdd, Nat.reduceLeDiff, Nat.zero_le, kM, m_sp11, m_iw11 kM, m_sp12, m_iw12 kM, m_sp13, m_iw13 kM, m_sp14, m_iw14 kM, m_sp15, m_iw15 kM, m_sp16, m_iw16 kM, wq_0 c11, wq_0 c12, wq_0 c13, wq_0 c14, wq_0 c15, wq_1 c16, if_true, if_false, n10_]
  by_cases c20 : wx b = 20
  · have z : swF (wx b) = 6 := by rw [c20]; decide
    rw [z]
    simp only [e208_0, e208_1, e208_3, e208_5, e208_7, e208_9, e208_11, e208_12, e208_15, e208_18, e208_21, e208_22, e208_23, e208_24, e208_26, e208_28, e208_30, e208_32, e208_33, e208_34, e208_37, e208_40, e208_43, e208_44, e208_45, e208_46, e208_48, e208_50, e208_52, e208_54, e208_55, e208_56, e208_59, e208_62, e208_65, e208_66, e208_67, e208_68, e208_70, e208_72, e208_74, e208_76, e208_77, e208_78, e208_81, e208_84, e208_87, e208_88, e208_89, e208_90, e208_92, e208_94, e208_96, e208_97, e208_98, e208_99, e208_102, e208_105, e208_108, e208_109, e208_110, e208_111, e208_113, e208_115, e208_117, e208_119, e208_120, e208_121, e208_124, e208_127, e208_130, e208_131, e208_132, e208_133, e208_135, e208_137, e208_139, e208_141, e208_142, e208_143, e208_146, e208_149, e208_152, e208_154, e208_155, e208_156, e208_158, e208_160, e208_162, e208_164, e208_165, e208_166, e208_169, e208_172, e208_175, e208_177, e208_180, e208_181, psh0, psh1, psh3, true_or, or_true, eq_self, Option.bind_some, List.length_nil, List.length_cons, Nat.reduceAdd, Nat.reduceLeDiff, Nat.zero_le, kM, m_sp11, m_iw11 kM, m_sp12, m_iw12 kM, m_sp13, m_iw13 kM, m_sp14, m_iw14 kM, m_sp15, m_iw15 kM, m_sp16, m_iw16 kM, m_sp20, m_iw20 kM, wq_0 c11, wq_0 c12, wq_0 c13, wq_0 c14, wq_0 c15, wq_0 c16, wq_1 c20, if_true, if_false, n10_]
  by_cases c22 : wx b = 22
  · have z : swF (wx b) = 7 := by rw [c22]; decide
    rw [z]
    simp only [e208_0, e208_1, e208_3, e208_5, e208_7, e208_9, e208_11, e208_12, e208_15, e208_18, e208_21, e208_22, e208_23, e208_24, e208_26, e208_28, e208_30, e208_32, e208_33, e208_34, e208_37, e208_40, e208_43, e208_44, e208_45, e208_46, e208_48, e208_50, e208_52, e208_54, e208_55, e208_56, e208_59, e208_62, e208_65, e208_66, e208_67, e208_68, e208_70, e208_72, e208_74, e208_76, e208_77, e208_78, e208_81, e208_84, e208_87, e208_88, e208_89, e208_90, e208_92, e208_94, e208_96, e208_97, e208_98, e208_99, e208_102, e208_105, e208_108, e208_109, e208_110, e208_111, e208_113, e208_115, e208_117, e208_119, e208_120, e208_121, e208_124, e208_127, e208_130, e208_131, e208_132, e208_133, e208_135, e208_137, e208_139, e208_141, e208_142, e208_143, e208_146, e208_149, e208_152, e208_154, e208_155, e208_156, e208_158, e208_160, e208_162, e208_164, e208_165, e208_166, e208_169, e208_172, e208_175, e208_177, e208_180, e208_181, psh0, psh1, psh3, true_or, or_true, eq_self, Option.bind_some, List.length_nil, List.length_cons, Nat.reduceAdd, Nat.reduceLeDiff, Nat.zero_le, kM, m_sp11, m_iw11 kM, m_sp12, m_iw12 kM, m_sp13, m_iw13 kM, m_sp14, m_iw14 kM, m_sp15, m_iw15 kM, m_sp16, m_iw16 kM, m_sp20, m_iw20 kM, m_sp22, m_iw22 kM, wq_0 c11, wq_0 c12, wq_0 c13, wq_0 c14, wq_0 c15, wq_0 c16, wq_0 c20, wq_1 c22, if_true, if_false, n10_]
  have z : swF (wx b) = -1 := by unfold swF; have := wx_rng (b := b); (repeat' split) <;> omega
  rw [z]
  simp only [e208_0, e208_1, e208_3, e208_5, e208_7, e208_9, e208_11, e208_12, e208_15, e208_18, e208_21, e208_22, e208_23, e208_24, e208_26, e208_28, e208_30, e208_32, e208_33, e208_34, e208_37, e208_40, e208_43, e208_44, e208_45, e208_46, e208_48, e208_50, e208_52, e208_54, e208_55, e208_56, e208_59, e208_62, e208_65, e208_66, e208_67, e208_68, e208_70, e208_72, e208_74, e208_76, e208_77, e208_78, e208_81, e208_84, e208_87, e208_88, e208_89, e208_90, e208_92, e208_94, e208_96, e208_97, e208_98, e208_99, e208_102, e208_105, e208_108, e208_109, e208_110, e208_111, e208_113, e208_115, e208_117, e208_119, e208_120, e208_121, e208_124, e208_127, e208_130, e208_131, e208_132, e208_133, e208_135, e208_137, e208_139, e208_141, e208_142, e208_143, e208_146, e208_149, e208_152, e208_154, e208_155, e208_156, e208_158, e208_160, e208_162, e208_164, e208_165, e208_166, e208_169, e208_172, e208_175, e208_177, e208_180, e208_181, psh0, psh1, psh3, true_or, or_true, eq_self, Option.bind_some, List.length_nil, List.length_cons, Nat.reduceAdd, Nat.reduceLeDiff, Nat.zero_le, kM, m_sp11, m_iw11 kM, m_sp12, m_iw12 kM, m_sp13, m_iw13 kM, m_sp14, m_iw14 kM, m_sp15, m_iw15 kM, m_sp16, m_iw16 kM, m_sp20, m_iw20 kM, m_sp22, m_iw22 kM, wq_0 c11, wq_0 c12, wq_0 c13, wq_0 c14, wq_0 c15, wq_0 c16, wq_0 c20, wq_0 c22, if_true, if_false, n10_]
theorem m_testWord (kM : isK b 235 11) : EV (d + 1) 209 0 [(2, 235)] [] b = some ((0, twF (wx b)), b) := by
  by_cases c17 : wx b = 17
  · have z : twF (wx b) = 0 := by rw [c17]; decide
    rw [z]
    simp only [e209_0, e209_1, e209_3, e209_5, e209_7, e209_9, e209_10, e209_11, e209_14, e209_17, e209_20, e209_21, e209_22, e209_23, e209_25, e209_27, e209_29, e209_31, e209_32, e209_33, e209_36, e209_39, e209_42, e209_43, e209_44, e209_45, e209_47, e209_49, e209_51, e209_53, e209_55, e209_56, e209_59, e209_62, e209_65, e209_66, e209_69, e209_70, psh0, psh1, psh3, true_or, or_true, eq_self, Option.bind_some, List.length_nil, List.length_cons, Nat.reduceAdd, Nat.reduceLeDiff, Nat.zero_le, kM, m_sp17, m_iw17 kM, wq_1 c17, if_true, if_false, n10_]
  by_cases c18 : wx b = 18
  · have z : twF (wx b) = 1 := by rw [c18]; decide
    rw [z]
    simp only [e209_0, e209_1, e209_3, e209_5, e209_7, e209_9, e209_10, e209_11, e209_14, e209_17, e209_20, e209_21, e209_22, e209_23, e209_25, e209_27, e209_29, e209_31, e209_32, e209_33, e209_36, e209_39, e209_42, e209_43, e209_44, e209_45, e209_47, e209_49, e209_51, e209_53, e209_55, e209_56, e209_59, e209_62, e209_65, e209_66, e209_69, e209_70, psh0, psh1, psh3, true_or, or_true, eq_self, Option.bind_some, List.length_nil, List.length_cons, Nat.reduceAdd, Nat.reduceLeDiff, Nat.zero_le, kM, m_sp17, m_iw17 kM, m_sp18, m_iw18 kM, wq_0 c17, wq_1 c18, if_true, if_false, n10_]
  by_cases c19 : wx b = 19
  · have z : twF (wx b) = 2 := by rw [c19]; decide
    rw [z]
    simp only [e209_0, e209_1, e209_3, e209_5, e209_7, e209_9, e209_10, e209_11, e209_14, e209_17, e209_20, e209_21, e209_22, e209_23, e209_25, e209_27, e209_29, e209_31, e209_32, e209_33, e209_36, e209_39, e209_42, e209_43, e209_44, e209_45, e209_47, e209_49, e209_51, e209_53, e209_55, e209_56, e209_59, e209_62, e209_65, e209_66, e209_69, e209_70, psh0, psh1, psh3, true_or, or_true, eq_self, Option.bind_some, List.length_nil, List.length_cons, Nat.reduceAdd, Nat.reduceLeDiff, Nat.zero_le, kM, m_sp17, m_iw17 kM, m_sp18, m_iw18 kM, m_sp19, m_iw19 kM, wq_0 c17, wq_0 c18, wq_1 c19, if_true, if_false, n10_]
  have z : twF (wx b) = -1 := by unfold twF; have := wx_rng (b := b); (repeat' split) <;> omega
  rw [z]
  simp only [e209_0, e209_1, e209_3, e209_5, e209_7, e209_9, e209_10, e209_11, e209_14, e209_17, e209_20, e209_21, e209_22, e209_23, e209_25, e209_27, e209_29, e209_31, e209_32, e209_33, e209_36, e209_39, e209_42, e209_43, e209_44, e209_45, e209_47, e209_49, e209_51, e209_53, e209_55, e209_56, e209_59, e209_62, e209_65, e209_66, e209_69, e209_70, psh0, psh1, psh3, true_or, or_true, eq_self, Option.bind_some, List.length_nil, List.length_cons, Nat.reduceAdd, Nat.reduceLeDiff, Nat.zero_le, kM, m_sp17, m_iw17 kM, m_sp18, m_iw18 kM, m_sp19, m_iw19 kM, wq_0 c17, wq_0 c18, wq_0 c19, if_true, if_false, n10_]
theorem m_isKept (kM : isK b 235 11) : EV (d + 2) 211 0 [(2, 235)] [] b = some ((0, if wx b = -1 then 0 else 1), b) := by
  by_cases c0 : wx b = 0
  · rw [if_neg (by omega)]
    simp only [e211_0, e211_1, e211_4, e211_7, e211_8, e211_11, e211_14, e211_15, e211_18, e211_21, e211_22, e211_25, e211_28, e211_29, e211_32, e211_35, e211_36, e211_39, e211_42, e211_43, e211_46, e211_49, e211_50, e211_53, e211_56, e211_57, e211_60, e211_63, e211_64, e211_67, e211_70, e211_71, e211_74, e211_77, e211_78, e211_79, e211_80, e211_83, e211_86, e211_87, e211_90, e211_93, e211_94, e211_97, e211_100, e211_101, e211_104, e211_105, psh0, psh1, psh3, true_or, or_true, eq_self, Option.bind_some, List.length_nil, List.length_cons, Nat.reduceAdd, Nat.reduceLeDiff, Nat.zero_le, kM, m_isMaster kM, m_isLesson kM, m_isGives kM, m_isTakes kM, m_isCosts kM, m_isBy kM, m_isNeeds kM, m_isChild kM, m_isGift kM, m_isPurse kM, m_isSounds kM, m_isEnd kM, m_stepWord kM, m_testWord kM, wq_1 c0, if_true, if_false, n10_]
  by_cases c1 : wx b = 1
  · rw [if_neg (by omega)]
    simp only [e211_0, e211_1, e211_4, e211_7, e211_8, e211_11, e211_14, e211_15, e211_18, e211_21, e211_22, e211_25, e211_28, e211_29, e211_32, e211_35, e211_36, e211_39, e211_42, e211_43, e211_46, e211_49, e211_50, e211_53, e211_56, e211_57, e211_60, e211_63, e211_64, e211_67, e211_70, e211_71, e211_74, e211_77, e211_78, e211_79, e211_80, e211_83, e211_86, e211_87, e211_90, e211_93, e211_94, e211_97, e211_100, e211_101, e211_104, e211_105, psh0, psh1, psh3, true_or, or_true, eq_self, Option.bind_some, List.length_nil, List.length_cons, Nat.reduceAdd, Nat.reduceLeDiff, Nat.zero_le, kM, m_isMaster kM, m_isLesson kM, m_isGives kM, m_isTakes kM, m_isCosts kM, m_isBy kM, m_isNeeds kM, m_isChild kM, m_isGift kM, m_isPurse kM, m_isSounds kM, m_isEnd kM, m_stepWord kM, m_testWord kM, wq_0 c0, wq_1 c1, if_true, if_false, n10_]
  by_cases c2 : wx b = 2
  · rw [if_neg (by omega)]
    simp only [e211_0, e211_1, e211_4, e211_7, e211_8, e211_11, e211_14, e211_15, e211_18, e211_21, e211_22, e211_25, e211_28, e211_29, e211_32, e211_35, e211_36, e211_39, e211_42, e211_43, e211_46, e211_49, e211_50, e211_53, e211_56, e211_57, e211_60, e211_63, e211_64, e211_67, e211_70, e211_71, e211_74, e211_77, e211_78, e211_79, e211_80, e211_83, e211_86, e211_87, e211_90, e211_93, e211_94, e211_97, e211_100, e211_101, e211_104, e211_105, psh0, psh1, psh3, true_or, or_true, eq_self, Option.bind_some, List.length_nil, List.length_cons, Nat.reduceAdd, Nat.reduceLeDiff, Nat.zero_le, kM, m_isMaster kM, m_isLesson kM, m_isGives kM, m_isTakes kM, m_isCosts kM, m_isBy kM, m_isNeeds kM, m_isChild kM, m_isGift kM, m_isPurse kM, m_isSounds kM, m_isEnd kM, m_stepWord kM, m_testWord kM, wq_0 c0, wq_0 c1, wq_1 c2, if_true, if_false, n10_]
  by_cases c3 : wx b = 3
  · rw [if_neg (by omega)]
    simp only [e211_0, e211_1, e211_4, e211_7, e211_8, e211_11, e211_14, e211_15, e211_18, e211_21, e211_22, e211_25, e211_28, e211_29, e211_32, e211_35, e211_36, e211_39, e211_42, e211_43, e211_46, e211_49, e211_50, e211_53, e211_56, e211_57, e211_60, e211_63, e211_64, e211_67, e211_70, e211_71, e211_74, e211_77, e211_78, e211_79, e211_80, e211_83, e211_86, e211_87, e211_90, e211_93, e211_94, e211_97, e211_100, e211_101, e211_104, e211_105, psh0, psh1, psh3, true_or, or_true, eq_self, Option.bind_some, List.length_nil, List.length_cons, Nat.reduceAdd, Nat.reduceLeDiff, Nat.zero_le, kM, m_isMaster kM, m_isLesson kM, m_isGives kM, m_isTakes kM, m_isCosts kM, m_isBy kM, m_isNeeds kM, m_isChild kM, m_isGift kM, m_isPurse kM, m_isSounds kM, m_isEnd kM, m_stepWord kM, m_testWord kM, wq_0 c0, wq_0 c1, wq_0 c2, wq_1 c3, if_true, if_false, n10_]
  by_cases c4 : wx b = 4
  · rw [if_neg (by omega)]
    simp only [e211_0, e211_1, e211_4, e211_7, e211_8, e211_11, e211_14, e211_15, e211_18, e211_21, e211_22, e211_25, e211_28, e211_29, e211_32, e211_35, e211_36, e211_39, e211_42, e211_43, e211_46, e211_49, e211_50, e211_53, e211_56, e211_57, e211_60, e211_63, e211_64, e211_67, e211_70, e211_71, e211_74, e211_77, e211_78, e211_79, e211_80, e211_83, e211_86, e211_87, e211_90, e211_93, e211_94, e211_97, e211_100, e211_101, e211_104, e211_105, psh0, psh1, psh3, true_or, or_true, eq_self, Option.bind_some, List.length_nil, List.length_cons, Nat.reduceAdd, Nat.reduceLeDiff, Nat.zero_le, kM, m_isMaster kM, m_isLesson kM, m_isGives kM, m_isTakes kM, m_isCosts kM, m_isBy kM, m_isNeeds kM, m_isChild kM, m_isGift kM, m_isPurse kM, m_isSounds kM, m_isEnd kM, m_stepWord kM, m_testWord kM, wq_0 c0, wq_0 c1, wq_0 c2, wq_0 c3, wq_1 c4, if_true, if_false, n10_]
  by_cases c5 : wx b = 5
  · rw [if_neg (by omega)]
    simp only [e211_0, e211_1, e211_4, e211_7, e211_8, e211_11, e211_14, e211_15, e211_18, e211_21, e211_22, e211_25, e211_28, e211_29, e211_32, e211_35, e211_36, e211_39, e211_42, e211_43, e211_46, e211_49, e211_50, e211_53, e211_56, e211_57, e211_60, e211_63, e211_64, e211_67, e211_70, e211_71, e211_74, e211_77, e211_78, e211_79, e211_80, e211_83, e211_86, e211_87, e211_90, e211_93, e211_94, e211_97, e211_100, e211_101, e211_104, e211_105, psh0, psh1, psh3, true_or, or_true, eq_self, Option.bind_some, List.length_nil, List.length_cons, Nat.reduceAdd, Nat.reduceLeDiff, Nat.zero_le, kM, m_isMaster kM, m_isLesson kM, m_isGives kM, m_isTakes kM, m_isCosts kM, m_isBy kM, m_isNeeds kM, m_isChild kM, m_isGift kM, m_isPurse kM, m_isSounds kM, m_isEnd kM, m_stepWord kM, m_testWord kM, wq_0 c0, wq_0 c1, wq_0 c2, wq_0 c3, wq_0 c4, wq_1 c5, if_true, if_false, n10_]
  by_cases c6 : wx b = 6
  · rw [if_neg (by omega)]
    simp only [e211_0, e211_1, e211_4, e211_7, e211_8, e211_11, e211_14, e211_15, e211_18, e211_21, e211_22, e211_25, e211_28, e211_29, e211_32, e211_35, e211_36, e211_39, e211_42, e211_43, e211_46, e211_49, e211_50, e211_53, e211_56, e211_57, e211_60, e211_63, e211_64, e211_67, e211_70, e211_71, e211_74, e211_77, e211_78, e211_79, e211_80, e211_83, e211_86, e211_87, e211_90, e211_93, e211_94, e211_97, e211_100, e211_101, e211_104, e211_105, psh0, psh1, psh3, true_or, or_true, eq_self, Option.bind_some, List.length_nil, List.length_cons, Nat.reduceAdd, Nat.reduceLeDiff, Nat.zero_le, kM, m_isMaster kM, m_isLesson kM, m_isGives kM, m_isTakes kM, m_isCosts kM, m_isBy kM, m_isNeeds kM, m_isChild kM, m_isGift kM, m_isPurse kM, m_isSounds kM, m_isEnd kM, m_stepWord kM, m_testWord kM, wq_0 c0, wq_0 c1, wq_0 c2, wq_0 c3, wq_0 c4, wq_0 c5, wq_1 c6, if_true, if_false, n10_]
  by_cases c7 : wx b = 7
  · rw [if_neg (by omega)]
    simp only [e211_0, e211_1, e211_4, e211_7, e211_8, e211_11, e211_14, e211_15, e211_18, e211_21, e211_22, e211_25, e211_28, e211_29, e211_32, e211_35, e211_36, e211_39, e211_42, e211_43, e211_46, e211_49, e211_50, e211_53, e211_56, e211_57, e211_60, e211_63, e211_64, e211_67, e211_70, e211_71, e211_74, e211_77, e211_78, e211_79, e211_80, e211_83, e211_86, e211_87, e211_90, e211_93, e211_94, e211_97, e211_100, e211_101, e211_104, e211_105, psh0, psh1, psh3, true_or, or_true, eq_self, Option.bind_some, List.length_nil, List.length_cons, Nat.reduceAdd, Nat.reduceLeDiff, Nat.zero_le, kM, m_isMaster kM, m_isLesson kM, m_isGives kM, m_isTakes kM, m_isCosts kM, m_isBy kM, m_isNeeds kM, m_isChild kM, m_isGift kM, m_isPurse kM, m_isSounds kM, m_isEnd kM, m_stepWord kM, m_testWord kM, wq_0 c0, wq_0 c1, wq_0 c2, wq_0 c3, wq_0 c4, wq_0 c5, wq_0 c6, wq_1 c7, if_true, if_false, n10_]
  by_cases c8 : wx b = 8
  · rw [if_neg (by omega)]
    simp only [e211_0, e211_1, e211_4, e211_7, e211_8, e211_11, e211_14, e211_15, e211_18, e211_21, e211_22, e211_25, e211_28, e211_29, e211_32, e211_35, e211_36, e211_39, e211_42, e211_43, e211_46, e211_49, e211_50, e211_53, e211_56, e211_57, e211_60, e211_63, e211_64, e211_67, e211_70, e211_71, e211_74, e211_77, e211_78, e211_79, e211_80, e211_83, e211_86, e211_87, e211_90, e211_93, e211_94, e211_97, e211_100, e211_101, e211_104, e211_105, psh0, psh1, psh3, true_or, or_true, eq_self, Option.bind_some, List.length_nil, List.length_cons, Nat.reduceAdd, Nat.reduceLeDiff, Nat.zero_le, kM, m_isMaster kM, m_isLesson kM, m_isGives kM, m_isTakes kM, m_isCosts kM, m_isBy kM, m_isNeeds kM, m_isChild kM, m_isGift kM, m_isPurse kM, m_isSounds kM, m_isEnd kM, m_stepWord kM, m_testWord kM, wq_0 c0, wq_0 c1, wq_0 c2, wq_0 c3, wq_0 c4, wq_0 c5, wq_0 c6, wq_0 c7, wq_1 c8, if_true, if_false, n10_]
  by_cases c9 : wx b = 9
  · rw [if_neg (by omega)]
    simp only [e211_0, e211_1, e211_4, e211_7, e211_8, e211_11, e211_14, e211_15, e211_18, e211_21, e211_22, e211_25, e211_28, e211_29, e211_32, e211_35, e211_36, e211_39, e211_42, e211_43, e211_46, e211_49, e211_50, e211_53, e211_56, e211_57, e211_60, e211_63, e211_64, e211_67, e211_70, e211_71, e211_74, e211_77, e211_78, e211_79, e211_80, e211_83, e211_86, e211_87, e211_90, e211_93, e211_94, e211_97, e211_100, e211_101, e211_104, e211_105, psh0, psh1, psh3, true_or, or_true, eq_self, Option.bind_some, List.length_nil, List.length_cons, Nat.reduceAdd, Nat.reduceLeDiff, Nat.zero_le, kM, m_isMaster kM, m_isLesson kM, m_isGives kM, m_isTakes kM, m_isCosts kM, m_isBy kM, m_isNeeds kM, m_isChild kM, m_isGift kM, m_isPurse kM, m_isSounds kM, m_isEnd kM, m_stepWord kM, m_testWord kM, wq_0 c0, wq_0 c1, wq_0 c2, wq_0 c3, wq_0 c4, wq_0 c5, wq_0 c6, wq_0 c7, wq_0 c8, wq_1 c9, if_true, if_false, n10_]
  by_cases c10 : wx b = 10
  · rw [if_neg (by omega)]
    simp only [e211_0, e211_1, e211_4, e211_7, e211_8, e211_11, e211_14, e211_15, e211_18, e211_21, e211_22, e211_25, e211_28, e211_29, e211_32, e211_35, e211_36, e211_39, e211_42, e211_43, e211_46, e211_49, e211_50, e211_53, e211_56, e211_57, e211_60, e211_63, e211_64, e211_67, e211_70, e211_71, e211_74, e211_77, e211_78, e211_79, e211_80, e211_83, e211_86, e211_87, e211_90, e211_93, e211_94, e211_97, e211_100, e211_101, e211_104, e211_105, psh0, psh1, psh3, true_or, or_true, eq_self, Option.bind_some, List.length_nil, List.length_cons, Nat.reduceAdd, Nat.reduceLeDiff, Nat.zero_le, kM, m_isMaster kM, m_isLesson kM, m_isGives kM, m_isTakes kM, m_isCosts kM, m_isBy kM, m_isNeeds kM, m_isChild kM, m_isGift kM, m_isPurse kM, m_isSounds kM, m_isEnd kM, m_stepWord kM, m_testWord kM, wq_0 c0, wq_0 c1, wq_0 c2, wq_0 c3, wq_0 c4, wq_0 c5, wq_0 c6, wq_0 c7, wq_0 c8, wq_0 c9, wq_1 c10, if_true, if_false, n10_]
  have r := wx_rng (b := b)
  by_cases cs : swF (wx b) < 0
  · by_cases ct : twF (wx b) < 0
    · by_cases c21 : wx b = 21
      · rw [if_neg (by omega)]
        simp only [e211_0, e211_1, e211_4, e211_7, e211_8, e211_11, e211_14, e211_15, e211_18, e211_21, e211_22, e211_25, e211_28, e211_29, e211_32, e211_35, e211_36, e211_39, e211_42, e211_43, e211_46, e211_49, e211_50, e211_53, e211_56, e211_57, e211_60, e211_63, e211_64, e211_67, e211_70, e211_71, e211_74, e211_77, e211_78, e211_79, e211_80, e211_83, e211_86, e211_87, e211_90, e211_93, e211_94, e211_97, e211_100, e211_101, e211_104, e211_105, psh0, psh1, psh3, true_or, or_true, eq_self, Option.bind_some, List.length_nil, List.length_cons, Nat.reduceAdd, Nat.reduceLeDiff, Nat.zero_le, kM, m_isMaster kM, m_isLesson kM, m_isGives kM, m_isTakes kM, m_isCosts kM, m_isBy kM, m_isNeeds kM, m_isChild kM, m_isGift kM, m_isPurse kM, m_isSounds kM, m_isEnd kM, m_stepWord kM, m_testWord kM, wq_0 c0, wq_0 c1, wq_0 c2, wq_0 c3, wq_0 c4, wq_0 c5, wq_0 c6, wq_0 c7, wq_0 c8, wq_0 c9, wq_0 c10, wq_1 c21, cs, ct, if_true, if_false, n10_]
      · have z : wx b = -1 := by
          unfold swF at cs
          unfold twF at ct
          repeat' split at cs
          all_goals repeat' split at ct
          all_goals omega
        rw [if_pos z]
        simp only [e211_0, e211_1, e211_4, e211_7, e211_8, e211_11, e211_14, e211_15, e211_18, e211_21, e211_22, e211_25, e211_28, e211_29, e211_32, e211_35, e211_36, e211_39, e211_42, e211_43, e211_46, e211_49, e211_50, e211_53, e211_56, e211_57, e211_60, e211_63, e211_64, e211_67, e211_70, e211_71, e211_74, e211_77, e211_78, e211_79, e211_80, e211_83, e211_86, e211_87, e211_90, e211_93, e211_94, e211_97, e211_100, e211_101, e211_104, e211_105, psh0, psh1, psh3, true_or, or_true, eq_self, Option.bind_some, List.length_nil, List.length_cons, Nat.reduceAdd, Nat.reduceLeDiff, Nat.zero_le, kM, m_isMaster kM, m_isLesson kM, m_isGives kM, m_isTakes kM, m_isCosts kM, m_isBy kM, m_isNeeds kM, m_isChild kM, m_isGift kM, m_isPurse kM, m_isSounds kM, m_isEnd kM, m_stepWord kM, m_testWord kM, wq_0 c0, wq_0 c1, wq_0 c2, wq_0 c3, wq_0 c4, wq_0 c5, wq_0 c6, wq_0 c7, wq_0 c8, wq_0 c9, wq_0 c10, wq_0 c21, cs, ct, if_true, if_false, n10_]
    · rw [if_neg (fun z => by rw [z] at ct; exact ct (by decide))]
      simp only [e211_0, e211_1, e211_4, e211_7, e211_8, e211_11, e211_14, e211_15, e211_18, e211_21, e211_22, e211_25, e211_28, e211_29, e211_32, e211_35, e211_36, e211_39, e211_42, e211_43, e211_46, e211_49, e211_50, e211_53, e211_56, e211_57, e211_60, e211_63, e211_64, e211_67, e211_70, e211_71, e211_74, e211_77, e211_78, e211_79, e211_80, e211_83, e211_86, e211_87, e211_90, e211_93, e211_94, e211_97, e211_100, e211_101, e211_104, e211_105, psh0, psh1, psh3, true_or, or_true, eq_self, Option.bind_some, List.length_nil, List.length_cons, Nat.reduceAdd, Nat.reduceLeDiff, Nat.zero_le, kM, m_isMaster kM, m_isLesson kM, m_isGives kM, m_isTakes kM, m_isCosts kM, m_isBy kM, m_isNeeds kM, m_isChild kM, m_isGift kM, m_isPurse kM, m_isSounds kM, m_isEnd kM, m_stepWord kM, m_testWord kM, wq_0 c0, wq_0 c1, wq_0 c2, wq_0 c3, wq_0 c4, wq_0 c5, wq_0 c6, wq_0 c7, wq_0 c8, wq_0 c9, wq_0 c10, cs, ct, if_true, if_false, n10_]
  · rw [if_neg (fun z => by rw [z] at cs; exact cs (by decide))]
    simp only [e211_0, e211_1, e211_4, e211_7, e211_8, e211_11, e211_14, e211_15, e211_18, e211_21, e211_22, e211_25, e211_28, e211_29, e211_32, e211_35, e211_36, e211_39, e211_42, e211_43, e211_46, e211_49, e211_50, e211_53, e211_56, e211_57, e211_60, e211_63, e211_64, e211_67, e211_70, e211_71, e211_74, e211_77, e211_78, e211_79, e211_80, e211_83, e211_86, e211_87, e211_90, e211_93, e211_94, e211_97, e211_100, e211_101, e211_104, e211_105, psh0, psh1, psh3, true_or, or_true, eq_self, Option.bind_some, List.length_nil, List.length_cons, Nat.reduceAdd, Nat.reduceLeDiff, Nat.zero_le, kM, m_isMaster kM, m_isLesson kM, m_isGives kM, m_isTakes kM, m_isCosts kM, m_isBy kM, m_isNeeds kM, m_isChild kM, m_isGift kM, m_isPurse kM, m_isSounds kM, m_isEnd kM, m_stepWord kM, m_testWord kM, wq_0 c0, wq_0 c1, wq_0 c2, wq_0 c3, wq_0 c4, wq_0 c5, wq_0 c6, wq_0 c7, wq_0 c8, wq_0 c9, wq_0 c10, cs, if_true, if_false, n10_]
theorem m_isName (kM : isK b 235 11) : EV (d + 3) 212 0 [(2, 235)] [] b = some ((0, if mrd b 235 14 = 1 ∧ mrd b 235 18 ≤ 8 ∧ wx b = -1 then 1 else 0), b) := by
  by_cases c1 : mrd b 235 14 = 1
  · by_cases c2 : 8 < mrd b 235 18
    · rw [if_neg (by omega)]
      simp only [e212_0, e212_1, e212_4, e212_5, e212_8, e212_9, e212_12, e212_14, e212_17, e212_18, e212_21, e212_24, e212_25, e212_28, e212_29, psh0, psh1, psh3, true_or, or_true, eq_self, Option.bind_some, List.length_nil, List.length_cons, Nat.reduceAdd, Nat.reduceLeDiff, Nat.zero_le, kM, c1, c2, if_true, if_false, n10_]
    · by_cases c3 : wx b = -1
      · rw [if_pos ⟨c1, by omega, c3⟩]
        simp only [e212_0, e212_1, e212_4, e212_5, e212_8, e212_9, e212_12, e212_14, e212_17, e212_18, e212_21, e212_24, e212_25, e212_28, e212_29, psh0, psh1, psh3, true_or, or_true, eq_self, Option.bind_some, List.length_nil, List.length_cons, Nat.reduceAdd, Nat.reduceLeDiff, Nat.zero_le, kM, c1, c2, c3, m_isKept kM, if_true, if_false, n10_]
      · rw [if_neg (fun z => c3 z.2.2)]
        simp only [e212_0, e212_1, e212_4, e212_5, e212_8, e212_9, e212_12, e212_14, e212_17, e212_18, e212_21, e212_24, e212_25, e212_28, e212_29, psh0, psh1, psh3, true_or, or_true, eq_self, Option.bind_some, List.length_nil, List.length_cons, Nat.reduceAdd, Nat.reduceLeDiff, Nat.zero_le, kM, c1, c2, c3, m_isKept kM, if_true, if_false, n10_]
  · rw [if_neg (fun z => c1 z.1)]
    simp only [e212_0, e212_1, e212_4, e212_5, e212_8, e212_9, e212_12, e212_14, e212_17, e212_18, e212_21, e212_24, e212_25, e212_28, e212_29, psh0, psh1, psh3, true_or, or_true, eq_self, Option.bind_some, List.length_nil, List.length_cons, Nat.reduceAdd, Nat.reduceLeDiff, Nat.zero_le, kM, c1, if_true, if_false, n10_]
theorem m_isSign {x : Int} (kM : isK b 235 11) : EV d 194 0 [(2, 235), (0, x)] [] b = some ((0, if mrd b 235 14 = 3 ∧ mrd b 235 17 = x then 1 else 0), b) := by
  by_cases c1 : mrd b 235 14 = 3
  · by_cases c2 : mrd b 235 17 = x
    · rw [if_pos ⟨c1, c2⟩]
      simp only [e194_0, e194_1, e194_4, e194_5, e194_8, e194_9, e194_12, e194_13, e194_16, e194_17, e194_20, e194_21, psh0, psh1, psh3, true_or, or_true, eq_self, Option.bind_some, List.length_nil, List.length_cons, Nat.reduceAdd, Nat.reduceLeDiff, Nat.zero_le, kM, c1, c2, if_true, if_false, n10_]
    · rw [if_neg (fun z => c2 z.2)]
      simp only [e194_0, e194_1, e194_4, e194_5, e194_8, e194_9, e194_12, e194_13, e194_16, e194_17, e194_20, e194_21, psh0, psh1, psh3, true_or, or_true, eq_self, Option.bind_some, List.length_nil, List.length_cons, Nat.reduceAdd, Nat.reduceLeDiff, Nat.zero_le, kM, c1, c2, if_true, if_false, n10_]
  · rw [if_neg (fun z => c1 z.1)]
    simp only [e194_0, e194_1, e194_4, e194_5, e194_8, e194_9, e194_12, e194_13, e194_16, e194_17, e194_20, e194_21, psh0, psh1, psh3, true_or, or_true, eq_self, Option.bind_some, List.length_nil, List.length_cons, Nat.reduceAdd, Nat.reduceLeDiff, Nat.zero_le, kM, c1, if_true, if_false, n10_]
end
