/-! tokens: what both readers see -/
def bl_ (x : Int) : Bool := decide (x = 32 ∨ x = 10)
def lte (x : Int) : Bool := decide (97 ≤ x ∧ x ≤ 122)
def dgi (x : Int) : Bool := decide (48 ≤ x ∧ x ≤ 57)
def sgn_ (x : Int) : Bool := decide (x = 59 ∨ x = 60 ∨ x = 62 ∨ x = 61)
/-- the first m letters from q on, as a number; the first m figures -/
def wv (T : Int → Int) (q : Nat) : Nat → Int
  | 0 => 0
  | m + 1 => wv T q m * 32 + (T ((q + m : Nat) : Int) - 96)
def dgv (T : Int → Int) (q : Nat) : Nat → Int
  | 0 => 0
  | m + 1 => dgv T q m * 10 + (T ((q + m : Nat) : Int) - 48)
def RWd : List Int := [437899442, 408538606, 7657651, 21015731, 3657363, 89, 14849171, 3417476, 238804, 17484389, 653965459, 12748366, 409189, 198277, 595572, 16441, 762030, 409031, 624435, 12009203, 409072, 5572, 643568]
def wi (v : Int) : Nat → Int
  | 0 => -1
  | w + 1 => if RWd.getD w 0 = v then (w : Int) else wi v w
theorem rw112 {m : Int → Int → Int} (hr : RRef m) {w : Nat} (hw : w < 23) : m 112 w = RWd.getD w 0 := by
  have : ∀ w, w < 23 → (112, ((w : Nat) : Int), RWd.getD w 0) ∈ refT := by decide +kernel
  exact hr _ (this w hw)
theorem wv_rng {T : Int → Int} {q : Nat} : ∀ m : Nat, m ≤ 8 → (∀ j : Nat, j < m → lte (T ((q + j : Nat) : Int)) = true) → 0 ≤ wv T q m ∧ wv T q m < 32 ^ m
  | 0, _, _ => by rw [wv]; decide
  | m + 1, hm, h => by
    have ih := wv_rng m (by omega) (fun j hj => h j (by omega))
    have hl := h m (by omega)
    simp only [lte, decide_eq_true_eq] at hl
    rw [wv, Int.pow_succ]
    omega
theorem dgv_rng {T : Int → Int} {q : Nat} : ∀ m : Nat, m ≤ 4 → (∀ j : Nat, j < m → dgi (T ((q + j : Nat) : Int)) = true) → 0 ≤ dgv T q m ∧ dgv T q m < 10 ^ m
  | 0, _, _ => by rw [dgv]; decide
  | m + 1, hm, h => by
    have ih := dgv_rng m (by omega) (fun j hj => h j (by omega))
    have hl := h m (by omega)
    simp only [dgi, decide_eq_true_eq] at hl
    rw [dgv, Int.pow_succ]
    omega
theorem p32 {m : Nat} (h : m ≤ 8) : (32 : Int) ^ m ≤ 1099511627776 := by
  rcases (show m = 0 ∨ m = 1 ∨ m = 2 ∨ m = 3 ∨ m = 4 ∨ m = 5 ∨ m = 6 ∨ m = 7 ∨ m = 8 by omega) with rfl | rfl | rfl | rfl | rfl | rfl | rfl | rfl | rfl <;> decide
theorem p10 {m : Nat} (h : m ≤ 4) : (10 : Int) ^ m ≤ 10000 := by
  rcases (show m = 0 ∨ m = 1 ∨ m = 2 ∨ m = 3 ∨ m = 4 by omega) with rfl | rfl | rfl | rfl | rfl <;> decide
def skp (T : Int → Int) (N P : Nat) : Nat := fI (fun j => !bl_ (T j)) P (N - P)
def wen (T : Int → Int) (N q : Nat) : Nat := fI (fun j => !lte (T j)) q (N - q)
def den (T : Int → Int) (N q : Nat) : Nat := fI (fun j => !dgi (T j)) q (N - q)
def tkK (T : Int → Int) (N q : Nat) : Int := if q < N then (if lte (T q) = true then 1 else if dgi (T q) = true then (if 4 < den T N q - q then 4 else 2) else if sgn_ (T q) = true then 3 else 4) else 0
def tkE (T : Int → Int) (N q : Nat) : Nat := if q < N then (if lte (T q) = true then wen T N q else if dgi (T q) = true then den T N q else if sgn_ (T q) = true then q + 1 else q) else q
theorem wen_rng {T : Int → Int} {N q : Nat} (hq : q ≤ N) : q ≤ wen T N q ∧ wen T N q ≤ N ∧ ∀ j : Nat, q ≤ j → j < wen T N q → lte (T j) = true := by
  have h := fI_rng (fun j => !lte (T ((j : Nat) : Int))) (N - q) q
  refine ⟨h.1, by unfold wen; omega, fun j j0 j1 => ?_⟩
  have := fI_bef (P := fun j => !lte (T ((j : Nat) : Int))) (N - q) q j j0 j1
  simpa using this
theorem den_rng {T : Int → Int} {N q : Nat} (hq : q ≤ N) : q ≤ den T N q ∧ den T N q ≤ N ∧ ∀ j : Nat, q ≤ j → j < den T N q → dgi (T j) = true := by
  have h := fI_rng (fun j => !dgi (T ((j : Nat) : Int))) (N - q) q
  refine ⟨h.1, by unfold den; omega, fun j j0 j1 => ?_⟩
  have := fI_bef (P := fun j => !dgi (T ((j : Nat) : Int))) (N - q) q j j0 j1
  simpa using this
/-- the class's reader on a token from q to e, of kind K -/
def TkX (T : Int → Int) (a : AM) (q e : Nat) (K : Int) : Prop := mrd a 110 5 = K ∧ mrd a 110 6 = q ∧ (K ≠ 4 → mrd a 110 4 = e) ∧ (K ≠ 1 → mrd a 110 8 = -1) ∧ (K = 1 → mrd a 110 7 = wv T q (min (e - q) 8) ∧ mrd a 110 8 = if e - q ≤ 8 then wi (wv T q (e - q)) 23 else -1) ∧ (K = 2 → mrd a 110 7 = dgv T q (e - q)) ∧ (K = 3 → mrd a 110 7 = T q)
def TkM (T : Int → Int) (b : AM) (q e : Nat) (K : Int) : Prop := mrd b 235 14 = K ∧ mrd b 235 15 = q ∧ (K ≠ 4 → mrd b 235 16 = e) ∧ (K = 1 → mrd b 235 18 = ((e - q : Nat) : Int) ∧ mrd b 235 19 = if e - q ≤ 8 then wv T q (e - q) else -1) ∧ (K = 2 → mrd b 235 17 = dgv T q (e - q)) ∧ (K = 3 → mrd b 235 17 = T q)
def AF (a a' : AM) : Prop := a'.2 = a.2 ∧ ∀ x i, ¬ (x = 110 ∧ 4 ≤ i ∧ i ≤ 8) → mrd a' x i = mrd a x i
def NF (b b' : AM) : Prop := b'.2 = b.2 ∧ ∀ x i, ¬ (x = 235 ∧ 14 ≤ i ∧ i ≤ 19) → mrd b' x i = mrd b x i
theorem wr_same {h : AM} {a i : Int} : mwr h a i (mrd h a i) = h := by
  refine Prod.ext (funext fun b => funext fun j => ?_) rfl
  show (if b = a ∧ j = i then mrd h a i else h.1 b j) = h.1 b j
  by_cases c : b = a ∧ j = i
  · rw [if_pos c, c.1, c.2]; rfl
  · rw [if_neg c]
/-- the reader's objects -/
def RDX (a : AM) (N : Nat) : Prop := Shp a ∧ RRef a.1 ∧ mrd a 110 3 = N ∧ N ≤ 900
section
variable {d N : Nat} {a : AM}
theorem RDX.f (h : RDX a N) : isK a 110 5 ∧ mrd a 110 0 = 111 ∧ mrd a 110 1 = 112 ∧ isK a 111 17 ∧ mln a 111 = 900 ∧ isK a 112 19 ∧ mln a 112 = 23 := ⟨kn_110 h.1, rf_110_0 h.2.1, rf_110_1 h.2.1, kn_111 h.1, ln_111 h.1, kn_112 h.1, ln_112 h.1⟩
theorem x_skip (hx : RDX a N) (n : Nat) : ∀ i : Nat, i + n = N → EV d 35 0 [(2, 110)] [] (mwr a 110 4 (i : Int)) = EV d 35 52 [(2, 110)] [] (mwr a 110 4 ((fI (fun j => !bl_ (mrd a 111 j)) i n : Nat) : Int)) := by
  obtain ⟨k1, k2, k3, k4, k5, k6, k7⟩ := hx.f
  have e3 := hx.2.2.1
  have h9 := hx.2.2.2
  have q3 : ∀ v, mrd (mwr a 110 4 v) 110 3 = N := fun v => by rw [rdn2 (by decide)]; exact e3
  have q0 : ∀ v, mrd (mwr a 110 4 v) 110 0 = 111 := fun v => by rw [rdn2 (by decide)]; exact k2
  have qT : ∀ v j, mrd (mwr a 110 4 v) 111 j = mrd a 111 j := fun v j => rdn1 (by decide)
  induction n with
  | zero =>
    intro i hi
    have e : i = N := by omega
    subst e
    rw [e35_0, fI]
    simp only [e35_1, e35_4, e35_5, e35_8, psh0, psh1, psh3, true_or, or_true, eq_self, Option.bind_some, List.length_nil, List.length_cons, Nat.reduceAdd, Nat.reduceLeDiff, Nat.zero_le, ↓reduceIte, Int.reduceLT, Int.reduceEq, Int.reduceLE, Int.reduceNeg, Int.reduceAdd, Int.reduceMul, Int.reduceSub, ne_eq, not_true_eq_false, not_false_eq_true, and_true, true_and, and_false, false_and, c3lt, c3gt, c3eq, Bool.false_eq_true, isK_wr, inA_wr, inR_wr, k1, rde, q3, Int.lt_irrefl]
  | succ n ih =>
    intro i hi
    have ci : (i : Int) < N := by omega
    have j1 : inA a 111 17 i := ⟨k4, by omega, by omega⟩
    have w1 : w32 ((i : Int) + 1) = ((i + 1 : Nat) : Int) := by rw [w32_id (by omega) (by omega)]; omega
    rw [e35_0, fI]
    by_cases c1 : mrd a 111 i = 32
    · have hb : (!bl_ (mrd a 111 ((i : Nat) : Int))) = false := by unfold bl_; rw [decide_eq_true (Or.inl c1)]; rfl
      rw [hb, if_neg (by decide), ← ih (i + 1) (by omega)]
      simp only [e35_1, e35_4, e35_5, e35_8, e35_11, e35_12, e35_15, e35_16, e35_19, e35_19z, e35_20, e35_22, e35_25, e35_26, e35_29, e35_30, e35_33, e35_33z, e35_34, e35_36, e35_39, e35_40, e35_40i, e35_41, e35_44, e35_45, e35_46, e35_49, e35_53, e35_54, e35_57, e35_60, e35_61, e35_62, e35_65, e35_66, e35_67, e35_70, e35_71, e35_74, e35_75, e35_78, e35_81, e35_82, e35_83, e35_86, e35_89, e35_90, e35_93, e35_94, e35_97, e35_97z, e35_98, e35_100, e35_103, e35_104, e35_107, e35_108, e35_111, e35_111z, e35_112, e35_114, e35_117, e35_118, e35_121, e35_124, e35_125, e35_128, e35_129, e35_132, e35_132z, e35_133, e35_135, e35_138, e35_139, e35_142, e35_143, e35_146, e35_146z, e35_147, e35_149, e35_152, e35_153, e35_156, e35_159, e35_160, e35_163, e35_164, e35_167, e35_167z, e35_168, e35_170, e35_173, e35_174, e35_177, e35_178, e35_181, e35_181z, e35_182, e35_184, e35_187, e35_188, e35_191, e35_192, e35_195, e35_195z, e35_196, e35_198, e35_201, e35_202, e35_205, e35_206, e35_209, e35_209z, e35_210, e35_212, e35_215, e35_216, e35_217, e35_220, e35_221, e35_222, e35_225, e35_226, e35_229, e35_229z, e35_230, e35_231, e35_234, e35_235, e35_235i, e35_236, e35_239, e35_240, e35_241, e35_244, e35_247, e35_248, e35_249, e35_252, psh0, psh1, psh3, true_or, or_true, eq_self, Option.bind_some, List.length_nil, List.length_cons, Nat.reduceAdd, Nat.reduceLeDiff, Nat.zero_le, ↓reduceIte, Int.reduceLT, Int.reduceEq, Int.reduceLE, Int.reduceNeg, Int.reduceAdd, Int.reduceMul, Int.reduceSub, ne_eq, not_true_eq_false, not_false_eq_true, and_true, true_and, and_false, false_and, c3lt, c3gt, c3eq, Bool.false_eq_true, isK_wr, inA_wr, inR_wr, k1, rde, q3, ci, q0, j1, qT, c1, w1, wrwr]
    · by_cases c2 : mrd a 111 i = 10
      · have hb : (!bl_ (mrd a 111 ((i : Nat) : Int))) = false := by unfold bl_; rw [decide_eq_true (Or.inr c2)]; rfl
        rw [hb, if_neg (by decide), ← ih (i + 1) (by omega)]
        simp only [e35_1, e35_4, e35_5, e35_8, e35_11, e35_12, e35_15, e35_16, e35_19, e35_19z, e35_20, e35_22, e35_25, e35_26, e35_29, e35_30, e35_33, e35_33z, e35_34, e35_36, e35_39, e35_40, e35_40i, e35_41, e35_44, e35_45, e35_46, e35_49, e35_53, e35_54, e35_57, e35_60, e35_61, e35_62, e35_65, e35_66, e35_67, e35_70, e35_71, e35_74, e35_75, e35_78, e35_81, e35_82, e35_83, e35_86, e35_89, e35_90, e35_93, e35_94, e35_97, e35_97z, e35_98, e35_100, e35_103, e35_104, e35_107, e35_108, e35_111, e35_111z, e35_112, e35_114, e35_117, e35_118, e35_121, e35_124, e35_125, e35_128, e35_129, e35_132, e35_132z, e35_133, e35_135, e35_138, e35_139, e35_142, e35_143, e35_146, e35_146z, e35_147, e35_149, e35_152, e35_153, e35_156, e35_159, e35_160, e35_163, e35_164, e35_167, e35_167z, e35_168, e35_170, e35_173, e35_174, e35_177, e35_178, e35_181, e35_181z, e35_182, e35_184, e35_187, e35_188, e35_191, e35_192, e35_195, e35_195z, e35_196, e35_198, e35_201, e35_202, e35_205, e35_206, e35_209, e35_209z, e35_210, e35_212, e35_215, e35_216, e35_217, e35_220, e35_221, e35_222, e35_225, e35_226, e35_229, e35_229z, e35_230, e35_231, e35_234, e35_235, e35_235i, e35_236, e35_239, e35_240, e35_241, e35_244, e35_247, e35_248, e35_249, e35_252, psh0, psh1, psh3, true_or, or_true, eq_self, Option.bind_some, List.length_nil, List.length_cons, Nat.reduceAdd, Nat.reduceLeDiff, Nat.zero_le, ↓reduceIte, Int.reduceLT, Int.reduceEq, Int.reduceLE, Int.reduceNeg, Int.reduceAdd, Int.reduceMul, Int.reduceSub, ne_eq, not_true_eq_false, not_false_eq_true, and_true, true_and, and_false, false_and, c3lt, c3gt, c3eq, Bool.false_eq_true, isK_wr, inA_wr, inR_wr, k1, rde, q3, ci, q0, j1, qT, c1, c2, w1, wrwr]
      · have hb : (!bl_ (mrd a 111 ((i : Nat) : Int))) = true := by unfold bl_; rw [decide_eq_false (by omega)]; rfl
        rw [hb, if_pos rfl]
        simp only [e35_1, e35_4, e35_5, e35_8, e35_11, e35_12, e35_15, e35_16, e35_19, e35_19z, e35_20, e35_22, e35_25, e35_26, e35_29, e35_30, e35_33, e35_33z, e35_34, e35_36, e35_39, e35_40, e35_40i, e35_41, e35_44, e35_45, e35_46, e35_49, e35_53, e35_54, e35_57, e35_60, e35_61, e35_62, e35_65, e35_66, e35_67, e35_70, e35_71, e35_74, e35_75, e35_78, e35_81, e35_82, e35_83, e35_86, e35_89, e35_90, e35_93, e35_94, e35_97, e35_97z, e35_98, e35_100, e35_103, e35_104, e35_107, e35_108, e35_111, e35_111z, e35_112, e35_114, e35_117, e35_118, e35_121, e35_124, e35_125, e35_128, e35_129, e35_132, e35_132z, e35_133, e35_135, e35_138, e35_139, e35_142, e35_143, e35_146, e35_146z, e35_147, e35_149, e35_152, e35_153, e35_156, e35_159, e35_160, e35_163, e35_164, e35_167, e35_167z, e35_168, e35_170, e35_173, e35_174, e35_177, e35_178, e35_181, e35_181z, e35_182, e35_184, e35_187, e35_188, e35_191, e35_192, e35_195, e35_195z, e35_196, e35_198, e35_201, e35_202, e35_205, e35_206, e35_209, e35_209z, e35_210, e35_212, e35_215, e35_216, e35_217, e35_220, e35_221, e35_222, e35_225, e35_226, e35_229, e35_229z, e35_230, e35_231, e35_234, e35_235, e35_235i, e35_236, e35_239, e35_240, e35_241, e35_244, e35_247, e35_248, e35_249, e35_252, psh0, psh1, psh3, true_or, or_true, eq_self, Option.bind_some, List.length_nil, List.length_cons, Nat.reduceAdd, Nat.reduceLeDiff, Nat.zero_le, ↓reduceIte, Int.reduceLT, Int.reduceEq, Int.reduceLE, Int.reduceNeg, Int.reduceAdd, Int.reduceMul, Int.reduceSub, ne_eq, not_true_eq_false, not_false_eq_true, and_true, true_and, and_false, false_and, c3lt, c3gt, c3eq, Bool.false_eq_true, isK_wr, inA_wr, inR_wr, k1, rde, q3, ci, q0, j1, qT, c1, c2]
theorem x_word (hx : RDX a N) {q : Nat} (h6 : mrd a 110 6 = q) (hq : q ≤ N) {l1 : AV} (n : Nat) : ∀ m : Nat, q + m + n = N → (∀ j : Nat, j < m → lte (mrd a 111 ((q + j : Nat) : Int)) = true) → EV d 36 0 [(2, 110), l1] [] (mwr (mwr a 110 7 (wv (mrd a 111) q (min m 8))) 110 4 ((q + m : Nat) : Int)) = EV d 36 94 [(2, 110), l1] [] (mwr (mwr a 110 7 (wv (mrd a 111) q (min (fI (fun j => !lte (mrd a 111 j)) (q + m) n - q) 8))) 110 4 ((fI (fun j => !lte (mrd a 111 j)) (q + m) n : Nat) : Int)) := by
  obtain ⟨k1, k2, k3, k4, k5, k6, k7⟩ := hx.f
  have e3 := hx.2.2.1
  have h9 := hx.2.2.2
  have q3 : ∀ u v, mrd (mwr (mwr a 110 7 u) 110 4 v) 110 3 = N := fun u v => by rw [rdn2 (by decide), rdn2 (by decide)]; exact e3
  have q0 : ∀ u v, mrd (mwr (mwr a 110 7 u) 110 4 v) 110 0 = 111 := fun u v => by rw [rdn2 (by decide), rdn2 (by decide)]; exact k2
  have q6 : ∀ u v, mrd (mwr (mwr a 110 7 u) 110 4 v) 110 6 = q := fun u v => by rw [rdn2 (by decide), rdn2 (by decide)]; exact h6
  have q7 : ∀ u v, mrd (mwr (mwr a 110 7 u) 110 4 v) 110 7 = u := fun u v => by rw [rdn2 (by decide), rde]
  have qT : ∀ u v j, mrd (mwr (mwr a 110 7 u) 110 4 v) 111 j = mrd a 111 j := fun u v j => by rw [rdn1 (by decide), rdn1 (by decide)]
  have sw7 : ∀ u u' v, mwr (mwr (mwr a 110 7 u) 110 4 v) 110 7 u' = mwr (mwr a 110 7 u') 110 4 v := fun u u' v => by
    refine Prod.ext (funext fun x => funext fun j => ?_) rfl
    show mrd (mwr (mwr (mwr a 110 7 u) 110 4 v) 110 7 u') x j = mrd (mwr (mwr a 110 7 u') 110 4 v) x j
    simp only [rd_wr]
    by_cases c1 : x = 110 ∧ j = 7
    · have c2 : ¬ (x = 110 ∧ j = 4) := by omega
      simp only [if_pos c1, if_neg c2]
    · simp only [if_neg c1]
  induction n with
  | zero =>
    intro m hm hl
    have ci : ¬ ((q + m : Nat) : Int) < N := by omega
    rw [e36_0, fI, show q + m - q = m by omega]
    simp only [e36_1, e36_4, e36_5, e36_8, psh0, psh1, psh3, true_or, or_true, eq_self, Option.bind_some, List.length_nil, List.length_cons, Nat.reduceAdd, Nat.reduceLeDiff, Nat.zero_le, ↓reduceIte, Int.reduceLT, Int.reduceEq, Int.reduceLE, Int.reduceNeg, Int.reduceAdd, Int.reduceMul, Int.reduceSub, ne_eq, not_true_eq_false, not_false_eq_true, and_true, true_and, and_false, false_and, c3lt, c3gt, c3eq, Bool.false_eq_true, isK_wr, inA_wr, inR_wr, k1, rde, q3, ci]
  | succ n ih =>
    intro m hm hl
    have ci : ((q + m : Nat) : Int) < N := by omega
    have j1 : inA a 111 17 ((q + m : Nat) : Int) := ⟨k4, by omega, by omega⟩
    have w1 : w32 (((q + m : Nat) : Int) + 1) = ((q + (m + 1) : Nat) : Int) := by rw [w32_id (by omega) (by omega)]; omega
    have wd : w32 (((q + m : Nat) : Int) - (q : Int)) = (m : Int) := by rw [w32_id (by omega) (by omega)]; omega
    rw [e36_0, fI]
    by_cases c1 : mrd a 111 ((q + m : Nat) : Int) < 97
    · have hb : (!lte (mrd a 111 ((q + m : Nat) : Int))) = true := by unfold lte; rw [decide_eq_false (by omega)]; rfl
      rw [hb, if_pos rfl, show q + m - q = m by omega]
      simp only [e36_1, e36_4, e36_5, e36_8, e36_11, e36_12, e36_15, e36_16, e36_19, e36_19z, e36_20, e36_22, e36_25, e36_26, e36_29, e36_30, e36_33, e36_33z, e36_34, e36_36, e36_39, e36_40, e36_43, e36_44, e36_47, e36_48, e36_50, e36_53, e36_54, e36_55, e36_58, e36_61, e36_62, e36_63, e36_66, e36_67, e36_70, e36_70z, e36_71, e36_73, e36_74, e36_75, e36_76, e36_77, e36_78, e36_81, e36_82, e36_82i, e36_83, e36_86, e36_87, e36_88, e36_91, e36_95, e36_96, e36_99, e36_100, e36_103, e36_104, e36_107, e36_108, e36_110, e36_113, e36_114, e36_115, e36_117, e36_119, e36_122, e36_123, e36_126, e36_127, e36_128, e36_129, e36_132, e36_133, e36_136, e36_137, e36_138, e36_141, e36_144, e36_147, psh0, psh1, psh3, true_or, or_true, eq_self, Option.bind_some, List.length_nil, List.length_cons, Nat.reduceAdd, Nat.reduceLeDiff, Nat.zero_le, ↓reduceIte, Int.reduceLT, Int.reduceEq, Int.reduceLE, Int.reduceNeg, Int.reduceAdd, Int.reduceMul, Int.reduceSub, ne_eq, not_true_eq_false, not_false_eq_true, and_true, true_and, and_false, false_and, c3lt, c3gt, c3eq, Bool.false_eq_true, isK_wr, inA_wr, inR_wr, k1, rde, q3, ci, q0, j1, qT, c1]
    · by_cases c2 : 122 < mrd a 111 ((q + m : Nat) : Int)
      · have hb : (!lte (mrd a 111 ((q + m : Nat) : Int))) = true := by unfold lte; rw [decide_eq_false (by omega)]; rfl
        rw [hb, if_pos rfl, show q + m - q = m by omega]
        simp only [e36_1, e36_4, e36_5, e36_8, e36_11, e36_12, e36_15, e36_16, e36_19, e36_19z, e36_20, e36_22, e36_25, e36_26, e36_29, e36_30, e36_33, e36_33z, e36_34, e36_36, e36_39, e36_40, e36_43, e36_44, e36_47, e36_48, e36_50, e36_53, e36_54, e36_55, e36_58, e36_61, e36_62, e36_63, e36_66, e36_67, e36_70, e36_70z, e36_71, e36_73, e36_74, e36_75, e36_76, e36_77, e36_78, e36_81, e36_82, e36_82i, e36_83, e36_86, e36_87, e36_88, e36_91, e36_95, e36_96, e36_99, e36_100, e36_103, e36_104, e36_107, e36_108, e36_110, e36_113, e36_114, e36_115, e36_117, e36_119, e36_122, e36_123, e36_126, e36_127, e36_128, e36_129, e36_132, e36_133, e36_136, e36_137, e36_138, e36_141, e36_144, e36_147, psh0, psh1, psh3, true_or, or_true, eq_self, Option.bind_some, List.length_nil, List.length_cons, Nat.reduceAdd, Nat.reduceLeDiff, Nat.zero_le, ↓reduceIte, Int.reduceLT, Int.reduceEq, Int.reduceLE, Int.reduceNeg, Int.reduceAdd, Int.reduceMul, Int.reduceSub, ne_eq, not_true_eq_false, not_false_eq_true, and_true, true_and, and_false, false_and, c3lt, c3gt, c3eq, Bool.false_eq_true, isK_wr, inA_wr, inR_wr, k1, rde, q3, ci, q0, j1, qT, c1, c2]
      · have ht : lte (mrd a 111 ((q + m : Nat) : Int)) = true := by unfold lte; rw [decide_eq_true (by omega)]
        have hb : (!lte (mrd a 111 ((q + m : Nat) : Int))) = false := by rw [ht]; rfl
        have ih' := ih (m + 1) (by omega) (fun j hj => by
          by_cases e : j = m
          · rw [e]; exact ht
          · exact hl j (by omega))
        rw [hb, if_neg (by decide), show q + m + 1 = q + (m + 1) by omega, ← ih']
        by_cases c8 : (m : Int) < 8
        · have b := wv_rng (T := mrd a 111) (q := q) m (by omega) hl
          have p := p32 (m := m) (by omega)
          have e1 : min m 8 = m := by omega
          have e2 : min (m + 1) 8 = m + 1 := by omega
          have u1 : w64 (wv (mrd a 111) q m * 32) = wv (mrd a 111) q m * 32 := w64_id (by omega) (by omega)
          have u2 : w32 (mrd a 111 ((q + m : Nat) : Int) - 97) = mrd a 111 ((q + m : Nat) : Int) - 97 := w32_id (by omega) (by omega)
          have u3 : w32 (mrd a 111 ((q + m : Nat) : Int) - 97 + 1) = mrd a 111 ((q + m : Nat) : Int) - 97 + 1 := w32_id (by omega) (by omega)
          have u4 : w64 (wv (mrd a 111) q m * 32 + (mrd a 111 ((q + m : Nat) : Int) - 97 + 1)) = wv (mrd a 111) q (m + 1) := by
            rw [wv, w64_id (by omega) (by omega)]; omega
          rw [e1, e2]
          simp only [e36_1, e36_4, e36_5, e36_8, e36_11, e36_12, e36_15, e36_16, e36_19, e36_19z, e36_20, e36_22, e36_25, e36_26, e36_29, e36_30, e36_33, e36_33z, e36_34, e36_36, e36_39, e36_40, e36_43, e36_44, e36_47, e36_48, e36_50, e36_53, e36_54, e36_55, e36_58, e36_61, e36_62, e36_63, e36_66, e36_67, e36_70, e36_70z, e36_71, e36_73, e36_74, e36_75, e36_76, e36_77, e36_78, e36_81, e36_82, e36_82i, e36_83, e36_86, e36_87, e36_88, e36_91, e36_95, e36_96, e36_99, e36_100, e36_103, e36_104, e36_107, e36_108, e36_110, e36_113, e36_114, e36_115, e36_117, e36_119, e36_122, e36_123, e36_126, e36_127, e36_128, e36_129, e36_132, e36_133, e36_136, e36_137, e36_138, e36_141, e36_144, e36_147, psh0, psh1, psh3, true_or, or_true, eq_self, Option.bind_some, List.length_nil, List.length_cons, Nat.reduceAdd, Nat.reduceLeDiff, Nat.zero_le, ↓reduceIte, Int.reduceLT, Int.reduceEq, Int.reduceLE, Int.reduceNeg, Int.reduceAdd, Int.reduceMul, Int.reduceSub, ne_eq, not_true_eq_false, not_false_eq_true, and_true, true_and, and_false, false_and, c3lt, c3gt, c3eq, Bool.false_eq_true, isK_wr, inA_wr, inR_wr, k1, rde, q3, ci, q0, q6, q7, j1, qT, c1, c2, wd, c8, u1, u2, u3, u4, sw7, w1, wrwr]
        · have e1 : min m 8 = 8 := by omega
          have e2 : min (m + 1) 8 = 8 := by omega
          rw [e1, e2]
          simp only [e36_1, e36_4, e36_5, e36_8, e36_11, e36_12, e36_15, e36_16, e36_19, e36_19z, e36_20, e36_22, e36_25, e36_26, e36_29, e36_30, e36_33, e36_33z, e36_34, e36_36, e36_39, e36_40, e36_43, e36_44, e36_47, e36_48, e36_50, e36_53, e36_54, e36_55, e36_58, e36_61, e36_62, e36_63, e36_66, e36_67, e36_70, e36_70z, e36_71, e36_73, e36_74, e36_75, e36_76, e36_77, e36_78, e36_81, e36_82, e36_82i, e36_83, e36_86, e36_87, e36_88, e36_91, e36_95, e36_96, e36_99, e36_100, e36_103, e36_104, e36_107, e36_108, e36_110, e36_113, e36_114, e36_115, e36_117, e36_119, e36_122, e36_123, e36_126, e36_127, e36_128, e36_129, e36_132, e36_133, e36_136, e36_137, e36_138, e36_141, e36_144, e36_147, psh0, psh1, psh3, true_or, or_true, eq_self, Option.bind_some, List.length_nil, List.length_cons, Nat.reduceAdd, Nat.reduceLeDiff, Nat.zero_le, ↓reduceIte, Int.reduceLT, Int.reduceEq, Int.reduceLE, Int.reduceNeg, Int.reduceAdd, Int.reduceMul, Int.reduceSub, ne_eq, not_true_eq_false, not_false_eq_true, and_true, true_and, and_false, false_and, c3lt, c3gt, c3eq, Bool.false_eq_true, isK_wr, inA_wr, inR_wr, k1, rde, q3, ci, q0, q6, q7, j1, qT, c1, c2, wd, c8, w1, wrwr]
theorem x_res (hx : RDX a N) {v : Int} (h7 : mrd a 110 7 = v) (n : Nat) : ∀ w : Nat, w + n = 23 → EV d 36 116 [(2, 110), (0, (w : Int))] [] (mwr a 110 8 (wi v w)) = some ((3, 0), mwr a 110 8 (wi v 23)) := by
  obtain ⟨k1, k2, k3, k4, k5, k6, k7⟩ := hx.f
  have q1 : ∀ v, mrd (mwr a 110 8 v) 110 1 = 112 := fun v => by rw [rdn2 (by decide)]; exact k3
  have q7 : ∀ u, mrd (mwr a 110 8 u) 110 7 = v := fun u => by rw [rdn2 (by decide)]; exact h7
  have qR : ∀ u (w : Nat), w < 23 → mrd (mwr a 110 8 u) 112 w = RWd.getD w 0 := fun u w hw => by rw [rdn1 (by decide)]; exact rw112 hx.2.1 hw
  induction n with
  | zero =>
    intro w hw
    have e : w = 23 := by omega
    subst e
    rw [e36_116]
    simp only [e36_1, e36_4, e36_5, e36_8, e36_11, e36_12, e36_15, e36_16, e36_19, e36_19z, e36_20, e36_22, e36_25, e36_26, e36_29, e36_30, e36_33, e36_33z, e36_34, e36_36, e36_39, e36_40, e36_43, e36_44, e36_47, e36_48, e36_50, e36_53, e36_54, e36_55, e36_58, e36_61, e36_62, e36_63, e36_66, e36_67, e36_70, e36_70z, e36_71, e36_73, e36_74, e36_75, e36_76, e36_77, e36_78, e36_81, e36_82, e36_82i, e36_83, e36_86, e36_87, e36_88, e36_91, e36_94, e36_95, e36_96, e36_99, e36_100, e36_103, e36_104, e36_107, e36_108, e36_110, e36_113, e36_114, e36_115, e36_117, e36_119, e36_122, e36_123, e36_126, e36_127, e36_128, e36_129, e36_132, e36_133, e36_136, e36_137, e36_138, e36_141, e36_144, e36_147, psh0, psh1, psh3, true_or, or_true, eq_self, Option.bind_some, List.length_nil, List.length_cons, Nat.reduceAdd, Nat.reduceLeDiff, Nat.zero_le, ↓reduceIte, Int.reduceLT, Int.reduceEq, Int.reduceLE, Int.reduceNeg, Int.reduceAdd, Int.reduceMul, Int.reduceSub, ne_eq, not_true_eq_false, not_false_eq_true, and_true, true_and, and_false, false_and, c3lt, c3gt, c3eq, Bool.false_eq_true, isK_wr, inA_wr, inR_wr]
    rfl
  | succ n ih =>
    intro w hw
    have cw : (w : Int) < 23 := by omega
    have j1 : inA a 112 19 w := ⟨k6, by omega, by omega⟩
    have w1 : w32 ((w : Int) + 1) = ((w + 1 : Nat) : Int) := by rw [w32_id (by omega) (by omega)]; omega
    have hR := fun u => qR u w (by omega)
    rw [← ih (w + 1) (by omega), wi, e36_116]
    by_cases c : RWd.getD w 0 = v
    · rw [if_pos c]
      simp only [e36_1, e36_4, e36_5, e36_8, e36_11, e36_12, e36_15, e36_16, e36_19, e36_19z, e36_20, e36_22, e36_25, e36_26, e36_29, e36_30, e36_33, e36_33z, e36_34, e36_36, e36_39, e36_40, e36_43, e36_44, e36_47, e36_48, e36_50, e36_53, e36_54, e36_55, e36_58, e36_61, e36_62, e36_63, e36_66, e36_67, e36_70, e36_70z, e36_71, e36_73, e36_74, e36_75, e36_76, e36_77, e36_78, e36_81, e36_82, e36_82i, e36_83, e36_86, e36_87, e36_88, e36_91, e36_94, e36_95, e36_96, e36_99, e36_100, e36_103, e36_104, e36_107, e36_108, e36_110, e36_113, e36_114, e36_115, e36_117, e36_119, e36_122, e36_123, e36_126, e36_127, e36_128, e36_129, e36_132, e36_133, e36_136, e36_137, e36_138, e36_141, e36_144, e36_147, psh0, psh1, psh3, true_or, or_true, eq_self, Option.bind_some, List.length_nil, List.length_cons, Nat.reduceAdd, Nat.reduceLeDiff, Nat.zero_le, ↓reduceIte, Int.reduceLT, Int.reduceEq, Int.reduceLE, Int.reduceNeg, Int.reduceAdd, Int.reduceMul, Int.reduceSub, ne_eq, not_true_eq_false, not_false_eq_true, and_true, true_and, and_false, false_and, c3lt, c3gt, c3eq, Bool.false_eq_true, isK_wr, inA_wr, inR_wr, cw, k1, q1, q7, j1, hR, c, w1, wrwr]
    · rw [if_neg c]
      simp only [e36_1, e36_4, e36_5, e36_8, e36_11, e36_12, e36_15, e36_16, e36_19, e36_19z, e36_20, e36_22, e36_25, e36_26, e36_29, e36_30, e36_33, e36_33z, e36_34, e36_36, e36_39, e36_40, e36_43, e36_44, e36_47, e36_48, e36_50, e36_53, e36_54, e36_55, e36_58, e36_61, e36_62, e36_63, e36_66, e36_67, e36_70, e36_70z, e36_71, e36_73, e36_74, e36_75, e36_76, e36_77, e36_78, e36_81, e36_82, e36_82i, e36_83, e36_86, e36_87, e36_88, e36_91, e36_94, e36_95, e36_96, e36_99, e36_100, e36_103, e36_104, e36_107, e36_108, e36_110, e36_113, e36_114, e36_115, e36_117, e36_119, e36_122, e36_123, e36_126, e36_127, e36_128, e36_129, e36_132, e36_133, e36_136, e36_137, e36_138, e36_141, e36_144, e36_147, psh0, psh1, psh3, true_or, or_true, eq_self, Option.bind_some, List.length_nil, List.length_cons, Nat.reduceAdd, Nat.reduceLeDiff, Nat.zero_le, ↓reduceIte, Int.reduceLT, Int.reduceEq, Int.reduceLE, Int.reduceNeg, Int.reduceAdd, Int.reduceMul, Int.reduceSub, ne_eq, not_true_eq_false, not_false_eq_true, and_true, true_and, and_false, false_and, c3lt, c3gt, c3eq, Bool.false_eq_true, isK_wr, inA_wr, inR_wr, cw, k1, q1, q7, j1, hR, c, w1]
theorem x_num (hx : RDX a N) {q : Nat} (h6 : mrd a 110 6 = q) (hq : q ≤ N) (n : Nat) : ∀ m : Nat, q + m + n = N → (∀ j : Nat, j < m → dgi (mrd a 111 ((q + j : Nat) : Int)) = true) → EV d 37 0 [(2, 110)] [] (mwr (mwr a 110 7 (dgv (mrd a 111) q (min m 4))) 110 4 ((q + m : Nat) : Int)) = EV d 37 91 [(2, 110)] [] (mwr (mwr a 110 7 (dgv (mrd a 111) q (min (fI (fun j => !dgi (mrd a 111 j)) (q + m) n - q) 4))) 110 4 ((fI (fun j => !dgi (mrd a 111 j)) (q + m) n : Nat) : Int)) := by
  obtain ⟨k1, k2, k3, k4, k5, k6, k7⟩ := hx.f
  have e3 := hx.2.2.1
  have h9 := hx.2.2.2
  have q3 : ∀ u v, mrd (mwr (mwr a 110 7 u) 110 4 v) 110 3 = N := fun u v => by rw [rdn2 (by decide), rdn2 (by decide)]; exact e3
  have q0 : ∀ u v, mrd (mwr (mwr a 110 7 u) 110 4 v) 110 0 = 111 := fun u v => by rw [rdn2 (by decide), rdn2 (by decide)]; exact k2
  have q6 : ∀ u v, mrd (mwr (mwr a 110 7 u) 110 4 v) 110 6 = q := fun u v => by rw [rdn2 (by decide), rdn2 (by decide)]; exact h6
  have q7 : ∀ u v, mrd (mwr (mwr a 110 7 u) 110 4 v) 110 7 = u := fun u v => by rw [rdn2 (by decide), rde]
  have qT : ∀ u v j, mrd (mwr (mwr a 110 7 u) 110 4 v) 111 j = mrd a 111 j := fun u v j => by rw [rdn1 (by decide), rdn1 (by decide)]
  have sw7 : ∀ u u' v, mwr (mwr (mwr a 110 7 u) 110 4 v) 110 7 u' = mwr (mwr a 110 7 u') 110 4 v := fun u u' v => by
    refine Prod.ext (funext fun x => funext fun j => ?_) rfl
    show mrd (mwr (mwr (mwr a 110 7 u) 110 4 v) 110 7 u') x j = mrd (mwr (mwr a 110 7 u') 110 4 v) x j
    simp only [rd_wr]
    by_cases c1 : x = 110 ∧ j = 7
    · have c2 : ¬ (x = 110 ∧ j = 4) := by omega
      simp only [if_pos c1, if_neg c2]
    · simp only [if_neg c1]
  induction n with
  | zero =>
    intro m hm hl
    have ci : ¬ ((q + m : Nat) : Int) < N := by omega
    rw [e37_0, fI, show q + m - q = m by omega]
    simp only [e37_1, e37_4, e37_5, e37_8, psh0, psh1, psh3, true_or, or_true, eq_self, Option.bind_some, List.length_nil, List.length_cons, Nat.reduceAdd, Nat.reduceLeDiff, Nat.zero_le, ↓reduceIte, Int.reduceLT, Int.reduceEq, Int.reduceLE, Int.reduceNeg, Int.reduceAdd, Int.reduceMul, Int.reduceSub, ne_eq, not_true_eq_false, not_false_eq_true, and_true, true_and, and_false, false_and, c3lt, c3gt, c3eq, Bool.false_eq_true, isK_wr, inA_wr, inR_wr, k1, rde, q3, ci]
  | succ n ih =>
    intro m hm hl
    have ci : ((q + m : Nat) : Int) < N := by omega
    have j1 : inA a 111 17 ((q + m : Nat) : Int) := ⟨k4, by omega, by omega⟩
    have w1 : w32 (((q + m : Nat) : Int) + 1) = ((q + (m + 1) : Nat) : Int) := by rw [w32_id (by omega) (by omega)]; omega
    have wd : w32 (((q + m : Nat) : Int) - (q : Int)) = (m : Int) := by rw [w32_id (by omega) (by omega)]; omega
    rw [e37_0, fI]
    by_cases c1 : mrd a 111 ((q + m : Nat) : Int) < 48
    · have hb : (!dgi (mrd a 111 ((q + m : Nat) : Int))) = true := by unfold dgi; rw [decide_eq_false (by omega)]; rfl
      rw [hb, if_pos rfl, show q + m - q = m by omega]
      simp only [e37_1, e37_4, e37_5, e37_8, e37_11, e37_12, e37_15, e37_16, e37_19, e37_19z, e37_20, e37_22, e37_25, e37_26, e37_29, e37_30, e37_33, e37_33z, e37_34, e37_36, e37_39, e37_40, e37_43, e37_44, e37_47, e37_48, e37_49, e37_52, e37_53, e37_54, e37_57, e37_60, e37_61, e37_62, e37_65, e37_66, e37_69, e37_69z, e37_70, e37_72, e37_73, e37_74, e37_75, e37_78, e37_79, e37_79i, e37_80, e37_83, e37_84, e37_85, e37_88, e37_92, e37_93, e37_96, e37_97, e37_100, e37_101, e37_102, e37_105, e37_106, e37_109, e37_110, e37_113, psh0, psh1, psh3, true_or, or_true, eq_self, Option.bind_some, List.length_nil, List.length_cons, Nat.reduceAdd, Nat.reduceLeDiff, Nat.zero_le, ↓reduceIte, Int.reduceLT, Int.reduceEq, Int.reduceLE, Int.reduceNeg, Int.reduceAdd, Int.reduceMul, Int.reduceSub, ne_eq, not_true_eq_false, not_false_eq_true, and_true, true_and, and_false, false_and, c3lt, c3gt, c3eq, Bool.false_eq_true, isK_wr, inA_wr, inR_wr, k1, rde, q3, ci, q0, j1, qT, c1]
    · by_cases c2 : 57 < mrd a 111 ((q + m : Nat) : Int)
      · have hb : (!dgi (mrd a 111 ((q + m : Nat) : Int))) = true := by unfold dgi; rw [decide_eq_false (by omega)]; rfl
        rw [hb, if_pos rfl, show q + m - q = m by omega]
        simp only [e37_1, e37_4, e37_5, e37_8, e37_11, e37_12, e37_15, e37_16, e37_19, e37_19z, e37_20, e37_22, e37_25, e37_26, e37_29, e37_30, e37_33, e37_33z, e37_34, e37_36, e37_39, e37_40, e37_43, e37_44, e37_47, e37_48, e37_49, e37_52, e37_53, e37_54, e37_57, e37_60, e37_61, e37_62, e37_65, e37_66, e37_69, e37_69z, e37_70, e37_72, e37_73, e37_74, e37_75, e37_78, e37_79, e37_79i, e37_80, e37_83, e37_84, e37_85, e37_88, e37_92, e37_93, e37_96, e37_97, e37_100, e37_101, e37_102, e37_105, e37_106, e37_109, e37_110, e37_113, psh0, psh1, psh3, true_or, or_true, eq_self, Option.bind_some, List.length_nil, List.length_cons, Nat.reduceAdd, Nat.reduceLeDiff, Nat.zero_le, ↓reduceIte, Int.reduceLT, Int.reduceEq, Int.reduceLE, Int.reduceNeg, Int.reduceAdd, Int.reduceMul, Int.reduceSub, ne_eq, not_true_eq_false, not_false_eq_true, and_true, true_and, and_false, false_and, c3lt, c3gt, c3eq, Bool.false_eq_true, isK_wr, inA_wr, inR_wr, k1, rde, q3, ci, q0, j1, qT, c1, c2]
      · have ht : dgi (mrd a 111 ((q + m : Nat) : Int)) = true := by unfold dgi; rw [decide_eq_true (by omega)]
        have hb : (!dgi (mrd a 111 ((q + m : Nat) : Int))) = false := by rw [ht]; rfl
        have ih' := ih (m + 1) (by omega) (fun j hj => by
          by_cases e : j = m
          · rw [e]; exact ht
          · exact hl j (by omega))
        rw [hb, if_neg (by decide), show q + m + 1 = q + (m + 1) by omega, ← ih']
        by_cases c8 : (m : Int) < 4
        · have b := dgv_rng (T := mrd a 111) (q := q) m (by omega) hl
          have p := p10 (m := m) (by omega)
          have e1 : min m 4 = m := by omega
          have e2 : min (m + 1) 4 = m + 1 := by omega
          have u1 : w64 (dgv (mrd a 111) q m * 10) = dgv (mrd a 111) q m * 10 := w64_id (by omega) (by omega)
          have u2 : w32 (mrd a 111 ((q + m : Nat) : Int) - 48) = mrd a 111 ((q + m : Nat) : Int) - 48 := w32_id (by omega) (by omega)
          have u4 : w64 (dgv (mrd a 111) q m * 10 + (mrd a 111 ((q + m : Nat) : Int) - 48)) = dgv (mrd a 111) q (m + 1) := by
            rw [dgv, w64_id (by omega) (by omega)]
          rw [e1, e2]
          simp only [e37_1, e37_4, e37_5, e37_8, e37_11, e37_12, e37_15, e37_16, e37_19, e37_19z, e37_20, e37_22, e37_25, e37_26, e37_29, e37_30, e37_33, e37_33z, e37_34, e37_36, e37_39, e37_40, e37_43, e37_44, e37_47, e37_48, e37_49, e37_52, e37_53, e37_54, e37_57, e37_60, e37_61, e37_62, e37_65, e37_66, e37_69, e37_69z, e37_70, e37_72, e37_73, e37_74, e37_75, e37_78, e37_79, e37_79i, e37_80, e37_83, e37_84, e37_85, e37_88, e37_92, e37_93, e37_96, e37_97, e37_100, e37_101, e37_102, e37_105, e37_106, e37_109, e37_110, e37_113, psh0, psh1, psh3, true_or, or_true, eq_self, Option.bind_some, List.length_nil, List.length_cons, Nat.reduceAdd, Nat.reduceLeDiff, Nat.zero_le, ↓reduceIte, Int.reduceLT, Int.reduceEq, Int.reduceLE, Int.reduceNeg, Int.reduceAdd, Int.reduceMul, Int.reduceSub, ne_eq, not_true_eq_false, not_false_eq_true, and_true, true_and, and_false, false_and, c3lt, c3gt, c3eq, Bool.false_eq_true, isK_wr, inA_wr, inR_wr, k1, rde, q3, ci, q0, q6, q7, j1, qT, c1, c2, wd, c8, u1, u2, u4, sw7, w1, wrwr]
        · have e1 : min m 4 = 4 := by omega
          have e2 : min (m + 1) 4 = 4 := by omega
          rw [e1, e2]
          simp only [e37_1, e37_4, e37_5, e37_8, e37_11, e37_12, e37_15, e37_16, e37_19, e37_19z, e37_20, e37_22, e37_25, e37_26, e37_29, e37_30, e37_33, e37_33z, e37_34, e37_36, e37_39, e37_40, e37_43, e37_44, e37_47, e37_48, e37_49, e37_52, e37_53, e37_54, e37_57, e37_60, e37_61, e37_62, e37_65, e37_66, e37_69, e37_69z, e37_70, e37_72, e37_73, e37_74, e37_75, e37_78, e37_79, e37_79i, e37_80, e37_83, e37_84, e37_85, e37_88, e37_92, e37_93, e37_96, e37_97, e37_100, e37_101, e37_102, e37_105, e37_106, e37_109, e37_110, e37_113, psh0, psh1, psh3, true_or, or_true, eq_self, Option.bind_some, List.length_nil, List.length_cons, Nat.reduceAdd, Nat.reduceLeDiff, Nat.zero_le, ↓reduceIte, Int.reduceLT, Int.reduceEq, Int.reduceLE, Int.reduceNeg, Int.reduceAdd, Int.reduceMul, Int.reduceSub, ne_eq, not_true_eq_false, not_false_eq_true, and_true, true_and, and_false, false_and, c3lt, c3gt, c3eq, Bool.false_eq_true, isK_wr, inA_wr, inR_wr, k1, rde, q3, ci, q0, q6, q7, j1, qT, c1, c2, wd, c8, w1, wrwr]
end
