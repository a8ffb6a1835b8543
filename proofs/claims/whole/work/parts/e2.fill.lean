/-! the reference's ways, days, costs -/
def mq (g : Nat → Option Int) : Nat → Int
  | 0 => 99999
  | n + 1 => match g n with
    | none => mq g n
    | some v => if v < mq g n then v else mq g n
theorem mq_congr {g g' : Nat → Option Int} : ∀ n, (∀ l, l < n → g l = g' l) → mq g n = mq g' n
  | 0, _ => rfl
  | n + 1, h => by rw [mq, mq, mq_congr n (fun l hl => h l (by omega)), h n (by omega)]
theorem mq_none {g : Nat → Option Int} {n : Nat} (h : g n = none) : mq g (n + 1) = mq g n := by rw [mq, h]
theorem mq_some {g : Nat → Option Int} {n : Nat} {v : Int} (h : g n = some v) : mq g (n + 1) = if v < mq g n then v else mq g n := by rw [mq, h]
def Df (ok : Nat → Nat → Bool) (N : Nat) (c : Nat → Int) : Nat → Nat → Int
  | 0, T => if T = 0 then 0 else 99999
  | f + 1, T => if T = 0 then 0 else mq (fun l => if (T.testBit l && (ok (T - 2 ^ l) l && decide (Wy ok N (T - 2 ^ l) ≠ 0))) = true then some (Df ok N c f (T - 2 ^ l) + c l) else none) N
def Dy (ok : Nat → Nat → Bool) (N : Nat) (c : Nat → Int) (T : Nat) : Int := Df ok N c T T
section
variable {ok : Nat → Nat → Bool} {N : Nat} {c : Nat → Int}
theorem Df_D : ∀ (T f : Nat), T ≤ f → Df ok N c f T = Dy ok N c T := by
  intro T
  induction T using Nat.strongRecOn with
  | _ T ih =>
    intro f hf
    by_cases c0 : T = 0
    · subst c0
      unfold Dy
      cases f with
      | zero => rfl
      | succ f => rw [Df, Df, if_pos rfl, if_pos rfl]
    · obtain ⟨t, rfl⟩ : ∃ t, T = t + 1 := ⟨T - 1, by omega⟩
      obtain ⟨f', rfl⟩ : ∃ f', f = f' + 1 := ⟨f - 1, by omega⟩
      unfold Dy
      rw [Df, Df, if_neg c0, if_neg c0]
      refine mq_congr N (fun l hl => ?_)
      by_cases h : ((t + 1).testBit l && (ok (t + 1 - 2 ^ l) l && decide (Wy ok N (t + 1 - 2 ^ l) ≠ 0))) = true
      · rw [if_pos h, if_pos h]
        have hb := (Bool.and_eq_true _ _ ▸ h).1
        have hd := del_lt hb
        rw [ih _ hd f' (by omega), ih _ hd t (by omega)]
      · rw [if_neg h, if_neg h]
theorem D_0 : Dy ok N c 0 = 0 := rfl
/-- one lesson's offer -/
def dg (ok : Nat → Nat → Bool) (N : Nat) (c : Nat → Int) (T : Nat) : Nat → Option Int := fun l => if (T.testBit l && (ok (T - 2 ^ l) l && decide (Wy ok N (T - 2 ^ l) ≠ 0))) = true then some (Dy ok N c (T - 2 ^ l) + c l) else none
theorem D_rec {T : Nat} (h : T ≠ 0) : Dy ok N c T = mq (dg ok N c T) N := by
  rw [← Df_D T (T + 1) (by omega), Df, if_neg h]
  refine mq_congr N (fun l hl => ?_)
  unfold dg
  by_cases hb : (T.testBit l && (ok (T - 2 ^ l) l && decide (Wy ok N (T - 2 ^ l) ≠ 0))) = true
  · rw [if_pos hb, if_pos hb, Df_D _ _ (Nat.sub_le _ _)]
  · rw [if_neg hb, if_neg hb]
theorem mq_bd {g : Nat → Option Int} {lo hi : Int} : ∀ n, (∀ l, l < n → ∀ v, g l = some v → lo ≤ v ∧ v ≤ hi) → lo ≤ 99999 → hi < 99999 → (lo ≤ mq g n ∧ mq g n ≤ 99999) ∧ ((∀ l, l < n → g l = none) → mq g n = 99999) ∧ ((∃ l, l < n ∧ g l ≠ none) → mq g n ≤ hi)
  | 0, _, h1, h2 => by
    rw [mq]
    exact ⟨⟨h1, Int.le_refl _⟩, fun _ => rfl, fun ⟨l, hl, _⟩ => by omega⟩
  | n + 1, h, h1, h2 => by
    obtain ⟨a1, a2, a3⟩ := mq_bd n (fun l hl => h l (by omega)) h1 h2
    cases hg : g n with
    | none =>
      rw [mq_none hg]
      refine ⟨a1, fun z => a2 (fun l hl => z l (by omega)), fun ⟨l, hl, hn⟩ => a3 ⟨l, ?_, hn⟩⟩
      by_cases e : l = n
      · subst e; exact absurd hg hn
      · omega
    | some v =>
      rw [mq_some hg]
      have hv := h n (by omega) v hg
      refine ⟨by split <;> omega, fun z => absurd (hg.symm.trans (z n (by omega))) (fun y => by cases y), fun _ => by split <;> omega⟩
theorem W_pos (hN : N ≤ 12) {T : Nat} (h0 : T ≠ 0) (hT : T < 4096) : Wy ok N T ≠ 0 ↔ ∃ l, l < N ∧ (T.testBit l && (ok (T - 2 ^ l) l && decide (Wy ok N (T - 2 ^ l) ≠ 0))) = true := by
  rw [W_rec h0]
  have hnn : ∀ l, l < N → 0 ≤ (fun l => if (T.testBit l && ok (T - 2 ^ l) l) = true then Wy ok N (T - 2 ^ l) else 0) l := fun l hl => by
    show 0 ≤ if (T.testBit l && ok (T - 2 ^ l) l) = true then Wy ok N (T - 2 ^ l) else 0
    split
    · exact (W_B hN (Nat.lt_of_le_of_lt (Nat.sub_le _ _) hT)).1
    · exact Int.le_refl 0
  constructor
  · intro hne
    refine Classical.byContradiction fun hn => hne ((sm_0 N hnn).mpr (fun l hl => ?_))
    show (if (T.testBit l && ok (T - 2 ^ l) l) = true then Wy ok N (T - 2 ^ l) else 0) = 0
    split
    · rename_i hb
      refine Classical.byContradiction fun hw => hn ⟨l, hl, ?_⟩
      rw [Bool.and_eq_true] at hb
      rw [hb.1, hb.2, decide_eq_true hw]
      rfl
    · rfl
  · rintro ⟨l, hl, hb⟩ he
    have := (sm_0 N hnn).mp he l hl
    rw [Bool.and_eq_true, Bool.and_eq_true, decide_eq_true_iff] at hb
    have e : (if (T.testBit l && ok (T - 2 ^ l) l) = true then Wy ok N (T - 2 ^ l) else 0) = Wy ok N (T - 2 ^ l) := by rw [hb.1, hb.2.1]; rfl
    exact hb.2.2 (e.symm.trans this)
theorem D_bd (hN : N ≤ 12) (hc : ∀ l, l < N → 0 ≤ c l ∧ c l ≤ 99) : ∀ T, T < 4096 → (0 ≤ Dy ok N c T ∧ Dy ok N c T ≤ 99999) ∧ (Wy ok N T = 0 → Dy ok N c T = 99999) ∧ (Wy ok N T ≠ 0 → Dy ok N c T ≤ 99 * cB (T : Int) 12) := by
  intro T
  induction T using Nat.strongRecOn with
  | _ T ih =>
    intro hT
    by_cases c0 : T = 0
    · subst c0
      rw [D_0, W_0]
      refine ⟨by omega, fun z => by omega, fun _ => ?_⟩
      have := cB_rng ((0 : Nat) : Int) 12
      omega
    · have hr := cB_rng (T : Int) 12
      have hg : ∀ l, l < N → ∀ v, dg ok N c T l = some v → 0 ≤ v ∧ v ≤ 99 * cB (T : Int) 12 := fun l hl v hv => by
        unfold dg at hv
        split at hv
        · rename_i hb
          rw [Bool.and_eq_true, Bool.and_eq_true, decide_eq_true_iff] at hb
          obtain ⟨h1, h2, h3⟩ := bit_del hb.1
          have hlt := del_lt hb.1
          have h4 := cB_ins (x := T - 2 ^ l) (l := l) (by omega) (by omega) h3
          rw [← h2] at h4
          obtain ⟨i1, -, i3⟩ := ih _ hlt (by omega)
          have i3 := i3 hb.2.2
          have hcl := hc l hl
          have := Option.some.inj hv
          omega
        · cases hv
      obtain ⟨b1, b2, b3⟩ := mq_bd (g := dg ok N c T) (lo := 0) (hi := 99 * cB (T : Int) 12) N hg (by decide) (by omega)
      rw [D_rec c0]
      refine ⟨b1, fun hw => b2 (fun l hl => ?_), fun hw => b3 ?_⟩
      · unfold dg
        rw [if_neg]
        intro hb
        exact (W_pos hN c0 hT).mpr ⟨l, hl, hb⟩ hw
      · obtain ⟨l, hl, hb⟩ := (W_pos hN c0 hT).mp hw
        refine ⟨l, hl, ?_⟩
        unfold dg
        rw [if_pos hb]
        exact fun z => by cases z
end
/-- only the three rows change -/
def FQ (g0 g : AM) : Prop := g.2 = g0.2 ∧ ∀ a i, a ≠ 244 → a ≠ 245 → a ≠ 246 → mrd g a i = mrd g0 a i
theorem CM_fq {g g' : AM} (hm : CM g) (hsp : FQ g g') : CM g' := by
  refine ⟨?_, ?_, fun q hq => ?_⟩
  · have := hm.1
    unfold isK mnx mkn at this ⊢
    rw [hsp.1]; exact this
  · have hS := hm.2.1
    unfold Shp mnx at hS ⊢
    rw [hsp.1]; exact hS
  · have hn : ∀ q ∈ refT, q.1 ≠ 244 ∧ q.1 ≠ 245 ∧ q.1 ≠ 246 := by decide +kernel
    exact (hsp.2 _ _ (hn q hq).1 (hn q hq).2.1 (hn q hq).2.2).trans (hm.2.2 q hq)
/-- the reference's question -/
def okR (g : AM) : Nat → Nat → Bool := okF (mrd g 235 27) (fun p => mrd g 243 p) (fun l => mrd g 240 (4 + l)) (fun l => mrd g 240 (52 + l))
/-- a lesson's way on, with a row of letters that are told -/
theorem okR_iff {g : AM} {T l : Nat} (hz : ∀ p : Nat, (p : Int) < mrd g 235 27 → mrd g 243 p ≠ 0) (hc : cB (T : Int) 12 < mrd g 235 27) : okR g T l = (decide (opn (T : Int) (mrd g 240 (52 + l)) (l : Int)) && decide (mrd g 240 (4 + l) = mrd g 243 (cB (T : Int) 12))) := by
  have hr := cB_rng (T : Int) 12
  unfold okR okF
  rw [decide_eq_true hc, Bool.true_and]
  obtain ⟨P, hP⟩ : ∃ P : Nat, cB (T : Int) 12 = P := ⟨(cB (T : Int) 12).toNat, by omega⟩
  rw [hP] at hc ⊢
  show (decide (opn (T : Int) (mrd g 240 (52 + l)) (l : Int)) && (decide (mrd g 243 P = 0) || decide (mrd g 243 P = mrd g 240 (4 + l)))) = _
  rw [decide_eq_false (hz P hc), Bool.false_or]
  congr 1
  by_cases c : mrd g 243 P = mrd g 240 (4 + l)
  · rw [decide_eq_true c, decide_eq_true c.symm]
  · rw [decide_eq_false c, decide_eq_false (fun z => c z.symm)]
section
variable {d : Nat} {h g : AM} {s a b c k l p v w x y z : Int}
/-- what the filling reads -/
def FR (g : AM) (N : Nat) : Prop := CM g ∧ mrd g 240 1 = N ∧ N ≤ 12 ∧ (0 ≤ mrd g 235 27 ∧ mrd g 235 27 ≤ 12) ∧ (∀ p : Nat, (p : Int) < mrd g 235 27 → mrd g 243 p ≠ 0) ∧ (∀ l : Nat, l < N → (0 ≤ mrd g 240 (16 + l) ∧ mrd g 240 (16 + l) ≤ 99) ∧ (0 ≤ mrd g 240 (28 + l) ∧ mrd g 240 (28 + l) ≤ 99))
theorem FR_fq {g0 : AM} {N : Nat} (hr : FR g0 N) (hq : FQ g0 g) : FR g N ∧ okR g = okR g0 := by
  obtain ⟨a1, a2, a3, a4, a5, a6⟩ := hr
  have e4 : ∀ i, mrd g 240 i = mrd g0 240 i := fun i => hq.2 _ _ (by decide) (by decide) (by decide)
  have e3 : ∀ i, mrd g 243 i = mrd g0 243 i := fun i => hq.2 _ _ (by decide) (by decide) (by decide)
  have e5 : ∀ i, mrd g 235 i = mrd g0 235 i := fun i => hq.2 _ _ (by decide) (by decide) (by decide)
  refine ⟨⟨CM_fq a1 hq, by rw [e4]; exact a2, a3, by rw [e5]; exact a4, fun p hp => by rw [e3]; exact a5 p (by rw [← e5]; exact hp), fun l hl => by rw [e4, e4]; exact a6 l hl⟩, ?_⟩
  unfold okR
  simp only [e4, e3, e5]
/-- the rows up to set st -/
def RowsU (g g0 : AM) (N st : Nat) : Prop := ∀ T : Nat, T < st → mrd g 244 T = Wy (okR g0) N T ∧ mrd g 245 T = Dy (okR g0) N (fun l => mrd g0 240 (16 + l)) T ∧ mrd g 246 T = Dy (okR g0) N (fun l => mrd g0 240 (28 + l)) T
def wg (ok : Nat → Nat → Bool) (N T : Nat) : Nat → Int := fun l => if (T.testBit l && ok (T - 2 ^ l) l) = true then Wy ok N (T - 2 ^ l) else 0
set_option maxHeartbeats 8000000 in
theorem m_fill_in {g0 : AM} {N st : Nat} (hr : FR g0 N) (hst : st < 2 ^ N) (st0 : st ≠ 0) (hsz : cB (st : Int) 12 ≤ mrd g0 235 27) (n : Nat) : ∀ (li : Nat) (g : AM) (l4 : AV), li + n = N → FQ g0 g → RowsU g g0 N st → mrd g 244 st = sm (wg (okR g0) N st) li → mrd g 245 st = mq (dg (okR g0) N (fun l => mrd g0 240 (16 + l)) st) li → mrd g 246 st = mq (dg (okR g0) N (fun l => mrd g0 240 (28 + l)) st) li → ∃ g' l4', EV (d + 2) 287 81 [(2, 235), (0, (st : Int)), (0, cB (st : Int) 12), (0, (li : Int)), l4] [] g = EV (d + 2) 287 236 [(2, 235), (0, (st : Int)), (0, cB (st : Int) 12), (0, (N : Int)), l4'] [] g' ∧ FQ g0 g' ∧ RowsU g' g0 N (st + 1) := by
  have N12 := hr.2.2.1
  have hp := pow_13 N12
  have bnd1 := D_bd (ok := okR g0) (c := fun l => mrd g0 240 (16 + l)) N12 (fun l hl => (hr.2.2.2.2.2 l hl).1)
  have bnd2 := D_bd (ok := okR g0) (c := fun l => mrd g0 240 (28 + l)) N12 (fun l hl => (hr.2.2.2.2.2 l hl).2)
  induction n with
  | zero =>
    intro li g l4 hi hq hU e1 e2 e3
    have e : li = N := by omega
    subst e
    obtain ⟨⟨cm, a2, a3, a4, a5, a6⟩, -⟩ := FR_fq hr hq
    have i1 := inC cm (j := 1) (by decide) (by decide)
    refine ⟨g, l4, ?_, hq, fun T hT => ?_⟩
    · rw [e287_81]
      simp only [e287_0, e287_1, e287_3, e287_4, e287_5, e287_8, e287_9, e287_10, e287_11, e287_14, e287_15, e287_18, e287_19, e287_20, e287_23, e287_24, e287_27, e287_28, e287_29, e287_30, e287_33, e287_34, e287_35, e287_38, e287_39, e287_42, e287_45, e287_46, e287_47, e287_50, e287_51, e287_52, e287_55, e287_56, e287_59, e287_62, e287_63, e287_64, e287_67, e287_68, e287_69, e287_70, e287_73, e287_76, e287_79, e287_80, e287_82, e287_83, e287_86, e287_87, e287_88, e287_91, e287_92, e287_93, e287_94, e287_95, e287_96, e287_97, e287_98, e287_100, e287_102, e287_103, e287_106, e287_107, e287_110, e287_112, e287_113, e287_114, e287_115, e287_118, e287_119, e287_122, e287_123, e287_124, e287_125, e287_126, e287_127, e287_130, e287_131, e287_132, e287_133, e287_134, e287_137, e287_138, e287_140, e287_141, e287_144, e287_147, e287_150, e287_151, e287_154, e287_155, e287_156, e287_157, e287_158, e287_161, e287_163, e287_164, e287_165, e287_166, e287_167, e287_170, e287_171, e287_172, e287_175, e287_176, e287_177, e287_178, e287_181, e287_183, e287_184, e287_185, e287_188, e287_190, e287_191, e287_192, e287_193, e287_194, e287_197, e287_198, e287_199, e287_202, e287_203, e287_204, e287_207, e287_208, e287_209, e287_210, e287_213, e287_215, e287_216, e287_217, e287_220, e287_222, e287_223, e287_224, e287_225, e287_226, e287_229, e287_230, e287_233, e287_239, e287_242, psh0, psh1, psh3, true_or, or_true, eq_self, Option.bind_some, List.length_nil, List.length_cons, Nat.reduceAdd, Nat.reduceLeDiff, Nat.zero_le, ↓reduceIte, Int.reduceLT, Int.reduceEq, Int.reduceLE, Int.reduceNeg, Int.reduceAdd, Int.reduceMul, Int.reduceSub, ne_eq, not_true_eq_false, not_false_eq_true, and_true, true_and, and_false, false_and, c3lt, c3gt, c3eq, Bool.false_eq_true, isK_wr, inA_wr, inR_wr, cm.1, mC cm, i1, a2, Int.lt_irrefl]
    · by_cases c : T = st
      · subst c
        exact ⟨by rw [e1, W_rec st0]; rfl, by rw [e2, D_rec st0], by rw [e3, D_rec st0]⟩
      · exact hU T (by omega)
  | succ n ih =>
    intro li g l4 hi hq hU e1 e2 e3
    obtain ⟨⟨cm, a2, a3, a4, a5, a6⟩, eok⟩ := FR_fq hr hq
    have i1 := inC cm (j := 1) (by decide) (by decide)
    have ci : (li : Int) < N := by omega
    have w1 : w32 ((li : Int) + 1) = ((li + 1 : Nat) : Int) := by rw [w32_id (by omega) (by omega)]; omega
    have m28 : mrd g 235 28 = 244 := rf_235_28 cm.2.2
    have m29 : mrd g 235 29 = 245 := rf_235_29 cm.2.2
    have m30 : mrd g 235 30 = 246 := rf_235_30 cm.2.2
    have m26 : mrd g 235 26 = 243 := rf_235_26 cm.2.2
    have hp0 := Nat.two_pow_pos li
    have eS1 : sm (wg (okR g0) N st) (li + 1) = sm (wg (okR g0) N st) li + wg (okR g0) N st li := rfl
    cases hb : st.testBit li with
    | false =>
      have er := i_nodel (t := st) (l := li) (by omega) (by omega) hb
      have z1 : wg (okR g0) N st li = 0 := by unfold wg; rw [hb]; rfl
      have z2 : ∀ c, dg (okR g0) N c st li = none := fun c => by unfold dg; rw [hb]; rfl
      obtain ⟨g', l4', f1, f2, f3⟩ := ih (li + 1) g (0, (st : Int)) (by omega) hq hU (by rw [e1, eS1, z1, Int.add_zero]) (by rw [e2, mq_none (z2 _)]) (by rw [e3, mq_none (z2 _)])
      refine ⟨g', l4', ?_, f2, f3⟩
      rw [← f1, e287_81]
      simp only [e287_0, e287_1, e287_3, e287_4, e287_5, e287_8, e287_9, e287_10, e287_11, e287_14, e287_15, e287_18, e287_19, e287_20, e287_23, e287_24, e287_27, e287_28, e287_29, e287_30, e287_33, e287_34, e287_35, e287_38, e287_39, e287_42, e287_45, e287_46, e287_47, e287_50, e287_51, e287_52, e287_55, e287_56, e287_59, e287_62, e287_63, e287_64, e287_67, e287_68, e287_69, e287_70, e287_73, e287_76, e287_79, e287_80, e287_82, e287_83, e287_86, e287_87, e287_88, e287_91, e287_92, e287_93, e287_94, e287_95, e287_96, e287_97, e287_98, e287_100, e287_102, e287_103, e287_106, e287_107, e287_110, e287_112, e287_113, e287_114, e287_115, e287_118, e287_119, e287_122, e287_123, e287_124, e287_125, e287_126, e287_127, e287_130, e287_131, e287_132, e287_133, e287_134, e287_137, e287_138, e287_140, e287_141, e287_144, e287_147, e287_150, e287_151, e287_154, e287_155, e287_156, e287_157, e287_158, e287_161, e287_163, e287_164, e287_165, e287_166, e287_167, e287_170, e287_171, e287_172, e287_175, e287_176, e287_177, e287_178, e287_181, e287_183, e287_184, e287_185, e287_188, e287_190, e287_191, e287_192, e287_193, e287_194, e287_197, e287_198, e287_199, e287_202, e287_203, e287_204, e287_207, e287_208, e287_209, e287_210, e287_213, e287_215, e287_216, e287_217, e287_220, e287_222, e287_223, e287_224, e287_225, e287_226, e287_229, e287_230, e287_233, e287_239, e287_242, psh0, psh1, psh3, true_or, or_true, eq_self, Option.bind_some, List.length_nil, List.length_cons, Nat.reduceAdd, Nat.reduceLeDiff, Nat.zero_le, ↓reduceIte, Int.reduceLT, Int.reduceEq, Int.reduceLE, Int.reduceNeg, Int.reduceAdd, Int.reduceMul, Int.reduceSub, ne_eq, not_true_eq_false, not_false_eq_true, and_true, true_and, and_false, false_and, c3lt, c3gt, c3eq, Bool.false_eq_true, isK_wr, inA_wr, inR_wr, cm.1, mC cm, i1, a2, ci, er, w1]
    | true =>
      obtain ⟨h1, h2, h3⟩ := bit_del hb
      have hlt := del_lt hb
      have er := i_del (t := st) (l := li) (by omega) (by omega) hb
      have hcb := cB_ins (x := st - 2 ^ li) (l := li) (by omega) (by omega) h3
      rw [← h2] at hcb
      obtain ⟨R, hR⟩ : ∃ R, R = st - 2 ^ li := ⟨_, rfl⟩
      rw [← hR] at er hcb hlt h3
      have nrs : ¬ (R : Int) = (st : Int) := by omega
      have iR : inA g 244 19 (R : Int) := ⟨kn_244 cm.2.1, by omega, by rw [ln_244 cm.2.1]; omega⟩
      obtain ⟨u1, u2, u3⟩ := hU R hlt
      have hcr := cB_rng (R : Int) 12
      have hcR : cB (R : Int) 12 < mrd g0 235 27 := by omega
      have iff := okR_iff (g := g0) (T := R) (l := li) hr.2.2.2.2.1 hcR
      by_cases cw : Wy (okR g0) N R = 0
      · have z1 : wg (okR g0) N st li = 0 := by
          unfold wg
          rw [← hR, cw]
          split <;> rfl
        have z2 : ∀ c, dg (okR g0) N c st li = none := fun c => by
          unfold dg
          rw [← hR, decide_eq_false (show ¬ Wy (okR g0) N R ≠ 0 from fun z => z cw), if_neg (by simp)]
        obtain ⟨g', l4', f1, f2, f3⟩ := ih (li + 1) g (0, (R : Int)) (by omega) hq hU (by rw [e1, eS1, z1, Int.add_zero]) (by rw [e2, mq_none (z2 _)]) (by rw [e3, mq_none (z2 _)])
        refine ⟨g', l4', ?_, f2, f3⟩
        rw [← f1, e287_81]
        simp only [e287_0, e287_1, e287_3, e287_4, e287_5, e287_8, e287_9, e287_10, e287_11, e287_14, e287_15, e287_18, e287_19, e287_20, e287_23, e287_24, e287_27, e287_28, e287_29, e287_30, e287_33, e287_34, e287_35, e287_38, e287_39, e287_42, e287_45, e287_46, e287_47, e287_50, e287_51, e287_52, e287_55, e287_56, e287_59, e287_62, e287_63, e287_64, e287_67, e287_68, e287_69, e287_70, e287_73, e287_76, e287_79, e287_80, e287_82, e287_83, e287_86, e287_87, e287_88, e287_91, e287_92, e287_93, e287_94, e287_95, e287_96, e287_97, e287_98, e287_100, e287_102, e287_103, e287_106, e287_107, e287_110, e287_112, e287_113, e287_114, e287_115, e287_118, e287_119, e287_122, e287_123, e287_124, e287_125, e287_126, e287_127, e287_130, e287_131, e287_132, e287_133, e287_134, e287_137, e287_138, e287_140, e287_141, e287_144, e287_147, e287_150, e287_151, e287_154, e287_155, e287_156, e287_157, e287_158, e287_161, e287_163, e287_164, e287_165, e287_166, e287_167, e287_170, e287_171, e287_172, e287_175, e287_176, e287_177, e287_178, e287_181, e287_183, e287_184, e287_185, e287_188, e287_190, e287_191, e287_192, e287_193, e287_194, e287_197, e287_198, e287_199, e287_202, e287_203, e287_204, e287_207, e287_208, e287_209, e287_210, e287_213, e287_215, e287_216, e287_217, e287_220, e287_222, e287_223, e287_224, e287_225, e287_226, e287_229, e287_230, e287_233, e287_239, e287_242, psh0, psh1, psh3, true_or, or_true, eq_self, Option.bind_some, List.length_nil, List.length_cons, Nat.reduceAdd, Nat.reduceLeDiff, Nat.zero_le, ↓reduceIte, Int.reduceLT, Int.reduceEq, Int.reduceLE, Int.reduceNeg, Int.reduceAdd, Int.reduceMul, Int.reduceSub, ne_eq, not_true_eq_false, not_false_eq_true, and_true, true_and, and_false, false_and, c3lt, c3gt, c3eq, Bool.false_eq_true, isK_wr, inA_wr, inR_wr, cm.1, mC cm, i1, a2, ci, er, nrs, m28, iR, u1, cw, w1]
      · have w2 : w32 (4 + (li : Int)) = 4 + li := w32_id (by omega) (by omega)
        have i4 := inC cm (j := 4 + (li : Int)) (by omega) (by omega)
        have e44 : mrd g 240 (4 + li) = mrd g0 240 (4 + li) := hq.2 _ _ (by decide) (by decide) (by decide)
        have e52 : mrd g 240 (52 + li) = mrd g0 240 (52 + li) := hq.2 _ _ (by decide) (by decide) (by decide)
        have w3 : w32 (cB (st : Int) 12 - 1) = cB (R : Int) 12 := by rw [w32_id (by omega) (by omega)]; omega
        have i3 : inA g 243 16 (cB (R : Int) 12) := ⟨kn_243 cm.2.1, hcr.1, by rw [ln_243 cm.2.1]; omega⟩
        have e43 : mrd g 243 (cB (R : Int) 12) = mrd g0 243 (cB (R : Int) 12) := hq.2 _ _ (by decide) (by decide) (by decide)
        have go := m_isOpenTo (d := d) (x := (R : Int)) (l := (li : Int)) cm (by omega) (by omega)
        rw [e52] at go
        by_cases cl : mrd g0 240 (4 + li) = mrd g0 243 (cB (R : Int) 12)
        · by_cases co : opn (R : Int) (mrd g0 240 (52 + li)) (li : Int)
          · rw [if_pos co] at go
            rw [decide_eq_true cl, decide_eq_true co] at iff
            have z1 : wg (okR g0) N st li = Wy (okR g0) N R := by
              unfold wg
              rw [← hR, hb, iff]
              rfl
            have z2 : ∀ c, dg (okR g0) N c st li = some (Dy (okR g0) N c R + c li) := fun c => by
              unfold dg
              rw [← hR, hb, iff, decide_eq_true cw]
              rfl
            have w16 : w32 (16 + (li : Int)) = 16 + li := w32_id (by omega) (by omega)
            have w28 : w32 (28 + (li : Int)) = 28 + li := w32_id (by omega) (by omega)
            have i16 := inC cm (j := 16 + (li : Int)) (by omega) (by omega)
            have i28 := inC cm (j := 28 + (li : Int)) (by omega) (by omega)
            have e16 : mrd g 240 (16 + li) = mrd g0 240 (16 + li) := hq.2 _ _ (by decide) (by decide) (by decide)
            have e28 : mrd g 240 (28 + li) = mrd g0 240 (28 + li) := hq.2 _ _ (by decide) (by decide) (by decide)
            have hc6 := hr.2.2.2.2.2 li (by omega)
            have iS4 : inA g 244 19 (st : Int) := ⟨kn_244 cm.2.1, by omega, by rw [ln_244 cm.2.1]; omega⟩
            have iS5 : inA g 245 16 (st : Int) := ⟨kn_245 cm.2.1, by omega, by rw [ln_245 cm.2.1]; omega⟩
            have iS6 : inA g 246 16 (st : Int) := ⟨kn_246 cm.2.1, by omega, by rw [ln_246 cm.2.1]; omega⟩
            have iR5 : inA g 245 16 (R : Int) := ⟨kn_245 cm.2.1, by omega, by rw [ln_245 cm.2.1]; omega⟩
            have iR6 : inA g 246 16 (R : Int) := ⟨kn_246 cm.2.1, by omega, by rw [ln_246 cm.2.1]; omega⟩
            have bW := W_B (ok := okR g0) N12 (show R < 4096 by omega)
            have bS := sm_bd (g := wg (okR g0) N st) (B := 8916100448256) li (fun l hl => by
              unfold wg
              split
              · exact W_B N12 (Nat.lt_of_le_of_lt (Nat.sub_le _ _) (show st < 4096 by omega))
              · exact ⟨by decide, by decide⟩)
            have w5 : w64 (sm (wg (okR g0) N st) li + Wy (okR g0) N R) = sm (wg (okR g0) N st) li + Wy (okR g0) N R := w64_id (by omega) (by omega)
            have bD1 := (bnd1 R (by omega)).1
            have bD2 := (bnd2 R (by omega)).1
            have w6 : w32 (Dy (okR g0) N (fun l => mrd g0 240 (16 + l)) R + mrd g0 240 (16 + li)) = Dy (okR g0) N (fun l => mrd g0 240 (16 + l)) R + mrd g0 240 (16 + li) := w32_id (by omega) (by omega)
            have w7 : w32 (Dy (okR g0) N (fun l => mrd g0 240 (28 + l)) R + mrd g0 240 (28 + li)) = Dy (okR g0) N (fun l => mrd g0 240 (28 + l)) R + mrd g0 240 (28 + li) := w32_id (by omega) (by omega)
            obtain ⟨G, hG⟩ : ∃ G, G = mwr (mwr (mwr g 244 st (sm (wg (okR g0) N st) li + Wy (okR g0) N R)) 245 st (if Dy (okR g0) N (fun l => mrd g0 240 (16 + l)) R + mrd g0 240 (16 + li) < mq (dg (okR g0) N (fun l => mrd g0 240 (16 + l)) st) li then Dy (okR g0) N (fun l => mrd g0 240 (16 + l)) R + mrd g0 240 (16 + li) else mq (dg (okR g0) N (fun l => mrd g0 240 (16 + l)) st) li)) 246 st (if Dy (okR g0) N (fun l => mrd g0 240 (28 + l)) R + mrd g0 240 (28 + li) < mq (dg (okR g0) N (fun l => mrd g0 240 (28 + l)) st) li then Dy (okR g0) N (fun l => mrd g0 240 (28 + l)) R + mrd g0 240 (28 + li) else mq (dg (okR g0) N (fun l => mrd g0 240 (28 + l)) st) li) := ⟨_, rfl⟩
            obtain ⟨g', l4', f1, f2, f3⟩ := ih (li + 1) G (0, (R : Int)) (by omega) (by
              rw [hG]
              refine ⟨hq.1, fun a i y1 y2 y3 => ?_⟩
              rw [rdn1 y3, rdn1 y2, rdn1 y1]
              exact hq.2 a i y1 y2 y3) (fun T hT => by
              have hne : ¬ (T : Int) = (st : Int) := by omega
              rw [hG, rdn1 (by decide), rdn1 (by decide), rdn2 hne, rdn1 (by decide), rdn2 hne, rdn1 (by decide), rdn2 hne, rdn1 (by decide), rdn1 (by decide)]
              exact hU T hT) (by rw [hG, rdn1 (by decide), rdn1 (by decide), rde, eS1, z1]) (by rw [hG, rdn1 (by decide), rde, mq_some (z2 _)]) (by rw [hG, rde, mq_some (z2 _)])
            refine ⟨g', l4', ?_, f2, f3⟩
            rw [← f1, e287_81]
            have nst : ((R : Int) = (st : Int)) = False := eq_false nrs
            simp only [e287_0, e287_1, e287_3, e287_4, e287_5, e287_8, e287_9, e287_10, e287_11, e287_14, e287_15, e287_18, e287_19, e287_20, e287_23, e287_24, e287_27, e287_28, e287_29, e287_30, e287_33, e287_34, e287_35, e287_38, e287_39, e287_42, e287_45, e287_46, e287_47, e287_50, e287_51, e287_52, e287_55, e287_56, e287_59, e287_62, e287_63, e287_64, e287_67, e287_68, e287_69, e287_70, e287_73, e287_76, e287_79, e287_80, e287_82, e287_83, e287_86, e287_87, e287_88, e287_91, e287_92, e287_93, e287_94, e287_95, e287_96, e287_97, e287_98, e287_100, e287_102, e287_103, e287_106, e287_107, e287_110, e287_112, e287_113, e287_114, e287_115, e287_118, e287_119, e287_122, e287_123, e287_124, e287_125, e287_126, e287_127, e287_130, e287_131, e287_132, e287_133, e287_134, e287_137, e287_138, e287_140, e287_141, e287_144, e287_147, e287_150, e287_151, e287_154, e287_155, e287_156, e287_157, e287_158, e287_161, e287_163, e287_164, e287_165, e287_166, e287_167, e287_170, e287_171, e287_172, e287_175, e287_176, e287_177, e287_178, e287_181, e287_183, e287_184, e287_185, e287_188, e287_190, e287_191, e287_192, e287_193, e287_194, e287_197, e287_198, e287_199, e287_202, e287_203, e287_204, e287_207, e287_208, e287_209, e287_210, e287_213, e287_215, e287_216, e287_217, e287_220, e287_222, e287_223, e287_224, e287_225, e287_226, e287_229, e287_230, e287_233, e287_239, e287_242, psh0, psh1, psh3, true_or, or_true, eq_self, Option.bind_some, List.length_nil, List.length_cons, Nat.reduceAdd, Nat.reduceLeDiff, Nat.zero_le, ↓reduceIte, Int.reduceLT, Int.reduceEq, Int.reduceLE, Int.reduceNeg, Int.reduceAdd, Int.reduceMul, Int.reduceSub, ne_eq, not_true_eq_false, not_false_eq_true, and_true, true_and, and_false, false_and, c3lt, c3gt, c3eq, Bool.false_eq_true, isK_wr, inA_wr, inR_wr, cm.1, mC cm, i1, a2, ci, er, nrs, m28, m29, m30, m26, iR, u1, cw, w2, i4, e44, w3, i3, e43, cl, go, iS4, e1, rd_wr, w5, iS5, iR5, e2, u2, w16, i16, e16, w6, iS6, iR6, e3, u3, w28, i28, e28, w7, ← hG, w1]
          · rw [if_neg co] at go
            rw [decide_eq_false co] at iff
            have z1 : wg (okR g0) N st li = 0 := by
              unfold wg
              rw [← hR, iff]
              simp
            have z2 : ∀ c, dg (okR g0) N c st li = none := fun c => by
              unfold dg
              rw [← hR, iff, if_neg (by simp)]
            obtain ⟨g', l4', f1, f2, f3⟩ := ih (li + 1) g (0, (R : Int)) (by omega) hq hU (by rw [e1, eS1, z1, Int.add_zero]) (by rw [e2, mq_none (z2 _)]) (by rw [e3, mq_none (z2 _)])
            refine ⟨g', l4', ?_, f2, f3⟩
            rw [← f1, e287_81]
            simp only [e287_0, e287_1, e287_3, e287_4, e287_5, e287_8, e287_9, e287_10, e287_11, e287_14, e287_15, e287_18, e287_19, e287_20, e287_23, e287_24, e287_27, e287_28, e287_29, e287_30, e287_33, e287_34, e287_35, e287_38, e287_39, e287_42, e287_45, e287_46, e287_47, e287_50, e287_51, e287_52, e287_55, e287_56, e287_59, e287_62, e287_63, e287_64, e287_67, e287_68, e287_69, e287_70, e287_73, e287_76, e287_79, e287_80, e287_82, e287_83, e287_86, e287_87, e287_88, e287_91, e287_92, e287_93, e287_94, e287_95, e287_96, e287_97, e287_98, e287_100, e287_102, e287_103, e287_106, e287_107, e287_110, e287_112, e287_113, e287_114, e287_115, e287_118, e287_119, e287_122, e287_123, e287_124, e287_125, e287_126, e287_127, e287_130, e287_131, e287_132, e287_133, e287_134, e287_137, e287_138, e287_140, e287_141, e287_144, e287_147, e287_150, e287_151, e287_154, e287_155, e287_156, e287_157, e287_158, e287_161, e287_163, e287_164, e287_165, e287_166, e287_167, e287_170, e287_171, e287_172, e287_175, e287_176, e287_177, e287_178, e287_181, e287_183, e287_184, e287_185, e287_188, e287_190, e287_191, e287_192, e287_193, e287_194, e287_197, e287_198, e287_199, e287_202, e287_203, e287_204, e287_207, e287_208, e287_209, e287_210, e287_213, e287_215, e287_216, e287_217, e287_220, e287_222, e287_223, e287_224, e287_225, e287_226, e287_229, e287_230, e287_233, e287_239, e287_242, psh0, psh1, psh3, true_or, or_true, eq_self, Option.bind_some, List.length_nil, List.length_cons, Nat.reduceAdd, Nat.reduceLeDiff, Nat.zero_le, ↓reduceIte, Int.reduceLT, Int.reduceEq, Int.reduceLE, Int.reduceNeg, Int.reduceAdd, Int.reduceMul, Int.reduceSub, ne_eq, not_true_eq_false, not_false_eq_true, and_true, true_and, and_false, false_and, c3lt, c3gt, c3eq, Bool.false_eq_true, isK_wr, inA_wr, inR_wr, cm.1, mC cm, i1, a2, ci, er, nrs, m28, m26, iR, u1, cw, w2, i4, e44, w3, i3, e43, cl, go, w1]
        · rw [decide_eq_false cl] at iff
          have z1 : wg (okR g0) N st li = 0 := by
            unfold wg
            rw [← hR, iff]
            simp
          have z2 : ∀ c, dg (okR g0) N c st li = none := fun c => by
            unfold dg
            rw [← hR, iff, if_neg (by simp)]
          obtain ⟨g', l4', f1, f2, f3⟩ := ih (li + 1) g (0, (R : Int)) (by omega) hq hU (by rw [e1, eS1, z1, Int.add_zero]) (by rw [e2, mq_none (z2 _)]) (by rw [e3, mq_none (z2 _)])
          refine ⟨g', l4', ?_, f2, f3⟩
          rw [← f1, e287_81]
          simp only [e287_0, e287_1, e287_3, e287_4, e287_5, e287_8, e287_9, e287_10, e287_11, e287_14, e287_15, e287_18, e287_19, e287_20, e287_23, e287_24, e287_27, e287_28, e287_29, e287_30, e287_33, e287_34, e287_35, e287_38, e287_39, e287_42, e287_45, e287_46, e287_47, e287_50, e287_51, e287_52, e287_55, e287_56, e287_59, e287_62, e287_63, e287_64, e287_67, e287_68, e287_69, e287_70, e287_73, e287_76, e287_79, e287_80, e287_82, e287_83, e287_86, e287_87, e287_88, e287_91, e287_92, e287_93, e287_94, e287_95, e287_96, e287_97, e287_98, e287_100, e287_102, e287_103, e287_106, e287_107, e287_110, e287_112, e287_113, e287_114, e287_115, e287_118, e287_119, e287_122, e287_123, e287_124, e287_125, e287_126, e287_127, e287_130, e287_131, e287_132, e287_133, e287_134, e287_137, e287_138, e287_140, e287_141, e287_144, e287_147, e287_150, e287_151, e287_154, e287_155, e287_156, e287_157, e287_158, e287_161, e287_163, e287_164, e287_165, e287_166, e287_167, e287_170, e287_171, e287_172, e287_175, e287_176, e287_177, e287_178, e287_181, e287_183, e287_184, e287_185, e287_188, e287_190, e287_191, e287_192, e287_193, e287_194, e287_197, e287_198, e287_199, e287_202, e287_203, e287_204, e287_207, e287_208, e287_209, e287_210, e287_213, e287_215, e287_216, e287_217, e287_220, e287_222, e287_223, e287_224, e287_225, e287_226, e287_229, e287_230, e287_233, e287_239, e287_242, psh0, psh1, psh3, true_or, or_true, eq_self, Option.bind_some, List.length_nil, List.length_cons, Nat.reduceAdd, Nat.reduceLeDiff, Nat.zero_le, ↓reduceIte, Int.reduceLT, Int.reduceEq, Int.reduceLE, Int.reduceNeg, Int.reduceAdd, Int.reduceMul, Int.reduceSub, ne_eq, not_true_eq_false, not_false_eq_true, and_true, true_and, and_false, false_and, c3lt, c3gt, c3eq, Bool.false_eq_true, isK_wr, inA_wr, inR_wr, cm.1, mC cm, i1, a2, ci, er, nrs, m28, m26, iR, u1, cw, w2, i4, e44, w3, i3, e43, cl, w1]
theorem m_fill_out {g0 : AM} {N : Nat} (hr : FR g0 N) (n : Nat) : ∀ (st : Nat) (g : AM) (l2 l3 l4 : AV), st + n = 2 ^ N → FQ g0 g → RowsU g g0 N st → ∃ g', EV (d + 2) 287 2 [(2, 235), (0, (st : Int)), l2, l3, l4] [] g = some ((3, 0), g') ∧ FQ g0 g' ∧ RowsU g' g0 N (2 ^ N) := by
  have N12 := hr.2.2.1
  have hp := pow_13 N12
  have eN := shl_pow N (by omega)
  induction n with
  | zero =>
    intro st g l2 l3 l4 hi hq hU
    have e : st = 2 ^ N := by omega
    obtain ⟨⟨cm, a2, a3, a4, a5, a6⟩, -⟩ := FR_fq hr hq
    have i1 := inC cm (j := 1) (by decide) (by decide)
    refine ⟨g, ?_, hq, by rw [← e]; exact hU⟩
    rw [e287_2, e]
    simp only [e287_0, e287_1, e287_3, e287_4, e287_5, e287_8, e287_9, e287_10, e287_11, e287_14, e287_15, e287_18, e287_19, e287_20, e287_23, e287_24, e287_27, e287_28, e287_29, e287_30, e287_33, e287_34, e287_35, e287_38, e287_39, e287_42, e287_45, e287_46, e287_47, e287_50, e287_51, e287_52, e287_55, e287_56, e287_59, e287_62, e287_63, e287_64, e287_67, e287_68, e287_69, e287_70, e287_73, e287_76, e287_79, e287_80, e287_82, e287_83, e287_86, e287_87, e287_88, e287_91, e287_92, e287_93, e287_94, e287_95, e287_96, e287_97, e287_98, e287_100, e287_102, e287_103, e287_106, e287_107, e287_110, e287_112, e287_113, e287_114, e287_115, e287_118, e287_119, e287_122, e287_123, e287_124, e287_125, e287_126, e287_127, e287_130, e287_131, e287_132, e287_133, e287_134, e287_137, e287_138, e287_140, e287_141, e287_144, e287_147, e287_150, e287_151, e287_154, e287_155, e287_156, e287_157, e287_158, e287_161, e287_163, e287_164, e287_165, e287_166, e287_167, e287_170, e287_171, e287_172, e287_175, e287_176, e287_177, e287_178, e287_181, e287_183, e287_184, e287_185, e287_188, e287_190, e287_191, e287_192, e287_193, e287_194, e287_197, e287_198, e287_199, e287_202, e287_203, e287_204, e287_207, e287_208, e287_209, e287_210, e287_213, e287_215, e287_216, e287_217, e287_220, e287_222, e287_223, e287_224, e287_225, e287_226, e287_229, e287_230, e287_233, e287_236, e287_239, e287_242, psh0, psh1, psh3, true_or, or_true, eq_self, Option.bind_some, List.length_nil, List.length_cons, Nat.reduceAdd, Nat.reduceLeDiff, Nat.zero_le, ↓reduceIte, Int.reduceLT, Int.reduceEq, Int.reduceLE, Int.reduceNeg, Int.reduceAdd, Int.reduceMul, Int.reduceSub, ne_eq, not_true_eq_false, not_false_eq_true, and_true, true_and, and_false, false_and, c3lt, c3gt, c3eq, Bool.false_eq_true, isK_wr, inA_wr, inR_wr, cm.1, mC cm, i1, a2, eN, Int.lt_irrefl]
  | succ n ih =>
    intro st g l2 l3 l4 hi hq hU
    have hst : st < 2 ^ N := by omega
    obtain ⟨⟨cm, a2, a3, a4, a5, a6⟩, -⟩ := FR_fq hr hq
    have i1 := inC cm (j := 1) (by decide) (by decide)
    have ci : (st : Int) < ((2 ^ N : Nat) : Int) := Int.ofNat_lt.mpr hst
    have w1 : w32 ((st : Int) + 1) = ((st + 1 : Nat) : Int) := by rw [w32_id (by omega) (by omega)]; omega
    have m28 : mrd g 235 28 = 244 := rf_235_28 cm.2.2
    have m29 : mrd g 235 29 = 245 := rf_235_29 cm.2.2
    have m30 : mrd g 235 30 = 246 := rf_235_30 cm.2.2
    have iS4 : inA g 244 19 (st : Int) := ⟨kn_244 cm.2.1, by omega, by rw [ln_244 cm.2.1]; omega⟩
    have iS5 : inA g 245 16 (st : Int) := ⟨kn_245 cm.2.1, by omega, by rw [ln_245 cm.2.1]; omega⟩
    have iS6 : inA g 246 16 (st : Int) := ⟨kn_246 cm.2.1, by omega, by rw [ln_246 cm.2.1]; omega⟩
    have gs := fun h => m_sizeOf (d := d) (h := h) (x := (st : Int))
    have hq27 : ∀ h, FQ g0 h → mrd h 235 27 = mrd g0 235 27 := fun h hh => hh.2 _ _ (by decide) (by decide) (by decide)
    have fq3 : ∀ v1 v2 v3, FQ g0 (mwr (mwr (mwr g 244 st v1) 245 st v2) 246 st v3) := fun v1 v2 v3 => ⟨hq.1, fun a i y1 y2 y3 => by
      rw [rdn1 y3, rdn1 y2, rdn1 y1]
      exact hq.2 a i y1 y2 y3⟩
    have ru3 : ∀ v1 v2 v3, RowsU (mwr (mwr (mwr g 244 st v1) 245 st v2) 246 st v3) g0 N st := fun v1 v2 v3 T hT => by
      have hne : ¬ (T : Int) = (st : Int) := by omega
      rw [rdn1 (by decide), rdn1 (by decide), rdn2 hne, rdn1 (by decide), rdn2 hne, rdn1 (by decide), rdn2 hne, rdn1 (by decide), rdn1 (by decide)]
      exact hU T hT
    by_cases c0 : st = 0
    · subst c0
      have cz : cB ((0 : Nat) : Int) 12 = 0 := by decide +kernel
      have g236 : ∃ g' l4', EV (d + 2) 287 81 [(2, 235), (0, ((0 : Nat) : Int)), (0, 0), (0, 0), l4] [] (mwr (mwr (mwr g 244 ((0 : Nat) : Int) 1) 245 ((0 : Nat) : Int) 0) 246 ((0 : Nat) : Int) 0) = EV (d + 2) 287 236 [(2, 235), (0, ((0 : Nat) : Int)), (0, 0), (0, (N : Int)), l4'] [] g' ∧ g' = mwr (mwr (mwr g 244 ((0 : Nat) : Int) 1) 245 ((0 : Nat) : Int) 0) 246 ((0 : Nat) : Int) 0 := by
        have hq3 := fq3 1 0 0
        generalize mwr (mwr (mwr g 244 ((0 : Nat) : Int) 1) 245 ((0 : Nat) : Int) 0) 246 ((0 : Nat) : Int) 0 = G at hq3
        obtain ⟨⟨cm3, a23, -⟩, -⟩ := FR_fq hr hq3
        have i13 := inC cm3 (j := 1) (by decide) (by decide)
        have key : ∀ (m li : Nat) (l4 : AV), li + m = N → ∃ l4', EV (d + 2) 287 81 [(2, 235), (0, ((0 : Nat) : Int)), (0, 0), (0, (li : Int)), l4] [] G = EV (d + 2) 287 236 [(2, 235), (0, ((0 : Nat) : Int)), (0, 0), (0, (N : Int)), l4'] [] G := by
          intro m
          induction m with
          | zero =>
            intro li l4 hl
            have e : li = N := by omega
            subst e
            refine ⟨l4, ?_⟩
            rw [e287_81]
            simp only [e287_0, e287_1, e287_3, e287_4, e287_5, e287_8, e287_9, e287_10, e287_11, e287_14, e287_15, e287_18, e287_19, e287_20, e287_23, e287_24, e287_27, e287_28, e287_29, e287_30, e287_33, e287_34, e287_35, e287_38, e287_39, e287_42, e287_45, e287_46, e287_47, e287_50, e287_51, e287_52, e287_55, e287_56, e287_59, e287_62, e287_63, e287_64, e287_67, e287_68, e287_69, e287_70, e287_73, e287_76, e287_79, e287_80, e287_82, e287_83, e287_86, e287_87, e287_88, e287_91, e287_92, e287_93, e287_94, e287_95, e287_96, e287_97, e287_98, e287_100, e287_102, e287_103, e287_106, e287_107, e287_110, e287_112, e287_113, e287_114, e287_115, e287_118, e287_119, e287_122, e287_123, e287_124, e287_125, e287_126, e287_127, e287_130, e287_131, e287_132, e287_133, e287_134, e287_137, e287_138, e287_140, e287_141, e287_144, e287_147, e287_150, e287_151, e287_154, e287_155, e287_156, e287_157, e287_158, e287_161, e287_163, e287_164, e287_165, e287_166, e287_167, e287_170, e287_171, e287_172, e287_175, e287_176, e287_177, e287_178, e287_181, e287_183, e287_184, e287_185, e287_188, e287_190, e287_191, e287_192, e287_193, e287_194, e287_197, e287_198, e287_199, e287_202, e287_203, e287_204, e287_207, e287_208, e287_209, e287_210, e287_213, e287_215, e287_216, e287_217, e287_220, e287_222, e287_223, e287_224, e287_225, e287_226, e287_229, e287_230, e287_233, e287_239, e287_242, psh0, psh1, psh3, true_or, or_true, eq_self, Option.bind_some, List.length_nil, List.length_cons, Nat.reduceAdd, Nat.reduceLeDiff, Nat.zero_le, ↓reduceIte, Int.reduceLT, Int.reduceEq, Int.reduceLE, Int.reduceNeg, Int.reduceAdd, Int.reduceMul, Int.reduceSub, ne_eq, not_true_eq_false, not_false_eq_true, and_true, true_and, and_false, false_and, c3lt, c3gt, c3eq, Bool.false_eq_true, isK_wr, inA_wr, inR_wr, cm3.1, mC cm3, i13, a23, Int.lt_irrefl]
          | succ m ihm =>
            intro li l4 hl
            have cl : (li : Int) < N := by omega
            have wl : w32 ((li : Int) + 1) = ((li + 1 : Nat) : Int) := by rw [w32_id (by omega) (by omega)]; omega
            have er := i_nodel (t := 0) (l := li) (by omega) (by omega) (Nat.zero_testBit li)
            obtain ⟨l4', f1⟩ := ihm (li + 1) (0, ((0 : Nat) : Int)) (by omega)
            refine ⟨l4', ?_⟩
            rw [← f1, e287_81]
            simp only [e287_0, e287_1, e287_3, e287_4, e287_5, e287_8, e287_9, e287_10, e287_11, e287_14, e287_15, e287_18, e287_19, e287_20, e287_23, e287_24, e287_27, e287_28, e287_29, e287_30, e287_33, e287_34, e287_35, e287_38, e287_39, e287_42, e287_45, e287_46, e287_47, e287_50, e287_51, e287_52, e287_55, e287_56, e287_59, e287_62, e287_63, e287_64, e287_67, e287_68, e287_69, e287_70, e287_73, e287_76, e287_79, e287_80, e287_82, e287_83, e287_86, e287_87, e287_88, e287_91, e287_92, e287_93, e287_94, e287_95, e287_96, e287_97, e287_98, e287_100, e287_102, e287_103, e287_106, e287_107, e287_110, e287_112, e287_113, e287_114, e287_115, e287_118, e287_119, e287_122, e287_123, e287_124, e287_125, e287_126, e287_127, e287_130, e287_131, e287_132, e287_133, e287_134, e287_137, e287_138, e287_140, e287_141, e287_144, e287_147, e287_150, e287_151, e287_154, e287_155, e287_156, e287_157, e287_158, e287_161, e287_163, e287_164, e287_165, e287_166, e287_167, e287_170, e287_171, e287_172, e287_175, e287_176, e287_177, e287_178, e287_181, e287_183, e287_184, e287_185, e287_188, e287_190, e287_191, e287_192, e287_193, e287_194, e287_197, e287_198, e287_199, e287_202, e287_203, e287_204, e287_207, e287_208, e287_209, e287_210, e287_213, e287_215, e287_216, e287_217, e287_220, e287_222, e287_223, e287_224, e287_225, e287_226, e287_229, e287_230, e287_233, e287_239, e287_242, psh0, psh1, psh3, true_or, or_true, eq_self, Option.bind_some, List.length_nil, List.length_cons, Nat.reduceAdd, Nat.reduceLeDiff, Nat.zero_le, ↓reduceIte, Int.reduceLT, Int.reduceEq, Int.reduceLE, Int.reduceNeg, Int.reduceAdd, Int.reduceMul, Int.reduceSub, ne_eq, not_true_eq_false, not_false_eq_true, and_true, true_and, and_false, false_and, c3lt, c3gt, c3eq, Bool.false_eq_true, isK_wr, inA_wr, inR_wr, cm3.1, mC cm3, i13, a23, cl, er, wl]
        obtain ⟨l4', f1⟩ := key N 0 l4 (by omega)
        exact ⟨G, l4', f1, rfl⟩
      obtain ⟨g1, l4', f1, f2⟩ := g236
      obtain ⟨g', k1, k2, k3⟩ := ih 1 g1 (0, 0) (0, (N : Int)) l4' (by omega) (by rw [f2]; exact fq3 1 0 0) (fun T hT => by
        have e : T = 0 := by omega
        subst e
        rw [f2, rdn1 (by decide), rdn1 (by decide), rde, rdn1 (by decide), rde, rde]
        exact ⟨rfl, rfl, rfl⟩)
      refine ⟨g', ?_, k2, k3⟩
      rw [← k1]
      have f3 : EV (d + 2) 287 236 [(2, 235), (0, ((0 : Nat) : Int)), (0, 0), (0, (N : Int)), l4'] [] g1 = EV (d + 2) 287 2 [(2, 235), (0, ((1 : Nat) : Int)), (0, 0), (0, (N : Int)), l4'] [] g1 := by
        simp only [e287_236, e287_239, w1]
      rw [← f3, ← f1]
      have c27 : ¬ mrd g 235 27 < 0 := by omega
      have ci0 : (0 : Int) < ((2 ^ N : Nat) : Int) := ci
      have j4 : inA g 244 19 0 := iS4
      have j5 : inA g 245 16 0 := iS5
      have j6 : inA g 246 16 0 := iS6
      have cz0 : cB 0 12 = 0 := cz
      have gs0 := fun h => m_sizeOf (d := d) (h := h) (x := 0)
      rw [e287_2]
      simp only [e287_0, e287_1, e287_3, e287_4, e287_5, e287_8, e287_9, e287_10, e287_11, e287_14, e287_15, e287_18, e287_19, e287_20, e287_23, e287_24, e287_27, e287_28, e287_29, e287_30, e287_33, e287_34, e287_35, e287_38, e287_39, e287_42, e287_45, e287_46, e287_47, e287_50, e287_51, e287_52, e287_55, e287_56, e287_59, e287_62, e287_63, e287_64, e287_67, e287_68, e287_69, e287_70, e287_73, e287_76, e287_79, e287_80, e287_82, e287_83, e287_86, e287_87, e287_88, e287_91, e287_92, e287_93, e287_94, e287_95, e287_96, e287_97, e287_98, e287_100, e287_102, e287_103, e287_106, e287_107, e287_110, e287_112, e287_113, e287_114, e287_115, e287_118, e287_119, e287_122, e287_123, e287_124, e287_125, e287_126, e287_127, e287_130, e287_131, e287_132, e287_133, e287_134, e287_137, e287_138, e287_140, e287_141, e287_144, e287_147, e287_150, e287_151, e287_154, e287_155, e287_156, e287_157, e287_158, e287_161, e287_163, e287_164, e287_165, e287_166, e287_167, e287_170, e287_171, e287_172, e287_175, e287_176, e287_177, e287_178, e287_181, e287_183, e287_184, e287_185, e287_188, e287_190, e287_191, e287_192, e287_193, e287_194, e287_197, e287_198, e287_199, e287_202, e287_203, e287_204, e287_207, e287_208, e287_209, e287_210, e287_213, e287_215, e287_216, e287_217, e287_220, e287_222, e287_223, e287_224, e287_225, e287_226, e287_229, e287_230, e287_233, e287_239, e287_242, psh0, psh1, psh3, true_or, or_true, eq_self, Option.bind_some, List.length_nil, List.length_cons, Nat.reduceAdd, Nat.reduceLeDiff, Nat.zero_le, ↓reduceIte, Int.reduceLT, Int.reduceEq, Int.reduceLE, Int.reduceNeg, Int.reduceAdd, Int.reduceMul, Int.reduceSub, ne_eq, not_true_eq_false, not_false_eq_true, and_true, true_and, and_false, false_and, c3lt, c3gt, c3eq, Bool.false_eq_true, isK_wr, inA_wr, inR_wr, cm.1, mC cm, i1, a2, eN, ci0, m28, m29, m30, j4, j5, j6, rd_wr, gs0, cz0, c27, Int.natCast_zero]
    · have c0' : ¬ (st : Int) = 0 := by omega
      by_cases csz : mrd g0 235 27 < cB (st : Int) 12
      · obtain ⟨g', k1, k2, k3⟩ := ih (st + 1) (mwr (mwr (mwr g 244 st 0) 245 st 99999) 246 st 99999) (0, cB (st : Int) 12) l3 l4 (by omega) (fq3 0 99999 99999) (fun T hT => by
          by_cases c : T = st
          · subst c
            have hz : ∀ l, l < N → (T.testBit l && okR g0 (T - 2 ^ l) l) = false := fun l hl => by
              cases hb : T.testBit l with
              | false => rfl
              | true =>
                obtain ⟨h1, h2, h3⟩ := bit_del hb
                have hp0 := Nat.two_pow_pos l
                have hcb := cB_ins (x := T - 2 ^ l) (l := l) (by omega) (by omega) h3
                rw [← h2] at hcb
                unfold okR okF
                rw [decide_eq_false (by omega)]
                rfl
            have hw : Wy (okR g0) N T = 0 := by
              rw [W_rec c0]
              refine (sm_0 N (fun l hl => ?_)).mpr (fun l hl => ?_)
              · rw [hz l hl]; exact Int.le_refl 0
              · rw [hz l hl]; rfl
            rw [rdn1 (by decide), rdn1 (by decide), rde, rdn1 (by decide), rde, rde]
            exact ⟨hw.symm, ((D_bd N12 (fun l hl => (hr.2.2.2.2.2 l hl).1) T (by omega)).2.1 hw).symm, ((D_bd N12 (fun l hl => (hr.2.2.2.2.2 l hl).2) T (by omega)).2.1 hw).symm⟩
          · exact ru3 _ _ _ T (by omega))
        refine ⟨g', ?_, k2, k3⟩
        rw [← k1, e287_2]
        have c27 : mrd g 235 27 < cB (st : Int) 12 := by rw [hq27 g hq]; exact csz
        simp only [e287_0, e287_1, e287_3, e287_4, e287_5, e287_8, e287_9, e287_10, e287_11, e287_14, e287_15, e287_18, e287_19, e287_20, e287_23, e287_24, e287_27, e287_28, e287_29, e287_30, e287_33, e287_34, e287_35, e287_38, e287_39, e287_42, e287_45, e287_46, e287_47, e287_50, e287_51, e287_52, e287_55, e287_56, e287_59, e287_62, e287_63, e287_64, e287_67, e287_68, e287_69, e287_70, e287_73, e287_76, e287_79, e287_80, e287_82, e287_83, e287_86, e287_87, e287_88, e287_91, e287_92, e287_93, e287_94, e287_95, e287_96, e287_97, e287_98, e287_100, e287_102, e287_103, e287_106, e287_107, e287_110, e287_112, e287_113, e287_114, e287_115, e287_118, e287_119, e287_122, e287_123, e287_124, e287_125, e287_126, e287_127, e287_130, e287_131, e287_132, e287_133, e287_134, e287_137, e287_138, e287_140, e287_141, e287_144, e287_147, e287_150, e287_151, e287_154, e287_155, e287_156, e287_157, e287_158, e287_161, e287_163, e287_164, e287_165, e287_166, e287_167, e287_170, e287_171, e287_172, e287_175, e287_176, e287_177, e287_178, e287_181, e287_183, e287_184, e287_185, e287_188, e287_190, e287_191, e287_192, e287_193, e287_194, e287_197, e287_198, e287_199, e287_202, e287_203, e287_204, e287_207, e287_208, e287_209, e287_210, e287_213, e287_215, e287_216, e287_217, e287_220, e287_222, e287_223, e287_224, e287_225, e287_226, e287_229, e287_230, e287_233, e287_236, e287_239, e287_242, psh0, psh1, psh3, true_or, or_true, eq_self, Option.bind_some, List.length_nil, List.length_cons, Nat.reduceAdd, Nat.reduceLeDiff, Nat.zero_le, ↓reduceIte, Int.reduceLT, Int.reduceEq, Int.reduceLE, Int.reduceNeg, Int.reduceAdd, Int.reduceMul, Int.reduceSub, ne_eq, not_true_eq_false, not_false_eq_true, and_true, true_and, and_false, false_and, c3lt, c3gt, c3eq, Bool.false_eq_true, isK_wr, inA_wr, inR_wr, cm.1, mC cm, i1, a2, eN, ci, c0', m28, m29, m30, iS4, iS5, iS6, rd_wr, gs, c27, w1]
      · obtain ⟨g1, l4', f1, f2, f3⟩ := m_fill_in (d := d) hr hst c0 (by omega) N 0 (mwr (mwr (mwr g 244 st 0) 245 st 99999) 246 st 99999) l4 (by omega) (fq3 0 99999 99999) (ru3 _ _ _) (by rw [rdn1 (by decide), rdn1 (by decide), rde]; rfl) (by rw [rdn1 (by decide), rde]; rfl) (by rw [rde]; rfl)
        obtain ⟨g', k1, k2, k3⟩ := ih (st + 1) g1 (0, cB (st : Int) 12) (0, (N : Int)) l4' (by omega) f2 f3
        refine ⟨g', ?_, k2, k3⟩
        rw [← k1]
        have f4 : EV (d + 2) 287 236 [(2, 235), (0, (st : Int)), (0, cB (st : Int) 12), (0, (N : Int)), l4'] [] g1 = EV (d + 2) 287 2 [(2, 235), (0, ((st + 1 : Nat) : Int)), (0, cB (st : Int) 12), (0, (N : Int)), l4'] [] g1 := by
          simp only [e287_236, e287_239, w1]
        rw [← f4, ← f1, e287_2]
        have c27 : ¬ mrd g 235 27 < cB (st : Int) 12 := by rw [hq27 g hq]; exact csz
        simp only [e287_0, e287_1, e287_3, e287_4, e287_5, e287_8, e287_9, e287_10, e287_11, e287_14, e287_15, e287_18, e287_19, e287_20, e287_23, e287_24, e287_27, e287_28, e287_29, e287_30, e287_33, e287_34, e287_35, e287_38, e287_39, e287_42, e287_45, e287_46, e287_47, e287_50, e287_51, e287_52, e287_55, e287_56, e287_59, e287_62, e287_63, e287_64, e287_67, e287_68, e287_69, e287_70, e287_73, e287_76, e287_79, e287_80, e287_82, e287_83, e287_86, e287_87, e287_88, e287_91, e287_92, e287_93, e287_94, e287_95, e287_96, e287_97, e287_98, e287_100, e287_102, e287_103, e287_106, e287_107, e287_110, e287_112, e287_113, e287_114, e287_115, e287_118, e287_119, e287_122, e287_123, e287_124, e287_125, e287_126, e287_127, e287_130, e287_131, e287_132, e287_133, e287_134, e287_137, e287_138, e287_140, e287_141, e287_144, e287_147, e287_150, e287_151, e287_154, e287_155, e287_156, e287_157, e287_158, e287_161, e287_163, e287_164, e287_165, e287_166, e287_167, e287_170, e287_171, e287_172, e287_175, e287_176, e287_177, e287_178, e287_181, e287_183, e287_184, e287_185, e287_188, e287_190, e287_191, e287_192, e287_193, e287_194, e287_197, e287_198, e287_199, e287_202, e287_203, e287_204, e287_207, e287_208, e287_209, e287_210, e287_213, e287_215, e287_216, e287_217, e287_220, e287_222, e287_223, e287_224, e287_225, e287_226, e287_229, e287_230, e287_233, e287_239, e287_242, psh0, psh1, psh3, true_or, or_true, eq_self, Option.bind_some, List.length_nil, List.length_cons, Nat.reduceAdd, Nat.reduceLeDiff, Nat.zero_le, ↓reduceIte, Int.reduceLT, Int.reduceEq, Int.reduceLE, Int.reduceNeg, Int.reduceAdd, Int.reduceMul, Int.reduceSub, ne_eq, not_true_eq_false, not_false_eq_true, and_true, true_and, and_false, false_and, c3lt, c3gt, c3eq, Bool.false_eq_true, isK_wr, inA_wr, inR_wr, cm.1, mC cm, i1, a2, eN, ci, c0', m28, m29, m30, iS4, iS5, iS6, rd_wr, gs, c27]
        rfl
theorem m_fill {g0 : AM} {N : Nat} (hr : FR g0 N) : ∃ g', EV (d + 2) 287 0 [(2, 235), (3, 0), (3, 0), (3, 0), (3, 0)] [] g0 = some ((3, 0), g') ∧ FQ g0 g' ∧ RowsU g' g0 N (2 ^ N) := by
  obtain ⟨g', k1, k2, k3⟩ := m_fill_out (d := d) hr (2 ^ N) 0 g0 (3, 0) (3, 0) (3, 0) (by omega) ⟨rfl, fun _ _ _ _ _ => rfl⟩ (fun T hT => by omega)
  refine ⟨g', Eq.trans ?_ k1, k2, k3⟩
  simp only [e287_0, e287_1]
  rfl
theorem m_allWays_loop {N : Nat} {w : Nat → Int} (hm : CM g) (hN : mrd g 240 1 = N) (N12 : N ≤ 12) (hw : ∀ T : Nat, T < 2 ^ N → mrd g 244 T = w T ∧ 0 ≤ w T ∧ w T ≤ 8916100448256) (n : Nat) : ∀ st : Nat, st + n = 2 ^ N → EV (d + 2) 288 5 [(2, 235), (0, x), (1, alF w x st), (3, 1), (0, (st : Int))] [] g = some ((1, alF w x (2 ^ N)), g) := by
  have hp := pow_13 N12
  have eN := shl_pow N (by omega)
  have i1 := inC hm (j := 1) (by decide) (by decide)
  have m28 : mrd g 235 28 = 244 := rf_235_28 hm.2.2
  induction n with
  | zero =>
    intro st hi
    have e : st = 2 ^ N := by omega
    rw [e288_5, e]
    simp only [e288_0, e288_1, e288_2, e288_3, e288_7, e288_8, e288_9, e288_12, e288_13, e288_14, e288_15, e288_18, e288_19, e288_21, e288_24, e288_25, e288_28, e288_29, e288_32, e288_34, e288_35, e288_38, e288_39, e288_40, e288_41, e288_44, e288_47, e288_48, psh0, psh1, psh3, true_or, or_true, eq_self, Option.bind_some, List.length_nil, List.length_cons, Nat.reduceAdd, Nat.reduceLeDiff, Nat.zero_le, ↓reduceIte, Int.reduceLT, Int.reduceEq, Int.reduceLE, Int.reduceNeg, Int.reduceAdd, Int.reduceMul, Int.reduceSub, ne_eq, not_true_eq_false, not_false_eq_true, and_true, true_and, and_false, false_and, c3lt, c3gt, c3eq, Bool.false_eq_true, isK_wr, inA_wr, inR_wr, hm.1, mC hm, i1, hN, eN, Int.lt_irrefl]
  | succ n ih =>
    intro st hi
    have hst : st < 2 ^ N := by omega
    have ci : (st : Int) < ((2 ^ N : Nat) : Int) := Int.ofNat_lt.mpr hst
    have w1 : w32 ((st : Int) + 1) = ((st + 1 : Nat) : Int) := by rw [w32_id (by omega) (by omega)]; omega
    have gs := m_sizeOf (d := d) (h := g) (x := (st : Int))
    have iS4 : inA g 244 19 (st : Int) := ⟨kn_244 hm.2.1, by omega, by rw [ln_244 hm.2.1]; omega⟩
    have hB := alF_bd (w := w) (len := x) (st + 1) (by omega) (fun u hu => (hw u (by omega)).2)
    have hB0 := alF_bd (w := w) (len := x) st (by omega) (fun u hu => (hw u (by omega)).2)
    have eA : alF w x (st + 1) = alF w x st + if cB (st : Int) 12 = x then w st else 0 := rfl
    have ws := (hw st hst).1
    rw [← ih (st + 1) (by omega), e288_5]
    by_cases c : cB (st : Int) 12 = x
    · rw [if_pos c] at eA
      have w2 : w64 (alF w x st + w st) = alF w x (st + 1) := by rw [← eA, w64_id (by omega) (by omega)]
      have ct := eq_true c
      simp only [e288_0, e288_1, e288_2, e288_3, e288_7, e288_8, e288_9, e288_12, e288_13, e288_14, e288_15, e288_18, e288_19, e288_21, e288_24, e288_25, e288_28, e288_29, e288_32, e288_34, e288_35, e288_38, e288_39, e288_40, e288_41, e288_44, e288_47, e288_48, psh0, psh1, psh3, true_or, or_true, eq_self, Option.bind_some, List.length_nil, List.length_cons, Nat.reduceAdd, Nat.reduceLeDiff, Nat.zero_le, ↓reduceIte, Int.reduceLT, Int.reduceEq, Int.reduceLE, Int.reduceNeg, Int.reduceAdd, Int.reduceMul, Int.reduceSub, ne_eq, not_true_eq_false, not_false_eq_true, and_true, true_and, and_false, false_and, c3lt, c3gt, c3eq, Bool.false_eq_true, isK_wr, inA_wr, inR_wr, hm.1, mC hm, i1, hN, eN, ci, gs, ct, m28, iS4, ws, w2, w1]
    · rw [if_neg c] at eA
      have w2 : w64 (alF w x st + 0) = alF w x (st + 1) := by rw [← eA, w64_id (by omega) (by omega)]
      simp only [e288_0, e288_1, e288_2, e288_3, e288_7, e288_8, e288_9, e288_12, e288_13, e288_14, e288_15, e288_18, e288_19, e288_21, e288_24, e288_25, e288_28, e288_29, e288_32, e288_34, e288_35, e288_38, e288_39, e288_40, e288_41, e288_44, e288_47, e288_48, psh0, psh1, psh3, true_or, or_true, eq_self, Option.bind_some, List.length_nil, List.length_cons, Nat.reduceAdd, Nat.reduceLeDiff, Nat.zero_le, ↓reduceIte, Int.reduceLT, Int.reduceEq, Int.reduceLE, Int.reduceNeg, Int.reduceAdd, Int.reduceMul, Int.reduceSub, ne_eq, not_true_eq_false, not_false_eq_true, and_true, true_and, and_false, false_and, c3lt, c3gt, c3eq, Bool.false_eq_true, isK_wr, inA_wr, inR_wr, hm.1, mC hm, i1, hN, eN, ci, gs, c, w2, w1]
theorem m_allWays {N : Nat} {w : Nat → Int} (hm : CM g) (hN : mrd g 240 1 = N) (N12 : N ≤ 12) (hw : ∀ T : Nat, T < 2 ^ N → mrd g 244 T = w T ∧ 0 ≤ w T ∧ w T ≤ 8916100448256) : EV (d + 2) 288 0 [(2, 235), (0, x), (3, 0), (3, 0), (3, 0)] [] g = some ((1, alF w x (2 ^ N)), g) := by
  refine Eq.trans ?_ (m_allWays_loop (d := d) (x := x) hm hN N12 hw (2 ^ N) 0 (by omega))
  simp only [e288_0, e288_1, e288_2, e288_3]
  rfl
end
