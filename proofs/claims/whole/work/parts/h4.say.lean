/-! countSaid as the class has it -/
theorem SV_congr {ok ok' : Nat → Nat → Bool} {vw vw' : Nat → Bool} {m N : Nat} (ho : ∀ T l, l < N → ok T l = ok' T l) (hv : ∀ l, l < N → vw l = vw' l) : ∀ T c, SV ok vw m N T c = SV ok' vw' m N T c := by
  intro T
  induction T using Nat.strongRecOn with
  | _ T ih =>
    intro c
    rw [SV_rec, SV_rec]
    refine sm_congr N (fun l hl => ?_)
    rw [ho _ l hl]
    by_cases hb : (T.testBit l && ok' (T - 2 ^ l) l) = true
    · rw [if_pos hb, if_pos hb]
      have hd := del_lt (Bool.and_eq_true _ _ ▸ hb).1
      have eb : bgS vw m l = bgS vw' m l := by unfold bgS; rw [hv l hl]
      unfold KS
      rw [eb]
      by_cases z : T - 2 ^ l = 0
      · rw [if_pos z, if_pos z]
      · rw [if_neg z, if_neg z]
        exact adv_congr (fun st => ih _ hd st)
    · rw [if_neg hb, if_neg hb]
theorem rS_congr {ok ok' : Nat → Nat → Bool} {vw vw' : Nat → Bool} {m N : Nat} (ho : ∀ T l, l < N → ok T l = ok' T l) (hv : ∀ l, l < N → vw l = vw' l) (T : Nat) : rS ok vw m N T = rS ok' vw' m N T := sm_congr _ (fun c _ => SV_congr ho hv T c)
theorem x_countSaid {d : Nat} {h : AM} {s : Int} {N m : Nat} (hp : Shp h) (hr : RSum h) (hrr : RRef h.1) (hs : s = 162 ∨ s = 195) (hN : mrd h s 6 = N) (N12 : N ≤ 12) (hlen : 0 ≤ mrd h 148 2 ∧ mrd h 148 2 ≤ 12) (m1 : 1 ≤ m) (m9 : m ≤ 9) (hm : (if mrd h 148 2 < mrd h s 8 then mrd h 148 2 else mrd h s 8) = m) : ∃ h', EV (d + 2) 92 0 [(2, 148), (2, s), (3, 0), (3, 0), (3, 0), (3, 0), (3, 0), (3, 0), (3, 0)] [] h = some ((1, alF (rS (okX h s) (vwX h s) m N) (mrd h 148 2) (2 ^ N)), h') ∧ SC h h' := by
  have hcs := CS_of hp hrr (S6_cur hs)
  have hmem : 2 ^ N * (2 * m) ∈ SL := by
    refine SL_mem (k := N) (j := 2 * m) N12 ?_
    rcases (show m = 1 ∨ m = 2 ∨ m = 3 ∨ m = 4 ∨ m = 5 ∨ m = 6 ∨ m = 7 ∨ m = 8 ∨ m = 9 by omega) with rfl | rfl | rfl | rfl | rfl | rfl | rfl | rfl | rfl <;> decide
  have h4 := SL_le _ hmem
  have eN := shl_pow N (by omega)
  have k148 := kn_148 hp
  obtain ⟨h1, S, c1, c2, c3, c4, c5, c6, c7, c8⟩ := x_clearSums (d := d + 1) (v := 0) hmem hp hr
  have hrr1 : RRef h1.1 := fun q hq => by
    have hn : ∀ q ∈ refT, q.1 < 258 ∧ q.1 ≠ 151 ∧ ¬ (q.1 = 148 ∧ q.2.1 = 5) := by decide +kernel
    exact (c8 _ _ (hn q hq).1 (hn q hq).2.1 (hn q hq).2.2).trans (hrr q hq)
  have hp0 : 0 < 2 ^ N := Nat.two_pow_pos N
  have hle : 2 ^ N ≤ 2 ^ N * (2 * m) := Nat.le_mul_of_pos_right _ (by omega)
  have cr : CR h1 s S N := by
    refine ⟨kn_148 c2.1, ?_, kn_149 c2.1, ln_149 c2.1, ?_, CS_of c2.1 hrr1 (S6_cur hs), by omega, ?_, N12, c3, c4, c5, ?_⟩
    · exact rf_148_0 hrr1
    · rw [c8 148 2 (by decide) (by decide) (by omega)]; exact hlen
    · rw [c8 s 6 (by omega) (by omega) (by omega)]; exact hN
    · exact Int.le_trans (Int.ofNat_le.mpr hle) c6
  obtain ⟨h3, f1, f2⟩ := x_said_out (d := d) (m := m) cr hs m1 m9 c6 (2 ^ N) 0 h1 (3, 0) (by omega) ⟨rfl, fun _ _ _ _ => rfl⟩ (fun T hT c hc => by
    rw [QS_0]
    refine c7 _ ?_
    have : (T + 1) * (2 * m) ≤ 2 ^ N * (2 * m) := Nat.mul_le_mul_right _ hT
    rw [Nat.succ_mul] at this
    omega)
  have el : mrd h1 148 2 = mrd h 148 2 := c8 _ _ (by decide) (by decide) (by omega)
  have eok : ∀ T l, l < N → okX h1 s T l = okX h s T l := fun T l hl => by
    have z2 : ∀ p : Nat, mrd h1 149 p = mrd h 149 p := fun p => c8 _ _ (by decide) (by decide) (by omega)
    have z3 : ∀ j, mrd h1 (s + 13 + l) j = mrd h (s + 13 + l) j := fun j => c8 _ _ (by omega) (by omega) (by omega)
    unfold okX okF
    simp only [el, z2, z3]
  have evw : ∀ l, l < N → vwX h1 s l = vwX h s l := fun l hl => by
    unfold vwX
    rw [c8 _ _ (by omega) (by omega) (by omega)]
  rw [el, alF_congr (w' := rS (okX h s) (vwX h s) m N) (2 ^ N) (fun u _ => rS_congr eok evw u)] at f1
  have w1 : w32 (2 * (m : Int)) = ((2 * m : Nat) : Int) := by rw [w32_id (by omega) (by omega)]; omega
  have w2 : w32 (((2 ^ N : Nat) : Int) * ((2 * m : Nat) : Int)) = ((2 ^ N * (2 * m) : Nat) : Int) := by
    rw [← Int.natCast_mul]
    exact w32_id (by omega) (by omega)
  refine ⟨h3, ?_, ?_⟩
  · refine Eq.trans ?_ f1
    simp only [e92_0, e92_1, e92_4, e92_5, e92_8, e92_11, e92_12, e92_13, e92_14, e92_15, e92_16, e92_17, e92_18, e92_21, e92_22, e92_24, e92_25, e92_27, e92_28, e92_29, e92_30, e92_33, e92_34, e92_36, e92_37, e92_41, e92_43, e92_46, e92_47, e92_49, e92_51, e92_52, e92_55, e92_57, e92_60, e92_61, e92_64, e92_67, e92_69, e92_70, e92_73, e92_75, e92_76, e92_77, e92_79, e92_80, e92_81, e92_82, e92_84, e92_87, e92_90, e92_91, e92_93, e92_95, e92_96, e92_99, e92_102, e92_103, e92_104, e92_106, e92_108, e92_111, e92_114, e92_115, e92_117, e92_119, e92_120, e92_122, e92_123, e92_124, e92_125, e92_128, e92_130, e92_131, e92_134, e92_137, e92_138, e92_141, e92_142, e92_143, e92_146, e92_149, e92_152, e92_155, e92_158, e92_160, psh0, psh1, psh3, true_or, or_true, eq_self, Option.bind_some, List.length_nil, List.length_cons, Nat.reduceAdd, Nat.reduceLeDiff, Nat.zero_le, ↓reduceIte, Int.reduceLT, Int.reduceEq, Int.reduceLE, Int.reduceNeg, Int.reduceAdd, Int.reduceMul, Int.reduceSub, ne_eq, not_true_eq_false, not_false_eq_true, and_true, true_and, and_false, false_and, c3lt, c3gt, c3eq, Bool.false_eq_true, isK_wr, inA_wr, inR_wr, hcs.1, hN, eN, k148, hm, w1, w2, c1]
    rfl
  · refine c2.trans ⟨Shp_eq f2.1 c2.1, ?_, by rw [f2.1], fun a i z1 z2 z3 z4 => f2.2 a i (by omega) (fun z => z4 ⟨z.1, Or.inr (Or.inl z.2)⟩)⟩
    exact RSum_eq f2.1 (f2.2 _ _ (by omega) (by omega)) c2.2.1
