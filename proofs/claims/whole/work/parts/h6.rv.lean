/-! runs are no longer than names; how rows of different limits agree -/
section
variable {ok ok' : Nat → Nat → Bool} {vw : Nat → Bool} {m m' N : Nat}
theorem RV_T0 {c : Nat} : RV ok vw m N 0 c = 0 := rfl
theorem RV_zero (N12 : N ≤ 12) (m9 : m ≤ 9) : ∀ T : Nat, T < 4096 → ∀ k r : Nat, k < 2 → r < 9 → cB (T : Int) 12 ≤ (r : Int) → RV ok vw m N T (9 * k + r) = 0 := by
  intro T
  induction T using Nat.strongRecOn with
  | _ T ih =>
    intro hT k r hk hr hc
    rw [RV_rec]
    refine sm_no N (fun l hl => ?_)
    by_cases h : (T.testBit l && ok (T - 2 ^ l) l) = true
    · rw [if_pos h]
      have hb := (Bool.and_eq_true _ _ ▸ h).1
      obtain ⟨h1, h2, h3⟩ := bit_del hb
      have hd := del_lt hb
      have hp0 := Nat.two_pow_pos l
      have h4 := cB_ins (x := T - 2 ^ l) (l := l) (by omega) (by omega) h3
      rw [← h2] at h4
      have h5 := cB_rng ((T - 2 ^ l : Nat) : Int) 12
      have hv := vn_lt (b := vw l)
      unfold KR
      generalize vn (vw l) = v at hv ⊢
      by_cases z : T - 2 ^ l = 0
      · rw [if_pos z, if_neg (by omega)]
      · rw [if_neg z]
        by_cases e : k = v
        · subst e
          obtain ⟨r, rfl⟩ : ∃ q, r = q + 1 := ⟨r - 1, by omega⟩
          rw [advR_s m9]
          split
          · exact ih _ hd (by omega) k r hk (by omega) (by omega)
          · rfl
        · exact advR_z m9 hk hv e hr
    · rw [if_neg h]
theorem RV_lim {n : Int} (N12 : N ≤ 12) (hmm : m ≤ m') (m9 : m' ≤ 9) (hok : ∀ U l : Nat, U < 4096 → l < N → cB (U : Int) 12 < n → ok U l = ok' U l) (hn : m = m' ∨ n ≤ (m : Int)) : ∀ T : Nat, T < 4096 → cB (T : Int) 12 ≤ n → ∀ k r : Nat, k < 2 → r < 9 → RV ok vw m N T (9 * k + r) = RV ok' vw m' N T (9 * k + r) := by
  intro T
  induction T using Nat.strongRecOn with
  | _ T ih =>
    intro hT hc k r hk hr
    rw [RV_rec, RV_rec]
    refine sm_congr N (fun l hl => ?_)
    cases hb : T.testBit l with
    | false => simp
    | true =>
      obtain ⟨h1, h2, h3⟩ := bit_del hb
      have hd := del_lt hb
      have hp0 := Nat.two_pow_pos l
      have h4 := cB_ins (x := T - 2 ^ l) (l := l) (by omega) (by omega) h3
      rw [← h2] at h4
      have h5 := cB_rng ((T - 2 ^ l : Nat) : Int) 12
      have hv := vn_lt (b := vw l)
      rw [hok (T - 2 ^ l) l (by omega) hl (by omega)]
      by_cases h : (true && ok' (T - 2 ^ l) l) = true
      · rw [if_pos h, if_pos h]
        have ih := ih _ hd (by omega) (by omega)
        have zz := RV_zero (ok := ok') (vw := vw) (m := m') N12 m9 (T - 2 ^ l) (by omega)
        unfold KR
        generalize vn (vw l) = v at hv ⊢
        by_cases z : T - 2 ^ l = 0
        · rw [if_pos z, if_pos z]
        · rw [if_neg z, if_neg z]
          by_cases e : k = v
          · subst e
            cases r with
            | zero =>
              rw [Nat.add_zero, advR_b, advR_b]
              obtain ⟨q, rfl⟩ : ∃ q, m' = m + q := ⟨m' - m, by omega⟩
              rw [sm_split]
              have : sm (fun r => RV ok' vw (m + q) N (T - 2 ^ l) (9 * (1 - k) + (m + r))) q = 0 := sm_no q (fun r hr => by
                exact zz (1 - k) (m + r) (by omega) (by omega) (by omega))
              rw [this, Int.add_zero]
              exact sm_congr m (fun r hr => ih (1 - k) r (by omega) (by omega))
            | succ r =>
              rw [advR_s (by omega), advR_s m9]
              by_cases c : r + 1 < m
              · rw [if_pos c, if_pos (by omega), ih k r hk (by omega)]
              · rw [if_neg c]
                by_cases c2 : r + 1 < m'
                · rw [if_pos c2, zz k r hk (by omega) (by omega)]
                · rw [if_neg c2]
          · rw [advR_z (by omega) hk hv e hr, advR_z m9 hk hv e hr]
      · rw [if_neg h, if_neg h]
theorem rS_RV (m1 : 1 ≤ m) (m9 : m ≤ 9) (T : Nat) : rS ok vw m N T = sm (RV ok vw m N T) 18 := by
  unfold rS
  have half : ∀ k, k < 2 → sm (fun r => RV ok vw m N T (9 * k + r)) 9 = sm (fun r => SV ok vw m N T (m * k + r)) m := fun k hk => by
    obtain ⟨q, hq⟩ : ∃ q, 9 = m + q := ⟨9 - m, by omega⟩
    have e : sm (fun r => RV ok vw m N T (9 * k + r)) 9 = sm (fun r => RV ok vw m N T (9 * k + r)) (m + q) := by rw [← hq]
    rw [e, sm_split, sm_no (g := fun r => RV ok vw m N T (9 * k + (m + r))) q (fun r hr => by rw [RV_SV m1 m9 T k (m + r) hk (by omega), if_neg (by omega)]), Int.add_zero]
    exact sm_congr m (fun r hr => by rw [RV_SV m1 m9 T k r hk (by omega), if_pos hr])
  have h0 := half 0 (by decide)
  have h1 := half 1 (by decide)
  rw [show (18 : Nat) = 9 + 9 from rfl, sm_split, show 2 * m = m + m by omega, sm_split]
  simp only [Nat.mul_zero, Nat.zero_add, Nat.mul_one] at h0 h1
  have e0 : sm (RV ok vw m N T) 9 = sm (SV ok vw m N T) m := h0
  rw [e0, h1]
/-- what the reference adds up for a set -/
theorem RV_B (N12 : N ≤ 12) (m1 : 1 ≤ m) (m9 : m ≤ 9) {T : Nat} (hT : T < 4096) : (∀ c, c < 18 → 0 ≤ RV ok vw m N T c) ∧ 0 ≤ sm (RV ok vw m N T) 18 ∧ sm (RV ok vw m N T) 18 ≤ 8916100448256 := by
  have b := rS_bd (ok := ok) (vw := vw) (m := m) N12 hT
  rw [rS_RV m1 m9] at b
  refine ⟨fun c hc => ?_, b⟩
  have nn := (SV_B (ok := ok) (vw := vw) (m := m) N12 T hT).1
  rw [show c = 9 * (c / 9) + c % 9 by omega, RV_SV m1 m9 T (c / 9) (c % 9) (by omega) (by omega)]
  split
  · exact nn _
  · exact Int.le_refl _
end
