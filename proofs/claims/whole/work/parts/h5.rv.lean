/-! the reference's rows: 9 cells of either kind; they are the class's -/
def vn (b : Bool) : Nat := if b = true then 1 else 0
def advR (m v : Nat) (g : Nat → Int) (c j : Nat) : Int := sm (fun r => (if c = 9 * v then g (9 * (1 - v) + r) else 0) + (if c = 9 * v + r + 1 ∧ r + 1 < m then g (9 * v + r) else 0)) j
def RVf (ok : Nat → Nat → Bool) (vw : Nat → Bool) (m N : Nat) : Nat → Nat → Nat → Int
  | 0, _, _ => 0
  | f + 1, T, c => sm (fun l => if (T.testBit l && ok (T - 2 ^ l) l) = true then (if T - 2 ^ l = 0 then (if c = 9 * vn (vw l) then 1 else 0) else advR m (vn (vw l)) (RVf ok vw m N f (T - 2 ^ l)) c m) else 0) N
def RV (ok : Nat → Nat → Bool) (vw : Nat → Bool) (m N T c : Nat) : Int := RVf ok vw m N T T c
def KR (ok : Nat → Nat → Bool) (vw : Nat → Bool) (m N c U l : Nat) : Int := if U = 0 then (if c = 9 * vn (vw l) then 1 else 0) else advR m (vn (vw l)) (RV ok vw m N U) c m
theorem sm_split {g : Nat → Int} (a : Nat) : ∀ b, sm g (a + b) = sm g a + sm (fun r => g (a + r)) b
  | 0 => by rw [sm, Nat.add_zero, Int.add_zero]
  | b + 1 => by
    rw [← Nat.add_assoc, sm, sm, sm_split a b]
    omega
theorem sm_one {g : Nat → Int} {p : Nat} {x : Int} : ∀ n, p < n → (∀ l, l < n → g l = if l = p then x else 0) → sm g n = x
  | 0, h, _ => by omega
  | n + 1, h, hg => by
    rw [sm, hg n (by omega)]
    by_cases e : p = n
    · subst e
      rw [if_pos rfl, sm_congr (g' := fun _ => 0) p (fun l hl => by rw [hg l (by omega), if_neg (by omega)]), sm_zero]
      omega
    · rw [if_neg (by omega), sm_one n (by omega) (fun l hl => hg l (by omega))]
      omega
theorem sm_no {g : Nat → Int} (n : Nat) (h : ∀ l, l < n → g l = 0) : sm g n = 0 := Eq.trans (sm_congr (g' := fun _ => 0) n h) (sm_zero n)
section
variable {ok : Nat → Nat → Bool} {vw : Nat → Bool} {m N : Nat}
theorem RVf_S : ∀ (T f : Nat), T ≤ f → ∀ c, RVf ok vw m N f T c = RV ok vw m N T c := by
  intro T
  induction T using Nat.strongRecOn with
  | _ T ih =>
    intro f hf c
    by_cases e : T = 0
    · subst e
      unfold RV
      cases f with
      | zero => rfl
      | succ f =>
        rw [RVf, RVf]
        refine sm_no N (fun l hl => ?_)
        rw [Nat.zero_testBit]
        rfl
    · obtain ⟨t, rfl⟩ : ∃ t, T = t + 1 := ⟨T - 1, by omega⟩
      obtain ⟨f', rfl⟩ : ∃ f', f = f' + 1 := ⟨f - 1, by omega⟩
      unfold RV
      rw [RVf, RVf]
      refine sm_congr N (fun l hl => ?_)
      by_cases h : ((t + 1).testBit l && ok (t + 1 - 2 ^ l) l) = true
      · rw [if_pos h, if_pos h]
        have hb := (Bool.and_eq_true _ _ ▸ h).1
        have hd := del_lt hb
        by_cases z : t + 1 - 2 ^ l = 0
        · rw [if_pos z, if_pos z]
        · rw [if_neg z, if_neg z]
          have : RVf ok vw m N f' (t + 1 - 2 ^ l) = RVf ok vw m N t (t + 1 - 2 ^ l) := funext fun st => by rw [ih _ hd f' (by omega) st, ih _ hd t (by omega) st]
          rw [this]
      · rw [if_neg h, if_neg h]
theorem RV_rec {T c : Nat} : RV ok vw m N T c = sm (fun l => if (T.testBit l && ok (T - 2 ^ l) l) = true then KR ok vw m N c (T - 2 ^ l) l else 0) N := by
  rw [← RVf_S T (T + 1) (by omega), RVf]
  refine sm_congr N (fun l hl => ?_)
  by_cases h : (T.testBit l && ok (T - 2 ^ l) l) = true
  · rw [if_pos h, if_pos h]
    have hb := (Bool.and_eq_true _ _ ▸ h).1
    have hd := del_lt hb
    unfold KR
    by_cases z : T - 2 ^ l = 0
    · rw [if_pos z, if_pos z]
    · rw [if_neg z, if_neg z]
      have : RVf ok vw m N T (T - 2 ^ l) = RV ok vw m N (T - 2 ^ l) := funext fun st => RVf_S _ _ (by omega) st
      rw [this]
  · rw [if_neg h, if_neg h]
theorem advR_b {v : Nat} {g : Nat → Int} : advR m v g (9 * v) m = sm (fun r => g (9 * (1 - v) + r)) m := sm_congr m (fun r hr => by rw [if_pos rfl, if_neg (by omega), Int.add_zero])
theorem advR_s {v r : Nat} {g : Nat → Int} (hm : m ≤ 9) : advR m v g (9 * v + (r + 1)) m = if r + 1 < m then g (9 * v + r) else 0 := by
  unfold advR
  by_cases c : r + 1 < m
  · rw [if_pos c]
    refine sm_one (p := r) m (by omega) (fun l hl => ?_)
    rw [if_neg (by omega), Int.zero_add]
    by_cases e : l = r
    · subst e
      rw [if_pos ⟨by omega, c⟩, if_pos rfl]
    · rw [if_neg (by omega), if_neg e]
  · rw [if_neg c]
    refine sm_no m (fun l hl => ?_)
    rw [if_neg (by omega), if_neg (by omega)]
    rfl
theorem advR_z {v k r j : Nat} {g : Nat → Int} (hm : m ≤ 9) (hk : k < 2) (hv : v < 2) (hn : k ≠ v) (hr : r < 9) : advR m v g (9 * k + r) j = 0 := sm_no j (fun l hl => by
  rw [if_neg (by omega), if_neg (by omega)]
  rfl)
theorem adv_b {v : Nat} {f : Nat → Int} (m1 : 1 ≤ m) (hv : v < 2) : adv m (m * v) f (m * v) (2 * m) = sm (fun r => f (m * (1 - v) + r)) m := by
  unfold adv
  rw [show 2 * m = m + m by omega, sm_split]
  rcases (show v = 0 ∨ v = 1 by omega) with rfl | rfl
  · rw [Nat.mul_zero, sm_no m (fun l hl => by unfold nxS; rw [if_pos (by omega : 0 ≤ l ∧ l < 0 + m), if_neg (by omega)]), Int.zero_add]
    refine sm_congr m (fun r hr => ?_)
    unfold nxS
    rw [if_neg (by omega : ¬ (0 ≤ m + r ∧ m + r < 0 + m)), if_pos ⟨rfl, by omega⟩]
    simp
  · rw [Nat.mul_one]
    have q : sm (fun r => if nxS m m (m + r) = m ∧ m < m + m then f (m + r) else 0) m = 0 := sm_no m (fun r hr => by unfold nxS; rw [if_pos (by omega : m ≤ m + r ∧ m + r < m + m), if_neg (by omega)])
    rw [q, Int.add_zero]
    refine sm_congr m (fun r hr => ?_)
    unfold nxS
    rw [if_neg (by omega : ¬ (m ≤ r ∧ r < m + m)), if_pos ⟨rfl, by omega⟩]
    simp
theorem adv_s1 {b r : Nat} {f : Nat → Int} (hb : b + m ≤ 2 * m) (hr : r + 1 < m) : adv m b f (b + (r + 1)) (2 * m) = f (b + r) := by
  unfold adv
  refine sm_one (p := b + r) (2 * m) (by omega) (fun l hl => ?_)
  by_cases e : l = b + r
  · subst e
    unfold nxS
    rw [if_pos (by omega : b ≤ b + r ∧ b + r < b + m), if_pos ⟨by omega, by omega⟩, if_pos rfl]
  · rw [if_neg e, if_neg]
    unfold nxS
    split <;> omega
theorem adv_z {v k r j : Nat} {f : Nat → Int} (hk : k < 2) (hv : v < 2) (hn : k ≠ v) (hr : r < m) : adv m (m * v) f (m * k + r) j = 0 := sm_no j (fun l hl => by
  rw [if_neg]
  unfold nxS
  rcases (show (v = 0 ∧ k = 1) ∨ (v = 1 ∧ k = 0) by omega) with ⟨rfl, rfl⟩ | ⟨rfl, rfl⟩
  · omega
  · rw [Nat.mul_zero, Nat.mul_one]
    split <;> omega)
theorem bgS_v {l : Nat} : bgS vw m l = m * vn (vw l) := by
  unfold bgS vn
  split <;> simp
theorem vn_lt {b : Bool} : vn b < 2 := by unfold vn; split <;> omega
theorem RV_SV (m1 : 1 ≤ m) (m9 : m ≤ 9) : ∀ T k r, k < 2 → r < 9 → RV ok vw m N T (9 * k + r) = if r < m then SV ok vw m N T (m * k + r) else 0 := by
  intro T
  induction T using Nat.strongRecOn with
  | _ T ih =>
    intro k r hk hr
    have key : ∀ l, (T.testBit l && ok (T - 2 ^ l) l) = true → KR ok vw m N (9 * k + r) (T - 2 ^ l) l = if r < m then KS ok vw m N (m * k + r) (T - 2 ^ l) l else 0 := by
      intro l h
      have hd := del_lt (Bool.and_eq_true _ _ ▸ h).1
      have hv := vn_lt (b := vw l)
      unfold KR KS
      rw [bgS_v]
      generalize vn (vw l) = v at hv ⊢
      by_cases z : T - 2 ^ l = 0
      · rw [if_pos z, if_pos z]
        by_cases e : k = v ∧ r = 0
        · obtain ⟨rfl, rfl⟩ := e
          rw [if_pos (by omega), if_pos (by omega), if_pos (by omega)]
        · rw [if_neg (by omega)]
          split
          · rw [if_neg]
            rcases (show v = 0 ∨ v = 1 by omega) with rfl | rfl <;> rcases (show k = 0 ∨ k = 1 by omega) with rfl | rfl <;> omega
          · rfl
      · rw [if_neg z, if_neg z]
        have ih := ih _ hd
        by_cases e : k = v
        · subst e
          cases r with
          | zero =>
            rw [Nat.add_zero, Nat.add_zero, if_pos (by omega), advR_b, adv_b m1 hk]
            refine sm_congr m (fun q hq => ?_)
            rw [ih (1 - k) q (by omega) (by omega), if_pos hq]
          | succ r =>
            rw [advR_s m9]
            by_cases c : r + 1 < m
            · rw [if_pos c, if_pos c, ih k r hk (by omega), if_pos (by omega), adv_s1 (by
                rcases (show k = 0 ∨ k = 1 by omega) with rfl | rfl <;> omega) c]
            · rw [if_neg c, if_neg c]
        · rw [advR_z m9 hk hv e hr]
          split
          · rename_i c; rw [adv_z hk hv e c]
          · rfl
    rw [RV_rec]
    by_cases c : r < m
    · rw [if_pos c, SV_rec]
      refine sm_congr N (fun l hl => ?_)
      by_cases h : (T.testBit l && ok (T - 2 ^ l) l) = true
      · rw [if_pos h, if_pos h, key l h, if_pos c]
      · rw [if_neg h, if_neg h]
    · rw [if_neg c]
      refine sm_no N (fun l hl => ?_)
      by_cases h : (T.testBit l && ok (T - 2 ^ l) l) = true
      · rw [if_pos h, key l h, if_neg c]
      · rw [if_neg h]
end
