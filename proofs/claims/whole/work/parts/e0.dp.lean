/-! sets as numbers; ways counted over sets -/
theorem or_add {x l : Nat} (hb : x.testBit l = false) : x ||| 2 ^ l = x + 2 ^ l := by
  have h0 : 2 ^ (l + 1) = 2 ^ l * 2 := Nat.pow_succ 2 l
  have hp : 0 < 2 ^ l := Nat.two_pow_pos l
  have hm : x % 2 ^ (l + 1) = x % 2 ^ l := by
    rw [Nat.testBit_eq_decide_div_mod_eq, decide_eq_false_iff_not] at hb
    rw [h0, Nat.mod_mul, show x / 2 ^ l % 2 = 0 by omega, Nat.mul_zero, Nat.add_zero]
  have hl : x % 2 ^ l < 2 ^ l := Nat.mod_lt _ hp
  have e : 2 ^ (l + 1) * (x / 2 ^ (l + 1)) + x % 2 ^ l = x := by rw [← hm]; exact Nat.div_add_mod x _
  have a1 := Nat.two_pow_add_eq_or_of_lt (i := l + 1) (b := x % 2 ^ l) (by omega) (x / 2 ^ (l + 1))
  have a2 := Nat.two_pow_add_eq_or_of_lt (i := l + 1) (b := 2 ^ l + x % 2 ^ l) (by omega) (x / 2 ^ (l + 1))
  have a3 := Nat.two_pow_add_eq_or_of_lt (i := l) (b := x % 2 ^ l) hl 1
  rw [Nat.mul_one] at a3
  have e2 : x + 2 ^ l = 2 ^ (l + 1) * (x / 2 ^ (l + 1)) + (2 ^ l + x % 2 ^ l) := by omega
  rw [e2, a2, a3]
  conv => lhs; rw [← e, a1]
  rw [Nat.or_assoc, Nat.or_comm (x % 2 ^ l) (2 ^ l)]
theorem bit_ins {x l i : Nat} (hb : x.testBit l = false) : (x + 2 ^ l).testBit i = (x.testBit i || decide (l = i)) := by rw [← or_add hb, Nat.testBit_or, Nat.testBit_two_pow]
theorem bit_del {t l : Nat} (hb : t.testBit l = true) : 2 ^ l ≤ t ∧ t = (t - 2 ^ l) + 2 ^ l ∧ (t - 2 ^ l).testBit l = false := by
  have h1 := Nat.ge_two_pow_of_testBit hb
  have e : t = (t - 2 ^ l) + 2 ^ l := by omega
  refine ⟨h1, e, ?_⟩
  have := Nat.testBit_two_pow_add_eq (t - 2 ^ l) l
  rw [Nat.add_comm, ← e, hb] at this
  cases h : (t - 2 ^ l).testBit l with
  | false => rfl
  | true => rw [h] at this; cases this
theorem pow_lt12 {l : Nat} (hl : l < 12) : 2 ^ l ≤ 2048 := Nat.le_trans (Nat.pow_le_pow_right (by decide) (show l ≤ 11 by omega)) (by decide)
theorem ins_lt {N x l : Nat} (hx : x < 2 ^ N) (hl : l < N) (hb : x.testBit l = false) : x + 2 ^ l < 2 ^ N := by
  rw [← or_add hb]
  exact Nat.or_lt_two_pow hx (Nat.pow_lt_pow_right (by decide) hl)
theorem i_ins {x l : Nat} (hx : x < 4096) (hl : l < 12) (hb : x.testBit l = false) : i_or (x : Int) (i_shl 1 (l : Int)) = ((x + 2 ^ l : Nat) : Int) := by
  have hp := pow_lt12 hl
  have hp0 := Nat.two_pow_pos l
  refine bI_ext (in_or _ _) ⟨by omega, by omega⟩ (fun i hi => ?_)
  rw [bI_or, bI_nat (by omega), bI_shl (by omega) (by omega), bI_nat (by omega), bit_ins hb]
  congr 1
  by_cases c : l = i
  · rw [decide_eq_true c, decide_eq_true (by omega)]
  · rw [decide_eq_false c, decide_eq_false (by omega)]
theorem i_del {t l : Nat} (ht : t < 4096) (hl : l < 12) (hb : t.testBit l = true) : i_and (t : Int) (i_xor (i_shl 1 (l : Int)) (-1)) = ((t - 2 ^ l : Nat) : Int) := by
  obtain ⟨h1, h2, h3⟩ := bit_del hb
  have hp0 := Nat.two_pow_pos l
  refine bI_ext (in_and _ _) ⟨by omega, by omega⟩ (fun i hi => ?_)
  rw [bI_and, bI_not _ hi, bI_nat (by omega), bI_shl (by omega) (by omega), bI_nat (by omega)]
  conv => lhs; rw [h2, bit_ins h3]
  by_cases c : l = i
  · subst c
    rw [h3]
    simp
  · rw [decide_eq_false c, decide_eq_false (show ¬ (i : Int) = (l : Int) by omega), Bool.or_false, Bool.not_false, Bool.and_true]
theorem i_nodel {t l : Nat} (ht : t < 4096) (hl : l < 12) (hb : t.testBit l = false) : i_and (t : Int) (i_xor (i_shl 1 (l : Int)) (-1)) = (t : Int) := by
  refine bI_ext (in_and _ _) ⟨by omega, by omega⟩ (fun i hi => ?_)
  rw [bI_and, bI_not _ hi, bI_nat (by omega), bI_shl (by omega) (by omega)]
  by_cases c : l = i
  · subst c
    rw [hb, Bool.false_and]
  · rw [decide_eq_false (show ¬ (i : Int) = (l : Int) by omega), Bool.not_false, Bool.and_true]
theorem cB_ins {x l : Nat} (hx : x < 4096) (hl : l < 12) (hb : x.testBit l = false) : cB ((x + 2 ^ l : Nat) : Int) 12 = cB (x : Int) 12 + 1 := by
  rw [← i_ins hx hl hb, i_or_comm, cB_one (by omega) (by rw [bI_nat (by omega)]; exact hb), if_pos hl]
theorem opn_bit {x l : Nat} {n : Int} (hx : x < 4096) (h : opn (x : Int) n (l : Int)) : x.testBit l = false := by
  have := h.1
  rw [Int.toNat_natCast, bI_nat (by omega)] at this
  exact this
/-- sums -/
def sm (g : Nat → Int) : Nat → Int
  | 0 => 0
  | n + 1 => sm g n + g n
theorem sm_congr {g g' : Nat → Int} : ∀ n, (∀ l, l < n → g l = g' l) → sm g n = sm g' n
  | 0, _ => rfl
  | n + 1, h => by rw [sm, sm, sm_congr n (fun l hl => h l (by omega)), h n (by omega)]
theorem sm_upd {g g' : Nat → Int} {j : Nat} : ∀ n, j < n → (∀ l, l < n → l ≠ j → g' l = g l) → sm g' n = sm g n + (g' j - g j)
  | 0, h, _ => by omega
  | n + 1, h, he => by
    rw [sm, sm]
    by_cases c : j = n
    · subst c
      rw [sm_congr j (fun l hl => he l (by omega) (by omega))]
      omega
    · rw [sm_upd n (by omega) (fun l hl hn => he l (by omega) hn), he n (by omega) (fun z => c z.symm)]
      omega
theorem sm_bd {g : Nat → Int} {B : Int} : ∀ n : Nat, (∀ l, l < n → 0 ≤ g l ∧ g l ≤ B) → 0 ≤ sm g n ∧ sm g n ≤ n * B
  | 0, _ => by rw [sm]; simp
  | n + 1, h => by
    have h1 := sm_bd n (fun l hl => h l (by omega))
    have h2 := h n (by omega)
    rw [sm]
    have e : ((n + 1 : Nat) : Int) * B = n * B + B := by push_cast; rw [Int.add_mul, Int.one_mul]
    rw [e]
    omega
theorem sm_0 {g : Nat → Int} : ∀ n, (∀ l, l < n → 0 ≤ g l) → (sm g n = 0 ↔ ∀ l, l < n → g l = 0)
  | 0, _ => ⟨fun _ l hl => by omega, fun _ => rfl⟩
  | n + 1, h => by
    have ih := sm_0 n (fun l hl => h l (by omega))
    have hn := h n (by omega)
    have h1 : 0 ≤ sm g n := by
      clear ih hn
      induction n with
      | zero => exact Int.le_refl 0
      | succ n ih =>
        have a1 := h n (by omega)
        have a2 := ih (fun l hl => h l (by omega))
        rw [sm]; omega
    rw [sm]
    constructor
    · intro e l hl
      by_cases c : l = n
      · subst c; omega
      · exact ih.mp (by omega) l (by omega)
    · intro e
      rw [ih.mpr (fun l hl => e l (by omega)), e n (by omega)]
      rfl
/-- ways: how a set is come to, lesson by lesson -/
def Wf (ok : Nat → Nat → Bool) (N : Nat) : Nat → Nat → Int
  | 0, T => if T = 0 then 1 else 0
  | f + 1, T => if T = 0 then 1 else sm (fun l => if (T.testBit l && ok (T - 2 ^ l) l) = true then Wf ok N f (T - 2 ^ l) else 0) N
def Wy (ok : Nat → Nat → Bool) (N T : Nat) : Int := Wf ok N T T
section
variable {ok : Nat → Nat → Bool} {N : Nat}
theorem del_lt {T l : Nat} (h : T.testBit l = true) : T - 2 ^ l < T := by
  have := (bit_del h).1
  have := Nat.two_pow_pos l
  omega
theorem Wf_W : ∀ (T f : Nat), T ≤ f → Wf ok N f T = Wy ok N T := by
  intro T
  induction T using Nat.strongRecOn with
  | _ T ih =>
    intro f hf
    by_cases c : T = 0
    · subst c
      unfold Wy
      cases f with
      | zero => rfl
      | succ f => rw [Wf, Wf, if_pos rfl, if_pos rfl]
    · obtain ⟨t, rfl⟩ : ∃ t, T = t + 1 := ⟨T - 1, by omega⟩
      obtain ⟨f', rfl⟩ : ∃ f', f = f' + 1 := ⟨f - 1, by omega⟩
      unfold Wy
      rw [Wf, Wf, if_neg c, if_neg c]
      refine sm_congr N (fun l hl => ?_)
      by_cases h : ((t + 1).testBit l && ok (t + 1 - 2 ^ l) l) = true
      · rw [if_pos h, if_pos h]
        have hb := (Bool.and_eq_true _ _ ▸ h).1
        have hd := del_lt hb
        rw [ih _ hd f' (by omega), ih _ hd t (by omega)]
      · rw [if_neg h, if_neg h]
theorem W_0 : Wy ok N 0 = 1 := rfl
theorem W_rec {T : Nat} (h : T ≠ 0) : Wy ok N T = sm (fun l => if (T.testBit l && ok (T - 2 ^ l) l) = true then Wy ok N (T - 2 ^ l) else 0) N := by
  rw [← Wf_W T (T + 1) (by omega), Wf, if_neg h]
  refine sm_congr N (fun l hl => ?_)
  by_cases hb : (T.testBit l && ok (T - 2 ^ l) l) = true
  · rw [if_pos hb, if_pos hb, Wf_W _ _ (Nat.sub_le _ _)]
  · rw [if_neg hb, if_neg hb]
theorem W_bd (hN : N ≤ 12) : ∀ T, T < 4096 → 0 ≤ Wy ok N T ∧ Wy ok N T ≤ ((12 ^ (cB (T : Int) 12).toNat : Nat) : Int) := by
  intro T
  induction T using Nat.strongRecOn with
  | _ T ih =>
    intro hT
    by_cases c : T = 0
    · subst c
      rw [W_0]
      have : cB ((0 : Nat) : Int) 12 = 0 := by decide +kernel
      rw [this]
      decide
    · rw [W_rec c]
      have hr := cB_rng (T : Int) 12
      by_cases c0 : cB (T : Int) 12 = 0
      · have hz : ∀ l, l < N → T.testBit l = false := fun l hl => by
          cases hb : T.testBit l with
          | false => rfl
          | true =>
            obtain ⟨h1, h2, h3⟩ := bit_del hb
            have hp0 := Nat.two_pow_pos l
            have h4 := cB_ins (x := T - 2 ^ l) (l := l) (by omega) (by omega) h3
            have h5 := cB_rng ((T - 2 ^ l : Nat) : Int) 12
            rw [← h2] at h4
            omega
        have e : sm (fun l => if (T.testBit l && ok (T - 2 ^ l) l) = true then Wy ok N (T - 2 ^ l) else 0) N = 0 := by
          refine (sm_0 N (fun l hl => ?_)).mpr (fun l hl => ?_)
          · rw [hz l hl]; simp
          · rw [hz l hl]; simp
        rw [e, c0]
        decide
      · obtain ⟨k, hk⟩ : ∃ k : Nat, (cB (T : Int) 12).toNat = k + 1 := ⟨(cB (T : Int) 12).toNat - 1, by omega⟩
        have hb := sm_bd (g := fun l => if (T.testBit l && ok (T - 2 ^ l) l) = true then Wy ok N (T - 2 ^ l) else 0) (B := ((12 ^ k : Nat) : Int)) N (fun l hl => by
          split
          · rename_i h
            have hb := (Bool.and_eq_true _ _ ▸ h).1
            obtain ⟨h1, h2, h3⟩ := bit_del hb
            have hp0 := Nat.two_pow_pos l
            have h4 := cB_ins (x := T - 2 ^ l) (l := l) (by omega) (by omega) h3
            rw [← h2] at h4
            have h5 := cB_rng ((T - 2 ^ l : Nat) : Int) 12
            have := ih _ (del_lt hb) (by omega)
            rw [show (cB ((T - 2 ^ l : Nat) : Int) 12).toNat = k by omega] at this
            exact this
          · exact ⟨Int.le_refl 0, Int.natCast_nonneg _⟩)
        refine ⟨hb.1, Int.le_trans hb.2 ?_⟩
        rw [hk]
        have e : (12 ^ (k + 1) : Nat) = 12 * 12 ^ k := by rw [Nat.pow_succ, Nat.mul_comm]
        rw [e]
        have : N * 12 ^ k ≤ 12 * 12 ^ k := Nat.mul_le_mul_right _ hN
        omega
theorem W_B (hN : N ≤ 12) {T : Nat} (hT : T < 4096) : 0 ≤ Wy ok N T ∧ Wy ok N T ≤ 8916100448256 := by
  have h1 := W_bd (ok := ok) hN T hT
  have h2 := cB_rng (T : Int) 12
  have : 12 ^ (cB (T : Int) 12).toNat ≤ 12 ^ 12 := Nat.pow_le_pow_right (by decide) (by omega)
  have e : (12 : Nat) ^ 12 = 8916100448256 := by decide
  omega
/-- what the class has of set T when sets below st are done, and of st the first li lessons -/
def PS (ok : Nat → Nat → Bool) (N st li T : Nat) : Int := (if T = 0 then 1 else 0) + sm (fun l => if (T.testBit l && (ok (T - 2 ^ l) l && (decide (T - 2 ^ l < st) || (decide (T - 2 ^ l = st) && decide (l < li))))) = true then Wy ok N (T - 2 ^ l) else 0) N
theorem PS_full {st li T : Nat} (h : T ≤ st) : PS ok N st li T = Wy ok N T := by
  unfold PS
  by_cases c : T = 0
  · subst c
    rw [if_pos rfl, W_0, sm_congr (g' := fun _ => 0) N (fun l hl => by rw [Nat.zero_testBit]; rfl)]
    have : sm (fun _ => 0) N = 0 := (sm_0 N (fun l hl => Int.le_refl 0)).mpr (fun l hl => rfl)
    rw [this]
    rfl
  · rw [if_neg c, Int.zero_add, W_rec c]
    refine sm_congr N (fun l hl => ?_)
    cases hb : T.testBit l with
    | false => simp
    | true =>
      have := del_lt hb
      rw [decide_eq_true (show T - 2 ^ l < st by omega), Bool.true_or, Bool.and_true]
theorem PS_0 {T : Nat} : PS ok N 0 0 T = if T = 0 then 1 else 0 := by
  unfold PS
  have e : sm (fun l => if (T.testBit l && (ok (T - 2 ^ l) l && (decide (T - 2 ^ l < 0) || (decide (T - 2 ^ l = 0) && decide (l < 0))))) = true then Wy ok N (T - 2 ^ l) else 0) N = 0 := by
    refine Eq.trans (sm_congr (g' := fun _ => 0) N (fun l hl => ?_)) ((sm_0 N (fun l hl => Int.le_refl 0)).mpr (fun l hl => rfl))
    rw [decide_eq_false (show ¬ T - 2 ^ l < 0 by omega), decide_eq_false (show ¬ l < 0 by omega)]
    simp
  rw [e, Int.add_zero]
theorem PS_next {st T : Nat} : PS ok N st N T = PS ok N (st + 1) 0 T := by
  unfold PS
  congr 1
  refine sm_congr N (fun l hl => ?_)
  rw [decide_eq_true hl, decide_eq_false (show ¬ l < 0 by omega), Bool.and_true, Bool.and_false, Bool.or_false]
  have : (decide (T - 2 ^ l < st) || decide (T - 2 ^ l = st)) = decide (T - 2 ^ l < st + 1) := by
    generalize T - 2 ^ l = D
    by_cases c : D < st
    · rw [decide_eq_true c, decide_eq_true (show D < st + 1 by omega), Bool.true_or]
    · by_cases c2 : D = st
      · rw [decide_eq_true c2, decide_eq_true (show D < st + 1 by omega), Bool.or_true]
      · rw [decide_eq_false c, decide_eq_false c2, decide_eq_false (show ¬ D < st + 1 by omega), Bool.or_self]
  rw [this]
/-- one lesson more -/
theorem PS_step {st li T : Nat} (hli : li < N) : PS ok N st (li + 1) T = PS ok N st li T + if (st.testBit li = false ∧ ok st li = true) ∧ T = st + 2 ^ li then Wy ok N st else 0 := by
  unfold PS
  rw [sm_upd (g := fun l => if (T.testBit l && (ok (T - 2 ^ l) l && (decide (T - 2 ^ l < st) || (decide (T - 2 ^ l = st) && decide (l < li))))) = true then Wy ok N (T - 2 ^ l) else 0) (j := li) N hli (fun l hl hn => by
    rw [show decide (l < li + 1) = decide (l < li) from by
      by_cases c : l < li
      · rw [decide_eq_true c, decide_eq_true (by omega)]
      · rw [decide_eq_false c, decide_eq_false (by omega)]])]
  rw [decide_eq_true (show li < li + 1 by omega), decide_eq_false (show ¬ li < li by omega), Bool.and_true, Bool.and_false, Bool.or_false]
  rw [Int.add_assoc]
  congr 1
  congr 1
  by_cases c : (st.testBit li = false ∧ ok st li = true) ∧ T = st + 2 ^ li
  · obtain ⟨⟨c1, c2⟩, rfl⟩ := c
    have e : st + 2 ^ li - 2 ^ li = st := by omega
    have hb : (st + 2 ^ li).testBit li = true := by rw [bit_ins c1, decide_eq_true rfl, Bool.or_true]
    simp [e, hb, c1, c2]
  · rw [if_neg c]
    have e : (if (T.testBit li && (ok (T - 2 ^ li) li && (decide (T - 2 ^ li < st) || decide (T - 2 ^ li = st)))) = true then Wy ok N (T - 2 ^ li) else 0) = if (T.testBit li && (ok (T - 2 ^ li) li && decide (T - 2 ^ li < st))) = true then Wy ok N (T - 2 ^ li) else 0 := by
      cases hb : T.testBit li with
      | false => simp
      | true =>
        obtain ⟨h1, h2, h3⟩ := bit_del hb
        by_cases ce : T - 2 ^ li = st
        · have : ¬ ok st li = true := fun z => c ⟨⟨by rw [← ce]; exact h3, z⟩, by omega⟩
          rw [ce]
          have : ok st li = false := by simpa using this
          rw [this]
          simp
        · rw [decide_eq_false ce, Bool.or_false]
    rw [e]
    omega
theorem PS_B (hN : N ≤ 12) {st li T : Nat} (hT : T < 4096) : 0 ≤ PS ok N st li T ∧ PS ok N st li T ≤ 1 + 12 * 8916100448256 := by
  unfold PS
  have hb := sm_bd (g := fun l => if (T.testBit l && (ok (T - 2 ^ l) l && (decide (T - 2 ^ l < st) || (decide (T - 2 ^ l = st) && decide (l < li))))) = true then Wy ok N (T - 2 ^ l) else 0) (B := 8916100448256) N (fun l hl => by
    split
    · exact W_B hN (Nat.lt_of_le_of_lt (Nat.sub_le _ _) hT)
    · exact ⟨by decide, by decide⟩)
  have : (N : Int) * 8916100448256 ≤ 12 * 8916100448256 := by omega
  split <;> omega
end
/-- all ways of sets of a size, and how far they go -/
def alF (w : Nat → Int) (len : Int) : Nat → Int
  | 0 => 0
  | t + 1 => alF w len t + if cB (t : Int) 12 = len then w t else 0
def fzF (w : Nat → Int) : Nat → Int
  | 0 => 0
  | t + 1 => if w t = 0 then fzF w t else if fzF w t < cB (t : Int) 12 then cB (t : Int) 12 else fzF w t
theorem fzF_rng (w : Nat → Int) : ∀ t, 0 ≤ fzF w t ∧ fzF w t ≤ 12
  | 0 => by rw [fzF]; omega
  | t + 1 => by
    have h1 := fzF_rng w t
    have h2 := cB_rng (t : Int) 12
    rw [fzF]
    split
    · exact h1
    · split <;> omega
theorem alF_bd {w : Nat → Int} {len : Int} : ∀ t : Nat, t ≤ 4096 → (∀ u, u < t → 0 ≤ w u ∧ w u ≤ 8916100448256) → 0 ≤ alF w len t ∧ alF w len t ≤ t * 8916100448256
  | 0, _, _ => by rw [alF]; omega
  | t + 1, h1, h2 => by
    have ih := alF_bd (len := len) t (by omega) (fun u hu => h2 u (by omega))
    have h3 := h2 t (by omega)
    rw [alF]
    split <;> omega
theorem alF_congr {w w' : Nat → Int} {len : Int} : ∀ t, (∀ u, u < t → w u = w' u) → alF w len t = alF w' len t
  | 0, _ => rfl
  | t + 1, h => by rw [alF, alF, alF_congr t (fun u hu => h u (by omega)), h t (by omega)]
theorem fzF_congr {w w' : Nat → Int} : ∀ t, (∀ u, u < t → w u = w' u) → fzF w t = fzF w' t
  | 0, _ => rfl
  | t + 1, h => by rw [fzF, fzF, fzF_congr t (fun u hu => h u (by omega)), h t (by omega)]
