/-! the first way -/
def Gf (ok : Nat → Nat → Bool) (N : Nat) (n : Int) : Nat → Nat → Bool
  | 0, T => decide (cB (T : Int) 12 = n)
  | f + 1, T => decide (cB (T : Int) 12 = n) || decide (fI (fun l => ok T l && Gf ok N n f (T + 2 ^ l)) 0 N < N)
def Gy (ok : Nat → Nat → Bool) (N : Nat) (n : Int) (T : Nat) : Bool := Gf ok N n (2 ^ N - T) T
def gP (ok : Nat → Nat → Bool) (N : Nat) (n : Int) (T : Nat) : Nat → Bool := fun l => ok T l && Gy ok N n (T + 2 ^ l)
/-- the sets along the first way -/
def pt (ok : Nat → Nat → Bool) (N : Nat) (n : Int) : Nat → Nat
  | 0 => 0
  | p + 1 => pt ok N n p + 2 ^ (fI (gP ok N n (pt ok N n p)) 0 N)
theorem fI_lt_iff {P : Nat → Bool} {n : Nat} : fI P 0 n < n ↔ ∃ j, j < n ∧ P j = true := by
  constructor
  · intro h
    exact ⟨fI P 0 n, h, fI_at n 0 (by omega)⟩
  · rintro ⟨j, hj, hp⟩
    refine Classical.byContradiction fun hn => ?_
    have hr := fI_rng P n 0
    have := fI_bef (P := P) n 0 j (by omega) (by omega)
    rw [hp] at this
    cases this
section
variable {ok : Nat → Nat → Bool} {N : Nat} {n : Int}
theorem Gf_G (hok : ∀ T l, T < 2 ^ N → l < N → ok T l = true → T.testBit l = false) : ∀ (m T f : Nat), 2 ^ N - T ≤ m → T < 2 ^ N → 2 ^ N - T ≤ f → Gf ok N n f T = Gy ok N n T := by
  intro m
  induction m with
  | zero => intro T f h1 h2; omega
  | succ m ih =>
    intro T f h1 h2 h3
    obtain ⟨f', rfl⟩ : ∃ f', f = f' + 1 := ⟨f - 1, by omega⟩
    obtain ⟨e, he⟩ : ∃ e, 2 ^ N - T = e + 1 := ⟨2 ^ N - T - 1, by omega⟩
    unfold Gy
    rw [he, Gf, Gf]
    congr 3
    refine fI_congr N 0 (fun l _ hl => ?_)
    cases ho : ok T l with
    | false => rfl
    | true =>
      have hb := hok T l h2 (by omega) ho
      have hlt := ins_lt h2 (show l < N by omega) hb
      have hp0 := Nat.two_pow_pos l
      rw [ih (T + 2 ^ l) f' (by omega) hlt (by omega), ih (T + 2 ^ l) e (by omega) hlt (by omega)]
theorem G_rec (hok : ∀ T l, T < 2 ^ N → l < N → ok T l = true → T.testBit l = false) {T : Nat} (hT : T < 2 ^ N) : Gy ok N n T = (decide (cB (T : Int) 12 = n) || decide (fI (gP ok N n T) 0 N < N)) := by
  rw [← Gf_G hok (2 ^ N - T) T (2 ^ N - T + 1) (Nat.le_refl _) hT (by omega), Gf]
  congr 3
  refine fI_congr N 0 (fun l _ hl => ?_)
  unfold gP
  cases ho : ok T l with
  | false => rfl
  | true =>
    have hb := hok T l hT (by omega) ho
    have hlt := ins_lt hT (show l < N by omega) hb
    have hp0 := Nat.two_pow_pos l
    rw [Gf_G hok (2 ^ N - T) (T + 2 ^ l) _ (by omega) hlt (by omega)]
theorem pt_ok (hok : ∀ T l, T < 2 ^ N → l < N → ok T l = true → T.testBit l = false) (N12 : N ≤ 12) (hG : Gy ok N n 0 = true) : ∀ p : Nat, (p : Int) ≤ n → pt ok N n p < 2 ^ N ∧ cB ((pt ok N n p : Nat) : Int) 12 = p ∧ Gy ok N n (pt ok N n p) = true ∧ Wy ok N (pt ok N n p) ≠ 0 ∧ ((p : Int) < n → fI (gP ok N n (pt ok N n p)) 0 N < N ∧ ok (pt ok N n p) (fI (gP ok N n (pt ok N n p)) 0 N) = true) := by
  have hp13 := pow_13 N12
  have key : ∀ p : Nat, pt ok N n p < 2 ^ N → cB ((pt ok N n p : Nat) : Int) 12 = p → Gy ok N n (pt ok N n p) = true → (p : Int) < n → fI (gP ok N n (pt ok N n p)) 0 N < N ∧ gP ok N n (pt ok N n p) (fI (gP ok N n (pt ok N n p)) 0 N) = true := by
    intro p h1 h2 h3 h4
    rw [G_rec hok h1, decide_eq_false (by omega), Bool.false_or, decide_eq_true_iff] at h3
    exact ⟨h3, fI_at N 0 (by omega)⟩
  intro p
  induction p with
  | zero =>
    intro _
    have h0 : 0 < 2 ^ N := Nat.two_pow_pos N
    have cz : cB ((0 : Nat) : Int) 12 = 0 := by decide +kernel
    refine ⟨h0, cz, hG, by show Wy ok N 0 ≠ 0; rw [W_0]; decide, fun h => ?_⟩
    have := key 0 h0 cz hG h
    unfold gP at this
    rw [Bool.and_eq_true] at this
    exact ⟨this.1, this.2.1⟩
  | succ p ih =>
    intro hp
    obtain ⟨a1, a2, a3, a4, a5⟩ := ih (by omega)
    obtain ⟨b1, b2⟩ := key p a1 a2 a3 (by omega)
    have b3 := (Bool.and_eq_true _ _ ▸ b2 : ok _ _ = true ∧ _)
    obtain ⟨L, hL⟩ : ∃ L, L = fI (gP ok N n (pt ok N n p)) 0 N := ⟨_, rfl⟩
    have e : pt ok N n (p + 1) = pt ok N n p + 2 ^ L := by rw [pt, hL]
    rw [← hL] at b1 b3
    have hbit := hok _ _ a1 b1 b3.1
    have h1 : pt ok N n (p + 1) < 2 ^ N := by rw [e]; exact ins_lt a1 b1 hbit
    have h2 : cB ((pt ok N n (p + 1) : Nat) : Int) 12 = ((p + 1 : Nat) : Int) := by
      rw [e, cB_ins (by omega) (by omega) hbit, a2]; omega
    have h3 : Gy ok N n (pt ok N n (p + 1)) = true := by rw [e]; exact b3.2
    have h4 : Wy ok N (pt ok N n (p + 1)) ≠ 0 := by
      have hp0 := Nat.two_pow_pos L
      refine (W_pos N12 (by omega) (by omega)).mpr ⟨L, b1, ?_⟩
      rw [e, show pt ok N n p + 2 ^ L - 2 ^ L = pt ok N n p by omega, bit_ins hbit, decide_eq_true rfl, Bool.or_true, b3.1, decide_eq_true a4]
      rfl
    refine ⟨h1, h2, h3, h4, fun h => ?_⟩
    have := key (p + 1) h1 h2 h3 h
    exact ⟨this.1, (Bool.and_eq_true _ _ ▸ this.2 : ok _ _ = true ∧ _).1⟩
theorem G_W (hok : ∀ T l, T < 2 ^ N → l < N → ok T l = true → T.testBit l = false) (N12 : N ≤ 12) (n0 : 0 ≤ n) : Gy ok N n 0 = true ↔ alF (Wy ok N) n (2 ^ N) ≠ 0 := by
  have hp13 := pow_13 N12
  have hnn : ∀ u, u < 2 ^ N → 0 ≤ Wy ok N u := fun u hu => (W_B N12 (by omega)).1
  constructor
  · intro hG
    obtain ⟨m, rfl⟩ := Int.eq_ofNat_of_zero_le n0
    obtain ⟨a1, a2, a3, a4, -⟩ := pt_ok hok N12 hG m (Int.le_refl _)
    have h1 := (alF_pos (w := Wy ok N) (x := (m : Int)) (2 ^ N) hnn).2 _ a1 a2
    have h2 := hnn _ a1
    omega
  · intro hne
    have hex : ∃ u : Nat, u < 2 ^ N ∧ cB (u : Int) 12 = n ∧ Wy ok N u ≠ 0 := by
      refine Classical.byContradiction fun hn => hne (alF_0 _ (fun u hu hc => ?_))
      exact Classical.byContradiction fun hw => hn ⟨u, hu, hc, hw⟩
    obtain ⟨u, u1, u2, u3⟩ := hex
    have key : ∀ T, T < 2 ^ N → Wy ok N T ≠ 0 → Gy ok N n T = true → Gy ok N n 0 = true := by
      intro T
      induction T using Nat.strongRecOn with
      | _ T ih =>
        intro h1 h2 h3
        by_cases c : T = 0
        · subst c; exact h3
        · obtain ⟨l, hl, hb⟩ := (W_pos N12 c (by omega)).mp h2
          rw [Bool.and_eq_true, Bool.and_eq_true, decide_eq_true_iff] at hb
          have hd := bit_del hb.1
          have hlt := del_lt hb.1
          refine ih _ hlt (by omega) hb.2.2 ?_
          rw [G_rec hok (show T - 2 ^ l < 2 ^ N by omega), decide_eq_true (fI_lt_iff.mpr ⟨l, hl, ?_⟩), Bool.or_true]
          unfold gP
          rw [hb.2.1, ← hd.2.1, h3]
          rfl
    refine key u u1 u3 ?_
    rw [G_rec hok u1, decide_eq_true u2, Bool.true_or]
end
theorem okF_hb {len : Int} {told letter needs : Nat → Int} {N : Nat} (N12 : N ≤ 12) : ∀ T l, T < 2 ^ N → l < N → okF len told letter needs T l = true → T.testBit l = false := fun T l hT _ h => by
  have := pow_13 N12
  exact ok_bit (by omega) h
section
variable {d : Nat} {h g : AM} {s a b k l p t v w x y z S n : Int} {ok : Nat → Nat → Bool} {N : Nat}
theorem x_going_loop {T : Nat} (hr : CR h s S N) (hT : T < 2 ^ N) (hok : ∀ l, l < N → okX h s T l = ok T l) (hv : ∀ l, l < N → ok T l = true → T.testBit l = false ∧ mrd h S ((T + 2 ^ l : Nat) : Int) = b01 (Gy ok N n (T + 2 ^ l))) (m : Nat) : ∀ i : Nat, i + m = N → EV (d + 2) 91 2 [(2, 148), (2, s), (0, (T : Int)), (0, (i : Int))] [] h = some ((0, if fI (gP ok N n T) i m = N then -1 else ((fI (gP ok N n T) i m : Nat) : Int)), h) := by
  obtain ⟨a1, a2, a3, a4, a5, a6, a7, a8, a9, a10, a11, a12, a13⟩ := id hr
  have hp := pow_13 a9
  induction m with
  | zero =>
    intro i hi
    have e : i = N := by omega
    subst e
    rw [e91_2, fI, if_pos rfl]
    simp only [e91_0, e91_1, e91_3, e91_4, e91_7, e91_10, e91_11, e91_12, e91_13, e91_14, e91_17, e91_20, e91_21, e91_24, e91_25, e91_26, e91_27, e91_28, e91_29, e91_30, e91_31, e91_32, e91_35, e91_36, e91_37, e91_40, e91_43, e91_44, psh0, psh1, psh3, true_or, or_true, eq_self, Option.bind_some, List.length_nil, List.length_cons, Nat.reduceAdd, Nat.reduceLeDiff, Nat.zero_le, ↓reduceIte, Int.reduceLT, Int.reduceEq, Int.reduceLE, Int.reduceNeg, Int.reduceAdd, Int.reduceMul, Int.reduceSub, ne_eq, not_true_eq_false, not_false_eq_true, and_true, true_and, and_false, false_and, c3lt, c3gt, c3eq, Bool.false_eq_true, isK_wr, inA_wr, inR_wr, a6.1, a8, Int.lt_irrefl]
  | succ m ih =>
    intro i hi
    have ci : (i : Int) < N := by omega
    have w1 : w32 ((i : Int) + 1) = ((i + 1 : Nat) : Int) := by rw [w32_id (by omega) (by omega)]; omega
    have gn : EV (d + 1) 86 0 [(2, 148), (2, s), (0, (T : Int)), (0, (i : Int)), (3, 0)] [] h = some ((0, b01 (okX h s T i)), h) := x_comesNext a1 a2 a3 a4 a5.2 a6 (by omega) (by omega)
    rw [hok i (by omega)] at gn
    rw [e91_2, fI]
    cases ho : ok T i with
    | false =>
      rw [ho] at gn
      rw [if_neg (show ¬ gP ok N n T i = true by unfold gP; rw [ho]; simp), ← ih (i + 1) (by omega)]
      simp only [e91_0, e91_1, e91_3, e91_4, e91_7, e91_10, e91_11, e91_12, e91_13, e91_14, e91_17, e91_20, e91_21, e91_24, e91_25, e91_26, e91_27, e91_28, e91_29, e91_30, e91_31, e91_32, e91_35, e91_36, e91_37, e91_40, e91_43, e91_44, psh0, psh1, psh3, true_or, or_true, eq_self, Option.bind_some, List.length_nil, List.length_cons, Nat.reduceAdd, Nat.reduceLeDiff, Nat.zero_le, ↓reduceIte, Int.reduceLT, Int.reduceEq, Int.reduceLE, Int.reduceNeg, Int.reduceAdd, Int.reduceMul, Int.reduceSub, ne_eq, not_true_eq_false, not_false_eq_true, and_true, true_and, and_false, false_and, c3lt, c3gt, c3eq, Bool.false_eq_true, isK_wr, inA_wr, inR_wr, a6.1, a8, ci, a1, gn, b01, w1]
    | true =>
      rw [ho] at gn
      obtain ⟨hb, v1⟩ := hv i (by omega) ho
      have hU := ins_lt hT (show i < N by omega) hb
      have eU := i_ins (x := T) (l := i) (by omega) (by omega) hb
      have i1 : inA h S 19 ((T + 2 ^ i : Nat) : Int) := ⟨a12, Int.natCast_nonneg _, Int.lt_of_lt_of_le (Int.ofNat_lt.mpr hU) a13⟩
      cases hg : Gy ok N n (T + 2 ^ i) with
      | false =>
        rw [hg] at v1
        rw [if_neg (show ¬ gP ok N n T i = true by unfold gP; rw [hg]; simp), ← ih (i + 1) (by omega)]
        have v1' : mrd h S ((T + 2 ^ i : Nat) : Int) = 0 := v1
        simp only [e91_0, e91_1, e91_3, e91_4, e91_7, e91_10, e91_11, e91_12, e91_13, e91_14, e91_17, e91_20, e91_21, e91_24, e91_25, e91_26, e91_27, e91_28, e91_29, e91_30, e91_31, e91_32, e91_35, e91_36, e91_37, e91_40, e91_43, e91_44, psh0, psh1, psh3, true_or, or_true, eq_self, Option.bind_some, List.length_nil, List.length_cons, Nat.reduceAdd, Nat.reduceLeDiff, Nat.zero_le, ↓reduceIte, Int.reduceLT, Int.reduceEq, Int.reduceLE, Int.reduceNeg, Int.reduceAdd, Int.reduceMul, Int.reduceSub, ne_eq, not_true_eq_false, not_false_eq_true, and_true, true_and, and_false, false_and, c3lt, c3gt, c3eq, Bool.false_eq_true, isK_wr, inA_wr, inR_wr, a6.1, a8, ci, a1, gn, b01, a10, eU, i1, v1', w1]
      | true =>
        rw [hg] at v1
        rw [if_pos (show gP ok N n T i = true by unfold gP; rw [ho, hg]; rfl), if_neg (show ¬ i = N by omega)]
        have v1' : mrd h S ((T + 2 ^ i : Nat) : Int) = 1 := v1
        simp only [e91_0, e91_1, e91_3, e91_4, e91_7, e91_10, e91_11, e91_12, e91_13, e91_14, e91_17, e91_20, e91_21, e91_24, e91_25, e91_26, e91_27, e91_28, e91_29, e91_30, e91_31, e91_32, e91_35, e91_36, e91_37, e91_40, e91_43, e91_44, psh0, psh1, psh3, true_or, or_true, eq_self, Option.bind_some, List.length_nil, List.length_cons, Nat.reduceAdd, Nat.reduceLeDiff, Nat.zero_le, ↓reduceIte, Int.reduceLT, Int.reduceEq, Int.reduceLE, Int.reduceNeg, Int.reduceAdd, Int.reduceMul, Int.reduceSub, ne_eq, not_true_eq_false, not_false_eq_true, and_true, true_and, and_false, false_and, c3lt, c3gt, c3eq, Bool.false_eq_true, isK_wr, inA_wr, inR_wr, a6.1, a8, ci, a1, gn, b01, a10, eU, i1, v1', w1]
theorem x_goingOn {T : Nat} (hr : CR h s S N) (hT : T < 2 ^ N) (hok : ∀ l, l < N → okX h s T l = ok T l) (hv : ∀ l, l < N → ok T l = true → T.testBit l = false ∧ mrd h S ((T + 2 ^ l : Nat) : Int) = b01 (Gy ok N n (T + 2 ^ l))) : EV (d + 2) 91 0 [(2, 148), (2, s), (0, (T : Int)), (3, 0)] [] h = some ((0, if fI (gP ok N n T) 0 N = N then -1 else ((fI (gP ok N n T) 0 N : Nat) : Int)), h) := by
  refine Eq.trans ?_ (x_going_loop (d := d) hr hT hok hv N 0 (by omega))
  simp only [e91_0, e91_1]
  rfl
/-- down the sets: whether the end can be come to -/
theorem x_first_1 {h0 : AM} (hr : CR h0 s S N) (hs : s = 162 ∨ s = 195) (hok : ∀ T l, T < 2 ^ N → l < N → okX h0 s T l = true → T.testBit l = false) (m : Nat) : ∀ (h : AM) (l4 : AV), m ≤ 2 ^ N → CQ h0 h S → (∀ T : Nat, m ≤ T → T < 2 ^ N → mrd h S T = b01 (Gy (okX h0 s) N (mrd h0 148 2) T)) → ∃ h' l4', EV (d + 3) 90 17 [(2, 148), (2, s), (0, ((2 ^ N : Nat) : Int)), (0, (m : Int) - 1), l4] [] h = EV (d + 3) 90 71 [(2, 148), (2, s), (0, ((2 ^ N : Nat) : Int)), (0, -1), l4'] [] h' ∧ CQ h0 h' S ∧ ∀ T : Nat, T < 2 ^ N → mrd h' S T = b01 (Gy (okX h0 s) N (mrd h0 148 2) T) := by
  have N12 := hr.2.2.2.2.2.2.2.2.1
  have hp := pow_13 N12
  induction m with
  | zero =>
    intro h l4 hm hq hP
    refine ⟨h, l4, ?_, hq, fun T hT => hP T (by omega) hT⟩
    rw [e90_17]
    simp only [e90_18, psh0, psh1, psh3, true_or, or_true, eq_self, Option.bind_some, List.length_nil, List.length_cons, Nat.reduceAdd, Nat.reduceLeDiff, Nat.zero_le, ↓reduceIte, Int.reduceLT, Int.reduceEq, Int.reduceLE, Int.reduceNeg, Int.reduceAdd, Int.reduceMul, Int.reduceSub, ne_eq, not_true_eq_false, not_false_eq_true, and_true, true_and, and_false, false_and, c3lt, c3gt, c3eq, Bool.false_eq_true, isK_wr, inA_wr, inR_wr, Int.natCast_zero, Int.zero_sub]
  | succ m ih =>
    intro h l4 hm hq hP
    have hT : m < 2 ^ N := by omega
    have cr := CR_cq hr hs hq
    obtain ⟨a1, a2, a3, a4, a5, a6, a7, a8, a9, a10, a11, a12, a13⟩ := id cr
    have e0 : ((m + 1 : Nat) : Int) - 1 = m := by omega
    have c0 : ¬ (m : Int) < 0 := by omega
    have w1 : w32 ((m : Int) + (-1)) = (m : Int) - 1 := w32_id (by omega) (by omega)
    have gb := x_bitCount (d := d + 2) (h := h) (x := (m : Int)) (by omega) (by omega)
    have e2 : mrd h 148 2 = mrd h0 148 2 := hq.2 _ _ (by omega) (by omega)
    have i2 : inA h S 19 (m : Int) := ⟨a12, Int.natCast_nonneg _, Int.lt_of_lt_of_le (Int.ofNat_lt.mpr hT) a13⟩
    have gg := x_goingOn (d := d) (ok := okX h0 s) (n := mrd h0 148 2) cr hT (fun l hl => okX_cq hr hs hq (by omega)) (fun l hl ho => by
      have hb := hok m l hT hl ho
      have hp0 := Nat.two_pow_pos l
      exact ⟨hb, hP _ (by omega) (ins_lt hT hl hb)⟩)
    have eG := G_rec (n := mrd h0 148 2) hok hT
    have hfr := fI_rng (gP (okX h0 s) N (mrd h0 148 2) m) N 0
    have fin : ∀ (b : Bool) (l4' : AV), Gy (okX h0 s) N (mrd h0 148 2) m = b → ∃ h' l4'', EV (d + 3) 90 17 [(2, 148), (2, s), (0, ((2 ^ N : Nat) : Int)), (0, (m : Int) - 1), l4'] [] (mwr h S m (b01 b)) = EV (d + 3) 90 71 [(2, 148), (2, s), (0, ((2 ^ N : Nat) : Int)), (0, -1), l4''] [] h' ∧ CQ h0 h' S ∧ ∀ T : Nat, T < 2 ^ N → mrd h' S T = b01 (Gy (okX h0 s) N (mrd h0 148 2) T) := fun b l4' hb => by
      refine ih _ l4' (by omega) ⟨hq.1, fun a i h1 h2 => ?_⟩ (fun T t1 t2 => ?_)
      · rw [rdn1 h1]; exact hq.2 a i h1 h2
      · rw [rd_wr]
        by_cases c : T = m
        · subst c
          rw [if_pos ⟨rfl, rfl⟩, hb]
        · rw [if_neg (fun z => c (Int.ofNat.inj z.2))]
          exact hP T (by omega) t2
    rw [e90_17, e0]
    by_cases cl : cB (m : Int) 12 = mrd h0 148 2
    · rw [decide_eq_true cl, Bool.true_or] at eG
      obtain ⟨h', l4', f1, f2, f3⟩ := fin true (0, 1) eG
      refine ⟨h', l4', ?_, f2, f3⟩
      rw [← f1]
      simp only [e90_0, e90_1, e90_2, e90_5, e90_6, e90_7, e90_8, e90_9, e90_10, e90_13, e90_14, e90_15, e90_16, e90_18, e90_21, e90_22, e90_25, e90_26, e90_29, e90_32, e90_33, e90_34, e90_35, e90_38, e90_39, e90_42, e90_43, e90_46, e90_47, e90_49, e90_50, e90_53, e90_54, e90_56, e90_59, e90_60, e90_63, e90_64, e90_65, e90_68, e90_72, e90_75, e90_76, e90_77, e90_78, e90_79, e90_82, e90_83, e90_84, e90_85, e90_86, e90_87, e90_89, e90_91, e90_92, e90_95, e90_98, e90_99, e90_102, e90_104, e90_105, e90_106, e90_107, e90_110, e90_111, e90_112, e90_113, e90_114, e90_117, e90_119, e90_120, e90_121, e90_122, e90_123, e90_126, e90_129, e90_130, e90_131, e90_134, e90_137, e90_138, psh0, psh1, psh3, true_or, or_true, eq_self, Option.bind_some, List.length_nil, List.length_cons, Nat.reduceAdd, Nat.reduceLeDiff, Nat.zero_le, ↓reduceIte, Int.reduceLT, Int.reduceEq, Int.reduceLE, Int.reduceNeg, Int.reduceAdd, Int.reduceMul, Int.reduceSub, ne_eq, not_true_eq_false, not_false_eq_true, and_true, true_and, and_false, false_and, c3lt, c3gt, c3eq, Bool.false_eq_true, isK_wr, inA_wr, inR_wr, c0, gb, a1, e2, eq_true cl, a10, i2, b01, w1]
    · rw [decide_eq_false cl, Bool.false_or] at eG
      by_cases cf : fI (gP (okX h0 s) N (mrd h0 148 2) m) 0 N = N
      · rw [decide_eq_false (by omega)] at eG
        rw [if_pos cf] at gg
        obtain ⟨h', l4', f1, f2, f3⟩ := fin false (0, 0) eG
        refine ⟨h', l4', ?_, f2, f3⟩
        rw [← f1]
        simp only [e90_0, e90_1, e90_2, e90_5, e90_6, e90_7, e90_8, e90_9, e90_10, e90_13, e90_14, e90_15, e90_16, e90_18, e90_21, e90_22, e90_25, e90_26, e90_29, e90_32, e90_33, e90_34, e90_35, e90_38, e90_39, e90_42, e90_43, e90_46, e90_47, e90_49, e90_50, e90_53, e90_54, e90_56, e90_59, e90_60, e90_63, e90_64, e90_65, e90_68, e90_72, e90_75, e90_76, e90_77, e90_78, e90_79, e90_82, e90_83, e90_84, e90_85, e90_86, e90_87, e90_89, e90_91, e90_92, e90_95, e90_98, e90_99, e90_102, e90_104, e90_105, e90_106, e90_107, e90_110, e90_111, e90_112, e90_113, e90_114, e90_117, e90_119, e90_120, e90_121, e90_122, e90_123, e90_126, e90_129, e90_130, e90_131, e90_134, e90_137, e90_138, psh0, psh1, psh3, true_or, or_true, eq_self, Option.bind_some, List.length_nil, List.length_cons, Nat.reduceAdd, Nat.reduceLeDiff, Nat.zero_le, ↓reduceIte, Int.reduceLT, Int.reduceEq, Int.reduceLE, Int.reduceNeg, Int.reduceAdd, Int.reduceMul, Int.reduceSub, ne_eq, not_true_eq_false, not_false_eq_true, and_true, true_and, and_false, false_and, c3lt, c3gt, c3eq, Bool.false_eq_true, isK_wr, inA_wr, inR_wr, c0, gb, a1, e2, cl, gg, a10, i2, b01, w1]
      · rw [decide_eq_true (by omega)] at eG
        rw [if_neg cf] at gg
        have nn : ¬ ((fI (gP (okX h0 s) N (mrd h0 148 2) m) 0 N : Nat) : Int) = -1 := by omega
        obtain ⟨h', l4', f1, f2, f3⟩ := fin true (0, 1) eG
        refine ⟨h', l4', ?_, f2, f3⟩
        rw [← f1]
        simp only [e90_0, e90_1, e90_2, e90_5, e90_6, e90_7, e90_8, e90_9, e90_10, e90_13, e90_14, e90_15, e90_16, e90_18, e90_21, e90_22, e90_25, e90_26, e90_29, e90_32, e90_33, e90_34, e90_35, e90_38, e90_39, e90_42, e90_43, e90_46, e90_47, e90_49, e90_50, e90_53, e90_54, e90_56, e90_59, e90_60, e90_63, e90_64, e90_65, e90_68, e90_72, e90_75, e90_76, e90_77, e90_78, e90_79, e90_82, e90_83, e90_84, e90_85, e90_86, e90_87, e90_89, e90_91, e90_92, e90_95, e90_98, e90_99, e90_102, e90_104, e90_105, e90_106, e90_107, e90_110, e90_111, e90_112, e90_113, e90_114, e90_117, e90_119, e90_120, e90_121, e90_122, e90_123, e90_126, e90_129, e90_130, e90_131, e90_134, e90_137, e90_138, psh0, psh1, psh3, true_or, or_true, eq_self, Option.bind_some, List.length_nil, List.length_cons, Nat.reduceAdd, Nat.reduceLeDiff, Nat.zero_le, ↓reduceIte, Int.reduceLT, Int.reduceEq, Int.reduceLE, Int.reduceNeg, Int.reduceAdd, Int.reduceMul, Int.reduceSub, ne_eq, not_true_eq_false, not_false_eq_true, and_true, true_and, and_false, false_and, c3lt, c3gt, c3eq, Bool.false_eq_true, isK_wr, inA_wr, inR_wr, c0, gb, a1, e2, cl, gg, nn, a10, i2, b01, w1]
end
