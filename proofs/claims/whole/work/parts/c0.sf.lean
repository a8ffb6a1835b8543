/-! calls that leave but scratch behind them -/
def SF (h h' : AM) : Prop := Fr h.1 h'.1 ∧ Shp h' ∧ RSum h' ∧ h'.2.2.2.2 = h.2.2.2.2
theorem SF.rf {h : AM} (hI : Inv h) : SF h h := ⟨Fr.rf, hI.1, hI.2.2.2.1, rfl⟩
/-- one more stretch that changes scratch cells alone, and makes nothing -/
theorem SF.st {h h' h'' : AM} (hs : SF h h') (e : h''.2 = h'.2) (hf : Fr h'.1 h''.1) (e5 : mrd h'' 148 5 = mrd h' 148 5) : SF h h'' := by
  obtain ⟨f1, f2, f3, f4⟩ := hs
  refine ⟨f1.trans hf, ?_, RSum_eq e e5 f3, by rw [e]; exact f4⟩
  unfold Shp mnx at f2 ⊢
  rw [e]; exact f2
theorem SF.wr {h h' : AM} {a i v : Int} (hs : SF h h') (hc : Scr a i) (h5 : ¬ (a = 148 ∧ i = 5)) : SF h (mwr h' a i v) := hs.st rfl (Fr_wr hc Fr.rf) (by rw [rd_wr, if_neg (fun z => h5 ⟨z.1.symm, z.2.symm⟩)])
theorem SF.q {h h' : AM} {v w : Int} (hs : SF h h') : SF h (mwr (mwr h' 235 1 v) 235 0 w) := (hs.wr Scr_m1 (by omega)).wr Scr_m0 (by omega)
theorem SF.cm {h h' : AM} (hI : Inv h) (hs : SF h h') : CM h' := ⟨kn_235 hs.2.1, hs.2.1, fun q hq => (hs.1 _ _ (nsR q hq)).trans (hI.2.1.1 q hq)⟩
theorem SF.c {h h' : AM} (hs : SF h h') (i : Int) : mrd h' 240 i = mrd h 240 i := congrFun (Fr_A hs.1 ns240) i
theorem SF.inv {h h' : AM} (hI : Inv h) (hs : SF h h') (e : mrd h' 0 11 = mrd h' 235 0) : Inv h' := Inv_fr hI hs.1 e hs.2.1 hs.2.2.1 hs.2.2.2
theorem SF.k0 {h h' : AM} (hs : SF h h') : isK h' 0 10 := kn_0 hs.2.1
theorem SF.e8 {h h' : AM} (hs : SF h h') : mrd h' 0 8 = mrd h 0 8 := fr0 hs.1 (by decide)
theorem SF.cs {h h' : AM} {s : Int} (hI : Inv h) (hs : SF h h') (h6 : s = 162 ∨ s = 195) : CS h' s := CS_of hs.2.1 (hs.cm hI).2.2 (S6_cur h6)
theorem SF.s {h h' : AM} {s a i : Int} (hs : SF h h') (h6 : s = 162 ∨ s = 195) (ha : a = s ∨ (s + 13 ≤ a ∧ a ≤ s + 32) ∨ a = 240 ∨ a = 242) : mrd h' a i = mrd h a i := hs.1 a i (ZS_Scr h6 a i ha)
theorem SF.ds {h h' : AM} {s : Int} (hs : SF h h') (h6 : s = 162 ∨ s = 195) (ds : DS h s) : DS h' s := by
  obtain ⟨d5, d6, d7, d8, dl, dc⟩ := ds
  have e4 := hs.c
  have e0 := fun i => hs.s h6 (a := s) (i := i) (by omega)
  unfold DS
  simp only [e4, e0]
  refine ⟨d5, d6, d7, d8, fun l l0 l1 => ?_, fun k k0 k1 => ?_⟩
  · have := dl l l0 l1
    have e1 := fun i => hs.s h6 (a := s + 13 + l) (i := i) (by omega)
    unfold DLes at this ⊢
    simp only [e4, e1]
    exact this
  · have := dc k k0 k1
    have e1 := fun i => hs.s h6 (a := s + 25 + 2 * k) (i := i) (by omega)
    have e2 := fun i => hs.s h6 (a := s + 26 + 2 * k) (i := i) (by omega)
    unfold DChi at this ⊢
    simp only [e4, e1, e2]
    exact this
theorem opSF {d kx km t : Nat} {LX LM : List AV} {h : AM} (hI : Inv h) (r v : Int) (hx : ∃ h1, EV d kx 0 LX [] h = some ((t, r), h1) ∧ SF h h1 ∧ mrd h1 0 11 = v) (hm : ∀ h1, SF h h1 → ∃ h2, EV d km 0 LM [] h1 = some ((t, r), h2) ∧ SF h h2 ∧ mrd h2 235 0 = v ∧ mrd h2 0 11 = mrd h1 0 11) : ∃ r h1 h2, EV d kx 0 LX [] h = some ((t, r), h1) ∧ EV d km 0 LM [] h1 = some ((t, r), h2) ∧ Inv h2 := by
  obtain ⟨h1, e1, s1, v1⟩ := hx
  obtain ⟨h2, e2, s2, v2, v3⟩ := hm h1 s1
  exact ⟨r, h1, h2, e1, e2, s2.inv hI (by rw [v3, v1, v2])⟩
/-- letters that are kept -/
def kp (ex : Nat → Bool) (f : Nat → Int) : Nat → List Int
  | 0 => []
  | n + 1 => if ex n = true then kp ex f n else kp ex f n ++ [f n]
theorem kp_len (ex : Nat → Bool) (f : Nat → Int) : ∀ n, (kp ex f n).length ≤ n
  | 0 => Nat.le_refl _
  | n + 1 => by
    have := kp_len ex f n
    rw [kp]
    split
    · omega
    · rw [List.length_append]; simp only [List.length_cons, List.length_nil]; omega
theorem kp_congr {ex ey : Nat → Bool} {f g : Nat → Int} : ∀ n, (∀ i, i < n → ex i = ey i) → (∀ i, i < n → f i = g i) → kp ex f n = kp ey g n
  | 0, _, _ => rfl
  | n + 1, h1, h2 => by rw [kp, kp, kp_congr n (fun i hi => h1 i (by omega)) (fun i hi => h2 i (by omega)), h1 n (by omega), h2 n (by omega)]
theorem kp_none (f : Nat → Int) : ∀ n, (kp (fun _ => false) f n).length = n
  | 0 => rfl
  | n + 1 => by rw [kp, if_neg (by decide), List.length_append, kp_none f n]; rfl
theorem gA {l : List Int} {x : Int} {p : Nat} : (l ++ [x]).getD p 0 = if p < l.length then l.getD p 0 else [x].getD (p - l.length) 0 := by
  rw [List.getD_eq_getElem?_getD, List.getElem?_append]
  split <;> rw [List.getD_eq_getElem?_getD]
theorem kp_getD (f : Nat → Int) : ∀ n p, p < n → (kp (fun _ => false) f n).getD p 0 = f p
  | 0, p, h => by omega
  | n + 1, p, h => by
    rw [kp, if_neg (by decide)]
    by_cases c : p < n
    · rw [gA, if_pos (by rw [kp_none]; exact c)]
      exact kp_getD f n p c
    · have e : p = n := by omega
      subst e
      rw [gA, if_neg (by rw [kp_none]; omega), kp_none, Nat.sub_self]
      rfl
/-- the class's voice holds these letters -/
def SpX (h h' : AM) (s : Int) (l : List Int) : Prop := h'.2 = h.2 ∧ (∀ a i, a ≠ s + 5 → ¬ (a = s + 4 ∧ i = 1) → mrd h' a i = mrd h a i) ∧ mrd h' (s + 4) 1 = l.length ∧ ∀ p : Nat, p < l.length → mrd h' (s + 5) p = vow (l.getD p 0)
/-- the reference's row holds these letters -/
def SpM (g g' : AM) (l : List Int) : Prop := g'.2 = g.2 ∧ (∀ a i, a ≠ 243 → ¬ (a = 235 ∧ i = 27) → mrd g' a i = mrd g a i) ∧ mrd g' 235 27 = l.length ∧ ∀ p : Nat, p < l.length → mrd g' 243 p = l.getD p 0
theorem getD_snoc {l : List Int} {x : Int} {p : Nat} (hp : p < (l ++ [x]).length) : (l ++ [x]).getD p 0 = if p = l.length then x else l.getD p 0 := by
  rw [List.length_append] at hp
  simp only [List.length_cons, List.length_nil] at hp
  by_cases c : p = l.length
  · rw [if_pos c, gA, if_neg (by omega), c, Nat.sub_self]
    rfl
  · rw [if_neg c, gA, if_pos (by omega)]
theorem CS_cong {h h' : AM} {s : Int} (e : h'.2 = h.2) (hf : ∀ a i, a ≠ s + 5 → ¬ (a = s + 4 ∧ i = 1) → mrd h' a i = mrd h a i) (hs : CS h s) : CS h' s := by
  obtain ⟨a0, a1, a2, a3, a4, a5, a6, a7, a8, a9, a10, a11, a12⟩ := hs
  have ek : ∀ r c, isK h' r c ↔ isK h r c := fun r c => by unfold isK mnx mkn; rw [e]
  have el : ∀ r, mln h' r = mln h r := fun r => by unfold mln; rw [e]
  have er : ∀ r j, inR h' r j ↔ inR h r j := fun r j => by unfold inR mnx mkn mln; rw [e]
  refine ⟨(ek _ _).mpr a0, ?_, ?_, ?_, ?_, ?_, (ek _ _).mpr a6, by rw [el]; exact a7, (ek _ _).mpr a8, (ek _ _).mpr a9, by rw [el]; exact a10, fun l l0 l1 => ?_, fun k k0 k1 => ?_⟩
  · rw [hf _ _ (by omega) (by omega)]; exact a1
  · rw [hf _ _ (by omega) (by omega)]; exact a2
  · rw [hf _ _ (by omega) (by omega)]; exact a3
  · rw [hf _ _ (by omega) (by omega)]; exact a4
  · rw [hf _ _ (by omega) (by omega)]; exact a5
  · obtain ⟨b1, b2, b3⟩ := a11 l l0 l1
    exact ⟨(er _ _).mpr b1, by rw [hf _ _ (by omega) (by omega)]; exact b2, (ek _ _).mpr b3⟩
  · obtain ⟨b1, b2, b3, b4, b5, b6⟩ := a12 k k0 k1
    exact ⟨(er _ _).mpr b1, by rw [hf _ _ (by omega) (by omega)]; exact b2, (ek _ _).mpr b3, by rw [hf _ _ (by omega) (by omega)]; exact b4, (ek _ _).mpr b5, by rw [el]; exact b6⟩
theorem SpX.trans {h h1 h2 : AM} {s : Int} {l l' : List Int} (a : SpX h h1 s l) (b : SpX h1 h2 s l') : SpX h h2 s l' := ⟨b.1.trans a.1, fun x i h1 h2 => (b.2.1 x i h1 h2).trans (a.2.1 x i h1 h2), b.2.2⟩
theorem SpM.trans {h h1 h2 : AM} {l l' : List Int} (a : SpM h h1 l) (b : SpM h1 h2 l') : SpM h h2 l' := ⟨b.1.trans a.1, fun x i h1 h2 => (b.2.1 x i h1 h2).trans (a.2.1 x i h1 h2), b.2.2⟩
theorem Scr_v {s : Int} (hs : s = 162 ∨ s = 195) : (∀ i, Scr (s + 5) i) ∧ Scr (s + 4) 1 := by
  rcases hs with rfl | rfl
  · exact ⟨fun i => Or.inl (by decide +kernel), Or.inr (Or.inr (by decide +kernel))⟩
  · exact ⟨fun i => Or.inl (by decide +kernel), Or.inr (Or.inr (by decide +kernel))⟩
theorem SF.spx {h h1 h2 : AM} {s : Int} {l : List Int} (hf : SF h h1) (hs : s = 162 ∨ s = 195) (a : SpX h1 h2 s l) : SF h h2 := by
  refine hf.st a.1 (fun x i hn => a.2.1 x i (fun z => hn ?_) (fun z => hn ?_)) (a.2.1 _ _ (by omega) (by omega))
  · rw [z]; exact (Scr_v hs).1 i
  · rw [z.1, z.2]; exact (Scr_v hs).2
theorem SF.spm {h h1 h2 : AM} {l : List Int} (hf : SF h h1) (a : SpM h1 h2 l) : SF h h2 := by
  refine hf.st a.1 (fun x i hn => a.2.1 x i (fun z => hn ?_) (fun z => hn ?_)) (a.2.1 _ _ (by omega) (by omega))
  · rw [z]; exact Or.inl (by decide +kernel)
  · rw [z.1, z.2]; exact Or.inr (Or.inr (by decide +kernel))
section
variable {d : Nat} {h g : AM} {s a b c k p v w x y z : Int}
theorem x_spell_loop {h0 : AM} (hs0 : CS h0 s) (k0 : 0 ≤ k) (k1 : k < 4) (N : Nat) (hN : mrd h0 (s + 25 + 2 * k) 6 = N) (N12 : N ≤ 12) (hl : ∀ p : Nat, p < N → 0 ≤ mrd h0 (s + 26 + 2 * k) p ∧ mrd h0 (s + 26 + 2 * k) p < 12 ∧ mrd h0 (s + 13 + mrd h0 (s + 26 + 2 * k) p) 2 = vow (mrd h0 (s + 13 + mrd h0 (s + 26 + 2 * k) p) 1)) (n : Nat) : ∀ (i : Nat) (h : AM), i + n = N → SpX h0 h s (kp (fun p => decide ((p : Int) = w)) (fun p => mrd h0 (s + 13 + mrd h0 (s + 26 + 2 * k) p) 1) i) → ∃ h', EV d 99 8 [(2, s + 4), (2, s), (2, s + 25 + 2 * k), (0, w), (0, (i : Int))] [] h = some ((3, 0), h') ∧ SpX h0 h' s (kp (fun p => decide ((p : Int) = w)) (fun p => mrd h0 (s + 13 + mrd h0 (s + 26 + 2 * k) p) 1) N) := by
  induction n with
  | zero =>
    intro i h hi hsp
    have e : i = N := by omega
    subst e
    obtain ⟨ks, -, r1, r2, r3, r4, -, -, k7, k8, k9, kl, kc⟩ := CS_cong hsp.1 hsp.2.1 hs0
    obtain ⟨q1, q2, q3, q4, q5, q6⟩ := kc k k0 k1
    have e6 : mrd h (s + 25 + 2 * k) 6 = i := by rw [hsp.2.1 _ _ (by omega) (by omega), hN]
    refine ⟨h, ?_, hsp⟩
    rw [e99_8]
    simp only [e99_0, e99_1, e99_2, e99_5, e99_6, e99_10, e99_11, e99_14, e99_17, e99_19, e99_20, e99_23, e99_24, e99_27, e99_28, e99_31, e99_32, e99_35, e99_36, e99_39, e99_41, e99_42, e99_43, e99_46, e99_46z, e99_47, e99_48, e99_48i, e99_49, e99_52, e99_53, e99_54, e99_57, e99_60, e99_63, psh0, psh1, psh3, true_or, or_true, eq_self, Option.bind_some, List.length_nil, List.length_cons, Nat.reduceAdd, Nat.reduceLeDiff, Nat.zero_le, ↓reduceIte, Int.reduceLT, Int.reduceEq, Int.reduceLE, Int.reduceNeg, Int.reduceAdd, Int.reduceMul, Int.reduceSub, ne_eq, not_true_eq_false, not_false_eq_true, and_true, true_and, and_false, false_and, c3lt, c3gt, c3eq, Bool.false_eq_true, isK_wr, inA_wr, inR_wr, q3, e6, Int.lt_irrefl]
  | succ n ih =>
    intro i h hi hsp
    obtain ⟨ks, -, r1, r2, r3, r4, -, -, k7, k8, k9, kl, kc⟩ := CS_cong hsp.1 hsp.2.1 hs0
    obtain ⟨q1, q2, q3, q4, q5, q6⟩ := kc k k0 k1
    have e6 : mrd h (s + 25 + 2 * k) 6 = N := by rw [hsp.2.1 _ _ (by omega) (by omega), hN]
    have ci : (i : Int) < N := by omega
    have w1 : w32 ((i : Int) + 1) = ((i + 1 : Nat) : Int) := by rw [w32_id (by omega) (by omega)]; omega
    have hk := hsp
    have hlen := kp_len (fun p => decide ((p : Int) = w)) (fun p => mrd h0 (s + 13 + mrd h0 (s + 26 + 2 * k) p) 1) i
    by_cases hw : (i : Int) = w
    · have ek : kp (fun p => decide ((p : Int) = w)) (fun p => mrd h0 (s + 13 + mrd h0 (s + 26 + 2 * k) p) 1) (i + 1) = kp (fun p => decide ((p : Int) = w)) (fun p => mrd h0 (s + 13 + mrd h0 (s + 26 + 2 * k) p) 1) i := by rw [kp, if_pos (decide_eq_true hw)]
      obtain ⟨h', g1, g2⟩ := ih (i + 1) h (by omega) (by rw [ek]; exact hsp)
      refine ⟨h', ?_, g2⟩
      subst hw
      rw [e99_8, ← g1]
      simp only [e99_0, e99_1, e99_2, e99_5, e99_6, e99_10, e99_11, e99_14, e99_17, e99_19, e99_20, e99_23, e99_24, e99_27, e99_28, e99_31, e99_32, e99_35, e99_36, e99_39, e99_41, e99_42, e99_43, e99_46, e99_46z, e99_47, e99_48, e99_48i, e99_49, e99_52, e99_53, e99_54, e99_57, e99_60, e99_63, psh0, psh1, psh3, true_or, or_true, eq_self, Option.bind_some, List.length_nil, List.length_cons, Nat.reduceAdd, Nat.reduceLeDiff, Nat.zero_le, ↓reduceIte, Int.reduceLT, Int.reduceEq, Int.reduceLE, Int.reduceNeg, Int.reduceAdd, Int.reduceMul, Int.reduceSub, ne_eq, not_true_eq_false, not_false_eq_true, and_true, true_and, and_false, false_and, c3lt, c3gt, c3eq, Bool.false_eq_true, isK_wr, inA_wr, inR_wr, q3, e6, ci, w1]
    · have ek : kp (fun p => decide ((p : Int) = w)) (fun p => mrd h0 (s + 13 + mrd h0 (s + 26 + 2 * k) p) 1) (i + 1) = kp (fun p => decide ((p : Int) = w)) (fun p => mrd h0 (s + 13 + mrd h0 (s + 26 + 2 * k) p) 1) i ++ [mrd h0 (s + 13 + mrd h0 (s + 26 + 2 * k) i) 1] := by rw [kp, if_neg (by simpa using hw)]
      obtain ⟨l0, l1, l2⟩ := hl i (by omega)
      have eA : mrd h (s + 26 + 2 * k) i = mrd h0 (s + 26 + 2 * k) i := hsp.2.1 _ _ (by omega) (by omega)
      have eO : mrd h (s + 13 + mrd h0 (s + 26 + 2 * k) i) 2 = vow (mrd h0 (s + 13 + mrd h0 (s + 26 + 2 * k) i) 1) := by rw [hsp.2.1 _ _ (by omega) (by omega), l2]
      obtain ⟨t1, t2, t3⟩ := kl _ l0 l1
      have iA : inA h (s + 26 + 2 * k) 16 i := ⟨q5, by omega, by rw [q6]; omega⟩
      obtain ⟨c, hc⟩ : ∃ c : Nat, c = (kp (fun p => decide ((p : Int) = w)) (fun p => mrd h0 (s + 13 + mrd h0 (s + 26 + 2 * k) p) 1) i).length := ⟨_, rfl⟩
      have eL : mrd h (s + 4) 1 = c := by rw [hsp.2.2.1, hc]
      have iV : inA h (s + 5) 18 c := ⟨k8, by omega, by rw [k9]; omega⟩
      have w2 : w32 ((c : Int) + 1) = (c : Int) + 1 := w32_id (by omega) (by omega)
      have nV : (s + 4 = s + 5) = False := eq_false (by omega)
      have hv : vow (mrd h0 (s + 13 + mrd h0 (s + 26 + 2 * k) i) 1) = 0 ∨ vow (mrd h0 (s + 13 + mrd h0 (s + 26 + 2 * k) i) 1) = 1 := by unfold vow; split <;> simp
      obtain ⟨h', g1, g2⟩ := ih (i + 1) (mwr (mwr h (s + 5) c (vow (mrd h0 (s + 13 + mrd h0 (s + 26 + 2 * k) i) 1))) (s + 4) 1 ((c : Int) + 1)) (by omega) (by
        refine ⟨hsp.1, fun a j h1 h2 => ?_, ?_, fun p hp => ?_⟩
        · rw [rd_wr, if_neg h2, rd_wr, if_neg (by omega)]
          exact hsp.2.1 a j h1 h2
        · rw [rde, ek, List.length_append, ← hc]; rfl
        · rw [ek] at hp ⊢
          rw [rdn1 (by omega), rd_wr, getD_snoc hp, ← hc]
          by_cases c2 : p = c
          · rw [if_pos ⟨rfl, by omega⟩, if_pos c2]
          · rw [if_neg (by omega), if_neg c2]
            refine hsp.2.2.2 p ?_
            rw [List.length_append, ← hc] at hp
            simp only [List.length_cons, List.length_nil] at hp
            rw [← hc]; omega)
      refine ⟨h', ?_, g2⟩
      rw [e99_8, ← g1]
      simp only [e99_0, e99_1, e99_2, e99_5, e99_6, e99_10, e99_11, e99_14, e99_17, e99_19, e99_20, e99_23, e99_24, e99_27, e99_28, e99_31, e99_32, e99_35, e99_36, e99_39, e99_41, e99_42, e99_43, e99_46, e99_46z, e99_47, e99_48, e99_48i, e99_49, e99_52, e99_53, e99_54, e99_57, e99_60, e99_63, psh0, psh1, psh3, true_or, or_true, eq_self, Option.bind_some, List.length_nil, List.length_cons, Nat.reduceAdd, Nat.reduceLeDiff, Nat.zero_le, ↓reduceIte, Int.reduceLT, Int.reduceEq, Int.reduceLE, Int.reduceNeg, Int.reduceAdd, Int.reduceMul, Int.reduceSub, ne_eq, not_true_eq_false, not_false_eq_true, and_true, true_and, and_false, false_and, c3lt, c3gt, c3eq, Bool.false_eq_true, isK_wr, inA_wr, inR_wr, q3, q4, e6, ci, hw, k7, r4, eL, ks, r1, iA, eA, t1, t2, t3, eO, iV, hv, rd_wr, nV, w1, w2]
theorem x_spell {h0 : AM} (hs0 : CS h0 s) (k0 : 0 ≤ k) (k1 : k < 4) (N : Nat) (hN : mrd h0 (s + 25 + 2 * k) 6 = N) (N12 : N ≤ 12) (hl : ∀ p : Nat, p < N → 0 ≤ mrd h0 (s + 26 + 2 * k) p ∧ mrd h0 (s + 26 + 2 * k) p < 12 ∧ mrd h0 (s + 13 + mrd h0 (s + 26 + 2 * k) p) 2 = vow (mrd h0 (s + 13 + mrd h0 (s + 26 + 2 * k) p) 1)) : ∃ h', EV d 99 0 [(2, s + 4), (2, s), (2, s + 25 + 2 * k), (0, w), (3, 0)] [] h0 = some ((3, 0), h') ∧ SpX h0 h' s (kp (fun p => decide ((p : Int) = w)) (fun p => mrd h0 (s + 13 + mrd h0 (s + 26 + 2 * k) p) 1) N) := by
  have k7 := hs0.2.2.2.2.2.2.2.2.1
  obtain ⟨h', g1, g2⟩ := x_spell_loop (d := d) (w := w) hs0 k0 k1 N hN N12 hl N 0 (mwr h0 (s + 4) 1 0) (by omega) (by
    refine ⟨rfl, fun a j h1 h2 => ?_, ?_, fun p hp => ?_⟩
    · rw [rd_wr, if_neg h2]
    · rw [rde]; rfl
    · exact absurd hp (by rw [kp]; exact Nat.not_lt_zero _))
  refine ⟨h', ?_, g2⟩
  rw [← g1]
  simp only [e99_0, e99_1, e99_2, e99_5, e99_6, e99_10, e99_11, e99_14, e99_17, e99_19, e99_20, e99_23, e99_24, e99_27, e99_28, e99_31, e99_32, e99_35, e99_36, e99_39, e99_41, e99_42, e99_43, e99_46, e99_46z, e99_47, e99_48, e99_48i, e99_49, e99_52, e99_53, e99_54, e99_57, e99_60, e99_63, psh0, psh1, psh3, true_or, or_true, eq_self, Option.bind_some, List.length_nil, List.length_cons, Nat.reduceAdd, Nat.reduceLeDiff, Nat.zero_le, ↓reduceIte, Int.reduceLT, Int.reduceEq, Int.reduceLE, Int.reduceNeg, Int.reduceAdd, Int.reduceMul, Int.reduceSub, ne_eq, not_true_eq_false, not_false_eq_true, and_true, true_and, and_false, false_and, c3lt, c3gt, c3eq, Bool.false_eq_true, isK_wr, inA_wr, inR_wr, k7]
  rfl
end
