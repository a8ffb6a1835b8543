/-! small laws for the calls; what the invariant says of the school, in plain form -/
theorem rdn1 {h : AM} {a i v b j : Int} (hb : b ≠ a) : mrd (mwr h a i v) b j = mrd h b j := by rw [rd_wr, if_neg (fun z => hb z.1)]
theorem rdn2 {h : AM} {a i v b j : Int} (hj : j ≠ i) : mrd (mwr h a i v) b j = mrd h b j := by rw [rd_wr, if_neg (fun z => hj z.2)]
theorem rde {h : AM} {a i v : Int} : mrd (mwr h a i v) a i = v := by rw [rd_wr, if_pos ⟨rfl, rfl⟩]
theorem wrwr {h : AM} {a i v w : Int} : mwr (mwr h a i v) a i w = mwr h a i w := by
  refine Prod.ext (funext fun b => funext fun j => ?_) rfl
  show (if b = a ∧ j = i then w else if b = a ∧ j = i then v else h.1 b j) = _
  by_cases c : b = a ∧ j = i
  · rw [if_pos c]; show _ = (if b = a ∧ j = i then w else h.1 b j); rw [if_pos c]
  · rw [if_neg c, if_neg c]; show _ = (if b = a ∧ j = i then w else h.1 b j); rw [if_neg c]
theorem Shp_wr {h : AM} {a i v : Int} : Shp (mwr h a i v) ↔ Shp h := Iff.rfl
theorem RRef_wr {h : AM} {a i v : Int} (hn : refT.all (fun q => !(q.1 == a && q.2.1 == i)) = true) (hr : RRef h.1) : RRef (mwr h a i v).1 := by
  intro q hq
  have := List.all_eq_true.mp hn q hq
  rw [← hr q hq]
  show (if q.1 = a ∧ q.2.1 = i then v else h.1 q.1 q.2.1) = _
  rw [if_neg]
  rintro ⟨z1, z2⟩
  simp [z1, z2] at this
theorem c3lt (a b : Int) : (cmp3 a b < 0) = (a < b) := by
  unfold cmp3; apply propext; split
  · omega
  · split <;> omega
theorem c3gt (a b : Int) : (0 < cmp3 a b) = (b < a) := by
  unfold cmp3; apply propext; split
  · omega
  · split <;> omega
theorem c3eq (a b : Int) : (cmp3 a b = 0) = (a = b) := by
  unfold cmp3; apply propext; split
  · omega
  · split <;> omega
theorem Scr_st : Scr 0 11 := Or.inr (Or.inr (by decide +kernel))
theorem Scr_m0 : Scr 235 0 := Or.inr (Or.inr (by decide +kernel))
theorem Scr_m1 : Scr 235 1 := Or.inr (Or.inr (by decide +kernel))
theorem RSum_eq {h h' : AM} (e : h'.2 = h.2) (e5 : mrd h' 148 5 = mrd h 148 5) (hr : RSum h) : RSum h' := by
  unfold RSum isK mkn mln mnx msl at hr ⊢
  rw [e5, e]
  exact hr
/-- a call that asks alone -/
theorem Inv_q {h : AM} {v : Int} (hI : Inv h) : Inv (mwr (mwr (mwr h 0 11 v) 235 1 0) 235 0 v) := by
  refine Inv_fr hI (Fr_wr Scr_m0 (Fr_wr Scr_m1 (Fr_wr Scr_st Fr.rf))) ?_ hI.1 (RSum_eq rfl ?_ hI.2.2.2.1) rfl
  · rw [rde, rdn1 (by decide), rdn1 (by decide), rde]
  · rw [rdn1 (by decide), rdn1 (by decide), rdn1 (by decide)]
theorem S6_cur {s : Int} (h : s = 162 ∨ s = 195) : s ∈ S6 := by rcases h with rfl | rfl <;> decide
/-- lesson l of the school at s -/
def CLes (h : AM) (s l : Int) : Prop :=
  inR h (s + 2) l ∧ mrd h (s + 2) l = s + 13 + l ∧ isK h (s + 13 + l) 2
def CChi (h : AM) (s k : Int) : Prop :=
  inR h (s + 3) k ∧ mrd h (s + 3) k = s + 25 + 2 * k ∧ isK h (s + 25 + 2 * k) 1 ∧ mrd h (s + 25 + 2 * k) 0 = s + 26 + 2 * k ∧ isK h (s + 26 + 2 * k) 16 ∧ mln h (s + 26 + 2 * k) = 12
/-- the school's objects -/
def CS (h : AM) (s : Int) : Prop :=
  isK h s 6 ∧ mrd h s 0 = s + 1 ∧ mrd h s 1 = s + 2 ∧ mrd h s 2 = s + 3 ∧ mrd h s 3 = s + 4 ∧ mrd h (s + 4) 0 = s + 5 ∧ isK h (s + 1) 19 ∧ mln h (s + 1) = 4 ∧ isK h (s + 4) 9 ∧ isK h (s + 5) 18 ∧ mln h (s + 5) = 12 ∧
  (∀ l, 0 ≤ l → l < 12 → CLes h s l) ∧ ∀ k, 0 ≤ k → k < 4 → CChi h s k
theorem CS_of {h : AM} {s : Int} (hp : Shp h) (hr : RRef h.1) (hs : s ∈ S6) : CS h s := by
  obtain ⟨⟨a0, a1, a2, a3, a4⟩, b, c⟩ := s6_ref hr hs
  obtain ⟨⟨k0, k1, k2, k3, k4, k5, k6, k7, k8, k9⟩, kl, kc⟩ := s6_K hp hs
  refine ⟨k0, a0, a1, a2, a3, a4, k1, k2, k7, k8, k9, fun l l0 l1 => ⟨?_, b l l0 l1, kl l l0 l1⟩, fun k c0 c1 => ⟨?_, (c k c0 c1).1, (kc k c0 c1).1, (c k c0 c1).2, (kc k c0 c1).2.1, (kc k c0 c1).2.2⟩⟩
  · exact ⟨⟨k3.1, k3.2.1, by rw [k3.2.2]; decide, by rw [k3.2.2]; decide⟩, l0, by rw [k4]; exact l1⟩
  · exact ⟨⟨k5.1, k5.2.1, by rw [k5.2.2]; decide, by rw [k5.2.2]; decide⟩, c0, by rw [k6]; exact c1⟩
/-- what the two sides have of lesson l alike -/
def DLes (h : AM) (s l : Int) : Prop :=
  (mrd h (s + 13 + l) 1 = mrd h 240 (4 + l) ∧ 1 ≤ mrd h 240 (4 + l) ∧ mrd h 240 (4 + l) ≤ 26) ∧ mrd h (s + 13 + l) 2 = vow (mrd h 240 (4 + l)) ∧
  (mrd h (s + 13 + l) 3 = mrd h 240 (16 + l) ∧ 1 ≤ mrd h 240 (16 + l) ∧ mrd h 240 (16 + l) ≤ 30) ∧ (mrd h (s + 13 + l) 4 = mrd h 240 (28 + l) ∧ 0 ≤ mrd h 240 (28 + l) ∧ mrd h 240 (28 + l) ≤ 99) ∧
  (mrd h (s + 13 + l) 5 = mrd h 240 (40 + l) ∧ -1 ≤ mrd h 240 (40 + l) ∧ mrd h 240 (40 + l) < mrd h 240 0) ∧ (mrd h (s + 13 + l) 6 = mrd h 240 (52 + l) ∧ 0 ≤ mrd h 240 (52 + l) ∧ mrd h 240 (52 + l) < 2 ^ l.toNat)
def DChi (h : AM) (s k : Int) : Prop :=
  (mrd h (s + 25 + 2 * k) 2 = mrd h 240 (64 + k) ∧ 0 ≤ mrd h 240 (64 + k) ∧ mrd h 240 (64 + k) ≤ 9) ∧ (mrd h (s + 25 + 2 * k) 3 = mrd h 240 (68 + k) ∧ 0 ≤ mrd h 240 (68 + k) ∧ mrd h 240 (68 + k) ≤ 9999) ∧ mrd h (s + 25 + 2 * k) 4 = mrd h 240 (72 + k) ∧
  (mrd h (s + 25 + 2 * k) 6 = mrd h 240 (76 + k) ∧ 0 ≤ mrd h 240 (76 + k) ∧ mrd h 240 (76 + k) ≤ 12) ∧
  (∀ p, 0 ≤ p → p < mrd h 240 (76 + k) → mrd h (s + 26 + 2 * k) p = mrd h 240 (80 + 12 * k + p) ∧ 0 ≤ mrd h 240 (80 + 12 * k + p) ∧ mrd h 240 (80 + 12 * k + p) < mrd h 240 1) ∧
  (∀ p q, 0 ≤ p → p < q → q < mrd h 240 (76 + k) → mrd h 240 (80 + 12 * k + p) ≠ mrd h 240 (80 + 12 * k + q)) ∧ mrd h (s + 25 + 2 * k) 5 = kb (fun p => mrd h 240 (80 + 12 * k + p)) (mrd h 240 (76 + k)).toNat
/-- what the two sides have of the school alike -/
def DS (h : AM) (s : Int) : Prop :=
  (mrd h s 5 = mrd h 240 0 ∧ 0 ≤ mrd h 240 0 ∧ mrd h 240 0 ≤ 4) ∧ (mrd h s 6 = mrd h 240 1 ∧ 0 ≤ mrd h 240 1 ∧ mrd h 240 1 ≤ 12) ∧ (mrd h s 7 = mrd h 240 2 ∧ 0 ≤ mrd h 240 2 ∧ mrd h 240 2 ≤ 4) ∧ (mrd h s 8 = mrd h 240 3 ∧ 1 ≤ mrd h 240 3 ∧ mrd h 240 3 ≤ 9) ∧
  (∀ l, 0 ≤ l → l < mrd h 240 1 → DLes h s l) ∧ ∀ k, 0 ≤ k → k < mrd h 240 2 → DChi h s k
theorem kb_congr {f g : Int → Int} : ∀ n : Nat, (∀ i : Int, 0 ≤ i → i < n → f i = g i) → kb f n = kb g n
  | 0, _ => rfl
  | n + 1, h => by
    rw [kb, kb, kb_congr n (fun i h0 h1 => h i h0 (by omega)), h n (by omega) (by omega)]
theorem DS_of {h : AM} {s : Int} (hr : RSch h.1 s 0 0) : DS h s := by
  obtain ⟨h5, h6, h7, h8, hl, hc⟩ := hr
  rw [Int.add_zero] at h5
  rw [Int.zero_add] at h6 h7 h8
  unfold DS
  have e : ∀ a i, mrd h a i = h.1 a i := fun _ _ => rfl
  simp only [e]
  refine ⟨⟨h5.1, by omega, by omega⟩, ⟨h6.1, by omega, by omega⟩, ⟨h7.1, by omega, by omega⟩, ⟨h8.1, by omega, by omega⟩, fun l l0 l1 => ?_, fun k k0 k1 => ?_⟩
  · have := hl l l0 (by omega)
    unfold RLes at this
    simp only [Int.zero_add] at this
    obtain ⟨-, q1, q2, q3, q4, q5, q6⟩ := this
    unfold DLes
    simp only [e]
    rw [q1.1] at q2
    refine ⟨⟨q1.1, by omega, by omega⟩, q2, ⟨q3.1, by omega, by omega⟩, ⟨q4.1, by omega, by omega⟩, ⟨q5.1, by omega, by omega⟩, ⟨q6.1, ?_, ?_⟩⟩
    · rw [← q6.1]; exact q6.2.1
    · rw [← q6.1]; exact q6.2.2
  · have := hc k k0 (by omega)
    unfold RChi at this
    simp only [Int.zero_add] at this
    obtain ⟨-, q2, q3, q4, q6, qp, qd, q5⟩ := this
    unfold DChi
    simp only [e]
    refine ⟨⟨q2.1, by omega, by omega⟩, ⟨q3.1, by omega, by omega⟩, q4, ⟨q6.1, by omega, by omega⟩, fun p p0 p1 => ?_, fun p q p0 pq q1 => ?_, ?_⟩
    · have := qp p p0 (by omega)
      exact ⟨this.1, by omega, by omega⟩
    · have t1 := qp p p0 (by omega)
      have t2 := qp q (by omega) (by omega)
      have := qd p q p0 pq (by omega)
      rw [← t1.1, ← t2.1]
      exact this
    · rw [q5, q6.1]
      exact kb_congr _ (fun i i0 i1 => (qp i i0 (by omega)).1)
/-- all that a call needs to know, in one -/
theorem ctx {h : AM} (hI : Inv h) : ∃ s, mrd h 0 8 = s ∧ (s = 162 ∨ s = 195) ∧ isK h 0 10 ∧ isK h 235 11 ∧ CS h s ∧ DS h s := by
  obtain ⟨hp, ⟨hr, -, -, -, -, -, -, hptr, ⟨hs, -⟩, -⟩, -⟩ := hI
  refine ⟨mrd h 0 8, rfl, ?_, kn_0 hp, kn_235 hp, ?_, DS_of hs⟩
  · rcases hptr.1 with z | z
    · exact Or.inl z.1
    · exact Or.inr z.1
  · exact CS_of hp hr (cur_S5 hptr).2.1
/-- the reference's own arrays -/
def CM (h : AM) : Prop := isK h 235 11 ∧ Shp h ∧ RRef h.1
theorem CM_of {h : AM} (hI : Inv h) : CM h := ⟨kn_235 hI.1, hI.1, hI.2.1.1⟩
theorem CM_wr {h : AM} {a i v : Int} (hn : refT.all (fun q => !(q.1 == a && q.2.1 == i)) = true) (hm : CM h) : CM (mwr h a i v) := ⟨hm.1, hm.2.1, RRef_wr hn hm.2.2⟩
theorem rn_st : refT.all (fun q => !(q.1 == 0 && q.2.1 == 11)) = true := by decide +kernel
theorem rn_m0 : refT.all (fun q => !(q.1 == 235 && q.2.1 == 0)) = true := by decide +kernel
theorem rn_m1 : refT.all (fun q => !(q.1 == 235 && q.2.1 == 1)) = true := by decide +kernel
theorem CM_q {h : AM} {v w : Int} (hm : CM h) : CM (mwr (mwr (mwr h 0 11 v) 235 1 0) 235 0 w) := CM_wr rn_m0 (CM_wr rn_m1 (CM_wr rn_st hm))
theorem mC {h : AM} (hm : CM h) : mrd h 235 20 = 240 := rf_235_20 hm.2.2
theorem inC {h : AM} (hm : CM h) {j : Int} (h0 : 0 ≤ j) (h1 : j < 2050) : inA h 240 16 j := ⟨kn_240 hm.2.1, h0, by rw [ln_240 hm.2.1]; exact h1⟩
