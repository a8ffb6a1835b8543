/-! school: the call -/
def Inv2 (h : AM) : Prop := Inv h ∧ Byt h
theorem RPtr_pt {m m' : Int → Int → Int} (e8 : m' 0 8 = m 0 8) (e9 : m' 0 9 = m 0 9) (e10 : m' 0 10 = m 0 10) (e1 : m' 162 4 = m 162 4) (e2 : m' 195 4 = m 195 4) (hk : RKid m') (h : RPtr m) : RPtr m' := by
  unfold RPtr at h ⊢
  rw [e8, e9, e10, e1, e2]
  exact ⟨h.1, h.2.1, h.2.2.1, h.2.2.2.1, h.2.2.2.2.1, h.2.2.2.2.2.1, h.2.2.2.2.2.2.1, hk⟩
theorem RKid_pt {m m' : Int → Int → Int} (E : ∀ x ∈ ([19, 52, 85, 170, 203, 230] : List Int), ∀ p, m' x p = m x p) (h : RKid m) : RKid m' := fun x hx p p0 p1 => by
  rw [E x hx p]; exact h x hx p p0 p1
theorem RCur_keep {m m' : Int → Int → Int} {s a : Int} (e8 : m 0 8 = s) (e8' : m' 0 8 = s) (e4 : m s 4 = a) (E : ∀ x i, (x = s ∧ 4 ≤ i ∧ i ≤ 8) ∨ (s + 13 ≤ x ∧ x ≤ s + 32) ∨ (a ≤ x ∧ x ≤ a + 5) → m' x i = m x i) (e40 : ∀ i, i < 410 → m' 240 i = m 240 i) (e42 : ∀ i, i < 20 → m' 242 i = m 242 i) (h : RCur m) : RCur m' := by
  obtain ⟨h1, h2⟩ := h
  rw [e8] at h1 h2
  rw [e4] at h2
  have b6 := h1.2.1.2.2
  have b7 := h1.2.2.1.2.2
  have e4' : m' s 4 = a := (E s 4 (by omega)).trans e4
  unfold RCur
  rw [e8', e4', E s 7 (by omega), E s 6 (by omega)]
  exact ⟨RSch_cp (fun q q0 q1 => E _ _ (by omega)) (fun l l0 l1 q _ _ => E _ _ (by omega)) (fun k k0 k1 => ⟨fun q _ _ => E _ _ (by omega), fun q _ _ => E _ _ (by omega)⟩) (fun i i0 i1 => e40 _ (by omega)) (fun i i0 i1 => e42 _ (by omega)) h1, RAge_cp ⟨E _ _ (by omega), E _ _ (by omega)⟩ (fun j j0 j1 q _ _ => E _ _ (by omega)) (fun i i0 i1 => e40 _ (by omega)) h2⟩
theorem ZX_ZR {D g x i : Int} (hD : HD D) (hg : HG g) (z : ZX D g x i) : ZR x i := by
  have bg := hg.b
  rcases z with y | y | y
  · exact Or.inr (Or.inl (by omega))
  · have hD' := hD.b
    rcases y with y | y | y | y | y
    · exact Or.inr (Or.inl (by omega))
    · exact Or.inr (Or.inr (Or.inl ⟨by rw [y.1]; exact hD, by omega⟩))
    · rcases hD with rfl | rfl
      · exact Or.inr (Or.inr (Or.inr (Or.inl (by omega))))
      · exact Or.inr (Or.inr (Or.inr (Or.inr (Or.inl (by omega)))))
    · rcases hD with rfl | rfl
      · exact Or.inr (Or.inr (Or.inr (Or.inl (by omega))))
      · exact Or.inr (Or.inr (Or.inr (Or.inr (Or.inl (by omega)))))
    · rcases hD with rfl | rfl
      · exact Or.inr (Or.inr (Or.inr (Or.inl (by omega))))
      · exact Or.inr (Or.inr (Or.inr (Or.inr (Or.inl (by omega)))))
  · rcases hg with rfl | rfl | rfl
    · exact Or.inr (Or.inr (Or.inr (Or.inl (by omega))))
    · exact Or.inr (Or.inr (Or.inr (Or.inr (Or.inl (by omega)))))
    · exact Or.inr (Or.inr (Or.inr (Or.inr (Or.inl (by omega)))))
theorem ZN_ZR {x i : Int} (z : ZN x i) : ZR x i := by
  rcases z with y | y | y
  · exact Or.inr (Or.inr (Or.inr (Or.inr (Or.inr (Or.inl (by omega))))))
  · exact Or.inr (Or.inr (Or.inr (Or.inr (Or.inr (Or.inr (Or.inl y.1))))))
  · exact Or.inr (Or.inr (Or.inr (Or.inr (Or.inr (Or.inr (Or.inr y.1))))))
def HS (s D : Int) : Prop := (s = 162 ∧ D = 195) ∨ (s = 195 ∧ D = 162)
theorem HS.d {s D : Int} (h : HS s D) : HD D := by unfold HS at h; unfold HD; omega
theorem ZX_no {D g s a x i : Int} (hs : HS s D) (hg : HG g) (ha : HG a) (ne : a ≠ g) (z : (x = s ∧ 4 ≤ i ∧ i ≤ 8) ∨ (s + 13 ≤ x ∧ x ≤ s + 32) ∨ (a ≤ x ∧ x ≤ a + 5)) : ¬ ZX D g x i ∧ x ≠ 0 ∧ x ≠ 110 ∧ x < 235 := by
  have key : ¬ ZX D g x i := by
    rintro (y | y | y)
    · rcases hs with ⟨rfl, rfl⟩ | ⟨rfl, rfl⟩ <;> rcases ha with rfl | rfl | rfl <;> omega
    · clear hg ne
      rcases y with y | y | y | y | y
      · rcases hs with ⟨rfl, rfl⟩ | ⟨rfl, rfl⟩ <;> rcases ha with rfl | rfl | rfl <;> omega
      · rcases hs with ⟨rfl, rfl⟩ | ⟨rfl, rfl⟩ <;> rcases ha with rfl | rfl | rfl <;> omega
      · rcases hs with ⟨rfl, rfl⟩ | ⟨rfl, rfl⟩ <;> rcases ha with rfl | rfl | rfl <;> omega
      · rcases hs with ⟨rfl, rfl⟩ | ⟨rfl, rfl⟩ <;> rcases ha with rfl | rfl | rfl <;> omega
      · rcases hs with ⟨rfl, rfl⟩ | ⟨rfl, rfl⟩ <;> rcases ha with rfl | rfl | rfl <;> omega
    · rcases z with z | z | z
      · rcases hs with ⟨rfl, rfl⟩ | ⟨rfl, rfl⟩ <;> rcases hg with rfl | rfl | rfl <;> omega
      · rcases hs with ⟨rfl, rfl⟩ | ⟨rfl, rfl⟩ <;> rcases hg with rfl | rfl | rfl <;> omega
      · clear hs
        rcases hg with rfl | rfl | rfl <;> rcases ha with rfl | rfl | rfl <;> first | exact absurd rfl ne | omega
  refine ⟨key, ?_⟩
  clear ne hg key
  rcases hs with ⟨rfl, rfl⟩ | ⟨rfl, rfl⟩ <;> rcases ha with rfl | rfl | rfl <;> omega
theorem ZX_4 {D g : Int} (hD : HD D) (hg : HG g) : ¬ ZX D g 162 4 ∧ ¬ ZX D g 195 4 := by
  rcases hD with rfl | rfl <;> rcases hg with rfl | rfl | rfl <;> decide
theorem ZX_k {D g x i : Int} (hD : HD D) (hg : HG g) (hx : x ∈ ([19, 52, 85, 170, 203, 230] : List Int)) : ¬ ZX D g x i ∧ x < 235 ∧ x ≠ 0 ∧ x ≠ 110 := by
  have hx' : x = 19 ∨ x = 52 ∨ x = 85 ∨ x = 170 ∨ x = 203 ∨ x = 230 := by simpa using hx
  clear hx
  refine ⟨?_, by omega, by omega, by omega⟩
  rintro (y | y | y)
  · omega
  · rcases hD with rfl | rfl <;> omega
  · rcases hg with rfl | rfl | rfl <;> omega
theorem DR.rs {D : Int} {a b : AM} (h : DR D a b) (bD : D < 235) : RSch (mx a b).1 D 1640 80 := by
  obtain ⟨p1, p2, p3, p4, p5, -⟩ := h
  obtain ⟨n5, n6, n7, -⟩ := p1
  have j : ∀ i, (mx a b).1 D i = mrd a D i := fun i => by rw [J_a bD]; rfl
  have j4 : ∀ i, (mx a b).1 240 i = mrd b 240 i := fun i => by rw [J_b (by decide) (by decide)]; rfl
  unfold RSch
  rw [j, j, j, j, j4, j4, j4, j4]
  exact ⟨n5, n6, n7, p2, p4, p5⟩
/-- a reading that found a fault -/
theorem rd_F {h H1 h2 a2 b2 : AM} {D g s v w : Int} (hI : Inv h) (e8 : mrd h 0 8 = s) (hs : HS s D) (hg : HG g) (e4 : mrd h D 4 = g) (hH : H1 = mwr (KF a2 v) 0 11 10) (fa : a2.2 = h.2 ∧ ∀ x i, ¬ ZX D g x i → mrd a2 x i = mrd h x i) (fb : b2.2 = H1.2 ∧ ∀ x i, ¬ ZN x i → mrd b2 x i = mrd H1 x i) (z8 : mrd b2 235 8 = 0) (w9 : w = mrd a2 110 9) (hh : h2 = mwr (mwr (mwr b2 235 10 w) 235 11 v) 235 0 10) (cb : RRef b2.1) : Inv h2 := by
  have hD : HD D := hs.d
  have hr : ∀ x i, mrd h2 x i = if x = 235 ∧ i = 0 then 10 else if x = 235 ∧ i = 11 then v else if x = 235 ∧ i = 10 then w else mrd b2 x i := fun x i => by
    rw [hh, rd_wr, rd_wr, rd_wr]
  have hq : ∀ x i, mrd H1 x i = if x = 0 ∧ i = 11 then 10 else if x = 0 ∧ i = 15 then v else if x = 0 ∧ i = 14 then w else if x = 110 ∧ i = 2 then 0 else mrd a2 x i := fun x i => by
    rw [hH, w9]; unfold KF; rw [rd_wr, rd_wr, rd_wr, rd_wr]
  have lo : ∀ x i, x < 235 → mrd h2 x i = mrd H1 x i := fun x i hx => by
    rw [hr, if_neg (by omega), if_neg (by omega), if_neg (by omega)]
    exact fb.2 x i (by unfold ZN; omega)
  have lo2 : ∀ x i, x < 235 → x ≠ 0 → x ≠ 110 → mrd h2 x i = mrd a2 x i := fun x i hx h0 h1 => by
    rw [lo x i hx, hq, if_neg (by omega), if_neg (by omega), if_neg (by omega), if_neg (by omega)]
  have hi4 : ∀ x i, x = 240 ∨ x = 242 → ¬ ZN x i → mrd h2 x i = mrd h x i := fun x i hx hz => by
    rw [hr, if_neg (by omega), if_neg (by omega), if_neg (by omega), fb.2 x i hz, hq, if_neg (by omega), if_neg (by omega), if_neg (by omega), if_neg (by omega)]
    refine fa.2 x i ?_
    have := hg.b
    have := hD.b
    unfold ZX ZD
    omega
  have z0 : ∀ i, i ≠ 11 → i ≠ 14 → i ≠ 15 → mrd h2 0 i = mrd h 0 i := fun i h1 h2 h3 => by
    rw [lo _ _ (by decide), hq, if_neg (by omega), if_neg (by omega), if_neg (by omega), if_neg (by omega)]
    exact fa.2 _ _ (ZX_0 hD hg)
  have hp : RPtr h.1 := hI.2.1.2.2.2.2.2.2.2.1
  have k1 : ∀ x i, ¬ ZX D g x i → x < 235 → x ≠ 0 → x ≠ 110 → mrd h2 x i = mrd h x i := fun x i q1 q2 q3 q4 => by
    rw [lo2 x i q2 q3 q4]; exact fa.2 x i q1
  have ha : HG (mrd h s 4) := by
    rcases hs with ⟨rfl, -⟩ | ⟨rfl, -⟩
    · exact hp.2.1
    · exact hp.2.2.1
  have ne : mrd h s 4 ≠ g := by
    rw [← e4]
    rcases hs with ⟨rfl, rfl⟩ | ⟨rfl, rfl⟩
    · exact hp.2.2.2.2.1
    · exact fun z => hp.2.2.2.2.1 z.symm
  refine Inv_rd hI (fun x i hz => ?_) ?_ ?_ ?_ ?_ ?_ ?_ ?_ (RPtr_pt (z0 8 (by decide) (by decide) (by decide)) (z0 9 (by decide) (by decide) (by decide)) (z0 10 (by decide) (by decide) (by decide)) (k1 _ _ (ZX_4 hD hg).1 (by decide) (by decide) (by decide)) (k1 _ _ (ZX_4 hD hg).2 (by decide) (by decide) (by decide)) (RKid_pt (fun x hx p => k1 x p (ZX_k hD hg hx).1 (ZX_k hD hg hx (i := 0)).2.1 (ZX_k hD hg hx (i := 0)).2.2.1 (ZX_k hD hg hx (i := 0)).2.2.2) hp.2.2.2.2.2.2.2) hp) (RCur_keep (m := mrd h) (s := s) (a := mrd h s 4) e8 ((z0 8 (by decide) (by decide) (by decide)).trans e8) rfl (fun x i z => ?_) (fun i hi => hi4 _ _ (Or.inl rfl) (by unfold ZN; omega)) (fun i hi => hi4 _ _ (Or.inr rfl) (by unfold ZN; omega)) hI.2.1.2.2.2.2.2.2.2.2.1) (fun i _ hi => hi4 _ _ (Or.inl rfl) (by unfold ZN; omega)) (fun i _ hi => hi4 _ _ (Or.inr rfl) (by unfold ZN; omega))
  · have n1 : ¬ ZX D g x i := fun z => hz (ZX_ZR hD hg z)
    have n2 : ¬ ZN x i := fun z => hz (ZN_ZR z)
    have w : ∀ b j, ZR b j → ¬ (x = b ∧ i = j) := fun b j hb z => hz (by rw [z.1, z.2]; exact hb)
    rw [hr, if_neg (w _ _ (by decide)), if_neg (w _ _ (by decide)), if_neg (w _ _ (by decide)), fb.2 x i n2, hq, if_neg (w _ _ (by decide)), if_neg (w _ _ (by decide)), if_neg (w _ _ (by decide)), if_neg (w _ _ (by decide))]
    exact fa.2 x i n1
  · rw [hh]
    show b2.2 = h.2
    rw [fb.1, hH]
    exact fa.1
  · rw [lo _ _ (by decide), hq, if_pos (by decide), hr, if_pos (by decide)]
  · rw [hh]
    exact RRef_wr rn_m0 (RRef_wr (by decide +kernel) (RRef_wr (by decide +kernel) cb))
  · rw [lo _ _ (by decide), hq, if_neg (by decide), if_neg (by decide), if_pos (by decide), hr, if_neg (by decide), if_neg (by decide), if_pos (by decide)]
  · rw [lo _ _ (by decide), hq, if_neg (by decide), if_pos (by decide), hr, if_neg (by decide), if_pos (by decide)]
  · rw [lo _ _ (by decide), hq, if_neg (by decide), if_neg (by decide), if_neg (by decide), if_pos (by decide)]
  · rw [hr, if_neg (by decide), if_neg (by decide), if_neg (by decide)]; exact z8
  · obtain ⟨y1, y2, y3, y4⟩ := ZX_no hs hg ha ne z
    exact k1 x i y1 y4 y2 y3
