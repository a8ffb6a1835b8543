/-! age: the call -/
theorem ZX2_ZR {G x i : Int} (hG : HG G) (z : ZX2 G x i) : ZR x i := by
  rcases z with y | y | y
  · exact Or.inr (Or.inl (by omega))
  · rcases hG with rfl | rfl | rfl
    · exact Or.inr (Or.inr (Or.inr (Or.inl (by omega))))
    · exact Or.inr (Or.inr (Or.inr (Or.inr (Or.inl (by omega)))))
    · exact Or.inr (Or.inr (Or.inr (Or.inr (Or.inl (by omega)))))
  · rcases hG with rfl | rfl | rfl
    · exact Or.inr (Or.inr (Or.inr (Or.inl (by omega))))
    · exact Or.inr (Or.inr (Or.inr (Or.inr (Or.inl (by omega)))))
    · exact Or.inr (Or.inr (Or.inr (Or.inr (Or.inl (by omega)))))
theorem ZN2_ZR {x i : Int} (z : ZN2 x i) : ZR x i := by
  rcases z with y | y
  · exact Or.inr (Or.inr (Or.inr (Or.inr (Or.inr (Or.inl (by omega))))))
  · exact Or.inr (Or.inr (Or.inr (Or.inr (Or.inr (Or.inr (Or.inl y.1))))))
theorem ZX2_4 {G : Int} (hG : HG G) : ¬ ZX2 G 162 4 ∧ ¬ ZX2 G 195 4 := by
  rcases hG with rfl | rfl | rfl <;> decide
theorem ZX2_s {G s x i : Int} (hs : HD s) (hG : HG G) (h : (x = s ∧ i < 6) ∨ (x = s ∧ 5 ≤ i) ∨ (s + 13 ≤ x ∧ x ≤ s + 32)) : ¬ ZX2 G x i ∧ x ≠ 0 ∧ x ≠ 110 ∧ x < 235 := by
  have bs := hs.b
  have := ZG_s hs hG h
  refine ⟨?_, by omega, by omega, by omega⟩
  rintro (z | z | z)
  · omega
  · exact this (Or.inr (Or.inl z))
  · exact this (Or.inr (Or.inr z))
theorem ZX2_a {G g x i : Int} (hG : HG G) (hg : HG g) (ne : g ≠ G) (h : g ≤ x ∧ x ≤ g + 5) : ¬ ZX2 G x i ∧ x ≠ 0 ∧ x ≠ 110 ∧ x < 235 := by
  have bg := hg.b
  refine ⟨?_, by omega, by omega, by omega⟩
  rintro (z | z | z)
  · omega
  · rcases hG with rfl | rfl | rfl <;> rcases hg with rfl | rfl | rfl <;> first | exact absurd rfl ne | omega
  · rcases hG with rfl | rfl | rfl <;> rcases hg with rfl | rfl | rfl <;> first | exact absurd rfl ne | omega
theorem ZX2_k {G x i : Int} (hG : HG G) (hx : x ∈ ([19, 52, 85, 170, 203, 230] : List Int)) (ne : x ≠ G + 2) : ¬ ZX2 G x i := by
  have hx' : x = 19 ∨ x = 52 ∨ x = 85 ∨ x = 170 ∨ x = 203 ∨ x = 230 := by simpa using hx
  clear hx
  rintro (y | y | y)
  · omega
  · rcases hG with rfl | rfl | rfl <;> omega
  · rcases hG with rfl | rfl | rfl <;> omega
theorem list_lt {x : Int} (hx : x ∈ ([19, 52, 85, 170, 203, 230] : List Int)) : x < 235 ∧ x ≠ 0 ∧ x ≠ 110 ∧ x ≠ 162 ∧ x ≠ 195 := by
  have : ∀ x ∈ ([19, 52, 85, 170, 203, 230] : List Int), x < 235 ∧ x ≠ 0 ∧ x ≠ 110 ∧ x ≠ 162 ∧ x ≠ 195 := by decide
  exact this x hx
theorem RKid_ag {h h2 a2 : AM} {G : Int} (hG : HG G) (hk : RKid h.1) (kd : KD G a2) (lo : ∀ x i, x < 235 → x ≠ 0 → x ≠ 110 → x ≠ 162 → x ≠ 195 → mrd h2 x i = mrd a2 x i) (fa : ∀ x i, ¬ ZX2 G x i → mrd a2 x i = mrd h x i) : RKid h2.1 := fun x hx p p0 p1 => by
  obtain ⟨y1, y2, y3, y4, y5⟩ := list_lt hx
  have e : h2.1 x p = mrd a2 x p := lo x p y1 y2 y3 y4 y5
  rw [e]
  by_cases c : x = G + 2
  · rw [c]; exact kd p p0 p1
  · rw [fa x p (ZX2_k hG hx c)]
    exact hk x hx p p0 p1
/-- an age's reading that found a fault -/
theorem rd_AF {h H1 h2 a2 b2 : AM} {G s v w : Int} (hI : Inv h) (e8 : mrd h 0 8 = s) (hs : HD s) (hG : HG G) (e10 : mrd h 0 10 = G) (hH : H1 = mwr (KF a2 v) 0 11 10) (fa : a2.2 = h.2 ∧ ∀ x i, ¬ ZX2 G x i → mrd a2 x i = mrd h x i) (fb : b2.2 = H1.2 ∧ ∀ x i, ¬ ZN2 x i → mrd b2 x i = mrd H1 x i) (z8 : mrd b2 235 8 = 0) (w9 : w = mrd a2 110 9) (kd : KD G a2) (hh : h2 = mwr (mwr (mwr b2 235 10 w) 235 11 v) 235 0 10) (cb : RRef b2.1) : Inv h2 := by
  have bG := hG.b
  have bs := hs.b
  have hr : ∀ x i, mrd h2 x i = if x = 235 ∧ i = 0 then 10 else if x = 235 ∧ i = 11 then v else if x = 235 ∧ i = 10 then w else mrd b2 x i := fun x i => by
    rw [hh, rd_wr, rd_wr, rd_wr]
  have hq : ∀ x i, mrd H1 x i = if x = 0 ∧ i = 11 then 10 else if x = 0 ∧ i = 15 then v else if x = 0 ∧ i = 14 then w else if x = 110 ∧ i = 2 then 0 else mrd a2 x i := fun x i => by
    rw [hH, w9]; unfold KF; rw [rd_wr, rd_wr, rd_wr, rd_wr]
  have lo : ∀ x i, x < 235 → mrd h2 x i = mrd H1 x i := fun x i hx => by
    rw [hr, if_neg (by omega), if_neg (by omega), if_neg (by omega)]
    exact fb.2 x i (by unfold ZN2; omega)
  have lo2 : ∀ x i, x < 235 → x ≠ 0 → x ≠ 110 → mrd h2 x i = mrd a2 x i := fun x i hx h0 h1 => by
    rw [lo x i hx, hq, if_neg (by omega), if_neg (by omega), if_neg (by omega), if_neg (by omega)]
  have hi4 : ∀ x i, x = 240 ∨ x = 242 → ¬ ZN2 x i → mrd h2 x i = mrd h x i := fun x i hx hz => by
    rw [hr, if_neg (by omega), if_neg (by omega), if_neg (by omega), fb.2 x i hz, hq, if_neg (by omega), if_neg (by omega), if_neg (by omega), if_neg (by omega)]
    refine fa.2 x i ?_
    unfold ZX2
    omega
  have z0 : ∀ i, i ≠ 11 → i ≠ 14 → i ≠ 15 → mrd h2 0 i = mrd h 0 i := fun i h1 h2 h3 => by
    rw [lo _ _ (by decide), hq, if_neg (by omega), if_neg (by omega), if_neg (by omega), if_neg (by omega)]
    exact fa.2 _ _ (ZX2_0 hG)
  have hp : RPtr h.1 := hI.2.1.2.2.2.2.2.2.2.1
  have k1 : ∀ x i, ¬ ZX2 G x i → x < 235 → x ≠ 0 → x ≠ 110 → mrd h2 x i = mrd h x i := fun x i q1 q2 q3 q4 => by
    rw [lo2 x i q2 q3 q4]; exact fa.2 x i q1
  have ha : HG (mrd h s 4) := by
    rcases hs with rfl | rfl
    · exact hp.2.1
    · exact hp.2.2.1
  have ne : mrd h s 4 ≠ G := by
    rw [← e10]
    rcases hs with rfl | rfl
    · exact hp.2.2.2.2.2.1
    · exact hp.2.2.2.2.2.2.1
  have kid2 : RKid h2.1 := RKid_ag hG hp.2.2.2.2.2.2.2 kd (fun x i y1 y2 y3 _ _ => lo2 x i y1 y2 y3) fa.2
  refine Inv_rd hI (fun x i hz => ?_) ?_ ?_ ?_ ?_ ?_ ?_ ?_ (RPtr_pt (z0 8 (by decide) (by decide) (by decide)) (z0 9 (by decide) (by decide) (by decide)) (z0 10 (by decide) (by decide) (by decide)) (k1 _ _ (ZX2_4 hG).1 (by decide) (by decide) (by decide)) (k1 _ _ (ZX2_4 hG).2 (by decide) (by decide) (by decide)) kid2 hp) (RCur_keep (m := mrd h) (s := s) (a := mrd h s 4) e8 ((z0 8 (by decide) (by decide) (by decide)).trans e8) rfl (fun x i z => ?_) (fun i hi => hi4 _ _ (Or.inl rfl) (by unfold ZN2; omega)) (fun i hi => hi4 _ _ (Or.inr rfl) (by unfold ZN2; omega)) hI.2.1.2.2.2.2.2.2.2.2.1) (fun i _ hi => hi4 _ _ (Or.inl rfl) (by unfold ZN2; omega)) (fun i _ hi => hi4 _ _ (Or.inr rfl) (by unfold ZN2; omega))
  · have n1 : ¬ ZX2 G x i := fun z => hz (ZX2_ZR hG z)
    have n2 : ¬ ZN2 x i := fun z => hz (ZN2_ZR z)
    have w : ∀ b j, ZR b j → ¬ (x = b ∧ i = j) := fun b j hb z => hz (by rw [z.1, z.2]; exact hb)
    rw [hr, if_neg (w _ _ (by decide)), if_neg (w _ _ (by decide)), if_neg (w _ _ (by decide)), fb.2 x i n2, hq, if_neg (w _ _ (by decide)), if_neg (w _ _ (by decide)), if_neg (w _ _ (by decide)), if_neg (w _ _ (by decide))]
    exact fa.2 x i n1
  · rw [hh]
    show b2.2 = h.2
    rw [fb.1, hH]
    exact fa.1
  · rw [lo _ _ (by decide), hq, if_pos (by decide), hr, if_pos (by decide)]
  · rw [hh]
    exact RRef_wr rn_m0 (RRef_wr (by decide +kernel) (RRef_wr (by decide +kernel) cb))
  · rw [lo _ _ (by decide), hq, if_neg (by decide), if_neg (by decide), if_pos (by decide), hr, if_neg (by decide), if_neg (by decide), if_pos (by decide)]
  · rw [lo _ _ (by decide), hq, if_neg (by decide), if_pos (by decide), hr, if_neg (by decide), if_pos (by decide)]
  · rw [lo _ _ (by decide), hq, if_neg (by decide), if_neg (by decide), if_neg (by decide), if_pos (by decide)]
  · rw [hr, if_neg (by decide), if_neg (by decide), if_neg (by decide)]; exact z8
  · rcases z with z | z | z
    · obtain ⟨y1, y2, y3, y4⟩ := ZX2_s (i := i) hs hG (x := x) (by omega)
      exact k1 x i y1 y4 y2 y3
    · obtain ⟨y1, y2, y3, y4⟩ := ZX2_s (i := i) hs hG (x := x) (by omega)
      exact k1 x i y1 y4 y2 y3
    · obtain ⟨y1, y2, y3, y4⟩ := ZX2_a (i := i) hG ha ne z
      exact k1 x i y1 y4 y2 y3
theorem RStp_cp2 {m m' : Int → Int → Int} {G nc nl p : Int} (e7 : m' G 7 = m G 7) (x : ∀ j, 1 ≤ j → j ≤ 5 → m' (G + j) p = m (G + j) p) (y : ∀ c, 130 ≤ c → c ≤ 138 → m' 240 (0 + c + 9 * p) = m 240 (1640 + c + 9 * p)) (h : RStp m G 1640 nc nl p) : RStp m' G 0 nc nl p := by
  unfold RStp at h ⊢
  rw [x 1 (by decide) (by decide), x 2 (by decide) (by decide), x 3 (by decide) (by decide), x 4 (by decide) (by decide), x 5 (by decide) (by decide), e7, y 130 (by decide) (by decide), y 131 (by decide) (by decide), y 132 (by decide) (by decide), y 136 (by decide) (by decide), y 137 (by decide) (by decide), y 138 (by decide) (by decide)]
  exact h
/-- an age read well -/
theorem rd_AS {h H1 h2 a2 b2 : AM} {G g s : Int} {S : Nat} (hI : Inv h) (e8 : mrd h 0 8 = s) (hs : HD s) (hG : HG G) (e10 : mrd h 0 10 = G) (e4 : mrd h s 4 = g) (hH : H1 = mwr (mwr (mwr (KF a2 (-1)) s 4 G) 0 10 g) 0 11 0) (fa : a2.2 = h.2 ∧ ∀ x i, ¬ ZX2 G x i → mrd a2 x i = mrd h x i) (fb : b2.2 = H1.2 ∧ ∀ x i, ¬ ZN2 x i → mrd b2 x i = mrd H1 x i) (z8 : mrd b2 235 8 = 0) (z0 : mrd b2 235 0 = 0) (zg : mrd a2 G 6 = 1) (w9 : mrd a2 110 9 = 0) (kd : KD G a2) (eS : mrd a2 G 7 = S ∧ mrd b2 235 25 = S ∧ S ≤ 30) (sg : SG G (mrd h s 7) (mrd h s 6) 0 S 3 a2 b2) (hh : h2 = mff (agM b2 S) 240 130 (9 * (S : Int)) (fun i => mrd (agM b2 S) 240 (1770 + i))) (cb : RRef b2.1) : Inv h2 := by
  have bG := hG.b
  have bs := hs.b
  have ag4 : ∀ i : Int, 1770 ≤ i → mrd (agM b2 S) 240 i = mrd b2 240 i := fun i hi => by
    unfold agM
    rw [rdn2 (by omega), rdn2 (by omega), rdn1 (by decide), rdn1 (by decide)]
  have hr : ∀ x i, mrd h2 x i = if x = 240 ∧ 130 ≤ i ∧ i < 130 + 9 * (S : Int) then mrd b2 240 (1770 + (i - 130)) else if x = 240 ∧ i = 129 then (S : Int) else if x = 240 ∧ i = 128 then 1 else if x = 235 ∧ i = 11 then -1 else if x = 235 ∧ i = 10 then 0 else mrd b2 x i := fun x i => by
    rw [hh, rd_ff]
    by_cases c : x = 240 ∧ 130 ≤ i ∧ i < 130 + 9 * (S : Int)
    · rw [if_pos c, if_pos c]
      exact ag4 _ (by omega)
    · rw [if_neg c, if_neg c]
      unfold agM
      rw [rd_wr, rd_wr, rd_wr, rd_wr]
  have hq : ∀ x i, mrd H1 x i = if x = 0 ∧ i = 11 then 0 else if x = 0 ∧ i = 10 then g else if x = s ∧ i = 4 then G else if x = 0 ∧ i = 15 then -1 else if x = 0 ∧ i = 14 then 0 else if x = 110 ∧ i = 2 then 0 else mrd a2 x i := fun x i => by
    rw [hH]; unfold KF; rw [rd_wr, rd_wr, rd_wr, rd_wr, rd_wr, rd_wr, w9]
  have lo : ∀ x i, x < 235 → mrd h2 x i = mrd H1 x i := fun x i hx => by
    rw [hr, if_neg (by omega), if_neg (by omega), if_neg (by omega), if_neg (by omega), if_neg (by omega)]
    exact fb.2 x i (by unfold ZN2; omega)
  have lo2 : ∀ x i, x < 235 → x ≠ 0 → x ≠ 110 → ¬ (x = s ∧ i = 4) → mrd h2 x i = mrd a2 x i := fun x i hx h0 h1 h2 => by
    rw [lo x i hx, hq, if_neg (by omega), if_neg (by omega), if_neg h2, if_neg (by omega), if_neg (by omega), if_neg (by omega)]
  have hi4 : ∀ x i, (x = 240 ∧ (i < 128 ∨ 410 ≤ i)) ∨ x = 242 → ¬ ZN2 x i → mrd h2 x i = mrd h x i := fun x i hx hz => by
    rw [hr, if_neg (by omega), if_neg (by omega), if_neg (by omega), if_neg (by omega), if_neg (by omega), fb.2 x i hz, hq, if_neg (by omega), if_neg (by omega), if_neg (by omega), if_neg (by omega), if_neg (by omega), if_neg (by omega)]
    refine fa.2 x i ?_
    unfold ZX2
    omega
  have hp : RPtr h.1 := hI.2.1.2.2.2.2.2.2.2.1
  have k1 : ∀ x i, ¬ ZX2 G x i → x < 235 → x ≠ 0 → x ≠ 110 → ¬ (x = s ∧ i = 4) → mrd h2 x i = mrd h x i := fun x i q1 q2 q3 q4 q5 => by
    rw [lo2 x i q2 q3 q4 q5]; exact fa.2 x i q1
  have z0' : ∀ i, i ≠ 10 → i ≠ 11 → i ≠ 14 → i ≠ 15 → mrd h2 0 i = mrd h 0 i := fun i h0 h1 h2 h3 => by
    rw [lo _ _ (by decide), hq, if_neg (by omega), if_neg (by omega), if_neg (by omega), if_neg (by omega), if_neg (by omega), if_neg (by omega)]
    exact fa.2 _ _ (ZX2_0 hG)
  have e8' : mrd h2 0 8 = s := (z0' 8 (by decide) (by decide) (by decide) (by decide)).trans e8
  have e9' : mrd h2 0 9 = mrd h 0 9 := z0' 9 (by decide) (by decide) (by decide) (by decide)
  have e10' : mrd h2 0 10 = g := by rw [lo _ _ (by decide), hq, if_neg (by decide), if_pos (by decide)]
  have e4' : mrd h2 s 4 = G := by rw [lo _ _ (by omega), hq, if_neg (by omega), if_neg (by omega), if_pos ⟨rfl, rfl⟩]
  have kid2 : RKid h2.1 := RKid_ag hG hp.2.2.2.2.2.2.2 kd (fun x i y1 y2 y3 y4 y5 => lo2 x i y1 y2 y3 (fun z => by
    rcases hs with e | e
    · exact y4 (z.1.trans e)
    · exact y5 (z.1.trans e))) fa.2
  have ps : RPtr h2.1 := by
    have o1 : h2.1 0 8 = s := e8'
    have o2 : h2.1 0 9 = h.1 0 9 := e9'
    have o3 : h2.1 0 10 = g := e10'
    have p8 : h.1 0 8 = s := e8
    have p10 : h.1 0 10 = G := e10
    obtain ⟨r1, r2, r3, r4, r5, r6, r7, r8⟩ := hp
    rw [p8] at r1
    rw [p10] at r4 r6 r7
    unfold RPtr
    rw [o1, o2, o3]
    rcases hs with rfl | rfl
    · have q1 : h2.1 162 4 = G := e4'
      have q2 : h2.1 195 4 = h.1 195 4 := k1 _ _ (ZX2_4 hG).2 (by decide) (by decide) (by decide) (by decide)
      have q3 : h.1 162 4 = g := e4
      rw [q3] at r2 r5 r6
      rw [q1, q2]
      exact ⟨r1, r4, r3, r2, r7.symm, r6.symm, r5.symm, kid2⟩
    · have q1 : h2.1 195 4 = G := e4'
      have q2 : h2.1 162 4 = h.1 162 4 := k1 _ _ (ZX2_4 hG).1 (by decide) (by decide) (by decide) (by decide)
      have q3 : h.1 195 4 = g := e4
      rw [q3] at r3 r5 r7
      rw [q1, q2]
      exact ⟨r1, r2, r4, r3, r6, r5, r7.symm, kid2⟩
  have hc : RCur h.1 := hI.2.1.2.2.2.2.2.2.2.2.1
  have rs : RSch (mrd h) s 0 0 := by
    have := hc.1
    rwa [show h.1 0 8 = s from e8] at this
  have b6 := rs.2.1.2.2
  have b7 := rs.2.2.1.2.2
  have es : ∀ x i, (x = s ∧ 5 ≤ i) ∨ (s + 13 ≤ x ∧ x ≤ s + 32) → mrd h2 x i = mrd h x i := fun x i hx => by
    obtain ⟨y1, y2, y3, y4⟩ := ZX2_s (i := i) hs hG (x := x) (by omega)
    exact k1 x i y1 y4 y2 y3 (by omega)
  have gs : ∀ j, 0 ≤ j → j ≤ 6 → G + j ≠ s := fun j j0 j1 z => by
    rcases hs with rfl | rfl <;> rcases hG with rfl | rfl | rfl <;> omega
  have eg : ∀ j i, 0 ≤ j → j ≤ 6 → mrd h2 (G + j) i = mrd a2 (G + j) i := fun j i j0 j1 => lo2 _ _ (by omega) (by omega) (by omega) (fun z => gs j j0 j1 z.1)
  have eg0 : ∀ i, mrd h2 G i = mrd a2 G i := fun i => by
    have := eg 0 i (by decide) (by decide)
    rwa [Int.add_zero] at this
  obtain ⟨g1, g2, g3⟩ := sg
  refine Inv_rd hI (fun x i hz => ?_) ?_ ?_ ?_ ?_ ?_ ?_ ?_ ps ?_ (fun i i0 hi => hi4 _ _ (Or.inl ⟨rfl, Or.inr i0⟩) (by unfold ZN2; omega)) (fun i _ hi => hi4 _ _ (Or.inr rfl) (by unfold ZN2; omega))
  · have n1 : ¬ ZX2 G x i := fun z => hz (ZX2_ZR hG z)
    have n2 : ¬ ZN2 x i := fun z => hz (ZN2_ZR z)
    have w : ∀ b j, ZR b j → ¬ (x = b ∧ i = j) := fun b j hb z => hz (by rw [z.1, z.2]; exact hb)
    have y0 : x ≠ 240 := fun z => hz (Or.inr (Or.inr (Or.inr (Or.inr (Or.inr (Or.inr (Or.inl z)))))))
    have w4 : ¬ (x = s ∧ i = 4) := by
      rcases hs with rfl | rfl
      · exact w _ _ (by decide)
      · exact w _ _ (by decide)
    rw [hr, if_neg (fun z => y0 z.1), if_neg (fun z => y0 z.1), if_neg (fun z => y0 z.1), if_neg (w _ _ (by decide)), if_neg (w _ _ (by decide)), fb.2 x i n2, hq, if_neg (w _ _ (by decide)), if_neg (w _ _ (by decide)), if_neg w4, if_neg (w _ _ (by decide)), if_neg (w _ _ (by decide)), if_neg (w _ _ (by decide))]
    exact fa.2 x i n1
  · rw [hh]
    show b2.2 = h.2
    rw [fb.1, hH]
    exact fa.1
  · rw [lo _ _ (by decide), hq, if_pos (by decide), hr, if_neg (by omega), if_neg (by decide), if_neg (by decide), if_neg (by decide), if_neg (by decide), z0]
  · rw [hh]
    exact RRef_ffA (by decide +kernel) (RRef_wrA (by decide +kernel) (RRef_wrA (by decide +kernel) (RRef_wr (by decide +kernel) (RRef_wr (by decide +kernel) cb))))
  · rw [lo _ _ (by decide), hq, if_neg (by decide), if_neg (by decide), if_neg (by omega), if_neg (by decide), if_pos (by decide), hr, if_neg (by omega), if_neg (by decide), if_neg (by decide), if_neg (by decide), if_pos (by decide)]
  · rw [lo _ _ (by decide), hq, if_neg (by decide), if_neg (by decide), if_neg (by omega), if_pos (by decide), hr, if_neg (by omega), if_neg (by decide), if_neg (by decide), if_pos (by decide)]
  · rw [lo _ _ (by decide), hq, if_neg (by decide), if_neg (by decide), if_neg (by omega), if_neg (by decide), if_neg (by decide), if_pos (by decide)]
  · rw [hr, if_neg (by omega), if_neg (by decide), if_neg (by decide), if_neg (by decide), if_neg (by decide)]; exact z8
  · show RSch (mrd h2) (mrd h2 0 8) 0 0 ∧ RAge (mrd h2) (mrd h2 (mrd h2 0 8) 4) 0 (mrd h2 (mrd h2 0 8) 7) (mrd h2 (mrd h2 0 8) 6)
    rw [e8', e4', es s 7 (by omega), es s 6 (by omega)]
    refine ⟨RSch_cp (m := mrd h) (fun q q0 q1 => es _ _ (by omega)) (fun l l0 l1 q _ _ => es _ _ (by omega)) (fun k k0 k1 => ⟨fun q _ _ => es _ _ (by omega), fun q _ _ => es _ _ (by omega)⟩) (fun i i0 i1 => hi4 _ _ (Or.inl ⟨rfl, Or.inl (by omega)⟩) (by unfold ZN2; omega)) (fun i i0 i1 => hi4 _ _ (Or.inr rfl) (by unfold ZN2; omega)) rs, ?_, ?_, fun _ => ⟨⟨?_, ?_, ?_⟩, fun p p0 p1 => ?_, fun p q p0 pq hq' pn => ?_, fun p pn => ?_⟩⟩
    · right; rw [eg0]; exact zg
    · rw [eg0, zg, hr, if_neg (by omega), if_neg (by decide), if_pos (by decide)]
    · rw [eg0, eS.1, hr, if_neg (by omega), if_pos (by decide)]
    · rw [eg0, eS.1]; omega
    · rw [eg0, eS.1]; omega
    · rw [eg0, eS.1] at p1
      refine RStp_cp2 (m := (mx a2 b2).1) (by rw [J_a (by omega), eg0]; rfl) (fun j j0 j1 => by rw [J_a (by omega), eg j p (by omega) (by omega)]; rfl) (fun c c0 c1 => ?_) (g1 p (by omega) p1).1
      rw [J_b (by decide) (by decide), hr, if_pos ⟨rfl, by omega, by omega⟩]
      show mrd b2 240 _ = mrd b2 240 _
      congr 1
      omega
    · rw [eg0, eS.1] at pn
      rw [eg 5 p (by decide) (by decide)] at hq' ⊢
      rw [eg 5 q (by decide) (by decide)]
      exact g2 p q (by omega) pn pq hq'
    · rw [eg0, eS.1] at pn
      have e : mrd h2 (G + 5) = mrd a2 (G + 5) := funext fun i => eg 5 i (by decide) (by decide)
      rw [e, dep_dq]
      have := g3 p (by omega) (by omega)
      have z : dq (mrd a2 (G + 5)) p 0 = 0 := rfl
      omega
