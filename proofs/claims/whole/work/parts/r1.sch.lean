/-! a reading: what it leaves -/
def rdC : List (Int × Int) := [(0, 8), (0, 9), (0, 10), (0, 14), (0, 15), (110, 2), (235, 8), (235, 10), (235, 11), (162, 4), (162, 5), (162, 6), (162, 7), (162, 8), (162, 9), (195, 4), (195, 5), (195, 6), (195, 7), (195, 8), (195, 9)]
theorem Rel_rd {m m' : Int → Int → Int} (hf : FrE bkO rdC 0 0 m m') (h : Rel m) (h1 : RRef m') (hn : RNum m') (ht : RTap m') (hp : RPtr m') (hc : RCur m') (hm : RMrk m') : Rel m' := by
  obtain ⟨-, h2, h3, h4, h5, h6, h7, h8, h9, h10⟩ := h
  exact Rel_mk h1 hn (RTrys_E hf (by decide +kernel) h3) ht (RPln_E hf (by decide +kernel) h5) (RLiv_E hf (by decide +kernel) h6) (RFst_E hf (by decide +kernel) h7) hp hc hm
theorem RMrk_rd {m m' : Int → Int → Int} (hr : RMrk m) (e16 : m' 0 16 = m 0 16) (e23 : m' 235 23 = m 235 23) (eS : ∀ b q, 11 ≤ b → b ≤ 109 → m' b q = m b q) (e40 : ∀ q, 410 ≤ q → q < 1640 → m' 240 q = m 240 q) (e42 : ∀ q, 20 ≤ q → q < 80 → m' 242 q = m 242 q) : RMrk m' := by
  obtain ⟨r1, r2⟩ := hr
  unfold RMrk
  rw [e16, e23]
  refine ⟨r1, fun j j0 j1 => ?_⟩
  obtain ⟨q1, q2⟩ := r2 j j0 j1
  have b6' := q1.2.1.2.2
  have b7' := q1.2.2.1.2.2
  rw [eS (11 + 33 * j) 7 (by omega) (by omega), eS (11 + 33 * j) 6 (by omega) (by omega)]
  exact ⟨RSch_cp (fun q _ _ => eS _ _ (by omega) (by omega)) (fun l l0 l1 q _ _ => eS _ _ (by omega) (by omega)) (fun k k0 k1 => ⟨fun q _ _ => eS _ _ (by omega) (by omega), fun q _ _ => eS _ _ (by omega) (by omega)⟩) (fun q q0 q1 => e40 _ (by omega) (by omega)) (fun q q0 q1 => e42 _ (by omega) (by omega)) q1, RAge_cp ⟨eS _ _ (by omega) (by omega), eS _ _ (by omega) (by omega)⟩ (fun j' j0' j1' q _ _ => eS _ _ (by omega) (by omega)) (fun q q0 q1 => e40 _ (by omega) (by omega)) q2⟩
abbrev ZR (x i : Int) : Prop := (x = 0 ∧ ((8 ≤ i ∧ i ≤ 11) ∨ i = 14 ∨ i = 15)) ∨ (x = 110 ∧ 2 ≤ i ∧ i ≤ 10) ∨ ((x = 162 ∨ x = 195) ∧ 4 ≤ i ∧ i ≤ 9) ∨ (163 ≤ x ∧ x ≤ 194) ∨ (196 ≤ x ∧ x ≤ 234) ∨ (x = 235 ∧ (i = 0 ∨ i = 1 ∨ (8 ≤ i ∧ i ≤ 19) ∨ i = 24 ∨ i = 25)) ∨ x = 240 ∨ x = 242
theorem rdC_c : ∀ i ∈ ([4, 5, 6, 7, 8, 9] : List Int), (162, i) ∈ rdC ∧ (195, i) ∈ rdC := by decide +kernel
theorem ZR_in {x i : Int} (hz : ZR x i) (hn : ¬ Scr x i) : Ex bkO rdC 0 0 x i := by
  have s1 : ∀ j ∈ ([2, 3, 4, 5, 6, 7, 8, 9, 10] : List Int), (110, j) ∈ scrF ∨ (110, j) ∈ rdC := by decide +kernel
  have s2 : ∀ j ∈ ([0, 1, 8, 9, 10, 11, 12, 13, 14, 15, 16, 17, 18, 19, 24, 25] : List Int), (235, j) ∈ scrF ∨ (235, j) ∈ rdC := by decide +kernel
  have s3 : ∀ j ∈ ([8, 9, 10, 11, 14, 15] : List Int), (0, j) ∈ scrF ∨ (0, j) ∈ rdC := by decide +kernel
  rcases hz with z | z | z | z | z | z | z | z
  · rw [z.1] at hn ⊢
    exact (s3 i (by simp only [List.mem_cons]; omega)).elim (fun y => absurd (Or.inr (Or.inr y)) hn) (fun y => Or.inr (Or.inl y))
  · rw [z.1] at hn ⊢
    exact (s1 i (by simp only [List.mem_cons]; omega)).elim (fun y => absurd (Or.inr (Or.inr y)) hn) (fun y => Or.inr (Or.inl y))
  · have := rdC_c i (by simp only [List.mem_cons]; omega)
    rcases z.1 with y | y
    · rw [y]; exact Or.inr (Or.inl this.1)
    · rw [y]; exact Or.inr (Or.inl this.2)
  · exact Or.inl (bkO_in (by omega) (by omega) (by omega))
  · exact Or.inl (bkO_in (by omega) (by omega) (by omega))
  · rw [z.1] at hn ⊢
    exact (s2 i (by simp only [List.mem_cons]; omega)).elim (fun y => absurd (Or.inr (Or.inr y)) hn) (fun y => Or.inr (Or.inl y))
  · rw [z]; exact Or.inl (by decide +kernel)
  · rw [z]; exact Or.inl (by decide +kernel)
theorem Inv_rd {h h2 : AM} (hI : Inv h) (F : ∀ x i, ¬ ZR x i → mrd h2 x i = mrd h x i) (e2 : h2.2 = h.2) (es : mrd h2 0 11 = mrd h2 235 0) (rr : RRef h2.1) (n1 : mrd h2 0 14 = mrd h2 235 10) (n2 : mrd h2 0 15 = mrd h2 235 11) (t1 : mrd h2 110 2 = 0) (t2 : mrd h2 235 8 = 0) (hp : RPtr h2.1) (hc : RCur h2.1) (e40 : ∀ q, 410 ≤ q → q < 1640 → mrd h2 240 q = mrd h 240 q) (e42 : ∀ q, 20 ≤ q → q < 80 → mrd h2 242 q = mrd h 242 q) : Inv h2 := by
  refine Inv_mk hI (Rel_rd ?_ hI.2.1 rr ⟨n1, n2, ?_, ?_⟩ ⟨⟨?_, ?_, ?_⟩, fun i i0 i1 => ?_⟩ hp hc (RMrk_rd hI.2.1.2.2.2.2.2.2.2.2.2 (F _ _ (by decide)) (F _ _ (by decide)) (fun b q b0 b1 => F b q ?_) e40 e42)) es (Shp_eq e2 hI.1) (RSum_tr (h := h) e2 (F _ _ (by decide)) hI) (by rw [e2])
  · intro x i hn hx
    exact F x i (fun z => hx (ZR_in z hn))
  · exact (F 0 12 (by decide)).trans (hI.2.1.2.1.2.2.1.trans (F 235 2 (by decide)).symm)
  · exact (F 0 13 (by decide)).trans (hI.2.1.2.1.2.2.2.trans (F 235 3 (by decide)).symm)
  · exact t1.trans t2.symm
  · show 0 ≤ mrd h2 110 2
    omega
  · show mrd h2 110 2 ≤ 900
    omega
  · have i1 : i < mrd h2 110 2 := i1
    omega
  · by_cases c : b = 110
    · omega
    · unfold ZR
      omega
