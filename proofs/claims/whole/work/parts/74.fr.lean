/-! what is only scratch; the relation does not see it -/
def scrL : List Int := [16, 49, 82, 118, 167, 200, 147, 149, 151, 241, 243, 244, 245, 246, 248, 249, 250, 251, 252, 256, 160, 161, 126, 127, 128, 129, 130, 131, 132, 133, 134, 135, 136, 137, 139, 141, 143, 145, 120, 121, 122, 123, 124, 125]
def scrF : List (Int × Int) := [(0, 11), (235, 0), (235, 1), (235, 9), (235, 12), (235, 13), (235, 14), (235, 15), (235, 16), (235, 17), (235, 18), (235, 19), (235, 24), (235, 25), (235, 27), (235, 45), (235, 46), (235, 47), (235, 48), (235, 49), (235, 50), (235, 51), (15, 1), (48, 1), (81, 1), (117, 1), (166, 1), (199, 1), (110, 3), (110, 4), (110, 5), (110, 6), (110, 7), (110, 8), (110, 9), (110, 10), (148, 2), (148, 4), (148, 5), (113, 5), (113, 6), (113, 7), (113, 8), (113, 9), (138, 1), (138, 2), (138, 3), (138, 4), (138, 5), (138, 6), (140, 1), (140, 2), (140, 3), (140, 4), (140, 5), (140, 6), (142, 1), (142, 2), (142, 3), (142, 4), (142, 5), (142, 6), (144, 1), (144, 2), (144, 3), (144, 4), (144, 5), (144, 6), (119, 6), (119, 7), (119, 8)]
def Scr (a i : Int) : Prop := a ∈ scrL ∨ 258 ≤ a ∨ (a, i) ∈ scrF
def nsA (a : Int) : Bool := !(scrL.contains a) && (decide (a < 258) && scrF.all (fun q => !(q.1 == a)))
theorem ns_A {a i : Int} (h : nsA a = true) : ¬ Scr a i := by
  simp only [nsA, Bool.and_eq_true, Bool.not_eq_true', decide_eq_true_eq, List.all_eq_true, beq_eq_false_iff_ne] at h
  obtain ⟨h1, h2, h3⟩ := h
  rintro (z | z | z)
  · have : scrL.contains a = true := List.contains_iff_mem.mpr z
    rw [h1] at this
    cases this
  · omega
  · exact h3 _ z rfl
/-- m' is m but for scratch -/
def Fr (m m' : Int → Int → Int) : Prop := ∀ a i, ¬ Scr a i → m' a i = m a i
theorem Fr_A {m m' : Int → Int → Int} (hf : Fr m m') {a : Int} (h : nsA a = true) : m' a = m a := funext fun i => hf a i (ns_A h)
theorem Fr.trans {m m' m'' : Int → Int → Int} (h1 : Fr m m') (h2 : Fr m' m'') : Fr m m'' := fun a i h => (h2 a i h).trans (h1 a i h)
theorem Fr.rf {m : Int → Int → Int} : Fr m m := fun _ _ _ => rfl
theorem Fr_wr {m : Int → Int → Int} {h : AM} {a i v : Int} (hs : Scr a i) (hf : Fr m h.1) : Fr m (mwr h a i v).1 := fun b j hb => by
  show (if b = a ∧ j = i then v else h.1 b j) = _
  rw [if_neg (fun z => hb (by rw [z.1, z.2]; exact hs))]
  exact hf b j hb
theorem RSch_of {m m' : Int → Int → Int} {s B w : Int} (e0 : m' s = m s) (e1 : ∀ l, 0 ≤ l → l < 12 → m' (s + 13 + l) = m (s + 13 + l)) (e2 : ∀ k, 0 ≤ k → k < 4 → m' (s + 25 + 2 * k) = m (s + 25 + 2 * k) ∧ m' (s + 26 + 2 * k) = m (s + 26 + 2 * k)) (e4 : m' 240 = m 240) (e5 : m' 242 = m 242) (h : RSch m s B w) : RSch m' s B w := by
  obtain ⟨h1, h2, h3, h4, h5, h6⟩ := h
  unfold RSch
  rw [e0, e4]
  refine ⟨h1, h2, h3, h4, fun l l0 l1 => ?_, fun k k0 k1 => ?_⟩
  · have := h5 l l0 l1
    unfold RLes at this ⊢
    rw [e1 l l0 (by omega), e0, e4, e5]
    exact this
  · have := h6 k k0 k1
    unfold RChi at this ⊢
    rw [(e2 k k0 (by omega)).1, (e2 k k0 (by omega)).2, e0, e4, e5]
    exact this
theorem RAge_of {m m' : Int → Int → Int} {a B nc nl : Int} (e0 : m' a = m a) (e1 : m' (a + 1) = m (a + 1)) (e2 : m' (a + 2) = m (a + 2)) (e3 : m' (a + 3) = m (a + 3)) (e4 : m' (a + 4) = m (a + 4)) (e5 : m' (a + 5) = m (a + 5)) (e6 : m' 240 = m 240) (h : RAge m a B nc nl) : RAge m' a B nc nl := by
  unfold RAge RStp at h ⊢
  rw [e0, e1, e2, e3, e4, e5, e6]
  exact h
def S5 : List Int := [11, 44, 77, 162, 195]
def A6 : List Int := [17, 50, 83, 168, 201, 228]
theorem nsS : ∀ s ∈ S5, nsA s = true := by decide +kernel
theorem nsL : ∀ s ∈ S5, ∀ l, l < 12 → nsA (s + 13 + ((l : Nat) : Int)) = true := by decide +kernel
theorem nsC : ∀ s ∈ S5, ∀ k, k < 4 → nsA (s + 25 + 2 * ((k : Nat) : Int)) = true ∧ nsA (s + 26 + 2 * ((k : Nat) : Int)) = true := by decide +kernel
theorem nsG : ∀ a ∈ A6, nsA a = true ∧ nsA (a + 1) = true ∧ nsA (a + 2) = true ∧ nsA (a + 3) = true ∧ nsA (a + 4) = true ∧ nsA (a + 5) = true := by decide +kernel
theorem nsR : ∀ q ∈ refT, ¬ (q.1 ∈ scrL ∨ 258 ≤ q.1 ∨ (q.1, q.2.1) ∈ scrF) := by decide +kernel
theorem RSch_fr {m m' : Int → Int → Int} (hf : Fr m m') {s B w : Int} (hs : s ∈ S5) (h : RSch m s B w) : RSch m' s B w := by
  refine RSch_of (Fr_A hf (nsS s hs)) (fun l l0 l1 => ?_) (fun k k0 k1 => ?_) (Fr_A hf (by decide +kernel)) (Fr_A hf (by decide +kernel)) h
  · have := nsL s hs l.toNat (by omega)
    rw [Int.toNat_of_nonneg l0] at this
    exact Fr_A hf this
  · have := nsC s hs k.toNat (by omega)
    rw [Int.toNat_of_nonneg k0] at this
    exact ⟨Fr_A hf this.1, Fr_A hf this.2⟩
theorem RAge_fr {m m' : Int → Int → Int} (hf : Fr m m') {a B nc nl : Int} (ha : a ∈ A6) (h : RAge m a B nc nl) : RAge m' a B nc nl := by
  obtain ⟨g0, g1, g2, g3, g4, g5⟩ := nsG a ha
  exact RAge_of (Fr_A hf g0) (Fr_A hf g1) (Fr_A hf g2) (Fr_A hf g3) (Fr_A hf g4) (Fr_A hf g5) (Fr_A hf (by decide +kernel)) h
theorem cur_S5 {m : Int → Int → Int} (hp : RPtr m) : m 0 8 ∈ S5 ∧ m 0 8 ∈ S6 ∧ m (m 0 8) 4 ∈ A6 := by
  obtain ⟨h1, h2, h3, -⟩ := hp
  rcases h1 with ⟨e, -⟩ | ⟨e, -⟩ <;> rw [e]
  · refine ⟨by decide, by decide, ?_⟩
    rcases h2 with e | e | e <;> rw [e] <;> decide
  · refine ⟨by decide, by decide, ?_⟩
    rcases h3 with e | e | e <;> rw [e] <;> decide
theorem mrk_S5 {i : Int} (h0 : 0 ≤ i) (h1 : i < 3) : 11 + 33 * i ∈ S5 ∧ 11 + 33 * i ∈ S6 ∧ 17 + 33 * i ∈ A6 := by
  rcases (show i = 0 ∨ i = 1 ∨ i = 2 by omega) with rfl | rfl | rfl <;> decide
theorem fr0 {m m' : Int → Int → Int} (hf : Fr m m') {i : Int} (h : i ≠ 11) : m' 0 i = m 0 i := hf 0 i (by
  have : ∀ q ∈ scrF, q.1 = 0 → q.2 = 11 := by decide +kernel
  rintro (z | z | z)
  · exact absurd z (by decide +kernel)
  · omega
  · exact h (this _ z rfl))
set_option maxHeartbeats 4000000 in
theorem Rel_fr {m m' : Int → Int → Int} (hf : Fr m m') (h : Rel m) : Rel m' := by
  obtain ⟨h1, ⟨h2a, h2b, h2c, h2d⟩, h3, h4, h5, h6, h7, h8, ⟨h9, h10⟩, h11⟩ := h
  have c (a i : Int) (z : ¬ (a ∈ scrL ∨ 258 ≤ a ∨ (a, i) ∈ scrF)) : m' a i = m a i := hf a i z
  have e8 : m' 0 8 = m 0 8 := fr0 hf (by decide)
  have e9 : m' 0 9 = m 0 9 := fr0 hf (by decide)
  have e10 : m' 0 10 = m 0 10 := fr0 hf (by decide)
  have e12 : m' 0 12 = m 0 12 := fr0 hf (by decide)
  have e13 : m' 0 13 = m 0 13 := fr0 hf (by decide)
  have e14 : m' 0 14 = m 0 14 := fr0 hf (by decide)
  have e15 : m' 0 15 = m 0 15 := fr0 hf (by decide)
  have e16 : m' 0 16 = m 0 16 := fr0 hf (by decide)
  have a162 : m' 162 = m 162 := Fr_A hf (by decide +kernel)
  have a195 : m' 195 = m 195 := Fr_A hf (by decide +kernel)
  obtain ⟨s5, s6, a6⟩ := cur_S5 h8
  have eS : m' (m 0 8) = m (m 0 8) := Fr_A hf (nsS _ s5)
  refine ⟨fun q hq => (c _ _ (nsR q hq)).trans (h1 q hq), ⟨?_, ?_, ?_, ?_⟩, fun t t0 t1 => ?_, ?_, ?_, ?_, ?_, ?_, ⟨?_, ?_⟩, ?_⟩
  · rw [e14, c 235 10 (by decide +kernel)]; exact h2a
  · rw [e15, c 235 11 (by decide +kernel)]; exact h2b
  · rw [e12, c 235 2 (by decide +kernel)]; exact h2c
  · rw [e13, c 235 3 (by decide +kernel)]; exact h2d
  · have := h3 t t0 t1
    unfold RTry at this ⊢
    have q1 : m' (2 + 2 * t) = m (2 + 2 * t) ∧ m' (3 + 2 * t) = m (3 + 2 * t) := by
      rcases (show t = 0 ∨ t = 1 ∨ t = 2 ∨ t = 3 by omega) with rfl | rfl | rfl | rfl <;> exact ⟨Fr_A hf (by decide +kernel), Fr_A hf (by decide +kernel)⟩
    rw [q1.1, q1.2, Fr_A hf (a := 236) (by decide +kernel), Fr_A hf (a := 237) (by decide +kernel), Fr_A hf (a := 238) (by decide +kernel)]
    exact this
  · unfold RTap at h4 ⊢
    rw [c 110 2 (by decide +kernel), c 235 8 (by decide +kernel), Fr_A hf (a := 111) (by decide +kernel), Fr_A hf (a := 239) (by decide +kernel)]
    exact h4
  · unfold RPln at h5 ⊢
    rw [c 235 42 (by decide +kernel), Fr_A hf (a := 152) (by decide +kernel), Fr_A hf (a := 153) (by decide +kernel), Fr_A hf (a := 154) (by decide +kernel), Fr_A hf (a := 253) (by decide +kernel), Fr_A hf (a := 254) (by decide +kernel), Fr_A hf (a := 255) (by decide +kernel)]
    refine ⟨h5.1, fun k k0 k1 => ?_⟩
    have q := h5.2 k k0 k1
    have hk : k < 4 := by
      rcases h5.1 with z | z <;> omega
    have q1 : m' (156 + k) = m (156 + k) := by
      rcases (show k = 0 ∨ k = 1 ∨ k = 2 ∨ k = 3 by omega) with rfl | rfl | rfl | rfl <;> exact Fr_A hf (by decide +kernel)
    rw [q1]
    exact q
  · unfold RLiv at h6 ⊢
    rw [c 235 44 (by decide +kernel), Fr_A hf (a := 146) (by decide +kernel), Fr_A hf (a := 257) (by decide +kernel)]
    exact h6
  · unfold RFst at h7 ⊢
    rw [c 235 32 (by decide +kernel), c 148 3 (by decide +kernel), Fr_A hf (a := 150) (by decide +kernel), Fr_A hf (a := 247) (by decide +kernel)]
    exact h7
  · unfold RPtr at h8 ⊢
    rw [e8, e9, e10, a162, a195]
    refine ⟨h8.1, h8.2.1, h8.2.2.1, h8.2.2.2.1, h8.2.2.2.2.1, h8.2.2.2.2.2.1, h8.2.2.2.2.2.2.1, fun x hx p p0 p1 => ?_⟩
    have nk : ∀ x ∈ ([19, 52, 85, 170, 203, 230] : List Int), nsA x = true := by decide +kernel
    rw [Fr_A hf (nk x hx)]
    exact h8.2.2.2.2.2.2.2 x hx p p0 p1
  · rw [e8]
    exact RSch_fr hf s5 h9
  · rw [e8, eS]
    exact RAge_fr hf a6 h10
  · unfold RMrk at h11 ⊢
    rw [e16, c 235 23 (by decide +kernel)]
    refine ⟨h11.1, fun i i0 i1 => ?_⟩
    obtain ⟨s5, -, a6⟩ := mrk_S5 i0 (by omega)
    obtain ⟨q1, q2⟩ := h11.2 i i0 i1
    rw [Fr_A hf (nsS _ s5)]
    exact ⟨RSch_fr hf s5 q1, RAge_fr hf a6 q2⟩
/-- a call that writes scratch alone, with STATUS alike, keeps the invariant -/
theorem Inv_fr {h h' : AM} (hI : Inv h) (hf : Fr h.1 h'.1) (hs : mrd h' 0 11 = mrd h' 235 0) (hS : Shp h') (hr : RSum h') (hc : h'.2.2.2.2 = h.2.2.2.2) : Inv h' := by
  obtain ⟨i1, i2, i3, i4, i5, i6, i7⟩ := hI
  obtain ⟨t1, t2⟩ := sc_of hc
  exact ⟨hS, Rel_fr hf i2, hs, hr, fun j => by rw [t1]; exact i5 j, by rw [t2]; exact i6, by rw [t2]; exact i7⟩
