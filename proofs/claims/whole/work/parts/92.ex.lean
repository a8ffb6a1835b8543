/-! what a call that changes something leaves alone -/
/-- objects and cells that may change; of the row of blocks (240) the cells below n, of the names (242) those below w -/
def Ex (ob : List Int) (ce : List (Int × Int)) (n w : Int) (a i : Int) : Prop := a ∈ ob ∨ (a, i) ∈ ce ∨ (a = 240 ∧ i < n) ∨ (a = 242 ∧ i < w)
def FrE (ob : List Int) (ce : List (Int × Int)) (n w : Int) (m m' : Int → Int → Int) : Prop := ∀ a i, ¬ Scr a i → ¬ Ex ob ce n w a i → m' a i = m a i
/-- object a is left alone -/
def okA (ob : List Int) (ce : List (Int × Int)) (a : Int) : Bool := nsA a && (!(ob.contains a) && (ce.all (fun q => !(q.1 == a)) && (!(a == 240) && !(a == 242))))
/-- cell (a, i) is left alone -/
def okC (ob : List Int) (ce : List (Int × Int)) (a i : Int) : Bool := (!(scrL.contains a) && (decide (a < 258) && !(scrF.contains (a, i)))) && (!(ob.contains a) && (!(ce.contains (a, i)) && (!(a == 240) && !(a == 242))))
section
variable {ob : List Int} {ce : List (Int × Int)} {n w : Int} {m m' : Int → Int → Int}
theorem FrE.A (hf : FrE ob ce n w m m') {a : Int} (h : okA ob ce a = true) : m' a = m a := by
  simp only [okA, Bool.and_eq_true, Bool.not_eq_true', List.all_eq_true, beq_eq_false_iff_ne] at h
  obtain ⟨h1, h2, h3, h4, h5⟩ := h
  refine funext fun i => hf a i (ns_A h1) ?_
  rintro (z | z | z | z)
  · have : ob.contains a = true := List.contains_iff_mem.mpr z
    rw [h2] at this; cases this
  · exact h3 _ z rfl
  · exact h4 z.1
  · exact h5 z.1
theorem FrE.C (hf : FrE ob ce n w m m') {a i : Int} (h : okC ob ce a i = true) : m' a i = m a i := by
  simp only [okC, Bool.and_eq_true, Bool.not_eq_true', decide_eq_true_eq, beq_eq_false_iff_ne] at h
  obtain ⟨⟨h1, h2, h3⟩, h4, h5, h6, h7⟩ := h
  refine hf a i ?_ ?_
  · rintro (z | z | z)
    · rw [List.contains_iff_mem.mpr z] at h1; cases h1
    · omega
    · rw [List.contains_iff_mem.mpr z] at h3; cases h3
  · rintro (z | z | z | z)
    · rw [List.contains_iff_mem.mpr z] at h4; cases h4
    · rw [List.contains_iff_mem.mpr z] at h5; cases h5
    · exact h6 z.1
    · exact h7 z.1
def okB (ob : List Int) (ce : List (Int × Int)) : Bool := !(ob.contains 240) && (ce.all (fun q => !(q.1 == 240)) && (!(ob.contains 242) && ce.all (fun q => !(q.1 == 242))))
theorem ns240 : nsA 240 = true := by decide +kernel
theorem ns242 : nsA 242 = true := by decide +kernel
theorem FrE.B (hf : FrE ob ce n w m m') (h : okB ob ce = true) : (∀ i, n ≤ i → m' 240 i = m 240 i) ∧ ∀ i, w ≤ i → m' 242 i = m 242 i := by
  simp only [okB, Bool.and_eq_true, Bool.not_eq_true', List.all_eq_true, beq_eq_false_iff_ne] at h
  obtain ⟨h1, h2, h3, h4⟩ := h
  constructor
  · intro i hi
    refine hf 240 i (ns_A ns240) ?_
    rintro (z | z | z | z)
    · rw [List.contains_iff_mem.mpr z] at h1; cases h1
    · exact h2 _ z rfl
    · omega
    · exact absurd z.1 (by decide)
  · intro i hi
    refine hf 242 i (ns_A ns242) ?_
    rintro (z | z | z | z)
    · rw [List.contains_iff_mem.mpr z] at h3; cases h3
    · exact h4 _ z rfl
    · exact absurd z.1 (by decide)
    · omega
theorem RLes_pt {s B v l : Int} (l0 : 0 ≤ l) (e0 : m' s = m s) (e1 : m' (s + 13 + l) = m (s + 13 + l)) (e4 : ∀ i, B ≤ i → m' 240 i = m 240 i) (e5 : ∀ i, v ≤ i → m' 242 i = m 242 i) (h : RLes m s B v l) : RLes m' s B v l := by
  unfold RLes at h ⊢
  rw [e1, e0, e4 (B + 4 + l) (by omega), e4 (B + 16 + l) (by omega), e4 (B + 28 + l) (by omega), e4 (B + 40 + l) (by omega), e4 (B + 52 + l) (by omega), e5 (v + 4 + l) (by omega)]
  exact h
theorem RChi_pt {s B v k : Int} (k0 : 0 ≤ k) (e0 : m' s = m s) (e1 : m' (s + 25 + 2 * k) = m (s + 25 + 2 * k)) (e2 : m' (s + 26 + 2 * k) = m (s + 26 + 2 * k)) (e4 : ∀ i, B ≤ i → m' 240 i = m 240 i) (e5 : ∀ i, v ≤ i → m' 242 i = m 242 i) (h : RChi m s B v k) : RChi m' s B v k := by
  unfold RChi at h ⊢
  rw [e1, e2, e0, e4 (B + 64 + k) (by omega), e4 (B + 68 + k) (by omega), e4 (B + 72 + k) (by omega), e4 (B + 76 + k) (by omega), e5 (v + 16 + k) (by omega)]
  obtain ⟨h1, h2, h3, h4, h5, h6, h7, h8⟩ := h
  refine ⟨h1, h2, h3, h4, h5, fun p p0 p1 => ?_, h7, h8⟩
  rw [e4 (B + 80 + 12 * k + p) (by omega)]
  exact h6 p p0 p1
theorem RSch_pt {s B v : Int} (e0 : m' s = m s) (e1 : ∀ l, 0 ≤ l → l < 12 → m' (s + 13 + l) = m (s + 13 + l)) (e2 : ∀ k, 0 ≤ k → k < 4 → m' (s + 25 + 2 * k) = m (s + 25 + 2 * k) ∧ m' (s + 26 + 2 * k) = m (s + 26 + 2 * k)) (e4 : ∀ i, B ≤ i → m' 240 i = m 240 i) (e5 : ∀ i, v ≤ i → m' 242 i = m 242 i) (h : RSch m s B v) : RSch m' s B v := by
  obtain ⟨h1, h2, h3, h4, h5, h6⟩ := h
  unfold RSch
  rw [e0, e4 (B + 0) (by omega), e4 (B + 1) (by omega), e4 (B + 2) (by omega), e4 (B + 3) (by omega)]
  refine ⟨h1, h2, h3, h4, fun l l0 l1 => ?_, fun k k0 k1 => ?_⟩
  · exact RLes_pt l0 e0 (e1 l l0 (by omega)) e4 e5 (h5 l l0 l1)
  · exact RChi_pt k0 e0 (e2 k k0 (by omega)).1 (e2 k k0 (by omega)).2 e4 e5 (h6 k k0 k1)
theorem RStp_pt {a B nc nl p : Int} (p0 : 0 ≤ p) (e0 : m' a = m a) (e1 : m' (a + 1) = m (a + 1)) (e2 : m' (a + 2) = m (a + 2)) (e3 : m' (a + 3) = m (a + 3)) (e4 : m' (a + 4) = m (a + 4)) (e5 : m' (a + 5) = m (a + 5)) (e6 : ∀ i, B + 128 ≤ i → m' 240 i = m 240 i) (h : RStp m a B nc nl p) : RStp m' a B nc nl p := by
  unfold RStp at h ⊢
  rw [e0, e1, e2, e3, e4, e5, e6 (B + 138 + 9 * p) (by omega), e6 (B + 130 + 9 * p) (by omega), e6 (B + 131 + 9 * p) (by omega), e6 (B + 132 + 9 * p) (by omega), e6 (B + 136 + 9 * p) (by omega), e6 (B + 137 + 9 * p) (by omega)]
  exact h
theorem RAge_pt {a B nc nl : Int} (e0 : m' a = m a) (e1 : m' (a + 1) = m (a + 1)) (e2 : m' (a + 2) = m (a + 2)) (e3 : m' (a + 3) = m (a + 3)) (e4 : m' (a + 4) = m (a + 4)) (e5 : m' (a + 5) = m (a + 5)) (e6 : ∀ i, B + 128 ≤ i → m' 240 i = m 240 i) (h : RAge m a B nc nl) : RAge m' a B nc nl := by
  obtain ⟨h1, h2, h3⟩ := h
  unfold RAge
  rw [e0, e5, e6 (B + 128) (by omega), e6 (B + 129) (by omega)]
  refine ⟨h1, h2, fun h => ?_⟩
  obtain ⟨g1, g2, g3, g4⟩ := h3 h
  exact ⟨g1, fun p p0 p1 => RStp_pt p0 e0 e1 e2 e3 e4 e5 e6 (g2 p p0 p1), g3, g4⟩
theorem RRef_E (hf : FrE ob ce n w m m') (h : refT.all (fun q => okC ob ce q.1 q.2.1) = true) (hr : RRef m) : RRef m' := fun q hq => (hf.C (List.all_eq_true.mp h q hq)).trans (hr q hq)
def RNum (m : Int → Int → Int) : Prop := m 0 14 = m 235 10 ∧ m 0 15 = m 235 11 ∧ m 0 12 = m 235 2 ∧ m 0 13 = m 235 3
theorem RNum_E (hf : FrE ob ce n w m m') (h : ([(0, 14), (235, 10), (0, 15), (235, 11), (0, 12), (235, 2), (0, 13), (235, 3)] : List (Int × Int)).all (fun q => okC ob ce q.1 q.2) = true) (hr : RNum m) : RNum m' := by
  have c := fun a i h' => hf.C (a := a) (i := i) (List.all_eq_true.mp h (a, i) h')
  unfold RNum at hr ⊢
  rw [c 0 14 (by decide), c 235 10 (by decide), c 0 15 (by decide), c 235 11 (by decide), c 0 12 (by decide), c 235 2 (by decide), c 0 13 (by decide), c 235 3 (by decide)]
  exact hr
theorem RTry_of {t : Int} (e1 : m' (2 + 2 * t) = m (2 + 2 * t)) (e2 : m' (3 + 2 * t) = m (3 + 2 * t)) (e3 : m' 236 t = m 236 t) (e4 : m' 237 t = m 237 t) (e5 : ∀ p, 0 ≤ p → p < 60 → m' 238 (60 * t + p) = m 238 (60 * t + p)) (h : RTry m t) : RTry m' t := by
  unfold RTry at h ⊢
  rw [e1, e2, e3, e4]
  rcases h with h | ⟨h1, h2, h3, h4⟩
  · exact Or.inl h
  · exact Or.inr ⟨h1, h2, h3, fun p p0 p1 => by rw [e5 p p0 (by omega)]; exact h4 p p0 p1⟩
theorem RTrys_E (hf : FrE ob ce n w m m') (h : ([2, 3, 4, 5, 6, 7, 8, 9, 236, 237, 238] : List Int).all (okA ob ce) = true) (hr : ∀ t, 0 ≤ t → t < 4 → RTry m t) : ∀ t, 0 ≤ t → t < 4 → RTry m' t := by
  have c := fun a h' => hf.A (a := a) (List.all_eq_true.mp h a h')
  intro t t0 t1
  have q1 : m' (2 + 2 * t) = m (2 + 2 * t) ∧ m' (3 + 2 * t) = m (3 + 2 * t) := by
    rcases (show t = 0 ∨ t = 1 ∨ t = 2 ∨ t = 3 by omega) with rfl | rfl | rfl | rfl <;> exact ⟨c _ (by decide), c _ (by decide)⟩
  exact RTry_of q1.1 q1.2 (by rw [c 236 (by decide)]) (by rw [c 237 (by decide)]) (fun p _ _ => by rw [c 238 (by decide)]) (hr t t0 t1)
theorem RTap_E (hf : FrE ob ce n w m m') (h : (okC ob ce 110 2 && (okC ob ce 235 8 && (okA ob ce 111 && okA ob ce 239))) = true) (hr : RTap m) : RTap m' := by
  simp only [Bool.and_eq_true] at h
  obtain ⟨h1, h2, h3, h4⟩ := h
  unfold RTap at hr ⊢
  rw [hf.C h1, hf.C h2, hf.A h3, hf.A h4]
  exact hr
theorem RPln_E (hf : FrE ob ce n w m m') (h : (okC ob ce 235 42 && ([152, 153, 154, 156, 157, 158, 159, 253, 254, 255] : List Int).all (okA ob ce)) = true) (hr : RPln m) : RPln m' := by
  simp only [Bool.and_eq_true] at h
  have c := fun a h' => hf.A (a := a) (List.all_eq_true.mp h.2 a h')
  unfold RPln at hr ⊢
  rw [hf.C h.1, c 152 (by decide), c 153 (by decide), c 154 (by decide), c 253 (by decide), c 254 (by decide), c 255 (by decide)]
  refine ⟨hr.1, fun k k0 k1 => ?_⟩
  have q := hr.2 k k0 k1
  have hk : k < 4 := by rcases hr.1 with z | z <;> omega
  have q1 : m' (156 + k) = m (156 + k) := by
    rcases (show k = 0 ∨ k = 1 ∨ k = 2 ∨ k = 3 by omega) with rfl | rfl | rfl | rfl <;> exact c _ (by decide)
  rw [q1]
  exact q
theorem RLiv_E (hf : FrE ob ce n w m m') (h : (okC ob ce 235 44 && (okA ob ce 146 && okA ob ce 257)) = true) (hr : RLiv m) : RLiv m' := by
  simp only [Bool.and_eq_true] at h
  unfold RLiv at hr ⊢
  rw [hf.C h.1, hf.A h.2.1, hf.A h.2.2]
  exact hr
theorem RFst_E (hf : FrE ob ce n w m m') (h : (okC ob ce 235 32 && (okC ob ce 148 3 && (okA ob ce 150 && okA ob ce 247))) = true) (hr : RFst m) : RFst m' := by
  simp only [Bool.and_eq_true] at h
  unfold RFst at hr ⊢
  rw [hf.C h.1, hf.C h.2.1, hf.A h.2.2.1, hf.A h.2.2.2]
  exact hr
theorem RPtr_Ek (hf : FrE ob ce n w m m') (h : ([(0, 8), (0, 9), (0, 10), (162, 4), (195, 4)] : List (Int × Int)).all (fun q => okC ob ce q.1 q.2) = true) (hk : RKid m') (hr : RPtr m) : RPtr m' := by
  have c := fun a i h' => hf.C (a := a) (i := i) (List.all_eq_true.mp h (a, i) h')
  unfold RPtr at hr ⊢
  rw [c 0 8 (by decide), c 0 9 (by decide), c 0 10 (by decide), c 162 4 (by decide), c 195 4 (by decide)]
  exact ⟨hr.1, hr.2.1, hr.2.2.1, hr.2.2.2.1, hr.2.2.2.2.1, hr.2.2.2.2.2.1, hr.2.2.2.2.2.2.1, hk⟩
theorem RPtr_E (hf : FrE ob ce n w m m') (h : (([(0, 8), (0, 9), (0, 10), (162, 4), (195, 4)] : List (Int × Int)).all (fun q => okC ob ce q.1 q.2) && ([19, 52, 85, 170, 203, 230] : List Int).all (okA ob ce)) = true) (hr : RPtr m) : RPtr m' := by
  simp only [Bool.and_eq_true] at h
  refine RPtr_Ek hf h.1 (fun x hx p p0 p1 => ?_) hr
  rw [hf.A (List.all_eq_true.mp h.2 x hx)]
  exact hr.2.2.2.2.2.2.2 x hx p p0 p1
/-- all objects of a school -/
def scO (s : Int) : List Int := s :: ((List.range 12).map (fun l => s + 13 + ((l : Nat) : Int)) ++ ((List.range 4).map (fun k => s + 25 + 2 * ((k : Nat) : Int)) ++ (List.range 4).map (fun k => s + 26 + 2 * ((k : Nat) : Int))))
def agO (a : Int) : List Int := [a, a + 1, a + 2, a + 3, a + 4, a + 5]
theorem scO_l {s l : Int} (h0 : 0 ≤ l) (h1 : l < 12) : s + 13 + l ∈ scO s := by
  refine List.mem_cons_of_mem _ (List.mem_append_left _ (List.mem_map.mpr ⟨l.toNat, List.mem_range.mpr (by omega), by rw [Int.toNat_of_nonneg h0]⟩))
theorem scO_c {s k : Int} (h0 : 0 ≤ k) (h1 : k < 4) : s + 25 + 2 * k ∈ scO s ∧ s + 26 + 2 * k ∈ scO s := by
  constructor
  · exact List.mem_cons_of_mem _ (List.mem_append_right _ (List.mem_append_left _ (List.mem_map.mpr ⟨k.toNat, List.mem_range.mpr (by omega), by rw [Int.toNat_of_nonneg h0]⟩)))
  · exact List.mem_cons_of_mem _ (List.mem_append_right _ (List.mem_append_right _ (List.mem_map.mpr ⟨k.toNat, List.mem_range.mpr (by omega), by rw [Int.toNat_of_nonneg h0]⟩)))
theorem RSch_E (hf : FrE ob ce n w m m') {s B v : Int} (h : (scO s).all (okA ob ce) = true) (hb : okB ob ce = true) (hB : n ≤ B) (hv : w ≤ v) (hr : RSch m s B v) : RSch m' s B v := by
  have c := fun a h' => hf.A (a := a) (List.all_eq_true.mp h a h')
  obtain ⟨b1, b2⟩ := hf.B hb
  exact RSch_pt (c s (List.mem_cons_self ..)) (fun l l0 l1 => c _ (scO_l l0 l1)) (fun k k0 k1 => ⟨c _ (scO_c k0 k1).1, c _ (scO_c k0 k1).2⟩) (fun i hi => b1 i (by omega)) (fun i hi => b2 i (by omega)) hr
theorem RAge_E (hf : FrE ob ce n w m m') {a B nc nl : Int} (h : (agO a).all (okA ob ce) = true) (hb : okB ob ce = true) (hB : n ≤ B + 128) (hr : RAge m a B nc nl) : RAge m' a B nc nl := by
  have c := fun a h' => hf.A (a := a) (List.all_eq_true.mp h a h')
  obtain ⟨b1, -⟩ := hf.B hb
  exact RAge_pt (c _ (by simp [agO])) (c _ (by simp [agO])) (c _ (by simp [agO])) (c _ (by simp [agO])) (c _ (by simp [agO])) (c _ (by simp [agO])) (fun i hi => b1 i (by omega)) hr
theorem RMrk_E (hf : FrE ob ce n w m m') (h : (okC ob ce 0 16 && (okC ob ce 235 23 && (okB ob ce && ([0, 1, 2] : List Int).all (fun i => (scO (11 + 33 * i)).all (okA ob ce) && (agO (17 + 33 * i)).all (okA ob ce))))) = true) (hn : n ≤ 410) (hw : w ≤ 20) (hr : RMrk m) : RMrk m' := by
  simp only [Bool.and_eq_true] at h
  obtain ⟨h1, h2, h3, h4⟩ := h
  unfold RMrk at hr ⊢
  rw [hf.C h1, hf.C h2]
  refine ⟨hr.1, fun i i0 i1 => ?_⟩
  have hm : i ∈ ([0, 1, 2] : List Int) := by
    rcases (show i = 0 ∨ i = 1 ∨ i = 2 by omega) with rfl | rfl | rfl <;> decide
  have q := List.all_eq_true.mp h4 i hm
  simp only [Bool.and_eq_true] at q
  obtain ⟨g1, g2⟩ := hr.2 i i0 i1
  have e : m' (11 + 33 * i) = m (11 + 33 * i) := hf.A (List.all_eq_true.mp q.1 _ (List.mem_cons_self ..))
  rw [e]
  exact ⟨RSch_E hf q.1 h3 (by omega) (by omega) g1, RAge_E hf q.2 h3 (by omega) g2⟩
/-- the school and its age, when neither changes -/
def RCur (m : Int → Int → Int) : Prop := RSch m (m 0 8) 0 0 ∧ RAge m (m (m 0 8) 4) 0 (m (m 0 8) 7) (m (m 0 8) 6)
theorem RCur_E (hf : FrE ob ce n w m m') (h : (okC ob ce 0 8 && (okB ob ce && (([162, 195] : List Int).all (fun s => (scO s).all (okA ob ce)) && ([168, 201, 228] : List Int).all (fun a => (agO a).all (okA ob ce))))) = true) (hn : n ≤ 0) (hw : w ≤ 0) (hp : RPtr m) (hr : RCur m) : RCur m' := by
  simp only [Bool.and_eq_true] at h
  obtain ⟨h1, h2, h3, h4⟩ := h
  have hs : m 0 8 ∈ ([162, 195] : List Int) := by
    rcases hp.1 with z | z <;> rw [z.1] <;> decide
  have ha : m (m 0 8) 4 ∈ ([168, 201, 228] : List Int) := by
    rcases hp.1 with z | z <;> rw [z.1]
    · rcases hp.2.1 with z | z | z <;> rw [z] <;> decide
    · rcases hp.2.2.1 with z | z | z <;> rw [z] <;> decide
  have q := List.all_eq_true.mp h3 _ hs
  have e : m' (m 0 8) = m (m 0 8) := hf.A (List.all_eq_true.mp q _ (List.mem_cons_self ..))
  unfold RCur at hr ⊢
  rw [hf.C h1, e]
  exact ⟨RSch_E hf q h2 hn hw hr.1, RAge_E hf (List.all_eq_true.mp h4 _ ha) h2 (by omega) hr.2⟩
end
theorem Rel_mk {m : Int → Int → Int} (h1 : RRef m) (h2 : RNum m) (h3 : ∀ t, 0 ≤ t → t < 4 → RTry m t) (h4 : RTap m) (h5 : RPln m) (h6 : RLiv m) (h7 : RFst m) (h8 : RPtr m) (h9 : RCur m) (h10 : RMrk m) : Rel m := ⟨h1, h2, h3, h4, h5, h6, h7, h8, h9, h10⟩
theorem Inv_mk {h h' : AM} (hI : Inv h) (hR : Rel h'.1) (hs : mrd h' 0 11 = mrd h' 235 0) (hS : Shp h') (hr : RSum h') (hc : h'.2.2.2.2 = h.2.2.2.2) : Inv h' := by
  obtain ⟨i1, i2, i3, i4, i5, i6, i7⟩ := hI
  obtain ⟨t1, t2⟩ := sc_of hc
  exact ⟨hS, hR, hs, hr, fun j => by rw [t1]; exact i5 j, by rw [t2]; exact i6, by rw [t2]; exact i7⟩
theorem FrE_wr {ob : List Int} {ce : List (Int × Int)} {n w : Int} {m : Int → Int → Int} {h : AM} {a i v : Int} (hs : Scr a i ∨ Ex ob ce n w a i) (hf : FrE ob ce n w m h.1) : FrE ob ce n w m (mwr h a i v).1 := fun b j hb hx => by
  show (if b = a ∧ j = i then v else h.1 b j) = _
  rw [if_neg]
  · exact hf b j hb hx
  · rintro ⟨rfl, rfl⟩
    rcases hs with z | z
    · exact hb z
    · exact hx z
theorem FrE.rf {ob : List Int} {ce : List (Int × Int)} {n w : Int} {m : Int → Int → Int} : FrE ob ce n w m m := fun _ _ _ _ => rfl
theorem FrE.trans {ob : List Int} {ce : List (Int × Int)} {n w : Int} {m m' m'' : Int → Int → Int} (h1 : FrE ob ce n w m m') (h2 : FrE ob ce n w m' m'') : FrE ob ce n w m m'' := fun a i hs hx => (h2 a i hs hx).trans (h1 a i hs hx)
