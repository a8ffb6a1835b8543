/-! what changes of a child: learn, lose, rest, pay -/
theorem rn_240 : refT.all (fun q => !(q.1 == 240)) = true := by decide +kernel
theorem kb_iff {f : Int → Int} : ∀ (n : Nat), (∀ j : Nat, j < n → 0 ≤ f j ∧ f j < 32) → ∀ i : Nat, (bI (kb f n) i = true ↔ ∃ j : Nat, j < n ∧ f j = (i : Int))
  | 0, _, i => by
    rw [kb, bI_0]
    constructor
    · intro z; cases z
    · rintro ⟨j, h1, -⟩; omega
  | n + 1, hf, i => by
    rw [kb, bI_or, Bool.or_eq_true, kb_iff n (fun j hj => hf j (by omega)) i, bI_shl (hf n (by omega)).1 (hf n (by omega)).2, decide_eq_true_iff]
    constructor
    · rintro (⟨j, h1, h2⟩ | h)
      · exact ⟨j, by omega, h2⟩
      · exact ⟨n, by omega, h.symm⟩
    · rintro ⟨j, h1, h2⟩
      by_cases c : j = n
      · subst c; exact Or.inr h2.symm
      · exact Or.inl ⟨j, by omega, h2⟩
theorem i_or_comm (a b : Int) : i_or a b = i_or b a := bI_ext (in_or _ _) (in_or _ _) (fun i _ => by rw [bI_or, bI_or, Bool.or_comm])
theorem cB_kb {f : Int → Int} : ∀ n : Nat, (∀ j : Nat, j < n → 0 ≤ f j ∧ f j < 12) → (∀ i j : Nat, i < j → j < n → f i ≠ f j) → cB (kb f n) 12 = n
  | 0, _, _ => by rw [kb]; decide +kernel
  | n + 1, hf, hd => by
    have h1 := hf n (by omega)
    obtain ⟨l, hl⟩ := Int.eq_ofNat_of_zero_le h1.1
    have hb : bI (kb f n) l = false := by
      cases e : bI (kb f n) l with
      | false => rfl
      | true =>
        obtain ⟨j, j1, j2⟩ := (kb_iff n (fun j hj => ⟨(hf j (by omega)).1, by have := (hf j (by omega)).2; omega⟩) l).mp e
        exact absurd (j2.trans hl.symm) (hd j n j1 (by omega))
    rw [kb, i_or_comm, hl, cB_one (by omega) hb, cB_kb n (fun j hj => hf j (by omega)) (fun i j h1 h2 => hd i j h1 (by omega)), if_pos (by omega)]
    omega
theorem cB_lt {x : Int} {l : Nat} (hb : bI x l = false) : ∀ n, l < n → cB x n < n
  | 0, h => by omega
  | n + 1, h => by
    rw [cB]
    have r := cB_rng x n
    by_cases c : l = n
    · subst c
      rw [hb, if_neg (by decide)]
      omega
    · have := cB_lt hb n (by omega)
      split <;> omega
theorem len_lt {f : Int → Int} {n : Nat} {l : Int} (hf : ∀ j : Nat, j < n → 0 ≤ f j ∧ f j < 12) (hd : ∀ i j : Nat, i < j → j < n → f i ≠ f j) (l0 : 0 ≤ l) (l1 : l < 12) (hb : bI (kb f n) l.toNat = false) : n < 12 := by
  have h1 := cB_kb n hf hd
  have h2 := cB_lt hb 12 (by omega)
  omega
/-- m' is m but for child k of the school at s (and of block 0), and but for Z -/
def FrK (Z : Int → Int → Prop) (s k : Int) (m m' : Int → Int → Int) : Prop := ∀ a i, ¬ Z a i → ¬ (a = s + 25 + 2 * k ∧ 3 ≤ i ∧ i ≤ 6) → a ≠ s + 26 + 2 * k → ¬ (a = 240 ∧ (i = 68 + k ∨ i = 72 + k ∨ i = 76 + k ∨ (80 + 12 * k ≤ i ∧ i < 92 + 12 * k))) → m' a i = m a i
/-- Z lies outside the school at s -/
def ZS (Z : Int → Int → Prop) (s : Int) : Prop := ∀ a i, (a = s ∨ (s + 13 ≤ a ∧ a ≤ s + 32) ∨ a = 240 ∨ a = 242) → ¬ Z a i
theorem RSch_K {Z : Int → Int → Prop} {m m' : Int → Int → Int} {s k : Int} (s0 : 11 ≤ s) (s1 : s ≤ 195) (hz : ZS Z s) (hf : FrK Z s k m m') (k0 : 0 ≤ k) (k1 : k < m s 7) (hR : RSch m s 0 0) (hk : RChi m' s 0 0 k) : RSch m' s 0 0 := by
  obtain ⟨h5, h6, h7, h8, hl, hc⟩ := hR
  have e0 : m' s = m s := funext fun i => hf s i (hz s i (by omega)) (by omega) (by omega) (by omega)
  have e4 : ∀ i, 0 ≤ i → i < 68 → m' 240 i = m 240 i := fun i i0 i1 => hf 240 i (hz 240 i (by omega)) (by omega) (by omega) (by omega)
  have e2 : m' 242 = m 242 := funext fun i => hf 242 i (hz 242 i (by omega)) (by omega) (by omega) (by omega)
  unfold RSch
  rw [e0, e4 (0 + 0) (by omega) (by omega), e4 (0 + 1) (by omega) (by omega), e4 (0 + 2) (by omega) (by omega), e4 (0 + 3) (by omega) (by omega)]
  refine ⟨h5, h6, h7, h8, fun l l0 l1 => ?_, fun j j0 j1 => ?_⟩
  · have := hl l l0 l1
    unfold RLes at this ⊢
    have eo : m' (s + 13 + l) = m (s + 13 + l) := funext fun i => hf _ i (hz _ i (by omega)) (by omega) (by omega) (by omega)
    rw [eo, e0, e2, e4 (0 + 4 + l) (by omega) (by omega), e4 (0 + 16 + l) (by omega) (by omega), e4 (0 + 28 + l) (by omega) (by omega), e4 (0 + 40 + l) (by omega) (by omega), e4 (0 + 52 + l) (by omega) (by omega)]
    exact this
  · by_cases c : j = k
    · subst c; exact hk
    · have := hc j j0 j1
      unfold RChi at this ⊢
      have eo : m' (s + 25 + 2 * j) = m (s + 25 + 2 * j) := funext fun i => hf _ i (hz _ i (by omega)) (by omega) (by omega) (by omega)
      have ea : m' (s + 26 + 2 * j) = m (s + 26 + 2 * j) := funext fun i => hf _ i (hz _ i (by omega)) (by omega) (by omega) (by omega)
      have ei : ∀ i, ¬ (i = 68 + k ∨ i = 72 + k ∨ i = 76 + k ∨ (80 + 12 * k ≤ i ∧ i < 92 + 12 * k)) → m' 240 i = m 240 i := fun i hi => hf 240 i (hz 240 i (by omega)) (by omega) (by omega) (fun z => hi z.2)
      rw [eo, ea, e0, e2, ei (0 + 64 + j) (by omega), ei (0 + 68 + j) (by omega), ei (0 + 72 + j) (by omega), ei (0 + 76 + j) (by omega)]
      obtain ⟨g1, g2, g3, g4, g5, g6, g7, g8⟩ := this
      refine ⟨g1, g2, g3, g4, g5, fun p p0 p1 => ?_, g7, g8⟩
      rw [ei (0 + 80 + 12 * j + p) (by omega)]
      exact g6 p p0 p1
theorem RAge_K {Z : Int → Int → Prop} {m m' : Int → Int → Int} {s k a nc nl : Int} (hs : s = 162 ∨ s = 195 ∨ s = 113) (ha : a = 168 ∨ a = 201 ∨ a = 228 ∨ a = 119) (hz : ∀ b i, (a ≤ b ∧ b ≤ a + 5) ∨ b = 240 → ¬ Z b i) (hf : FrK Z s k m m') (k0 : 0 ≤ k) (k1 : k < 4) (hR : RAge m a 0 nc nl) : RAge m' a 0 nc nl := by
  have e : ∀ b, a ≤ b → b ≤ a + 5 → m' b = m b := fun b h0 h1 => funext fun i => hf b i (hz b i (by omega)) (by omega) (by omega) (by omega)
  exact RAge_pt (e a (by omega) (by omega)) (e _ (by omega) (by omega)) (e _ (by omega) (by omega)) (e _ (by omega) (by omega)) (e _ (by omega) (by omega)) (e _ (by omega) (by omega)) (fun i hi => hf 240 i (hz 240 i (by omega)) (by omega) (by omega) (by omega)) hR
def chO : List Int := [188, 190, 192, 194, 221, 223, 225, 227]
def chC : List (Int × Int) := [(187, 3), (187, 4), (187, 5), (187, 6), (189, 3), (189, 4), (189, 5), (189, 6), (191, 3), (191, 4), (191, 5), (191, 6), (193, 3), (193, 4), (193, 5), (193, 6), (220, 3), (220, 4), (220, 5), (220, 6), (222, 3), (222, 4), (222, 5), (222, 6), (224, 3), (224, 4), (224, 5), (224, 6), (226, 3), (226, 4), (226, 5), (226, 6)]
theorem Rel_chi {m m' : Int → Int → Int} (hf : FrE chO chC 128 0 m m') (h : Rel m) (hs : RSch m' (m 0 8) 0 0) : Rel m' := by
  obtain ⟨h1, h2, h3, h4, h5, h6, h7, h8, h9, h10⟩ := h
  have hp := id h8
  have e8 : m' 0 8 = m 0 8 := hf.C (by decide +kernel)
  have ss : m 0 8 ∈ ([162, 195] : List Int) := by
    rcases hp.1 with z | z <;> rw [z.1] <;> decide
  have ha : m (m 0 8) 4 ∈ ([168, 201, 228] : List Int) := by
    rcases hp.1 with z | z <;> rw [z.1]
    · rcases hp.2.1 with z | z | z <;> rw [z] <;> decide
    · rcases hp.2.2.1 with z | z | z <;> rw [z] <;> decide
  have q1 : ([162, 195] : List Int).all (okA chO chC) = true := by decide +kernel
  have q2 : ([168, 201, 228] : List Int).all (fun a => (agO a).all (okA chO chC)) = true := by decide +kernel
  have es : m' (m 0 8) = m (m 0 8) := hf.A (List.all_eq_true.mp q1 _ ss)
  have h9' : RCur m' := by
    unfold RCur
    rw [e8, es]
    exact ⟨hs, RAge_E hf (List.all_eq_true.mp q2 _ ha) (by decide +kernel) (by decide) h9.2⟩
  exact Rel_mk (RRef_E hf (by decide +kernel) h1) (RNum_E hf (by decide +kernel) h2) (RTrys_E hf (by decide +kernel) h3) (RTap_E hf (by decide +kernel) h4) (RPln_E hf (by decide +kernel) h5) (RLiv_E hf (by decide +kernel) h6) (RFst_E hf (by decide +kernel) h7) (RPtr_E hf (by decide +kernel) h8) h9' (RMrk_E hf (by decide +kernel) (by decide) (by decide) h10)
theorem ZS_Scr {s : Int} (hs : s = 162 ∨ s = 195) : ZS Scr s := by
  have q1 : ∀ a ∈ scrL, ∀ s ∈ ([162, 195] : List Int), ¬ (a = s ∨ (s + 13 ≤ a ∧ a ≤ s + 32) ∨ a = 240 ∨ a = 242) := by decide +kernel
  have q2 : ∀ q ∈ scrF, ∀ s ∈ ([162, 195] : List Int), ¬ (q.1 = s ∨ (s + 13 ≤ q.1 ∧ q.1 ≤ s + 32) ∨ q.1 = 240 ∨ q.1 = 242) := by decide +kernel
  have ss : s ∈ ([162, 195] : List Int) := by rcases hs with rfl | rfl <;> decide
  rintro a i ha (z | z | z)
  · exact q1 a z s ss ha
  · omega
  · exact q2 _ z s ss ha
theorem chi_ex {s k : Int} (hs : s = 162 ∨ s = 195) (k0 : 0 ≤ k) (k1 : k < 4) : (∀ i, 3 ≤ i → i ≤ 6 → (s + 25 + 2 * k, i) ∈ chC) ∧ s + 26 + 2 * k ∈ chO := by
  have q : ∀ s ∈ ([162, 195] : List Int), ∀ k ∈ ([0, 1, 2, 3] : List Int), (∀ i ∈ ([3, 4, 5, 6] : List Int), (s + 25 + 2 * k, i) ∈ chC) ∧ s + 26 + 2 * k ∈ chO := by decide +kernel
  have ss : s ∈ ([162, 195] : List Int) := by rcases hs with rfl | rfl <;> decide
  have kk : k ∈ ([0, 1, 2, 3] : List Int) := by rcases (show k = 0 ∨ k = 1 ∨ k = 2 ∨ k = 3 by omega) with rfl | rfl | rfl | rfl <;> decide
  refine ⟨fun i i0 i1 => (q s ss k kk).1 i ?_, (q s ss k kk).2⟩
  rcases (show i = 3 ∨ i = 4 ∨ i = 5 ∨ i = 6 by omega) with rfl | rfl | rfl | rfl <;> decide
/-- a call that changes child k alone -/
theorem Inv_K {h h2 : AM} {s k : Int} (hI : Inv h) (e8 : mrd h 0 8 = s) (hs : s = 162 ∨ s = 195) (k0 : 0 ≤ k) (k1 : k < mrd h s 7) (hf : FrK Scr s k h.1 h2.1) (hk : RChi h2.1 s 0 0 k) (hst : mrd h2 0 11 = mrd h2 235 0) (h22 : h2.2 = h.2) (h5 : mrd h2 148 5 = mrd h 148 5) : Inv h2 := by
  have hR : RSch h.1 s 0 0 := by rw [← e8]; exact hI.2.1.2.2.2.2.2.2.2.2.1.1
  have k4 : k < 4 := by have := hR.2.2.1.2.2; exact Int.lt_of_lt_of_le k1 this
  obtain ⟨c1, c2⟩ := chi_ex hs k0 k4
  have hR' : RSch h2.1 s 0 0 := RSch_K (by omega) (by omega) (ZS_Scr hs) hf k0 k1 hR hk
  refine Inv_mk hI (Rel_chi (m := h.1) (fun a i hx hy => hf a i hx (fun z => hy ?_) (fun z => hy ?_) (fun z => hy ?_)) hI.2.1 (by rw [show h.1 0 8 = s from e8]; exact hR')) hst ?_ (RSum_eq h22 h5 hI.2.2.2.1) (by rw [h22])
  · rw [z.1]; exact Or.inr (Or.inl (c1 i z.2.1 z.2.2))
  · rw [z]; exact Or.inl c2
  · exact Or.inr (Or.inr (Or.inl ⟨z.1, by omega⟩))
  · have hS := hI.1
    unfold Shp mnx at hS ⊢
    rw [h22]; exact hS
theorem CS_wr {h : AM} {s a i v : Int} (hs : CS h s) (h1 : a ≠ s) (h2 : a ≠ s + 2) (h3 : a ≠ s + 3) (h4 : ¬ (a = s + 4 ∧ i = 0)) (h5 : ∀ k, 0 ≤ k → k < 4 → ¬ (a = s + 25 + 2 * k ∧ i = 0)) : CS (mwr h a i v) s := by
  obtain ⟨a0, a1, a2, a3, a4, a5, a6, a7, a8, a9, a10, a11, a12⟩ := hs
  refine ⟨a0, ?_, ?_, ?_, ?_, ?_, a6, a7, a8, a9, a10, fun l l0 l1 => ?_, fun k k0 k1 => ?_⟩
  · rw [rdn1 (Ne.symm h1)]; exact a1
  · rw [rdn1 (Ne.symm h1)]; exact a2
  · rw [rdn1 (Ne.symm h1)]; exact a3
  · rw [rdn1 (Ne.symm h1)]; exact a4
  · rw [rd_wr, if_neg (fun z => h4 ⟨z.1.symm, z.2.symm⟩)]; exact a5
  · obtain ⟨b1, b2, b3⟩ := a11 l l0 l1
    exact ⟨b1, by rw [rdn1 (Ne.symm h2)]; exact b2, b3⟩
  · obtain ⟨b1, b2, b3, b4, b5, b6⟩ := a12 k k0 k1
    exact ⟨b1, by rw [rdn1 (Ne.symm h3)]; exact b2, b3, by rw [rd_wr, if_neg (fun z => h5 k k0 k1 ⟨z.1.symm, z.2.symm⟩)]; exact b4, b5, b6⟩
/-- days that a lesson takes of so many, with a gift -/
def dyF (a b : Int) : Int := if a - b < 1 then 1 else a - b
theorem dyF_rng {a b : Int} (h1 : 1 ≤ a ∧ a ≤ 30) (h2 : 0 ≤ b ∧ b ≤ 9) : 1 ≤ dyF a b ∧ dyF a b ≤ 30 := by unfold dyF; split <;> omega
/-- learning, on the two sides -/
def TE (h : AM) (s k l : Int) : AM := mwr (mwr (mwr (mwr (mwr h (s + 26 + 2 * k) (mrd h (s + 25 + 2 * k) 6) l) (s + 25 + 2 * k) 6 (mrd h (s + 25 + 2 * k) 6 + 1)) (s + 25 + 2 * k) 5 (i_or (mrd h (s + 25 + 2 * k) 5) (i_shl 1 l))) (s + 25 + 2 * k) 4 (w32 (mrd h (s + 25 + 2 * k) 4 + dyF (mrd h (s + 13 + l) 3) (mrd h (s + 25 + 2 * k) 2)))) (s + 25 + 2 * k) 3 (w32 (mrd h (s + 25 + 2 * k) 3 - mrd h (s + 13 + l) 4))
def TM (g : AM) (k l : Int) : AM := mwr (mwr (mwr (mwr g 240 (80 + 12 * k + mrd g 240 (76 + k)) l) 240 (76 + k) (mrd g 240 (76 + k) + 1)) 240 (72 + k) (w32 (mrd g 240 (72 + k) + dyF (mrd g 240 (16 + l)) (mrd g 240 (64 + k))))) 240 (68 + k) (w32 (mrd g 240 (68 + k) - mrd g 240 (28 + l)))
section
variable {d : Nat} {h g : AM} {s a b c k l p v w x y z : Int}
theorem x_teach (hs : CS h s) (k0 : 0 ≤ k) (k1 : k < 4) (l0 : 0 ≤ l) (l1 : l < 12) (n0 : 0 ≤ mrd h (s + 25 + 2 * k) 6) (n1 : mrd h (s + 25 + 2 * k) 6 < 12) (b1 : 1 ≤ mrd h (s + 13 + l) 3 ∧ mrd h (s + 13 + l) 3 ≤ 30) (b2 : 0 ≤ mrd h (s + 25 + 2 * k) 2 ∧ mrd h (s + 25 + 2 * k) 2 ≤ 9) : EV (d + 1) 72 0 [(2, s), (2, s + 25 + 2 * k), (0, l)] [] h = some ((3, 0), TE h s k l) := by
  obtain ⟨ks, -, r1, r2, r3, r4, -, -, k7, k8, k9, kl, kc⟩ := id hs
  obtain ⟨q1, q2, q3, q4, q5, q6⟩ := kc k k0 k1
  obtain ⟨t1, t2, t3⟩ := kl _ l0 l1
  have i1 : inA h (s + 26 + 2 * k) 16 (mrd h (s + 25 + 2 * k) 6) := ⟨q5, n0, by rw [q6]; exact n1⟩
  have w1 : w32 (mrd h (s + 25 + 2 * k) 6 + 1) = mrd h (s + 25 + 2 * k) 6 + 1 := w32_id (by omega) (by omega)
  have nAC : (s + 25 + 2 * k = s + 26 + 2 * k) = False := eq_false (by omega)
  have nOC : (s + 13 + l = s + 25 + 2 * k) = False := eq_false (by omega)
  have nOA : (s + 13 + l = s + 26 + 2 * k) = False := eq_false (by omega)
  have nsC : (s = s + 25 + 2 * k) = False := eq_false (by omega)
  have nsA : (s = s + 26 + 2 * k) = False := eq_false (by omega)
  have n2C : (s + 2 = s + 25 + 2 * k) = False := eq_false (by omega)
  have n2A : (s + 2 = s + 26 + 2 * k) = False := eq_false (by omega)
  have gd : ∀ v1 v2, EV d 70 0 [(2, s), (2, s + 25 + 2 * k), (0, l), (3, 0)] [] (mwr (mwr (mwr h (s + 26 + 2 * k) (mrd h (s + 25 + 2 * k) 6) l) (s + 25 + 2 * k) 6 v1) (s + 25 + 2 * k) 5 v2) = some ((0, dyF (mrd h (s + 13 + l) 3) (mrd h (s + 25 + 2 * k) 2)), mwr (mwr (mwr h (s + 26 + 2 * k) (mrd h (s + 25 + 2 * k) 6) l) (s + 25 + 2 * k) 6 v1) (s + 25 + 2 * k) 5 v2) := fun v1 v2 => by
    have e3 : mrd (mwr (mwr (mwr h (s + 26 + 2 * k) (mrd h (s + 25 + 2 * k) 6) l) (s + 25 + 2 * k) 6 v1) (s + 25 + 2 * k) 5 v2) (s + 13 + l) 3 = mrd h (s + 13 + l) 3 := by simp only [rd_wr, nOC, nOA, false_and, if_false]
    have e2 : mrd (mwr (mwr (mwr h (s + 26 + 2 * k) (mrd h (s + 25 + 2 * k) 6) l) (s + 25 + 2 * k) 6 v1) (s + 25 + 2 * k) 5 v2) (s + 25 + 2 * k) 2 = mrd h (s + 25 + 2 * k) 2 := by simp only [rd_wr, nAC, Int.reduceEq, and_false, false_and, if_false]
    rw [x_daysFor (CS_wr (CS_wr (CS_wr hs (by omega) (by omega) (by omega) (by omega) (fun _ _ _ => by omega)) (by omega) (by omega) (by omega) (by omega) (fun _ _ _ => by omega)) (by omega) (by omega) (by omega) (by omega) (fun _ _ _ => by omega)) k0 k1 l0 l1 (by rw [e3]; exact b1) (by rw [e2]; exact b2), e3, e2]
    rfl
  unfold TE
  simp only [e72_0, e72_1, e72_4, e72_6, e72_9, e72_10, e72_11, e72_14, e72_15, e72_18, e72_19, e72_20, e72_21, e72_21i, e72_22, e72_25, e72_26, e72_27, e72_30, e72_31, e72_31i, e72_32, e72_35, e72_36, e72_37, e72_38, e72_39, e72_42, e72_43, e72_43i, e72_44, e72_47, e72_48, e72_49, e72_50, e72_53, e72_54, e72_57, e72_58, e72_58i, e72_59, e72_62, e72_63, e72_66, e72_67, e72_68, e72_71, e72_72, e72_75, psh0, psh1, psh3, true_or, or_true, eq_self, Option.bind_some, List.length_nil, List.length_cons, Nat.reduceAdd, Nat.reduceLeDiff, Nat.zero_le, ↓reduceIte, Int.reduceLT, Int.reduceEq, Int.reduceLE, Int.reduceNeg, Int.reduceAdd, Int.reduceMul, Int.reduceSub, ne_eq, not_true_eq_false, not_false_eq_true, and_true, true_and, and_false, false_and, c3lt, c3gt, c3eq, Bool.false_eq_true, isK_wr, inA_wr, inR_wr, ks, r1, q3, q4, i1, n1, rd_wr, nAC, nOC, nOA, nsC, nsA, n2C, n2A, w1, gd, t1, t2, t3]
theorem m_learns (hm : CM g) (k0 : 0 ≤ k) (k1 : k < 4) (l0 : 0 ≤ l) (l1 : l < 12) (n0 : 0 ≤ mrd g 240 (76 + k)) (n1 : mrd g 240 (76 + k) < 12) (b1 : 1 ≤ mrd g 240 (16 + l) ∧ mrd g 240 (16 + l) ≤ 30) (b2 : 0 ≤ mrd g 240 (64 + k) ∧ mrd g 240 (64 + k) ≤ 9) : EV (d + 2) 254 0 [(2, 235), (0, k), (0, l)] [] g = some ((3, 0), TM g k l) := by
  have w1 : w32 (12 * k) = 12 * k := w32_id (by omega) (by omega)
  have w2 : w32 (80 + 12 * k) = 80 + 12 * k := w32_id (by omega) (by omega)
  have w3 : w32 (80 + 12 * k + mrd g 240 (76 + k)) = 80 + 12 * k + mrd g 240 (76 + k) := w32_id (by omega) (by omega)
  have w4 : w32 (76 + k) = 76 + k := w32_id (by omega) (by omega)
  have w5 : w32 (72 + k) = 72 + k := w32_id (by omega) (by omega)
  have w6 : w32 (68 + k) = 68 + k := w32_id (by omega) (by omega)
  have w7 : w32 (28 + l) = 28 + l := w32_id (by omega) (by omega)
  have w8 : w32 (mrd g 240 (76 + k) + 1) = mrd g 240 (76 + k) + 1 := w32_id (by omega) (by omega)
  have a1 : (76 + k = 80 + 12 * k + mrd g 240 (76 + k)) = False := eq_false (by omega)
  have a2 : (72 + k = 80 + 12 * k + mrd g 240 (76 + k)) = False := eq_false (by omega)
  have a3 : (68 + k = 80 + 12 * k + mrd g 240 (76 + k)) = False := eq_false (by omega)
  have a4 : (28 + l = 80 + 12 * k + mrd g 240 (76 + k)) = False := eq_false (by omega)
  have a5 : (72 + k = 76 + k) = False := eq_false (by omega)
  have a6 : (68 + k = 76 + k) = False := eq_false (by omega)
  have a7 : (68 + k = 72 + k) = False := eq_false (by omega)
  have a8 : (28 + l = 76 + k) = False := eq_false (by omega)
  have a9 : (28 + l = 72 + k) = False := eq_false (by omega)
  have b3 : (16 + l = 80 + 12 * k + mrd g 240 (76 + k)) = False := eq_false (by omega)
  have b4 : (16 + l = 76 + k) = False := eq_false (by omega)
  have b5 : (64 + k = 80 + 12 * k + mrd g 240 (76 + k)) = False := eq_false (by omega)
  have b6 : (64 + k = 76 + k) = False := eq_false (by omega)
  have hm2 : ∀ v1, CM (mwr (mwr g 240 (80 + 12 * k + mrd g 240 (76 + k)) l) 240 (76 + k) v1) := fun v1 => CM_wrA rn_240 (CM_wrA rn_240 hm)
  have gd : ∀ v1, EV (d + 1) 251 0 [(2, 235), (0, k), (0, l)] [] (mwr (mwr g 240 (80 + 12 * k + mrd g 240 (76 + k)) l) 240 (76 + k) v1) = some ((0, dyF (mrd g 240 (16 + l)) (mrd g 240 (64 + k))), mwr (mwr g 240 (80 + 12 * k + mrd g 240 (76 + k)) l) 240 (76 + k) v1) := fun v1 => by
    have e3 : mrd (mwr (mwr g 240 (80 + 12 * k + mrd g 240 (76 + k)) l) 240 (76 + k) v1) 240 (16 + l) = mrd g 240 (16 + l) := by simp only [rd_wr, b3, b4, and_false, if_false]
    have e2 : mrd (mwr (mwr g 240 (80 + 12 * k + mrd g 240 (76 + k)) l) 240 (76 + k) v1) 240 (64 + k) = mrd g 240 (64 + k) := by simp only [rd_wr, b5, b6, and_false, if_false]
    rw [m_daysOf (hm2 v1) k0 k1 l0 l1 (by rw [e3]; exact b1) (by rw [e2]; exact b2), e3, e2]
    rfl
  unfold TM
  simp only [e254_0, e254_1, e254_4, e254_6, e254_8, e254_9, e254_10, e254_11, e254_12, e254_13, e254_16, e254_17, e254_18, e254_19, e254_20, e254_23, e254_25, e254_26, e254_27, e254_28, e254_29, e254_30, e254_31, e254_32, e254_33, e254_36, e254_38, e254_39, e254_40, e254_41, e254_42, e254_43, e254_44, e254_45, e254_48, e254_49, e254_50, e254_51, e254_54, e254_56, e254_57, e254_58, e254_59, e254_60, e254_61, e254_64, e254_66, e254_67, e254_68, e254_69, e254_70, e254_71, psh0, psh1, psh3, true_or, or_true, eq_self, Option.bind_some, List.length_nil, List.length_cons, Nat.reduceAdd, Nat.reduceLeDiff, Nat.zero_le, ↓reduceIte, Int.reduceLT, Int.reduceEq, Int.reduceLE, Int.reduceNeg, Int.reduceAdd, Int.reduceMul, Int.reduceSub, ne_eq, not_true_eq_false, not_false_eq_true, and_true, true_and, and_false, false_and, c3lt, c3gt, c3eq, Bool.false_eq_true, isK_wr, inA_wr, inR_wr, hm.1, mC hm, m_lengthOf hm k0 k1, w1, w2, w3, w4, w5, w6, w7, w8, inC hm (j := 80 + 12 * k + mrd g 240 (76 + k)) (by omega) (by omega), inC hm (j := 76 + k) (by omega) (by omega), inC hm (j := 72 + k) (by omega) (by omega), inC hm (j := 68 + k) (by omega) (by omega), inC hm (j := 28 + l) (by omega) (by omega), rd_wr, a1, a2, a3, a4, a5, a6, a7, a8, a9, gd]
theorem m_whyNot (hm : CM g) (k0 : 0 ≤ k) (k1 : k < 4) (l0 : 0 ≤ l) (l1 : l < 12) (n0 : 0 ≤ mrd g 240 (76 + k)) (n1 : mrd g 240 (76 + k) ≤ 12) : EV (d + 2) 253 0 [(2, 235), (0, k), (0, l)] [] g = some ((0, if opn (kb (fun p => mrd g 240 (80 + 12 * k + p)) (mrd g 240 (76 + k)).toNat) (mrd g 240 (52 + l)) l then (if mrd g 240 (68 + k) < mrd g 240 (28 + l) then 7 else 0) else 9), g) := by
  have g1 := m_knownOf (d := d) hm k0 k1 n0 n1
  generalize kb (fun p => mrd g 240 (80 + 12 * k + p)) (mrd g 240 (76 + k)).toNat = kn at g1
  have g2 := m_isOpenTo (d := d) (x := kn) hm l0 l1
  have w6 : w32 (68 + k) = 68 + k := w32_id (by omega) (by omega)
  have w7 : w32 (28 + l) = 28 + l := w32_id (by omega) (by omega)
  by_cases ho : opn kn (mrd g 240 (52 + l)) l
  · rw [if_pos ho] at g2 ⊢
    by_cases hp : mrd g 240 (68 + k) < mrd g 240 (28 + l)
    · simp only [e253_0, e253_1, e253_2, e253_3, e253_6, e253_7, e253_10, e253_13, e253_15, e253_18, e253_19, e253_22, e253_24, e253_25, e253_26, e253_27, e253_28, e253_31, e253_33, e253_34, e253_35, e253_36, e253_39, e253_41, e253_44, e253_45, psh0, psh1, psh3, true_or, or_true, eq_self, Option.bind_some, List.length_nil, List.length_cons, Nat.reduceAdd, Nat.reduceLeDiff, Nat.zero_le, ↓reduceIte, Int.reduceLT, Int.reduceEq, Int.reduceLE, Int.reduceNeg, Int.reduceAdd, Int.reduceMul, Int.reduceSub, ne_eq, not_true_eq_false, not_false_eq_true, and_true, true_and, and_false, false_and, c3lt, c3gt, c3eq, Bool.false_eq_true, isK_wr, inA_wr, inR_wr, hm.1, mC hm, g1, g2, w6, w7, inC hm (j := 68 + k) (by omega) (by omega), inC hm (j := 28 + l) (by omega) (by omega), hp]
    · simp only [e253_0, e253_1, e253_2, e253_3, e253_6, e253_7, e253_10, e253_13, e253_15, e253_18, e253_19, e253_22, e253_24, e253_25, e253_26, e253_27, e253_28, e253_31, e253_33, e253_34, e253_35, e253_36, e253_39, e253_41, e253_44, e253_45, psh0, psh1, psh3, true_or, or_true, eq_self, Option.bind_some, List.length_nil, List.length_cons, Nat.reduceAdd, Nat.reduceLeDiff, Nat.zero_le, ↓reduceIte, Int.reduceLT, Int.reduceEq, Int.reduceLE, Int.reduceNeg, Int.reduceAdd, Int.reduceMul, Int.reduceSub, ne_eq, not_true_eq_false, not_false_eq_true, and_true, true_and, and_false, false_and, c3lt, c3gt, c3eq, Bool.false_eq_true, isK_wr, inA_wr, inR_wr, hm.1, mC hm, g1, g2, w6, w7, inC hm (j := 68 + k) (by omega) (by omega), inC hm (j := 28 + l) (by omega) (by omega), hp]
  · rw [if_neg ho] at g2 ⊢
    simp only [e253_0, e253_1, e253_2, e253_3, e253_6, e253_7, e253_10, e253_13, e253_15, e253_18, e253_19, e253_22, e253_24, e253_25, e253_26, e253_27, e253_28, e253_31, e253_33, e253_34, e253_35, e253_36, e253_39, e253_41, e253_44, e253_45, psh0, psh1, psh3, true_or, or_true, eq_self, Option.bind_some, List.length_nil, List.length_cons, Nat.reduceAdd, Nat.reduceLeDiff, Nat.zero_le, ↓reduceIte, Int.reduceLT, Int.reduceEq, Int.reduceLE, Int.reduceNeg, Int.reduceAdd, Int.reduceMul, Int.reduceSub, ne_eq, not_true_eq_false, not_false_eq_true, and_true, true_and, and_false, false_and, c3lt, c3gt, c3eq, Bool.false_eq_true, isK_wr, inA_wr, inR_wr, hm.1, g1, g2]
end
/-- child k's own facts out of the relation -/
theorem chi_f {m : Int → Int → Int} {s k : Int} (hR : RSch m s 0 0) (k0 : 0 ≤ k) (k1 : k < m s 7) : (∀ j : Nat, j < (m (s + 25 + 2 * k) 6).toNat → 0 ≤ m (s + 26 + 2 * k) j ∧ m (s + 26 + 2 * k) j < 12) ∧ (∀ i j : Nat, i < j → j < (m (s + 25 + 2 * k) 6).toNat → m (s + 26 + 2 * k) i ≠ m (s + 26 + 2 * k) j) := by
  obtain ⟨h5, h6, h7, h8, hl, hc⟩ := hR
  obtain ⟨g1, g2, g3, g4, g5, g6, g7, g8⟩ := hc k k0 k1
  refine ⟨fun j hj => ?_, fun i j h1 h2 => g7 i j (by omega) (by omega) (by omega)⟩
  have := g6 j (by omega) (by omega)
  omega
theorem chi_lt {m : Int → Int → Int} {s k l : Int} (hR : RSch m s 0 0) (k0 : 0 ≤ k) (k1 : k < m s 7) (l0 : 0 ≤ l) (l1 : l < 12) (hb : bI (m (s + 25 + 2 * k) 5) l.toNat = false) : m (s + 25 + 2 * k) 6 < 12 := by
  obtain ⟨f1, f2⟩ := chi_f hR k0 k1
  obtain ⟨h5, h6, h7, h8, hl, hc⟩ := hR
  obtain ⟨g1, g2, g3, g4, g5, g6, g7, g8⟩ := hc k k0 k1
  rw [g8] at hb
  have := len_lt f1 f2 l0 l1 hb
  omega
theorem RChi_learn {m m' : Int → Int → Int} {s k l : Int} (hR : RSch m s 0 0) (k0 : 0 ≤ k) (k1 : k < m s 7) (l0 : 0 ≤ l) (l1 : l < m s 6) (hb : bI (m (s + 25 + 2 * k) 5) l.toNat = false) (hp : m (s + 13 + l) 4 ≤ m (s + 25 + 2 * k) 3)
    (e1 : m' (s + 25 + 2 * k) 1 = m (s + 25 + 2 * k) 1) (e2 : m' (s + 25 + 2 * k) 2 = m (s + 25 + 2 * k) 2) (e3 : m' (s + 25 + 2 * k) 3 = w32 (m (s + 25 + 2 * k) 3 - m (s + 13 + l) 4)) (e4 : m' (s + 25 + 2 * k) 4 = w32 (m (s + 25 + 2 * k) 4 + dyF (m (s + 13 + l) 3) (m (s + 25 + 2 * k) 2))) (e5 : m' (s + 25 + 2 * k) 5 = i_or (m (s + 25 + 2 * k) 5) (i_shl 1 l)) (e6 : m' (s + 25 + 2 * k) 6 = m (s + 25 + 2 * k) 6 + 1) (eA : ∀ p, m' (s + 26 + 2 * k) p = if p = m (s + 25 + 2 * k) 6 then l else m (s + 26 + 2 * k) p)
    (f2 : m' 240 (64 + k) = m 240 (64 + k)) (f3 : m' 240 (68 + k) = w32 (m 240 (68 + k) - m 240 (28 + l))) (f4 : m' 240 (72 + k) = w32 (m 240 (72 + k) + dyF (m 240 (16 + l)) (m 240 (64 + k)))) (f6 : m' 240 (76 + k) = m 240 (76 + k) + 1) (fA : ∀ p, 0 ≤ p → p < 12 → m' 240 (80 + 12 * k + p) = if p = m 240 (76 + k) then l else m 240 (80 + 12 * k + p)) (fw : m' 242 (16 + k) = m 242 (16 + k)) (es : m' s 6 = m s 6) : RChi m' s 0 0 k := by
  have hlt := chi_lt hR k0 k1 l0 (by have := hR.2.1; omega) hb
  obtain ⟨h5, h6, h7, h8, hl, hc⟩ := hR
  have gl := hl l l0 l1
  have gc := hc k k0 k1
  unfold RLes at gl
  unfold RChi at gc ⊢
  simp only [Int.zero_add] at gl gc ⊢
  obtain ⟨l1', l2, l3, l4, l5, l6, l7⟩ := gl
  obtain ⟨g1, g2, g3, g4, g5, g6, g7, g8⟩ := gc
  rw [e1, e2, e3, e4, e5, e6, f2, f3, f4, f6, fw, es]
  have w1 : w32 (m (s + 25 + 2 * k) 3 - m (s + 13 + l) 4) = m (s + 25 + 2 * k) 3 - m (s + 13 + l) 4 := w32_id (by omega) (by omega)
  refine ⟨g1, g2, ⟨by rw [g3.1, l5.1], by rw [w1]; omega, by rw [w1]; omega⟩, by rw [g4, l4.1, g2.1], ⟨by rw [g5.1], by omega, by omega⟩, fun p p0 p1 => ?_, fun p q p0 pq q1 => ?_, ?_⟩
  · rw [eA, fA p p0 (by omega), ← g5.1]
    by_cases c : p = m (s + 25 + 2 * k) 6
    · rw [if_pos c, if_pos c]
      exact ⟨rfl, l0, l1⟩
    · rw [if_neg c, if_neg c]
      exact g6 p p0 (by omega)
  · rw [eA, eA, if_neg (show ¬ p = m (s + 25 + 2 * k) 6 by omega)]
    by_cases c : q = m (s + 25 + 2 * k) 6
    · rw [if_pos c]
      intro z
      have hh : bI (m (s + 25 + 2 * k) 5) l.toNat = true := by
        rw [g8]
        refine (kb_iff _ (fun j hj => ?_) _).mpr ⟨p.toNat, by omega, ?_⟩
        · have := g6 j (by omega) (by omega)
          omega
        · rw [Int.toNat_of_nonneg p0, z, Int.toNat_of_nonneg l0]
      rw [hh] at hb
      cases hb
    · rw [if_neg c]
      exact g7 p q p0 pq (by omega)
  · have et : (m (s + 25 + 2 * k) 6 + 1).toNat = (m (s + 25 + 2 * k) 6).toNat + 1 := by omega
    rw [et, kb, g8, Int.toNat_of_nonneg g5.2.1, eA, if_pos rfl]
    congr 1
    refine kb_congr _ (fun i i0 i1 => ?_)
    rw [eA, if_neg (by omega)]
