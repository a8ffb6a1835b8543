/-! the relation between the class's objects and the reference's -/
def vow (x : Int) : Int := if x = 1 ∨ x = 5 ∨ x = 9 ∨ x = 15 ∨ x = 21 then 1 else 0
/-- the set of lessons f 0 .. f (n-1), as both build it -/
def kb (f : Int → Int) : Nat → Int
  | 0 => 0
  | n + 1 => i_or (kb f n) (i_shl 1 (f n))
/-- lesson l of the school at s, and of the block that begins at B (names at w) -/
def RLes (m : Int → Int → Int) (s B w l : Int) : Prop :=
  m (s + 13 + l) 0 = m 242 (w + 4 + l) ∧ (m (s + 13 + l) 1 = m 240 (B + 4 + l) ∧ 1 ≤ m (s + 13 + l) 1 ∧ m (s + 13 + l) 1 ≤ 26) ∧ m (s + 13 + l) 2 = vow (m (s + 13 + l) 1) ∧
  (m (s + 13 + l) 3 = m 240 (B + 16 + l) ∧ 1 ≤ m (s + 13 + l) 3 ∧ m (s + 13 + l) 3 ≤ 30) ∧ (m (s + 13 + l) 4 = m 240 (B + 28 + l) ∧ 0 ≤ m (s + 13 + l) 4 ∧ m (s + 13 + l) 4 ≤ 99) ∧
  (m (s + 13 + l) 5 = m 240 (B + 40 + l) ∧ -1 ≤ m (s + 13 + l) 5 ∧ m (s + 13 + l) 5 < m s 5) ∧ (m (s + 13 + l) 6 = m 240 (B + 52 + l) ∧ 0 ≤ m (s + 13 + l) 6 ∧ m (s + 13 + l) 6 < 2 ^ l.toNat)
/-- child k likewise -/
def RChi (m : Int → Int → Int) (s B w k : Int) : Prop :=
  m (s + 25 + 2 * k) 1 = m 242 (w + 16 + k) ∧ (m (s + 25 + 2 * k) 2 = m 240 (B + 64 + k) ∧ 0 ≤ m (s + 25 + 2 * k) 2 ∧ m (s + 25 + 2 * k) 2 ≤ 9) ∧ (m (s + 25 + 2 * k) 3 = m 240 (B + 68 + k) ∧ 0 ≤ m (s + 25 + 2 * k) 3 ∧ m (s + 25 + 2 * k) 3 ≤ 9999) ∧ m (s + 25 + 2 * k) 4 = m 240 (B + 72 + k) ∧
  (m (s + 25 + 2 * k) 6 = m 240 (B + 76 + k) ∧ 0 ≤ m (s + 25 + 2 * k) 6 ∧ m (s + 25 + 2 * k) 6 ≤ 12) ∧
  (∀ p, 0 ≤ p → p < m (s + 25 + 2 * k) 6 → m (s + 26 + 2 * k) p = m 240 (B + 80 + 12 * k + p) ∧ 0 ≤ m (s + 26 + 2 * k) p ∧ m (s + 26 + 2 * k) p < m s 6) ∧
  (∀ p q, 0 ≤ p → p < q → q < m (s + 25 + 2 * k) 6 → m (s + 26 + 2 * k) p ≠ m (s + 26 + 2 * k) q) ∧ m (s + 25 + 2 * k) 5 = kb (m (s + 26 + 2 * k)) (m (s + 25 + 2 * k) 6).toNat
def RSch (m : Int → Int → Int) (s B w : Int) : Prop :=
  (m s 5 = m 240 (B + 0) ∧ 0 ≤ m s 5 ∧ m s 5 ≤ 4) ∧ (m s 6 = m 240 (B + 1) ∧ 0 ≤ m s 6 ∧ m s 6 ≤ 12) ∧ (m s 7 = m 240 (B + 2) ∧ 0 ≤ m s 7 ∧ m s 7 ≤ 4) ∧ (m s 8 = m 240 (B + 3) ∧ 1 ≤ m s 8 ∧ m s 8 ≤ 9) ∧
  (∀ l, 0 ≤ l → l < m s 6 → RLes m s B w l) ∧ ∀ k, 0 ≤ k → k < m s 7 → RChi m s B w k
/-- step p of the age at a, and of the block at B: by its kind; nc children, nl lessons -/
def RStp (m : Int → Int → Int) (a B nc nl p : Int) : Prop :=
  (m (a + 5) p = m 240 (B + 138 + 9 * p) ∧ p + 1 ≤ m (a + 5) p ∧ m (a + 5) p ≤ m a 7) ∧ (0 ≤ m (a + 2) p ∧ m (a + 2) p < 4) ∧
  ((m 240 (B + 130 + 9 * p) < 6 → m (a + 2) p = m 240 (B + 131 + 9 * p) ∧ m (a + 2) p < nc) ∧
   (m 240 (B + 130 + 9 * p) < 5 → m (a + 5) p = p + 1 ∧ m (a + 1) p = 11 + m 240 (B + 130 + 9 * p)) ∧ 0 ≤ m 240 (B + 130 + 9 * p) ∧ m 240 (B + 130 + 9 * p) ≤ 7 ∧
   (m 240 (B + 130 + 9 * p) = 0 → m (a + 3) p = m 240 (B + 132 + 9 * p) ∧ 0 ≤ m (a + 3) p ∧ m (a + 3) p < nl) ∧
   (m 240 (B + 130 + 9 * p) = 1 → m (a + 3) p = m 240 (B + 132 + 9 * p) ∧ 0 ≤ m (a + 3) p ∧ m (a + 3) p ≤ 11) ∧
   (m 240 (B + 130 + 9 * p) = 3 ∨ m 240 (B + 130 + 9 * p) = 4 → m (a + 3) p = m 240 (B + 132 + 9 * p) ∧ 1 ≤ m (a + 3) p ∧ m (a + 3) p ≤ 99) ∧
   (m 240 (B + 130 + 9 * p) = 5 → m (a + 1) p = 17 + m 240 (B + 136 + 9 * p) ∧ 0 ≤ m 240 (B + 136 + 9 * p) ∧ m 240 (B + 136 + 9 * p) ≤ 2 ∧
     (m 240 (B + 136 + 9 * p) = 0 → m (a + 3) p = m 240 (B + 132 + 9 * p) ∧ m (a + 4) p = m 240 (B + 137 + 9 * p) ∧ 0 ≤ m (a + 3) p ∧ m (a + 3) p ≤ 12) ∧
     (m 240 (B + 136 + 9 * p) = 2 → m (a + 3) p = m 240 (B + 132 + 9 * p) ∧ 0 ≤ m (a + 3) p ∧ m (a + 3) p < nl)) ∧
   (m 240 (B + 130 + 9 * p) = 6 → m (a + 1) p = 20 ∧ m (a + 3) p = m 240 (B + 131 + 9 * p) ∧ 1 ≤ m (a + 3) p ∧ m (a + 3) p ≤ 99) ∧
   (m 240 (B + 130 + 9 * p) = 7 → m (a + 1) p = 22 ∧ m (a + 5) p = p + 1))
/-- how many steps hold step p -/
def dep (nx : Int → Int) (p : Nat) : Nat := ((List.range p).filter (fun q : Nat => decide ((p : Int) < nx (q : Int)))).length
def RAge (m : Int → Int → Int) (a B nc nl : Int) : Prop :=
  (m a 6 = 0 ∨ m a 6 = 1) ∧ m a 6 = m 240 (B + 128) ∧ (m a 6 = 1 → (m a 7 = m 240 (B + 129) ∧ 0 ≤ m a 7 ∧ m a 7 ≤ 30) ∧ (∀ p, 0 ≤ p → p < m a 7 → RStp m a B nc nl p) ∧
    (∀ p q, 0 ≤ p → p < q → q < m (a + 5) p → p < m a 7 → m (a + 5) q ≤ m (a + 5) p) ∧ ∀ p : Nat, (p : Int) < m a 7 → dep (m (a + 5)) p ≤ 3)
def RTry (m : Int → Int → Int) (t : Int) : Prop :=
  (m (2 + 2 * t) 1 = 0 ∧ m 237 t = -1) ∨ (m (2 + 2 * t) 1 = 1 ∧ (m (2 + 2 * t) 2 = m 236 t ∧ 0 ≤ m 236 t ∧ m 236 t ≤ 3) ∧ (m (2 + 2 * t) 3 = m 237 t ∧ 0 ≤ m 237 t ∧ m 237 t ≤ 60) ∧ ∀ p, 0 ≤ p → p < m 237 t → m (3 + 2 * t) p = m 238 (60 * t + p))
def RTap (m : Int → Int → Int) : Prop := (m 110 2 = m 235 8 ∧ 0 ≤ m 110 2 ∧ m 110 2 ≤ 900) ∧ ∀ i, 0 ≤ i → i < m 110 2 → m 111 i = m 239 i
def RPln (m : Int → Int → Int) : Prop :=
  ((m 235 42 = -1 ∧ m 152 6 = 0) ∨ (m 235 42 = m 152 6 ∧ 0 ≤ m 152 6 ∧ m 152 6 ≤ 4)) ∧ ∀ k, 0 ≤ k → k < m 152 6 → m 154 k = m 253 k ∧ (m 153 k = m 255 k ∧ 0 ≤ m 153 k ∧ m 153 k ≤ 12) ∧ ∀ j, 0 ≤ j → j < m 153 k → m (156 + k) j = m 254 (12 * k + j)
def RLiv (m : Int → Int → Int) : Prop := (m 146 0 = 0 ∨ m 146 0 = 1) ∧ m 146 0 = m 235 44 ∧ (m 146 0 = 1 → m 146 2 = m 257 0 ∧ m 146 3 = m 257 1 ∧ m 146 4 = m 257 2 ∧ m 146 5 = m 257 3 ∧ (m 146 5 = 0 ∨ m 146 5 = 1))
def RFst (m : Int → Int → Int) : Prop := (m 148 3 = m 235 32 ∧ 0 ≤ m 148 3 ∧ m 148 3 ≤ 12) ∧ ∀ p, 0 ≤ p → p < m 148 3 → m 150 p = m 247 p
/-- the children's numbers that stand in the steps of any age, be they meant or not -/
def RKid (m : Int → Int → Int) : Prop := ∀ x ∈ ([19, 52, 85, 170, 203, 230] : List Int), ∀ p, 0 ≤ p → p < 30 → 0 ≤ m x p ∧ m x p < 4
/-- which school is the school, whose each age is -/
def RPtr (m : Int → Int → Int) : Prop :=
  ((m 0 8 = 162 ∧ m 0 9 = 195) ∨ (m 0 8 = 195 ∧ m 0 9 = 162)) ∧ (m 162 4 = 168 ∨ m 162 4 = 201 ∨ m 162 4 = 228) ∧ (m 195 4 = 168 ∨ m 195 4 = 201 ∨ m 195 4 = 228) ∧ (m 0 10 = 168 ∨ m 0 10 = 201 ∨ m 0 10 = 228) ∧ m 162 4 ≠ m 195 4 ∧ m 162 4 ≠ m 0 10 ∧ m 195 4 ≠ m 0 10 ∧ RKid m
def RMrk (m : Int → Int → Int) : Prop := (m 0 16 = m 235 23 ∧ 0 ≤ m 0 16 ∧ m 0 16 ≤ 3) ∧ ∀ i, 0 ≤ i → i < m 0 16 → RSch m (11 + 33 * i) (410 * (i + 1)) (20 * (i + 1)) ∧ RAge m (17 + 33 * i) (410 * (i + 1)) (m (11 + 33 * i) 7) (m (11 + 33 * i) 6)
/-- all of it, but for STATUS and what is only scratch -/
def Rel (m : Int → Int → Int) : Prop :=
  RRef m ∧ (m 0 14 = m 235 10 ∧ m 0 15 = m 235 11 ∧ m 0 12 = m 235 2 ∧ m 0 13 = m 235 3) ∧ (∀ t, 0 ≤ t → t < 4 → RTry m t) ∧ RTap m ∧ RPln m ∧ RLiv m ∧ RFst m ∧ RPtr m ∧ (RSch m (m 0 8) 0 0 ∧ RAge m (m (m 0 8) 4) 0 (m (m 0 8) 7) (m (m 0 8) 6)) ∧ RMrk m
/-- the sums of Search: its array, and the room used -/
def phi (n : Nat) : Nat := ((List.range 13).flatMap (fun k => [1, 2, 4, 6, 8, 10, 12, 14, 16, 18].map (fun j => 2 ^ k * j))).foldl (fun s x => if x ≤ n then s + x else s) 0
def cnt (n : Nat) : Nat := ((List.range 13).flatMap (fun k => [1, 2, 4, 6, 8, 10, 12, 14, 16, 18].map (fun j => 2 ^ k * j))).foldl (fun s x => if x ≤ n then s + 1 else s) 0
def RSum (h : AM) : Prop := (mrd h 148 5 = 151 ∨ 258 ≤ mrd h 148 5) ∧ isK h (mrd h 148 5) 19 ∧ 16 ≤ mln h (mrd h 148 5) ∧ mln h (mrd h 148 5) ≤ 73728 ∧ mnx h ≤ 258 + cnt (mln h (mrd h 148 5)).toNat ∧ msl h ≤ 200000 + phi (mln h (mrd h 148 5)).toNat
def Inv (h : AM) : Prop := Shp h ∧ Rel h.1 ∧ mrd h 0 11 = mrd h 235 0 ∧ RSum h ∧ (∀ j, in32 (msc h j)) ∧ 0 ≤ mscl h ∧ mscl h ≤ 3072
theorem Inv_base : Base Inv := fun h hI => ⟨kn_0 hI.1, kn_235 hI.1, hI.2.2.2.2.1, hI.2.2.2.2.2.1, hI.2.2.2.2.2.2⟩
theorem cnt_le (n : Nat) : cnt n ≤ 130 ∧ phi n ≤ 745381 := by
  have key : ∀ (l : List Nat) (a b : Nat), l.foldl (fun s x => if x ≤ n then s + 1 else s) a ≤ a + l.length ∧ l.foldl (fun s x => if x ≤ n then s + x else s) b ≤ b + l.sum := by
    intro l
    induction l with
    | nil => intro a b; simp
    | cons x xs ih =>
      intro a b
      simp only [List.foldl_cons, List.length_cons, List.sum_cons]
      split
      · have := ih (a + 1) (b + x)
        omega
      · have := ih a b
        omega
  have h1 := key ((List.range 13).flatMap (fun k => [1, 2, 4, 6, 8, 10, 12, 14, 16, 18].map (fun j => 2 ^ k * j))) 0 0
  have e1 : ((List.range 13).flatMap (fun k => [1, 2, 4, 6, 8, 10, 12, 14, 16, 18].map (fun j => 2 ^ k * j))).length = 130 := by decide +kernel
  have e2 : ((List.range 13).flatMap (fun k => [1, 2, 4, 6, 8, 10, 12, 14, 16, 18].map (fun j => 2 ^ k * j))).sum = 745381 := by decide +kernel
  rw [e1, e2] at h1
  unfold cnt phi
  omega
theorem Inv_room : ∀ h, Inv h → mnx h ≤ 600000 ∧ msl h ≤ 7302249 := by
  intro h hI
  obtain ⟨-, -, -, -, h5, h6⟩ := hI.2.2.2.1
  have := cnt_le (mln h (mrd h 148 5)).toNat
  omega
