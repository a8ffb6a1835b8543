/-! ages lived: the class's memory a and the reference's b, side by side -/
def mx (a b : AM) : AM := (fun x i => if 235 ≤ x ∧ x < 258 then b.1 x i else a.1 x i, a.2)
theorem mxa {a b : AM} {x i : Int} (h : x < 235 ∨ 258 ≤ x) : mrd (mx a b) x i = mrd a x i := if_neg (by omega)
theorem mxb {a b : AM} {x i : Int} (h0 : 235 ≤ x) (h1 : x < 258) : mrd (mx a b) x i = mrd b x i := if_pos ⟨h0, h1⟩
/-- what living may change: of the class; of the reference -/
def FA (s L : Int) (a a' : AM) : Prop := a'.2 = a.2 ∧ ∀ x i, ¬ (x = L ∧ 1 ≤ i ∧ i ≤ 7) → ¬ (x = s + 4 ∧ i = 1) → x ≠ s + 5 → ¬ (s + 25 ≤ x ∧ x ≤ s + 32 ∧ ((3 ≤ i ∧ i ≤ 6) ∨ (x - s) % 2 = 0)) → mrd a' x i = mrd a x i
def FB (b b' : AM) : Prop := b'.2 = b.2 ∧ ∀ x i, ¬ (x = 240 ∧ 68 ≤ i ∧ i < 128) → x ≠ 243 → ¬ (x = 235 ∧ (i = 27 ∨ (45 ≤ i ∧ i ≤ 51))) → mrd b' x i = mrd b x i
/-- the same of one child -/
def FKa (s L k : Int) (a a' : AM) : Prop := a'.2 = a.2 ∧ ∀ x i, ¬ (x = L ∧ 1 ≤ i ∧ i ≤ 7) → ¬ (x = s + 4 ∧ i = 1) → x ≠ s + 5 → ¬ (x = s + 25 + 2 * k ∧ 3 ≤ i ∧ i ≤ 6) → x ≠ s + 26 + 2 * k → mrd a' x i = mrd a x i
def FKb (k : Int) (b b' : AM) : Prop := b'.2 = b.2 ∧ ∀ x i, x ≠ 243 → ¬ (x = 235 ∧ (i = 27 ∨ (45 ≤ i ∧ i ≤ 51))) → ¬ (x = 240 ∧ (i = 68 + k ∨ i = 72 + k ∨ i = 76 + k ∨ (80 + 12 * k ≤ i ∧ i < 92 + 12 * k))) → mrd b' x i = mrd b x i
/-- and of none -/
def FNa (s L : Int) (a a' : AM) : Prop := a'.2 = a.2 ∧ ∀ x i, ¬ (x = L ∧ 1 ≤ i ∧ i ≤ 7) → ¬ (x = s + 4 ∧ i = 1) → x ≠ s + 5 → mrd a' x i = mrd a x i
def FNb (b b' : AM) : Prop := b'.2 = b.2 ∧ ∀ x i, x ≠ 243 → ¬ (x = 235 ∧ (i = 27 ∨ (45 ≤ i ∧ i ≤ 51))) → mrd b' x i = mrd b x i
/-- the living and its counts: e misses the class has counted ahead; c can still be missed -/
def LV (e c L : Int) (a b : AM) : Prop := (mrd a L 1 = mrd b 235 47 ∧ 0 ≤ mrd b 235 47 ∧ mrd b 235 47 ≤ 300) ∧ (mrd a L 2 = mrd b 235 48 + e ∧ 0 ≤ mrd b 235 48 ∧ mrd b 235 48 + c ≤ mrd b 235 47) ∧ mrd a L 3 = mrd b 235 49 ∧ mrd a L 4 = mrd b 235 50 ∧ (mrd a L 5 = mrd b 235 51 ∧ (mrd b 235 51 = 0 ∨ mrd b 235 51 = 1)) ∧ (mrd a L 6 = mrd b 235 45 ∧ (mrd b 235 45 = 0 ∨ mrd b 235 45 = 1)) ∧ (mrd a L 7 = mrd b 235 46 ∧ 0 ≤ mrd b 235 46 ∧ mrd b 235 46 < 65536)
/-- where it begins -/
def BF (a b : AM) (s L g nc nl : Int) : Prop := (Shp a ∧ RRef a.1 ∧ CM b) ∧ (s = 113 ∨ s = 162 ∨ s = 195) ∧ (L = 146 ∨ L = 147) ∧ (mrd a s 4 = g ∧ g ∈ A7 ∧ AS s g) ∧ (mrd a s 7 = nc ∧ mrd a s 6 = nl)
def Sim (e c : Int) (a0 b0 : AM) (s L : Int) (a b : AM) : Prop := FA s L a0 a ∧ FB b0 b ∧ RSch (mx a b).1 s 0 0 ∧ LV e c L a b
theorem s3_6 {s : Int} (h : s = 113 ∨ s = 162 ∨ s = 195) : s ∈ S6 := by rcases h with rfl | rfl | rfl <;> decide
section
variable {a0 b0 a b a' b' : AM} {s L g nc nl e c e' c' k : Int}
theorem FA.tr {a1 a2 a3 : AM} (h1 : FA s L a1 a2) (h2 : FA s L a2 a3) : FA s L a1 a3 := ⟨h2.1.trans h1.1, fun x i n1 n2 n3 n4 => (h2.2 x i n1 n2 n3 n4).trans (h1.2 x i n1 n2 n3 n4)⟩
theorem FB.tr {a1 a2 a3 : AM} (h1 : FB a1 a2) (h2 : FB a2 a3) : FB a1 a3 := ⟨h2.1.trans h1.1, fun x i n1 n2 n3 => (h2.2 x i n1 n2 n3).trans (h1.2 x i n1 n2 n3)⟩
theorem FNa.tr {a1 a2 a3 : AM} (h1 : FNa s L a1 a2) (h2 : FNa s L a2 a3) : FNa s L a1 a3 := ⟨h2.1.trans h1.1, fun x i n1 n2 n3 => (h2.2 x i n1 n2 n3).trans (h1.2 x i n1 n2 n3)⟩
theorem FNb.tr {a1 a2 a3 : AM} (h1 : FNb a1 a2) (h2 : FNb a2 a3) : FNb a1 a3 := ⟨h2.1.trans h1.1, fun x i n1 n2 => (h2.2 x i n1 n2).trans (h1.2 x i n1 n2)⟩
theorem FNa.rf : FNa s L a a := ⟨rfl, fun _ _ _ _ _ => rfl⟩
theorem FNb.rf : FNb b b := ⟨rfl, fun _ _ _ _ => rfl⟩
theorem FNa.wr {i v : Int} (h : FNa s L a a') (i0 : 1 ≤ i) (i1 : i ≤ 7) : FNa s L a (mwr a' L i v) := ⟨h.1, fun x j n1 n2 n3 => by rw [rd_wr, if_neg (by omega)]; exact h.2 x j n1 n2 n3⟩
theorem FNb.wr {i v : Int} (h : FNb b b') (i0 : 45 ≤ i) (i1 : i ≤ 51) : FNb b (mwr b' 235 i v) := ⟨h.1, fun x j n1 n2 => by rw [rd_wr, if_neg (by omega)]; exact h.2 x j n1 n2⟩
theorem FNa.vx (h : FNa s L a a') {a2 : AM} (hv : VX a' a2 s) : FNa s L a a2 := ⟨hv.1.trans h.1, fun x i n1 n2 n3 => (hv.2 x i n3 n2).trans (h.2 x i n1 n2 n3)⟩
theorem FNb.vm (h : FNb b b') {b2 : AM} (hv : VM b' b2) : FNb b b2 := ⟨hv.1.trans h.1, fun x i n1 n2 => (hv.2 x i n1 (by omega)).trans (h.2 x i n1 n2)⟩
theorem FNa.toK (h : FNa s L a a') : FKa s L k a a' := ⟨h.1, fun x i n1 n2 n3 _ _ => h.2 x i n1 n2 n3⟩
theorem FNb.toK (h : FNb b b') : FKb k b b' := ⟨h.1, fun x i n1 n2 _ => h.2 x i n1 n2⟩
theorem FKa.wr {i v : Int} (h : FKa s L k a a') (i0 : 1 ≤ i) (i1 : i ≤ 7) : FKa s L k a (mwr a' L i v) := ⟨h.1, fun x j n1 n2 n3 n4 n5 => by rw [rd_wr, if_neg (by omega)]; exact h.2 x j n1 n2 n3 n4 n5⟩
theorem FKb.wr {i v : Int} (h : FKb k b b') (i0 : 45 ≤ i) (i1 : i ≤ 51) : FKb k b (mwr b' 235 i v) := ⟨h.1, fun x j n1 n2 n3 => by rw [rd_wr, if_neg (by omega)]; exact h.2 x j n1 n2 n3⟩
theorem BF.bs (hB : BF a0 b0 s L g nc nl) : 113 ≤ s ∧ s ≤ 195 ∧ 146 ≤ L ∧ L ≤ 147 ∧ ¬ (s ≤ L ∧ L ≤ s + 32) := by
  obtain ⟨-, h1, h2, -⟩ := hB
  omega
/-- what stands at any time -/
theorem Sim.sh (hB : BF a0 b0 s L g nc nl) (hS : Sim e c a0 b0 s L a b) : Shp a ∧ RRef a.1 ∧ CM b ∧ CS a s ∧ DS (mx a b) s ∧ isK a L 3 ∧ (∀ i, mrd a s i = mrd a0 s i) ∧ (∀ l i, 0 ≤ l → l < 12 → mrd a (s + 13 + l) i = mrd a0 (s + 13 + l) i) ∧ (∀ j i, 0 ≤ j → j ≤ 6 → mrd a (g + j) i = mrd a0 (g + j) i) ∧ ∀ i, i < 68 ∨ 128 ≤ i → mrd b 240 i = mrd b0 240 i := by
  have bs := hB.bs
  obtain ⟨⟨hp, hr, hm⟩, h3, hL, ⟨g1, g2, g3⟩, -⟩ := hB
  obtain ⟨⟨f1, f2⟩, ⟨f3, f4⟩, hR, -⟩ := hS
  have hp' := Shp_eq f1 hp
  have hr' : RRef a.1 := fun q hq => by
    have hd : ∀ s ∈ ([113, 162, 195] : List Int), ∀ q ∈ refT, (¬ (q.1 = 146 ∧ 1 ≤ q.2.1 ∧ q.2.1 ≤ 7) ∧ ¬ (q.1 = 147 ∧ 1 ≤ q.2.1 ∧ q.2.1 ≤ 7)) ∧ ¬ (q.1 = s + 4 ∧ q.2.1 = 1) ∧ q.1 ≠ s + 5 ∧ ¬ (s + 25 ≤ q.1 ∧ q.1 ≤ s + 32 ∧ ((3 ≤ q.2.1 ∧ q.2.1 ≤ 6) ∨ (q.1 - s) % 2 = 0)) := by decide +kernel
    obtain ⟨⟨x1, x1'⟩, x2, x3, x4⟩ := hd s (by rcases h3 with rfl | rfl | rfl <;> decide) q hq
    rw [← hr q hq]
    refine f2 _ _ ?_ x2 x3 x4
    rcases hL with rfl | rfl
    · exact x1
    · exact x1'
  have hm' : CM b := by
    refine ⟨(isK_eq f3).mpr hm.1, Shp_eq f3 hm.2.1, fun q hq => ?_⟩
    have hd : ∀ q ∈ refT, q.1 ≠ 240 ∧ q.1 ≠ 243 ∧ ¬ (q.1 = 235 ∧ (q.2.1 = 27 ∨ (45 ≤ q.2.1 ∧ q.2.1 ≤ 51))) := by decide +kernel
    obtain ⟨x1, x2, x3⟩ := hd q hq
    rw [← hm.2.2 q hq]
    exact f4 _ _ (fun z => x1 z.1) x2 x3
  have kL : isK a L 3 := by
    rcases hL with rfl | rfl
    · exact kn_146 hp'
    · exact kn_147 hp'
  refine ⟨hp', hr', hm', CS_of hp' hr' (s3_6 h3), DS_of hR, kL, fun i => f2 _ _ (by omega) (by omega) (by omega) (by omega), fun l i l0 l1 => f2 _ _ (by omega) (by omega) (by omega) (by omega), fun j i j0 j1 => ?_, fun i hi => f4 _ _ (by omega) (by omega) (by omega)⟩
  have gd : ∀ s ∈ ([113, 162, 195] : List Int), ∀ g ∈ A7, ¬ (g ≤ s + 5 ∧ s + 4 ≤ g + 6) ∧ ¬ (g ≤ s + 32 ∧ s + 25 ≤ g + 6) ∧ ¬ (g ≤ 147 ∧ 146 ≤ g + 6) := by decide +kernel
  obtain ⟨y1, y2, y3⟩ := gd s (by rcases h3 with rfl | rfl | rfl <;> decide) g g2
  exact f2 _ _ (by omega) (by omega) (by omega) (by omega)
theorem Sim.upd (hB : BF a0 b0 s L g nc nl) (hS : Sim e c a0 b0 s L a b) (k0 : 0 ≤ k) (k1 : k < nc) (ha : FKa s L k a a') (hb : FKb k b b') (hk : RChi (mx a' b').1 s 0 0 k) (hl : LV e' c' L a' b') : Sim e' c' a0 b0 s L a' b' := by
  obtain ⟨-, -, -, -, ds, -, es, -⟩ := hS.sh hB
  have bs := hB.bs
  have e7 : mrd a s 7 = nc := (es 7).trans hB.2.2.2.2.1
  obtain ⟨FA1, FB1, hR, -⟩ := hS
  have n4 : nc ≤ 4 := by
    have := ds.2.2.1
    rw [mxa (by omega), e7] at this
    omega
  refine ⟨FA1.tr ⟨ha.1, fun x i n1 n2 n3 n4' => ha.2 x i n1 n2 n3 (by omega) (by omega)⟩, FB1.tr ⟨hb.1, fun x i n1 n2 n3 => hb.2 x i n2 n3 (by omega)⟩, ?_, hl⟩
  refine RSch_K (Z := fun x i => x = L ∨ x = s + 4 ∨ x = s + 5 ∨ x = 235 ∨ x = 243) (m := (mx a b).1) (by omega) (by omega) ?_ ?_ k0 ?_ hR hk
  · rintro x i hx hz
    omega
  · intro x i hz n1 n2 n3
    show mrd (mx a' b') x i = mrd (mx a b) x i
    by_cases c : x < 235 ∨ 258 ≤ x
    · rw [mxa c, mxa c]
      exact ha.2 x i (fun z => hz (Or.inl z.1)) (fun z => hz (Or.inr (Or.inl z.1))) (fun z => hz (Or.inr (Or.inr (Or.inl z)))) n1 n2
    · rw [mxb (by omega) (by omega), mxb (by omega) (by omega)]
      exact hb.2 x i (fun z => hz (by omega)) (fun z => hz (by omega)) n3
  · show k < mrd (mx a b) s 7
    rw [mxa (by omega), e7]
    exact k1
theorem Sim.same (hB : BF a0 b0 s L g nc nl) (hS : Sim e c a0 b0 s L a b) (ha : FNa s L a a') (hb : FNb b b') (hl : LV e' c' L a' b') : Sim e' c' a0 b0 s L a' b' := by
  have bs := hB.bs
  obtain ⟨FA1, FB1, hR, -⟩ := hS
  refine ⟨FA1.tr ⟨ha.1, fun x i n1 n2 n3 _ => ha.2 x i n1 n2 n3⟩, FB1.tr ⟨hb.1, fun x i _ n2 n3 => hb.2 x i n2 n3⟩, ?_, hl⟩
  have key : ∀ x, x ≠ L → x ≠ s + 4 → x ≠ s + 5 → x ≠ 243 → x ≠ 235 → (mx a' b').1 x = (mx a b).1 x := fun x n1 n2 n3 n4 n5 => funext fun i => by
    show mrd (mx a' b') x i = mrd (mx a b) x i
    by_cases c : x < 235 ∨ 258 ≤ x
    · rw [mxa c, mxa c]
      exact ha.2 x i (fun z => n1 z.1) (fun z => n2 z.1) n3
    · rw [mxb (by omega) (by omega), mxb (by omega) (by omega)]
      exact hb.2 x i n4 (fun z => n5 z.1)
  exact RSch_of (key s (by omega) (by omega) (by omega) (by omega) (by omega)) (fun l _ _ => key _ (by omega) (by omega) (by omega) (by omega) (by omega)) (fun k _ _ => ⟨key _ (by omega) (by omega) (by omega) (by omega) (by omega), key _ (by omega) (by omega) (by omega) (by omega) (by omega)⟩) (key _ (by omega) (by omega) (by omega) (by omega) (by omega)) (key _ (by omega) (by omega) (by omega) (by omega) (by omega)) hR
/-- child k, lesson l, in plain words -/
theorem Sim.chi (hB : BF a0 b0 s L g nc nl) (hS : Sim e c a0 b0 s L a b) (k0 : 0 ≤ k) (k1 : k < nc) : (0 ≤ nl ∧ nl ≤ 12 ∧ nc ≤ 4 ∧ mrd b 240 1 = nl ∧ mrd b 240 2 = nc ∧ mrd a s 6 = nl ∧ mrd a s 7 = nc) ∧ (mrd a (s + 25 + 2 * k) 2 = mrd b 240 (64 + k) ∧ 0 ≤ mrd b 240 (64 + k) ∧ mrd b 240 (64 + k) ≤ 9) ∧ (mrd a (s + 25 + 2 * k) 3 = mrd b 240 (68 + k) ∧ 0 ≤ mrd b 240 (68 + k) ∧ mrd b 240 (68 + k) ≤ 9999) ∧ (mrd a (s + 25 + 2 * k) 6 = mrd b 240 (76 + k) ∧ 0 ≤ mrd b 240 (76 + k) ∧ mrd b 240 (76 + k) ≤ 12) ∧ mrd a (s + 25 + 2 * k) 5 = kb (fun p => mrd b 240 (80 + 12 * k + p)) (mrd b 240 (76 + k)).toNat ∧ mrd a (s + 25 + 2 * k) 4 = mrd b 240 (72 + k) := by
  obtain ⟨-, -, -, -, ds, -, es, -⟩ := hS.sh hB
  have bs := hB.bs
  have e7 : mrd a s 7 = nc := (es 7).trans hB.2.2.2.2.1
  have e6 : mrd a s 6 = nl := (es 6).trans hB.2.2.2.2.2
  obtain ⟨d5, d6, d7, d8, dl, dc⟩ := ds
  rw [mxa (by omega), mxb (by omega) (by omega)] at d6 d7
  rw [mxb (by omega) (by omega)] at dc
  obtain ⟨q1, q2, q3, q4, q5, q6, q7⟩ := dc k k0 (by omega)
  rw [mxa (by omega), mxb (by omega) (by omega)] at q1 q2 q3 q4 q7
  have q7 : mrd a (s + 25 + 2 * k) 5 = kb (fun p => mrd b 240 (80 + 12 * k + p)) (mrd b 240 (76 + k)).toNat := by
    rw [q7]
    refine kb_congr _ (fun i _ _ => ?_)
    exact mxb (by omega) (by omega)
  exact ⟨⟨by omega, by omega, by omega, by omega, by omega, e6, e7⟩, q1, q2, q4, q7, q3⟩
theorem Sim.les {l : Int} (hB : BF a0 b0 s L g nc nl) (hS : Sim e c a0 b0 s L a b) (l0 : 0 ≤ l) (l1 : l < nl) : l < 12 ∧ (mrd a (s + 13 + l) 3 = mrd b 240 (16 + l) ∧ 1 ≤ mrd b 240 (16 + l) ∧ mrd b 240 (16 + l) ≤ 30) ∧ (mrd a (s + 13 + l) 4 = mrd b 240 (28 + l) ∧ 0 ≤ mrd b 240 (28 + l) ∧ mrd b 240 (28 + l) ≤ 99) ∧ mrd a (s + 13 + l) 6 = mrd b 240 (52 + l) ∧ mrd a (s + 13 + l) 1 = mrd b 240 (4 + l) ∧ mrd a (s + 13 + l) 2 = vow (mrd a (s + 13 + l) 1) := by
  obtain ⟨-, -, -, -, ds, -, es, -⟩ := hS.sh hB
  have bs := hB.bs
  have e6 : mrd a s 6 = nl := (es 6).trans hB.2.2.2.2.2
  obtain ⟨d5, d6, d7, d8, dl, dc⟩ := ds
  rw [mxa (by omega), mxb (by omega) (by omega)] at d6
  rw [mxb (by omega) (by omega)] at dl
  obtain ⟨p1, p2, p3, p4, p5, p6⟩ := dl l l0 (by omega)
  rw [mxa (by omega), mxb (by omega) (by omega)] at p1 p2 p3 p4 p6
  exact ⟨by omega, p3, p4, p6.1, p1.1, by rw [p1.1]; exact p2⟩
end
