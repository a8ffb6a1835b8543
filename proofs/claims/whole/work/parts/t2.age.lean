/-! age: the reading, both sides; what it leaves -/
abbrev ZX2 (G x i : Int) : Prop := (x = 110 ∧ 3 ≤ i ∧ i ≤ 10) ∨ (x = G ∧ 6 ≤ i ∧ i ≤ 8) ∨ (G + 1 ≤ x ∧ x ≤ G + 6)
abbrev ZN2 (x i : Int) : Prop := (x = 235 ∧ (i = 0 ∨ i = 1 ∨ i = 8 ∨ i = 9 ∨ (12 ≤ i ∧ i ≤ 19) ∨ i = 25)) ∨ (x = 240 ∧ 1770 ≤ i)
section
variable {d d' N : Nat} {a b : AM} {s G nc nl : Int}
theorem ZX2_rf (hG : HG G) : ∀ q ∈ refT, ¬ ZX2 G q.1 q.2.1 := by
  rcases hG with rfl | rfl | rfl <;> decide +kernel
theorem ZX2_0 {i : Int} (hG : HG G) : ¬ ZX2 G 0 i := by
  have := hG.b
  unfold ZX2
  omega
set_option maxHeartbeats 1000000 in
theorem ag_core (sh : Shp a) (rr : RRef a.1) (e10 : mrd a 0 10 = G) (hG : HG G) (e8 : mrd a 0 8 = s) (hs : HD s) (sn : SN s a b) (hc : mrd a s 7 = nc ∧ mrd a s 6 = nl) (kid : KD G a) (hm : CM b) (hNa : (N : Int) ≤ mrd a 110 2) (hNb : (N : Int) ≤ mrd b 235 8) (hN : N ≤ 300) (hB : ∀ i : Int, 0 ≤ i → i < N → -128 ≤ mrd b 239 i ∧ mrd b 239 i ≤ 127) (hT : ∀ i : Int, 0 ≤ i → i < N → mrd a 111 i = mrd b 239 i) : ∃ a2 b2, (a2.2 = a.2 ∧ ∀ x i, ¬ ZX2 G x i → mrd a2 x i = mrd a x i) ∧ (b2.2 = b.2 ∧ ∀ x i, ¬ ZN2 x i → mrd b2 x i = mrd b x i) ∧ QQ N a2 b2 ∧ (mrd b2 235 8 = 0 ∧ mrd b2 235 0 = 0) ∧ mrd a2 G 6 = 1 ∧ KD G a2 ∧ (mrd a2 110 9 = 0 → ∃ S' : Nat, (mrd a2 G 7 = S' ∧ mrd b2 235 25 = S' ∧ S' ≤ 30) ∧ SG G nc nl 0 S' 3 a2 b2) ∧
    EV (d + 6) 113 0 [(2, 0), (0, (N : Int)), (3, 0)] [] a = EV (d + 6) 113 55 [(2, 0), (0, (N : Int)), (3, 0)] [] (KF a2 (if mrd a2 110 9 = 0 then -1 else mrd a2 110 10)) ∧
    EV (d' + 12) 238 0 [(2, 235), (0, (N : Int)), (3, 0)] [] b = EV (d' + 12) 238 50 [(2, 235), (0, (N : Int)), (3, 0)] [] b2 := by
  have bs := hs.b
  have bG := hG.b
  have zr := ZX2_rf hG
  have kM := hm.1
  obtain ⟨b0, hb0⟩ : ∃ b0, b0 = mwr (mwr b 235 1 0) 235 0 0 := ⟨_, rfl⟩
  have hm0 : CM b0 := by rw [hb0]; exact CM_wr rn_m0 (CM_wr rn_m1 hm)
  have f0 : ∀ x i, ¬ (x = 235 ∧ (i = 0 ∨ i = 1)) → mrd b0 x i = mrd b x i := fun x i hx => by
    rw [hb0, rd_wr, if_neg (by omega), rd_wr, if_neg (by omega)]
  have e02 : b0.2 = b.2 := by rw [hb0]; rfl
  obtain ⟨a1, b1, x1, y1, fa1, fb1, h8, q1, n9⟩ := st_both (N := N) (d := d + 3) (d' := d' + 9) (m := 300) sh rr hm0 (by omega) (by rw [f0 _ _ (by omega)]; exact hNb) (by omega) (fun i i0 i1 => by rw [f0 _ _ (by omega)]; exact hB i i0 i1) (fun i i0 i1 => by rw [f0 _ _ (by omega)]; exact hT i i0 i1)
  have ac1 := q1.1.ac hG hs
  have xS := x_g0 (d := d + 5) (s := s) ac1.1
  obtain ⟨c, hc'⟩ : ∃ c, c = mwr (mwr (mwr a1 G 6 1) G 7 0) G 8 0 := ⟨_, rfl⟩
  rw [← hc'] at xS
  have q2 : QQ N c (mwr b1 235 25 0) := by
    rw [hc']
    exact (((q1.wf (i := 6) (v := 1) hG (by decide)).wf (i := 7) (v := 0) hG (by decide)).wf (i := 8) (v := 0) hG (by decide)).w25
  obtain ⟨b3, hb3⟩ : ∃ b3, b3 = mwr b1 235 25 0 := ⟨_, rfl⟩
  rw [← hb3] at q2
  have fc : ∀ x i, ¬ (x = G ∧ 6 ≤ i ∧ i ≤ 8) → mrd c x i = mrd a1 x i := fun x i h1 => by
    rw [hc', rd_wr, if_neg (by omega), rd_wr, if_neg (by omega), rd_wr, if_neg (by omega)]
  have f3 : ∀ x i, ¬ (x = 235 ∧ i = 25) → mrd b3 x i = mrd b1 x i := fun x i h1 => by
    rw [hb3, rd_wr, if_neg (by omega)]
  have ec2 : c.2 = a.2 := by rw [hc']; exact fa1.1
  have c6 : mrd c G 6 = 1 := by rw [hc', rdn2 (by decide), rdn2 (by decide), rde]
  have c7 : mrd c G 7 = 0 := by rw [hc', rdn2 (by decide), rde]
  have c8 : mrd c G 8 = 0 := by rw [hc', rde]
  have n93 : mrd c 110 9 = 0 := by rw [fc _ _ (by omega)]; exact n9
  have fca : ∀ x i, ¬ ZX2 G x i → mrd c x i = mrd a x i := fun x i hx => by
    rw [fc x i (fun z => hx (Or.inr (Or.inl z)))]
    exact fa1.2 x i (fun z => hx (Or.inl z))
  have fcb : ∀ x i, ¬ ZN2 x i → mrd b3 x i = mrd b x i := fun x i hx => by
    unfold ZN2 at hx
    rw [f3 x i (by omega), fb1.2 x i (by omega), f0 x i (by omega)]
  have zs : ∀ x i, (x = s ∧ i < 6) ∨ (x = s ∧ 5 ≤ i) ∨ (s + 13 ≤ x ∧ x ≤ s + 32) → mrd c x i = mrd a x i := fun x i hx => by
    refine fca x i ?_
    have := ZG_s hs hG hx
    rintro (z | z | z)
    · omega
    · exact this (Or.inr (Or.inl z))
    · exact this (Or.inr (Or.inr z))
  have sn3 : SN s c b3 := by
    obtain ⟨h1, h2, h3, h4⟩ := sn
    unfold SN
    rw [zs s 6 (by omega), zs s 7 (by omega), fcb 240 1 (by decide), fcb 240 2 (by decide)]
    refine ⟨h1, h2, fun j j0 j1 => ?_, fun j j0 j1 => ?_⟩
    · rw [zs _ _ (by omega), fcb _ _ (by unfold ZN2; omega)]; exact h3 j j0 j1
    · rw [zs _ _ (by omega), fcb _ _ (by unfold ZN2; omega)]; exact h4 j j0 j1
  have kd3 : KD G c := fun p p0 p1 => by
    rw [fc _ _ (by omega), fa1.2 _ _ (by omega)]; exact kid p p0 p1
  have h3 : AI N G s nc nl 0 0 0 c b3 := ⟨q2, n93, sn3, ⟨by rw [zs s 7 (by omega)]; exact hc.1, by rw [zs s 6 (by omega)]; exact hc.2⟩, kd3, ⟨by rw [c7]; rfl, by rw [hb3, rde]; rfl, by omega⟩, by rw [c8]; rfl, by have := (q2.tg n93).2.1.2.1; omega⟩
  obtain ⟨a4, b4, x4, y4, fx4, fm4, q4, kd4, sg4⟩ := ag_loop (d := d) (d' := d') (l1 := (0, (N : Int))) (l2 := (3, 0)) hs hG hN 901 0 0 c b3 h3 (by have := (q2.tg n93).2.1.2.1; omega) SG.nil
  have fx : ∀ x i, ¬ ZX2 G x i → mrd a4 x i = mrd a x i := fun x i hx => (fx4.2 x i (by
    rintro (z | z | z | z)
    · exact hx (Or.inl (by omega))
    · exact hx (Or.inr (Or.inl (by omega)))
    · exact hx (Or.inr (Or.inr (by omega)))
    · exact hx (Or.inr (Or.inr (by omega))))).trans (fca x i hx)
  have ea2 : a4.2 = a.2 := fx4.1.trans ec2
  have r1 : mrd a 0 1 = 110 := rf_0_1 rr
  refine ⟨a4, b4, ⟨ea2, fx⟩, ⟨fm4.1.trans (by rw [hb3]; exact fb1.1.trans e02), fun x i hx => ?_⟩, q4, ⟨?_, ?_⟩, ?_, kd4, sg4, ?_, ?_⟩
  · rw [fm4.2 x i (by unfold ZN2 at hx; unfold ZB; omega)]; exact fcb x i hx
  · rw [fm4.2 _ _ (by decide), f3 _ _ (by decide)]; exact h8
  · rw [fm4.2 _ _ (by decide), f3 _ _ (by decide), fb1.2 _ _ (by decide), hb0, rde]
  · rw [fx4.2 _ _ (by unfold ZA; omega)]; exact c6
  · refine x_agP (kn_0 sh) r1 (kn_110 sh) (by omega) (by omega) (by omega) x1 (kn_0 q1.1.1) (by rw [fa1.2 _ _ (by decide)]; exact e10) (by rw [fa1.2 _ _ (by decide)]; exact e8) (rf_0_1 q1.1.2.1) ac1.1 (xS.trans x4) ((isK_eq ea2).mpr (kn_0 sh)) ?_ q4.k
    rw [fx _ _ (ZX2_0 hG)]; exact r1
  · rw [m_agP (d := d' + 11) kM (by rw [← hb0]; exact y1) q1.2.1.1, ← hb3]
    exact y4
end
