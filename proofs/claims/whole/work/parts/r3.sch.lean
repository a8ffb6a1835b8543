/-! school: the reading, both sides -/
abbrev ZX (D g x i : Int) : Prop := (x = 110 ∧ 3 ≤ i ∧ i ≤ 10) ∨ ZD D x i ∨ (x = g ∧ i = 6)
abbrev ZN (x i : Int) : Prop := (x = 235 ∧ (i = 0 ∨ i = 1 ∨ i = 8 ∨ i = 9 ∨ (12 ≤ i ∧ i ≤ 19) ∨ i = 24)) ∨ (x = 240 ∧ 1640 ≤ i) ∨ (x = 242 ∧ 80 ≤ i)
def HG (g : Int) : Prop := g = 168 ∨ g = 201 ∨ g = 228
theorem HG.b {g : Int} (h : HG g) : 168 ≤ g ∧ g ≤ 228 := by unfold HG at h; omega
theorem HG.a7 {g : Int} (h : HG g) : g ∈ A7 := by rcases h with rfl | rfl | rfl <;> decide
theorem HD.b {D : Int} (h : HD D) : 162 ≤ D ∧ D ≤ 195 := by unfold HD at h; omega
theorem ZX_rf {D g : Int} (hD : HD D) (hg : HG g) : ∀ q ∈ refT, ¬ ZX D g q.1 q.2.1 := by
  rcases hD with rfl | rfl <;> rcases hg with rfl | rfl | rfl <;> decide +kernel
theorem ZX_0 {D g i : Int} (hD : HD D) (hg : HG g) : ¬ ZX D g 0 i := by
  have := hD.b
  have := hg.b
  unfold ZX ZD
  omega
section
variable {d d' N : Nat} {a b : AM} {D g : Int}
set_option maxHeartbeats 1000000 in
theorem sc_core (sh : Shp a) (rr : RRef a.1) (e9 : mrd a 0 9 = D) (hD : HD D) (e4 : mrd a D 4 = g) (hg : HG g) (hm : CM b) (hNa : (N : Int) ≤ mrd a 110 2) (hNb : (N : Int) ≤ mrd b 235 8) (hN : N ≤ 900) (hB : ∀ i : Int, 0 ≤ i → i < N → -128 ≤ mrd b 239 i ∧ mrd b 239 i ≤ 127) (hT : ∀ i : Int, 0 ≤ i → i < N → mrd a 111 i = mrd b 239 i) : ∃ a2 b2, (a2.2 = a.2 ∧ ∀ x i, ¬ ZX D g x i → mrd a2 x i = mrd a x i) ∧ (b2.2 = b.2 ∧ ∀ x i, ¬ ZN x i → mrd b2 x i = mrd b x i) ∧ QQ N a2 b2 ∧ (mrd b2 235 8 = 0 ∧ mrd b2 235 0 = 0) ∧ mrd a2 g 6 = 0 ∧ (mrd a2 110 9 = 0 → DR D a2 b2) ∧
    EV (d + 6) 112 0 [(2, 0), (0, (N : Int)), (3, 0)] [] a = EV (d + 6) 112 44 [(2, 0), (0, (N : Int)), (3, 0)] [] (KF a2 (if mrd a2 110 9 = 0 then -1 else mrd a2 110 10)) ∧
    EV (d' + 7) 234 0 [(2, 235), (0, (N : Int)), (3, 0)] [] b = EV (d' + 7) 234 150 [(2, 235), (0, (N : Int)), (0, 410)] [] b2 := by
  have bD := hD.b
  have bg := hg.b
  have zr := ZX_rf hD hg
  have kM := hm.1
  obtain ⟨b0, hb0⟩ : ∃ b0, b0 = mwr (mwr b 235 1 0) 235 0 0 := ⟨_, rfl⟩
  have hm0 : CM b0 := by rw [hb0]; exact CM_wr rn_m0 (CM_wr rn_m1 hm)
  have f0 : ∀ x i, ¬ (x = 235 ∧ (i = 0 ∨ i = 1)) → mrd b0 x i = mrd b x i := fun x i hx => by
    rw [hb0, rd_wr, if_neg (by omega), rd_wr, if_neg (by omega)]
  have e02 : b0.2 = b.2 := by rw [hb0]; rfl
  obtain ⟨a1, b1, x1, y1, fa1, fb1, h8, q1, n9⟩ := st_both (d := d + 3) (d' := d' + 4) (m := 900) sh rr hm0 hN (by rw [f0 _ _ (by omega)]; exact hNb) (by omega) (fun i i0 i1 => by rw [f0 _ _ (by omega)]; exact hB i i0 i1) (fun i i0 i1 => by rw [f0 _ _ (by omega)]; exact hT i i0 i1)
  obtain ⟨b2, y2, hm2, e22, f2, z2⟩ := m_zer (d := d' + 7) (l1 := (0, (N : Int))) 410 0 b1 q1.2.1.1 (by omega)
  obtain ⟨b3, hb3⟩ : ∃ b3, b3 = mwr (mwr b2 240 1643 2) 235 24 0 := ⟨_, rfl⟩
  have f3 : ∀ x i, ¬ (x = 240 ∧ 1640 ≤ i) → ¬ (x = 235 ∧ i = 24) → mrd b3 x i = mrd b1 x i := fun x i h1 h2 => by
    rw [hb3, rd_wr, if_neg (by omega), rd_wr, if_neg (by omega)]
    exact f2 x i (by omega)
  have e32 : b3.2 = b1.2 := by rw [hb3]; exact e22
  have hm3 : CM b3 := by rw [hb3]; exact CM_wr (by decide +kernel) (CM_wrA (by decide +kernel) hm2)
  -- the class's draft, emptied
  have sh1 : Shp a1 := q1.1.1
  have rr1 : RRef a1.1 := q1.1.2.1
  have cs1 : CS a1 D := CS_of sh1 rr1 (S6_cur hD)
  have e41 : mrd a1 D 4 = g := by rw [fa1.2 _ _ (by omega)]; exact e4
  have kg1 : isK a1 g 0 := (a7_K sh1 hg.a7).1
  have xS := x_txS (d := d + 5) cs1 e41 kg1
  obtain ⟨c, hc⟩ : ∃ c, c = mwr (mwr (mwr (mwr (mwr (mwr a1 D 5 0) D 6 0) D 7 0) D 8 2) D 9 0) g 6 0 := ⟨_, rfl⟩
  rw [← hc] at xS
  have gD : g ≠ D := by
    rcases hD with rfl | rfl <;> rcases hg with rfl | rfl | rfl <;> decide
  have fc : ∀ x i, ¬ (x = D ∧ 5 ≤ i ∧ i ≤ 9) → ¬ (x = g ∧ i = 6) → mrd c x i = mrd a1 x i := fun x i h1 h2 => by
    rw [hc, rd_wr, if_neg (by omega), rd_wr, if_neg (by omega), rd_wr, if_neg (by omega), rd_wr, if_neg (by omega), rd_wr, if_neg (by omega), rd_wr, if_neg (by omega)]
  have ec2 : c.2 = a1.2 := by rw [hc]; rfl
  have c5 : mrd c D 5 = 0 := by rw [hc, rdn1 gD.symm, rdn2 (by decide), rdn2 (by decide), rdn2 (by decide), rdn2 (by decide), rde]
  have c6 : mrd c D 6 = 0 := by rw [hc, rdn1 gD.symm, rdn2 (by decide), rdn2 (by decide), rdn2 (by decide), rde]
  have c7 : mrd c D 7 = 0 := by rw [hc, rdn1 gD.symm, rdn2 (by decide), rdn2 (by decide), rde]
  have c8 : mrd c D 8 = 2 := by rw [hc, rdn1 gD.symm, rdn2 (by decide), rde]
  have c9 : mrd c D 9 = 0 := by rw [hc, rdn1 gD.symm, rde]
  have cg : mrd c g 6 = 0 := by rw [hc, rde]
  have fca : ∀ x i, ¬ ZX D g x i → mrd c x i = mrd a x i := fun x i hx => by
    rw [fc x i (fun z => hx (Or.inr (Or.inl (Or.inr (Or.inl z))))) (fun z => hx (Or.inr (Or.inr z)))]
    exact fa1.2 x i (fun z => hx (Or.inl z))
  have qc : RDX c N := by
    refine ⟨Shp_2 ec2 sh1, fun q hq => ?_, ?_, hN⟩
    · rw [← rr q hq]
      exact fca _ _ (zr q hq)
    · rw [fc _ _ (by omega) (by omega)]; exact q1.1.2.2.1
  have qm : RDM b3 N := by
    refine ⟨hm3, ?_, hN, fun j j0 j1 => ?_⟩
    · rw [f3 _ _ (by omega) (by omega)]; exact q1.2.1.2.1
    · rw [f3 _ _ (by omega) (by omega)]; exact q1.2.1.2.2.2 j j0 j1
  have q3 : QQ N c b3 := q1.fr (fun x i hx => fc x i (by omega) (by omega)) (fun x i hx => f3 x i (by omega) (by omega)) qc qm
  have n93 : mrd c 110 9 = 0 := by rw [fc _ _ (by omega) (by omega)]; exact n9
  have dr : DR D c b3 := by
    refine DR.start c5 c6 c7 c8 c9 ?_ ?_ (fun j j0 j1 j2 => ?_)
    · rw [hb3, rdn1 (by decide), rde]
    · rw [hb3, rde]
    · rw [hb3, rdn1 (by decide), rdn2 j2]; exact z2 j (by omega) j1
  obtain ⟨a4, b4, x4, y4, fx4, fm4, q4, dr4⟩ := tx_loop (N := N) (d := d) (d' := d') (l1 := (0, (N : Int))) (l2 := (0, 410)) hD 900 0 c b3 (by omega) q3 (fun z => ⟨dr, by have := (q3.tg z).2.1.2.1; omega⟩)
  have fx : ∀ x i, ¬ ZX D g x i → mrd a4 x i = mrd a x i := fun x i hx => (fx4.2 x i (fun z => hx (Or.inr (Or.inl z)))).trans (fca x i hx)
  have ea2 : a4.2 = a.2 := fx4.1.trans (ec2.trans fa1.1)
  have r1 : mrd a 0 1 = 110 := rf_0_1 rr
  refine ⟨a4, b4, ⟨ea2, fx⟩, ⟨fm4.1.trans (e32.trans (fb1.1.trans e02)), fun x i hx => ?_⟩, q4, ?_, ?_, dr4, ?_, ?_⟩
  · rw [fm4.2 x i (by unfold ZN at hx; unfold ZM; omega), f3 x i (by omega) (by omega), fb1.2 x i (by omega), f0 x i (by omega)]
  · constructor
    · rw [fm4.2 _ _ (by decide), f3 _ _ (by decide) (by decide)]; exact h8
    · rw [fm4.2 _ _ (by decide), f3 _ _ (by decide) (by decide), fb1.2 _ _ (by decide), hb0, rde]
  · rw [fx4.2 _ _ ?_]
    · exact cg
    · rcases hD with rfl | rfl <;> rcases hg with rfl | rfl | rfl <;> decide
  · refine x_scP (kn_0 sh) r1 (kn_110 sh) (by omega) (by omega) x1 (kn_0 sh1) (by rw [fa1.2 _ _ (by decide)]; exact e9) (rf_0_1 rr1) cs1.1 (xS.trans x4) ((isK_eq ea2).mpr (kn_0 sh)) ?_ q4.k
    rw [fx _ _ (ZX_0 hD hg)]; exact r1
  · rw [m_scP kM (by rw [← hb0]; exact y1) y2 hm2, ← hb3]
    exact y4
end
