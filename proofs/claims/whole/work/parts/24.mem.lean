/-! memory: what the cells are; reads and writes -/
def tysL (ca : Nat → ClassId) : List (ClassId × FieldType) := [(ca 0, .int), (ca 1, .byte), (ca 2, .boolean), (ca 3, .long), (ca 4, .object RX8), (ca 5, .object RX6), (ca 6, .object RX2), (ca 7, .object RX1), (ca 8, .array .int)]
def cont (G : Nat × Nat × Nat) (ca : Nat → ClassId) (h : AM) (a : Int) : va_E :=
  if mkn h a < 16 then .inr (mkn h a, (List.range (cNF (mkn h a))).map (fun j => cv G (ftag (mkn h a) j, mrd h a j)))
  else .inl (ca (mkn h a - 16), (mln h a).toNat, if mkn h a ≤ 18 then .inl (fun j => Int32.ofInt (mrd h a j)) else if mkn h a = 19 then .inr (.inl (fun j => Int64.ofInt (mrd h a j))) else .inr (.inr (.inr (.inr (fun j => cvo G (mrd h a j))))))
def wl (G : Nat × Nat × Nat) (ca : Nat → ClassId) (h : AM) : va_W := (List.range (mnx h).toNat).map (fun a => (G.1 + a, cont G ca h a))
def tagk (k : Nat) (j : Int) : Nat := if k < 16 then ftag k j.toNat else if k ≤ 18 then 0 else if k = 19 then 1 else 2
def okm (h : AM) : Prop := 0 ≤ mnx h ∧ (∀ a, 0 ≤ mln h a ∧ mln h a ≤ 1000000) ∧ (∀ a j, (tagk (mkn h a) j = 0 → in32 (mrd h a j)) ∧ (tagk (mkn h a) j = 1 → in64 (mrd h a j))) ∧ (∀ j, in32 (msc h j)) ∧ 0 ≤ mscl h ∧ mscl h ≤ 3072
def Wo (D : va_G) (G : Nat × Nat × Nat) (ca : Nat → ClassId) (Hz : Heap) (sx : (Int → Int) × Int) (sz sb : Nat) (h : AM) (H : Heap) (locs : List Loc) (cells slots : Nat) : Prop :=
  okm h ∧ va_P D vwCl (wl G ca h) H ∧ (∀ q ∈ locs, G.1 ≤ q.base) ∧ (G.1 ≤ H.size ∧ ∀ q, q < G.1 → H[q]? = Hz[q]?) ∧ sz + cells = G.1 + (mnx h).toNat ∧ sb + slots = msl h ∧ h.2.2.2.2 = sx
theorem clamp_ofI {i : Int} (h : in32 i) : (Int32.ofInt i).toNatClampNeg = i.toNat := by
  show (Int32.ofInt i).toInt.toNat = _
  rw [in32_of h]
theorem in_of {i : Int} {n : Nat} (h : in32 i) (h0 : 0 ≤ i) (h1 : i < n) : vp_in (Int32.ofInt i) n := vp_in_iff.mpr (by rw [in32_of h]; exact ⟨h0, h1⟩)
theorem wl_get {G : Nat × Nat × Nat} {ca : Nat → ClassId} {h : AM} {r : Int} (h0 : 0 ≤ r) (h1 : r < mnx h) : (wl G ca h)[r.toNat]? = some (G.1 + r.toNat, cont G ca h r) := by
  unfold wl
  rw [List.getElem?_map, List.getElem?_range (by omega)]
  simp only [Option.map_some, Int.toNat_of_nonneg h0]
theorem wl_at {G : Nat × Nat × Nat} {ca : Nat → ClassId} {h : AM} {k : Nat} {q : Nat × va_E} (hk : (wl G ca h)[k]? = some q) : k < (mnx h).toNat ∧ q = (G.1 + k, cont G ca h k) := by
  unfold wl at hk
  rw [List.getElem?_map] at hk
  by_cases hlt : k < (mnx h).toNat
  · rw [List.getElem?_range hlt] at hk
    cases hk
    exact ⟨hlt, rfl⟩
  · rw [List.getElem?_eq_none (by rw [List.length_range]; omega)] at hk
    cases hk
theorem wl_len (G : Nat × Nat × Nat) (ca : Nat → ClassId) (h : AM) : (wl G ca h).length = (mnx h).toNat := by simp [wl]
theorem wl_D (G : Nat × Nat × Nat) (ca : Nat → ClassId) (h : AM) : va_D (fun q => G.1 ≤ q) (wl G ca h) := by
  refine ⟨fun i j x y hi hj hxy => ?_, fun k q hk => ?_⟩
  · obtain ⟨-, rfl⟩ := wl_at hi
    obtain ⟨-, rfl⟩ := wl_at hj
    dsimp only at hxy
    omega
  · obtain ⟨-, rfl⟩ := wl_at hk
    exact Nat.le_add_right _ _
theorem wl_set {G : Nat × Nat × Nat} {ca : Nat → ClassId} {h h' : AM} {r : Int} (h0 : 0 ≤ r) (h1 : r < mnx h) (hn : mnx h' = mnx h) (hc : ∀ a, a ≠ r → cont G ca h' a = cont G ca h a) : wl G ca h' = (wl G ca h).set r.toNat (G.1 + r.toNat, cont G ca h' r) := by
  apply List.ext_getElem?
  intro k
  by_cases e : k = r.toNat
  · subst e
    rw [wl_get h0 (by rw [hn]; exact h1), List.getElem?_set_self (by rw [wl_len]; omega)]
  · rw [List.getElem?_set_ne (fun q => e q.symm)]
    unfold wl
    rw [List.getElem?_map, List.getElem?_map, hn]
    by_cases hlt : k < (mnx h).toNat
    · rw [List.getElem?_range hlt]
      simp only [Option.map_some]
      rw [hc k (fun q => e (by omega))]
    · rw [List.getElem?_eq_none (by rw [List.length_range]; omega)]
      rfl
theorem cont_ob {G : Nat × Nat × Nat} {ca : Nat → ClassId} {h : AM} {a : Int} {c : Nat} (hk : mkn h a = c) (hc : c < 12) : cont G ca h a = .inr (c, (List.range (cNF c)).map (fun j => cv G (ftag c j, mrd h a j))) := by
  unfold cont
  rw [hk, if_pos (by omega)]
theorem cont_i {G : Nat × Nat × Nat} {ca : Nat → ClassId} {h : AM} {a : Int} {c : Nat} (hk : mkn h a = c) (h1 : 16 ≤ c) (h2 : c ≤ 18) : cont G ca h a = .inl (ca (c - 16), (mln h a).toNat, .inl (fun j => Int32.ofInt (mrd h a j))) := by
  unfold cont
  rw [hk, if_neg (by omega), if_pos h2]
theorem cont_l {G : Nat × Nat × Nat} {ca : Nat → ClassId} {h : AM} {a : Int} (hk : mkn h a = 19) : cont G ca h a = .inl (ca 3, (mln h a).toNat, .inr (.inl (fun j => Int64.ofInt (mrd h a j)))) := by
  unfold cont
  rw [hk, if_neg (by omega), if_neg (by omega), if_pos rfl]
theorem cont_q {G : Nat × Nat × Nat} {ca : Nat → ClassId} {h : AM} {a : Int} {c : Nat} (hk : mkn h a = c) (h1 : 20 ≤ c) : cont G ca h a = .inl (ca (c - 16), (mln h a).toNat, .inr (.inr (.inr (.inr (fun j => cvo G (mrd h a j)))))) := by
  unfold cont
  rw [hk, if_neg (by omega), if_neg (by omega), if_neg (by omega)]
theorem cont_wr {G : Nat × Nat × Nat} {ca : Nat → ClassId} {h : AM} {r j v : Int} (a : Int) (ha : a ≠ r) : cont G ca (mwr h r j v) a = cont G ca h a := by
  have e : ∀ q, mrd (mwr h r j v) a q = mrd h a q := fun q => by simp [mrd, mwr, ha]
  have e1 : mkn (mwr h r j v) a = mkn h a := rfl
  have e2 : mln (mwr h r j v) a = mln h a := rfl
  simp only [cont, e, e1, e2]
theorem rd_wr (h : AM) (a i v b j : Int) : mrd (mwr h a i v) b j = if b = a ∧ j = i then v else mrd h b j := rfl
theorem okm_wr {h : AM} {a i v : Int} (hm : okm h) (h0 : tagk (mkn h a) i = 0 → in32 v) (h1 : tagk (mkn h a) i = 1 → in64 v) : okm (mwr h a i v) := by
  obtain ⟨m1, m2, m3, m4⟩ := hm
  refine ⟨m1, m2, fun b j => ?_, m4⟩
  rw [rd_wr]
  by_cases e : b = a ∧ j = i
  · obtain ⟨rfl, rfl⟩ := e
    rw [if_pos ⟨rfl, rfl⟩]
    exact ⟨h0, h1⟩
  · rw [if_neg e]
    exact m3 b j
theorem okm_al {h : AM} {k : Nat} {n : Int} {dv : Int → Int} (hm : okm h) (hn : 0 ≤ n ∧ n ≤ 1000000) (hd : ∀ j, (tagk k j = 0 → in32 (dv j)) ∧ (tagk k j = 1 → in64 (dv j))) : okm (mal h k n dv) := by
  obtain ⟨m1, m2, m3, m4⟩ := hm
  have m1 : 0 ≤ h.2.2.1 := m1
  refine ⟨?_, fun a => ?_, fun b j => ?_, m4⟩
  · show 0 ≤ h.2.2.1 + 1
    omega
  · show 0 ≤ (if a = h.2.2.1 then (k, n) else h.2.1 a).2 ∧ (if a = h.2.2.1 then (k, n) else h.2.1 a).2 ≤ 1000000
    split
    · exact hn
    · exact m2 a
  · show (tagk (if b = h.2.2.1 then (k, n) else h.2.1 b).1 j = 0 → in32 (if b = h.2.2.1 then dv j else h.1 b j)) ∧ (tagk (if b = h.2.2.1 then (k, n) else h.2.1 b).1 j = 1 → in64 (if b = h.2.2.1 then dv j else h.1 b j))
    split
    · exact hd j
    · exact m3 b j
theorem cont_al {G : Nat × Nat × Nat} {ca : Nat → ClassId} {h : AM} {k : Nat} {n : Int} {dv : Int → Int} {a : Int} (ha : a ≠ mnx h) : cont G ca (mal h k n dv) a = cont G ca h a := by
  have ha : a ≠ h.2.2.1 := ha
  have e : ∀ q, mrd (mal h k n dv) a q = mrd h a q := fun q => by simp [mrd, mal, ha]
  have e1 : mkn (mal h k n dv) a = mkn h a := by simp [mkn, mal, ha]
  have e2 : mln (mal h k n dv) a = mln h a := by simp [mln, mal, ha]
  simp only [cont, e, e1, e2]
theorem wl_al {G : Nat × Nat × Nat} {ca : Nat → ClassId} {h : AM} {k : Nat} {n : Int} {dv : Int → Int} (h0 : 0 ≤ mnx h) : wl G ca (mal h k n dv) = wl G ca h ++ [(G.1 + (mnx h).toNat, cont G ca (mal h k n dv) (mnx h))] := by
  unfold wl
  have e : (mnx (mal h k n dv)).toNat = (mnx h).toNat + 1 := by
    show (mnx h + 1).toNat = _
    omega
  rw [e, List.range_succ, List.map_append]
  congr 1
  · apply List.map_congr_left
    intro a ha
    rw [cont_al (by have := List.mem_range.mp ha; omega)]
  · simp only [List.map_cons, List.map_nil, Int.toNat_of_nonneg h0]
theorem al_kn {h : AM} {k : Nat} {n : Int} {dv : Int → Int} : mkn (mal h k n dv) (mnx h) = k := by simp [mkn, mal, mnx]
theorem al_ln {h : AM} {k : Nat} {n : Int} {dv : Int → Int} : mln (mal h k n dv) (mnx h) = n := by simp [mln, mal, mnx]
theorem al_rd {h : AM} {k : Nat} {n : Int} {dv : Int → Int} (j : Int) : mrd (mal h k n dv) (mnx h) j = dv j := by simp [mrd, mal, mnx]
section ME
variable {p : Program} {l : Launch} {e : Env} {R : Room} {s : State} {m : MethodId} {args : Array Value} {below : List Frame} {meth : Method} {c : Code} {H : Heap} {locs : List Loc} {cells slots : Nat} {Q : State → Prop}
variable {pc len k d sb : Nat} {LS : Array Slot} {G : Nat × Nat × Nat} {D : va_G} {ca : Nat → ClassId} {Hz : Heap} {sx : (Int → Int) × Int} {h : AM}
theorem W_sz {g : JFrame} (kk : H.size ≤ s.heap.size + cells → W p l e R s m args below meth c H locs cells slots Q g) : W p l e R s m args below meth c H locs cells slots Q g := fun T hT X => kk (by rw [← hT]; exact X.heapSize) T hT X
theorem Wo_S (hw : Wo D G ca Hz sx s.heap.size sb h H locs cells slots) : va_S (fun q => G.1 ≤ q) H H locs := ⟨Nat.le_refl _, fun _ _ _ => rfl, hw.2.2.1⟩
/-- behind a store -/
theorem Wo_st {h' : AM} {H1 : Heap} {locs1 : List Loc} (hw : Wo D G ca Hz sx s.heap.size sb h H locs cells slots) (hm : okm h') (hP : va_P D vwCl (wl G ca h') H1) (hS : va_S (fun q => G.1 ≤ q) H H1 locs1) (hn : h'.2 = h.2) : Wo D G ca Hz sx s.heap.size sb h' H1 locs1 cells slots := by
  obtain ⟨-, -, -, ⟨g1, g2⟩, w5, w6, w7⟩ := hw
  have e1 : mnx h' = mnx h := by unfold mnx; rw [hn]
  have e2 : msl h' = msl h := by unfold msl; rw [hn]
  exact ⟨hm, hP, hS.2.2, ⟨Nat.le_trans g1 hS.1, fun q hq => (hS.2.1 q (Nat.lt_of_lt_of_le hq g1) (Nat.not_le.mpr hq)).trans (g2 q hq)⟩, by rw [e1]; exact w5, by rw [e2]; exact w6, by rw [hn]; exact w7⟩
/-- behind a new cell: its address is the next one -/
theorem Wo_al {kd : Nat} {n : Int} {dv : Int → Int} {H1 : Heap} {q : Nat} {en : va_E} (hw : Wo D G ca Hz sx s.heap.size sb h H locs cells slots) (hm : okm (mal h kd n dv)) (hsz : H1.size ≤ s.heap.size + (cells + 1)) (hen : en = cont G ca (mal h kd n dv) (mnx h)) (hP : va_P D vwCl (wl G ca h ++ [(q, en)]) H1) (hD : va_D (fun q => G.1 ≤ q) (wl G ca h ++ [(q, en)])) (hS : va_S (fun q => G.1 ≤ q) H H1 locs) : q = G.1 + (mnx h).toNat ∧ Wo D G ca Hz sx s.heap.size sb (mal h kd n dv) H1 locs (cells + 1) (slots + n.toNat) := by
  obtain ⟨w1, -, w3, ⟨g1, g2⟩, w5, w6, w7⟩ := hw
  have h0 : 0 ≤ mnx h := w1.1
  have hl : (wl G ca h ++ [(q, en)])[(mnx h).toNat]? = some (q, en) := by
    rw [List.getElem?_append_right (by rw [wl_len]; omega), wl_len, Nat.sub_self]
    rfl
  have hq0 : G.1 ≤ q := hD.2 _ _ hl
  have hq1 : q < H1.size := (hP _ _ hl).lt
  have hq : q = G.1 + (mnx h).toNat := by
    rcases Nat.lt_or_ge q (G.1 + (mnx h).toNat) with hlt | hge
    · have hg : (wl G ca h ++ [(q, en)])[q - G.1]? = some (q, cont G ca h ((q - G.1 : Nat) : Int)) := by
        rw [List.getElem?_append_left (by rw [wl_len]; omega)]
        have := wl_get (G := G) (ca := ca) (h := h) (r := ((q - G.1 : Nat) : Int)) (by omega) (by omega)
        simp only [Int.toNat_natCast] at this
        rw [this]
        congr 2
        omega
      have := hD.1 _ _ _ _ hg hl rfl
      omega
    · omega
  refine ⟨hq, hm, ?_, w3, ⟨Nat.le_trans g1 hS.1, fun x hx => (hS.2.1 x (Nat.lt_of_lt_of_le hx g1) (Nat.not_le.mpr hx)).trans (g2 x hx)⟩, ?_, ?_, w7⟩
  · rw [wl_al h0, ← hq, ← hen]
    exact hP
  · show s.heap.size + (cells + 1) = G.1 + (mnx h + 1).toNat
    omega
  · show sb + (slots + n.toNat) = msl h + n.toNat
    omega
end ME
