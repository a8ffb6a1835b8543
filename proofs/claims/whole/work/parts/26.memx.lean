/-! memory: stores into arrays, new cells, the rest -/
theorem elemK_lt (kd : Nat) : elemK kd < 12 := by
  unfold elemK
  split
  · omega
  · split
    · omega
    · split <;> omega
section MX
variable {p : Program} {l : Launch} {e : Env} {R : Room} {s : State} {m : MethodId} {args : Array Value} {below : List Frame} {meth : Method} {c : Code} {H : Heap} {locs : List Loc} {cells slots : Nat} {Q : State → Prop}
variable {pc len k d sb : Nat} {LS : Array Slot} {G : Nat × Nat × Nat} {D : va_G} {ca : Nat → ClassId} {Hz : Heap} {sx : (Int → Int) × Int} {h : AM} {Sx : State → Prop} {st : List Value} {r j v : Int}
theorem wl_sti {kd : Nat} {x : Int32} {w : Int} (hj : in32 j) (hk : inA h r kd j) (h1 : 16 ≤ kd) (h2 : kd ≤ 18) (hx : x = Int32.ofInt w) : (wl G ca h).set r.toNat (G.1 + r.toNat, .inl (ca (kd - 16), (mln h r).toNat, .inl (upd (fun i : Nat => Int32.ofInt (mrd h r i)) (Int32.ofInt j).toNatClampNeg x))) = wl G ca (mwr h r j w) := by
  obtain ⟨⟨r0, r1, r2⟩, j0, j1⟩ := hk
  have hf : upd (fun i : Nat => Int32.ofInt (mrd h r i)) (Int32.ofInt j).toNatClampNeg x = (fun i : Nat => Int32.ofInt (mrd (mwr h r j w) r i)) := by
    funext i
    rw [clamp_ofI hj, rd_wr]
    by_cases ei : i = j.toNat
    · subst ei
      rw [if_pos ⟨rfl, by omega⟩, ← hx]
      simp [upd]
    · rw [if_neg (fun z => ei (by omega))]
      simp [upd, ei]
  rw [wl_set (h' := mwr h r j w) r0 r1 rfl (fun a ha => cont_wr a ha), cont_i (c := kd) (by exact r2) h1 h2, hf]
  rfl
theorem me_iast {kd : Nat} {w : Int} (C : Cx k d p R s m args meth c D G ca Hz sx Sx) (hw : Wo D G ca Hz sx s.heap.size sb h H locs cells slots) (hj : in32 j) (hv : in32 v) (hk : inA h r kd j) (hkd : (kd = 16 ∧ w = v ∧ decode (mcode k) pc = .ok (.iastore, 1)) ∨ (kd = 17 ∧ w = i1 (fun x => x.toInt8.toInt32) v ∧ decode (mcode k) pc = .ok (.bastore, 1)) ∨ (kd = 18 ∧ (v = 0 ∨ v = 1) ∧ w = v ∧ decode (mcode k) pc = .ok (.bastore, 1)))
    (kk : ∀ (H1 : Heap) (locs1 : List Loc), Wo D G ca Hz sx s.heap.size sb (mwr h r j w) H1 locs1 cells slots → W p l e R s m args below meth c H1 locs1 cells slots Q (F0 m (pc + 1) LS st)) : W p l e R s m args below meth c H locs cells slots Q (F0 m pc LS (cv G (0, v) :: cv G (0, j) :: cv G (2, r) :: st)) := by
  obtain ⟨hx, hb, hml, hown, hts, hin, hK, hfr, hlo, hSx, hbz, hX⟩ := C
  have hk' := hk
  obtain ⟨⟨r0, r1, r2⟩, j0, j1⟩ := hk
  rw [cv_pos r0]
  have he := wl_get (G := G) (ca := ca) r0 r1
  have hb1 := (hw.1.2.1 r).1
  have hin2 : vp_in (Int32.ofInt j) (mln h r).toNat := in_of hj j0 (by omega)
  have hm : in32 w → 16 ≤ kd → kd ≤ 18 → okm (mwr h r j w) := fun hw1 q1 q2 => okm_wr hw.1 (fun _ => hw1) (fun z => by rw [r2, tagk, if_neg (by omega), if_pos q2] at z; cases z)
  rcases hkd with ⟨rfl, rfl, hd⟩ | ⟨rfl, rfl, hd⟩ | ⟨rfl, h01, rfl, hd⟩
  · rw [cont_i r2 (by omega) (by omega)] at he
    refine va_iast hx hb hK hw.2.1 (wl_D G ca h) (Wo_S hw) r.toNat 0 he rfl hin2 hd (fun H1 locs1 hP _ hS => kk H1 locs1 (Wo_st hw (hm hv (by omega) (by omega)) ?_ hS rfl))
    rw [← wl_sti hj hk' (by omega) (by omega) rfl]
    exact hP
  · rw [cont_i r2 (by omega) (by omega)] at he
    refine va_bast hx hb hK hw.2.1 (wl_D G ca h) (Wo_S hw) r.toNat 1 he rfl hin2 hd (fun H1 locs1 hP _ hS => kk H1 locs1 (Wo_st hw (hm (in32_toInt _) (by omega) (by omega)) ?_ hS rfl))
    rw [← wl_sti (w := i1 (fun x => x.toInt8.toInt32) v) (x := vp_nar .byte (Int32.ofInt v)) hj hk' (by omega) (by omega) (by rw [vp_nar_byte, i1, Int32.ofInt_toInt])]
    exact hP
  · rw [cont_i r2 (by omega) (by omega)] at he
    refine va_zast hx hb hK hw.2.1 (wl_D G ca h) (Wo_S hw) r.toNat 2 he rfl hin2 hd (fun H1 locs1 hP _ hS => kk H1 locs1 (Wo_st hw (hm hv (by omega) (by omega)) ?_ hS rfl))
    rw [← wl_sti (x := vp_nar .boolean (Int32.ofInt w)) hj hk' (by omega) (by omega) (by rcases h01 with rfl | rfl <;> decide)]
    exact hP
theorem me_last (C : Cx k d p R s m args meth c D G ca Hz sx Sx) (hw : Wo D G ca Hz sx s.heap.size sb h H locs cells slots) (hj : in32 j) (hv : in64 v) (hk : inA h r 19 j) (hd : decode (mcode k) pc = .ok (.lastore, 1))
    (kk : ∀ (H1 : Heap) (locs1 : List Loc), Wo D G ca Hz sx s.heap.size sb (mwr h r j v) H1 locs1 cells slots → W p l e R s m args below meth c H1 locs1 cells slots Q (F0 m (pc + 1) LS st)) : W p l e R s m args below meth c H locs cells slots Q (F0 m pc LS (cv G (1, v) :: cv G (0, j) :: cv G (2, r) :: st)) := by
  obtain ⟨hx, hb, hml, hown, hts, hin, hK, hfr, hlo, hSx, hbz, hX⟩ := C
  obtain ⟨⟨r0, r1, r2⟩, j0, j1⟩ := hk
  rw [cv_pos r0]
  have he := wl_get (G := G) (ca := ca) r0 r1
  have hb1 := (hw.1.2.1 r).1
  have hin2 : vp_in (Int32.ofInt j) (mln h r).toNat := in_of hj j0 (by omega)
  have hm : okm (mwr h r j v) := okm_wr hw.1 (fun z => by rw [r2] at z; cases z) (fun _ => hv)
  rw [cont_l r2] at he
  refine va_last hx hb hK hw.2.1 (wl_D G ca h) (Wo_S hw) r.toNat 3 he rfl hin2 hd (fun H1 locs1 hP _ hS => kk H1 locs1 (Wo_st hw hm ?_ hS rfl))
  have e : (wl G ca h).set r.toNat (G.1 + r.toNat, .inl (ca 3, (mln h r).toNat, .inr (.inl (vp_updL (fun i : Nat => Int64.ofInt (mrd h r i)) (Int32.ofInt j).toNatClampNeg (Int64.ofInt v))))) = wl G ca (mwr h r j v) := by
    have hf : vp_updL (fun i : Nat => Int64.ofInt (mrd h r i)) (Int32.ofInt j).toNatClampNeg (Int64.ofInt v) = (fun i : Nat => Int64.ofInt (mrd (mwr h r j v) r i)) := by
      funext i
      rw [clamp_ofI hj, rd_wr]
      by_cases ei : i = j.toNat
      · subst ei
        rw [if_pos ⟨rfl, by omega⟩]
        simp [vp_updL]
      · rw [if_neg (fun z => ei (by omega))]
        simp [vp_updL, ei]
    rw [wl_set (h' := mwr h r j v) r0 r1 rfl (fun a ha => cont_wr a ha), cont_l (by exact r2), hf]
    rfl
  rw [← e]
  exact hP
theorem me_aast {kd : Nat} (C : Cx k d p R s m args meth c D G ca Hz sx Sx) (hw : Wo D G ca Hz sx s.heap.size sb h H locs cells slots) (hj : in32 j) (hk : inA h r kd j) (h20 : 20 ≤ kd) (h24 : kd < 24) (hv : isK h v (elemK kd)) (hd : decode (mcode k) pc = .ok (.aastore, 1))
    (kk : ∀ (H1 : Heap) (locs1 : List Loc), Wo D G ca Hz sx s.heap.size sb (mwr h r j v) H1 locs1 cells slots → W p l e R s m args below meth c H1 locs1 cells slots Q (F0 m (pc + 1) LS st)) : W p l e R s m args below meth c H locs cells slots Q (F0 m pc LS (cv G (2, v) :: cv G (0, j) :: cv G (2, r) :: st)) := by
  obtain ⟨hx, hb, hml, hown, hts, hin, hK, hfr, hlo, hSx, hbz, hX⟩ := C
  obtain ⟨⟨r0, r1, r2⟩, j0, j1⟩ := hk
  rw [cv_pos r0, cv_pos hv.1]
  have he := wl_get (G := G) (ca := ca) r0 r1
  have hev := wl_get (G := G) (ca := ca) hv.1 hv.2.1
  have hb1 := (hw.1.2.1 r).1
  have hin2 : vp_in (Int32.ofInt j) (mln h r).toNat := in_of hj j0 (by omega)
  have hm : okm (mwr h r j v) := okm_wr hw.1 (fun z => by rw [r2, tagk, if_neg (by omega), if_neg (by omega), if_neg (by omega)] at z; cases z) (fun z => by rw [r2, tagk, if_neg (by omega), if_neg (by omega), if_neg (by omega)] at z; cases z)
  rw [cont_q r2 h20] at he
  have hcl : elemK kd < 12 := elemK_lt kd
  rw [cont_ob hv.2.2 hcl] at hev
  obtain ⟨c1, -⟩ := cl_all _ hcl
  have ht : (tysL ca)[kd - 16]? = some (ca (kd - 16), .object (cname (elemK kd))) := by
    rcases (show kd = 20 ∨ kd = 21 ∨ kd = 22 ∨ kd = 23 by omega) with rfl | rfl | rfl | rfl <;> rfl
  refine va_astq hx hb hK hw.2.1 (wl_D G ca h) (Wo_S hw) r.toNat (kd - 16) v.toNat (elemK kd) (r := (cname (elemK kd), cT (elemK kd), cNF (elemK kd))) he ht hev c1 hin2 hd (fun H1 locs1 hP _ hS => kk H1 locs1 (Wo_st hw hm ?_ hS rfl))
  have e : (wl G ca h).set r.toNat (G.1 + r.toNat, .inl (ca (kd - 16), (mln h r).toNat, .inr (.inr (.inr (.inr (va_up (fun i : Nat => cvo G (mrd h r i)) (Int32.ofInt j).toNatClampNeg (some (G.1 + v.toNat)))))))) = wl G ca (mwr h r j v) := by
    have hf : va_up (fun i : Nat => cvo G (mrd h r i)) (Int32.ofInt j).toNatClampNeg (some (G.1 + v.toNat)) = (fun i : Nat => cvo G (mrd (mwr h r j v) r i)) := by
      funext i
      rw [clamp_ofI hj, rd_wr]
      by_cases ei : i = j.toNat
      · subst ei
        rw [if_pos ⟨rfl, by omega⟩, cvo, if_pos hv.1]
        simp [va_up]
      · rw [if_neg (fun z => ei (by omega))]
        simp [va_up, ei]
    rw [wl_set (h' := mwr h r j v) r0 r1 rfl (fun a ha => cont_wr a ha), cont_q (c := kd) (by exact r2) h20, hf]
    rfl
  rw [← e]
  exact hP
theorem me_alen (C : Cx k d p R s m args meth c D G ca Hz sx Sx) (hw : Wo D G ca Hz sx s.heap.size sb h H locs cells slots) (hk : isK h r 19) (hd : decode (mcode k) pc = .ok (.arraylength, 1))
    (kk : W p l e R s m args below meth c H locs cells slots Q (F0 m (pc + 1) LS (cv G (0, mln h r) :: st))) : W p l e R s m args below meth c H locs cells slots Q (F0 m pc LS (cv G (2, r) :: st)) := by
  obtain ⟨hx, hb, hml, hown, hts, hin, hK, hfr, hlo, hSx, hbz, hX⟩ := C
  obtain ⟨r0, r1, r2⟩ := hk
  rw [cv_pos r0]
  have he := wl_get (G := G) (ca := ca) r0 r1
  rw [cont_l r2] at he
  have hb1 := hw.1.2.1 r
  refine va_alen hx hb hK hw.2.1 r.toNat 3 he (ty := .long) rfl (v := Int32.ofInt (mln h r)) ?_ hd kk
  show Int32.ofNat (mln h r).toNat = _
  rw [← Int32.toInt_inj, in32_of ⟨by omega, by omega⟩, Int32.toInt_ofNat_of_lt (by omega)]
  omega
theorem me_new {ix cl : Nat} (C : Cx k d p R s m args meth c D G ca Hz sx Sx) (hw : Wo D G ca Hz sx s.heap.size sb h H locs cells slots) (ht : tcls (own k) ix = some cl) (hcl : cl < 12) (hbc : G.1 + (mnx h).toNat + 1 ≤ s.heap.size + R.cells) (hbs : msl h + cNF cl ≤ sb + R.slots) (hd : decode (mcode k) pc = .ok (.new ix, 3))
    (kk : ∀ H1 : Heap, Wo D G ca Hz sx s.heap.size sb (mal h cl (cNF cl) (dflt cl)) H1 locs (cells + 1) (slots + cNF cl) → W p l e R s m args below meth c H1 locs (cells + 1) (slots + cNF cl) Q (F0 m (pc + 3) LS (cv G (2, mnx h) :: st))) : W p l e R s m args below meth c H locs cells slots Q (F0 m pc LS st) := by
  obtain ⟨hx, hb, hml, hown, hts, hin, hK, hfr, hlo, hSx, hbz, hX⟩ := C
  have f1 := kk_all _ _ (lk_mem ht) hcl
  obtain ⟨c1, c2, c3, c4, c5, c6⟩ := cl_all cl hcl
  obtain ⟨w1, w2, w3, w4, w5, w6, w7⟩ := id hw
  have hm : okm (mal h cl (cNF cl) (dflt cl)) := okm_al w1 ⟨by omega, by
    have : cNF cl ≤ 100 := by
      have : ∀ c, c < 12 → cNF c ≤ 100 := by decide
      exact this cl hcl
    omega⟩ (fun j => by unfold dflt; split <;> exact ⟨fun _ => ⟨by decide, by decide⟩, fun _ => ⟨by decide, by decide⟩⟩)
  refine va_new (own := cname (own k)) (C := cname cl) (T := cT cl) (N := cNF cl) (ci := cl) (Ts := lwg) (fs := (List.range (cNF cl)).map (fun j => cv G (ftag cl j, dflt cl j))) hx hb hts (lgu c2) (cty cl) c3 hown (hts _ (lg f1)) (hts _ (lg c5)) (hts _ (lg c6)) hK w2 (wl_D G ca h) (Wo_S hw) (fun q hq => Nat.le_trans w4.1 hq) c1 ?_ (by omega) (by omega) hd (fun q H1 hP hD hS => ?_)
  · intro j hj
    unfold vp_V
    rw [List.getD_eq_getElem?_getD, List.getElem?_map, List.getElem?_range hj]
    simp only [Option.map_some, Option.getD_some]
    have g := gt_all cl hcl j hj
    unfold dflt ftag
    rw [Int.toNat_natCast]
    cases hty : cty cl j with
    | int => rfl
    | boolean => rfl
    | long => rfl
    | object C => rfl
    | array C => rfl
    | _ => rw [hty] at g; cases g
  · refine W_sz (fun hsz => ?_)
    obtain ⟨rfl, hw'⟩ := Wo_al (kd := cl) (n := cNF cl) (dv := dflt cl) hw hm hsz (by rw [cont_ob al_kn hcl]; simp only [al_rd]) hP hD hS
    rw [Int.toNat_natCast] at hw'
    have := kk H1 hw'
    rw [cv_pos w1.1] at this
    exact this
theorem me_newa {at_ : ArrayType} {kd : Nat} {n : Int} (C : Cx k d p R s m args meth c D G ca Hz sx Sx) (hw : Wo D G ca Hz sx s.heap.size sb h H locs cells slots) (hn : 0 ≤ n ∧ n ≤ 1000000) (hat : (at_ = .int ∧ kd = 16) ∨ (at_ = .byte ∧ kd = 17) ∨ (at_ = .boolean ∧ kd = 18) ∨ (at_ = .long ∧ kd = 19)) (hbc : G.1 + (mnx h).toNat + 1 ≤ s.heap.size + R.cells) (hbs : msl h + n.toNat ≤ sb + R.slots) (hd : decode (mcode k) pc = .ok (.newarray at_, 2))
    (kk : ∀ H1 : Heap, Wo D G ca Hz sx s.heap.size sb (mal h kd n (fun _ => 0)) H1 locs (cells + 1) (slots + n.toNat) → W p l e R s m args below meth c H1 locs (cells + 1) (slots + n.toNat) Q (F0 m (pc + 2) LS (cv G (2, mnx h) :: st))) : W p l e R s m args below meth c H locs cells slots Q (F0 m pc LS (cv G (0, n) :: st)) := by
  obtain ⟨hx, hb, hml, hown, hts, hin, hK, hfr, hlo, hSx, hbz, hX⟩ := C
  obtain ⟨w1, w2, w3, w4, w5, w6, w7⟩ := id hw
  have hm : okm (mal h kd n (fun _ => 0)) := okm_al w1 hn (fun j => ⟨fun _ => ⟨by decide, by decide⟩, fun _ => ⟨by decide, by decide⟩⟩)
  have hn32 : in32 n := ⟨by omega, by omega⟩
  have hneg : ¬ Int32.ofInt n < 0 := fun q => by
    have := (of32_lt (b := 0) hn32 ⟨by decide, by decide⟩).mp q
    omega
  have fin : ∀ (ty : FieldType) (q : Nat) (cA : ClassId) (H1 : Heap) (x : vp_A), (tysL ca)[kd - 16]? = some (ca (kd - 16), ty) → (∀ C, ty ≠ .object C) → cont G ca (mal h kd n (fun _ => 0)) (mnx h) = .inl (ca (kd - 16), x) → va_K D vwCl (tysL ca ++ [(cA, ty)]) s → va_P D vwCl (wl G ca h ++ [(q, .inl (cA, x))]) H1 → va_D (fun q => G.1 ≤ q) (wl G ca h ++ [(q, .inl (cA, x))]) → va_S (fun q => G.1 ≤ q) H H1 locs → W p l e R s m args below meth c H1 locs (cells + 1) (slots + n.toNat) Q (F0 m (pc + 2) LS (.ref q :: st)) := by
    intro ty q cA H1 x ht hno hc hK2 hP hD hS
    have e1 := (hK.2 _ _ ht).2
    have e2 := (hK2.2 (tysL ca).length (cA, ty) (by rw [List.getElem?_append_right (Nat.le_refl _), Nat.sub_self]; rfl)).2
    have hA : cA = ca (kd - 16) := by
      cases ty with
      | object C => exact absurd rfl (hno C)
      | _ => exact Option.some.inj (Eq.trans (Eq.symm e2) e1)
    subst hA
    refine W_sz (fun hsz => ?_)
    obtain ⟨rfl, hw'⟩ := Wo_al (kd := kd) (n := n) (dv := fun _ => 0) hw hm hsz hc.symm hP hD hS
    have := kk H1 hw'
    rw [cv_pos w1.1] at this
    exact this
  have e0 : ∀ (cA : ClassId) (f : Nat → Int32), (∀ i, f i = 0) → vp_cell cA (n.toNat, .inl f) = arrV cA n.toNat (fun _ => .int 0) := fun cA f hf => by
    rw [vp_cell_i]
    congr 1
    funext i
    rw [hf]
  rcases hat with ⟨rfl, rfl⟩ | ⟨rfl, rfl⟩ | ⟨rfl, rfl⟩ | ⟨rfl, rfl⟩
  · refine va_newa (atype := .int) (ty := .int) (a0 := (n.toNat, .inl (fun _ => 0))) hx hb (hts _ (lg wd_a_int)) rfl hK w2 (wl_D G ca h) (Wo_S hw) (fun q hq => Nat.le_trans w4.1 hq) (fun cA => e0 cA _ (fun _ => rfl)) hneg (clamp_ofI hn32) (by show n.toNat * 4 ≤ _; omega) (by omega) (by omega) hd (fun q cA H1 hK2 hP hD hS => fin .int q cA H1 _ rfl (fun C h => by cases h) ?_ hK2 hP hD hS)
    rw [cont_i al_kn (by omega) (by omega), al_ln]
    simp only [al_rd]
    rfl
  · refine va_newa (atype := .byte) (ty := .byte) (a0 := (n.toNat, .inl (fun _ => 0))) hx hb (hts _ (lg wd_a_byte)) rfl hK w2 (wl_D G ca h) (Wo_S hw) (fun q hq => Nat.le_trans w4.1 hq) (fun cA => e0 cA _ (fun _ => rfl)) hneg (clamp_ofI hn32) (by show n.toNat * 1 ≤ _; omega) (by omega) (by omega) hd (fun q cA H1 hK2 hP hD hS => fin .byte q cA H1 _ rfl (fun C h => by cases h) ?_ hK2 hP hD hS)
    rw [cont_i al_kn (by omega) (by omega), al_ln]
    simp only [al_rd]
    rfl
  · refine va_newa (atype := .boolean) (ty := .boolean) (a0 := (n.toNat, .inl (fun _ => 0))) hx hb (hts _ (lg wd_a_boolean)) rfl hK w2 (wl_D G ca h) (Wo_S hw) (fun q hq => Nat.le_trans w4.1 hq) (fun cA => e0 cA _ (fun _ => rfl)) hneg (clamp_ofI hn32) (by show n.toNat * 1 ≤ _; omega) (by omega) (by omega) hd (fun q cA H1 hK2 hP hD hS => fin .boolean q cA H1 _ rfl (fun C h => by cases h) ?_ hK2 hP hD hS)
    rw [cont_i al_kn (by omega) (by omega), al_ln]
    simp only [al_rd]
    rfl
  · refine va_newa (atype := .long) (ty := .long) (a0 := (n.toNat, .inr (.inl (fun _ => 0)))) hx hb (hts _ (lg wd_a_long)) rfl hK w2 (wl_D G ca h) (Wo_S hw) (fun q hq => Nat.le_trans w4.1 hq) (fun cA => by rw [vp_cell_l]; rfl) hneg (clamp_ofI hn32) (by show n.toNat * 8 ≤ _; omega) (by omega) (by omega) hd (fun q cA H1 hK2 hP hD hS => fin .long q cA H1 _ rfl (fun C h => by cases h) ?_ hK2 hP hD hS)
    rw [cont_l al_kn, al_ln]
    simp only [al_rd]
    rfl
theorem me_anew {ix kd cl : Nat} {n : Int} (C : Cx k d p R s m args meth c D G ca Hz sx Sx) (hw : Wo D G ca Hz sx s.heap.size sb h H locs cells slots) (hn : 0 ≤ n ∧ n ≤ 1000000) (hcl : tcls (own k) ix = some cl) (h20 : 20 ≤ kd) (h24 : kd < 24) (hek : cl = elemK kd) (hbc : G.1 + (mnx h).toNat + 1 ≤ s.heap.size + R.cells) (hbs : msl h + n.toNat ≤ sb + R.slots) (hd : decode (mcode k) pc = .ok (.anewarray ix, 3))
    (kk : ∀ H1 : Heap, Wo D G ca Hz sx s.heap.size sb (mal h kd n (fun _ => -1)) H1 locs (cells + 1) (slots + n.toNat) → W p l e R s m args below meth c H1 locs (cells + 1) (slots + n.toNat) Q (F0 m (pc + 3) LS (cv G (2, mnx h) :: st))) : W p l e R s m args below meth c H locs cells slots Q (F0 m pc LS (cv G (0, n) :: st)) := by
  obtain ⟨hx, hb, hml, hown, hts, hin, hK, hfr, hlo, hSx, hbz, hX⟩ := C
  obtain ⟨w1, w2, w3, w4, w5, w6, w7⟩ := id hw
  have hm : okm (mal h kd n (fun _ => -1)) := okm_al w1 hn (fun j => ⟨fun _ => ⟨by decide, by decide⟩, fun _ => ⟨by decide, by decide⟩⟩)
  have hn32 : in32 n := ⟨by omega, by omega⟩
  have hneg : ¬ Int32.ofInt n < 0 := fun q => by
    have := (of32_lt (b := 0) hn32 ⟨by decide, by decide⟩).mp q
    omega
  have hlt : cl < 12 := by rw [hek]; exact elemK_lt kd
  have f1 := kk_all _ _ (lk_mem hcl) hlt
  dsimp only at f1
  have ht : (tysL ca)[kd - 16]? = some (ca (kd - 16), .object (cname cl)) ∧ va_AO (cname cl) s := by
    rcases (show kd = 20 ∨ kd = 21 ∨ kd = 22 ∨ kd = 23 by omega) with rfl | rfl | rfl | rfl <;> subst hek
    · exact ⟨rfl, hSx.2.1.1⟩
    · exact ⟨rfl, hSx.2.1.2.1⟩
    · exact ⟨rfl, hSx.2.1.2.2.1⟩
    · exact ⟨rfl, hSx.2.1.2.2.2⟩
  refine va_newq (own := cname (own k)) (C := cname cl) hx hb hown (hts _ (lg f1)) ht.2 hK w2 (wl_D G ca h) (Wo_S hw) (fun q hq => Nat.le_trans w4.1 hq) hneg (clamp_ofI hn32) (by omega) (by omega) (by omega) hd (fun q cA H1 hK2 hP hD hS => ?_)
  have e1 := (hK.2 _ _ ht.1).2
  have e2 := (hK2.2 (tysL ca).length (cA, .object (cname cl)) (by rw [List.getElem?_append_right (Nat.le_refl _), Nat.sub_self]; rfl)).2
  have hA : cA = ca (kd - 16) := by
    obtain ⟨-, -, -, -, -, q1⟩ := e1
    obtain ⟨-, -, -, -, -, q2⟩ := e2
    exact Option.some.inj (q2.symm.trans q1)
  subst hA
  refine W_sz (fun hsz => ?_)
  obtain ⟨rfl, hw'⟩ := Wo_al (kd := kd) (n := n) (dv := fun _ => -1) hw hm hsz (by rw [cont_q al_kn h20, al_ln]; simp only [al_rd]; rfl) hP hD hS
  have := kk H1 hw'
  rw [cv_pos w1.1] at this
  exact this
end MX
