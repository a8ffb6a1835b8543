/-! memory: the instructions one by one -/
def lwg : List Cond := lw_tbl.filter goodWord
theorem lg {w : Cond} (h : w ∈ lw_tbl) (g : goodWord w = true := by rfl) : w ∈ lwg := List.mem_filter.mpr ⟨h, g⟩
theorem lgu {C : String} {T : u_T} {N : Nat} (h : ∀ w ∈ u_ws C T N, w ∈ lw_tbl) : ∀ w ∈ u_ws C T N, w ∈ lwg := by
  intro w hw
  refine lg (h w hw) ?_
  obtain ⟨j, -, rfl⟩ := List.mem_map.mp hw
  unfold u_lay
  split <;> rfl
/-- the words that a call does not keep by itself -/
def Xw (U : State) : Prop := (va_AO RX8 U ∧ va_AO RX6 U ∧ va_AO RX2 U ∧ va_AO RX1 U) ∧ (Cond.arrayOver (.array .int)).before #[] U = true ∧ ∀ o ix k', tref o ix = some (k', 1) → k' < 328 → va_Nw (.methodLinkNest (cname o) ix (mname k') "LetterNames") U
def Cx (k d : Nat) (p : Program) (R : Room) (s : State) (m : MethodId) (args : Array Value) (meth : Method) (c : Code) (D : va_G) (G : Nat × Nat × Nat) (ca : Nat → ClassId) (Hz : Heap) (sx : (Int → Int) × Int) (Sx : State → Prop) : Prop := p.tables.exec = Jvm.exec ∧ c.code = mcode k ∧ c.maxLocals = mmaxL k ∧ s.vm.findClass (cname (own k)) = some m.cls ∧ (∀ w ∈ lwg, w.before args s = true) ∧ (tb_d k = 2 → meth.name = "<init>") ∧ va_K D vwCl (tysL ca) s ∧ d ≤ R.frames ∧ 100 * d ≤ R.locals ∧ (Sx s ∧ Xw s) ∧ G.2.1 < G.1 ∧ va_X G.2.1 sx.2.toNat (fun j => Int32.ofInt (sx.1 j)) s Hz
def gty : FieldType → Bool
  | .int => true
  | .boolean => true
  | .long => true
  | .object _ => true
  | .array _ => true
  | _ => false
theorem gt_all : ∀ c, c < 12 → ∀ j, j < cNF c → gty (cty c j) = true := by decide +kernel
theorem fin_own : ∀ c, c < 12 → ∀ j, j < cNF c → (cT c j).1 = cname c := by decide +kernel
theorem nf_ok {G : Nat × Nat × Nat} {ty : FieldType} {v : AV} (hg : gty ty = true) (ht : v.1 = tagOf ty) (hbool : ty = .boolean → v.2 = 0 ∨ v.2 = 1) : narrow ty (cv G v) = cv G v ∧ fits ty (cv G v) = true := by
  obtain ⟨t, x⟩ := v
  cases ty with
  | int => cases ht; exact ⟨rfl, rfl⟩
  | boolean =>
    cases ht
    rcases hbool rfl with e | e <;> dsimp only at e <;> subst e <;> rw [cv_i] <;> exact ⟨by decide, by decide⟩
  | long => cases ht; exact ⟨rfl, rfl⟩
  | object C =>
    cases ht
    rw [cv_r, cvr]
    cases cvo G x <;> exact ⟨rfl, rfl⟩
  | array C =>
    cases ht
    rw [cv_r, cvr]
    cases cvo G x <;> exact ⟨rfl, rfl⟩
  | _ => cases hg
theorem rg_set {α : Type} {N j : Nat} {f : Nat → α} {x : α} : ((List.range N).map f).set j x = (List.range N).map (fun i => if i = j then x else f i) := by
  apply List.ext_getElem?
  intro k
  by_cases hN : k < N
  · by_cases e : k = j
    · subst e
      rw [List.getElem?_set_self (by simpa using hN), List.getElem?_map, List.getElem?_range hN]
      simp
    · rw [List.getElem?_set_ne (fun q => e q.symm), List.getElem?_map, List.getElem?_map, List.getElem?_range hN]
      simp [e]
  · rw [List.getElem?_eq_none (by simp; omega), List.getElem?_eq_none (by simp; omega)]
section MW
variable {p : Program} {l : Launch} {e : Env} {R : Room} {s : State} {m : MethodId} {args : Array Value} {below : List Frame} {meth : Method} {c : Code} {H : Heap} {locs : List Loc} {cells slots : Nat} {Q : State → Prop}
variable {pc len k d sb : Nat} {LS : Array Slot} {G : Nat × Nat × Nat} {D : va_G} {ca : Nat → ClassId} {Hz : Heap} {sx : (Int → Int) × Int} {h : AM} {Sx : State → Prop} {st : List Value} {r j v : Int}
theorem me_getf {ix cl fj : Nat} (C : Cx k d p R s m args meth c D G ca Hz sx Sx) (hw : Wo D G ca Hz sx s.heap.size sb h H locs cells slots) (hd : decode (mcode k) pc = .ok (.getfield ix, 3)) (ht : tfld (own k) ix = some (cl, fj)) (hk : isK h r cl)
    (kk : W p l e R s m args below meth c H locs cells slots Q (F0 m (pc + 3) LS (cv G (ftag cl fj, mrd h r fj) :: st))) : W p l e R s m args below meth c H locs cells slots Q (F0 m pc LS (cv G (2, r) :: st)) := by
  obtain ⟨hx, hb, hml, hown, hts, hin, hK, hfr, hlo, hSx, hbz, hX⟩ := C
  obtain ⟨f1, f2, f3⟩ := fk_all _ _ (lk_mem ht)
  obtain ⟨c1, c2, c3, c4, c5, c6⟩ := cl_all cl f1
  rw [cv_pos hk.1]
  have he := wl_get (G := G) (ca := ca) hk.1 hk.2.1
  rw [cont_ob hk.2.2 f1] at he
  refine va_get (own := cname (own k)) (ref := (cT cl fj).1) (C := cname cl) (T := cT cl) (N := cNF cl) (ci := cl) (Ts := lwg) hx hb hts (lgu c2) hown hK hw.2.1 r.toNat he c1 fj f2 (hts _ (lg f3)) (fun _ q => q) ?_ hd kk
  rw [List.getElem?_map, List.getElem?_range f2]
  rfl
theorem me_putf {ix cl fj : Nat} {u : AV} (C : Cx k d p R s m args meth c D G ca Hz sx Sx) (hw : Wo D G ca Hz sx s.heap.size sb h H locs cells slots) (hd : decode (mcode k) pc = .ok (.putfield ix, 3)) (ht : tfld (own k) ix = some (cl, fj)) (hk : isK h r cl) (hu : okv u) (htag : u.1 = ftag cl fj) (hfin : (cT cl fj).2.2.2 = false ∨ (tb_d k = 2 ∧ own k = cl)) (hbool : cty cl fj = .boolean → u.2 = 0 ∨ u.2 = 1)
    (kk : ∀ (H1 : Heap) (locs1 : List Loc), Wo D G ca Hz sx s.heap.size sb (mwr h r fj u.2) H1 locs1 cells slots → W p l e R s m args below meth c H1 locs1 cells slots Q (F0 m (pc + 3) LS st)) : W p l e R s m args below meth c H locs cells slots Q (F0 m pc LS (cv G u :: cv G (2, r) :: st)) := by
  obtain ⟨hx, hb, hml, hown, hts, hin, hK, hfr, hlo, hSx, hbz, hX⟩ := C
  obtain ⟨f1, f2, f3⟩ := fk_all _ _ (lk_mem ht)
  dsimp only at f1 f2 f3
  obtain ⟨c1, c2, c3, c4, c5, c6⟩ := cl_all cl f1
  rw [cv_pos hk.1]
  have he := wl_get (G := G) (ca := ca) hk.1 hk.2.1
  rw [cont_ob hk.2.2 f1] at he
  obtain ⟨n1, n2⟩ := nf_ok (G := G) (gt_all cl f1 fj f2) htag hbool
  have hl : fj < ((List.range (cNF cl)).map (fun j => cv G (ftag cl j, mrd h r j))).length := by simpa using f2
  have hm : okm (mwr h r fj u.2) := by
    have e1 : tagk (mkn h r) fj = ftag cl fj := by rw [hk.2.2, tagk, if_pos (by omega), Int.toNat_natCast]
    exact okm_wr hw.1 (fun z => hu.1 (by rw [htag, ← e1]; exact z)) (fun z => hu.2 (by rw [htag, ← e1]; exact z))
  have hset : (wl G ca h).set r.toNat (G.1 + r.toNat, .inr (cl, ((List.range (cNF cl)).map (fun j => cv G (ftag cl j, mrd h r j))).set fj (cv G u))) = wl G ca (mwr h r fj u.2) := by
    rw [wl_set (h' := mwr h r fj u.2) hk.1 hk.2.1 rfl (fun a ha => cont_wr a ha), cont_ob (c := cl) (by exact hk.2.2) f1, rg_set]
    congr 4
    apply List.map_congr_left
    intro i _
    by_cases ei : i = fj
    · subst ei
      rw [if_pos rfl, rd_wr, if_pos ⟨rfl, rfl⟩, ← htag]
    · rw [if_neg ei, rd_wr, if_neg (fun z => ei (by omega))]
  have go := fun (H1 : Heap) (locs1 : List Loc) (hP : va_P D vwCl ((wl G ca h).set r.toNat (G.1 + r.toNat, .inr (cl, ((List.range (cNF cl)).map (fun j => cv G (ftag cl j, mrd h r j))).set fj (cv G u)))) H1) (_ : va_D (fun q => G.1 ≤ q) ((wl G ca h).set r.toNat (G.1 + r.toNat, .inr (cl, ((List.range (cNF cl)).map (fun j => cv G (ftag cl j, mrd h r j))).set fj (cv G u))))) (hS : va_S (fun q => G.1 ≤ q) H H1 locs1) => kk H1 locs1 (Wo_st hw hm (by rw [← hset]; exact hP) hS rfl)
  by_cases hff : (cT cl fj).2.2.2 = false
  · exact va_put (own := cname (own k)) (ref := (cT cl fj).1) (C := cname cl) (T := cT cl) (N := cNF cl) (ci := cl) (Ts := lwg) (v := cv G u) (ty := cty cl fj) hx hb hts (lgu c2) (cty cl) c3 c4 hown hK hw.2.1 (wl_D G ca h) (Wo_S hw) r.toNat he c1 fj f2 (hts _ (lg f3)) (fun _ q => q) hff (c3 fj f2) n1 n2 hl hd go
  · rcases hfin with hf | ⟨hi, ho⟩
    · exact absurd hf hff
    · exact va_putF (own := cname (own k)) (ref := (cT cl fj).1) (C := cname cl) (T := cT cl) (N := cNF cl) (ci := cl) (Ts := lwg) (v := cv G u) (ty := cty cl fj) hx hb hts (lgu c2) (cty cl) c3 c4 hown hK hw.2.1 (wl_D G ca h) (Wo_S hw) r.toNat he c1 fj f2 (hts _ (lg f3)) (fun _ q => q) (by simpa using hff) (hin hi) (by rw [fin_own cl f1 fj f2, ho]) (c3 fj f2) n1 n2 hl hd go
theorem me_iald {kd : Nat} (C : Cx k d p R s m args meth c D G ca Hz sx Sx) (hw : Wo D G ca Hz sx s.heap.size sb h H locs cells slots) (hj : in32 j) (hk : inA h r kd j) (hkd : kd = 16 ∧ decode (mcode k) pc = .ok (.iaload, 1) ∨ (kd = 17 ∨ kd = 18) ∧ decode (mcode k) pc = .ok (.baload, 1))
    (kk : W p l e R s m args below meth c H locs cells slots Q (F0 m (pc + 1) LS (cv G (0, mrd h r j) :: st))) : W p l e R s m args below meth c H locs cells slots Q (F0 m pc LS (cv G (0, j) :: cv G (2, r) :: st)) := by
  obtain ⟨hx, hb, hml, hown, hts, hin, hK, hfr, hlo, hSx, hbz, hX⟩ := C
  obtain ⟨⟨r0, r1, r2⟩, j0, j1⟩ := hk
  rw [cv_pos r0]
  have he := wl_get (G := G) (ca := ca) r0 r1
  have hb1 := (hw.1.2.1 r).1
  have hv : vp_in (Int32.ofInt j) (mln h r).toNat := in_of hj j0 (by omega)
  have kk' : W p l e R s m args below meth c H locs cells slots Q (F0 m (pc + 1) LS (.int ((fun i : Nat => Int32.ofInt (mrd h r i)) (Int32.ofInt j).toNatClampNeg) :: st)) := by
    dsimp only
    rw [clamp_ofI hj, Int.toNat_of_nonneg j0]
    exact kk
  rcases hkd with ⟨rfl, hd⟩ | ⟨rfl | rfl, hd⟩
  · rw [cont_i r2 (by omega) (by omega)] at he
    exact va_iald hx hb hK hw.2.1 r.toNat 0 he rfl hv hd kk'
  · rw [cont_i r2 (by omega) (by omega)] at he
    exact va_bald hx hb hK hw.2.1 r.toNat 1 he rfl hv hd kk'
  · rw [cont_i r2 (by omega) (by omega)] at he
    exact va_zald hx hb hK hw.2.1 r.toNat 2 he rfl hv hd kk'
theorem me_lald (C : Cx k d p R s m args meth c D G ca Hz sx Sx) (hw : Wo D G ca Hz sx s.heap.size sb h H locs cells slots) (hj : in32 j) (hk : inA h r 19 j) (hd : decode (mcode k) pc = .ok (.laload, 1))
    (kk : W p l e R s m args below meth c H locs cells slots Q (F0 m (pc + 1) LS (cv G (1, mrd h r j) :: st))) : W p l e R s m args below meth c H locs cells slots Q (F0 m pc LS (cv G (0, j) :: cv G (2, r) :: st)) := by
  obtain ⟨hx, hb, hml, hown, hts, hin, hK, hfr, hlo, hSx, hbz, hX⟩ := C
  obtain ⟨⟨r0, r1, r2⟩, j0, j1⟩ := hk
  rw [cv_pos r0]
  have he := wl_get (G := G) (ca := ca) r0 r1
  have hb1 := (hw.1.2.1 r).1
  have hv : vp_in (Int32.ofInt j) (mln h r).toNat := in_of hj j0 (by omega)
  rw [cont_l r2] at he
  refine va_lald hx hb hK hw.2.1 r.toNat 3 he rfl hv hd ?_
  dsimp only
  rw [clamp_ofI hj, Int.toNat_of_nonneg j0]
  exact kk
theorem me_aald {kd : Nat} (C : Cx k d p R s m args meth c D G ca Hz sx Sx) (hw : Wo D G ca Hz sx s.heap.size sb h H locs cells slots) (hj : in32 j) (hk : inA h r kd j) (h20 : 20 ≤ kd) (h24 : kd ≤ 24) (hd : decode (mcode k) pc = .ok (.aaload, 1))
    (kk : W p l e R s m args below meth c H locs cells slots Q (F0 m (pc + 1) LS (cv G (2, mrd h r j) :: st))) : W p l e R s m args below meth c H locs cells slots Q (F0 m pc LS (cv G (0, j) :: cv G (2, r) :: st)) := by
  obtain ⟨hx, hb, hml, hown, hts, hin, hK, hfr, hlo, hSx, hbz, hX⟩ := C
  obtain ⟨⟨r0, r1, r2⟩, j0, j1⟩ := hk
  rw [cv_pos r0]
  have he := wl_get (G := G) (ca := ca) r0 r1
  have hb1 := (hw.1.2.1 r).1
  have hv : vp_in (Int32.ofInt j) (mln h r).toNat := in_of hj j0 (by omega)
  rw [cont_q r2 h20] at he
  have hlt : (Int32.ofInt j).toNatClampNeg < (mln h r).toNat := Nat.not_le.mp fun q => hv (Or.inr q)
  have kk' : W p l e R s m args below meth c H locs cells slots Q (F0 m (pc + 1) LS (va_rf ((fun i : Nat => cvo G (mrd h r i)) (Int32.ofInt j).toNatClampNeg) :: st)) := by
    dsimp only
    rw [clamp_ofI hj, Int.toNat_of_nonneg j0]
    exact kk
  have hty : ∃ ty : FieldType, (tysL ca)[kd - 16]? = some (ca (kd - 16), ty) ∧ ty.isReference = true := by
    rcases (show kd = 20 ∨ kd = 21 ∨ kd = 22 ∨ kd = 23 ∨ kd = 24 by omega) with rfl | rfl | rfl | rfl | rfl <;> exact ⟨_, rfl, rfl⟩
  obtain ⟨ty, t1, t2⟩ := hty
  exact W.aald (v := va_rf (cvo G (mrd h r (Int32.ofInt j).toNatClampNeg))) (ty := ty) hx hb (hw.2.1 r.toNat _ he) ((hK.2 (kd - 16) _ t1).1 _ (fun i => va_rf (cvo G (mrd h r i)))) t2 (fun q => by cases q) (by show ¬ (_ ∨ (arrV _ _ _).slots.size ≤ _); rw [arrV_size]; exact hv) (by show (arrV _ _ _).slots[_]? = _; rw [arrV_read _ _ hlt]) rfl rfl hd kk'
end MW
