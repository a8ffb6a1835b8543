/-! memory: the script, the copy of arrays, Math, Object's constructor -/
theorem rest8 {G : Nat × Nat × Nat} {st : List AV} (h : st.length ≤ 4) : ((st.map (cv G)).map fun v => v.category).sum ≤ 8 := by
  have h2 : ∀ l : List AV, ((l.map (cv G)).map fun v => v.category).sum ≤ 2 * l.length := by
    intro l
    induction l with
    | nil => simp
    | cons x xs ih =>
      have : (cv G x).category ≤ 2 := by rcases lv_cat (cv G x) with q | q <;> omega
      simp only [List.map_cons, List.sum_cons, List.length_cons]
      omega
  have := h2 st
  omega
theorem rest8s {G : Nat × Nat × Nat} {st : List AV} (h : rst4 st = true) : ((st.map (cv G)).map fun v => v.category).sum ≤ 8 := by
  simp only [rst4, Bool.or_eq_true, Bool.and_eq_true, decide_eq_true_eq] at h
  rcases h with h | ⟨h1, h2⟩
  · exact rest8 h
  · have h3 : ∀ l : List AV, l.all (fun v => decide (v.1 ≠ 1)) = true → ((l.map (cv G)).map fun v => v.category).sum ≤ l.length := by
      intro l
      induction l with
      | nil => intro _; simp
      | cons x xs ih =>
        intro hl
        rw [List.all_cons, Bool.and_eq_true] at hl
        have hx : x.1 ≠ 1 := of_decide_eq_true hl.1
        have hc : (cv G x).category = 1 := by
          unfold cv
          split
          · rfl
          · exact cvr_cat G _
        have := ih hl.2
        simp only [List.map_cons, List.sum_cons, List.length_cons]
        omega
    have := h3 st h2
    omega
section MY
variable {p : Program} {l : Launch} {e : Env} {R : Room} {s : State} {m : MethodId} {args : Array Value} {below : List Frame} {meth : Method} {c : Code} {H : Heap} {locs : List Loc} {cells slots : Nat} {Q : State → Prop}
variable {pc len k d sb : Nat} {LS : Array Slot} {G : Nat × Nat × Nat} {D : va_G} {ca : Nat → ClassId} {Hz : Heap} {sx : (Int → Int) × Int} {h : AM} {Sx : State → Prop} {st : List AV} {r j v : Int}
theorem cv_m2 : cv G (2, -2) = .ref G.2.1 := rfl
theorem cv_m3 : cv G (2, -3) = .ref G.2.2 := rfl
theorem me_sld (C : Cx k d p R s m args meth c D G ca Hz sx Sx) (hw : Wo D G ca Hz sx s.heap.size sb h H locs cells slots) (hj : in32 j) (h0 : 0 ≤ j) (h1 : j < mscl h) (hd : decode (mcode k) pc = .ok (.iaload, 1))
    (kk : W p l e R s m args below meth c H locs cells slots Q (F0 m (pc + 1) LS (cv G (0, msc h j) :: st.map (cv G)))) : W p l e R s m args below meth c H locs cells slots Q (F0 m pc LS (cv G (0, j) :: cv G (2, -2) :: st.map (cv G))) := by
  obtain ⟨hx, hb, hml, hown, hts, hin, hK, hfr, hlo, hSx, hbz, hX⟩ := C
  obtain ⟨w1, w2, w3, w4, w5, w6, rfl⟩ := hw
  obtain ⟨scr, g1, g2, g3, g4, g5⟩ := hX
  have h1' : j < h.2.2.2.2.2 := h1
  have hv : vp_in (Int32.ofInt j) h.2.2.2.2.2.toNat := in_of hj h0 (by omega)
  rw [cv_m2]
  refine W.iald (v := .int (Int32.ofInt (msc h j))) hx hb (by rw [w4.2 _ hbz]; exact g1) g2 g3 (by rw [g4]; exact hv) ?_ rfl rfl hd kk
  rw [clamp_ofI hj, g5 j.toNat (by omega)]
  show some (Value.int (Int32.ofInt (h.2.2.2.2.1 j.toNat))) = some (Value.int (Int32.ofInt (h.2.2.2.2.1 j)))
  rw [Int.toNat_of_nonneg h0]
theorem me_slen (C : Cx k d p R s m args meth c D G ca Hz sx Sx) (hw : Wo D G ca Hz sx s.heap.size sb h H locs cells slots) (hd : decode (mcode k) pc = .ok (.arraylength, 1))
    (kk : W p l e R s m args below meth c H locs cells slots Q (F0 m (pc + 1) LS (cv G (0, mscl h) :: st.map (cv G)))) : W p l e R s m args below meth c H locs cells slots Q (F0 m pc LS (cv G (2, -2) :: st.map (cv G))) := by
  obtain ⟨hx, hb, hml, hown, hts, hin, hK, hfr, hlo, hSx, hbz, hX⟩ := C
  obtain ⟨w1, w2, w3, w4, w5, w6, rfl⟩ := hw
  obtain ⟨scr, g1, g2, g3, g4, g5⟩ := hX
  rw [cv_m2]
  have q0 : 0 ≤ mscl h := w1.2.2.2.2.1
  have q1 : mscl h ≤ 3072 := w1.2.2.2.2.2
  refine W.alen (n := Int32.ofInt (mscl h)) hx hb (by rw [w4.2 _ hbz]; exact g1) g2 ?_ rfl rfl hd kk
  rw [g4]
  show Int32.ofNat (mscl h).toNat = _
  rw [← Int32.toInt_inj, in32_of ⟨by omega, by omega⟩, Int32.toInt_ofNat_of_lt (by omega)]
  omega
theorem me_oi {ix : Nat} (C : Cx k d p R s m args meth c D G ca Hz sx Sx) (hls : LS.size = mmaxL k) (ht : tref (own k) ix = some (1000, 0)) (hd0 : 0 < d) (hst : st.length ≤ 4) (hr : 0 ≤ r) (hd : decode (mcode k) pc = .ok (.invokespecial ix, 3))
    (kk : W p l e R s m args below meth c H locs cells slots Q (F0 m (pc + 3) LS (st.map (cv G)))) : W p l e R s m args below meth c H locs cells slots Q (F0 m pc LS (cv G (2, r) :: st.map (cv G))) := by
  obtain ⟨hx, hb, hml, hown, hts, hin, hK, hfr, hlo, hSx, hbz, hX⟩ := C
  have f := (rk_all _ _ (lk_mem ht)).2.2.2.1 rfl
  rw [cv_pos hr]
  refine W.objInit (own := cname (own k)) hx hb hown (hts _ (lg f)) (hts _ (lg wd_oi1)) (hts _ (lg wd_oi2)) rfl (by show LS.size = _; rw [hml, hls]) rfl hd (by omega) ?_ kk
  have := rest8 (G := G) hst
  show 2 * 0 + _ + 12 ≤ R.locals
  omega
theorem me_max {ix : Nat} {a b : Int} (C : Cx k d p R s m args meth c D G ca Hz sx Sx) (hc : cells ≤ R.cells) (hs : slots ≤ R.slots) (hls : LS.size = mmaxL k) (ha : in32 a) (hb2 : in32 b) (ht : tref (own k) ix = some (1004, 0)) (hd0 : 0 < d) (hst : st.length ≤ 4) (hd : decode (mcode k) pc = .ok (.invokestatic ix, 3))
    (kk : W p l e R s m args below meth c H locs cells slots Q (F0 m (pc + 3) LS (cv G (0, if a < b then b else a) :: st.map (cv G)))) : W p l e R s m args below meth c H locs cells slots Q (F0 m pc LS (cv G (0, b) :: cv G (0, a) :: st.map (cv G))) := by
  obtain ⟨hx, hb, hml, hown, hts, hin, hK, hfr, hlo, hSx, hbz, hX⟩ := C
  have f := (rk_all _ _ (lk_mem ht)).2.2.2.2.2.1 rfl
  have := rest8 (G := G) hst
  refine va_mmax (own := cname (own k)) hx hb (by rw [hml, hls]) hown (hts _ (lg f)) (hts _ (lg wd_max_s)) (hts _ (lg wd_math)) (hts _ (lg wd_max_c)) (by omega) (by omega) hc hs (x := Int32.ofInt a) (y := Int32.ofInt b) hd ?_
  have e : (if Int32.ofInt a < Int32.ofInt b then Int32.ofInt b else Int32.ofInt a) = Int32.ofInt (if a < b then b else a) := by
    have := of32_lt ha hb2
    by_cases q : a < b
    · rw [if_pos q, if_pos (this.mpr q)]
    · rw [if_neg q, if_neg (fun z => q (this.mp z))]
  rw [e]
  exact kk
theorem me_min {ix : Nat} {a b : Int} (C : Cx k d p R s m args meth c D G ca Hz sx Sx) (hc : cells ≤ R.cells) (hs : slots ≤ R.slots) (hls : LS.size = mmaxL k) (ha : in32 a) (hb2 : in32 b) (ht : tref (own k) ix = some (1005, 0)) (hd0 : 0 < d) (hst : st.length ≤ 4) (hd : decode (mcode k) pc = .ok (.invokestatic ix, 3))
    (kk : W p l e R s m args below meth c H locs cells slots Q (F0 m (pc + 3) LS (cv G (0, if b < a then b else a) :: st.map (cv G)))) : W p l e R s m args below meth c H locs cells slots Q (F0 m pc LS (cv G (0, b) :: cv G (0, a) :: st.map (cv G))) := by
  obtain ⟨hx, hb, hml, hown, hts, hin, hK, hfr, hlo, hSx, hbz, hX⟩ := C
  have f := (rk_all _ _ (lk_mem ht)).2.2.2.2.2.2.1 rfl
  have := rest8 (G := G) hst
  refine va_mmin (own := cname (own k)) hx hb (by rw [hml, hls]) hown (hts _ (lg f)) (hts _ (lg wd_min_s)) (hts _ (lg wd_math)) (hts _ (lg wd_min_c)) (by omega) (by omega) hc hs (x := Int32.ofInt a) (y := Int32.ofInt b) hd ?_
  have e : (if Int32.ofInt b < Int32.ofInt a then Int32.ofInt b else Int32.ofInt a) = Int32.ofInt (if b < a then b else a) := by
    have := of32_lt hb2 ha
    by_cases q : b < a
    · rw [if_pos q, if_pos (this.mpr q)]
    · rw [if_neg q, if_neg (fun z => q (this.mp z))]
  rw [e]
  exact kk
theorem me_minl {ix : Nat} {a b : Int} (C : Cx k d p R s m args meth c D G ca Hz sx Sx) (hc : cells ≤ R.cells) (hs : slots ≤ R.slots) (hls : LS.size = mmaxL k) (ha : in64 a) (hb2 : in64 b) (ht : tref (own k) ix = some (1006, 0)) (hd0 : 0 < d) (hst : st.length ≤ 4) (hd : decode (mcode k) pc = .ok (.invokestatic ix, 3))
    (kk : W p l e R s m args below meth c H locs cells slots Q (F0 m (pc + 3) LS (cv G (1, if b < a then b else a) :: st.map (cv G)))) : W p l e R s m args below meth c H locs cells slots Q (F0 m pc LS (cv G (1, b) :: cv G (1, a) :: st.map (cv G))) := by
  obtain ⟨hx, hb, hml, hown, hts, hin, hK, hfr, hlo, hSx, hbz, hX⟩ := C
  have f := (rk_all _ _ (lk_mem ht)).2.2.2.2.2.2.2.1 rfl
  have := rest8 (G := G) hst
  refine va_mmin_long (own := cname (own k)) hx hb (by rw [hml, hls]) hown (hts _ (lg f)) (hts _ (lg wd_minl_s)) (hts _ (lg wd_math)) (hts _ (lg wd_minl_c)) (by omega) (by omega) hc hs (x := Int64.ofInt a) (y := Int64.ofInt b) hd ?_
  have e : (if Int64.ofInt b < Int64.ofInt a then Int64.ofInt b else Int64.ofInt a) = Int64.ofInt (if b < a then b else a) := by
    have := of64_lt hb2 ha
    by_cases q : b < a
    · rw [if_pos q, if_pos (this.mpr q)]
    · rw [if_neg q, if_neg (fun z => q (this.mp z))]
  rw [e]
  exact kk
theorem me_absl {ix : Nat} {a : Int} (C : Cx k d p R s m args meth c D G ca Hz sx Sx) (hc : cells ≤ R.cells) (hs : slots ≤ R.slots) (hls : LS.size = mmaxL k) (ha : in64 a) (ht : tref (own k) ix = some (1007, 0)) (hd0 : 0 < d) (hst : st.length ≤ 4) (hd : decode (mcode k) pc = .ok (.invokestatic ix, 3))
    (kk : W p l e R s m args below meth c H locs cells slots Q (F0 m (pc + 3) LS (cv G (1, if 0 < a then a else w64 (-a)) :: st.map (cv G)))) : W p l e R s m args below meth c H locs cells slots Q (F0 m pc LS (cv G (1, a) :: st.map (cv G))) := by
  obtain ⟨hx, hb, hml, hown, hts, hin, hK, hfr, hlo, hSx, hbz, hX⟩ := C
  have f := (rk_all _ _ (lk_mem ht)).2.2.2.2.2.2.2.2 rfl
  have := rest8 (G := G) hst
  refine va_mabs_long (own := cname (own k)) hx hb (by rw [hml, hls]) hown (hts _ (lg f)) (hts _ (lg wd_absl_s)) (hts _ (lg wd_math)) (hts _ (lg wd_absl_c)) (by omega) (by omega) hc hs (x := Int64.ofInt a) hd ?_
  have e : (if 0 < Int64.ofInt a then Int64.ofInt a else -Int64.ofInt a) = Int64.ofInt (if 0 < a then a else w64 (-a)) := by
    have this : (0 : Int64) < Int64.ofInt a ↔ 0 < a := of64_lt (a := 0) ⟨by decide, by decide⟩ ha
    by_cases q : 0 < a
    · rw [if_pos q, if_pos (this.mpr q)]
    · rw [if_neg q, if_neg (fun z => q (this.mp z)), w64, Int64.ofInt_toInt, Int64.ofInt_neg]
  rw [e]
  exact kk
theorem okm_cp {a i b j n : Int} (hm : okm h) (h2 : ∀ q, tagk (mkn h a) (i + (q - j)) = tagk (mkn h b) q) : okm (mcp h a i b j n) := by
  obtain ⟨m1, m2, m3, m4⟩ := hm
  refine ⟨m1, m2, fun x q => ?_, m4⟩
  show (tagk (mkn h x) q = 0 → in32 (if x = b ∧ j ≤ q ∧ q < j + n then h.1 a (i + (q - j)) else h.1 x q)) ∧ (tagk (mkn h x) q = 1 → in64 (if x = b ∧ j ≤ q ∧ q < j + n then h.1 a (i + (q - j)) else h.1 x q))
  split
  · rename_i z
    obtain ⟨rfl, -⟩ := z
    rw [← h2 q]
    exact m3 a (i + (q - j))
  · exact m3 x q
theorem me_acp {ix : Nat} {a i b n : Int} (C : Cx k d p R s m args meth c D G ca Hz sx Sx) (hw : Wo D G ca Hz sx s.heap.size sb h H locs cells slots) (hls : LS.size = mmaxL k) (ht : tref (own k) ix = some (1001, 0)) (hd0 : 0 < d) (hst : st.length ≤ 4) (hk : (isK h a 16 ∧ isK h b 16) ∨ (isK h a 19 ∧ isK h b 19)) (hi : in32 i) (hj : in32 j) (hn : in32 n) (i0 : 0 ≤ i) (j0 : 0 ≤ j) (n0 : 0 ≤ n) (h1 : i + n ≤ mln h a) (h2 : j + n ≤ mln h b) (hd : decode (mcode k) pc = .ok (.invokestatic ix, 3))
    (kk : ∀ (H1 : Heap) (locs1 : List Loc), Wo D G ca Hz sx s.heap.size sb (mcp h a i b j n) H1 locs1 cells slots → W p l e R s m args below meth c H1 locs1 cells slots Q (F0 m (pc + 3) LS (st.map (cv G)))) : W p l e R s m args below meth c H locs cells slots Q (F0 m pc LS (cv G (0, n) :: cv G (0, j) :: cv G (2, b) :: cv G (0, i) :: cv G (2, a) :: st.map (cv G))) := by
  obtain ⟨hx, hb, hml, hown, hts, hin, hK, hfr, hlo, hSx, hbz, hX⟩ := C
  have f := (rk_all _ _ (lk_mem ht)).2.2.2.2.1 rfl
  have hr8 := rest8 (G := G) hst
  have nneg : ∀ x : Int, in32 x → 0 ≤ x → ¬ Int32.ofInt x < 0 := fun x hx0 hx1 q => by
    have := (of32_lt (b := 0) hx0 ⟨by decide, by decide⟩).mp q
    omega
  have hnat : nativeFrameWords "java/lang/System" "arraycopy" 5 + 11 ≤ 60 := by decide
  have hcon : ∀ x, x ≠ b → cont G ca (mcp h a i b j n) x = cont G ca h x := fun x hxb => by
    have q : ∀ y, mrd (mcp h a i b j n) x y = mrd h x y := fun y => by simp [mrd, mcp, hxb]
    have e1 : mkn (mcp h a i b j n) x = mkn h x := rfl
    have e2 : mln (mcp h a i b j n) x = mln h x := rfl
    simp only [cont, q, e1, e2]
  rcases hk with ⟨⟨a0, a1, a2⟩, b0, b1, b2⟩ | ⟨⟨a0, a1, a2⟩, b0, b1, b2⟩
  · rw [cv_pos a0, cv_pos b0]
    have hea := wl_get (G := G) (ca := ca) a0 a1
    have heb := wl_get (G := G) (ca := ca) b0 b1
    rw [cont_i a2 (by omega) (by omega)] at hea
    rw [cont_i b2 (by omega) (by omega)] at heb
    refine va_copyi (own := cname (own k)) (ty := .int) hx hb (by rw [hml, hls]) hown (hts _ (lg f)) (hts _ (lg wd_ac1)) (hts _ (lg wd_ac2)) (hts _ (lg wd_ac3)) hK hw.2.1 (wl_D G ca h) (Wo_S hw) a.toNat b.toNat 0 0 hea heb rfl rfl rfl (nneg i hi i0) (nneg j hj j0) (nneg n hn n0) (by rw [clamp_ofI hi, clamp_ofI hn]; omega) (by rw [clamp_ofI hj, clamp_ofI hn]; omega) (fun _ _ => rfl) (by omega) (by omega) hd (fun H1 locs1 hP _ hS => kk H1 locs1 (Wo_st hw (okm_cp hw.1 (fun q => by rw [a2, b2]; rfl)) ?_ hS rfl))
    suffices e9 : (fun q : Nat => Int32.ofInt (mrd (mcp h a i b j n) b q)) = va_cpy (fun q : Nat => Int32.ofInt (mrd h a q)) (fun q : Nat => Int32.ofInt (mrd h b q)) (Int32.ofInt i).toNatClampNeg (Int32.ofInt j).toNatClampNeg (Int32.ofInt n).toNatClampNeg by
      rw [wl_set (h' := mcp h a i b j n) b0 b1 rfl hcon, cont_i (c := 16) (by exact b2) (by omega) (by omega), e9]
      exact hP
    funext q
    rw [clamp_ofI hi, clamp_ofI hj, clamp_ofI hn]
    show Int32.ofInt (if b = b ∧ j ≤ (q : Int) ∧ (q : Int) < j + n then h.1 a (i + ((q : Int) - j)) else h.1 b q) = _
    by_cases z : j.toNat ≤ q ∧ q < j.toNat + n.toNat
    · rw [if_pos ⟨rfl, by omega, by omega⟩, pk_cpy_in z.1 z.2]
      show Int32.ofInt (h.1 a _) = Int32.ofInt (h.1 a _)
      rw [show i + ((q : Int) - j) = ((i.toNat + (q - j.toNat) : Nat) : Int) by omega]
    · rw [if_neg (fun y => z ⟨by omega, by omega⟩), pk_cpy_out (by omega)]
      rfl
  · rw [cv_pos a0, cv_pos b0]
    have hea := wl_get (G := G) (ca := ca) a0 a1
    have heb := wl_get (G := G) (ca := ca) b0 b1
    rw [cont_l a2] at hea
    rw [cont_l b2] at heb
    refine va_copyl (own := cname (own k)) (ty := .long) hx hb (by rw [hml, hls]) hown (hts _ (lg f)) (hts _ (lg wd_ac1)) (hts _ (lg wd_ac2)) (hts _ (lg wd_ac3)) hK hw.2.1 (wl_D G ca h) (Wo_S hw) a.toNat b.toNat 3 3 hea heb rfl rfl rfl (nneg i hi i0) (nneg j hj j0) (nneg n hn n0) (by rw [clamp_ofI hi, clamp_ofI hn]; omega) (by rw [clamp_ofI hj, clamp_ofI hn]; omega) (fun _ _ => rfl) (by omega) (by omega) hd (fun H1 locs1 hP _ hS => kk H1 locs1 (Wo_st hw (okm_cp hw.1 (fun q => by rw [a2, b2]; rfl)) ?_ hS rfl))
    suffices e9 : (fun q : Nat => Int64.ofInt (mrd (mcp h a i b j n) b q)) = va_cpy (fun q : Nat => Int64.ofInt (mrd h a q)) (fun q : Nat => Int64.ofInt (mrd h b q)) (Int32.ofInt i).toNatClampNeg (Int32.ofInt j).toNatClampNeg (Int32.ofInt n).toNatClampNeg by
      rw [wl_set (h' := mcp h a i b j n) b0 b1 rfl hcon, cont_l (by exact b2), e9]
      exact hP
    funext q
    rw [clamp_ofI hi, clamp_ofI hj, clamp_ofI hn]
    show Int64.ofInt (if b = b ∧ j ≤ (q : Int) ∧ (q : Int) < j + n then h.1 a (i + ((q : Int) - j)) else h.1 b q) = _
    by_cases z : j.toNat ≤ q ∧ q < j.toNat + n.toNat
    · rw [if_pos ⟨rfl, by omega, by omega⟩, pk_cpy_in z.1 z.2]
      show Int64.ofInt (h.1 a _) = Int64.ofInt (h.1 a _)
      rw [show i + ((q : Int) - j) = ((i.toNat + (q - j.toNat) : Nat) : Int) by omega]
    · rw [if_neg (fun y => z ⟨by omega, by omega⟩), pk_cpy_out (by omega)]
      rfl
end MY
