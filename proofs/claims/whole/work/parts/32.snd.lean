/-! the plain machine is sound: all steps -/
section EX2
variable {l : Launch} {G : Nat × Nat × Nat} {Hz : Heap} {Sx : State → Prop}
set_option maxHeartbeats 4000000 in
theorem me_mna {p : Program} {e : Env} {R : Room} {s : State} {m : MethodId} {args : Array Value} {below : List Frame} {meth : Method} {c : Code} {H : Heap} {locs : List Loc} {cells slots : Nat} {Q : State → Prop} {pc k d sb : Nat} {LS : Array Slot} {D : va_G} {ca : Nat → ClassId} {sx : (Int → Int) × Int} {h : AM} {st : List AV} (C : Cx k d p R s m args meth c D G ca Hz sx Sx) (hw : Wo D G ca Hz sx s.heap.size sb h H locs cells slots) (ho : own k = 4) (hd : decode (mcode k) pc = .ok (.multianewarray 18 2, 4)) (hok : oks st)
    {h' : AM} (hh : h' = mal (mal (mal (mal (mal h 24 4 (fun j => mnx h + 1 + j)) 16 12 (fun _ => 0)) 16 12 (fun _ => 0)) 16 12 (fun _ => 0)) 16 12 (fun _ => 0)) (hbc : G.1 + (mnx h').toNat ≤ s.heap.size + R.cells) (hbs : msl h' ≤ sb + R.slots)
    (kk : ∀ (H1 : Heap) (locs1 : List Loc) (n1 n2 : Nat), oks ((2, mnx h) :: st) → Wo D G ca Hz sx s.heap.size sb h' H1 locs1 n1 n2 → W p l e R s m args below meth c H1 locs1 n1 n2 Q (F0 m (pc + 4) LS (((2, mnx h) :: st).map (cv G)))) : W p l e R s m args below meth c H locs cells slots Q (F0 m pc LS (((0, 12) :: (0, 4) :: st).map (cv G))) := by
  obtain ⟨hx, hb, hml, hown, hts, hin, hK, hfr, hlo, hSx, hbz, hX⟩ := C
  obtain ⟨w1, w2, w3, w4, w5, w6, w7⟩ := id hw
  have z0 := w1.1
  generalize e1 : mal h 24 4 (fun j => mnx h + 1 + j) = h1 at hh
  generalize e2 : mal h1 16 12 (fun _ => 0) = h2 at hh
  generalize e3 : mal h2 16 12 (fun _ => 0) = h3 at hh
  generalize e4 : mal h3 16 12 (fun _ => 0) = h4 at hh
  have n1 : mnx h1 = mnx h + 1 := by rw [← e1]; rfl
  have n2 : mnx h2 = mnx h + 2 := by rw [← e2, al_nx, n1]; omega
  have n3 : mnx h3 = mnx h + 3 := by rw [← e3, al_nx, n2]; omega
  have n4 : mnx h4 = mnx h + 4 := by rw [← e4, al_nx, n3]; omega
  have n5 : mnx h' = mnx h + 5 := by rw [hh, al_nx, n4]; omega
  have s1 : msl h1 = msl h + 4 := by rw [← e1, al_sl]; rfl
  have s2 : msl h2 = msl h + 16 := by rw [← e2, al_sl, s1]; rfl
  have s3 : msl h3 = msl h + 28 := by rw [← e3, al_sl, s2]; rfl
  have s4 : msl h4 = msl h + 40 := by rw [← e4, al_sl, s3]; rfl
  have s5 : msl h' = msl h + 52 := by rw [hh, al_sl, s4]; rfl
  have r1 : h'.2.2.2.2 = h.2.2.2.2 := by rw [hh, ← e4, ← e3, ← e2, ← e1]; rfl
  have o0 : ∀ j : Int, (tagk 16 j = 0 → in32 (0 : Int)) ∧ (tagk 16 j = 1 → in64 (0 : Int)) := fun j => ⟨fun _ => ⟨by decide, by decide⟩, fun _ => ⟨by decide, by decide⟩⟩
  have m1 : okm h1 := by rw [← e1]; exact okm_al w1 ⟨by decide, by decide⟩ (fun j => ⟨fun z => absurd z (by show ¬ (2 = 0); decide), fun z => absurd z (by show ¬ (2 = 1); decide)⟩)
  have m2 : okm h2 := by rw [← e2]; exact okm_al m1 ⟨by decide, by decide⟩ o0
  have m3 : okm h3 := by rw [← e3]; exact okm_al m2 ⟨by decide, by decide⟩ o0
  have m4 : okm h4 := by rw [← e4]; exact okm_al m3 ⟨by decide, by decide⟩ o0
  have m5 : okm h' := by rw [hh]; exact okm_al m4 ⟨by decide, by decide⟩ o0
  have zc : ∀ hh : AM, cont G ca (mal hh 16 12 (fun _ => 0)) (mnx hh) = .inl (ca 0, 12, .inl (fun _ => 0)) := fun hh => by
    rw [cont_i al_kn (by omega) (by omega), al_ln]
    simp only [al_rd]
    rfl
  have c0 : ∀ a : Int, a < mnx h → cont G ca h' a = cont G ca h a := fun a ha => by
    rw [hh, cont_al (by omega), ← e4, cont_al (by omega), ← e3, cont_al (by omega), ← e2, cont_al (by omega), ← e1, cont_al (by omega)]
  have c1 : cont G ca h' (mnx h) = .inl (ca 8, 4, .inr (.inr (.inr (.inr (fun j : Nat => cvo G (mnx h + 1 + (j : Int))))))) := by
    rw [hh, cont_al (by omega), ← e4, cont_al (by omega), ← e3, cont_al (by omega), ← e2, cont_al (by omega), ← e1, cont_q al_kn (by omega), al_ln]
    simp only [al_rd]
    rfl
  have c2 : cont G ca h' (mnx h + 1) = .inl (ca 0, 12, .inl (fun _ => 0)) := by
    rw [hh, cont_al (by omega), ← e4, cont_al (by omega), ← e3, cont_al (by omega), ← e2, ← n1, zc]
  have c3 : cont G ca h' (mnx h + 2) = .inl (ca 0, 12, .inl (fun _ => 0)) := by
    rw [hh, cont_al (by omega), ← e4, cont_al (by omega), ← e3, ← n2, zc]
  have c4 : cont G ca h' (mnx h + 3) = .inl (ca 0, 12, .inl (fun _ => 0)) := by
    rw [hh, cont_al (by omega), ← e4, ← n3, zc]
  have c5 : cont G ca h' (mnx h + 4) = .inl (ca 0, 12, .inl (fun _ => 0)) := by
    rw [hh, ← n4, zc]
  intro T hT X
  have hsz : H.size = G.1 + (mnx h).toNat := Wo_size hw (by rw [← hT]; exact X.heapSize)
  have q4 : (Int32.ofInt 4).toNatClampNeg = 4 := by decide
  have q12 : (Int32.ofInt 12).toNatClampNeg = 12 := by decide
  have hown4 : s.vm.findClass RX4 = some m.cls := by
    rw [ho] at hown
    exact hown
  obtain ⟨vm₁, cA, comp, fA, fC, X', step⟩ := mz_step X hx hown4 (hts _ (lg wd_mna)) (aoa_same (A := #[]) (A' := #[]) rfl hSx.2.2.1) (hts _ (lg wd_a_int)) (g := F0 m pc LS (.int (Int32.ofInt 12) :: .int (Int32.ofInt 4) :: st.map (cv G))) rfl (by rw [hb]; exact hd) rfl (by omega) (by omega)
  have hA : cA = ca 8 := Option.some.inj (fA.symm.trans (hK.2 8 (ca 8, .array .int) rfl).2)
  have hC : comp = ca 0 := Option.some.inj (fC.symm.trans (hK.2 0 (ca 0, .int) rfl).2)
  subst hA hC
  generalize hF : mzS (T.setVm vm₁) (ca 8) (ca 0) 4 = F at X' step
  have hTh : (T.setVm vm₁).heap = H := hT
  have f1 := mzS_sz (T.setVm vm₁) (ca 8) (ca 0) 4
  have f2 := mzS_out (T.setVm vm₁) (ca 8) (ca 0) 4
  rw [hF, hTh] at f1 f2
  have hold : ∀ y : Nat, y < H.size → F.heap[y]? = H[y]? := fun y hy => by
    have := mzS_old (T.setVm vm₁) (ca 8) (ca 0) (y := y) (by rw [hTh]; exact hy) 4
    rw [hF, hTh] at this
    exact this
  have hrow : ∀ i : Nat, i < 4 → F.heap[H.size + 1 + i]? = some (vp_cell (ca 0) (12, .inl (fun _ => 0))) := fun i hi => by
    have := mzS_row (T.setVm vm₁) (ca 8) (ca 0) 4 hi
    rw [hF, hTh] at this
    rw [this, vp_cell_i]
    exact congrArg some (arrV_new _ _ _)
  have hout : F.heap[H.size]? = some (vp_cell (ca 8) (4, .inr (.inr (.inr (.inr (fun j : Nat => cvo G (mnx h + 1 + (j : Int)))))))) := by
    rw [f2, vp_cell_q]
    congr 1
    refine arrV_congr fun i hi => ?_
    rw [if_pos hi, cvo, if_pos (by omega)]
    congr 2
    omega
  have hw' : Wo D G ca Hz sx s.heap.size sb h' F.heap locs (cells + 1 + 4) (slots + 4 + 12 * 4) := by
    refine ⟨m5, ?_, w3, ⟨by rw [f1]; omega, fun q hq => (hold q (by omega)).trans (w4.2 q hq)⟩, by omega, by omega, by rw [r1]; exact w7⟩
    intro i q hq
    obtain ⟨hi, rfl⟩ := wl_at hq
    have hi : i < (mnx h).toNat + 5 := by omega
    rcases Nat.lt_or_ge i (mnx h).toNat with hlt | hge
    · rw [c0 i (by omega)]
      have hg := wl_get (G := G) (ca := ca) (h := h) (r := (i : Int)) (by omega) (by omega)
      rw [Int.toNat_natCast] at hg
      exact (w2 i _ hg).kept (hold _ (by dsimp only; omega))
    · rcases (show i = (mnx h).toNat ∨ i = (mnx h).toNat + 1 ∨ i = (mnx h).toNat + 2 ∨ i = (mnx h).toNat + 3 ∨ i = (mnx h).toNat + 4 by omega) with e | e | e | e | e
      · rw [show (i : Int) = mnx h by omega, c1]
        show F.heap[G.1 + i]? = _
        rw [show G.1 + i = H.size by omega]
        exact hout
      · rw [show (i : Int) = mnx h + 1 by omega, c2]
        show F.heap[G.1 + i]? = _
        rw [show G.1 + i = H.size + 1 + 0 by omega]
        exact hrow 0 (by omega)
      · rw [show (i : Int) = mnx h + 2 by omega, c3]
        show F.heap[G.1 + i]? = _
        rw [show G.1 + i = H.size + 1 + 1 by omega]
        exact hrow 1 (by omega)
      · rw [show (i : Int) = mnx h + 3 by omega, c4]
        show F.heap[G.1 + i]? = _
        rw [show G.1 + i = H.size + 1 + 2 by omega]
        exact hrow 2 (by omega)
      · rw [show (i : Int) = mnx h + 4 by omega, c5]
        show F.heap[G.1 + i]? = _
        rw [show G.1 + i = H.size + 1 + 3 by omega]
        exact hrow 3 (by omega)
  obtain ⟨t, a1, b1⟩ := kk F.heap locs _ _ (oks_cons.mpr ⟨okv_2 _, hok⟩) hw' F rfl X'
  refine ⟨t, step t ?_, b1⟩
  rw [List.map_cons, cv_pos z0] at a1
  rw [show T.heap.size = G.1 + (mnx h).toNat by rw [hT]; exact hsz]
  exact a1
theorem ca_ok {k : Nat} {i : Instr} {st : List AV} {h : AM} {k' : Nat} {as st' : List AV} (hca : ca_ k i st h = some (k', as, st')) : ∀ v ∈ as, v.1 < 3 := by
  have go : ∀ l : List AV, l.all (fun v => decide (v.1 < 3)) = true → ∀ v ∈ l, v.1 < 3 := fun l hl v hv => of_decide_eq_true (List.all_eq_true.mp hl v hv)
  unfold ca_ at hca
  split at hca
  · split at hca
    · split at hca
      · obtain ⟨hk, he⟩ := bif_some hca
        cases he
        simp only [Bool.and_eq_true] at hk
        exact go _ hk.2.2.2
      · cases hca
    · cases hca
  · split at hca
    · obtain ⟨hk, he⟩ := bif_some hca
      cases he
      simp only [Bool.and_eq_true] at hk
      exact go _ hk.2.2.2
    · cases hca
  · split at hca
    · split at hca
      · obtain ⟨hk, he⟩ := bif_some hca
        cases he
        simp only [Bool.and_eq_true] at hk
        exact go _ hk.2.2.2
      · cases hca
    · cases hca
  · cases hca
set_option maxHeartbeats 4000000 in
theorem exW (hSR : SR l G Hz Sx) (n : Nat) : EXW l G Hz Sx n := by
  induction n with
  | zero => intro d k pc L st h r h' hp; simp [ex_] at hp
  | succ n ih =>
    intro d k pc L st h r h' hp p e R s m args below meth c D ca sx sb Q H locs cells slots LS C hL hR hoL ho hw hbc hbs hfin
    obtain ⟨m1, m2, m3⟩ := ex_mono (n + 1) _ _ _ _ _ _ _ _ hp
    have hls : LS.size = mmaxL k := hR.1.trans hL
    have C0 := C
    obtain ⟨hx, hb, hml, hown, hts, hin, hK, hfr, hlo, hSx, hbz, hX⟩ := C0
    have hz := hw.1.1
    unfold ex_ at hp
    split at hp
    · rename_i i len hd
      cases hl : lenok i len with
      | false => rw [hl] at hp; cases hp
      | true =>
        rw [hl, cond_true] at hp
        split at hp
        · rename_i st1 hpu
          refine pu_W hx hb ?_ ?_ ?_ hd hl hpu ho (fun ho1 => ih d k _ L st1 h r h' hp p e R s m args below meth c D ca sx sb Q H locs cells slots LS C hL hR hoL ho1 hw hbc hbs hfin)
          · intro ix v hv Hh lc n1 n2 LS1 pc1 st2
            have hcw := hts _ (lg (ck_all _ _ (lk_mem hv)))
            exact ⟨fun hd1 kk => lv_ldc hx hb hown hcw hd1 kk, fun hd1 kk => lv_ldcw hx hb hown hcw hd1 kk⟩
          · intro ix v hv Hh lc n1 n2 LS1 pc1 st2 hd1 kk
            exact lv_ldc2 hx hb hown (hts _ (lg (lk_all _ _ (lk_mem hv)))) hd1 kk
          · intro h5 hd5 kk5
            have w5 := hw.2.2.2.2.1
            have w6 := hw.2.2.2.2.2.1
            exact (hSR.2.2 p e R s m args below meth c H locs cells slots Q pc k d LS st D ca sx C h5 hls hw.2.2.2.1.2 (by omega) (by omega)).1 hd5 kk5
        · split at hp
          · rename_i L1 st1 hlo1
            exact lo_W hx hb hd hl hlo1 ho hoL hR (fun LS1 hlen1 hR1 hoL1 ho1 => ih d k _ L1 st1 h r h' hp p e R s m args below meth c D ca sx sb Q H locs cells slots LS1 C (hlen1.trans hL) hR1 hoL1 ho1 hw hbc hbs hfin)
          · split at hp
            · rename_i pc1 st1 hbr
              exact br_W hx hb hd hl hbr ho (fun ho1 => ih d k _ L st1 h r h' hp p e R s m args below meth c D ca sx sb Q H locs cells slots LS C hL hR hoL ho1 hw hbc hbs hfin)
            · split at hp
              · rename_i st1 h1 hme
                obtain ⟨a1, a2, a3⟩ := me_mono hme
                obtain ⟨b1, b2, b3⟩ := ex_mono n _ _ _ _ _ _ _ _ hp
                refine me_W hSR C hw hls ?_ hd hl hme ho (by omega) (by omega) (fun H1 locs1 n1 n2 ho1 hw1 => ih d k _ L st1 h1 r h' hp p e R s m args below meth c D ca sx sb Q H1 locs1 n1 n2 LS C hL hR hoL ho1 hw1 hbc hbs hfin)
                intro st2 h2 hm2 ho4 hd4 hb4 hs4 kk4
                simp only [me_] at hm2
                split at hm2
                · obtain ⟨-, he⟩ := ite_some hm2
                  cases he
                  exact me_mna C hw ho4 hd4 (oks_cons.mp (oks_cons.mp ho).2).2 rfl hb4 hs4 kk4
                · cases hm2
              · split at hp
                · rename_i k1 as st1 hca
                  split at hp
                  · cases hp
                  · rename_i d1
                    split at hp
                    · rename_i rr hc
                      obtain ⟨r1, h1⟩ := rr
                      obtain ⟨b1, b2, b3⟩ := ex_mono n _ _ _ _ _ _ _ _ hp
                      dsimp only at hp b1 b2
                      exact ca_W hSR ih C hls hd hl hca hc (ca_ok hca) ho hw (by omega) (by omega) (fun H1 locs1 n1 n2 ho1 hw1 => ih _ k _ L _ h1 r h' hp p e R s m args below meth c D ca sx sb Q H1 locs1 n1 n2 LS C hL hR hoL ho1 hw1 hbc hbs hfin)
                    · cases hp
                · rename_i hca
                  obtain rfl := re_inv hp
                  have hlen : len = 1 := by
                    have : ilen i = 1 := by
                      unfold re_ at hp
                      split at hp <;> first | rfl | cases hp
                    exact lnok (n := 0) hl this
                  subst hlen
                  exact hfin pc LS H locs cells slots i st hd hp ho hw
    · cases hp
end EX2
