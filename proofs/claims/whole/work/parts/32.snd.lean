/-! the plain machine is sound: all steps -/
section EX2
variable {l : Launch} {G : Nat × Nat × Nat} {Hz : Heap} {Sx : State → Prop}
set_option maxHeartbeats 4000000 in
theorem me_mna {p : Program} {e : Env} {R : Room} {s : State} {m : MethodId} {args : Array Value} {below : List Frame} {meth : Method} {c : Code} {H : Heap} {locs : List Loc} {cells slots : Nat} {Q : State → Prop} {pc k d sb : Nat} {LS : Array Slot} {D : va_G} {ca : Nat → ClassId} {sx : (Int → Int) × Int} {h : AM} {st : List AV} (C : Cx k d p R s m args meth c D G ca Hz sx Sx) (hw : Wo D G ca Hz sx s.heap.size sb h H locs cells slots) (ho : own k = 4) (hd : decode (mcode k) pc = .ok (.multianewarray 18 2, 4)) (hok : oks st)
    {h' : AM} (hh : h' = mal (mal (mal (mal (mal h 24 4 (fun j => mnx h + 1 + j)) 16 12 (fun _ => 0)) 16 12 (fun _ => 0)) 16 12 (fun _ => 0)) 16 12 (fun _ => 0)) (hbc : G.1 + (mnx h').toNat ≤ s.heap.size + R.cells) (hbs : msl h' ≤ sb + R.slots)
    (kk : ∀ (H1 : Heap) (locs1 : List Loc) (n1 n2 : Nat), oks ((2, mnx h) :: st) → Wo D G ca Hz sx s.heap.size sb h' H1 locs1 n1 n2 → W p l e R s m args below meth c H1 locs1 n1 n2 Q (F0 m (pc + 4) LS (((2, mnx h) :: st).map (cv G)))) : W p l e R s m args below meth c H locs cells slots Q (F0 m pc LS (((0, 12) :: (0, 4) :: st).map (cv G))) := by
  sorry
theorem ca_ok {k : Nat} {i : Instr} {st : List AV} {h : AM} {k' : Nat} {as st' : List AV} (hca : ca_ k i st h = some (k', as, st')) : ∀ v ∈ as, v.1 < 3 := by
  have go : ∀ l : List AV, l.all (fun v => decide (v.1 < 3)) = true → ∀ v ∈ l, v.1 < 3 := fun l hl v hv => of_decide_eq_true (List.all_eq_true.mp hl v hv)
  unfold ca_ at hca
  split at hca
  · split at hca
    · split at hca
      · obtain ⟨hk, he⟩ := bif_some hca
        cases he
        simp only [Bool.and_eq_true] at hk
        exact go _ hk.2.2.2
      · cases hca
    · cases hca
  · split at hca
    · obtain ⟨hk, he⟩ := bif_some hca
      cases he
      simp only [Bool.and_eq_true] at hk
      exact go _ hk.2.2.2
    · cases hca
  · split at hca
    · split at hca
      · obtain ⟨hk, he⟩ := bif_some hca
        cases he
        simp only [Bool.and_eq_true] at hk
        exact go _ hk.2.2.2
      · cases hca
    · cases hca
  · cases hca
set_option maxHeartbeats 4000000 in
theorem exW (hSR : SR l G Hz Sx) (n : Nat) : EXW l G Hz Sx n := by
  induction n with
  | zero => intro d k pc L st h r h' hp; simp [ex_] at hp
  | succ n ih =>
    intro d k pc L st h r h' hp p e R s m args below meth c D ca sx sb Q H locs cells slots LS C hL hR hoL ho hw hbc hbs hfin
    obtain ⟨m1, m2, m3⟩ := ex_mono (n + 1) _ _ _ _ _ _ _ _ hp
    have hls : LS.size = mmaxL k := hR.1.trans hL
    have C0 := C
    obtain ⟨hx, hb, hml, hown, hts, hin, hK, hfr, hlo, hSx, hbz, hX⟩ := C0
    have hz := hw.1.1
    unfold ex_ at hp
    split at hp
    · rename_i i len hd
      cases hl : lenok i len with
      | false => rw [hl] at hp; cases hp
      | true =>
        rw [hl, cond_true] at hp
        split at hp
        · rename_i st1 hpu
          refine pu_W hx hb ?_ ?_ ?_ hd hl hpu ho (fun ho1 => ih d k _ L st1 h r h' hp p e R s m args below meth c D ca sx sb Q H locs cells slots LS C hL hR hoL ho1 hw hbc hbs hfin)
          · intro ix v hv Hh lc n1 n2 LS1 pc1 st2
            have hcw := hts _ (lg (ck_all _ _ (lk_mem hv)))
            exact ⟨fun hd1 kk => lv_ldc hx hb hown hcw hd1 kk, fun hd1 kk => lv_ldcw hx hb hown hcw hd1 kk⟩
          · intro ix v hv Hh lc n1 n2 LS1 pc1 st2 hd1 kk
            exact lv_ldc2 hx hb hown (hts _ (lg (lk_all _ _ (lk_mem hv)))) hd1 kk
          · intro h5 hd5 kk5
            have w5 := hw.2.2.2.2.1
            have w6 := hw.2.2.2.2.2.1
            exact (hSR.2.2 p e R s m args below meth c H locs cells slots Q pc k d LS st D ca sx C h5 hls hw.2.2.2.1.2 (by omega) (by omega)).1 hd5 kk5
        · split at hp
          · rename_i L1 st1 hlo1
            exact lo_W hx hb hd hl hlo1 ho hoL hR (fun LS1 hlen1 hR1 hoL1 ho1 => ih d k _ L1 st1 h r h' hp p e R s m args below meth c D ca sx sb Q H locs cells slots LS1 C (hlen1.trans hL) hR1 hoL1 ho1 hw hbc hbs hfin)
          · split at hp
            · rename_i pc1 st1 hbr
              exact br_W hx hb hd hl hbr ho (fun ho1 => ih d k _ L st1 h r h' hp p e R s m args below meth c D ca sx sb Q H locs cells slots LS C hL hR hoL ho1 hw hbc hbs hfin)
            · split at hp
              · rename_i st1 h1 hme
                obtain ⟨a1, a2, a3⟩ := me_mono hme
                obtain ⟨b1, b2, b3⟩ := ex_mono n _ _ _ _ _ _ _ _ hp
                refine me_W hSR C hw hls ?_ hd hl hme ho (by omega) (by omega) (fun H1 locs1 n1 n2 ho1 hw1 => ih d k _ L st1 h1 r h' hp p e R s m args below meth c D ca sx sb Q H1 locs1 n1 n2 LS C hL hR hoL ho1 hw1 hbc hbs hfin)
                intro st2 h2 hm2 ho4 hd4 hb4 hs4 kk4
                simp only [me_] at hm2
                split at hm2
                · obtain ⟨-, he⟩ := ite_some hm2
                  cases he
                  exact me_mna C hw ho4 hd4 (oks_cons.mp (oks_cons.mp ho).2).2 rfl hb4 hs4 kk4
                · cases hm2
              · split at hp
                · rename_i k1 as st1 hca
                  split at hp
                  · cases hp
                  · rename_i d1
                    split at hp
                    · rename_i rr hc
                      obtain ⟨r1, h1⟩ := rr
                      obtain ⟨b1, b2, b3⟩ := ex_mono n _ _ _ _ _ _ _ _ hp
                      dsimp only at hp b1 b2
                      exact ca_W hSR ih C hls hd hl hca hc (ca_ok hca) ho hw (by omega) (by omega) (fun H1 locs1 n1 n2 ho1 hw1 => ih _ k _ L _ h1 r h' hp p e R s m args below meth c D ca sx sb Q H1 locs1 n1 n2 LS C hL hR hoL ho1 hw1 hbc hbs hfin)
                    · cases hp
                · rename_i hca
                  obtain rfl := re_inv hp
                  have hlen : len = 1 := by
                    have : ilen i = 1 := by
                      unfold re_ at hp
                      split at hp <;> first | rfl | cases hp
                    exact lnok (n := 0) hl this
                  subst hlen
                  exact hfin pc LS H locs cells slots i st hd hp ho hw
    · cases hp
end EX2
