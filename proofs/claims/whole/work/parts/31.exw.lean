/-! the plain machine is sound: the theorem -/
def EXW (l : Launch) (G : Nat × Nat × Nat) (Hz : Heap) (Sx : State → Prop) (n : Nat) : Prop :=
  ∀ (d k pc : Nat) (L st : List AV) (h : AM) (r : AV) (h' : AM), ex_ n d k pc L st h = some (r, h') →
  ∀ (p : Program) (e : Env) (R : Room) (s : State) (m : MethodId) (args : Array Value) (below : List Frame) (meth : Method) (c : Code) (D : va_G) (ca : Nat → ClassId) (sx : (Int → Int) × Int) (sb : Nat) (Q : State → Prop) (H : Heap) (locs : List Loc) (cells slots : Nat) (LS : Array Slot),
    Cx k d p R s m args meth c D G ca Hz sx Sx → L.length = mmaxL k → lR G LS L → oks L → oks st → Wo D G ca Hz sx s.heap.size sb h H locs cells slots → G.1 + (mnx h').toNat ≤ s.heap.size + R.cells → msl h' ≤ sb + R.slots → FnE k r h' p l e R s m args below meth c D G ca Hz sx sb Q →
    W p l e R s m args below meth c H locs cells slots Q (F0 m pc LS (st.map (cv G)))
section EX
variable {l : Launch} {G : Nat × Nat × Nat} {Hz : Heap} {Sx : State → Prop}
set_option maxHeartbeats 4000000 in
theorem exM (hbz : G.2.1 < G.1) {n d k : Nat} (ih : EXW l G Hz Sx n) {as : List AV} {h : AM} {r : AV} {h' : AM} (he : ex_ n d k 0 (mkl k as) [] h = some (r, h')) (hk : okm_ k) (h3 : ∀ v ∈ as, v.1 < 3) (ho : oks as) (hl : (lsl as).length ≤ mmaxL k) : Mk l G Hz Sx d k as h r h' := by
  intro D ca sx hm hsx
  obtain ⟨k1, k2, ⟨k3, k3a, k3b, k3c⟩, k4, k5, k6, k7, k8⟩ := hk
  obtain ⟨m1, m2, m3⟩ := ex_mono n _ _ _ _ _ _ _ _ he
  refine Met.ofW (cc := mcode k) (maxL := mmaxL k) (ret := mret k) k4 rfl ?_
  intro p e s m args below meth c s₁ B hml hv
  obtain ⟨rfl, q1, q2, q3, q4, q5, q6⟩ := hv
  have hts := atoms_spec (ws := Cond.code (mname k) (mcode k) (mmaxL k) (mret k) :: lwg) B.pre
  have hown : s.vm.findClass (mname k).cls = some m.cls := findClass_of_methodNamed B.named
  obtain ⟨hR, hlen⟩ := lR_entry (G := G) (k := k) h3 hl
  rw [lg_entry_eq]
  have hC : Cx k d p (headSpec (Cond.code (mname k) (mcode k) (mmaxL k) (mret k) :: lwg) { frames := d, cells := (mnx h').toNat - (mnx h).toNat, slots := msl h' - msl h, locals := 100 * d }).room s m (as.map (cv G)).toArray meth c D G ca Hz sx Sx :=
    ⟨B.exec, B.bytes, hml, by rw [← k3]; exact hown, fun w hw => hts w (List.mem_cons_of_mem _ hw), fun z => (name_of_methodNamed B.named B.method).1.trans (k8 z).2.1, q4, Nat.le_refl _, Nat.le_refl _, q5, hbz, q6⟩
  have hz := hm.1
  refine ih d k 0 (mkl k as) [] h r h' he p e _ s m _ below meth c D ca sx (msl h) _ s.heap [] 0 0 _ hC hlen hR (oks_mkl ho) oks_nil ⟨hm, q2, fun _ z => absurd z List.not_mem_nil, ⟨by omega, q3⟩, by omega, by omega, hsx⟩ ?_ ?_ (ret_W B.exec B.bytes B.returns B.notSynchronized ?_ ?_)
  · show G.1 + (mnx h').toNat ≤ s.heap.size + ((mnx h').toNat - (mnx h).toNat)
    omega
  · show msl h' ≤ msl h + (msl h' - msl h)
    omega
  · omega
  · omega
theorem len4 {st : List AV} {n : Nat} (h : n ≤ st.length) : ((st.take n).reverse.map (cv G)).length = n := by
  rw [List.length_map, List.length_reverse, List.length_take]
  omega
theorem stk {st : List AV} (n : Nat) : st.map (cv G) = ((st.take n).reverse.map (cv G)).reverse ++ (st.drop n).map (cv G) := by
  rw [← List.map_reverse, List.reverse_reverse, ← List.map_append, List.take_append_drop]
set_option maxHeartbeats 4000000 in
theorem ca_W (hSR : SR l G Hz Sx) {n d k pc len : Nat} (ih : EXW l G Hz Sx n) {p : Program} {e : Env} {R : Room} {s : State} {m : MethodId} {args : Array Value} {below : List Frame} {meth : Method} {c : Code} {D : va_G} {ca : Nat → ClassId} {sx : (Int → Int) × Int} {sb : Nat} {Q : State → Prop} {H : Heap} {locs : List Loc} {cells slots : Nat} {LS : Array Slot} (C : Cx k (d + 1) p R s m args meth c D G ca Hz sx Sx) (hls : LS.size = mmaxL k) {i : Instr} (hd : decode (mcode k) pc = .ok (i, len)) (hlen : lenok i len = true) {st st' as : List AV} {k' : Nat} {h h1 : AM} {r : AV} (hca : ca_ k i st h = some (k', as, st')) (hex : ex_ n d k' 0 (mkl k' as) [] h = some (r, h1)) (h3 : ∀ v ∈ as, v.1 < 3) (ho : oks st) (hw : Wo D G ca Hz sx s.heap.size sb h H locs cells slots) (hbc : G.1 + (mnx h1).toNat ≤ s.heap.size + R.cells) (hbs : msl h1 ≤ sb + R.slots)
    (kk : ∀ (H1 : Heap) (locs1 : List Loc) (n1 n2 : Nat), oks (psh r st') → Wo D G ca Hz sx s.heap.size sb h1 H1 locs1 n1 n2 → W p l e R s m args below meth c H1 locs1 n1 n2 Q (F0 m (pc + 3) LS ((psh r st').map (cv G)))) : W p l e R s m args below meth c H locs cells slots Q (F0 m pc LS (st.map (cv G))) := by
  obtain ⟨hx, hb, hml, hown, hts, hin, hK, hfr, hlo, hSx, hbz, hX⟩ := C
  obtain ⟨m1, m2, m3⟩ := ex_mono n _ _ _ _ _ _ _ _ hex
  obtain ⟨w1, w2, w3, w4, w5, w6, w7⟩ := id hw
  have z0 := w1.1
  have hsub : ∀ (N : Nat), oks (st.take N).reverse := fun N v hv => ho v (List.mem_of_mem_take (List.mem_reverse.mp hv))
  have hdr : ∀ (N : Nat), oks (st.drop N) := fun N v hv => ho v (List.mem_of_mem_drop hv)
  have hG : ∀ k', okm_ k' → GoodIn lwg (Cond.code (mname k') (mcode k') (mmaxL k') (mret k') :: lwg) := by
    intro k' hk' w hw
    have hin : w ∈ lwg := by
      rcases List.mem_cons.mp hw with rfl | z
      · exact lg hk'.1
      · exact z
    exact ⟨hin, good_of_word (List.mem_filter.mp hin).2⟩
  have hpsh : ∀ st0 : List AV, oks st0 → okv r → oks (psh r st0) := fun st0 q1 q2 => by
    unfold psh
    split
    · exact q1
    · exact oks_cons.mpr ⟨q2, q1⟩
  have hroom : ∀ k', mmaxL k' ≤ 60 → 8 + (mmaxL k' + 11) + 100 * d ≤ R.locals := fun k' q => by omega
  have hmx : ∀ k', k' < 328 → mmaxL k' ≤ 60 := by decide +kernel
  refine W_sz (fun hsz => ?_)
  have hsize := Wo_size hw hsz
  have hpre : ∀ U : State, U.heap = H → s.WarmedH U.vm → Pcx D G ca Hz sx Sx h U := fun U hU hW => Pcx_warm hSR hU hW hsize w2 w4.2 hK hSx hX
  have hf : cells + ((mnx h1).toNat - (mnx h).toNat) ≤ R.cells ∧ slots + (msl h1 - msl h) ≤ R.slots := ⟨by omega, by omega⟩
  unfold ca_ at hca
  split at hca
  · rename_i ix
    obtain rfl := lnok (n := 2) hlen rfl
    split at hca
    · rename_i k2 ht
      split at hca
      · rename_i r0 rest hdrop
        obtain ⟨hk, he⟩ := bif_some hca
        cases he
        simp only [Bool.and_eq_true, decide_eq_true_eq, isKb_iff] at hk
        obtain ⟨⟨⟨t1, t2⟩, t3⟩, t4, t5, t6⟩ := hk
        have hok := mk_all _ t4
        have hM := exM hbz ih hex hok h3 (oks_cons.mpr ⟨okv_2 _, hsub _⟩) t5 D ca sx w1 w7
        have hlink := ((rk_all _ _ (lk_mem ht)).1 t4).1 rfl
        obtain ⟨j1, j2, ⟨j3, j3a, j3b, j3c⟩, j4, j5, j6, j7, j8⟩ := id hok
        obtain ⟨j6a, j6b⟩ := j6 t1
        have hnp : mnp k' ≤ st.length := by
          rcases Nat.lt_or_ge st.length (mnp k') with z | z
          · rw [List.drop_eq_nil_of_le (by omega)] at hdrop
            cases hdrop
          · exact z
        have hT : GoodIn lwg (wsV (cname (own k)) ix (mname k').cls (mname k') (Cond.code (mname k') (mcode k') (mmaxL k') (mret k') :: lwg)) := by
          intro w hw
          rcases List.mem_append.mp hw with z | z
          · have hin : w ∈ lwg := by
              simp only [List.mem_cons, List.not_mem_nil, or_false] at z
              rcases z with rfl | rfl | rfl | rfl
              · exact lg hlink
              · exact lg j6a
              · exact lg j6b
              · exact lg j2
            exact ⟨hin, good_of_word (List.mem_filter.mp hin).2⟩
          · exact hG k' hok w z
        have hdrop' : oks st' := by
          have := hdr (mnp k')
          rw [hdrop] at this
          exact (oks_cons.mp this).2
        have hcl : own k' < 12 := by
          have : ∀ k', k' < 328 → tb_d k' = 0 → own k' < 12 := by decide +kernel
          exact this _ t4 t1
        have he := wl_get (G := G) (ca := ca) t2.1 t2.2.1
        rw [cont_ob t2.2.2 hcl] at he
        obtain ⟨c1, -⟩ := cl_all _ hcl
        have hrecv := va_recv hK w2 c1 he
        have hst : st.map (cv G) = ((st.take (mnp k')).reverse.map (cv G)).reverse ++ .ref (G.1 + r0.toNat) :: st'.map (cv G) := by
          rw [stk (mnp k'), hdrop, List.map_cons, cv_pos t2.1]
        have hM' : Met l (mname k') (Cond.code (mname k') (mcode k') (mmaxL k') (mret k') :: lwg) { frames := d, cells := (mnx h1).toNat - (mnx h).toNat, slots := msl h1 - msl h, locals := 100 * d } (va_Pc (.ref (G.1 + r0.toNat) :: (st.take (mnp k')).reverse.map (cv G)) (Pcx D G ca Hz sx Sx h)) (fun _ _ oc t => Qcx D G ca Hz r h1 oc t) ((mnx h1).toNat - (mnx h).toNat) (msl h1 - msl h) (fun q => G.1 ≤ q) := by
          rw [List.map_cons, cv_pos t2.1] at hM
          exact hM
        exact run_W (a := #[]) (va_runV (As := (st.take (mnp k')).reverse.map (cv G)) (rest := st'.map (cv G)) ⟨hx, hb, hml, hown, hts⟩ hM' (cwV (mnp k') hts hT rfl rfl rfl ⟨rfl, j3a, j3b, j3c⟩ ⟨by show d + 1 ≤ R.frames; omega, hroom k' (hmx k' t4)⟩) ⟨Pcx_blind hSR _, by rw [← j3] at hrecv; exact hrecv, fun U hU hW => ⟨rfl, hpre U hU hW⟩⟩ rfl (len4 hnp) hls hst (lv_room (rest8 t3)) hd hf) hw rfl rfl m1 m2 m3 (fun H1 locs1 n1 n2 qr hw1 => kk H1 locs1 n1 n2 (hpsh _ hdrop' qr) hw1)
      · cases hca
    · cases hca
  · rename_i ix
    obtain rfl := lnok (n := 2) hlen rfl
    split at hca
    · rename_i k2 ht
      obtain ⟨hk, he⟩ := bif_some hca
      cases he
      simp only [Bool.and_eq_true, decide_eq_true_eq] at hk
      obtain ⟨⟨⟨t1, t2⟩, t3⟩, t4, t5, t6⟩ := hk
      have hok := mk_all _ t4
      have hM := exM hbz ih hex hok h3 (hsub _) t5 D ca sx w1 w7
      have hlink := ((rk_all _ _ (lk_mem ht)).1 t4).1 rfl
      obtain ⟨j1, j2, ⟨j3, j3a, j3b, j3c⟩, j4, j5, j6, j7, j8⟩ := id hok
      have hcb := callB_of (R := R) (rm := { frames := d, cells := (mnx h1).toNat - (mnx h).toNat, slots := msl h1 - msl h, locals := 100 * d }) (mc := (mnx h1).toNat - (mnx h).toNat) (ms := msl h1 - msl h) (own := cname (own k)) (index := ix) (mnp k') hts (hG k' hok) rfl rfl rfl (hts _ (lg j2)) (hts _ (lg hlink)) ⟨j3a, j3b, j3c⟩ ⟨by show d + 1 ≤ R.frames; omega, hroom k' (hmx k' t4)⟩
      exact run_W (a := #[]) (va_runS (As := (st.take (mnp k')).reverse.map (cv G)) (rest := (st.drop (mnp k')).map (cv G)) ⟨hx, hb, hml, hown, hts⟩ hM ⟨hcb, hts _ (lg (j7 t1))⟩ ⟨Pcx_blind hSR _, fun U hU hW => ⟨rfl, hpre U hU hW⟩⟩ rfl (len4 t2) hls (stk _) (lv_room (rest8s t3)) hd hf) hw rfl rfl m1 m2 m3 (fun H1 locs1 n1 n2 qr hw1 => kk H1 locs1 n1 n2 (hpsh _ (hdr _) qr) hw1)
    · cases hca
  · rename_i ix
    obtain rfl := lnok (n := 2) hlen rfl
    split at hca
    · rename_i k2 fl ht
      split at hca
      · rename_i r0 rest hdrop
        obtain ⟨hk, he⟩ := bif_some hca
        cases he
        simp only [Bool.and_eq_true, decide_eq_true_eq] at hk
        obtain ⟨⟨⟨t1, t2⟩, t3⟩, t4, t5, t6⟩ := hk
        have hok := mk_all _ t4
        have hM := exM hbz ih hex hok h3 (oks_cons.mpr ⟨okv_2 _, hsub _⟩) t5 D ca sx w1 w7
        obtain ⟨j1, j2, ⟨j3, j3a, j3b, j3c⟩, j4, j5, j6, j7, j8⟩ := id hok
        obtain ⟨j8a, j8b, j8c⟩ := j8 t1
        rw [j8c] at hM
        have hnp : mnp k' ≤ st.length := by
          rcases Nat.lt_or_ge st.length (mnp k') with z | z
          · rw [List.drop_eq_nil_of_le (by omega)] at hdrop
            cases hdrop
          · exact z
        have hdrop' : oks st' := by
          have := hdr (mnp k')
          rw [hdrop] at this
          exact (oks_cons.mp this).2
        have hst : st.map (cv G) = ((st.take (mnp k')).reverse.map (cv G)).reverse ++ .ref (G.1 + r0.toNat) :: st'.map (cv G) := by
          rw [stk (mnp k'), hdrop, List.map_cons, cv_pos t2]
        have hM' : Met l (mname k') (Cond.code (mname k') (mcode k') (mmaxL k') none :: lwg) { frames := d, cells := (mnx h1).toNat - (mnx h).toNat, slots := msl h1 - msl h, locals := 100 * d } (va_Pc (.ref (G.1 + r0.toNat) :: (st.take (mnp k')).reverse.map (cv G)) (Pcx D G ca Hz sx Sx h)) (fun _ _ oc t => Qcx D G ca Hz r h1 oc t) ((mnx h1).toNat - (mnx h).toNat) (msl h1 - msl h) (fun q => G.1 ≤ q) := by
          rw [List.map_cons, cv_pos t2] at hM
          exact hM
        have hG' := hG k' hok
        rw [j8c] at hG'
        have hall := rk_all _ _ (lk_mem ht)
        have hfl : fl = 0 ∨ fl = 1 := by
          have := hall.2.1
          dsimp only at this
          omega
        rcases hfl with rfl | rfl
        · have hlink := (hall.1 t4).1 rfl
          exact run_W (a := #[]) (va_runI (As := (st.take (mnp k')).reverse.map (cv G)) (rest := st'.map (cv G)) ⟨hx, hb, hml, hown, hts⟩ hM' (cwI (mnp k') hts hG' rfl rfl rfl (hts _ (lg j2)) (hts _ (lg hlink)) (hts _ (lg j8a)) j8b ⟨j3a, j3b, j3c⟩ ⟨by show d + 1 ≤ R.frames; omega, hroom k' (hmx k' t4)⟩) ⟨Pcx_blind hSR _, fun U hU hW => ⟨rfl, hpre U hU hW⟩⟩ rfl (len4 hnp) hls hst (lv_room (rest8 t3)) hd hf) hw rfl rfl m1 m2 m3 (fun H1 locs1 n1 n2 qr hw1 => kk H1 locs1 n1 n2 (hpsh _ hdrop' qr) hw1)
        · have hnw := hSx.2.2.2 _ _ _ ht t4
          exact run_W (a := #[]) (va_runIN (As := (st.take (mnp k')).reverse.map (cv G)) (rest := st'.map (cv G)) ⟨hx, hb, hml, hown, hts⟩ hM' ⟨va_cnB (mnp k') hts hG' rfl rfl rfl hnw (hts _ (lg j2)) ⟨j3a, j3b, j3c⟩ ⟨by show d + 1 ≤ R.frames; omega, hroom k' (hmx k' t4)⟩, j8b, hts _ (lg j8a)⟩ ⟨Pcx_blind hSR _, fun U hU hW => ⟨rfl, hpre U hU hW⟩⟩ rfl (len4 hnp) hls hst (lv_room (rest8 t3)) hd hf) hw rfl rfl m1 m2 m3 (fun H1 locs1 n1 n2 qr hw1 => kk H1 locs1 n1 n2 (hpsh _ hdrop' qr) hw1)
      · cases hca
    · cases hca
  · cases hca
end EX
