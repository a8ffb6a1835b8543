theorem wl_slen : Cond.methodLink RX5 21 yJ0_length_8abf5 ∈ lw_tbl := List.mem_append_right _ (List.mem_of_getElem? (i := 276) (by decide +kernel))
theorem wl_cha : Cond.methodLink RX5 27 yJ0_charAt_5068e ∈ lw_tbl := List.mem_append_right _ (List.mem_of_getElem? (i := 286) (by decide +kernel))
theorem tx_len : ∀ q ∈ tb_r_5, q.2.1 = 1002 → q.1 = 21 := by decide
theorem tx_cha : ∀ q ∈ tb_r_5, q.2.1 = 1003 → q.1 = 27 := by decide
theorem wt_ok : ∀ n, n < 125 → (((Int32.ofInt (wtx.getD n 0) &&& 255).toUInt32 % 65536).toInt32 = Int32.ofInt (wtx.getD n 0) ∧ narrow .char (.int (Int32.ofInt (wtx.getD n 0))) = .int (Int32.ofInt (wtx.getD n 0))) := by decide +kernel
section SU
variable {l : Launch} {G : Nat × Nat × Nat} {Hz : Heap} {av : Nat} {fv : Option Nat}
set_option maxHeartbeats 4000000 in
set_option maxRecDepth 100000 in
theorem st_l1 {n : Nat} (hn : n < 125) : Met l yJ1_charAt_3b067 (Cond.code yJ1_charAt_3b067 cJ1_charAt_3b067 2 (some .char) :: lwg) (rmF 3) (va_Pc [.ref av, .int (nI n)] (SyH G Hz av fv)) (Qst (some (.int (Int32.ofInt (wtx.getD n 0))))) 0 0 (fun _ => False) := by
  refine va_MetF (cc := cJ1_charAt_3b067) (maxL := 2) (ret := (some .char)) (by decide) rfl ?_
  intro p e s m args below meth c s₁ B hml hv
  obtain ⟨rfl, hv⟩ := hv
  obtain ⟨h1, h2, h3, h4, h5, h6⟩ := SyH_kept hv
  have hx := B.exec
  have hb := B.bytes
  have hr := B.returns
  have hts : ∀ w ∈ lwg, w.before _ s = true := fun w hw => atoms_spec (ws := Cond.code yJ1_charAt_3b067 cJ1_charAt_3b067 2 (some .char) :: lwg) B.pre w (List.mem_cons_of_mem _ hw)
  have hown : s.vm.findClass RJ1 = some m.cls := findClass_of_methodNamed B.named
  have hlocks := B.notSynchronized
  have hS : va_S (fun q => G.1 ≤ q) s.heap s.heap [] := va_S.rf
  have hl := lv_entry ([.ref av, .int (nI n)]) (n := 2) (Nat.le_of_ble_eq_true rfl)
  rw [lg_entry_eq]
  generalize (lg_sl ([.ref av, .int (nI n)]) ++ List.replicate (2 - (lg_sl ([.ref av, .int (nI n)])).length) Slot.unset).toArray = ls at hl ⊢
  have hl : lv_has ls 2 [(0, .ref av), (1, .int (nI n))] := hl
  refine lv_iload_n hx hb dJ1_charAt_3b067_0 rfl (lv_at hl 1 rfl) ?_
  refine lv_aload_n hx hb dJ1_charAt_3b067_1 rfl (lv_at hl 0 rfl) ?_
  refine va_tlen (v := 125) hx hb h4 hS rfl dJ1_charAt_3b067_2 ?_
  have hlt : nI n < 125 := nI_lt (b := 125) hn (by decide)
  have h0 : ¬ nI n < 0 := nI_pos (by omega)
  have hcb := callB_of (R := (headSpec (Cond.code yJ1_charAt_3b067 cJ1_charAt_3b067 2 (some .char) :: lwg) (rmF 3)).room) (rm := rmF 2) (mc := 0) (ms := 0) (own := RJ1) (index := 9) 2 hts (gC wc_checkIndex) rfl rfl rfl (hts _ (lg wi_S)) (hts _ (lg wl_ci)) (by decide +kernel) ⟨Nat.le_of_ble_eq_true rfl, Nat.le_of_ble_eq_true rfl⟩
  refine run0_W (va_runS (As := [.int (nI n), .int 125]) (rest := []) ⟨hx, hb, hml, hown, hts⟩ (st_ci (l := l) (G := G) (Hz := Hz) (av := av) (fv := fv) h0 hlt) ⟨hcb, hts _ (lg wk_checkIndex)⟩ ⟨SyH_blind _, fun U hU hW => ⟨rfl, SyP_moved hW.alike hv.1, by rw [hU]; exact hv.2⟩⟩ rfl rfl hl.1 rfl (lv_room (Nat.le_of_ble_eq_true rfl)) dJ1_charAt_3b067_3 ⟨Nat.le_refl _, Nat.le_refl _⟩) ?_
  refine W.eq (g2 := F0 m 6 ls []) rfl ?_
  refine lv_aload_n hx hb dJ1_charAt_3b067_6 rfl (lv_at hl 0 rfl) ?_
  refine lv_iload_n hx hb dJ1_charAt_3b067_7 rfl (lv_at hl 1 rfl) ?_
  refine va_tb hx hb h4 hS (vp_in_nI hn (by decide)) (v := .int (Int32.ofInt (wtx.getD n 0))) (by rw [nI_clamp (by omega)]) dJ1_charAt_3b067_8 ?_
  refine lv_sipush (v := 255) hx hb dJ1_charAt_3b067_9 (by decide) ?_
  refine lv_iand hx hb dJ1_charAt_3b067_12 ?_
  refine lv_i2c hx hb dJ1_charAt_3b067_13 (wt_ok n hn).1 ?_
  exact W.zret (ty := .char) hx hb hr (wt_ok n hn).2 (fun t ht _ => ⟨rfl, ht⟩) (fun _ z => absurd z List.not_mem_nil) dJ1_charAt_3b067_14
set_option maxHeartbeats 4000000 in
set_option maxRecDepth 100000 in
theorem st_cha {n : Nat} (hn : n < 125) : Met l yJ0_charAt_5068e (Cond.code yJ0_charAt_5068e cJ0_charAt_5068e 2 (some .char) :: lwg) (rmF 4) (va_Pc [.ref G.2.2, .int (nI n)] (SyH G Hz av fv)) (Qst (some (.int (Int32.ofInt (wtx.getD n 0))))) 0 0 (fun _ => False) := by
  refine va_MetF (cc := cJ0_charAt_5068e) (maxL := 2) (ret := (some .char)) (by decide) rfl ?_
  intro p e s m args below meth c s₁ B hml hv
  obtain ⟨rfl, hv⟩ := hv
  obtain ⟨h1, h2, h3, h4, h5, h6⟩ := SyH_kept hv
  have hx := B.exec
  have hb := B.bytes
  have hr := B.returns
  have hts : ∀ w ∈ lwg, w.before _ s = true := fun w hw => atoms_spec (ws := Cond.code yJ0_charAt_5068e cJ0_charAt_5068e 2 (some .char) :: lwg) B.pre w (List.mem_cons_of_mem _ hw)
  have hown : s.vm.findClass RJ0 = some m.cls := findClass_of_methodNamed B.named
  have hlocks := B.notSynchronized
  have hS : va_S (fun q => G.1 ≤ q) s.heap s.heap [] := va_S.rf
  have hl := lv_entry ([.ref G.2.2, .int (nI n)]) (n := 2) (Nat.le_of_ble_eq_true rfl)
  rw [lg_entry_eq]
  generalize (lg_sl ([.ref G.2.2, .int (nI n)]) ++ List.replicate (2 - (lg_sl ([.ref G.2.2, .int (nI n)])).length) Slot.unset).toArray = ls at hl ⊢
  have hl : lv_has ls 2 [(0, .ref G.2.2), (1, .int (nI n))] := hl
  refine lv_aload_n hx hb dJ0_charAt_5068e_0 rfl (lv_at hl 0 rfl) ?_
  obtain ⟨cell, g1, g2, g3, -⟩ := h1
  refine run0_W (va_runV (As := []) (rest := []) ⟨hx, hb, hml, hown, hts⟩ (st_isl (l := l) (G := G) (Hz := Hz) (av := av) (fv := fv)) (cwV 0 hts (gV wl_isl wk_isLatin1 wv_isLatin1 wi_S wc_isLatin1) rfl rfl rfl (by decide +kernel) ⟨Nat.le_of_ble_eq_true rfl, Nat.le_of_ble_eq_true rfl⟩) ⟨SyH_blind _, ⟨cell, g1, g2, g3⟩, fun U hU hW => ⟨rfl, SyP_moved hW.alike hv.1, by rw [hU]; exact hv.2⟩⟩ rfl rfl hl.1 rfl (lv_room (Nat.le_of_ble_eq_true rfl)) dJ0_charAt_5068e_1 ⟨Nat.le_refl _, Nat.le_refl _⟩) ?_
  refine W.eq (g2 := F0 m 4 ls [.int 1]) rfl ?_
  refine lv_if_eq (tgt := 16) hx hb dJ0_charAt_5068e_4 (by decide) (fun z => absurd z (by decide)) (fun _ => ?_)
  refine lv_aload_n hx hb dJ0_charAt_5068e_7 rfl (lv_at hl 0 rfl) ?_
  refine vk_getf hx hb h3 hS hown (hts _ (lg ws_value)) (fun _ z => z) dJ0_charAt_5068e_8 ?_
  refine lv_iload_n hx hb dJ0_charAt_5068e_11 rfl (lv_at hl 1 rfl) ?_
  have hcb := callB_of (R := (headSpec (Cond.code yJ0_charAt_5068e cJ0_charAt_5068e 2 (some .char) :: lwg) (rmF 4)).room) (rm := rmF 3) (mc := 0) (ms := 0) (own := RJ0) (index := 495) 2 hts (gC wc_l1charAt) rfl rfl rfl (hts _ (lg wi_L)) (hts _ (lg wl_l1)) (by decide +kernel) ⟨Nat.le_of_ble_eq_true rfl, Nat.le_of_ble_eq_true rfl⟩
  refine run0_W (va_runS (As := [.ref av, .int (nI n)]) (rest := []) ⟨hx, hb, hml, hown, hts⟩ (st_l1 (l := l) (G := G) (Hz := Hz) (av := av) (fv := fv) hn) ⟨hcb, hts _ (lg wk_l1charAt)⟩ ⟨SyH_blind _, fun U hU hW => ⟨rfl, SyP_moved hW.alike hv.1, by rw [hU]; exact hv.2⟩⟩ rfl rfl hl.1 rfl (lv_room (Nat.le_of_ble_eq_true rfl)) dJ0_charAt_5068e_12 ⟨Nat.le_refl _, Nat.le_refl _⟩) ?_
  refine W.eq (g2 := F0 m 15 ls [.int (Int32.ofInt (wtx.getD n 0))]) rfl ?_
  exact W.zret (ty := .char) hx hb hr (wt_ok n hn).2 (fun t ht _ => ⟨rfl, ht⟩) (fun _ z => absurd z List.not_mem_nil) dJ0_charAt_5068e_15
set_option maxHeartbeats 4000000 in
set_option maxRecDepth 100000 in
theorem SR_str : SR l G Hz (fun U => SyP G Hz av fv U ∧ vk_R RX5 19 wtS G.2.2 U) := by
  refine ⟨fun s U hW h => ⟨SyP_moved hW.alike h.1, h.2.warm hW⟩, fun s U hW h => ⟨SyP_moved (hW ▸ Vm.Alike.refl s.vm) h.1, h.2.same hW.symm⟩, ?_⟩
  intro p e R s m args below meth c H locs cells slots Q pc k d LS st D ca sx C h5 hls hO hc hs
  obtain ⟨hx, hb, hml, hown, hts, hin, hK, hfr, hlo, ⟨⟨hSy, hvk⟩, hXw⟩, hbz, hX⟩ := C
  have hown5 : s.vm.findClass RX5 = some m.cls := by
    rw [h5] at hown
    exact hown
  have hq : ∀ a : Nat, a < Hz.size → ¬ (fun q => G.1 ≤ q) a → H[a]? = Hz[a]? := fun a _ z => hO a (Nat.not_le.mp z)
  obtain ⟨cell, g1, g2, g3, -⟩ := hSy.1.kept hq
  refine ⟨fun hd kk => va_ldcS hx hb hown5 hvk hd kk, fun ix hd9 hst ht hd kk => ?_, fun ix j hd9 hst h0 h1 ht hd kk => ?_⟩
  · rw [h5] at ht
    have hix : ix = 21 := tx_len (ix, 1002, 0) (lk_mem ht) rfl
    subst hix
    refine run0_W (va_runV (As := []) (rest := st.map (cv G)) ⟨hx, hb, hml, hown5, hts⟩ (st_len (l := l) (G := G) (Hz := Hz) (av := av) (fv := fv)) (cwV 0 hts (gV wl_slen wk_length wv_length wi_S wc_length) rfl rfl rfl (by decide +kernel) ⟨by show 2 + 1 ≤ R.frames; omega, by show 8 + (1 + 11) + 100 * 2 ≤ R.locals; omega⟩) ⟨SyH_blind _, ⟨cell, g1, g2, g3⟩, fun U hU hW => ⟨rfl, SyP_moved hW.alike hSy, by rw [hU]; exact hO⟩⟩ rfl rfl hls rfl (lv_room (rest8 hst)) hd ⟨by omega, by omega⟩) ?_
    rw [wtx_len] at kk
    exact kk
  · rw [h5] at ht
    have hix : ix = 27 := tx_cha (ix, 1003, 0) (lk_mem ht) rfl
    subst hix
    rw [wtx_len] at h1
    have hn : j.toNat < 125 := by omega
    have hj : Int32.ofInt j = nI j.toNat := by
      rw [← Int32.toInt_inj, in32_of ⟨by omega, by omega⟩, nI_toInt (by omega)]
      omega
    rw [cv_i, hj]
    refine run0_W (va_runV (As := [.int (nI j.toNat)]) (rest := st.map (cv G)) ⟨hx, hb, hml, hown5, hts⟩ (st_cha (l := l) (G := G) (Hz := Hz) (av := av) (fv := fv) hn) (cwV 1 hts (gV wl_cha wk_charAt wv_charAt wi_S wc_charAt) rfl rfl rfl (by decide +kernel) ⟨by show 4 + 1 ≤ R.frames; omega, by show 8 + (2 + 11) + 100 * 4 ≤ R.locals; omega⟩) ⟨SyH_blind _, ⟨cell, g1, g2, g3⟩, fun U hU hW => ⟨rfl, SyP_moved hW.alike hSy, by rw [hU]; exact hO⟩⟩ rfl rfl hls rfl (lv_room (rest8 hst)) hd ⟨by omega, by omega⟩) ?_
    exact kk
end SU
set_option maxHeartbeats 4000000 in
set_option maxRecDepth 100000 in
theorem hS_start {p : Program} {s : State} {m : MethodId} {meth : Method} {c : Code} (l : Launch) {b L : Nat} {xs : Nat → Int32} (C0 : lw_At p s m meth c b L xs) : ∃ (t : Nat) (Sx : State → Prop), SR l (s.heap.size, b, t) s.heap Sx ∧ Sx s := by
  obtain ⟨hx, hb, hr, hml, hown, hts, hX, hbl, hlocks, hgv⟩ := C0
  have hs := flat_of_before _ hgv
  have hA : ∀ a : Nat, a < s.heap.size → ¬ (fun q => s.heap.size ≤ q) a := fun a h => Nat.not_le.mpr h
  have hel : ∀ j, j < 125 → Cond.eq (.elem (.field (.string "LetterNames$Reader" 19) "java/lang/String" "value" "[B") (.int (Int32.ofNat j))) (.int (([wtx.map Int32.ofInt].getD 0 []).getD j 0)) ∈ flatC (Jvm.Cond.and given_1 narrow_1) := by decide +kernel
  obtain ⟨adK, adV, hv, hev⟩ := vk_Sof (args := #[Value.ref b]) (s := s) (N := 1) (tm := fun _ => .string "LetterNames$Reader" 19) (len := [125]) (byt := [wtx.map Int32.ofInt]) (A := fun q => s.heap.size ≤ q) (fun i hi => by rw [show i = 0 by omega]; decide) (fun i hi => hs _ (by decide +kernel)) (fun i hi => hs _ (by decide +kernel)) (fun i hi => hs _ (by decide +kernel)) (fun i hi => by rw [show i = 0 by omega]; exact hs _ (by decide +kernel)) (fun i hi j hj => by
      have e : i = 0 := by omega
      subst e
      exact hs _ (hel j hj)) (fun i j hi hj hne => absurd (show i = j by omega) hne) hA
  obtain ⟨v1, v2, v3, v4⟩ := hv.1 0 (by omega)
  have hev := hev 0 (by omega)
  have z1 := va_Zof (A := fun q => s.heap.size ≤ q) (hts _ wz_c) (hts _ wi_S) (va_eqt (hs (.eq (.static "java/lang/String" "COMPACT_STRINGS" "Z") (.int 1)) (by decide +kernel))) hA
  obtain ⟨fv, hfv⟩ : ∃ fv : Option Nat, (Term.static "jdk/internal/util/Preconditions" "SIOOBE_FORMATTER" "Ljava/util/function/BiFunction;").eval #[Value.ref b] s none [] s = some (va_rf fv) := by
    have hi := hs (.isRef (.static "jdk/internal/util/Preconditions" "SIOOBE_FORMATTER" "Ljava/util/function/BiFunction;")) (by decide +kernel)
    obtain ⟨v, hv, hr⟩ := Cond.isRef_spec hi
    cases v with
    | null => exact ⟨none, hv⟩
    | ref a => exact ⟨some a, hv⟩
    | _ => cases hr
  have z2 := va_Zof (A := fun q => s.heap.size ≤ q) (hts _ wz_f) (hts _ wi_P) hfv hA
  refine ⟨adK 0, _, SR_str (av := adV 0) (fv := fv), ⟨v1, v2, v3, ?_, z1, z2⟩, ?_⟩
  · have e : (fun j => Value.int (([wtx.map Int32.ofInt].getD 0 []).getD j 0)) = (fun j => Value.int (Int32.ofInt (wtx.getD j 0))) := by
      funext j
      show Value.int ((wtx.map Int32.ofInt).getD j 0) = _
      rw [List.getD_eq_getElem?_getD, List.getD_eq_getElem?_getD, List.getElem?_map]
      cases wtx[j]? <;> rfl
    rw [← e]
    exact v4
  · exact vk_R.of (A := #[Value.ref b]) (hts _ wstr) hev
theorem whole_open (hlaw : LawOk) {p : Program} {e : Env} {s : State} {m : MethodId} {below : List Frame} {meth : Method} {c : Code} (l : Launch) {b L : Nat} {xs : Nat → Int32} (hL : L ≤ 3072) (C0 : lw_At p s m meth c b L xs) : W p l e room_1 s m #[Value.ref b] below meth c s.heap [] 0 0 (lw_Z below #[Value.ref b] s) (entryFrame m ([Value.ref b] : List Value).toArray 4) := start_open hlaw l hL C0 (hS_start l C0)
