/-! memory: all of it -/
theorem bif_some {α : Type} {b : Bool} {x y : α} (h : (bif b then some x else none) = some y) : b = true ∧ x = y := by
  cases b
  · cases h
  · exact ⟨rfl, Option.some.inj h⟩
theorem ite_some {α : Type} {b : Prop} [Decidable b] {x y : α} (h : (if b then some x else none) = some y) : b ∧ x = y := by
  by_cases hb : b
  · rw [if_pos hb] at h
    exact ⟨hb, Option.some.inj h⟩
  · rw [if_neg hb] at h
    cases h
/-- the constant text: what the rows of its three uses must give -/
def SR (l : Launch) (G : Nat × Nat × Nat) (Hz : Heap) (Sx : State → Prop) : Prop :=
  (∀ s U : State, s.WarmedH U.vm → Sx s → Sx U) ∧ (∀ s U : State, s.vm = U.vm → Sx s → Sx U) ∧
  ∀ (p : Program) (e : Env) (R : Room) (s : State) (m : MethodId) (args : Array Value) (below : List Frame) (meth : Method) (c : Code) (H : Heap) (locs : List Loc) (cells slots : Nat) (Q : State → Prop) (pc k d : Nat) (LS : Array Slot) (st : List AV) (D : va_G) (ca : Nat → ClassId) (sx : (Int → Int) × Int),
    Cx k d p R s m args meth c D G ca Hz sx Sx → own k = 5 → LS.size = mmaxL k → (∀ q, q < G.1 → H[q]? = Hz[q]?) → cells ≤ R.cells → slots ≤ R.slots →
    (decode (mcode k) pc = .ok (.ldc 19, 2) → W p l e R s m args below meth c H locs cells slots Q (F0 m (pc + 2) LS (.ref G.2.2 :: st.map (cv G))) → W p l e R s m args below meth c H locs cells slots Q (F0 m pc LS (st.map (cv G)))) ∧
    (∀ ix, 9 < d → st.length ≤ 4 → tref (own k) ix = some (1002, 0) → decode (mcode k) pc = .ok (.invokevirtual ix, 3) → W p l e R s m args below meth c H locs cells slots Q (F0 m (pc + 3) LS (cv G (0, (wtx.length : Int)) :: st.map (cv G))) → W p l e R s m args below meth c H locs cells slots Q (F0 m pc LS (.ref G.2.2 :: st.map (cv G)))) ∧
    (∀ ix j, 9 < d → st.length ≤ 4 → 0 ≤ j → j < (wtx.length : Int) → tref (own k) ix = some (1003, 0) → decode (mcode k) pc = .ok (.invokevirtual ix, 3) → W p l e R s m args below meth c H locs cells slots Q (F0 m (pc + 3) LS (cv G (0, wtx.getD j.toNat 0) :: st.map (cv G))) → W p l e R s m args below meth c H locs cells slots Q (F0 m pc LS (cv G (0, j) :: .ref G.2.2 :: st.map (cv G))))
theorem arrV_congr {c : ClassId} {N : Nat} {f g : Nat → Value} (h : ∀ i, i < N → f i = g i) : arrV c N f = arrV c N g := by
  unfold arrV
  congr 1
  apply Array.ext
  · simp
  · intro i h1 h2
    simp only [Array.getElem_ofFn]
    exact h i (by simpa using h1)
theorem wtx_len : (wtx.length : Int) = 125 := by decide +kernel
section MZ
variable {p : Program} {l : Launch} {e : Env} {R : Room} {s : State} {m : MethodId} {args : Array Value} {below : List Frame} {meth : Method} {c : Code} {H : Heap} {locs : List Loc} {cells slots : Nat} {Q : State → Prop}
variable {pc len k d sb : Nat} {LS : Array Slot} {G : Nat × Nat × Nat} {D : va_G} {ca : Nat → ClassId} {Hz : Heap} {sx : (Int → Int) × Int} {h : AM} {Sx : State → Prop} {st : List AV} {r j v : Int}
theorem Wo_size (hw : Wo D G ca Hz sx s.heap.size sb h H locs cells slots) (hsz : H.size ≤ s.heap.size + cells) : H.size = G.1 + (mnx h).toNat := by
  obtain ⟨w1, w2, w3, w4, w5, w6, w7⟩ := hw
  rcases Nat.eq_zero_or_pos (mnx h).toNat with z | z
  · have := w4.1
    omega
  · have hl := wl_get (G := G) (ca := ca) (h := h) (r := mnx h - 1) (by omega) (by omega)
    have := (w2 _ _ hl).lt
    dsimp only at this
    omega
set_option maxHeartbeats 4000000 in
theorem me_W (hSR : SR l G Hz Sx) (C : Cx k d p R s m args meth c D G ca Hz sx Sx) (hw : Wo D G ca Hz sx s.heap.size sb h H locs cells slots) (hls : LS.size = mmaxL k) (hmn : ∀ st' h', me_ d k (.multianewarray 18 2) st h = some (st', h') → own k = 4 → decode (mcode k) pc = .ok (.multianewarray 18 2, 4) → G.1 + (mnx h').toNat ≤ s.heap.size + R.cells → msl h' ≤ sb + R.slots → (∀ (H1 : Heap) (locs1 : List Loc) (n1 n2 : Nat), oks st' → Wo D G ca Hz sx s.heap.size sb h' H1 locs1 n1 n2 → W p l e R s m args below meth c H1 locs1 n1 n2 Q (F0 m (pc + 4) LS (st'.map (cv G)))) → W p l e R s m args below meth c H locs cells slots Q (F0 m pc LS (st.map (cv G))))
    {i : Instr} (hd : decode (mcode k) pc = .ok (i, len)) (hlen : lenok i len = true) {st' : List AV} {h' : AM} (hp : me_ d k i st h = some (st', h')) (hok : oks st) (hbc : G.1 + (mnx h').toNat ≤ s.heap.size + R.cells) (hbs : msl h' ≤ sb + R.slots)
    (kk : ∀ (H1 : Heap) (locs1 : List Loc) (n1 n2 : Nat), oks st' → Wo D G ca Hz sx s.heap.size sb h' H1 locs1 n1 n2 → W p l e R s m args below meth c H1 locs1 n1 n2 Q (F0 m (pc + len) LS (st'.map (cv G)))) : W p l e R s m args below meth c H locs cells slots Q (F0 m pc LS (st.map (cv G))) := by
  have hrd : ∀ (a j : Int) (t : Nat), tagk (mkn h a) j = t → okv (t, mrd h a j) := fun a j t ht => ⟨fun z => (hw.1.2.2.1 a j).1 (ht.trans z), fun z => (hw.1.2.2.1 a j).2 (ht.trans z)⟩
  cases i with
  | getfield ix =>
    obtain rfl := lnok (n := 2) hlen rfl
    simp only [me_] at hp
    split at hp
    · split at hp
      · rename_i ht
        obtain ⟨hk, he⟩ := bif_some hp
        cases he
        have hk := isKb_iff.mp hk
        obtain ⟨-, hok⟩ := oks_cons.mp hok
        have f1 := (fk_all _ _ (lk_mem ht)).1
        exact me_getf C hw hd ht hk (kk H locs cells slots (oks_cons.mpr ⟨hrd _ _ _ (by rw [hk.2.2, tagk, if_pos (by dsimp only at f1; omega), Int.toNat_natCast]), hok⟩) hw)
      · cases hp
    · cases hp
  | putfield ix =>
    obtain rfl := lnok (n := 2) hlen rfl
    simp only [me_] at hp
    split at hp
    · split at hp
      · rename_i ht
        obtain ⟨hk, he⟩ := bif_some hp
        cases he
        simp only [Bool.and_eq_true, Bool.or_eq_true, Bool.not_eq_true', decide_eq_true_eq, decide_eq_false_iff_not, isKb_iff] at hk
        obtain ⟨k1, k2, k3, k4⟩ := hk
        obtain ⟨hu, hok⟩ := oks_cons.mp hok
        obtain ⟨-, hok⟩ := oks_cons.mp hok
        exact me_putf C hw hd ht k1 hu k2 k3 (fun z => k4.resolve_left (fun y => y z)) (fun H1 locs1 hw1 => kk H1 locs1 cells slots hok hw1)
      · cases hp
    · cases hp
  | iaload =>
    obtain rfl := lnok (n := 0) hlen rfl
    simp only [me_] at hp
    split at hp
    · rename_i j r st
      obtain ⟨hj, hok⟩ := oks_cons.mp hok
      have hok2 := (oks_cons.mp hok).2
      by_cases e2 : r = -2
      · subst e2
        simp only [decide_true, cond_true] at hp
        obtain ⟨hk, he⟩ := bif_some hp
        cases he
        simp only [Bool.and_eq_true, decide_eq_true_eq] at hk
        exact me_sld C hw (okv_i.mp hj) hk.1 hk.2 hd (kk H locs cells slots (oks_cons.mpr ⟨okv_i.mpr (hw.1.2.2.2.1 _), hok2⟩) hw)
      · simp only [e2, decide_false, cond_false] at hp
        obtain ⟨hk, he⟩ := bif_some hp
        cases he
        have hk := inAb_iff.mp hk
        exact me_iald C hw (okv_i.mp hj) hk (Or.inl ⟨rfl, hd⟩) (kk H locs cells slots (oks_cons.mpr ⟨hrd _ _ _ (by rw [hk.1.2.2]; rfl), hok2⟩) hw)
    · cases hp
  | baload =>
    obtain rfl := lnok (n := 0) hlen rfl
    simp only [me_] at hp
    split at hp
    · rename_i j r st
      obtain ⟨hj, hok⟩ := oks_cons.mp hok
      obtain ⟨-, hok⟩ := oks_cons.mp hok
      obtain ⟨hk, he⟩ := bif_some hp
      cases he
      rcases Bool.or_eq_true _ _ ▸ hk with hk | hk
      · have hk := inAb_iff.mp hk
        exact me_iald C hw (okv_i.mp hj) hk (Or.inr ⟨Or.inl rfl, hd⟩) (kk H locs cells slots (oks_cons.mpr ⟨hrd _ _ _ (by rw [hk.1.2.2]; rfl), hok⟩) hw)
      · have hk := inAb_iff.mp hk
        exact me_iald C hw (okv_i.mp hj) hk (Or.inr ⟨Or.inr rfl, hd⟩) (kk H locs cells slots (oks_cons.mpr ⟨hrd _ _ _ (by rw [hk.1.2.2]; rfl), hok⟩) hw)
    · cases hp
  | laload =>
    obtain rfl := lnok (n := 0) hlen rfl
    simp only [me_] at hp
    split at hp
    · rename_i j r st
      obtain ⟨hj, hok⟩ := oks_cons.mp hok
      obtain ⟨-, hok⟩ := oks_cons.mp hok
      obtain ⟨hk, he⟩ := bif_some hp
      cases he
      have hk := inAb_iff.mp hk
      exact me_lald C hw (okv_i.mp hj) hk hd (kk H locs cells slots (oks_cons.mpr ⟨hrd _ _ _ (by rw [hk.1.2.2]; rfl), hok⟩) hw)
    · cases hp
  | aaload =>
    obtain rfl := lnok (n := 0) hlen rfl
    simp only [me_] at hp
    split at hp
    · rename_i j r st
      obtain ⟨hj, hok⟩ := oks_cons.mp hok
      obtain ⟨-, hok⟩ := oks_cons.mp hok
      obtain ⟨hk, he⟩ := bif_some hp
      cases he
      simp only [Bool.or_eq_true, inAb_iff] at hk
      have kk := kk H locs cells slots (oks_cons.mpr ⟨okv_2 _, hok⟩) hw
      rcases hk with hk | hk | hk | hk | hk <;> exact me_aald C hw (okv_i.mp hj) hk (by omega) (by omega) hd kk
    · cases hp
  | iastore =>
    obtain rfl := lnok (n := 0) hlen rfl
    simp only [me_] at hp
    split at hp
    · obtain ⟨hv, hok⟩ := oks_cons.mp hok
      obtain ⟨hj, hok⟩ := oks_cons.mp hok
      obtain ⟨-, hok⟩ := oks_cons.mp hok
      obtain ⟨hk, he⟩ := bif_some hp
      cases he
      exact me_iast C hw (okv_i.mp hj) (okv_i.mp hv) (inAb_iff.mp hk) (Or.inl ⟨rfl, rfl, hd⟩) (fun H1 locs1 hw1 => kk H1 locs1 cells slots hok hw1)
    · cases hp
  | bastore =>
    obtain rfl := lnok (n := 0) hlen rfl
    simp only [me_] at hp
    split at hp
    · rename_i v j r st
      obtain ⟨hv, hok⟩ := oks_cons.mp hok
      obtain ⟨hj, hok⟩ := oks_cons.mp hok
      obtain ⟨-, hok⟩ := oks_cons.mp hok
      cases hb : inAb h r 17 j with
      | true =>
        simp only [hb, cond_true] at hp
        cases hp
        exact me_iast C hw (okv_i.mp hj) (okv_i.mp hv) (inAb_iff.mp hb) (Or.inr (Or.inl ⟨rfl, rfl, hd⟩)) (fun H1 locs1 hw1 => kk H1 locs1 cells slots hok hw1)
      | false =>
        simp only [hb, cond_false] at hp
        obtain ⟨hk, he⟩ := bif_some hp
        cases he
        simp only [Bool.and_eq_true, Bool.or_eq_true, decide_eq_true_eq, inAb_iff] at hk
        exact me_iast C hw (okv_i.mp hj) (okv_i.mp hv) hk.1 (Or.inr (Or.inr ⟨rfl, hk.2, rfl, hd⟩)) (fun H1 locs1 hw1 => kk H1 locs1 cells slots hok hw1)
    · cases hp
  | lastore =>
    obtain rfl := lnok (n := 0) hlen rfl
    simp only [me_] at hp
    split at hp
    · obtain ⟨hv, hok⟩ := oks_cons.mp hok
      obtain ⟨hj, hok⟩ := oks_cons.mp hok
      obtain ⟨-, hok⟩ := oks_cons.mp hok
      obtain ⟨hk, he⟩ := bif_some hp
      cases he
      exact me_last C hw (okv_i.mp hj) (okv_l.mp hv) (inAb_iff.mp hk) hd (fun H1 locs1 hw1 => kk H1 locs1 cells slots hok hw1)
    · cases hp
  | aastore =>
    obtain rfl := lnok (n := 0) hlen rfl
    simp only [me_] at hp
    split at hp
    · obtain ⟨-, hok⟩ := oks_cons.mp hok
      obtain ⟨hj, hok⟩ := oks_cons.mp hok
      obtain ⟨-, hok⟩ := oks_cons.mp hok
      obtain ⟨hk, he⟩ := bif_some hp
      cases he
      simp only [Bool.and_eq_true, decide_eq_true_eq, inAb_iff, isKb_iff] at hk
      exact me_aast C hw (okv_i.mp hj) hk.2.1 hk.1.1 hk.1.2 hk.2.2 hd (fun H1 locs1 hw1 => kk H1 locs1 cells slots hok hw1)
    · cases hp
  | arraylength =>
    obtain rfl := lnok (n := 0) hlen rfl
    simp only [me_] at hp
    split at hp
    · rename_i r st
      have hok2 := (oks_cons.mp hok).2
      by_cases e2 : r = -2
      · subst e2
        simp only [decide_true, cond_true] at hp
        cases hp
        exact me_slen C hw hd (kk H locs cells slots (oks_cons.mpr ⟨okv_i.mpr ⟨by have := hw.1.2.2.2.2.1; omega, by have := hw.1.2.2.2.2.2; omega⟩, hok2⟩) hw)
      · simp only [e2, decide_false, cond_false] at hp
        obtain ⟨hk, he⟩ := bif_some hp
        cases he
        exact me_alen C hw (isKb_iff.mp hk) hd (kk H locs cells slots (oks_cons.mpr ⟨okv_i.mpr ⟨by have := (hw.1.2.1 r).1; omega, by have := (hw.1.2.1 r).2; omega⟩, hok2⟩) hw)
    · cases hp
  | new ix =>
    obtain rfl := lnok (n := 2) hlen rfl
    simp only [me_] at hp
    split at hp
    · rename_i cl ht
      obtain ⟨hlt, he⟩ := ite_some hp
      cases he
      have h0 := hw.1.1
      refine me_new C hw ht hlt ?_ ?_ hd (fun H1 hw1 => kk H1 locs _ _ (oks_cons.mpr ⟨okv_2 _, hok⟩) hw1)
      · have : (mnx (mal h cl (cNF cl) (dflt cl))).toNat = (mnx h).toNat + 1 := by show (mnx h + 1).toNat = _; omega
        omega
      · have : msl (mal h cl (cNF cl) (dflt cl)) = msl h + (cNF cl : Int).toNat := rfl
        rw [Int.toNat_natCast] at this
        omega
    · cases hp
  | newarray t =>
    obtain rfl := lnok (n := 1) hlen rfl
    simp only [me_] at hp
    split at hp
    · rename_i n st
      obtain ⟨-, hok⟩ := oks_cons.mp hok
      by_cases hn : 0 ≤ n ∧ n ≤ 1000000
      · rw [if_pos hn] at hp
        have h0 := hw.1.1
        have go : ∀ kd : Nat, ((t = .int ∧ kd = 16) ∨ (t = .byte ∧ kd = 17) ∨ (t = .boolean ∧ kd = 18) ∨ (t = .long ∧ kd = 19)) → some ((2, mnx h) :: st, mal h kd n (fun _ => 0)) = some (st', h') → W p l e R s m args below meth c H locs cells slots Q (F0 m pc LS (((0, n) :: st).map (cv G))) := by
          intro kd hkd he
          cases he
          have e1 : (mnx (mal h kd n (fun _ => 0))).toNat = (mnx h).toNat + 1 := by show (mnx h + 1).toNat = _; omega
          have e2 : msl (mal h kd n (fun _ => 0)) = msl h + n.toNat := rfl
          exact me_newa C hw hn hkd (by omega) (by omega) hd (fun H1 hw1 => kk H1 locs _ _ (oks_cons.mpr ⟨okv_2 _, hok⟩) hw1)
        cases t with
        | int => exact go 16 (Or.inl ⟨rfl, rfl⟩) hp
        | byte => exact go 17 (Or.inr (Or.inl ⟨rfl, rfl⟩)) hp
        | boolean => exact go 18 (Or.inr (Or.inr (Or.inl ⟨rfl, rfl⟩))) hp
        | long => exact go 19 (Or.inr (Or.inr (Or.inr ⟨rfl, rfl⟩))) hp
        | _ => cases hp
      · rw [if_neg hn] at hp
        cases hp
    · cases hp
  | anewarray ix =>
    obtain rfl := lnok (n := 2) hlen rfl
    simp only [me_] at hp
    split at hp
    · rename_i n st
      obtain ⟨-, hok⟩ := oks_cons.mp hok
      by_cases hn : 0 ≤ n ∧ n ≤ 1000000
      · rw [if_pos hn] at hp
        have h0 := hw.1.1
        have go : ∀ kd cl : Nat, tcls (own k) ix = some cl → 20 ≤ kd → kd < 24 → cl = elemK kd → some ((2, mnx h) :: st, mal h kd n (fun _ => -1)) = some (st', h') → W p l e R s m args below meth c H locs cells slots Q (F0 m pc LS (((0, n) :: st).map (cv G))) := by
          intro kd cl q1 q2 q3 q4 he
          cases he
          have e1 : (mnx (mal h kd n (fun _ => -1))).toNat = (mnx h).toNat + 1 := by show (mnx h + 1).toNat = _; omega
          have e2 : msl (mal h kd n (fun _ => -1)) = msl h + n.toNat := rfl
          exact me_anew C hw hn q1 q2 q3 q4 (by omega) (by omega) hd (fun H1 hw1 => kk H1 locs _ _ (oks_cons.mpr ⟨okv_2 _, hok⟩) hw1)
        split at hp
        · rename_i q
          exact go 20 8 q (by omega) (by omega) rfl hp
        · rename_i q
          exact go 21 6 q (by omega) (by omega) rfl hp
        · rename_i q
          exact go 22 2 q (by omega) (by omega) rfl hp
        · rename_i q
          exact go 23 1 q (by omega) (by omega) rfl hp
        · cases hp
      · rw [if_neg hn] at hp
        cases hp
    · cases hp
  | multianewarray ix dm =>
    obtain rfl := lnok (n := 3) hlen rfl
    have hp0 := hp
    simp only [me_] at hp
    split at hp
    · obtain ⟨⟨ho, rfl, rfl⟩, -⟩ := ite_some hp
      exact hmn st' h' hp0 ho hd hbc hbs kk
    · cases hp
  | invokespecial ix =>
    obtain rfl := lnok (n := 2) hlen rfl
    simp only [me_] at hp
    split at hp
    · rename_i r st
      obtain ⟨hk, he⟩ := bif_some hp
      cases he
      simp only [Bool.and_eq_true, decide_eq_true_eq] at hk
      obtain ⟨-, hok⟩ := oks_cons.mp hok
      exact me_oi C hls hk.1 hk.2.1 hk.2.2.1 hk.2.2.2 hd (kk H locs cells slots hok hw)
    · cases hp
  | invokestatic ix =>
    obtain rfl := lnok (n := 2) hlen rfl
    have hc1 : ∀ hh : AM, hh = h' → mnx hh = mnx h → msl hh = msl h → cells ≤ R.cells ∧ slots ≤ R.slots := fun hh q1 q2 q3 => by
      subst q1
      obtain ⟨-, -, -, -, w5, w6, -⟩ := hw
      rw [q2] at hbc
      rw [q3] at hbs
      exact ⟨by omega, by omega⟩
    simp only [me_] at hp
    split at hp
    · rename_i b a st
      obtain ⟨hb1, hok⟩ := oks_cons.mp hok
      obtain ⟨ha1, hok⟩ := oks_cons.mp hok
      obtain ⟨hk, he⟩ := bif_some hp
      cases he
      simp only [Bool.and_eq_true, decide_eq_true_eq] at hk
      obtain ⟨q1, q2⟩ := hc1 h rfl rfl rfl
      exact me_minl C q1 q2 hls (okv_l.mp ha1) (okv_l.mp hb1) hk.1 hk.2.1 hk.2.2 hd (kk H locs cells slots (oks_cons.mpr ⟨okv_l.mpr (by split; exact okv_l.mp hb1; exact okv_l.mp ha1), hok⟩) hw)
    · rename_i a st _
      obtain ⟨ha1, hok⟩ := oks_cons.mp hok
      obtain ⟨hk, he⟩ := bif_some hp
      cases he
      simp only [Bool.and_eq_true, decide_eq_true_eq] at hk
      obtain ⟨q1, q2⟩ := hc1 h rfl rfl rfl
      exact me_absl C q1 q2 hls (okv_l.mp ha1) hk.1 hk.2.1 hk.2.2 hd (kk H locs cells slots (oks_cons.mpr ⟨okv_l.mpr (by split; exact okv_l.mp ha1; exact in64_toInt _), hok⟩) hw)
    · rename_i n j b i a st
      obtain ⟨hn1, hok⟩ := oks_cons.mp hok
      obtain ⟨hj1, hok⟩ := oks_cons.mp hok
      obtain ⟨-, hok⟩ := oks_cons.mp hok
      obtain ⟨hi1, hok⟩ := oks_cons.mp hok
      obtain ⟨-, hok⟩ := oks_cons.mp hok
      obtain ⟨hk, he⟩ := bif_some hp
      cases he
      simp only [Bool.and_eq_true, Bool.or_eq_true, decide_eq_true_eq, isKb_iff] at hk
      obtain ⟨⟨k1, k2, k3⟩, k4, ⟨k5, k6, k7⟩, k8, k9⟩ := hk
      exact me_acp C hw hls k1 k2 k3 k4 (okv_i.mp hi1) (okv_i.mp hj1) (okv_i.mp hn1) k5 k6 k7 k8 k9 hd (fun H1 locs1 hw1 => kk H1 locs1 cells slots hok hw1)
    · rename_i b a st _
      obtain ⟨hb1, hok⟩ := oks_cons.mp hok
      obtain ⟨ha1, hok⟩ := oks_cons.mp hok
      cases hq : (decide (tref (own k) ix = some (1004, 0)) && (decide (0 < d) && decide (st.length ≤ 4))) with
      | true =>
        simp only [hq, cond_true] at hp
        cases hp
        simp only [Bool.and_eq_true, decide_eq_true_eq] at hq
        obtain ⟨q1, q2⟩ := hc1 h rfl rfl rfl
        exact me_max C q1 q2 hls (okv_i.mp ha1) (okv_i.mp hb1) hq.1 hq.2.1 hq.2.2 hd (kk H locs cells slots (oks_cons.mpr ⟨okv_i.mpr (by split; exact okv_i.mp hb1; exact okv_i.mp ha1), hok⟩) hw)
      | false =>
        simp only [hq, cond_false] at hp
        obtain ⟨hk, he⟩ := bif_some hp
        cases he
        simp only [Bool.and_eq_true, decide_eq_true_eq] at hk
        obtain ⟨q1, q2⟩ := hc1 h rfl rfl rfl
        exact me_min C q1 q2 hls (okv_i.mp ha1) (okv_i.mp hb1) hk.1 hk.2.1 hk.2.2 hd (kk H locs cells slots (oks_cons.mpr ⟨okv_i.mpr (by split; exact okv_i.mp hb1; exact okv_i.mp ha1), hok⟩) hw)
    · cases hp
  | invokevirtual ix =>
    obtain rfl := lnok (n := 2) hlen rfl
    have hc1 : h = h' → cells ≤ R.cells ∧ slots ≤ R.slots := fun q1 => by
      subst q1
      obtain ⟨-, -, -, -, w5, w6, -⟩ := hw
      exact ⟨by omega, by omega⟩
    simp only [me_] at hp
    split at hp
    · rename_i r st
      have hok2 := (oks_cons.mp hok).2
      obtain ⟨hk, he⟩ := bif_some hp
      cases he
      simp only [Bool.and_eq_true, decide_eq_true_eq] at hk
      obtain ⟨⟨rfl, k2⟩, k3, k4, k5⟩ := hk
      obtain ⟨q1, q2⟩ := hc1 rfl
      exact (hSR.2.2 p e R s m args below meth c H locs cells slots Q pc k d LS st D ca sx C k2 hls hw.2.2.2.1.2 q1 q2).2.1 ix k4 k5 k3 hd (kk H locs cells slots (oks_cons.mpr ⟨okv_i.mpr (by rw [wtx_len]; exact ⟨by decide, by decide⟩), hok2⟩) hw)
    · rename_i j r st
      have hok2 := (oks_cons.mp (oks_cons.mp hok).2).2
      obtain ⟨hk, he⟩ := bif_some hp
      cases he
      simp only [Bool.and_eq_true, decide_eq_true_eq] at hk
      obtain ⟨⟨rfl, k2⟩, k3, ⟨k4, k5⟩, k6, k7⟩ := hk
      obtain ⟨q1, q2⟩ := hc1 rfl
      have hr : ∀ i : Nat, in32 (wtx.getD i 0) := by
        intro i
        rw [List.getD_eq_getElem?_getD]
        cases hx : wtx[i]? with
        | none => exact ⟨by decide, by decide⟩
        | some y =>
          have : ∀ z ∈ wtx, 0 ≤ z ∧ z < 256 := by decide +kernel
          have := this y (List.mem_of_getElem? hx)
          exact ⟨by simp only [Option.getD_some]; omega, by simp only [Option.getD_some]; omega⟩
      exact (hSR.2.2 p e R s m args below meth c H locs cells slots Q pc k d LS st D ca sx C k2 hls hw.2.2.2.1.2 q1 q2).2.2 ix j k4 k5 k6 k7 k3 hd (kk H locs cells slots (oks_cons.mpr ⟨okv_i.mpr (hr _), hok2⟩) hw)
    · cases hp
  | _ => simp [me_] at hp
end MZ
