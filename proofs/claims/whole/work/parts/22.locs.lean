/-! locals -/
def lgood (L : List AV) (j : Nat) (v : AV) : Prop := L[j]? = some v ∧ (v.1 = 0 ∨ v.1 = 2 ∨ (v.1 = 1 ∧ L[j + 1]? = some (3, 1)))
def lR (G : Nat × Nat × Nat) (LS : Array Slot) (L : List AV) : Prop := LS.size = L.length ∧ lv_wf LS ∧ ∀ j v, lgood L j v → LS[j]? = some (.val (cv G v))
def lp (G : Nat × Nat × Nat) (L : List AV) : List (Nat × Value) := (List.range L.length).filterMap (fun j => match L[j]? with
  | some v => if v.1 = 0 ∨ v.1 = 2 ∨ (v.1 = 1 ∧ L[j + 1]? = some (3, 1)) then some (j, cv G v) else none
  | none => none)
theorem mem_lp {G : Nat × Nat × Nat} {L : List AV} {j : Nat} {x : Value} : (j, x) ∈ lp G L ↔ ∃ v, lgood L j v ∧ x = cv G v := by
  unfold lp
  rw [List.mem_filterMap]
  constructor
  · rintro ⟨i, hi, h⟩
    cases hL : L[i]? with
    | none => rw [hL] at h; cases h
    | some v =>
      rw [hL] at h
      dsimp only at h
      split at h
      · rename_i hc
        cases h
        exact ⟨v, ⟨hL, hc⟩, rfl⟩
      · cases h
  · rintro ⟨v, ⟨hL, hc⟩, rfl⟩
    have hj : j < L.length := (List.getElem?_eq_some_iff.mp hL).1
    refine ⟨j, List.mem_range.mpr hj, ?_⟩
    rw [hL]
    dsimp only
    rw [if_pos hc]
theorem lR_has {G : Nat × Nat × Nat} {LS : Array Slot} {L : List AV} (h : lR G LS L) : lv_has LS L.length (lp G L) := by
  refine ⟨h.1, h.2.1, ?_⟩
  rintro ⟨j, x⟩ hq
  obtain ⟨v, hv, rfl⟩ := mem_lp.mp hq
  exact h.2.2 j v hv
theorem cv_cat1 {G : Nat × Nat × Nat} {v : AV} (h : v.1 = 0 ∨ v.1 = 2) : (cv G v).category = 1 := by
  obtain ⟨t, x⟩ := v
  rcases h with h | h <;> dsimp only at h <;> subst h
  · rfl
  · exact cvr_cat G x
theorem lR_set1 {G : Nat × Nat × Nat} {LS : Array Slot} {L : List AV} {i : Nat} {u : AV} (hu : u.1 = 0 ∨ u.1 = 2) (h : lv_has LS L.length ((i, cv G u) :: (lp G L).filter (fun q => !(q.1 == i) && !(q.1 + 1 == i && q.2.category == 2)))) : lR G LS (L.set i u) := by
  refine ⟨by rw [List.length_set]; exact h.1, h.2.1, ?_⟩
  rintro j v ⟨hj, hc⟩
  by_cases e : j = i
  · subst e
    have hlt : j < L.length := by
      have := (List.getElem?_eq_some_iff.mp hj).1
      rwa [List.length_set] at this
    rw [List.getElem?_set_self hlt] at hj
    cases hj
    exact h.2.2 (j, cv G u) List.mem_cons_self
  · rw [List.getElem?_set_ne (fun q => e q.symm)] at hj
    have hn : v.1 = 1 → j + 1 ≠ i ∧ L[j + 1]? = some (3, 1) := by
      intro h1
      rcases hc with hc | hc | ⟨-, hc⟩
      · omega
      · omega
      · by_cases e2 : j + 1 = i
        · have hlt : i < L.length := by
            have := (List.getElem?_eq_some_iff.mp hc).1
            rw [List.length_set] at this
            omega
          rw [e2, List.getElem?_set_self hlt] at hc
          cases hc
          rcases hu with hu | hu <;> cases hu
        · rw [List.getElem?_set_ne (fun q => e2 q.symm)] at hc
          exact ⟨e2, hc⟩
    have hg : lgood L j v := ⟨hj, by
      rcases hc with hc | hc | ⟨h1, -⟩
      · exact Or.inl hc
      · exact Or.inr (Or.inl hc)
      · exact Or.inr (Or.inr ⟨h1, (hn h1).2⟩)⟩
    refine h.2.2 (j, cv G v) (List.mem_cons_of_mem _ (List.mem_filter.mpr ⟨mem_lp.mpr ⟨v, hg, rfl⟩, ?_⟩))
    have hji : (j == i) = false := by simpa using e
    simp only [hji, Bool.not_false, Bool.true_and, Bool.not_eq_true', Bool.and_eq_false_iff]
    rcases hc with hc | hc | ⟨h1, -⟩
    · exact Or.inr (by rw [cv_cat1 (Or.inl hc)]; rfl)
    · exact Or.inr (by rw [cv_cat1 (Or.inr hc)]; rfl)
    · exact Or.inl (by simpa using (hn h1).1)
theorem lR_set2 {G : Nat × Nat × Nat} {LS : Array Slot} {L : List AV} {i : Nat} {x : Int} (h : lv_has LS L.length ((i, cv G (1, x)) :: (lp G L).filter (fun q => !(q.1 == i) && (!(q.1 == i + 1) && !(q.1 + 1 == i && q.2.category == 2))))) : lR G LS ((L.set i (1, x)).set (i + 1) (3, 1)) := by
  refine ⟨by rw [List.length_set, List.length_set]; exact h.1, h.2.1, ?_⟩
  rintro j v ⟨hj, hc⟩
  have hlt : j < L.length := by
    have := (List.getElem?_eq_some_iff.mp hj).1
    rwa [List.length_set, List.length_set] at this
  by_cases e1 : j = i + 1
  · subst e1
    rw [List.getElem?_set_self (by rw [List.length_set]; exact hlt)] at hj
    cases hj
    rcases hc with hc | hc | ⟨hc, -⟩ <;> cases hc
  · rw [List.getElem?_set_ne (fun q => e1 q.symm)] at hj
    by_cases e : j = i
    · subst e
      rw [List.getElem?_set_self hlt] at hj
      cases hj
      exact h.2.2 (j, cv G (1, x)) List.mem_cons_self
    · rw [List.getElem?_set_ne (fun q => e q.symm)] at hj
      have hn : v.1 = 1 → j + 1 ≠ i ∧ L[j + 1]? = some (3, 1) := by
        intro h1
        rcases hc with hc | hc | ⟨-, hc⟩
        · omega
        · omega
        · by_cases e3 : j + 1 = i + 1
          · omega
          · rw [List.getElem?_set_ne (fun q => e3 q.symm)] at hc
            by_cases e2 : j + 1 = i
            · have hlt : i < L.length := by
                have := (List.getElem?_eq_some_iff.mp hc).1
                rw [List.length_set] at this
                omega
              rw [e2, List.getElem?_set_self hlt] at hc
              cases hc
            · rw [List.getElem?_set_ne (fun q => e2 q.symm)] at hc
              exact ⟨e2, hc⟩
      have hg : lgood L j v := ⟨hj, by
        rcases hc with hc | hc | ⟨h1, -⟩
        · exact Or.inl hc
        · exact Or.inr (Or.inl hc)
        · exact Or.inr (Or.inr ⟨h1, (hn h1).2⟩)⟩
      refine h.2.2 (j, cv G v) (List.mem_cons_of_mem _ (List.mem_filter.mpr ⟨mem_lp.mpr ⟨v, hg, rfl⟩, ?_⟩))
      have hji : (j == i) = false := by simpa using e
      have hj1 : (j == i + 1) = false := by simpa using e1
      simp only [hji, hj1, Bool.not_false, Bool.true_and, Bool.not_eq_true', Bool.and_eq_false_iff]
      rcases hc with hc | hc | ⟨h1, -⟩
      · exact Or.inr (by rw [cv_cat1 (Or.inl hc)]; rfl)
      · exact Or.inr (by rw [cv_cat1 (Or.inr hc)]; rfl)
      · exact Or.inl (by simpa using (hn h1).1)
theorem oks_set {L : List AV} {i : Nat} {v : AV} (h : oks L) (hv : okv v) : oks (L.set i v) := by
  intro w hw
  rcases List.mem_or_eq_of_mem_set hw with h1 | h1
  · exact h w h1
  · rw [h1]; exact hv
theorem oks_get {L : List AV} {i : Nat} {v : AV} (h : oks L) (hv : L[i]? = some v) : okv v := h v (List.mem_of_getElem? hv)
theorem lld_inv {t i : Nat} {L st L' st' : List AV} (h : lld t i L st = some (L', st')) : L' = L ∧ ∃ x, L[i]? = some (t, x) ∧ st' = (t, x) :: st := by
  unfold lld at h
  split at h
  · rename_i v hv
    obtain ⟨t1, x⟩ := v
    dsimp only at h
    split at h
    · rename_i ht
      subst ht
      cases h
      exact ⟨rfl, x, hv, rfl⟩
    · cases h
  · cases h
theorem lldl_inv {i : Nat} {L st L' st' : List AV} (h : lldl i L st = some (L', st')) : L' = L ∧ ∃ x, L[i]? = some (1, x) ∧ L[i + 1]? = some (3, 1) ∧ st' = (1, x) :: st := by
  unfold lldl at h
  split at h
  · rename_i v w hv hw
    obtain ⟨t1, x⟩ := v
    dsimp only at h
    split at h
    · rename_i ht
      obtain ⟨rfl, rfl⟩ := ht
      cases h
      exact ⟨rfl, x, hv, hw, rfl⟩
    · cases h
  · cases h
theorem lst1_inv {t i : Nat} {L st L' st' : List AV} (h : lst1 t i L st = some (L', st')) : ∃ x, st = (t, x) :: st' ∧ i < L.length ∧ L' = L.set i (t, x) := by
  unfold lst1 at h
  split at h
  · rename_i v r
    obtain ⟨t1, x⟩ := v
    dsimp only at h
    split at h
    · rename_i ht
      obtain ⟨rfl, hi⟩ := ht
      cases h
      exact ⟨x, rfl, hi, rfl⟩
    · cases h
  · cases h
theorem lst2_inv {i : Nat} {L st L' st' : List AV} (h : lst2 i L st = some (L', st')) : ∃ x, st = (1, x) :: st' ∧ i + 1 < L.length ∧ L' = (L.set i (1, x)).set (i + 1) (3, 1) := by
  unfold lst2 at h
  split at h
  · rename_i v r
    obtain ⟨t1, x⟩ := v
    dsimp only at h
    split at h
    · rename_i ht
      obtain ⟨rfl, hi⟩ := ht
      cases h
      exact ⟨x, rfl, hi, rfl⟩
    · cases h
  · cases h
section LO
variable {p : Program} {l : Launch} {e : Env} {R : Room} {s : State} {m : MethodId} {args : Array Value} {below : List Frame} {meth : Method} {c : Code} {H : Heap} {locs : List Loc} {cells slots : Nat} {Q : State → Prop}
variable {pc len k : Nat} {LS : Array Slot} {G : Nat × Nat × Nat}
set_option maxHeartbeats 4000000 in
theorem lo_W (hx : p.tables.exec = Jvm.exec) (hb : c.code = mcode k) {i : Instr} (hd : decode (mcode k) pc = .ok (i, len)) (hlen : lenok i len = true) {L st L' st' : List AV} (hp : lo_ i L st = some (L', st')) (hw : oks st) (hwL : oks L) (hR : lR G LS L)
    (kk : ∀ LS' : Array Slot, L'.length = L.length → lR G LS' L' → oks L' → oks st' → W p l e R s m args below meth c H locs cells slots Q (F0 m (pc + len) LS' (st'.map (cv G)))) : W p l e R s m args below meth c H locs cells slots Q (F0 m pc LS (st.map (cv G))) := by
  cases i with
  | iload j =>
    obtain rfl := lnok (n := 1) hlen rfl
    obtain ⟨rfl, x, hl, rfl⟩ := lld_inv hp
    have hq := hR.2.2 _ _ ⟨hl, Or.inl rfl⟩
    have kk := kk LS rfl hR hwL (oks_cons.mpr ⟨oks_get hwL hl, hw⟩)
    exact lv_iload hx hb hd hq kk
  | iload_n j =>
    obtain rfl := lnok (n := 0) hlen rfl
    obtain ⟨rfl, x, hl, rfl⟩ := lld_inv hp
    have hq := hR.2.2 _ _ ⟨hl, Or.inl rfl⟩
    have kk := kk LS rfl hR hwL (oks_cons.mpr ⟨oks_get hwL hl, hw⟩)
    exact lv_iload_n hx hb hd rfl hq kk
  | aload j =>
    obtain rfl := lnok (n := 1) hlen rfl
    obtain ⟨rfl, x, hl, rfl⟩ := lld_inv hp
    have hq := hR.2.2 _ _ ⟨hl, Or.inr (Or.inl rfl)⟩
    have kk := kk LS rfl hR hwL (oks_cons.mpr ⟨oks_get hwL hl, hw⟩)
    rw [cv_r, cvr] at hq
    rw [List.map_cons, cv_r, cvr] at kk
    cases ho : cvo G x with
    | none =>
      rw [ho] at hq kk
      exact lv_aloadN hx hb hd hq kk
    | some y =>
      rw [ho] at hq kk
      exact lv_aload hx hb hd hq kk
  | aload_n j =>
    obtain rfl := lnok (n := 0) hlen rfl
    obtain ⟨rfl, x, hl, rfl⟩ := lld_inv hp
    have hq := hR.2.2 _ _ ⟨hl, Or.inr (Or.inl rfl)⟩
    have kk := kk LS rfl hR hwL (oks_cons.mpr ⟨oks_get hwL hl, hw⟩)
    rw [cv_r, cvr] at hq
    rw [List.map_cons, cv_r, cvr] at kk
    cases ho : cvo G x with
    | none =>
      rw [ho] at hq kk
      exact lv_aload_nN hx hb hd rfl hq kk
    | some y =>
      rw [ho] at hq kk
      exact lv_aload_n hx hb hd rfl hq kk
  | lload j =>
    obtain rfl := lnok (n := 1) hlen rfl
    obtain ⟨rfl, x, hl, hl2, rfl⟩ := lldl_inv hp
    have hq := hR.2.2 _ _ ⟨hl, Or.inr (Or.inr ⟨rfl, hl2⟩)⟩
    exact lv_lload hx hb hd hq (kk LS rfl hR hwL (oks_cons.mpr ⟨oks_get hwL hl, hw⟩))
  | lload_n j =>
    obtain rfl := lnok (n := 0) hlen rfl
    obtain ⟨rfl, x, hl, hl2, rfl⟩ := lldl_inv hp
    have hq := hR.2.2 _ _ ⟨hl, Or.inr (Or.inr ⟨rfl, hl2⟩)⟩
    exact lv_lload_n hx hb hd rfl hq (kk LS rfl hR hwL (oks_cons.mpr ⟨oks_get hwL hl, hw⟩))
  | istore j =>
    obtain rfl := lnok (n := 1) hlen rfl
    obtain ⟨x, rfl, hi, rfl⟩ := lst1_inv hp
    obtain ⟨h0, hw⟩ := oks_cons.mp hw
    exact lv_istore hx hb hd (lR_has hR) hi rfl (fun LS' hl => kk LS' (List.length_set ..) (lR_set1 (Or.inl rfl) hl) (oks_set hwL h0) hw)
  | istore_n j =>
    obtain rfl := lnok (n := 0) hlen rfl
    obtain ⟨x, rfl, hi, rfl⟩ := lst1_inv hp
    obtain ⟨h0, hw⟩ := oks_cons.mp hw
    exact lv_istore_n hx hb hd rfl (lR_has hR) hi rfl (fun LS' hl => kk LS' (List.length_set ..) (lR_set1 (Or.inl rfl) hl) (oks_set hwL h0) hw)
  | astore j =>
    obtain rfl := lnok (n := 1) hlen rfl
    obtain ⟨x, rfl, hi, rfl⟩ := lst1_inv hp
    obtain ⟨h0, hw⟩ := oks_cons.mp hw
    have kk := fun (LS' : Array Slot) (hl : lv_has LS' L.length ((_, cv G (2, x)) :: (lp G L).filter _)) => kk LS' (List.length_set ..) (lR_set1 (Or.inr rfl) hl) (oks_set hwL h0) hw
    rw [List.map_cons]
    rw [cv_r, cvr] at kk ⊢
    cases ho : cvo G x with
    | none =>
      rw [ho] at kk
      exact lv_astoreN hx hb hd (lR_has hR) hi rfl kk
    | some y =>
      rw [ho] at kk
      exact lv_astore hx hb hd (lR_has hR) hi rfl kk
  | astore_n j =>
    obtain rfl := lnok (n := 0) hlen rfl
    obtain ⟨x, rfl, hi, rfl⟩ := lst1_inv hp
    obtain ⟨h0, hw⟩ := oks_cons.mp hw
    have kk := fun (LS' : Array Slot) (hl : lv_has LS' L.length ((_, cv G (2, x)) :: (lp G L).filter _)) => kk LS' (List.length_set ..) (lR_set1 (Or.inr rfl) hl) (oks_set hwL h0) hw
    rw [List.map_cons]
    rw [cv_r, cvr] at kk ⊢
    cases ho : cvo G x with
    | none =>
      rw [ho] at kk
      exact lv_astore_nN hx hb hd rfl (lR_has hR) hi rfl kk
    | some y =>
      rw [ho] at kk
      exact lv_astore_n hx hb hd rfl (lR_has hR) hi rfl kk
  | lstore j =>
    obtain rfl := lnok (n := 1) hlen rfl
    obtain ⟨x, rfl, hi, rfl⟩ := lst2_inv hp
    obtain ⟨h0, hw⟩ := oks_cons.mp hw
    exact lv_lstore hx hb hd (lR_has hR) hi rfl (fun LS' hl => kk LS' (by rw [List.length_set, List.length_set]) (lR_set2 hl) (oks_set (oks_set hwL h0) (okv_3 1)) hw)
  | lstore_n j =>
    obtain rfl := lnok (n := 0) hlen rfl
    obtain ⟨x, rfl, hi, rfl⟩ := lst2_inv hp
    obtain ⟨h0, hw⟩ := oks_cons.mp hw
    exact lv_lstore_n hx hb hd rfl (lR_has hR) hi rfl (fun LS' hl => kk LS' (by rw [List.length_set, List.length_set]) (lR_set2 hl) (oks_set (oks_set hwL h0) (okv_3 1)) hw)
  | iinc j n =>
    obtain rfl := lnok (n := 2) hlen rfl
    simp only [lo_] at hp
    split at hp
    · rename_i v hv
      obtain ⟨t, x⟩ := v
      dsimp only at hp
      split at hp
      · rename_i ht
        subst ht
        cases hp
        obtain ⟨q, hq⟩ := List.getElem?_of_mem (mem_lp.mpr ⟨(0, x), ⟨hv, Or.inl rfl⟩, rfl⟩ : (j, cv G (0, x)) ∈ lp G L)
        have hj : j < L.length := (List.getElem?_eq_some_iff.mp hv).1
        refine lv_iinc (v := Int32.ofInt (i2 (fun x y => x + y) x n)) hx hb hd (lR_has hR) hq ?_ hj rfl (fun LS' hl => kk LS' (List.length_set ..) (lR_set1 (Or.inl rfl) hl) (oks_set hwL (okv_i.mpr (in32_toInt _))) hw)
        rw [i2, Int32.ofInt_toInt]
      · cases hp
    · cases hp
  | _ => simp [lo_] at hp
end LO
