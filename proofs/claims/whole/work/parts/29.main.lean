/-! the plain machine is sound -/
theorem al_nx (h : AM) (k : Nat) (n : Int) (dv : Int → Int) : mnx (mal h k n dv) = mnx h + 1 := rfl
theorem al_sl (h : AM) (k : Nat) (n : Int) (dv : Int → Int) : msl (mal h k n dv) = msl h + n.toNat := rfl
set_option maxHeartbeats 4000000 in
theorem me_mono {d k : Nat} {i : Instr} {st st' : List AV} {h h' : AM} (hp : me_ d k i st h = some (st', h')) : mnx h ≤ mnx h' ∧ msl h ≤ msl h' ∧ h'.2.2.2.2 = h.2.2.2.2 := by
  have same : ∀ hh : AM, hh = h' → hh.2 = h.2 → mnx h ≤ mnx h' ∧ msl h ≤ msl h' ∧ h'.2.2.2.2 = h.2.2.2.2 := fun hh e e1 => by subst e; unfold mnx msl; rw [e1]; exact ⟨Int.le_refl _, Nat.le_refl _, rfl⟩
  have al1 : ∀ (kd : Nat) (n : Int) (dv : Int → Int), mal h kd n dv = h' → mnx h ≤ mnx h' ∧ msl h ≤ msl h' ∧ h'.2.2.2.2 = h.2.2.2.2 := fun kd n dv e => by subst e; rw [al_nx, al_sl]; exact ⟨by omega, by omega, rfl⟩
  have al5 : some ((2, mnx h) :: st.drop 2, mal (mal (mal (mal (mal h 24 4 (fun j => mnx h + 1 + j)) 16 12 (fun _ => 0)) 16 12 (fun _ => 0)) 16 12 (fun _ => 0)) 16 12 (fun _ => 0)) = some (st', h') → mnx h ≤ mnx h' ∧ msl h ≤ msl h' ∧ h'.2.2.2.2 = h.2.2.2.2 := by
    intro e
    injection e with e
    injection e with e1 e2
    subst e2
    simp only [al_nx, al_sl]
    exact ⟨by omega, by omega, rfl⟩
  unfold me_ at hp
  simp only [cond_eq_ite] at hp
  repeat' split at hp
  all_goals first
    | (cases hp; done)
    | exact al5 hp
    | (injection hp with he; injection he with he1 he2; exact al1 _ _ _ he2)
    | (injection hp with he; injection he with he1 he2; exact same _ he2 rfl)
theorem re_inv {k : Nat} {i : Instr} {st : List AV} {h h' : AM} {r : AV} (hp : re_ k i st h = some (r, h')) : h' = h := by
  unfold re_ at hp
  repeat' split at hp
  all_goals first
    | (cases hp; done)
    | (obtain ⟨-, he⟩ := bif_some hp; cases he; rfl)
set_option maxHeartbeats 4000000 in
theorem ex_mono (n : Nat) : ∀ (d k pc : Nat) (L st : List AV) (h : AM) (r : AV) (h' : AM), ex_ n d k pc L st h = some (r, h') → mnx h ≤ mnx h' ∧ msl h ≤ msl h' ∧ h'.2.2.2.2 = h.2.2.2.2 := by
  induction n with
  | zero => intro d k pc L st h r h' hp; simp [ex_] at hp
  | succ n ih =>
    intro d k pc L st h r h' hp
    unfold ex_ at hp
    split at hp
    · rename_i i len hd
      cases hl : lenok i len with
      | false => rw [hl] at hp; cases hp
      | true =>
        rw [hl, cond_true] at hp
        split at hp
        · exact ih _ _ _ _ _ _ _ _ hp
        · split at hp
          · exact ih _ _ _ _ _ _ _ _ hp
          · split at hp
            · exact ih _ _ _ _ _ _ _ _ hp
            · split at hp
              · rename_i hm
                obtain ⟨a1, a2, a3⟩ := me_mono hm
                obtain ⟨b1, b2, b3⟩ := ih _ _ _ _ _ _ _ _ hp
                exact ⟨by omega, by omega, b3.trans a3⟩
              · split at hp
                · split at hp
                  · cases hp
                  · split at hp
                    · rename_i rr hc
                      obtain ⟨r1, h1⟩ := rr
                      obtain ⟨a1, a2, a3⟩ := ih _ _ _ _ _ _ _ _ hc
                      obtain ⟨b1, b2, b3⟩ := ih _ _ _ _ _ _ _ _ hp
                      dsimp only at b1 b2 b3
                      exact ⟨by omega, by omega, b3.trans a3⟩
                    · cases hp
                · rw [re_inv hp]
                  exact ⟨Int.le_refl _, Nat.le_refl _, rfl⟩
    · cases hp
theorem lsl_sl {G : Nat × Nat × Nat} (as : List AV) (h : ∀ v ∈ as, v.1 < 3) : (lg_sl (as.map (cv G))).length = (lsl as).length := by
  induction as with
  | nil => rfl
  | cons v vs ih =>
    obtain ⟨t, x⟩ := v
    have ih := ih (fun w hw => h w (List.mem_cons_of_mem _ hw))
    have ht : t < 3 := h (t, x) List.mem_cons_self
    unfold lg_sl at ih ⊢
    rw [List.map_cons, List.flatMap_cons, List.length_append, ih]
    by_cases e : t = 1
    · subst e
      rw [show lsl ((1, x) :: vs) = (1, x) :: (3, 1) :: lsl vs from rfl]
      rw [show (cv G (1, x)).category = 2 from rfl]
      simp
      omega
    · rw [show lsl ((t, x) :: vs) = (t, x) :: lsl vs by show (if t = 1 then _ else _) = _; rw [if_neg e]]
      have : (cv G (t, x)).category = 1 := cv_cat1 (by dsimp only; omega)
      rw [this]
      simp
      omega
theorem lR_args {G : Nat × Nat × Nat} (as : List AV) : ∀ (i j : Nat) (v : AV) (tl : List AV), (∀ v ∈ as, v.1 < 3) → (∀ w ∈ tl, w = (3, 0)) → lgood (lsl as ++ tl) j v → (i + j, cv G v) ∈ lv_args i (as.map (cv G)) := by
  induction as with
  | nil =>
    intro i j v tl _ ht hg
    have := ht v (by simpa [lsl] using List.mem_of_getElem? hg.1)
    subst this
    rcases hg.2 with h | h | ⟨h, -⟩ <;> cases h
  | cons u us ih =>
    intro i j v tl h3 ht hg
    obtain ⟨t, x⟩ := u
    have h3' := fun w hw => h3 w (List.mem_cons_of_mem _ hw)
    have htt : t < 3 := h3 (t, x) List.mem_cons_self
    rw [List.map_cons, lv_args]
    by_cases e : t = 1
    · subst e
      have hl : lsl ((1, x) :: us) = (1, x) :: (3, 1) :: lsl us := rfl
      rw [hl] at hg
      match j, hg with
      | 0, hg =>
        have := hg.1
        simp at this
        subst this
        exact List.mem_cons_self
      | 1, hg =>
        have := hg.1
        simp at this
        subst this
        rcases hg.2 with h | h | ⟨h, -⟩ <;> cases h
      | j + 2, hg =>
        have hg2 : lgood (lsl us ++ tl) j v := by
          obtain ⟨g1, g2⟩ := hg
          exact ⟨by simpa using g1, by simpa using g2⟩
        have := ih (i + 2) j v tl h3' ht hg2
        rw [show i + (j + 2) = i + 2 + j by omega]
        exact List.mem_cons_of_mem _ this
    · have hl : lsl ((t, x) :: us) = (t, x) :: lsl us := by
        show (if t = 1 then _ else _) = _
        rw [if_neg e]
      rw [hl] at hg
      have hc : (cv G (t, x)).category = 1 := cv_cat1 (by dsimp only; omega)
      rw [hc, if_neg (by omega)]
      match j, hg with
      | 0, hg =>
        have := hg.1
        simp at this
        subst this
        exact List.mem_cons_self
      | j + 1, hg =>
        have hg2 : lgood (lsl us ++ tl) j v := by
          obtain ⟨g1, g2⟩ := hg
          exact ⟨by simpa using g1, by simpa using g2⟩
        have := ih (i + 1) j v tl h3' ht hg2
        rw [show i + (j + 1) = i + 1 + j by omega]
        exact List.mem_cons_of_mem _ this
theorem lR_entry {G : Nat × Nat × Nat} {k : Nat} {as : List AV} (h3 : ∀ v ∈ as, v.1 < 3) (hl : (lsl as).length ≤ mmaxL k) : lR G ((lg_sl (as.map (cv G)) ++ List.replicate (mmaxL k - (lg_sl (as.map (cv G))).length) Slot.unset).toArray) (mkl k as) ∧ (mkl k as).length = mmaxL k := by
  have hlen : (mkl k as).length = mmaxL k := by
    unfold mkl
    rw [List.length_append, List.length_replicate]
    omega
  have he := lv_entry (as.map (cv G)) (n := mmaxL k) (by rw [lsl_sl as h3]; exact hl)
  refine ⟨⟨he.1.trans hlen.symm, he.2.1, fun j v hg => ?_⟩, hlen⟩
  have := lR_args (G := G) as 0 j v _ h3 (fun w hw => List.eq_of_mem_replicate hw) hg
  rw [Nat.zero_add] at this
  exact he.2.2 (j, cv G v) this
theorem oks_mkl {k : Nat} {as : List AV} (h : oks as) : oks (mkl k as) := by
  have h1 : oks (lsl as) := by
    induction as with
    | nil => exact oks_nil
    | cons v vs ih =>
      obtain ⟨q1, q2⟩ := oks_cons.mp h
      unfold lsl
      split
      · exact oks_cons.mpr ⟨q1, oks_cons.mpr ⟨okv_3 1, ih q2⟩⟩
      · exact oks_cons.mpr ⟨q1, ih q2⟩
  intro w hw
  rcases List.mem_append.mp hw with q | q
  · exact h1 w q
  · rw [List.eq_of_mem_replicate q]
    exact okv_3 0
/-- what a method gives back -/
def rv (G : Nat × Nat × Nat) (r : AV) : Option Value := if r.1 = 3 then none else some (cv G r)
theorem rv_psh (G : Nat × Nat × Nat) (r : AV) (st : List AV) : (rv G r).toList ++ st.map (cv G) = (psh r st).map (cv G) := by
  unfold rv psh
  split <;> rfl
def Pcx (D : va_G) (G : Nat × Nat × Nat) (ca : Nat → ClassId) (Hz : Heap) (sx : (Int → Int) × Int) (Sx : State → Prop) (h : AM) (U : State) : Prop :=
  U.heap.size = G.1 + (mnx h).toNat ∧ va_P D vwCl (wl G ca h) U.heap ∧ (∀ q, q < G.1 → U.heap[q]? = Hz[q]?) ∧ va_K D vwCl (tysL ca) U ∧ (Sx U ∧ Xw U) ∧ va_X G.2.1 sx.2.toNat (fun j => Int32.ofInt (sx.1 j)) U Hz
def Qcx (D : va_G) (G : Nat × Nat × Nat) (ca : Nat → ClassId) (Hz : Heap) (r : AV) (h : AM) (oc : Outcome) (t : State) : Prop :=
  oc = .returned (rv G r) ∧ va_P D vwCl (wl G ca h) t.heap ∧ (G.1 ≤ t.heap.size ∧ ∀ q, q < G.1 → t.heap[q]? = Hz[q]?) ∧ okm h ∧ okv r
theorem aoa_same {u U : State} {A A' : Array Value} (hvm : u.vm = U.vm) (h : (Cond.arrayOver (.array .int)).before A u = true) : (Cond.arrayOver (.array .int)).before A' U = true := by
  unfold Cond.before Cond.holds at h ⊢
  simp only [Cond.value] at h ⊢
  rw [← hvm]
  exact h
theorem aoa_moved {u U : State} (hvm : u.vm.Alike U.vm) (h : (Cond.arrayOver (.array .int)).before #[] u = true) : (Cond.arrayOver (.array .int)).before #[] U = true :=
  aoa_same (A := #[]) (rfl : (u.setVm U.vm).vm = U.vm) (by rw [Cond.arrayOver_setVmC hvm]; exact h)
theorem Xw_warm {s U : State} (hW : s.WarmedH U.vm) (h : Xw s) : Xw U := by
  obtain ⟨⟨a1, a2, a3, a4⟩, a5, a6⟩ := h
  exact ⟨⟨a1.moved hW.alike, a2.moved hW.alike, a3.moved hW.alike, a4.moved hW.alike⟩, aoa_moved hW.alike a5, fun o ix k' q1 q2 => (a6 o ix k' q1 q2).warmM hW⟩
theorem Xw_same {s U : State} (hW : s.vm = U.vm) (h : Xw s) : Xw U := by
  obtain ⟨⟨a1, a2, a3, a4⟩, a5, a6⟩ := h
  have hal : s.vm.Alike U.vm := hW ▸ Vm.Alike.refl s.vm
  exact ⟨⟨a1.moved hal, a2.moved hal, a3.moved hal, a4.moved hal⟩, aoa_same hW a5, fun o ix k' q1 q2 => (a6 o ix k' q1 q2).same rfl hW⟩
