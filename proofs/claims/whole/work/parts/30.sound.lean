/-! the plain machine is sound: by its steps -/
section SO
variable {l : Launch} {G : Nat × Nat × Nat} {Hz : Heap} {Sx : State → Prop}
theorem Pcx_warm (hSR : SR l G Hz Sx) {D : va_G} {ca : Nat → ClassId} {sx : (Int → Int) × Int} {h : AM} {s U : State} {H : Heap} (hU : U.heap = H) (hW : s.WarmedH U.vm) (h1 : H.size = G.1 + (mnx h).toNat) (h2 : va_P D vwCl (wl G ca h) H) (h3 : ∀ q, q < G.1 → H[q]? = Hz[q]?) (h4 : va_K D vwCl (tysL ca) s) (h5 : Sx s ∧ Xw s) (h6 : va_X G.2.1 sx.2.toNat (fun j => Int32.ofInt (sx.1 j)) s Hz) : Pcx D G ca Hz sx Sx h U := by
  subst hU
  exact ⟨h1, h2, h3, va_K.moved hW.alike h4, ⟨hSR.1 s U hW h5.1, Xw_warm hW h5.2⟩, h6.moved hW.alike⟩
theorem Pcx_blind (hSR : SR l G Hz Sx) {D : va_G} {ca : Nat → ClassId} {sx : (Int → Int) × Int} {h : AM} (av : List Value) : FrameBlind (va_Pc av (Pcx D G ca Hz sx Sx h)) := by
  rintro a U g mk ⟨q0, q1, q2, q3, q4, q5, q6⟩
  exact ⟨q0, q1, q2, q3, va_K.moved (u := U) (U := U.calling g mk a) (Vm.Alike.refl U.vm) q4, ⟨hSR.2.1 U _ rfl q5.1, Xw_same rfl q5.2⟩, q6.moved (Vm.Alike.refl U.vm)⟩
/-- the end of a method -/
def FnE (k : Nat) (r : AV) (h' : AM) (p : Program) (l : Launch) (e : Env) (R : Room) (s : State) (m : MethodId) (args : Array Value) (below : List Frame) (meth : Method) (c : Code) (D : va_G) (G : Nat × Nat × Nat) (ca : Nat → ClassId) (Hz : Heap) (sx : (Int → Int) × Int) (sb : Nat) (Q : State → Prop) : Prop :=
  ∀ (pc : Nat) (LS : Array Slot) (H : Heap) (locs : List Loc) (cells slots : Nat) (i : Instr) (st : List AV), decode (mcode k) pc = .ok (i, 1) → re_ k i st h' = some (r, h') → oks st → Wo D G ca Hz sx s.heap.size sb h' H locs cells slots → W p l e R s m args below meth c H locs cells slots Q (F0 m pc LS (st.map (cv G)))
/-- method k with these arguments, in this memory, answers r and leaves h' -/
def Mk (l : Launch) (G : Nat × Nat × Nat) (Hz : Heap) (Sx : State → Prop) (d k : Nat) (as : List AV) (h : AM) (r : AV) (h' : AM) : Prop :=
  ∀ (D : va_G) (ca : Nat → ClassId) (sx : (Int → Int) × Int), okm h → h.2.2.2.2 = sx → Met l (mname k) (Cond.code (mname k) (mcode k) (mmaxL k) (mret k) :: lwg) { frames := d, cells := (mnx h').toNat - (mnx h).toNat, slots := msl h' - msl h, locals := 100 * d } (va_Pc (as.map (cv G)) (Pcx D G ca Hz sx Sx h)) (fun _ _ oc t => Qcx D G ca Hz r h' oc t) ((mnx h').toNat - (mnx h).toNat) (msl h' - msl h) (fun q => G.1 ≤ q)
theorem ret_W {k : Nat} {r : AV} {h' : AM} {p : Program} {e : Env} {R : Room} {s : State} {m : MethodId} {args : Array Value} {below : List Frame} {meth : Method} {c : Code} {D : va_G} {ca : Nat → ClassId} {sx : (Int → Int) × Int} {sb mc ms : Nat} (hx : p.tables.exec = Jvm.exec) (hb : c.code = mcode k) (hr : meth.sig.returnType = mret k) (hlocks : meth.locks = false) (hc : s.heap.size + mc = G.1 + (mnx h').toNat) (hs : sb + ms = msl h') :
    FnE k r h' p l e R s m args below meth c D G ca Hz sx sb (MQ below (fun _ _ oc t => Qcx D G ca Hz r h' oc t) args s mc ms (fun q => G.1 ≤ q)) := by
  intro pc LS H locs cells slots i st hd hre hok hw
  obtain ⟨w1, w2, w3, w4, w5, w6, w7⟩ := hw
  obtain rfl : cells = mc := by omega
  obtain rfl : slots = ms := by omega
  unfold re_ at hre
  split at hre
  · split at hre
    · rename_i v
      obtain ⟨hk, he⟩ := bif_some hre
      cases he
      obtain ⟨hv, -⟩ := oks_cons.mp hok
      have hv := okv_i.mp hv
      have hq : ∀ t : State, t.heap = H → s.WarmedH t.vm → Qcx D G ca Hz (0, v) h' (.returned (some (.int (Int32.ofInt v)))) t := fun t ht _ => by
        subst ht
        exact ⟨rfl, w2, w4, w1, okv_i.mpr hv⟩
      unfold rok at hk
      split at hk
      · rename_i hty
        exact W.iret hx hb (by rw [hr, hty]) hq w3 hd
      · rename_i hty
        refine W.zret (ty := .boolean) hx hb (by rw [hr, hty]) ?_ hq w3 hd
        simp only [Bool.or_eq_true, decide_eq_true_eq] at hk
        rcases hk with rfl | rfl <;> decide
      · rename_i hty
        refine W.zret (ty := .char) hx hb (by rw [hr, hty]) ?_ hq w3 hd
        simp only [Bool.and_eq_true, decide_eq_true_eq] at hk
        have := (pk_charN (q := v.toNat) (by omega)).1
        rw [show nI v.toNat = Int32.ofInt v by
          rw [← Int32.toInt_inj, in32_of hv, nI_toInt (by omega)]
          omega] at this
        exact this
      · cases hk
    · cases hre
  · split at hre
    · rename_i v
      obtain ⟨hk, he⟩ := bif_some hre
      cases he
      have hq : ∀ t : State, t.heap = H → s.WarmedH t.vm → Qcx D G ca Hz (1, v) h' (.returned (some (.long (Int64.ofInt v)))) t := fun t ht _ => by
        subst ht
        exact ⟨rfl, w2, w4, w1, (oks_cons.mp hok).1⟩
      exact W.lret hx hb (by rw [hr]; exact of_decide_eq_true hk) hq w3 hd
    · cases hre
  · split at hre
    · obtain ⟨hk, he⟩ := bif_some hre
      cases he
      have hq : ∀ t : State, t.heap = H → s.WarmedH t.vm → Qcx D G ca Hz (3, 0) h' (.returned none) t := fun t ht _ => by
        subst ht
        exact ⟨rfl, w2, w4, w1, okv_3 0⟩
      exact W.vret hx hb (by rw [hr]; exact of_decide_eq_true hk) hq w3 hd
    · cases hre
  · cases hre
/-- behind a call -/
theorem run_W {p : Program} {e : Env} {R : Room} {s : State} {m : MethodId} {args : Array Value} {below : List Frame} {meth : Method} {c : Code} {H : Heap} {locs : List Loc} {cells slots mc ms pc sb : Nat} {Q : State → Prop} {LS : Array Slot} {st0 : List Value} {rest : List AV} {a : Array Value} {D : va_G} {ca : Nat → ClassId} {sx : (Int → Int) × Int} {h h1 : AM} {r : AV}
    (hr : va_Run p l e R s m args below meth c H locs cells slots mc ms (F0 m pc LS st0) (rest.map (cv G)) ((fun (_ : Array Value) (_ : State) oc t => Qcx D G ca Hz r h1 oc t) a) (fun q => G.1 ≤ q)) (hw : Wo D G ca Hz sx s.heap.size sb h H locs cells slots) (hmc : mc = (mnx h1).toNat - (mnx h).toNat) (hms : ms = msl h1 - msl h) (hm1 : mnx h ≤ mnx h1) (hm2 : msl h ≤ msl h1) (hsx : h1.2.2.2.2 = h.2.2.2.2)
    (kk : ∀ (H1 : Heap) (locs1 : List Loc) (n1 n2 : Nat), okv r → Wo D G ca Hz sx s.heap.size sb h1 H1 locs1 n1 n2 → W p l e R s m args below meth c H1 locs1 n1 n2 Q (F0 m (pc + 3) LS ((psh r rest).map (cv G)))) : W p l e R s m args below meth c H locs cells slots Q (F0 m pc LS st0) := by
  intro T hT X
  obtain ⟨v, st₀, t, T', L, h0, X', hL, e1, e2, ⟨hv, q2, q3, q4, q5⟩, st⟩ := hr T hT X
  obtain ⟨w1, w2, w3, w4, w5, w6, w7⟩ := hw
  injection hv with hv
  subst hv
  have z0 := w1.1
  obtain ⟨t2, a1, b1⟩ := kk T'.heap (locs ++ L) (cells + mc) (slots + ms) q5 ⟨q4, by rw [e1]; exact q2, fun q hq => by
      rcases List.mem_append.mp hq with z | z
      · exact w3 q z
      · exact hL q z, by rw [e1]; exact q3, by omega, by omega, by rw [hsx]; exact w7⟩ T' rfl X'
  refine ⟨t2, st t2 ?_, b1⟩
  rw [rv_psh]
  exact a1
end SO
