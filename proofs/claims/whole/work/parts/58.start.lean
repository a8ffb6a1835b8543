/-! THE CLAIM OUT OF ONE WALK OF THE LAW'S BODY. Your part is whole_start (and what it stands on); all else here is the same for every law, but numbers. -/
def R_law : String := "LetterNamesLaw"
def lw_P (b : Addr) (xs : List Int32) (args : Array Value) (s : State) : Prop := args = #[.ref b] ∧ s.IntsAt b xs ∧ xs.length ≤ 3072 ∧ (Jvm.Cond.and given_1 narrow_1).before args s = true
def lw_Q (_ : Array Value) (s : State) (o : Outcome) (t : State) : Prop := o = .returned (some (.int 1)) ∧ Framed s o t [] 600000 7302249
def lw_Z (below : List Frame) (a : Array Value) (s : State) : State → Prop := fun t => ∃ o, t.status = .running ∧ Ended t below o ∧ lw_Q a s o t
/-- the law's own end, with 1 on the stack, nothing written that was there before, its room as the claim has it -/
theorem lw_ret {p : Program} {l : Launch} {e : Env} {s : State} {m : MethodId} {below : List Frame} {meth : Method} {c : Code} {b : Nat} (hx : p.tables.exec = Jvm.exec) (hb : c.code = code) (hr : meth.sig.returnType = ret) (hlocks : meth.locks = false) {pc : Nat} {H : Heap} {ls : Array Slot} (hdg : decode code pc = .ok (.ireturn, 1)) : W p l e room_1 s m #[Value.ref b] below meth c H [] 600000 7302249 (lw_Z below #[Value.ref b] s) (F0 m pc ls [.int 1]) := by
  intro T hT X
  obtain ⟨fs, hret, hrun, hended, hW, hframe⟩ := X.leave (v := some (.int 1)) (hlocks := hlocks) (fun h => by rw [hr] at h; cases h)
  have hmeth' : T.vm.method? m = some meth := X.method'
  refine ⟨T.setFrames fs, ?_, .returned (some (.int 1)), hrun, hended, rfl, ⟨_, rfl⟩, hW, hframe⟩
  jvm_step X.here [X.here.top, hx, hb, hdg, hmeth', hr, ret, narrow_b1]
  (try refine ⟨rfl, ?_⟩); (try refine ⟨rfl, ?_⟩)
  first | (intro acts; rw [hret _ acts rfl rfl rfl]) | rw [hret _ _ rfl rfl rfl]
  exact Steps.refl _
/-- what holds at the law's entry: the machine, the code, the tables' words (any of lw_tbl by 'hts w (by decide +kernel)'), the script of L ints xs at the cell b, what the Statement gives of the start (any of its parts by flat_of_before) -/
def lw_At (p : Program) (s : State) (m : MethodId) (meth : Method) (c : Code) (b L : Nat) (xs : Nat → Int32) : Prop :=
  p.tables.exec = Jvm.exec ∧ c.code = code ∧ meth.sig.returnType = ret ∧ c.maxLocals = 4 ∧ s.vm.findClass R_law = some m.cls ∧ (∀ w ∈ lw_tbl, w.before #[Value.ref b] s = true) ∧ va_X b L xs s s.heap ∧ b < s.heap.size ∧ meth.locks = false ∧ (Jvm.Cond.and given_1 narrow_1).before #[Value.ref b] s = true
/-! the start: the tables' classes, the plain machine's first memory, and the law's walk out of its answer -/
theorem aoa_spec {args : Array Value} {first s : State} {o : Option Outcome} {idx : List Nat} (h : (Cond.arrayOver (.array .int)).holds args first o s idx = true) : ∃ comp c k, s.vm.classes[c]? = some k ∧ k.kind = .array comp (.array .int) ∧ s.vm.findClass ("[" ++ (FieldType.array .int).toString) = some c := by
  simp only [Cond.holds, Cond.value, beq_iff_eq] at h
  rw [Option.bind_eq_some_iff] at h
  obtain ⟨comp, -, h⟩ := h
  simp only [Option.bind_eq_some_iff, Option.map_eq_some_iff] at h
  obtain ⟨c, hi, k, hk, hb⟩ := h
  cases hkind : k.kind with
  | array component ty =>
    rw [hkind] at hb
    simp at hb
    exact ⟨component, c, k, hk, by rw [hkind, hb.1], hb.2⟩
  | _ => rw [hkind] at hb; simp at hb
def hst (xs : Int → Int) (L : Int) : AM := (fun _ _ => 0, fun _ => (0, 0), 0, 0, xs, L)
theorem z_in32 : in32 0 := ⟨by decide, by decide⟩
theorem z_in64 : in64 0 := ⟨by decide, by decide⟩
theorem okm_hst {xs : Int → Int} {L : Int} (h0 : 0 ≤ L) (h1 : L ≤ 3072) (hx : ∀ j, in32 (xs j)) : okm (hst xs L) := ⟨Int.le_refl _, fun _ => ⟨Int.le_refl _, show (0 : Int) ≤ 1000000 by decide⟩, fun _ _ => ⟨fun _ => z_in32, fun _ => z_in64⟩, hx, h0, h1⟩
/-- what the law must do on the plain machine: for every script it answers 1, within the room -/
def LawOk : Prop := ∀ (xs : Int → Int) (L : Int), 0 ≤ L → L ≤ 3072 → (∀ j, in32 (xs j)) → ∃ h', EV 800 332 0 [(2, -2), (3, 0), (3, 0), (3, 0)] [] (hst xs L) = some ((0, 1), h') ∧ mnx h' ≤ 600000 ∧ msl h' ≤ 7302249
theorem va_K_start {s : State} {b : Nat} (hts : ∀ w ∈ lw_tbl, w.before #[Value.ref b] s = true) : ∃ (D : va_G) (ca : Nat → ClassId), va_K D vwCl (tysL ca) s := by
  have h0 : ∀ c : Nat, ∃ q : ClassId × (Nat → Nat), c < 12 → u_Kn s (cname c) (cT c) (cNF c) q.1 q.2 := fun c => by
    by_cases hc : c < 12
    · obtain ⟨c1, c2, c3, c4, c5, c6⟩ := cl_all c hc
      obtain ⟨cC, iS, hk⟩ := u_known hts c2 (hts _ c5)
      exact ⟨(cC, iS), fun _ => hk⟩
    · exact ⟨(0, fun _ => 0), fun z => absurd z hc⟩
  obtain ⟨q, hq⟩ := Classical.axiomOfChoice h0
  have hp : ∀ ty : FieldType, (∀ C, ty ≠ .object C) → (Cond.arrayClass ty).before #[Value.ref b] s = true → ∃ cA, ArrOfT s cA ty ∧ va_RA s cA ty := by
    intro ty hno h
    obtain ⟨cA, kA, comp, h1, h2, h3⟩ := Cond.arrayClass_spec h
    refine ⟨cA, fun n z => ⟨fun k h => (by cases h), kA, h2, comp, h3⟩, ?_⟩
    cases ty with
    | object C => exact absurd rfl (hno C)
    | _ => exact h1
  have ho : ∀ C : String, (Cond.arrayOver (.object C)).before #[Value.ref b] s = true → ∃ cA, ArrOfT s cA (.object C) ∧ va_RA s cA (.object C) := by
    intro C h
    obtain ⟨comp, c, k, h1, h2, h3, h4, h5⟩ := Cond.arrayOver_spec h
    exact ⟨c, fun n z => ⟨fun k h => (by cases h), k, h3, comp, h4⟩, k, comp, h3, h4, h1, h5⟩
  obtain ⟨a0, r0⟩ := hp .int (fun C h => by cases h) (hts _ wd_a_int)
  obtain ⟨a1, r1⟩ := hp .byte (fun C h => by cases h) (hts _ wd_a_byte)
  obtain ⟨a2, r2⟩ := hp .boolean (fun C h => by cases h) (hts _ wd_a_boolean)
  obtain ⟨a3, r3⟩ := hp .long (fun C h => by cases h) (hts _ wd_a_long)
  obtain ⟨a4, r4⟩ := ho RX8 (hts _ wd_o_8)
  obtain ⟨a5, r5⟩ := ho RX6 (hts _ wd_o_6)
  obtain ⟨a6, r6⟩ := ho RX2 (hts _ wd_o_2)
  obtain ⟨a7, r7⟩ := ho RX1 (hts _ wd_o_1)
  obtain ⟨a8, r8⟩ : ∃ cA, ArrOfT s cA (.array .int) ∧ va_RA s cA (.array .int) := by
    obtain ⟨comp, c, k, h3, h4, h5⟩ := aoa_spec (hts _ wd_o_a)
    exact ⟨c, fun n z => ⟨fun k h => (by cases h), k, h3, comp, h4⟩, h5⟩
  refine ⟨(fun c => (q c).1, fun c => (q c).2), fun t => [a0, a1, a2, a3, a4, a5, a6, a7, a8].getD t 0, fun c x hx => ?_, fun t x hx => ?_⟩
  · have hc : c < 12 := (List.getElem?_eq_some_iff.mp hx).1
    have := (cl_all c hc).1
    rw [hx] at this
    cases this
    exact hq c hc
  · match t, hx with
    | 0, hx => cases hx; exact r0
    | 1, hx => cases hx; exact r1
    | 2, hx => cases hx; exact r2
    | 3, hx => cases hx; exact r3
    | 4, hx => cases hx; exact r4
    | 5, hx => cases hx; exact r5
    | 6, hx => cases hx; exact r6
    | 7, hx => cases hx; exact r7
    | 8, hx => cases hx; exact r8
    | t + 9, hx => simp [tysL] at hx
theorem Xw_start {s : State} {b : Nat} (hts : ∀ w ∈ lw_tbl, w.before #[Value.ref b] s = true) : Xw s := by
  refine ⟨⟨va_AO.of (hts _ wd_o_8), va_AO.of (hts _ wd_o_6), va_AO.of (hts _ wd_o_2), va_AO.of (hts _ wd_o_1)⟩, aoa_same (A := #[Value.ref b]) rfl (hts _ wd_o_a), fun o ix k' ht hk => ?_⟩
  exact va_Nw.of rfl (hts _ ((((rk_all _ _ (lk_mem ht)).1 hk).2 rfl).1))
set_option maxHeartbeats 4000000 in
/-- OPEN in two: the law on the plain machine (LawOk), and the constant text (hS) -/
theorem start_open (hlaw : LawOk) {p : Program} {e : Env} {s : State} {m : MethodId} {below : List Frame} {meth : Method} {c : Code} (l : Launch) {b L : Nat} {xs : Nat → Int32} (hL : L ≤ 3072) (C0 : lw_At p s m meth c b L xs) (hS : ∃ (t : Nat) (Sx : State → Prop), SR l (s.heap.size, b, t) s.heap Sx ∧ Sx s) : W p l e room_1 s m #[Value.ref b] below meth c s.heap [] 0 0 (lw_Z below #[Value.ref b] s) (entryFrame m ([Value.ref b] : List Value).toArray 4) := by
  obtain ⟨hx, hb, hr, hml, hown, hts, hX, hbl, hlocks, hgv⟩ := C0
  obtain ⟨t, Sx, hSR, hSx⟩ := hS
  obtain ⟨D, ca, hK⟩ := va_K_start hts
  have hxs : ∀ j : Int, in32 ((fun j : Int => (xs j.toNat).toInt) j) := fun j => in32_toInt _
  obtain ⟨h', hev, hb1, hb2⟩ := hlaw (fun j : Int => (xs j.toNat).toInt) L (by omega) (by omega) hxs
  obtain ⟨n, hn⟩ := EV_iff.mp hev
  have m0 := ex_mono n _ _ _ _ _ _ _ _ hn
  have hm := okm_hst (xs := fun j : Int => (xs j.toNat).toInt) (L := L) (by omega) (by omega) hxs
  have hXX : va_X b ((L : Int)).toNat (fun j : Nat => Int32.ofInt ((fun j : Int => (xs j.toNat).toInt) j)) s s.heap := by
    have : (fun j : Nat => Int32.ofInt ((fun j : Int => (xs j.toNat).toInt) j)) = xs := by
      funext j
      show Int32.ofInt (xs ((j : Int).toNat)).toInt = xs j
      rw [Int32.ofInt_toInt, Int.toNat_natCast]
    rw [this, Int.toNat_natCast]
    exact hX
  have hC : Cx 332 800 p room_1 s m #[Value.ref b] meth c D (s.heap.size, b, t) ca s.heap ((fun j : Int => (xs j.toNat).toInt), (L : Int)) Sx :=
    ⟨hx, hb, hml, hown, fun w hw => hts w (List.mem_filter.mp hw).1, fun z => absurd z (by decide), hK, Nat.le_of_ble_eq_true rfl, Nat.le_of_ble_eq_true rfl, ⟨hSx, Xw_start hts⟩, hbl, hXX⟩
  obtain ⟨hR, hlen⟩ := lR_entry (G := (s.heap.size, b, t)) (k := 332) (as := [(2, -2)]) (fun v hv => by rw [List.mem_singleton.mp hv]; show 2 < 3; omega) (Nat.le_of_ble_eq_true rfl)
  have hent : entryFrame m ([Value.ref b] : List Value).toArray 4 = F0 m 0 ((lg_sl (([(2, -2)] : List AV).map (cv (s.heap.size, b, t))) ++ List.replicate (mmaxL 332 - (lg_sl (([(2, -2)] : List AV).map (cv (s.heap.size, b, t)))).length) Slot.unset).toArray) [] := lg_entry_eq m [Value.ref b] 4
  rw [hent]
  refine exW hSR n 800 332 0 (mkl 332 [(2, -2)]) [] _ (0, 1) h' hn p e room_1 s m #[Value.ref b] below meth c D ca _ 0 _ s.heap [] 0 0 _ hC hlen hR (oks_mkl (oks_cons.mpr ⟨okv_2 _, oks_nil⟩)) oks_nil ⟨hm, fun k q hk => ?_, fun _ z => absurd z List.not_mem_nil, ⟨Nat.le_refl _, fun _ _ => rfl⟩, rfl, rfl, rfl⟩ ?_ ?_ ?_
  · have := (wl_at hk).1
    exact absurd this (Nat.not_lt_zero _)
  · show s.heap.size + (mnx h').toNat ≤ s.heap.size + 600000
    omega
  · show msl h' ≤ 0 + 7302249
    omega
  · intro pc LS H locs cells slots i st hd hre hok hw
    obtain ⟨w1, w2, w3, w4, w5, w6, w7⟩ := hw
    unfold re_ at hre
    split at hre
    · split at hre
      · obtain ⟨hk, he⟩ := bif_some hre
        cases he
        refine va_forget (fun q hq => w3 q hq) ?_
        refine W.widen (k := 600000) (n := 7302249) ?_ ?_ ?_
        · have w5 : s.heap.size + cells = s.heap.size + (mnx h').toNat := w5
          omega
        · have w6 : 0 + slots = msl h' := w6
          omega
        · exact lw_ret hx hb hr hlocks hd
      · cases hre
    · split at hre
      · obtain ⟨hk, he⟩ := bif_some hre
        cases he
      · cases hre
    · split at hre
      · obtain ⟨hk, he⟩ := bif_some hre
        cases he
      · cases hre
    · cases hre
