/-! int[4][12] by the words of the instruction itself -/
section MN
variable {E : CtlPost} {e : Env} {d : Bool} {acts : List Action} {s : State}
/-- a row of twelve zeros -/
def mzI (c : ClassId) : Cell := { cls := c, slots := Array.replicate 12 (.int 0), vm := .none }
/-- the outer array, its first i rows set -/
def mzO (c : ClassId) (b i : Nat) : Cell := arrV c 4 (fun j => va_rf (if j < i then some (b + 1 + j) else none))
theorem mzO_0 (c : ClassId) (b : Nat) : ({ cls := c, slots := Array.replicate 4 .null, vm := .none } : Cell) = mzO c b 0 := by
  rw [arrV_new]
  refine congrArg (arrV c 4) (funext fun j => ?_)
  simp [va_rf]
theorem mzO_s (c : ClassId) (b i : Nat) : (mzO c b i).setSlot i (.ref (b + 1 + i)) = mzO c b (i + 1) := by
  unfold mzO
  rw [arrV_store]
  refine congrArg (arrV c 4) (funext fun j => ?_)
  by_cases e : j = i
  · subst e
    simp [updV, va_rf]
  · by_cases h : j < i
    · simp [updV, e, h, Nat.lt_succ_of_lt h]
    · simp [updV, e, h, show ¬ j < i + 1 by omega]
/-- the state when i rows are made -/
def mzS (U : State) (cO cI : ClassId) : Nat → State
  | 0 => U.pushCell (mzO cO U.heap.size 0)
  | i + 1 => ((mzS U cO cI i).pushCell (mzI cI)).setCell U.heap.size (mzO cO U.heap.size (i + 1))
theorem mzS_top (U : State) (f : JFrame) (cO cI : ClassId) : ∀ i : Nat, mzS (U.setTop f) cO cI i = (mzS U cO cI i).setTop f
  | 0 => rfl
  | i + 1 => by
    show ((mzS (U.setTop f) cO cI i).pushCell (mzI cI)).setCell U.heap.size (mzO cO U.heap.size (i + 1)) = _
    rw [mzS_top U f cO cI i]
    rfl
theorem mzS_vm (U : State) (cO cI : ClassId) : ∀ i : Nat, (mzS U cO cI i).vm = U.vm
  | 0 => rfl
  | i + 1 => mzS_vm U cO cI i
theorem mzS_tj (U : State) (cO cI : ClassId) : ∀ i : Nat, (mzS U cO cI i).topJava? = U.topJava?
  | 0 => rfl
  | i + 1 => mzS_tj U cO cI i
theorem mzS_sz (U : State) (cO cI : ClassId) : ∀ i : Nat, (mzS U cO cI i).heap.size = U.heap.size + 1 + i
  | 0 => by show (U.heap.push _).size = _; simp
  | i + 1 => by
    show (((mzS U cO cI i).heap.push _).setIfInBounds _ _).size = _
    simp [mzS_sz U cO cI i]
    omega
theorem mzS_sl (U : State) (cO cI : ClassId) : ∀ i : Nat, (mzS U cO cI i).slotsUsed = U.slotsUsed + 4 + 12 * i
  | 0 => by show U.slotsUsed + (mzO cO U.heap.size 0).slots.size = _; simp [mzO, arrV]
  | i + 1 => by
    show (mzS U cO cI i).slotsUsed + (mzI cI).slots.size = _
    rw [mzS_sl U cO cI i]
    simp [mzI]
    omega
theorem mzS_out (U : State) (cO cI : ClassId) : ∀ i : Nat, (mzS U cO cI i).heap[U.heap.size]? = some (mzO cO U.heap.size i)
  | 0 => by show (U.heap.push _)[U.heap.size]? = _; simp
  | i + 1 => by
    show (((mzS U cO cI i).heap.push _).setIfInBounds U.heap.size _)[U.heap.size]? = _
    rw [Array.getElem?_setIfInBounds_self_of_lt (by rw [Array.size_push, mzS_sz]; omega)]
theorem mzS_old (U : State) (cO cI : ClassId) {y : Nat} (hy : y < U.heap.size) : ∀ i : Nat, (mzS U cO cI i).heap[y]? = U.heap[y]?
  | 0 => by
    show (U.heap.push _)[y]? = _
    rw [Array.getElem?_push, if_neg (by omega)]
  | i + 1 => by
    show (((mzS U cO cI i).heap.push _).setIfInBounds U.heap.size _)[y]? = _
    rw [Array.getElem?_setIfInBounds_ne (by omega), Array.getElem?_push, if_neg (by rw [mzS_sz]; omega)]
    exact mzS_old U cO cI hy i
theorem mzS_row (U : State) (cO cI : ClassId) {j : Nat} : ∀ i : Nat, j < i → (mzS U cO cI i).heap[U.heap.size + 1 + j]? = some (mzI cI)
  | 0, h => absurd h (by omega)
  | i + 1, h => by
    show (((mzS U cO cI i).heap.push _).setIfInBounds U.heap.size _)[U.heap.size + 1 + j]? = _
    rw [Array.getElem?_setIfInBounds_ne (by omega), Array.getElem?_push]
    by_cases e : j = i
    · rw [if_pos (by rw [mzS_sz]; omega)]
    · rw [if_neg (by rw [mzS_sz]; omega)]
      exact mzS_row U cO cI i (by omega)
/-- the class of int[][] by its component -/
theorem mz_over {A : Array Value} {s : State} (h : (Cond.arrayOver (.array .int)).before A s = true) : ∃ (cI cO : ClassId) (kO : Class), s.vm.findClass "[I" = some cI ∧ s.vm.findClass "[[I" = some cO ∧ s.vm.classes[cO]? = some kO ∧ kO.kind = .array cI (.array .int) := by
  unfold Cond.before Cond.holds at h
  simp only [Cond.value, beq_iff_eq] at h
  have t1 : (FieldType.array .int).toString = "[I" := by decide +kernel
  have t2 : "[" ++ "[I" = "[[I" := by decide +kernel
  rw [t1, t2] at h
  rcases hc : s.vm.findClass "[I" with _ | cI
  · rw [hc] at h
    simp at h
  · rw [hc, Option.bind_some] at h
    obtain ⟨cO, hi, h⟩ := Option.bind_eq_some_iff.mp h
    obtain ⟨kO, hk, hb⟩ := Option.map_eq_some_iff.mp h
    obtain ⟨hlt, hp, -⟩ := Array.findIdx?_eq_some_iff_getElem.mp hi
    rw [(Array.getElem?_eq_some_iff.mp hk).2] at hp
    refine ⟨cI, cO, kO, rfl, ?_, hk, ?_⟩
    all_goals
      split at hb
      · rename_i x ty hkd
        rw [hkd] at hp
        have hp := beq_iff_eq.mp hp
        obtain ⟨b1, b2⟩ := Bool.and_eq_true_iff.mp hb
        first
          | exact of_decide_eq_true b2
          | rw [hkd, hp, of_decide_eq_true b1]
      · exact absurd hb (by simp)
theorem mz_row {cI cc : ClassId} {kI : Class} (hkI : s.vm.classes[cI]? = some kI) (hdI : kI.kind = .array cc .int)
    (hlim : 12 ≤ e.platform.arrayLengthLimit) (hhp : 48 ≤ e.platform.maxHeapBytes) (hc : s.heap.size < e.platform.maxCells) (hs : s.slotsUsed + 12 ≤ e.platform.maxSlots) {Q : Addr → Pre} (hq : ∀ acts', Q s.heap.size d acts' (s.pushCell (mzI cI))) :
    wp (Jvm.Op.multianewarray.make cI [12]) Q E e d acts s := by
  unfold Jvm.Op.multianewarray.make
  simp only [wp_bind', _root_.Jvm.W.ite, show ¬ ((12 : Int32) < 0) by decide, if_false, wp_pure', _root_.Jvm.W.theClass, hkI, Option.some.injEq, exists_eq_left', hdI]
  rw [show Int32.toNatClampNeg 12 = 12 by decide]
  exact _root_.Jvm.W.newArray_of hkI hdI (by omega) (by show ¬ 12 * 4 > _; omega) hc hs rfl hq
set_option maxHeartbeats 1000000 in
theorem mz_make {cO cI cc : ClassId} {kO kI : Class} (hkO : s.vm.classes[cO]? = some kO) (hdO : kO.kind = .array cI (.array .int)) (hkI : s.vm.classes[cI]? = some kI) (hdI : kI.kind = .array cc .int)
    (hlim : 12 ≤ e.platform.arrayLengthLimit) (hhp : 48 ≤ e.platform.maxHeapBytes) (hc : s.heap.size + 5 ≤ e.platform.maxCells) (hs : s.slotsUsed + 52 ≤ e.platform.maxSlots) {Q : Addr → Pre} (hq : ∀ d' acts', Q s.heap.size d' acts' (mzS s cO cI 4)) :
    wp (Jvm.Op.multianewarray.make cO [4, 12]) Q E e d acts s := by
  unfold Jvm.Op.multianewarray.make
  simp only [wp_bind', _root_.Jvm.W.ite, show ¬ ((4 : Int32) < 0) by decide, if_false, wp_pure', _root_.Jvm.W.theClass, hkO, Option.some.injEq, exists_eq_left', hdO]
  rw [show Int32.toNatClampNeg 4 = 4 by decide]
  refine _root_.Jvm.W.newArray_of hkO hdO (by omega) (by show ¬ 4 * 4 > _; omega) (by omega) (by omega) rfl (fun acts1 => ?_)
  rw [if_neg (by decide)]
  simp only [wp_bind', Std.Legacy.Range.forIn_eq_forIn_range']
  refine wp_forIn_inv (fun (r : List Nat) (S : State) => ∃ i : Nat, r = List.range' i (4 - i) ∧ i ≤ 4 ∧ S = mzS s cO cI i) _ _ ⟨0, rfl, by omega, ?_⟩ ?_ ?_
  · show s.pushCell _ = s.pushCell _
    rw [← mzO_0]
  · rintro x r s' d' acts' Q' ⟨i, hr, hi, rfl⟩ hk
    have hlt : i < 4 := by
      rcases Nat.lt_or_ge i 4 with h | h
      · exact h
      · rw [show 4 - i = 0 by omega] at hr
        exact absurd hr (by simp)
    rw [show 4 - i = (4 - (i + 1)) + 1 by omega, List.range'_succ, List.cons.injEq] at hr
    obtain ⟨rfl, rfl⟩ := hr
    rw [wp_bind']
    refine mz_row (by rw [mzS_vm]; exact hkI) hdI hlim hhp (by rw [mzS_sz]; omega) (by rw [mzS_sl]; omega) (fun acts2 => ?_)
    rw [wp_bind', _root_.Jvm.W.writeLoc, mzS_sz]
    refine ⟨mzO cO s.heap.size x, ?_, (by intro z; cases z), ?_, ?_, ?_⟩
    · show ((mzS s cO cI x).heap.push _)[s.heap.size]? = _
      rw [Array.getElem?_push, if_neg (by rw [mzS_sz]; omega), mzS_out]
    · simp [mzO, arrV]
      omega
    · show (mzS s cO cI x).fitsSlot cO .none x _ = true
      have hv : ∀ v : Addr, fits (.array .int) (.ref v) = true := fun _ => rfl
      simp [State.fitsSlot, State.slotType?, mzS_vm, hkO, hdO, hv]
    · rw [mzO_s]
      exact hk _ _ _ ⟨x + 1, rfl, by omega, rfl⟩
  · rintro s' d' acts' ⟨i, hr, hi, rfl⟩
    have : i = 4 := by
      rcases Nat.lt_or_ge i 4 with h | h
      · rw [show 4 - i = (4 - (i + 1)) + 1 by omega, List.range'_succ] at hr
        exact absurd hr (by simp)
      · omega
    subst this
    exact hq _ _
set_option maxHeartbeats 1000000 in
theorem mz_sem {cO cI cc : ClassId} {kO kI : Class} {f : JFrame} {rest : List Value} (ht : s.topJava?.isSome) (hr : s.vm.classReady f.method.cls 18 cO) (hst : f.stack = .int 12 :: .int 4 :: rest) (hkO : s.vm.classes[cO]? = some kO) (hdO : kO.kind = .array cI (.array .int)) (hkI : s.vm.classes[cI]? = some kI) (hdI : kI.kind = .array cc .int)
    (hlim : 12 ≤ e.platform.arrayLengthLimit) (hhp : 48 ≤ e.platform.maxHeapBytes) (hc : s.heap.size + 5 ≤ e.platform.maxCells) (hs : s.slotsUsed + 52 ≤ e.platform.maxSlots) {Q : Unit → Pre} (hq : ∀ d' acts', Q () d' acts' ((mzS s cO cI 4).setTop { f with stack := .ref s.heap.size :: rest })) :
    wp (Jvm.Op.multianewarray.sem 18 2) Q E e d acts (s.setTop f) := by
  have hr' : (s.setTop f).vm.classReady f.method.cls 18 cO := hr
  simp only [Jvm.Op.multianewarray.sem, wp_bind', _root_.Jvm.W.resolveClassAt_ready (State.method?_setTop f ht) hr', Jvm.popN, _root_.Jvm.W.pop, State.topJava?_setTop' _ ht, Option.some.injEq, exists_eq_left', hst, List.cons.injEq, exists_cons_eq, State.setTop_setTop, wp_pure', List.nil_append, List.cons_append, List.mapM_cons, List.mapM_nil]
  refine mz_make (s := s.setTop { f with stack := rest }) hkO hdO hkI hdI hlim hhp hc hs (fun d' acts' => ?_)
  rw [mzS_top]
  simp only [wp_bind', _root_.Jvm.W.mark, _root_.Jvm.W.pushRef]
  refine ⟨{ f with stack := rest }, State.topJava?_setTop' _ (by rw [mzS_tj]; exact ht), ?_⟩
  rw [State.setTop_setTop]
  exact hq _ _
end MN
section MS
variable {p : Program} {l : Launch} {e : Env} {R : Room} {s : State} {m : MethodId} {args : Array Value} {below : List Frame} {meth : Method} {c : Code} {T : State} {locs : List Loc} {cells slots : Nat}
theorem mz_stand (X : Stand p l e R s m args below meth c T locs cells slots) (cO cI : ClassId) : ∀ i : Nat, Stand p l e R s m args below meth c (mzS T cO cI i) locs (cells + 1 + i) (slots + 4 + 12 * i)
  | 0 => by
    have Y := X.pushed (mzO cO T.heap.size 0)
    rw [show (mzO cO T.heap.size 0).slots.size = 4 by simp [mzO, arrV]] at Y
    exact Y
  | i + 1 => by
    have Y := ((mz_stand X cO cI i).pushed (mzI cI)).stored (a := T.heap.size) (cell := mzO cO T.heap.size i) (by
      show ((mzS T cO cI i).heap.push _)[T.heap.size]? = _
      rw [Array.getElem?_push, if_neg (by rw [mzS_sz]; omega), mzS_out]) i (.ref (T.heap.size + 1 + i))
    rw [mzO_s, show (mzI cI).slots.size = 12 by simp [mzI]] at Y
    have Z := Y.dropFresh (fun x hx => by
      rw [List.mem_singleton.mp hx]
      exact X.heapGrown)
    rw [show cells + 1 + (i + 1) = cells + 1 + i + 1 by omega, show slots + 4 + 12 * (i + 1) = slots + 4 + 12 * i + 12 by omega]
    exact Z
set_option maxHeartbeats 1000000 in
theorem mz_step (X : Stand p l e R s m args below meth c T locs cells slots) (hx : p.tables.exec = Jvm.exec) (hown : s.vm.findClass RX4 = some m.cls) (hcl : (Cond.classLink RX4 18 "[[I").before args s = true) {A : Array Value} (hov : (Cond.arrayOver (.array .int)).before A s = true) (har : (Cond.arrayClass .int).before args s = true)
    {g : JFrame} (hg : g.method = m) (hd : decode c.code g.pc = .ok (.multianewarray 18 2, 4)) {rest : List Value} (hst : g.stack = .int 12 :: .int 4 :: rest) (hc : cells + 5 ≤ R.cells) (hs : slots + 52 ≤ R.slots) :
    ∃ (vm₁ : Vm) (cO cI : ClassId), s.vm.findClass "[[I" = some cO ∧ s.vm.findClass "[I" = some cI ∧ Stand p l e R s m args below meth c (mzS (T.setVm vm₁) cO cI 4) locs (cells + 1 + 4) (slots + 4 + 12 * 4) ∧
      ∀ target, Steps p.tables e below ((mzS (T.setVm vm₁) cO cI 4).setTop { g with pc := g.pc + 4, stack := .ref T.heap.size :: rest }) target → Steps p.tables e below (T.setTop g) target := by
  subst hg
  obtain ⟨cI, cO, kO, fI, fO, hkO, hdO⟩ := mz_over hov
  obtain ⟨cI', kI, cc, fI', hkI, hdI⟩ := Cond.arrayClass_spec har
  rw [show "[" ++ FieldType.toString .int = "[I" by decide +kernel] at fI'
  obtain rfl : cI' = cI := Option.some.inj (fI'.symm.trans fI)
  obtain ⟨cO', fO', hcl⟩ := Cond.classLink_spec hown hcl e.platform (by rw [X.admits.platform])
  obtain rfl : cO' = cO := Option.some.inj (fO'.symm.trans fO)
  obtain ⟨gv, wm, rdy⟩ := State.classEntry (e := e) X.warmed hcl
  have nsz : (T.vm.noted g.method.cls 18 (.cls cO')).classes.size ≤ T.vm.classes.size := by no_record
  generalize T.vm.noted g.method.cls 18 (.cls cO') = vm₁ at gv wm rdy nsz
  obtain ⟨kO₁, hkO₁, eO⟩ := wm.alike.2.2 _ _ hkO
  obtain ⟨kI₁, hkI₁, eI⟩ := wm.alike.2.2 _ _ hkI
  have hdO₁ : kO₁.kind = .array cI' (.array .int) := by rw [eO]; exact hdO
  have hdI₁ : kI₁.kind = .array cc .int := by rw [eI]; exact hdI
  obtain ⟨q1, q2⟩ := X.roomAbove hc hs
  refine ⟨vm₁, cO', cI', fO, fI, mz_stand (X.noted wm) cO' cI' 4, fun target hrest => ?_⟩
  refine Steps.instr X.here ?_
  rw [hd]
  show wpRun (p.tables.exec (.multianewarray 18 2)) _ _ e (T.setTop g)
  rw [hx]
  show wp (Jvm.Op.multianewarray.sem 18 2) _ _ e false [] (T.setTop g)
  have cold : ∀ (Q : Unit → Pre) (E : CtlPost), wp (Jvm.Op.multianewarray.sem 18 2) Q E e false [] ((T.setVm vm₁).setTop g) → wp (Jvm.Op.multianewarray.sem 18 2) Q E e false [] (T.setTop g) := fun Q E h => by
    simp only [Jvm.Op.multianewarray.sem, wp_bind'] at h ⊢
    exact (_root_.Jvm.W.resolveClassAt_transfer (s := T.setTop g) (State.method?_setTop g X.here.top) gv rdy nsz).mpr h
  refine cold _ _ (mz_sem (s := T.setVm vm₁) X.here.top rdy hst hkO₁ hdO₁ hkI₁ hdI₁ (by rw [Launch.admits_arrayLengthLimit X.admits]; omega) (by rw [Launch.admits_maxHeapBytes X.admits]; omega) q1 q2 (fun d' acts' acts2 => ?_))
  rw [afterInstr_ok]
  exact hrest
end MS
