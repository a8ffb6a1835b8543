/-! what the plain machine's values are in the model; the stack's own instructions -/
def cvo (G : Nat × Nat × Nat) (v : Int) : Option Nat := if 0 ≤ v then some (G.1 + v.toNat) else if v = -2 then some G.2.1 else if v = -3 then some G.2.2 else none
def cvr (G : Nat × Nat × Nat) (v : Int) : Value := va_rf (cvo G v)
def cv (G : Nat × Nat × Nat) (v : AV) : Value := if v.1 = 0 then .int (Int32.ofInt v.2) else if v.1 = 1 then .long (Int64.ofInt v.2) else cvr G v.2
def okv (v : AV) : Prop := (v.1 = 0 → in32 v.2) ∧ (v.1 = 1 → in64 v.2)
def oks (st : List AV) : Prop := ∀ v ∈ st, okv v
theorem cv_i (G : Nat × Nat × Nat) (x : Int) : cv G (0, x) = .int (Int32.ofInt x) := rfl
theorem cv_l (G : Nat × Nat × Nat) (x : Int) : cv G (1, x) = .long (Int64.ofInt x) := rfl
theorem cv_r (G : Nat × Nat × Nat) (x : Int) : cv G (2, x) = cvr G x := rfl
theorem cvr_cat (G : Nat × Nat × Nat) (x : Int) : (cvr G x).category = 1 := by
  unfold cvr
  cases cvo G x <;> rfl
theorem cv_pos {G : Nat × Nat × Nat} {x : Int} (h : 0 ≤ x) : cv G (2, x) = .ref (G.1 + x.toNat) := by
  show va_rf (cvo G x) = _
  simp [cvo, h, va_rf]
theorem oks_nil : oks [] := fun _ h => absurd h List.not_mem_nil
theorem oks_cons {v : AV} {st : List AV} : oks (v :: st) ↔ okv v ∧ oks st := by
  constructor
  · exact fun h => ⟨h v List.mem_cons_self, fun w hw => h w (List.mem_cons_of_mem _ hw)⟩
  · rintro ⟨h1, h2⟩ w hw
    rcases List.mem_cons.mp hw with rfl | hw
    · exact h1
    · exact h2 w hw
theorem okv_i {x : Int} : okv (0, x) ↔ in32 x := by simp [okv]
theorem okv_l {x : Int} : okv (1, x) ↔ in64 x := by simp [okv]
theorem okv_2 (x : Int) : okv (2, x) := by simp [okv]
theorem okv_3 (x : Int) : okv (3, x) := by simp [okv]
theorem in32_toInt (x : Int32) : in32 x.toInt := ⟨Int32.le_toInt x, Int32.toInt_lt x⟩
theorem in64_toInt (x : Int64) : in64 x.toInt := ⟨Int64.le_toInt x, Int64.toInt_lt x⟩
theorem in32_of {x : Int} (h : in32 x) : (Int32.ofInt x).toInt = x := Int32.toInt_ofInt_of_le h.1 h.2
theorem in64_of {x : Int} (h : in64 x) : (Int64.ofInt x).toInt = x := Int64.toInt_ofInt_of_le h.1 h.2
theorem in32_64 {x : Int} (h : in32 x) : in64 x := ⟨by have := h.1; omega, by have := h.2; omega⟩
theorem of32_lt {a b : Int} (ha : in32 a) (hb : in32 b) : Int32.ofInt a < Int32.ofInt b ↔ a < b := by rw [Int32.lt_iff_toInt_lt, in32_of ha, in32_of hb]
theorem of32_le {a b : Int} (ha : in32 a) (hb : in32 b) : Int32.ofInt a ≤ Int32.ofInt b ↔ a ≤ b := by rw [Int32.le_iff_toInt_le, in32_of ha, in32_of hb]
theorem of32_eq {a b : Int} (ha : in32 a) (hb : in32 b) : Int32.ofInt a = Int32.ofInt b ↔ a = b := by rw [← Int32.toInt_inj, in32_of ha, in32_of hb]
theorem of64_lt {a b : Int} (ha : in64 a) (hb : in64 b) : Int64.ofInt a < Int64.ofInt b ↔ a < b := by rw [Int64.lt_iff_toInt_lt, in64_of ha, in64_of hb]
theorem of64_eq {a b : Int} (ha : in64 a) (hb : in64 b) : Int64.ofInt a = Int64.ofInt b ↔ a = b := by rw [← Int64.toInt_inj, in64_of ha, in64_of hb]
theorem si2_inv {f : Int32 → Int32 → Int32} {st st' : List AV} (h : si2 f st = some st') : ∃ a b r, st = (0, b) :: (0, a) :: r ∧ st' = (0, i2 f a b) :: r := by
  unfold si2 at h
  split at h
  · exact ⟨_, _, _, rfl, (Option.some.inj h).symm⟩
  · cases h
theorem si2n_inv {f : Int32 → Int32 → Int32} {st st' : List AV} (h : si2n f st = some st') : ∃ a b r, st = (0, b) :: (0, a) :: r ∧ b ≠ 0 ∧ st' = (0, i2 f a b) :: r := by
  unfold si2n at h
  split at h
  · split at h
    · cases h
    · rename_i hb
      exact ⟨_, _, _, rfl, hb, (Option.some.inj h).symm⟩
  · cases h
theorem sl2_inv {f : Int64 → Int64 → Int64} {st st' : List AV} (h : sl2 f st = some st') : ∃ a b r, st = (1, b) :: (1, a) :: r ∧ st' = (1, l2 f a b) :: r := by
  unfold sl2 at h
  split at h
  · exact ⟨_, _, _, rfl, (Option.some.inj h).symm⟩
  · cases h
theorem sl2n_inv {f : Int64 → Int64 → Int64} {st st' : List AV} (h : sl2n f st = some st') : ∃ a b r, st = (1, b) :: (1, a) :: r ∧ b ≠ 0 ∧ st' = (1, l2 f a b) :: r := by
  unfold sl2n at h
  split at h
  · split at h
    · cases h
    · rename_i hb
      exact ⟨_, _, _, rfl, hb, (Option.some.inj h).symm⟩
  · cases h
theorem si1_inv {f : Int32 → Int32} {st st' : List AV} (h : si1 f st = some st') : ∃ a r, st = (0, a) :: r ∧ st' = (0, i1 f a) :: r := by
  unfold si1 at h
  split at h
  · exact ⟨_, _, rfl, (Option.some.inj h).symm⟩
  · cases h
theorem cv_i2 (G : Nat × Nat × Nat) (f : Int32 → Int32 → Int32) (a b : Int) : cv G (0, i2 f a b) = .int (f (Int32.ofInt a) (Int32.ofInt b)) := by rw [cv_i, i2, Int32.ofInt_toInt]
theorem cv_l2 (G : Nat × Nat × Nat) (f : Int64 → Int64 → Int64) (a b : Int) : cv G (1, l2 f a b) = .long (f (Int64.ofInt a) (Int64.ofInt b)) := by rw [cv_l, l2, Int64.ofInt_toInt]
theorem cv_i1 (G : Nat × Nat × Nat) (f : Int32 → Int32) (a : Int) : cv G (0, i1 f a) = .int (f (Int32.ofInt a)) := by rw [cv_i, i1, Int32.ofInt_toInt]
theorem lnok {i : Instr} {len n : Nat} (h : lenok i len = true) (hn : ilen i = n + 1) : len = n + 1 := by
  simp only [lenok, Bool.or_eq_true, decide_eq_true_eq] at h
  omega
section PU
variable {p : Program} {l : Launch} {e : Env} {R : Room} {s : State} {m : MethodId} {args : Array Value} {below : List Frame} {meth : Method} {c : Code} {H : Heap} {locs : List Loc} {cells slots : Nat} {Q : State → Prop}
variable {pc len k : Nat} {LS : Array Slot} {G : Nat × Nat × Nat}
set_option maxHeartbeats 4000000 in
theorem pu_W (hx : p.tables.exec = Jvm.exec) (hb : c.code = mcode k) (hc32 : ∀ ix v, tcst (own k) ix = some v → ∀ (Hh : Heap) (lc : List Loc) (n1 n2 : Nat) (LS : Array Slot) (pc : Nat) (st : List Value), (decode (mcode k) pc = .ok (.ldc ix, 2) → W p l e R s m args below meth c Hh lc n1 n2 Q (F0 m (pc + 2) LS (.int (Int32.ofInt v) :: st)) → W p l e R s m args below meth c Hh lc n1 n2 Q (F0 m pc LS st)) ∧ (decode (mcode k) pc = .ok (.ldc_w ix, 3) → W p l e R s m args below meth c Hh lc n1 n2 Q (F0 m (pc + 3) LS (.int (Int32.ofInt v) :: st)) → W p l e R s m args below meth c Hh lc n1 n2 Q (F0 m pc LS st)))
    (hc64 : ∀ ix v, tcsl (own k) ix = some v → ∀ (Hh : Heap) (lc : List Loc) (n1 n2 : Nat) (LS : Array Slot) (pc : Nat) (st : List Value), (decode (mcode k) pc = .ok (.ldc2_w ix, 3) → W p l e R s m args below meth c Hh lc n1 n2 Q (F0 m (pc + 3) LS (.long (Int64.ofInt v) :: st)) → W p l e R s m args below meth c Hh lc n1 n2 Q (F0 m pc LS st)))
    (hstr : own k = 5 → ∀ (Hh : Heap) (lc : List Loc) (n1 n2 : Nat) (LS : Array Slot) (pc : Nat) (st : List Value), decode (mcode k) pc = .ok (.ldc 19, 2) → W p l e R s m args below meth c Hh lc n1 n2 Q (F0 m (pc + 2) LS (.ref G.2.2 :: st)) → W p l e R s m args below meth c Hh lc n1 n2 Q (F0 m pc LS st))
    {i : Instr} (hd : decode (mcode k) pc = .ok (i, len)) (hlen : lenok i len = true) {st st' : List AV} (hp : pu_ k i st = some st') (hw : oks st)
    (kk : oks st' → W p l e R s m args below meth c H locs cells slots Q (F0 m (pc + len) LS (st'.map (cv G)))) : W p l e R s m args below meth c H locs cells slots Q (F0 m pc LS (st.map (cv G))) := by
  cases i with
  | iadd =>
    obtain rfl := lnok (n := 0) hlen rfl
    obtain ⟨a, b, r, rfl, rfl⟩ := si2_inv hp
    obtain ⟨-, hw⟩ := oks_cons.mp hw
    obtain ⟨-, hw⟩ := oks_cons.mp hw
    have kk := kk (oks_cons.mpr ⟨okv_i.mpr (in32_toInt _), hw⟩)
    rw [List.map_cons, cv_i2] at kk
    exact lv_iadd hx hb hd kk
  | _ => sorry
end PU
