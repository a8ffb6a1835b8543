/-! what the plain machine's values are in the model; the stack's own instructions -/
def cvo (G : Nat × Nat × Nat) (v : Int) : Option Nat := if 0 ≤ v then some (G.1 + v.toNat) else if v = -2 then some G.2.1 else if v = -3 then some G.2.2 else none
def cvr (G : Nat × Nat × Nat) (v : Int) : Value := va_rf (cvo G v)
def cv (G : Nat × Nat × Nat) (v : AV) : Value := if v.1 = 0 then .int (Int32.ofInt v.2) else if v.1 = 1 then .long (Int64.ofInt v.2) else cvr G v.2
def okv (v : AV) : Prop := (v.1 = 0 → in32 v.2) ∧ (v.1 = 1 → in64 v.2)
def oks (st : List AV) : Prop := ∀ v ∈ st, okv v
theorem cv_i (G : Nat × Nat × Nat) (x : Int) : cv G (0, x) = .int (Int32.ofInt x) := rfl
theorem cv_l (G : Nat × Nat × Nat) (x : Int) : cv G (1, x) = .long (Int64.ofInt x) := rfl
theorem cv_r (G : Nat × Nat × Nat) (x : Int) : cv G (2, x) = cvr G x := rfl
theorem cvr_cat (G : Nat × Nat × Nat) (x : Int) : (cvr G x).category = 1 := by
  unfold cvr
  cases cvo G x <;> rfl
theorem cv_pos {G : Nat × Nat × Nat} {x : Int} (h : 0 ≤ x) : cv G (2, x) = .ref (G.1 + x.toNat) := by
  show va_rf (cvo G x) = _
  simp [cvo, h, va_rf]
theorem oks_nil : oks [] := fun _ h => absurd h List.not_mem_nil
theorem oks_cons {v : AV} {st : List AV} : oks (v :: st) ↔ okv v ∧ oks st := by
  constructor
  · exact fun h => ⟨h v List.mem_cons_self, fun w hw => h w (List.mem_cons_of_mem _ hw)⟩
  · rintro ⟨h1, h2⟩ w hw
    rcases List.mem_cons.mp hw with rfl | hw
    · exact h1
    · exact h2 w hw
theorem okv_i {x : Int} : okv (0, x) ↔ in32 x := by simp [okv]
theorem okv_l {x : Int} : okv (1, x) ↔ in64 x := by simp [okv]
theorem okv_2 (x : Int) : okv (2, x) := by simp [okv]
theorem okv_3 (x : Int) : okv (3, x) := by simp [okv]
theorem in32_toInt (x : Int32) : in32 x.toInt := ⟨Int32.le_toInt x, Int32.toInt_lt x⟩
theorem in64_toInt (x : Int64) : in64 x.toInt := ⟨Int64.le_toInt x, Int64.toInt_lt x⟩
theorem in32_of {x : Int} (h : in32 x) : (Int32.ofInt x).toInt = x := Int32.toInt_ofInt_of_le h.1 h.2
theorem in64_of {x : Int} (h : in64 x) : (Int64.ofInt x).toInt = x := Int64.toInt_ofInt_of_le h.1 h.2
theorem in32_64 {x : Int} (h : in32 x) : in64 x := ⟨by have := h.1; omega, by have := h.2; omega⟩
theorem of32_lt {a b : Int} (ha : in32 a) (hb : in32 b) : Int32.ofInt a < Int32.ofInt b ↔ a < b := by rw [Int32.lt_iff_toInt_lt, in32_of ha, in32_of hb]
theorem of32_le {a b : Int} (ha : in32 a) (hb : in32 b) : Int32.ofInt a ≤ Int32.ofInt b ↔ a ≤ b := by rw [Int32.le_iff_toInt_le, in32_of ha, in32_of hb]
theorem of32_eq {a b : Int} (ha : in32 a) (hb : in32 b) : Int32.ofInt a = Int32.ofInt b ↔ a = b := by rw [← Int32.toInt_inj, in32_of ha, in32_of hb]
theorem of64_lt {a b : Int} (ha : in64 a) (hb : in64 b) : Int64.ofInt a < Int64.ofInt b ↔ a < b := by rw [Int64.lt_iff_toInt_lt, in64_of ha, in64_of hb]
theorem of64_eq {a b : Int} (ha : in64 a) (hb : in64 b) : Int64.ofInt a = Int64.ofInt b ↔ a = b := by rw [← Int64.toInt_inj, in64_of ha, in64_of hb]
theorem si2_inv {f : Int32 → Int32 → Int32} {st st' : List AV} (h : si2 f st = some st') : ∃ a b r, st = (0, b) :: (0, a) :: r ∧ st' = (0, i2 f a b) :: r := by
  unfold si2 at h
  split at h
  · exact ⟨_, _, _, rfl, (Option.some.inj h).symm⟩
  · cases h
theorem si2n_inv {f : Int32 → Int32 → Int32} {st st' : List AV} (h : si2n f st = some st') : ∃ a b r, st = (0, b) :: (0, a) :: r ∧ b ≠ 0 ∧ st' = (0, i2 f a b) :: r := by
  unfold si2n at h
  split at h
  · split at h
    · cases h
    · rename_i hb
      exact ⟨_, _, _, rfl, hb, (Option.some.inj h).symm⟩
  · cases h
theorem sl2_inv {f : Int64 → Int64 → Int64} {st st' : List AV} (h : sl2 f st = some st') : ∃ a b r, st = (1, b) :: (1, a) :: r ∧ st' = (1, l2 f a b) :: r := by
  unfold sl2 at h
  split at h
  · exact ⟨_, _, _, rfl, (Option.some.inj h).symm⟩
  · cases h
theorem sl2n_inv {f : Int64 → Int64 → Int64} {st st' : List AV} (h : sl2n f st = some st') : ∃ a b r, st = (1, b) :: (1, a) :: r ∧ b ≠ 0 ∧ st' = (1, l2 f a b) :: r := by
  unfold sl2n at h
  split at h
  · split at h
    · cases h
    · rename_i hb
      exact ⟨_, _, _, rfl, hb, (Option.some.inj h).symm⟩
  · cases h
theorem si1_inv {f : Int32 → Int32} {st st' : List AV} (h : si1 f st = some st') : ∃ a r, st = (0, a) :: r ∧ st' = (0, i1 f a) :: r := by
  unfold si1 at h
  split at h
  · exact ⟨_, _, rfl, (Option.some.inj h).symm⟩
  · cases h
theorem cv_i2 (G : Nat × Nat × Nat) (f : Int32 → Int32 → Int32) (a b : Int) : cv G (0, i2 f a b) = .int (f (Int32.ofInt a) (Int32.ofInt b)) := by rw [cv_i, i2, Int32.ofInt_toInt]
theorem cv_l2 (G : Nat × Nat × Nat) (f : Int64 → Int64 → Int64) (a b : Int) : cv G (1, l2 f a b) = .long (f (Int64.ofInt a) (Int64.ofInt b)) := by rw [cv_l, l2, Int64.ofInt_toInt]
theorem cv_i1 (G : Nat × Nat × Nat) (f : Int32 → Int32) (a : Int) : cv G (0, i1 f a) = .int (f (Int32.ofInt a)) := by rw [cv_i, i1, Int32.ofInt_toInt]
theorem lnok {i : Instr} {len n : Nat} (h : lenok i len = true) (hn : ilen i = n + 1) : len = n + 1 := by
  simp only [lenok, Bool.or_eq_true, decide_eq_true_eq] at h
  omega
section PU
variable {p : Program} {l : Launch} {e : Env} {R : Room} {s : State} {m : MethodId} {args : Array Value} {below : List Frame} {meth : Method} {c : Code} {H : Heap} {locs : List Loc} {cells slots : Nat} {Q : State → Prop}
variable {pc len k : Nat} {LS : Array Slot} {G : Nat × Nat × Nat}
set_option maxHeartbeats 4000000 in
theorem pu_W (hx : p.tables.exec = Jvm.exec) (hb : c.code = mcode k) (hc32 : ∀ ix v, tcst (own k) ix = some v → ∀ (Hh : Heap) (lc : List Loc) (n1 n2 : Nat) (LS : Array Slot) (pc : Nat) (st : List Value), (decode (mcode k) pc = .ok (.ldc ix, 2) → W p l e R s m args below meth c Hh lc n1 n2 Q (F0 m (pc + 2) LS (.int (Int32.ofInt v) :: st)) → W p l e R s m args below meth c Hh lc n1 n2 Q (F0 m pc LS st)) ∧ (decode (mcode k) pc = .ok (.ldc_w ix, 3) → W p l e R s m args below meth c Hh lc n1 n2 Q (F0 m (pc + 3) LS (.int (Int32.ofInt v) :: st)) → W p l e R s m args below meth c Hh lc n1 n2 Q (F0 m pc LS st)))
    (hc64 : ∀ ix v, tcsl (own k) ix = some v → ∀ (Hh : Heap) (lc : List Loc) (n1 n2 : Nat) (LS : Array Slot) (pc : Nat) (st : List Value), (decode (mcode k) pc = .ok (.ldc2_w ix, 3) → W p l e R s m args below meth c Hh lc n1 n2 Q (F0 m (pc + 3) LS (.long (Int64.ofInt v) :: st)) → W p l e R s m args below meth c Hh lc n1 n2 Q (F0 m pc LS st)))
    {st st' : List AV} (hstr : own k = 5 → decode (mcode k) pc = .ok (.ldc 19, 2) → W p l e R s m args below meth c H locs cells slots Q (F0 m (pc + 2) LS (.ref G.2.2 :: st.map (cv G))) → W p l e R s m args below meth c H locs cells slots Q (F0 m pc LS (st.map (cv G))))
    {i : Instr} (hd : decode (mcode k) pc = .ok (i, len)) (hlen : lenok i len = true) (hp : pu_ k i st = some st') (hw : oks st)
    (kk : oks st' → W p l e R s m args below meth c H locs cells slots Q (F0 m (pc + len) LS (st'.map (cv G)))) : W p l e R s m args below meth c H locs cells slots Q (F0 m pc LS (st.map (cv G))) := by
  cases i with
  | iadd =>
    obtain rfl := lnok (n := 0) hlen rfl
    obtain ⟨a, b, r, rfl, rfl⟩ := si2_inv hp
    obtain ⟨-, hw⟩ := oks_cons.mp hw
    obtain ⟨-, hw⟩ := oks_cons.mp hw
    have kk := kk (oks_cons.mpr ⟨okv_i.mpr (in32_toInt _), hw⟩)
    rw [List.map_cons, cv_i2] at kk
    exact lv_iadd hx hb hd kk
  | isub =>
    obtain rfl := lnok (n := 0) hlen rfl
    obtain ⟨a, b, r, rfl, rfl⟩ := si2_inv hp
    obtain ⟨-, hw⟩ := oks_cons.mp hw
    obtain ⟨-, hw⟩ := oks_cons.mp hw
    have kk := kk (oks_cons.mpr ⟨okv_i.mpr (in32_toInt _), hw⟩)
    rw [List.map_cons, cv_i2] at kk
    exact lv_isub hx hb hd kk
  | imul =>
    obtain rfl := lnok (n := 0) hlen rfl
    obtain ⟨a, b, r, rfl, rfl⟩ := si2_inv hp
    obtain ⟨-, hw⟩ := oks_cons.mp hw
    obtain ⟨-, hw⟩ := oks_cons.mp hw
    have kk := kk (oks_cons.mpr ⟨okv_i.mpr (in32_toInt _), hw⟩)
    rw [List.map_cons, cv_i2] at kk
    exact lv_imul hx hb hd kk
  | iand =>
    obtain rfl := lnok (n := 0) hlen rfl
    obtain ⟨a, b, r, rfl, rfl⟩ := si2_inv hp
    obtain ⟨-, hw⟩ := oks_cons.mp hw
    obtain ⟨-, hw⟩ := oks_cons.mp hw
    have kk := kk (oks_cons.mpr ⟨okv_i.mpr (in32_toInt _), hw⟩)
    rw [List.map_cons, cv_i2] at kk
    exact lv_iand hx hb hd kk
  | ior =>
    obtain rfl := lnok (n := 0) hlen rfl
    obtain ⟨a, b, r, rfl, rfl⟩ := si2_inv hp
    obtain ⟨-, hw⟩ := oks_cons.mp hw
    obtain ⟨-, hw⟩ := oks_cons.mp hw
    have kk := kk (oks_cons.mpr ⟨okv_i.mpr (in32_toInt _), hw⟩)
    rw [List.map_cons, cv_i2] at kk
    exact lv_ior hx hb hd kk
  | ixor =>
    obtain rfl := lnok (n := 0) hlen rfl
    obtain ⟨a, b, r, rfl, rfl⟩ := si2_inv hp
    obtain ⟨-, hw⟩ := oks_cons.mp hw
    obtain ⟨-, hw⟩ := oks_cons.mp hw
    have kk := kk (oks_cons.mpr ⟨okv_i.mpr (in32_toInt _), hw⟩)
    rw [List.map_cons, cv_i2] at kk
    exact lv_ixor hx hb hd kk
  | ishl =>
    obtain rfl := lnok (n := 0) hlen rfl
    obtain ⟨a, b, r, rfl, rfl⟩ := si2_inv hp
    obtain ⟨-, hw⟩ := oks_cons.mp hw
    obtain ⟨-, hw⟩ := oks_cons.mp hw
    have kk := kk (oks_cons.mpr ⟨okv_i.mpr (in32_toInt _), hw⟩)
    rw [List.map_cons, cv_i2] at kk
    exact lv_ishl hx hb hd kk
  | ishr =>
    obtain rfl := lnok (n := 0) hlen rfl
    obtain ⟨a, b, r, rfl, rfl⟩ := si2_inv hp
    obtain ⟨-, hw⟩ := oks_cons.mp hw
    obtain ⟨-, hw⟩ := oks_cons.mp hw
    have kk := kk (oks_cons.mpr ⟨okv_i.mpr (in32_toInt _), hw⟩)
    rw [List.map_cons, cv_i2] at kk
    exact lv_ishr hx hb hd kk
  | iushr =>
    obtain rfl := lnok (n := 0) hlen rfl
    obtain ⟨a, b, r, rfl, rfl⟩ := si2_inv hp
    obtain ⟨-, hw⟩ := oks_cons.mp hw
    obtain ⟨-, hw⟩ := oks_cons.mp hw
    have kk := kk (oks_cons.mpr ⟨okv_i.mpr (in32_toInt _), hw⟩)
    rw [List.map_cons, cv_i2] at kk
    exact lv_iushr hx hb hd rfl kk
  | idiv =>
    obtain rfl := lnok (n := 0) hlen rfl
    obtain ⟨a, b, r, rfl, hne, rfl⟩ := si2n_inv hp
    obtain ⟨h0, hw⟩ := oks_cons.mp hw
    obtain ⟨-, hw⟩ := oks_cons.mp hw
    have kk := kk (oks_cons.mpr ⟨okv_i.mpr (in32_toInt _), hw⟩)
    rw [List.map_cons, cv_i2] at kk
    exact lv_idiv hx hb hd (fun h => hne ((of32_eq (b := 0) (okv_i.mp h0) ⟨by decide, by decide⟩).mp h)) kk
  | irem =>
    obtain rfl := lnok (n := 0) hlen rfl
    obtain ⟨a, b, r, rfl, hne, rfl⟩ := si2n_inv hp
    obtain ⟨h0, hw⟩ := oks_cons.mp hw
    obtain ⟨-, hw⟩ := oks_cons.mp hw
    have kk := kk (oks_cons.mpr ⟨okv_i.mpr (in32_toInt _), hw⟩)
    rw [List.map_cons, cv_i2] at kk
    exact lv_irem hx hb hd (fun h => hne ((of32_eq (b := 0) (okv_i.mp h0) ⟨by decide, by decide⟩).mp h)) kk
  | ladd =>
    obtain rfl := lnok (n := 0) hlen rfl
    obtain ⟨a, b, r, rfl, rfl⟩ := sl2_inv hp
    obtain ⟨-, hw⟩ := oks_cons.mp hw
    obtain ⟨-, hw⟩ := oks_cons.mp hw
    have kk := kk (oks_cons.mpr ⟨okv_l.mpr (in64_toInt _), hw⟩)
    rw [List.map_cons, cv_l2] at kk
    exact lv_ladd hx hb hd kk
  | lsub =>
    obtain rfl := lnok (n := 0) hlen rfl
    obtain ⟨a, b, r, rfl, rfl⟩ := sl2_inv hp
    obtain ⟨-, hw⟩ := oks_cons.mp hw
    obtain ⟨-, hw⟩ := oks_cons.mp hw
    have kk := kk (oks_cons.mpr ⟨okv_l.mpr (in64_toInt _), hw⟩)
    rw [List.map_cons, cv_l2] at kk
    exact lv_lsub hx hb hd kk
  | lmul =>
    obtain rfl := lnok (n := 0) hlen rfl
    obtain ⟨a, b, r, rfl, rfl⟩ := sl2_inv hp
    obtain ⟨-, hw⟩ := oks_cons.mp hw
    obtain ⟨-, hw⟩ := oks_cons.mp hw
    have kk := kk (oks_cons.mpr ⟨okv_l.mpr (in64_toInt _), hw⟩)
    rw [List.map_cons, cv_l2] at kk
    exact lv_lmul hx hb hd kk
  | land =>
    obtain rfl := lnok (n := 0) hlen rfl
    obtain ⟨a, b, r, rfl, rfl⟩ := sl2_inv hp
    obtain ⟨-, hw⟩ := oks_cons.mp hw
    obtain ⟨-, hw⟩ := oks_cons.mp hw
    have kk := kk (oks_cons.mpr ⟨okv_l.mpr (in64_toInt _), hw⟩)
    rw [List.map_cons, cv_l2] at kk
    exact lv_land hx hb hd kk
  | lor =>
    obtain rfl := lnok (n := 0) hlen rfl
    obtain ⟨a, b, r, rfl, rfl⟩ := sl2_inv hp
    obtain ⟨-, hw⟩ := oks_cons.mp hw
    obtain ⟨-, hw⟩ := oks_cons.mp hw
    have kk := kk (oks_cons.mpr ⟨okv_l.mpr (in64_toInt _), hw⟩)
    rw [List.map_cons, cv_l2] at kk
    exact lv_lor hx hb hd kk
  | ldiv =>
    obtain rfl := lnok (n := 0) hlen rfl
    obtain ⟨a, b, r, rfl, hne, rfl⟩ := sl2n_inv hp
    obtain ⟨h0, hw⟩ := oks_cons.mp hw
    obtain ⟨-, hw⟩ := oks_cons.mp hw
    have kk := kk (oks_cons.mpr ⟨okv_l.mpr (in64_toInt _), hw⟩)
    rw [List.map_cons, cv_l2] at kk
    exact lv_ldiv hx hb hd (fun h => hne ((of64_eq (b := 0) (okv_l.mp h0) ⟨by decide, by decide⟩).mp h)) kk
  | lrem =>
    obtain rfl := lnok (n := 0) hlen rfl
    obtain ⟨a, b, r, rfl, hne, rfl⟩ := sl2n_inv hp
    obtain ⟨h0, hw⟩ := oks_cons.mp hw
    obtain ⟨-, hw⟩ := oks_cons.mp hw
    have kk := kk (oks_cons.mpr ⟨okv_l.mpr (in64_toInt _), hw⟩)
    rw [List.map_cons, cv_l2] at kk
    exact lv_lrem hx hb hd (fun h => hne ((of64_eq (b := 0) (okv_l.mp h0) ⟨by decide, by decide⟩).mp h)) kk
  | i2b =>
    obtain rfl := lnok (n := 0) hlen rfl
    obtain ⟨a, r, rfl, rfl⟩ := si1_inv hp
    obtain ⟨-, hw⟩ := oks_cons.mp hw
    have kk := kk (oks_cons.mpr ⟨okv_i.mpr (in32_toInt _), hw⟩)
    rw [List.map_cons, cv_i1] at kk
    exact lv_i2b hx hb hd rfl kk
  | i2s =>
    obtain rfl := lnok (n := 0) hlen rfl
    obtain ⟨a, r, rfl, rfl⟩ := si1_inv hp
    obtain ⟨-, hw⟩ := oks_cons.mp hw
    have kk := kk (oks_cons.mpr ⟨okv_i.mpr (in32_toInt _), hw⟩)
    rw [List.map_cons, cv_i1] at kk
    exact lv_i2s hx hb hd rfl kk
  | i2c =>
    obtain rfl := lnok (n := 0) hlen rfl
    obtain ⟨a, r, rfl, rfl⟩ := si1_inv hp
    obtain ⟨-, hw⟩ := oks_cons.mp hw
    have kk := kk (oks_cons.mpr ⟨okv_i.mpr (in32_toInt _), hw⟩)
    rw [List.map_cons, cv_i1] at kk
    exact lv_i2c hx hb hd rfl kk
  | iconst n =>
    obtain rfl := lnok (n := 0) hlen rfl
    simp only [pu_] at hp
    split at hp
    · rename_i hn
      cases hp
      exact lv_iconst hx hb hd rfl (kk (oks_cons.mpr ⟨okv_i.mpr ⟨by omega, by omega⟩, hw⟩))
    · cases hp
  | bipush n =>
    obtain rfl := lnok (n := 1) hlen rfl
    simp only [pu_] at hp
    split at hp
    · rename_i hn
      cases hp
      refine lv_bipush hx hb hd ?_ (kk (oks_cons.mpr ⟨okv_i.mpr ⟨by omega, by omega⟩, hw⟩))
      rw [← Int32.toInt_inj, Int8.toInt_toInt32, Int8.toInt_ofInt_of_le (by omega) (by omega), in32_of ⟨by omega, by omega⟩]
    · cases hp
  | sipush n =>
    obtain rfl := lnok (n := 2) hlen rfl
    simp only [pu_] at hp
    split at hp
    · rename_i hn
      cases hp
      refine lv_sipush hx hb hd ?_ (kk (oks_cons.mpr ⟨okv_i.mpr ⟨by omega, by omega⟩, hw⟩))
      rw [← Int32.toInt_inj, Int16.toInt_toInt32, Int16.toInt_ofInt_of_le (by omega) (by omega), in32_of ⟨by omega, by omega⟩]
    · cases hp
  | lconst n =>
    obtain rfl := lnok (n := 0) hlen rfl
    simp only [pu_] at hp
    cases hp
    refine lv_lconst hx hb hd ?_ (kk (oks_cons.mpr ⟨okv_l.mpr ⟨by have := n.isLt; omega, by have := n.isLt; omega⟩, hw⟩))
    rw [← Int64.toInt_inj, in64_of ⟨by have := n.isLt; omega, by have := n.isLt; omega⟩]
    have := n.isLt
    rw [Int64.toInt_ofNat_of_lt (by omega)]
  | ldc ix =>
    obtain rfl := lnok (n := 1) hlen rfl
    simp only [pu_] at hp
    split at hp
    · rename_i hn
      cases hp
      obtain ⟨h5, rfl⟩ := hn
      exact hstr h5 hd (kk (oks_cons.mpr ⟨okv_2 _, hw⟩))
    · split at hp
      · rename_i v hv
        cases hp
        have kk := kk (oks_cons.mpr ⟨okv_i.mpr (in32_toInt _), hw⟩)
        rw [List.map_cons, cv_i, w32, Int32.ofInt_toInt] at kk
        exact (hc32 ix v hv _ _ _ _ _ _ _).1 hd kk
      · cases hp
  | ldc_w ix =>
    obtain rfl := lnok (n := 2) hlen rfl
    simp only [pu_] at hp
    split at hp
    · rename_i v hv
      cases hp
      have kk := kk (oks_cons.mpr ⟨okv_i.mpr (in32_toInt _), hw⟩)
      rw [List.map_cons, cv_i, w32, Int32.ofInt_toInt] at kk
      exact (hc32 ix v hv _ _ _ _ _ _ _).2 hd kk
    · cases hp
  | ldc2_w ix =>
    obtain rfl := lnok (n := 2) hlen rfl
    simp only [pu_] at hp
    split at hp
    · rename_i v hv
      cases hp
      have kk := kk (oks_cons.mpr ⟨okv_l.mpr (in64_toInt _), hw⟩)
      rw [List.map_cons, cv_l, w64, Int64.ofInt_toInt] at kk
      exact hc64 ix v hv _ _ _ _ _ _ _ hd kk
    · cases hp
  | lneg =>
    obtain rfl := lnok (n := 0) hlen rfl
    simp only [pu_] at hp
    split at hp
    · cases hp
      obtain ⟨-, hw⟩ := oks_cons.mp hw
      have kk := kk (oks_cons.mpr ⟨okv_l.mpr (in64_toInt _), hw⟩)
      rw [List.map_cons, cv_l, Int64.ofInt_toInt] at kk
      exact lv_lneg hx hb hd kk
    · cases hp
  | lshl =>
    obtain rfl := lnok (n := 0) hlen rfl
    simp only [pu_] at hp
    split at hp
    · cases hp
      obtain ⟨-, hw⟩ := oks_cons.mp hw
      obtain ⟨-, hw⟩ := oks_cons.mp hw
      have kk := kk (oks_cons.mpr ⟨okv_l.mpr (in64_toInt _), hw⟩)
      rw [List.map_cons, cv_l, Int64.ofInt_toInt] at kk
      exact lv_lshl hx hb hd rfl kk
    · cases hp
  | i2l =>
    obtain rfl := lnok (n := 0) hlen rfl
    simp only [pu_] at hp
    split at hp
    · cases hp
      obtain ⟨h0, hw⟩ := oks_cons.mp hw
      refine lv_i2l hx hb hd ?_ (kk (oks_cons.mpr ⟨okv_l.mpr (in32_64 (okv_i.mp h0)), hw⟩))
      rw [← Int64.toInt_inj, Int32.toInt_toInt64, in32_of (okv_i.mp h0), in64_of (in32_64 (okv_i.mp h0))]
    · cases hp
  | l2i =>
    obtain rfl := lnok (n := 0) hlen rfl
    simp only [pu_] at hp
    split at hp
    · cases hp
      obtain ⟨h0, hw⟩ := oks_cons.mp hw
      refine lv_l2i hx hb hd ?_ (kk (oks_cons.mpr ⟨okv_i.mpr (in32_toInt _), hw⟩))
      rw [w32, Int32.ofInt_toInt]
      exact Int64.toInt32_ofInt
    · cases hp
  | lcmp =>
    obtain rfl := lnok (n := 0) hlen rfl
    simp only [pu_] at hp
    split at hp
    · rename_i b a st
      cases hp
      obtain ⟨h0, hw⟩ := oks_cons.mp hw
      obtain ⟨h1, hw⟩ := oks_cons.mp hw
      have hr : in32 (cmp3 a b) := by unfold cmp3; split <;> (try split) <;> exact ⟨by decide, by decide⟩
      have kk := kk (oks_cons.mpr ⟨okv_i.mpr hr, hw⟩)
      refine W.lcmp hx hb hd ?_
      have he : Int32.ofInt (cmp3 a b) = lg_cmp (Int64.ofInt a) (Int64.ofInt b) := by
        unfold cmp3 lg_cmp
        have e1 : (Int64.ofInt a > Int64.ofInt b) ↔ b < a := of64_lt (okv_l.mp h0) (okv_l.mp h1)
        have e2 := of64_eq (okv_l.mp h1) (okv_l.mp h0)
        by_cases q1 : b < a
        · rw [if_pos q1, if_pos (e1.mpr q1)]; rfl
        · rw [if_neg q1, if_neg (fun z => q1 (e1.mp z))]
          by_cases q2 : a = b
          · rw [if_pos q2, if_pos (e2.mpr q2)]; rfl
          · rw [if_neg q2, if_neg (fun z => q2 (e2.mp z))]; rfl
      rw [List.map_cons, cv_i, he] at kk
      exact kk
    · cases hp
  | dup =>
    obtain rfl := lnok (n := 0) hlen rfl
    simp only [pu_] at hp
    split at hp
    · cases hp
      obtain ⟨h0, hw⟩ := oks_cons.mp hw
      exact lv_dup hx hb hd rfl (kk (oks_cons.mpr ⟨h0, oks_cons.mpr ⟨h0, hw⟩⟩))
    · cases hp
      obtain ⟨h0, hw⟩ := oks_cons.mp hw
      exact lv_dup hx hb hd (cvr_cat G _) (kk (oks_cons.mpr ⟨h0, oks_cons.mpr ⟨h0, hw⟩⟩))
    · cases hp
  | dup2 =>
    obtain rfl := lnok (n := 0) hlen rfl
    simp only [pu_] at hp
    split at hp
    · cases hp
      obtain ⟨h0, hw⟩ := oks_cons.mp hw
      obtain ⟨h1, hw⟩ := oks_cons.mp hw
      exact lv_dup2_11 hx hb hd rfl (cvr_cat G _) (kk (oks_cons.mpr ⟨h0, oks_cons.mpr ⟨h1, oks_cons.mpr ⟨h0, oks_cons.mpr ⟨h1, hw⟩⟩⟩⟩))
    · cases hp
  | pop =>
    obtain rfl := lnok (n := 0) hlen rfl
    simp only [pu_] at hp
    split at hp
    · cases hp
      obtain ⟨-, hw⟩ := oks_cons.mp hw
      exact lv_pop hx hb hd rfl (kk hw)
    · cases hp
      obtain ⟨-, hw⟩ := oks_cons.mp hw
      exact lv_pop hx hb hd (cvr_cat G _) (kk hw)
    · cases hp
  | pop2 =>
    obtain rfl := lnok (n := 0) hlen rfl
    simp only [pu_] at hp
    split at hp
    · cases hp
      obtain ⟨-, hw⟩ := oks_cons.mp hw
      exact lv_pop2_2 hx hb hd rfl (kk hw)
    · cases hp
  | _ => simp [pu_] at hp
end PU
