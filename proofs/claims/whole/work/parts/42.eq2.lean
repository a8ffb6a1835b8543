/-! equations, an opcode each: cheap to use -/
def inR (h : AM) (r j : Int) : Prop := (0 ≤ r ∧ r < mnx h ∧ 20 ≤ mkn h r ∧ mkn h r ≤ 24) ∧ 0 ≤ j ∧ j < mln h r
section G1
variable {d k pc : Nat} {L L' st : List AV} {h : AM} {a b r j v x : Int} {ix : Nat}
theorem G_iload {i : Nat} (hd : decode (mcode k) pc = .ok (.iload i, 2)) (hl : L[i]? = some (0, x)) : EV d k pc L st h = EV d k (pc + 2) L ((0, x) :: st) h := E_lo hd rfl rfl (by simp only [lo_, lld, hl]; rfl)
theorem G_iload_n {i : Fin 4} (hd : decode (mcode k) pc = .ok (.iload_n i, 1)) (hl : L[i.val]? = some (0, x)) : EV d k pc L st h = EV d k (pc + 1) L ((0, x) :: st) h := E_lo hd rfl rfl (by simp only [lo_, lld, hl]; rfl)
theorem G_aload {i : Nat} (hd : decode (mcode k) pc = .ok (.aload i, 2)) (hl : L[i]? = some (2, x)) : EV d k pc L st h = EV d k (pc + 2) L ((2, x) :: st) h := E_lo hd rfl rfl (by simp only [lo_, lld, hl]; rfl)
theorem G_aload_n {i : Fin 4} (hd : decode (mcode k) pc = .ok (.aload_n i, 1)) (hl : L[i.val]? = some (2, x)) : EV d k pc L st h = EV d k (pc + 1) L ((2, x) :: st) h := E_lo hd rfl rfl (by simp only [lo_, lld, hl]; rfl)
theorem G_lload {i : Nat} (hd : decode (mcode k) pc = .ok (.lload i, 2)) (hl : L[i]? = some (1, x)) (hl2 : L[i + 1]? = some (3, 1)) : EV d k pc L st h = EV d k (pc + 2) L ((1, x) :: st) h := E_lo hd rfl rfl (by simp only [lo_, lldl, hl, hl2]; rfl)
theorem G_lload_n {i : Fin 4} (hd : decode (mcode k) pc = .ok (.lload_n i, 1)) (hl : L[i.val]? = some (1, x)) (hl2 : L[i.val + 1]? = some (3, 1)) : EV d k pc L st h = EV d k (pc + 1) L ((1, x) :: st) h := E_lo hd rfl rfl (by simp only [lo_, lldl, hl, hl2]; rfl)
theorem G_istore {i : Nat} (hd : decode (mcode k) pc = .ok (.istore i, 2)) (hl : i < L.length) (he : L.set i (0, x) = L') : EV d k pc L ((0, x) :: st) h = EV d k (pc + 2) L' st h := E_lo hd rfl rfl (by subst he; simp only [lo_, lst1]; rw [if_pos ⟨trivial, hl⟩])
theorem G_istore_n {i : Fin 4} (hd : decode (mcode k) pc = .ok (.istore_n i, 1)) (hl : i.val < L.length) (he : L.set i.val (0, x) = L') : EV d k pc L ((0, x) :: st) h = EV d k (pc + 1) L' st h := E_lo hd rfl rfl (by subst he; simp only [lo_, lst1]; rw [if_pos ⟨trivial, hl⟩])
theorem G_astore {i : Nat} (hd : decode (mcode k) pc = .ok (.astore i, 2)) (hl : i < L.length) (he : L.set i (2, x) = L') : EV d k pc L ((2, x) :: st) h = EV d k (pc + 2) L' st h := E_lo hd rfl rfl (by subst he; simp only [lo_, lst1]; rw [if_pos ⟨trivial, hl⟩])
theorem G_astore_n {i : Fin 4} (hd : decode (mcode k) pc = .ok (.astore_n i, 1)) (hl : i.val < L.length) (he : L.set i.val (2, x) = L') : EV d k pc L ((2, x) :: st) h = EV d k (pc + 1) L' st h := E_lo hd rfl rfl (by subst he; simp only [lo_, lst1]; rw [if_pos ⟨trivial, hl⟩])
theorem G_lstore {i : Nat} (hd : decode (mcode k) pc = .ok (.lstore i, 2)) (hl : i + 1 < L.length) (he : (L.set i (1, x)).set (i + 1) (3, 1) = L') : EV d k pc L ((1, x) :: st) h = EV d k (pc + 2) L' st h := E_lo hd rfl rfl (by subst he; simp only [lo_, lst2]; rw [if_pos ⟨trivial, hl⟩])
theorem G_lstore_n {i : Fin 4} (hd : decode (mcode k) pc = .ok (.lstore_n i, 1)) (hl : i.val + 1 < L.length) (he : (L.set i.val (1, x)).set (i.val + 1) (3, 1) = L') : EV d k pc L ((1, x) :: st) h = EV d k (pc + 1) L' st h := E_lo hd rfl rfl (by subst he; simp only [lo_, lst2]; rw [if_pos ⟨trivial, hl⟩])
theorem G_iinc {i : Nat} {n : Int} (hd : decode (mcode k) pc = .ok (.iinc i n, 3)) (hl : L[i]? = some (0, x)) (he : L.set i (0, w32 (x + n)) = L') : EV d k pc L st h = EV d k (pc + 3) L' st h := E_lo hd rfl rfl (by subst he; simp only [lo_, hl]; rw [← i2_add]; rfl)
theorem G_iconst {n : Int} (hd : decode (mcode k) pc = .ok (.iconst n, 1)) (hn : -1 ≤ n ∧ n ≤ 5) : EV d k pc L st h = EV d k (pc + 1) L ((0, n) :: st) h := E_pu hd rfl (by simp only [pu_, if_pos hn])
theorem G_bipush {n : Int} (hd : decode (mcode k) pc = .ok (.bipush n, 2)) (hn : -128 ≤ n ∧ n < 128) : EV d k pc L st h = EV d k (pc + 2) L ((0, n) :: st) h := E_pu hd rfl (by simp only [pu_, if_pos hn])
theorem G_sipush {n : Int} (hd : decode (mcode k) pc = .ok (.sipush n, 3)) (hn : -32768 ≤ n ∧ n < 32768) : EV d k pc L st h = EV d k (pc + 3) L ((0, n) :: st) h := E_pu hd rfl (by simp only [pu_, if_pos hn])
theorem G_lconst0 (hd : decode (mcode k) pc = .ok (.lconst 0, 1)) : EV d k pc L st h = EV d k (pc + 1) L ((1, 0) :: st) h := E_pu hd rfl rfl
theorem G_lconst1 (hd : decode (mcode k) pc = .ok (.lconst 1, 1)) : EV d k pc L st h = EV d k (pc + 1) L ((1, 1) :: st) h := E_pu hd rfl rfl
theorem G_ldc {o : Nat} (hd : decode (mcode k) pc = .ok (.ldc ix, 2)) (ho : own k = o) (h5 : o ≠ 5) (ht : tcst o ix = some v) (hv : w32 v = v) : EV d k pc L st h = EV d k (pc + 2) L ((0, v) :: st) h := E_pu hd rfl (by simp only [pu_, ho, ht, hv]; rw [if_neg (fun z => h5 z.1)])
theorem G_ldcs (hd : decode (mcode k) pc = .ok (.ldc 19, 2)) (ho : own k = 5) : EV d k pc L st h = EV d k (pc + 2) L ((2, -3) :: st) h := E_pu hd rfl (by simp only [pu_, ho]; rfl)
theorem G_ldcw {o : Nat} (hd : decode (mcode k) pc = .ok (.ldc_w ix, 3)) (ho : own k = o) (ht : tcst o ix = some v) (hv : w32 v = v) : EV d k pc L st h = EV d k (pc + 3) L ((0, v) :: st) h := E_pu hd rfl (by simp only [pu_, ho, ht, hv])
theorem G_ldc2 {o : Nat} (hd : decode (mcode k) pc = .ok (.ldc2_w ix, 3)) (ho : own k = o) (ht : tcsl o ix = some v) (hv : w64 v = v) : EV d k pc L st h = EV d k (pc + 3) L ((1, v) :: st) h := E_pu hd rfl (by simp only [pu_, ho, ht, hv])
theorem G_land (hd : decode (mcode k) pc = .ok (.land, 1)) : EV d k pc L ((1, b) :: (1, a) :: st) h = EV d k (pc + 1) L ((1, l_and a b) :: st) h := E_pu hd rfl rfl
theorem G_lor (hd : decode (mcode k) pc = .ok (.lor, 1)) : EV d k pc L ((1, b) :: (1, a) :: st) h = EV d k (pc + 1) L ((1, l_or a b) :: st) h := E_pu hd rfl rfl
theorem G_lshl (hd : decode (mcode k) pc = .ok (.lshl, 1)) : EV d k pc L ((0, b) :: (1, a) :: st) h = EV d k (pc + 1) L ((1, l_shl a b) :: st) h := E_pu hd rfl rfl
theorem G_lneg (hd : decode (mcode k) pc = .ok (.lneg, 1)) : EV d k pc L ((1, a) :: st) h = EV d k (pc + 1) L ((1, (-(Int64.ofInt a)).toInt) :: st) h := E_pu hd rfl rfl
theorem G_i2l (hd : decode (mcode k) pc = .ok (.i2l, 1)) : EV d k pc L ((0, a) :: st) h = EV d k (pc + 1) L ((1, a) :: st) h := E_pu hd rfl rfl
theorem G_l2i (hd : decode (mcode k) pc = .ok (.l2i, 1)) : EV d k pc L ((1, a) :: st) h = EV d k (pc + 1) L ((0, w32 a) :: st) h := E_pu hd rfl rfl
theorem G_i2b (hd : decode (mcode k) pc = .ok (.i2b, 1)) : EV d k pc L ((0, a) :: st) h = EV d k (pc + 1) L ((0, w8 a) :: st) h := E_pu hd rfl rfl
theorem G_i2s (hd : decode (mcode k) pc = .ok (.i2s, 1)) : EV d k pc L ((0, a) :: st) h = EV d k (pc + 1) L ((0, w16 a) :: st) h := E_pu hd rfl rfl
theorem G_i2c (hd : decode (mcode k) pc = .ok (.i2c, 1)) : EV d k pc L ((0, a) :: st) h = EV d k (pc + 1) L ((0, wch a) :: st) h := E_pu hd rfl rfl
theorem G_lcmp (hd : decode (mcode k) pc = .ok (.lcmp, 1)) : EV d k pc L ((1, b) :: (1, a) :: st) h = EV d k (pc + 1) L ((0, cmp3 a b) :: st) h := E_pu hd rfl rfl
theorem G_dup2r (hd : decode (mcode k) pc = .ok (.dup, 1)) : EV d k pc L ((2, a) :: st) h = EV d k (pc + 1) L ((2, a) :: (2, a) :: st) h := E_pu hd rfl rfl
theorem G_dupi (hd : decode (mcode k) pc = .ok (.dup, 1)) : EV d k pc L ((0, a) :: st) h = EV d k (pc + 1) L ((0, a) :: (0, a) :: st) h := E_pu hd rfl rfl
theorem G_dup2 (hd : decode (mcode k) pc = .ok (.dup2, 1)) : EV d k pc L ((0, a) :: (2, b) :: st) h = EV d k (pc + 1) L ((0, a) :: (2, b) :: (0, a) :: (2, b) :: st) h := E_pu hd rfl rfl
theorem G_pop (hd : decode (mcode k) pc = .ok (.pop, 1)) : EV d k pc L ((0, a) :: st) h = EV d k (pc + 1) L st h := E_pu hd rfl rfl
theorem G_popr (hd : decode (mcode k) pc = .ok (.pop, 1)) : EV d k pc L ((2, a) :: st) h = EV d k (pc + 1) L st h := E_pu hd rfl rfl
theorem G_pop2 (hd : decode (mcode k) pc = .ok (.pop2, 1)) : EV d k pc L ((1, a) :: st) h = EV d k (pc + 1) L st h := E_pu hd rfl rfl
theorem G_goto {off : Int} {t : Nat} (hd : decode (mcode k) pc = .ok (.goto off, 3)) (ht : tgt pc off = some t) : EV d k pc L st h = EV d k t L st h := E_br hd rfl rfl rfl (by simp only [br_, ht, Option.map_some])
theorem G_get {o c fj t : Nat} (hd : decode (mcode k) pc = .ok (.getfield ix, 3)) (ho : own k = o) (ht : tfld o ix = some (c, fj)) (htag : ftag c fj = t) (hj : ((fj : Nat) : Int) = j) (hk : isK h r c) : EV d k pc L ((2, r) :: st) h = EV d k (pc + 3) L ((t, mrd h r j) :: st) h := by
  subst hj
  exact E_get hd (by rw [ho]; exact ht) htag hk
/-- what a field's store asks -/
def pok (k c fj t : Nat) : Bool := decide (t = ftag c fj) && ((!(cT c fj).2.2.2 || (decide (tb_d k = 2) && decide (own k = c))) && !decide (cty c fj = .boolean))
def pokz (k c fj : Nat) : Bool := decide (0 = ftag c fj) && (!(cT c fj).2.2.2 || (decide (tb_d k = 2) && decide (own k = c)))
theorem G_put {o c fj t : Nat} (hd : decode (mcode k) pc = .ok (.putfield ix, 3)) (ho : own k = o) (ht : tfld o ix = some (c, fj)) (hp : pok k c fj t = true) (hj : ((fj : Nat) : Int) = j) (hk : isK h r c) : EV d k pc L ((t, v) :: (2, r) :: st) h = EV d k (pc + 3) L st (mwr h r j v) := by
  subst hj
  simp only [pok, Bool.and_eq_true] at hp
  exact E_put (u := (t, v)) hd (by rw [ho]; exact ht) (of_decide_eq_true hp.1) hp.2.1 (by rw [hp.2.2]; rfl) hk
theorem G_putz {o c fj : Nat} (hd : decode (mcode k) pc = .ok (.putfield ix, 3)) (ho : own k = o) (ht : tfld o ix = some (c, fj)) (hp : pokz k c fj = true) (hj : ((fj : Nat) : Int) = j) (hk : isK h r c) (hv : v = 0 ∨ v = 1) : EV d k pc L ((0, v) :: (2, r) :: st) h = EV d k (pc + 3) L st (mwr h r j v) := by
  subst hj
  simp only [pokz, Bool.and_eq_true] at hp
  exact E_put (u := (0, v)) hd (by rw [ho]; exact ht) (of_decide_eq_true hp.1) hp.2 (by rcases hv with rfl | rfl <;> simp) hk
theorem G_aald (hd : decode (mcode k) pc = .ok (.aaload, 1)) (hk : inR h r j) : EV d k pc L ((0, j) :: (2, r) :: st) h = EV d k (pc + 1) L ((2, mrd h r j) :: st) h :=
  E_aald (mkn h r) hd ⟨⟨hk.1.1, hk.1.2.1, rfl⟩, hk.2⟩ hk.1.2.2.1 hk.1.2.2.2
/-- what a call asks of tables: the method, its kind, how many parameters, its locals -/
def cok (o ix k' kd np mx : Nat) (L' : List AV) (as : List AV) : Prop := True
theorem G_cv {o k' np mx c : Nat} (as : List AV) (hd : decode (mcode k) pc = .ok (.invokevirtual ix, 3)) (ho : own k = o) (ht : tref o ix = some (k', 0)) (hlt : k' < 328) (hkd : tb_d k' = 0) (hnp : mnp k' = np) (hmx : mmaxL k' = mx) (hoc : own k' = c) (hn : as.length = np) (hl : lsl ((2, r) :: as) ++ List.replicate (mx - (lsl ((2, r) :: as)).length) (3, 0) = L') (hl2 : (lsl ((2, r) :: as)).length ≤ mx) (h3 : ((2, r) :: as).all (fun v => decide (v.1 < 3)) = true) (hs : st.length ≤ 4) (hk : isK h r c) : EV (d + 1) k pc L (as.reverse ++ (2, r) :: st) h = (EV d k' 0 L' [] h).bind (fun q => EV (d + 1) k (pc + 3) L (psh q.1 st) q.2) := by
  subst hnp hmx hoc hl ho
  exact E_cv as hd ht hlt hkd hn hl2 h3 hs hk
theorem G_ci {o k' np mx fl : Nat} (as : List AV) (hd : decode (mcode k) pc = .ok (.invokespecial ix, 3)) (ho : own k = o) (ht : tref o ix = some (k', fl)) (hlt : k' < 328) (hkd : tb_d k' = 2) (hnp : mnp k' = np) (hmx : mmaxL k' = mx) (hn : as.length = np) (hl : lsl ((2, r) :: as) ++ List.replicate (mx - (lsl ((2, r) :: as)).length) (3, 0) = L') (hl2 : (lsl ((2, r) :: as)).length ≤ mx) (h3 : ((2, r) :: as).all (fun v => decide (v.1 < 3)) = true) (hs : st.length ≤ 4) (h0 : 0 ≤ r) : EV (d + 1) k pc L (as.reverse ++ (2, r) :: st) h = (EV d k' 0 L' [] h).bind (fun q => EV (d + 1) k (pc + 3) L (psh q.1 st) q.2) := by
  subst hnp hmx hl ho
  exact E_ci as hd ht hlt hkd hn hl2 h3 hs h0
theorem G_cs {o k' np mx : Nat} (as : List AV) (hd : decode (mcode k) pc = .ok (.invokestatic ix, 3)) (ho : own k = o) (ht : tref o ix = some (k', 0)) (hlt : k' < 328) (hkd : tb_d k' = 1) (hnp : mnp k' = np) (hmx : mmaxL k' = mx) (hn : as.length = np) (hl : lsl as ++ List.replicate (mx - (lsl as).length) (3, 0) = L') (hl2 : (lsl as).length ≤ mx) (h3 : as.all (fun v => decide (v.1 < 3)) = true) (hs : st.length ≤ 4) : EV (d + 1) k pc L (as.reverse ++ st) h = (EV d k' 0 L' [] h).bind (fun q => EV (d + 1) k (pc + 3) L (psh q.1 st) q.2) := by
  subst hnp hmx hl ho
  exact E_cs as hd ht hlt hkd hn hl2 h3 hs
end G1
