/-! equations of the plain machine, an instruction each -/
def i_and (a b : Int) : Int := i2 (fun x y => x &&& y) a b
def i_or (a b : Int) : Int := i2 (fun x y => x ||| y) a b
def i_xor (a b : Int) : Int := i2 (fun x y => x ^^^ y) a b
def i_shl (a b : Int) : Int := i2 (fun x y => x <<< (y &&& 31)) a b
def i_shr (a b : Int) : Int := i2 (fun x y => x >>> (y &&& 31)) a b
def i_ushr (a b : Int) : Int := i2 (fun x y => (x.toUInt32 >>> (y.toUInt32 &&& Int32.toUInt32 31)).toInt32) a b
def i_div (a b : Int) : Int := i2 (fun x y => x / y) a b
def i_rem (a b : Int) : Int := i2 (fun x y => x - x / y * y) a b
def l_and (a b : Int) : Int := l2 (fun x y => x &&& y) a b
def l_or (a b : Int) : Int := l2 (fun x y => x ||| y) a b
def l_div (a b : Int) : Int := l2 (fun x y => x / y) a b
def l_rem (a b : Int) : Int := l2 (fun x y => x - x / y * y) a b
def l_shl (a b : Int) : Int := (Int64.ofInt a <<< ((Int32.ofInt b).toInt64 &&& 63)).toInt
def w8 (a : Int) : Int := i1 (fun x => x.toInt8.toInt32) a
def w16 (a : Int) : Int := i1 (fun x => x.toInt16.toInt32) a
def wch (a : Int) : Int := i1 (fun x => (x.toUInt32 % 65536).toInt32) a
theorem i2_add (a b : Int) : i2 (fun x y => x + y) a b = w32 (a + b) := by rw [i2, w32, Int32.ofInt_add]
theorem i2_sub (a b : Int) : i2 (fun x y => x - y) a b = w32 (a - b) := by rw [i2, w32, Int32.ofInt_sub]
theorem i2_mul (a b : Int) : i2 (fun x y => x * y) a b = w32 (a * b) := by rw [i2, w32, Int32.ofInt_mul]
theorem l2_add (a b : Int) : l2 (fun x y => x + y) a b = w64 (a + b) := by rw [l2, w64, Int64.ofInt_add]
theorem l2_sub (a b : Int) : l2 (fun x y => x - y) a b = w64 (a - b) := by rw [l2, w64, Int64.ofInt_sub]
theorem l2_mul (a b : Int) : l2 (fun x y => x * y) a b = w64 (a * b) := by rw [l2, w64, Int64.ofInt_mul]
theorem w32_id {x : Int} (h0 : -2147483648 ≤ x) (h1 : x < 2147483648) : w32 x = x := in32_of ⟨h0, h1⟩
theorem w64_id {x : Int} (h0 : -9223372036854775808 ≤ x) (h1 : x < 9223372036854775808) : w64 x = x := in64_of ⟨h0, h1⟩
section EQ
variable {d k pc : Nat} {L st : List AV} {h : AM} {a b r j v : Int} {ix : Nat}
theorem E_iadd (hd : decode (mcode k) pc = .ok (.iadd, 1)) : EV d k pc L ((0, b) :: (0, a) :: st) h = EV d k (pc + 1) L ((0, w32 (a + b)) :: st) h := by rw [← i2_add]; exact E_pu hd rfl rfl
theorem E_isub (hd : decode (mcode k) pc = .ok (.isub, 1)) : EV d k pc L ((0, b) :: (0, a) :: st) h = EV d k (pc + 1) L ((0, w32 (a - b)) :: st) h := by rw [← i2_sub]; exact E_pu hd rfl rfl
theorem E_imul (hd : decode (mcode k) pc = .ok (.imul, 1)) : EV d k pc L ((0, b) :: (0, a) :: st) h = EV d k (pc + 1) L ((0, w32 (a * b)) :: st) h := by rw [← i2_mul]; exact E_pu hd rfl rfl
theorem E_ladd (hd : decode (mcode k) pc = .ok (.ladd, 1)) : EV d k pc L ((1, b) :: (1, a) :: st) h = EV d k (pc + 1) L ((1, w64 (a + b)) :: st) h := by rw [← l2_add]; exact E_pu hd rfl rfl
theorem E_lsub (hd : decode (mcode k) pc = .ok (.lsub, 1)) : EV d k pc L ((1, b) :: (1, a) :: st) h = EV d k (pc + 1) L ((1, w64 (a - b)) :: st) h := by rw [← l2_sub]; exact E_pu hd rfl rfl
theorem E_lmul (hd : decode (mcode k) pc = .ok (.lmul, 1)) : EV d k pc L ((1, b) :: (1, a) :: st) h = EV d k (pc + 1) L ((1, w64 (a * b)) :: st) h := by rw [← l2_mul]; exact E_pu hd rfl rfl
theorem E_iand (hd : decode (mcode k) pc = .ok (.iand, 1)) : EV d k pc L ((0, b) :: (0, a) :: st) h = EV d k (pc + 1) L ((0, i_and a b) :: st) h := E_pu hd rfl rfl
theorem E_ior (hd : decode (mcode k) pc = .ok (.ior, 1)) : EV d k pc L ((0, b) :: (0, a) :: st) h = EV d k (pc + 1) L ((0, i_or a b) :: st) h := E_pu hd rfl rfl
theorem E_ixor (hd : decode (mcode k) pc = .ok (.ixor, 1)) : EV d k pc L ((0, b) :: (0, a) :: st) h = EV d k (pc + 1) L ((0, i_xor a b) :: st) h := E_pu hd rfl rfl
theorem E_ishl (hd : decode (mcode k) pc = .ok (.ishl, 1)) : EV d k pc L ((0, b) :: (0, a) :: st) h = EV d k (pc + 1) L ((0, i_shl a b) :: st) h := E_pu hd rfl rfl
theorem E_ishr (hd : decode (mcode k) pc = .ok (.ishr, 1)) : EV d k pc L ((0, b) :: (0, a) :: st) h = EV d k (pc + 1) L ((0, i_shr a b) :: st) h := E_pu hd rfl rfl
theorem E_iushr (hd : decode (mcode k) pc = .ok (.iushr, 1)) : EV d k pc L ((0, b) :: (0, a) :: st) h = EV d k (pc + 1) L ((0, i_ushr a b) :: st) h := E_pu hd rfl rfl
theorem E_idiv (hd : decode (mcode k) pc = .ok (.idiv, 1)) (hb : b ≠ 0) : EV d k pc L ((0, b) :: (0, a) :: st) h = EV d k (pc + 1) L ((0, i_div a b) :: st) h := E_pu hd rfl (by show (if b = 0 then none else _) = _; rw [if_neg hb]; rfl)
theorem E_irem (hd : decode (mcode k) pc = .ok (.irem, 1)) (hb : b ≠ 0) : EV d k pc L ((0, b) :: (0, a) :: st) h = EV d k (pc + 1) L ((0, i_rem a b) :: st) h := E_pu hd rfl (by show (if b = 0 then none else _) = _; rw [if_neg hb]; rfl)
theorem E_ldiv (hd : decode (mcode k) pc = .ok (.ldiv, 1)) (hb : b ≠ 0) : EV d k pc L ((1, b) :: (1, a) :: st) h = EV d k (pc + 1) L ((1, l_div a b) :: st) h := E_pu hd rfl (by show (if b = 0 then none else _) = _; rw [if_neg hb]; rfl)
theorem E_lrem (hd : decode (mcode k) pc = .ok (.lrem, 1)) (hb : b ≠ 0) : EV d k pc L ((1, b) :: (1, a) :: st) h = EV d k (pc + 1) L ((1, l_rem a b) :: st) h := E_pu hd rfl (by show (if b = 0 then none else _) = _; rw [if_neg hb]; rfl)
theorem E_if {c : ClassFile.Cond} {off : Int} {t : Nat} (hd : decode (mcode k) pc = .ok (.ifCond c off, 3)) (ht : tgt pc off = some t) : EV d k pc L ((0, a) :: st) h = bif ccmp c a 0 then EV d k t L st h else EV d k (pc + 3) L st h := by
  rw [E_br (pc' := bif ccmp c a 0 then t else pc + 3) (st' := st) hd rfl rfl rfl (by simp only [br_, ht, Option.map_some])]
  cases ccmp c a 0 <;> rfl
theorem E_ic {c : ClassFile.Cond} {off : Int} {t : Nat} (hd : decode (mcode k) pc = .ok (.if_icmp c off, 3)) (ht : tgt pc off = some t) : EV d k pc L ((0, b) :: (0, a) :: st) h = bif ccmp c a b then EV d k t L st h else EV d k (pc + 3) L st h := by
  rw [E_br (pc' := bif ccmp c a b then t else pc + 3) (st' := st) hd rfl rfl rfl (by simp only [br_, ht, Option.map_some])]
  cases ccmp c a b <;> rfl
theorem cc_eq {α : Type} {x y : α} : (bif ccmp .eq a b then x else y) = if a = b then x else y := by
  unfold ccmp
  by_cases q : a = b <;> simp [q]
theorem cc_ne {α : Type} {x y : α} : (bif ccmp .ne a b then x else y) = if a = b then y else x := by
  unfold ccmp
  by_cases q : a = b <;> simp [q]
theorem cc_lt {α : Type} {x y : α} : (bif ccmp .lt a b then x else y) = if a < b then x else y := by
  unfold ccmp
  by_cases q : a < b <;> simp [q]
theorem cc_ge {α : Type} {x y : α} : (bif ccmp .ge a b then x else y) = if a < b then y else x := by
  show (bif decide (b ≤ a) then x else y) = _
  by_cases q : a < b
  · rw [if_pos q, decide_eq_false (by omega)]; rfl
  · rw [if_neg q, decide_eq_true (by omega)]; rfl
theorem cc_gt {α : Type} {x y : α} : (bif ccmp .gt a b then x else y) = if b < a then x else y := by
  unfold ccmp
  by_cases q : b < a <;> simp [q]
theorem cc_le {α : Type} {x y : α} : (bif ccmp .le a b then x else y) = if b < a then y else x := by
  show (bif decide (a ≤ b) then x else y) = _
  by_cases q : b < a
  · rw [if_pos q, decide_eq_false (by omega)]; rfl
  · rw [if_neg q, decide_eq_true (by omega)]; rfl
theorem E_get {c fj t : Nat} (hd : decode (mcode k) pc = .ok (.getfield ix, 3)) (ht : tfld (own k) ix = some (c, fj)) (htag : ftag c fj = t) (hk : isK h r c) : EV d k pc L ((2, r) :: st) h = EV d k (pc + 3) L ((t, mrd h r (fj : Nat)) :: st) h :=
  E_me hd rfl rfl rfl rfl (by subst htag; simp only [me_, ht, isKb_iff.mpr hk, cond_true])
theorem E_put {c fj : Nat} {u : AV} (hd : decode (mcode k) pc = .ok (.putfield ix, 3)) (ht : tfld (own k) ix = some (c, fj)) (htag : u.1 = ftag c fj) (hf : (!(cT c fj).2.2.2 || (decide (tb_d k = 2) && decide (own k = c))) = true) (hb : (!decide (cty c fj = .boolean) || (decide (u.2 = 0) || decide (u.2 = 1))) = true) (hk : isK h r c) : EV d k pc L (u :: (2, r) :: st) h = EV d k (pc + 3) L st (mwr h r (fj : Nat) u.2) :=
  E_me hd rfl rfl rfl rfl (by simp only [me_, ht, isKb_iff.mpr hk, decide_eq_true htag, hf, hb, Bool.and_self, Bool.true_and, cond_true])
theorem E_sld (hd : decode (mcode k) pc = .ok (.iaload, 1)) (h0 : 0 ≤ j) (h1 : j < mscl h) : EV d k pc L ((0, j) :: (2, -2) :: st) h = EV d k (pc + 1) L ((0, msc h j) :: st) h :=
  E_me hd rfl rfl rfl rfl (by simp only [me_, decide_eq_true h0, decide_eq_true h1, Bool.and_self, decide_true, cond_true])
theorem E_iald (hd : decode (mcode k) pc = .ok (.iaload, 1)) (hk : inA h r 16 j) : EV d k pc L ((0, j) :: (2, r) :: st) h = EV d k (pc + 1) L ((0, mrd h r j) :: st) h :=
  E_me hd rfl rfl rfl rfl (by simp only [me_, inAb_iff.mpr hk, decide_eq_false (show ¬ r = -2 by have := hk.1.1; omega), cond_true, cond_false])
theorem E_bald (hd : decode (mcode k) pc = .ok (.baload, 1)) (hk : inA h r 17 j) : EV d k pc L ((0, j) :: (2, r) :: st) h = EV d k (pc + 1) L ((0, mrd h r j) :: st) h :=
  E_me hd rfl rfl rfl rfl (by simp only [me_, inAb_iff.mpr hk, Bool.true_or, cond_true])
theorem E_zald (hd : decode (mcode k) pc = .ok (.baload, 1)) (hk : inA h r 18 j) : EV d k pc L ((0, j) :: (2, r) :: st) h = EV d k (pc + 1) L ((0, mrd h r j) :: st) h :=
  E_me hd rfl rfl rfl rfl (by simp only [me_, inAb_iff.mpr hk, Bool.or_true, cond_true])
theorem E_lald (hd : decode (mcode k) pc = .ok (.laload, 1)) (hk : inA h r 19 j) : EV d k pc L ((0, j) :: (2, r) :: st) h = EV d k (pc + 1) L ((1, mrd h r j) :: st) h :=
  E_me hd rfl rfl rfl rfl (by simp only [me_, inAb_iff.mpr hk, cond_true])
theorem E_aald (c : Nat) (hd : decode (mcode k) pc = .ok (.aaload, 1)) (hk : inA h r c j) (h1 : 20 ≤ c) (h2 : c ≤ 24) : EV d k pc L ((0, j) :: (2, r) :: st) h = EV d k (pc + 1) L ((2, mrd h r j) :: st) h :=
  E_me hd rfl rfl rfl rfl (by
    have hb := inAb_iff.mpr hk
    rcases (show c = 20 ∨ c = 21 ∨ c = 22 ∨ c = 23 ∨ c = 24 by omega) with rfl | rfl | rfl | rfl | rfl <;> simp only [me_, hb, Bool.true_or, Bool.or_true, cond_true])
theorem E_iast (hd : decode (mcode k) pc = .ok (.iastore, 1)) (hk : inA h r 16 j) : EV d k pc L ((0, v) :: (0, j) :: (2, r) :: st) h = EV d k (pc + 1) L st (mwr h r j v) :=
  E_me hd rfl rfl rfl rfl (by simp only [me_, inAb_iff.mpr hk, cond_true])
theorem E_bast (hd : decode (mcode k) pc = .ok (.bastore, 1)) (hk : inA h r 17 j) : EV d k pc L ((0, v) :: (0, j) :: (2, r) :: st) h = EV d k (pc + 1) L st (mwr h r j (w8 v)) :=
  E_me hd rfl rfl rfl rfl (by simp only [me_, inAb_iff.mpr hk, cond_true]; rfl)
theorem E_zast (hd : decode (mcode k) pc = .ok (.bastore, 1)) (hk : inA h r 18 j) (hv : v = 0 ∨ v = 1) : EV d k pc L ((0, v) :: (0, j) :: (2, r) :: st) h = EV d k (pc + 1) L st (mwr h r j v) :=
  E_me hd rfl rfl rfl rfl (by
    have h17 : inAb h r 17 j = false := by
      cases hq : inAb h r 17 j with
      | false => rfl
      | true =>
        have := (inAb_iff.mp hq).1.2.2
        have := hk.1.2.2
        omega
    have hb := inAb_iff.mpr hk
    rcases hv with rfl | rfl <;> simp [me_, hb, h17])
theorem E_last (hd : decode (mcode k) pc = .ok (.lastore, 1)) (hk : inA h r 19 j) : EV d k pc L ((1, v) :: (0, j) :: (2, r) :: st) h = EV d k (pc + 1) L st (mwr h r j v) :=
  E_me hd rfl rfl rfl rfl (by simp only [me_, inAb_iff.mpr hk, cond_true])
theorem E_aast (c : Nat) (hd : decode (mcode k) pc = .ok (.aastore, 1)) (hk : inA h r c j) (h1 : 20 ≤ c) (h2 : c < 24) (hv : isK h v (elemK c)) : EV d k pc L ((2, v) :: (0, j) :: (2, r) :: st) h = EV d k (pc + 1) L st (mwr h r j v) :=
  E_me hd rfl rfl rfl rfl (by
    have hc := hk.1.2.2
    have hb := inAb_iff.mpr hk
    simp only [me_, hc, hb, isKb_iff.mpr hv, decide_eq_true h1, decide_eq_true h2, Bool.and_self, cond_true])
theorem E_slen (hd : decode (mcode k) pc = .ok (.arraylength, 1)) : EV d k pc L ((2, -2) :: st) h = EV d k (pc + 1) L ((0, mscl h) :: st) h :=
  E_me hd rfl rfl rfl rfl (by simp only [me_, decide_true, cond_true])
theorem E_alen (hd : decode (mcode k) pc = .ok (.arraylength, 1)) (hk : isK h r 19) : EV d k pc L ((2, r) :: st) h = EV d k (pc + 1) L ((0, mln h r) :: st) h :=
  E_me hd rfl rfl rfl rfl (by simp only [me_, isKb_iff.mpr hk, decide_eq_false (show ¬ r = -2 by have := hk.1; omega), cond_true, cond_false])
theorem me_iv_none {d k ix k' : Nat} {st : List AV} {h : AM} (ht : tref (own k) ix = some (k', 0)) (hk : k' < 328) : me_ d k (.invokevirtual ix) st h = none := by
  have e1 : tref (own k) ix ≠ some (1002, 0) := by rw [ht]; intro q; injection q with q; injection q with q; omega
  have e2 : tref (own k) ix ≠ some (1003, 0) := by rw [ht]; intro q; injection q with q; injection q with q; omega
  simp only [me_, decide_eq_false e1, decide_eq_false e2, Bool.false_and, Bool.and_false, cond_false]
  split <;> rfl
theorem me_is_none {d k ix k' fl : Nat} {st : List AV} {h : AM} (ht : tref (own k) ix = some (k', fl)) (hk : k' < 328) : me_ d k (.invokespecial ix) st h = none := by
  have e1 : tref (own k) ix ≠ some (1000, 0) := by rw [ht]; intro q; injection q with q; injection q with q; omega
  simp only [me_, decide_eq_false e1, Bool.false_and, Bool.and_false, cond_false]
  split <;> rfl
theorem me_it_none {d k ix k' : Nat} {st : List AV} {h : AM} (ht : tref (own k) ix = some (k', 0)) (hk : k' < 328) : me_ d k (.invokestatic ix) st h = none := by
  have e : ∀ n, 1000 ≤ n → tref (own k) ix ≠ some (n, 0) := fun n hn => by rw [ht]; intro q; injection q with q; injection q with q; omega
  simp only [me_, decide_eq_false (e 1001 (by omega)), decide_eq_false (e 1004 (by omega)), decide_eq_false (e 1005 (by omega)), decide_eq_false (e 1006 (by omega)), decide_eq_false (e 1007 (by omega)), Bool.false_and, Bool.and_false, cond_false]
  repeat' split
  all_goals rfl
theorem E_oi (hd : decode (mcode k) pc = .ok (.invokespecial ix, 3)) (ht : tref (own k) ix = some (1000, 0)) (hs : st.length ≤ 4) (hr : 0 ≤ r) : EV (d + 1) k pc L ((2, r) :: st) h = EV (d + 1) k (pc + 3) L st h :=
  E_me hd rfl rfl rfl rfl (by simp only [me_, ht, decide_true, decide_eq_true (Nat.succ_pos d), decide_eq_true hs, decide_eq_true hr, Bool.and_self, cond_true])
theorem E_cv {k' : Nat} (as : List AV) (hd : decode (mcode k) pc = .ok (.invokevirtual ix, 3)) (ht : tref (own k) ix = some (k', 0)) (hlt : k' < 328) (hkd : tb_d k' = 0) (hn : as.length = mnp k') (hl : (lsl ((2, r) :: as)).length ≤ mmaxL k') (h3 : ((2, r) :: as).all (fun v => decide (v.1 < 3)) = true) (hs : st.length ≤ 4) (hk : isK h r (own k')) : EV (d + 1) k pc L (as.reverse ++ (2, r) :: st) h = (EV d k' 0 (mkl k' ((2, r) :: as)) [] h).bind (fun q => EV (d + 1) k (pc + 3) L (psh q.1 st) q.2) := by
  have hr : as.reverse.length = mnp k' := by rw [List.length_reverse, hn]
  refine E_ca hd rfl rfl rfl rfl (me_iv_none ht hlt) ?_
  have e1 : (as.reverse ++ (2, r) :: st).drop (mnp k') = (2, r) :: st := by rw [← hr, List.drop_left]
  have e2 : ((as.reverse ++ (2, r) :: st).take (mnp k')).reverse = as := by rw [← hr, List.take_left, List.reverse_reverse]
  simp only [ca_, ht, e1, e2, hkd, isKb_iff.mpr hk, decide_true, decide_eq_true hs, decide_eq_true hlt, decide_eq_true hl, h3, Bool.and_self, cond_true]
theorem E_csr {k' : Nat} (as : List AV) (hd : decode (mcode k) pc = .ok (.invokestatic ix, 3)) (ht : tref (own k) ix = some (k', 0)) (hlt : k' < 328) (hkd : tb_d k' = 1) (hn : as.length = mnp k') (hl : (lsl as).length ≤ mmaxL k') (h3 : as.all (fun v => decide (v.1 < 3)) = true) (hs : rst4 st = true) : EV (d + 1) k pc L (as.reverse ++ st) h = (EV d k' 0 (mkl k' as) [] h).bind (fun q => EV (d + 1) k (pc + 3) L (psh q.1 st) q.2) := by
  have hr : as.reverse.length = mnp k' := by rw [List.length_reverse, hn]
  refine E_ca hd rfl rfl rfl rfl (me_it_none ht hlt) ?_
  have e1 : (as.reverse ++ st).drop (mnp k') = st := by rw [← hr, List.drop_left]
  have e2 : ((as.reverse ++ st).take (mnp k')).reverse = as := by rw [← hr, List.take_left, List.reverse_reverse]
  have e3 : mnp k' ≤ (as.reverse ++ st).length := by rw [List.length_append, hr]; omega
  simp only [ca_, ht, e1, e2, hkd, decide_true, hs, decide_eq_true hlt, decide_eq_true hl, decide_eq_true e3, h3, Bool.and_self, cond_true]
theorem E_cs {k' : Nat} (as : List AV) (hd : decode (mcode k) pc = .ok (.invokestatic ix, 3)) (ht : tref (own k) ix = some (k', 0)) (hlt : k' < 328) (hkd : tb_d k' = 1) (hn : as.length = mnp k') (hl : (lsl as).length ≤ mmaxL k') (h3 : as.all (fun v => decide (v.1 < 3)) = true) (hs : st.length ≤ 4) : EV (d + 1) k pc L (as.reverse ++ st) h = (EV d k' 0 (mkl k' as) [] h).bind (fun q => EV (d + 1) k (pc + 3) L (psh q.1 st) q.2) := by
  refine E_csr as hd ht hlt hkd hn hl h3 ?_
  unfold rst4
  rw [decide_eq_true hs]
  rfl
theorem E_ci {k' fl : Nat} (as : List AV) (hd : decode (mcode k) pc = .ok (.invokespecial ix, 3)) (ht : tref (own k) ix = some (k', fl)) (hlt : k' < 328) (hkd : tb_d k' = 2) (hn : as.length = mnp k') (hl : (lsl ((2, r) :: as)).length ≤ mmaxL k') (h3 : ((2, r) :: as).all (fun v => decide (v.1 < 3)) = true) (hs : st.length ≤ 4) (h0 : 0 ≤ r) : EV (d + 1) k pc L (as.reverse ++ (2, r) :: st) h = (EV d k' 0 (mkl k' ((2, r) :: as)) [] h).bind (fun q => EV (d + 1) k (pc + 3) L (psh q.1 st) q.2) := by
  have hr : as.reverse.length = mnp k' := by rw [List.length_reverse, hn]
  refine E_ca hd rfl rfl rfl rfl (me_is_none ht hlt) ?_
  have e1 : (as.reverse ++ (2, r) :: st).drop (mnp k') = (2, r) :: st := by rw [← hr, List.drop_left]
  have e2 : ((as.reverse ++ (2, r) :: st).take (mnp k')).reverse = as := by rw [← hr, List.take_left, List.reverse_reverse]
  simp only [ca_, ht, e1, e2, hkd, decide_true, decide_eq_true hs, decide_eq_true hlt, decide_eq_true hl, decide_eq_true h0, h3, Bool.and_self, cond_true]
theorem E_iret (hd : decode (mcode k) pc = .ok (.ireturn, 1)) (hr : rok (mret k) v = true) : EV d k pc L [(0, v)] h = some ((0, v), h) :=
  E_re hd rfl rfl rfl rfl rfl rfl (by simp only [re_, hr, cond_true])
theorem E_lret (hd : decode (mcode k) pc = .ok (.lreturn, 1)) (hr : mret k = some .long) : EV d k pc L [(1, v)] h = some ((1, v), h) :=
  E_re hd rfl rfl rfl rfl rfl rfl (by simp only [re_, hr, decide_true, cond_true])
theorem E_ret (hd : decode (mcode k) pc = .ok (.return_, 1)) (hr : mret k = none) : EV d k pc L [] h = some ((3, 0), h) :=
  E_re hd rfl rfl rfl rfl rfl rfl (by simp only [re_, hr, decide_true, cond_true])
theorem E_tsw {df lo hi : Int} {offs : Array Int} {len t : Nat} (hd : decode (mcode k) pc = .ok (.tableswitch df lo hi offs, len)) (hp : br_ (.tableswitch df lo hi offs) pc ((0, a) :: st) = some (t, st)) : EV d k pc L ((0, a) :: st) h = EV d k t L st h := E_br hd rfl rfl rfl hp
theorem E_tso {df lo hi : Int} {offs : Array Int} {len t : Nat} (hd : decode (mcode k) pc = .ok (.tableswitch df lo hi offs, len)) (ht : tgt pc df = some t) (ha : a < lo ∨ hi < a) : EV d k pc L ((0, a) :: st) h = EV d k t L st h := E_br hd rfl rfl rfl (by simp only [br_, if_pos ha, ht, Option.map_some])
theorem E_acp {a i b n : Int} (hd : decode (mcode k) pc = .ok (.invokestatic ix, 3)) (ht : tref (own k) ix = some (1001, 0)) (hs : st.length ≤ 4) (hk : (isK h a 16 ∧ isK h b 16) ∨ (isK h a 19 ∧ isK h b 19)) (h1 : 0 ≤ i) (h2 : 0 ≤ j) (h3 : 0 ≤ n) (h4 : i + n ≤ mln h a) (h5 : j + n ≤ mln h b) : EV (d + 1) k pc L ((0, n) :: (0, j) :: (2, b) :: (0, i) :: (2, a) :: st) h = EV (d + 1) k (pc + 3) L st (mcp h a i b j n) :=
  E_me hd rfl rfl rfl rfl (by
    have : ((isKb h a 16 && isKb h b 16) || (isKb h a 19 && isKb h b 19)) = true := by
      simp only [Bool.or_eq_true, Bool.and_eq_true, isKb_iff]
      exact hk
    simp only [me_, ht, this, decide_true, decide_eq_true (Nat.succ_pos d), decide_eq_true hs, decide_eq_true h1, decide_eq_true h2, decide_eq_true h3, decide_eq_true h4, decide_eq_true h5, Bool.and_self, cond_true])
theorem E_max (hd : decode (mcode k) pc = .ok (.invokestatic ix, 3)) (ht : tref (own k) ix = some (1004, 0)) (hs : st.length ≤ 2) : EV (d + 1) k pc L ((0, b) :: (0, a) :: st) h = EV (d + 1) k (pc + 3) L ((0, if a < b then b else a) :: st) h := by
  refine E_me hd rfl rfl rfl rfl ?_
  match st, hs with
  | [], _ => simp [me_, ht]
  | x :: [], _ => simp [me_, ht]
  | x :: y :: [], _ => simp [me_, ht]
theorem E_min (hd : decode (mcode k) pc = .ok (.invokestatic ix, 3)) (ht : tref (own k) ix = some (1005, 0)) (hs : st.length ≤ 2) : EV (d + 1) k pc L ((0, b) :: (0, a) :: st) h = EV (d + 1) k (pc + 3) L ((0, if b < a then b else a) :: st) h := by
  refine E_me hd rfl rfl rfl rfl ?_
  match st, hs with
  | [], _ => simp [me_, ht]
  | x :: [], _ => simp [me_, ht]
  | x :: y :: [], _ => simp [me_, ht]
theorem E_minl (hd : decode (mcode k) pc = .ok (.invokestatic ix, 3)) (ht : tref (own k) ix = some (1006, 0)) (hs : st.length ≤ 4) : EV (d + 1) k pc L ((1, b) :: (1, a) :: st) h = EV (d + 1) k (pc + 3) L ((1, if b < a then b else a) :: st) h :=
  E_me hd rfl rfl rfl rfl (by simp [me_, ht, hs])
theorem E_absl (hd : decode (mcode k) pc = .ok (.invokestatic ix, 3)) (ht : tref (own k) ix = some (1007, 0)) : EV (d + 1) k pc L [(1, a)] h = EV (d + 1) k (pc + 3) L [(1, if 0 < a then a else w64 (-a))] h :=
  E_me hd rfl rfl rfl rfl (by simp [me_, ht])
theorem E_new {c : Nat} (hd : decode (mcode k) pc = .ok (.new ix, 3)) (ht : tcls (own k) ix = some c) (hc : c < 12) : EV d k pc L st h = EV d k (pc + 3) L ((2, mnx h) :: st) (mal h c (cNF c) (dflt c)) :=
  E_me hd rfl rfl rfl rfl (by simp only [me_, ht, if_pos hc])
theorem E_newi {n : Int} (hd : decode (mcode k) pc = .ok (.newarray .int, 2)) (hn : 0 ≤ n ∧ n ≤ 1000000) : EV d k pc L ((0, n) :: st) h = EV d k (pc + 2) L ((2, mnx h) :: st) (mal h 16 n (fun _ => 0)) :=
  E_me hd rfl rfl rfl rfl (by simp only [me_, if_pos hn])
theorem E_newb {n : Int} (hd : decode (mcode k) pc = .ok (.newarray .byte, 2)) (hn : 0 ≤ n ∧ n ≤ 1000000) : EV d k pc L ((0, n) :: st) h = EV d k (pc + 2) L ((2, mnx h) :: st) (mal h 17 n (fun _ => 0)) :=
  E_me hd rfl rfl rfl rfl (by simp only [me_, if_pos hn])
theorem E_newz {n : Int} (hd : decode (mcode k) pc = .ok (.newarray .boolean, 2)) (hn : 0 ≤ n ∧ n ≤ 1000000) : EV d k pc L ((0, n) :: st) h = EV d k (pc + 2) L ((2, mnx h) :: st) (mal h 18 n (fun _ => 0)) :=
  E_me hd rfl rfl rfl rfl (by simp only [me_, if_pos hn])
theorem E_newl {n : Int} (hd : decode (mcode k) pc = .ok (.newarray .long, 2)) (hn : 0 ≤ n ∧ n ≤ 1000000) : EV d k pc L ((0, n) :: st) h = EV d k (pc + 2) L ((2, mnx h) :: st) (mal h 19 n (fun _ => 0)) :=
  E_me hd rfl rfl rfl rfl (by simp only [me_, if_pos hn])
end EQ
