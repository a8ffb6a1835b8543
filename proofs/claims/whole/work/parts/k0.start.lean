/-! the start: the constructors are run by the kernel over an empty script; what they do there they do over every script -/
def isAL : Instr → Bool
  | .arraylength => true
  | _ => false
def isIA : Instr → Bool
  | .iaload => true
  | _ => false
def nfN {α : Type} (x : Nat) (f : Nat → α) : α := match x with
  | .zero => f .zero
  | .succ n => f (.succ n)
def nfI {α : Type} (x : Int) (f : Int → α) : α := match x with
  | .ofNat n => nfN n (fun m => f (.ofNat m))
  | .negSucc n => nfN n (fun m => f (.negSucc m))
def nfA {α : Type} (v : AV) (f : AV → α) : α := nfN v.1 (fun t => nfI v.2 (fun x => f (t, x)))
def nfL {α : Type} : List AV → (List AV → α) → α
  | [], f => f []
  | v :: vs, f => nfA v (fun v' => nfL vs (fun vs' => f (v' :: vs')))
def nfM {α : Type} (h : AM) (f : AM → α) : α := nfI h.2.2.1 (fun nx => nfN h.2.2.2.1 (fun sl => f (h.1, h.2.1, nx, sl, h.2.2.2.2)))
theorem nfN_e {α : Type} (x : Nat) (f : Nat → α) : nfN x f = f x := by cases x <;> rfl
theorem nfI_e {α : Type} (x : Int) (f : Int → α) : nfI x f = f x := by
  cases x with
  | ofNat n => exact nfN_e n (fun m => f (.ofNat m))
  | negSucc n => exact nfN_e n (fun m => f (.negSucc m))
theorem nfA_e {α : Type} (v : AV) (f : AV → α) : nfA v f = f v := by unfold nfA; rw [nfN_e, nfI_e]
theorem nfL_e {α : Type} : ∀ (l : List AV) (f : List AV → α), nfL l f = f l
  | [], f => rfl
  | v :: vs, f => by rw [nfL, nfA_e, nfL_e]
theorem nfM_e {α : Type} (h : AM) (f : AM → α) : nfM h f = f h := by unfold nfM; rw [nfI_e, nfN_e]
/-- the plain machine, but that it stops at arraylength; its numbers are made plain at every step -/
def ex0 : Nat → Nat → Nat → Nat → List AV → List AV → AM → Option (AV × AM)
  | 0, _, _, _, _, _, _ => none
  | n + 1, d, k, pc, L, st, h => nfN k fun k => nfN pc fun pc => nfL L fun L => nfL st fun st => nfM h fun h => match decode (mcode k) pc with
    | .ok (i, len) => bif !isAL i && lenok i len then (match pu_ k i st with
      | some st' => ex0 n d k (pc + len) L st' h
      | none => match lo_ i L st with
        | some (L', st') => ex0 n d k (pc + len) L' st' h
        | none => match br_ i pc st with
          | some (pc', st') => ex0 n d k pc' L st' h
          | none => match me_ d k i st h with
            | some (st', h') => ex0 n d k (pc + len) L st' h'
            | none => match ca_ k i st h with
              | some (k', as, st') => match d with
                | 0 => none
                | d' + 1 => match ex0 n d' k' 0 (mkl k' as) [] h with
                  | some r => ex0 n (d' + 1) k (pc + 3) L (psh r.1 st') r.2
                  | none => none
              | none => re_ k i st h) else none
    | .error _ => none
/-- another script -/
def sw (xs : Int → Int) (N : Int) (h : AM) : AM := (h.1, h.2.1, h.2.2.1, h.2.2.2.1, xs, N)
section
variable {xs : Int → Int} {N : Int} {h h' : AM} {d k : Nat} {i : Instr} {st st' : List AV}
theorem sw_K {r : Int} {c : Nat} : isKb (sw xs N h) r c = isKb h r c := rfl
theorem sw_A {r j : Int} {c : Nat} : inAb (sw xs N h) r c j = inAb h r c j := rfl
theorem sw_kn {r : Int} : mkn (sw xs N h) r = mkn h r := rfl
theorem sw_ln {r : Int} : mln (sw xs N h) r = mln h r := rfl
theorem sw_rd {r j : Int} : mrd (sw xs N h) r j = mrd h r j := rfl
theorem sw_nx : mnx (sw xs N h) = mnx h := rfl
theorem sw_wr {a j v : Int} : mwr (sw xs N h) a j v = sw xs N (mwr h a j v) := rfl
theorem sw_al {c : Nat} {n : Int} {dv : Int → Int} : mal (sw xs N h) c n dv = sw xs N (mal h c n dv) := rfl
theorem sw_cp {a j b q n : Int} : mcp (sw xs N h) a j b q n = sw xs N (mcp h a j b q n) := rfl
set_option maxHeartbeats 8000000 in
theorem me_sw (hz : mscl h = 0) (ha : isAL i = false) (hp : me_ d k i st h = some (st', h')) : me_ d k i st (sw xs N h) = some (st', sw xs N h') ∧ mscl h' = 0 := by
  unfold me_ at hp ⊢
  simp only [cond_eq_ite, sw_K, sw_A, sw_kn, sw_ln, sw_rd, sw_nx, sw_wr, sw_al, sw_cp] at hp ⊢
  repeat' split at hp
  all_goals first
    | (cases hp; done)
    | (exact absurd ha (by decide))
    | (exfalso; simp only [hz, Bool.and_eq_true, decide_eq_true_eq] at *; omega)
    | (injection hp with he; injection he with he1 he2; subst he1; subst he2; refine ⟨?_, hz⟩; simp only [*, if_true, if_false]; done)
    | (injection hp with he; injection he with he1 he2; subst he1; subst he2; refine ⟨?_, hz⟩; simp [*]; done)
    | (injection hp with he; injection he with he1 he2; subst he1; subst he2; refine ⟨?_, hz⟩; simp_all; done)
set_option maxHeartbeats 8000000 in
theorem me_ws (hb : isIA i = false) (ha : isAL i = false) (hp : me_ d k i st (sw xs N h) = some (st', h')) : ∃ h'', me_ d k i st h = some (st', h'') := by
  unfold me_ at hp ⊢
  simp only [cond_eq_ite, sw_K, sw_A, sw_kn, sw_ln, sw_rd, sw_nx, sw_wr, sw_al, sw_cp] at hp ⊢
  repeat' split at hp
  all_goals first
    | (cases hp; done)
    | (exact absurd ha (by decide))
    | (exact absurd hb (by decide))
    | (injection hp with he; injection he with he1 he2; subst he1; simp only [*, if_true, if_false]; exact ⟨_, rfl⟩)
    | (injection hp with he; injection he with he1 he2; subst he1; rename_i hq; simp only [Bool.and_eq_true, decide_eq_true_eq] at hq ⊢; rw [if_pos hq]; exact ⟨_, rfl⟩)
    | (injection hp with he; injection he with he1 he2; subst he1; simp [*]; done)
    | (injection hp with he; injection he with he1 he2; subst he1; rename_i hq; exact ⟨_, if_pos hq⟩)
theorem ca_sw : ca_ k i st (sw xs N h) = ca_ k i st h := rfl
theorem re_sw {r : AV} (hp : re_ k i st h = some (r, h')) : re_ k i st (sw xs N h) = some (r, sw xs N h') ∧ h' = h := by
  have e := re_inv hp
  subst e
  refine ⟨?_, rfl⟩
  unfold re_ at hp ⊢
  simp only [cond_eq_ite] at hp ⊢
  repeat' split at hp
  all_goals first
    | (cases hp; done)
    | (injection hp with he; injection he with he1 he2; subst he1; simp only [*, if_true])
    | simp_all
theorem ia_no (hb : isIA i = true) : ca_ k i st h = none ∧ re_ k i st h = none := by
  cases i <;> first | (exact absurd hb Bool.false_ne_true) | exact ⟨rfl, rfl⟩
end
theorem ex0_ex (xs : Int → Int) (N : Int) (n : Nat) : ∀ (d k pc : Nat) (L st : List AV) (h : AM) (r : AV) (h' : AM), mscl h = 0 → ex0 n d k pc L st h = some (r, h') → ex_ n d k pc L st (sw xs N h) = some (r, sw xs N h') ∧ mscl h' = 0 := by
  induction n with
  | zero => intro d k pc L st h r h' _ hp; simp [ex0] at hp
  | succ n ih =>
    intro d k pc L st h r h' hz hp
    unfold ex0 at hp
    simp only [nfN_e, nfL_e, nfM_e] at hp
    unfold ex_
    cases hd : decode (mcode k) pc with
    | error e => rw [hd] at hp; cases hp
    | ok q =>
      obtain ⟨i, len⟩ := q
      rw [hd] at hp
      dsimp only at hp ⊢
      cases ha : isAL i with
      | true => rw [ha] at hp; cases hp
      | false =>
      rw [ha, Bool.not_false, Bool.true_and] at hp
      cases hl : lenok i len with
      | false => rw [hl] at hp; cases hp
      | true =>
        rw [hl, cond_true] at hp
        rw [cond_true]
        cases h1 : pu_ k i st with
        | some st' => rw [h1] at hp; exact ih _ _ _ _ _ _ _ _ hz hp
        | none =>
        rw [h1] at hp
        dsimp only at hp ⊢
        cases h2 : lo_ i L st with
        | some q => rw [h2] at hp; exact ih _ _ _ _ _ _ _ _ hz hp
        | none =>
        rw [h2] at hp
        dsimp only at hp ⊢
        cases h3 : br_ i pc st with
        | some q => rw [h3] at hp; exact ih _ _ _ _ _ _ _ _ hz hp
        | none =>
        rw [h3] at hp
        dsimp only at hp ⊢
        cases h4 : me_ d k i st h with
        | some q =>
          obtain ⟨st', hq⟩ := q
          rw [h4] at hp
          obtain ⟨e1, e2⟩ := me_sw (xs := xs) (N := N) hz ha h4
          rw [e1]
          exact ih _ _ _ _ _ _ _ _ e2 hp
        | none =>
        rw [h4] at hp
        dsimp only at hp
        cases hb : isIA i with
        | true =>
          obtain ⟨q1, q2⟩ := ia_no (k := k) (st := st) (h := h) hb
          rw [q1, q2] at hp
          cases hp
        | false =>
        have h5 : me_ d k i st (sw xs N h) = none := by
          cases e : me_ d k i st (sw xs N h) with
          | none => rfl
          | some q =>
            obtain ⟨st', hq⟩ := q
            obtain ⟨h'', e2⟩ := me_ws hb ha e
            rw [h4] at e2
            cases e2
        rw [h5]
        dsimp only
        rw [ca_sw]
        cases h6 : ca_ k i st h with
        | none =>
          rw [h6] at hp
          dsimp only at hp ⊢
          obtain ⟨e1, e2⟩ := re_sw (xs := xs) (N := N) hp
          exact ⟨e1, by rw [e2]; exact hz⟩
        | some q =>
          obtain ⟨k', as, st'⟩ := q
          rw [h6] at hp
          dsimp only at hp ⊢
          cases d with
          | zero => cases hp
          | succ d' =>
            dsimp only at hp ⊢
            cases h7 : ex0 n d' k' 0 (mkl k' as) [] h with
            | none => rw [h7] at hp; cases hp
            | some q =>
              obtain ⟨r1, hq⟩ := q
              rw [h7] at hp
              obtain ⟨e1, e2⟩ := ih _ _ _ _ _ _ _ _ hz h7
              rw [e1]
              exact ih _ _ _ _ _ _ _ _ e2 hp
def ini1 : Option (AV × AM) := ex0 20000 799 103 0 [(2, 0), (3, 0)] [] (mal (hst (fun _ => 0) 0) 10 17 (dflt 10))
def ini2 (h : AM) : Option (AV × AM) := ex0 20000 799 171 0 [(2, 235), (3, 0)] [] (mal h 11 52 (dflt 11))
def iniV : List (Int × Int × Int) := [(0, 8, 162), (0, 9, 195), (0, 10, 228), (162, 4, 168), (195, 4, 201), (0, 14, -1), (235, 10, -1), (0, 15, -1), (235, 11, -1), (0, 12, 0), (235, 2, 0), (0, 13, 1), (235, 3, 1), (2, 1, 0), (4, 1, 0), (6, 1, 0), (8, 1, 0), (237, 0, -1), (237, 1, -1), (237, 2, -1), (237, 3, -1), (110, 2, 0), (235, 8, 0), (235, 42, -1), (152, 6, 0), (146, 0, 0), (235, 44, 0), (148, 3, 0), (235, 32, 0), (0, 16, 0), (235, 23, 0), (162, 5, 0), (162, 6, 0), (162, 7, 0), (162, 8, 2), (240, 0, 0), (240, 1, 0), (240, 2, 0), (240, 3, 2), (168, 6, 0), (240, 128, 0), (0, 11, 0), (235, 0, 0), (148, 5, 151)]
def kidL : List (Int × Int) := ([19, 52, 85, 170, 203, 230] : List Int).flatMap (fun x => (List.range 30).map (fun p : Nat => (x, (p : Int))))
def chkI (h : AM) : Bool := (kidL.all (fun q => decide (h.1 q.1 q.2 = 0))) && ((iniV.all (fun q => decide (h.1 q.1 q.2.1 = q.2.2)) && refT.all (fun q => decide (h.1 q.1 q.2.1 = q.2.2))) && (shT.all (fun q => decide (h.2.1 q.1 = (q.2.1, q.2.2))) && (decide (mnx h = 258) && decide (msl h ≤ 200000))))
def iniC : Bool := match ini1 with
  | none => false
  | some (r, h) => decide (r = (3, 0)) && (decide (mnx h = 235) && match ini2 h with
    | none => false
    | some (r2, h2) => decide (r2 = (3, 0)) && chkI h2)
theorem ini_ok : iniC = true := by decide +kernel
theorem hinit (xs : Int → Int) (L : Int) (l0 : 0 ≤ L) (l1 : L ≤ 3072) (hx : ∀ j, in32 (xs j)) : ∃ h2, Inv h2 ∧ EV 800 332 0 [(2, -2), (3, 0), (3, 0), (3, 0)] [] (hst xs L) = EV 800 332 18 [(2, -2), (2, 0), (2, 235), (0, 0)] [] h2 := by
  have ho := ini_ok
  unfold iniC at ho
  cases e1 : ini1 with
  | none => rw [e1] at ho; cases ho
  | some q =>
    obtain ⟨r, h⟩ := q
    rw [e1] at ho
    simp only [Bool.and_eq_true, decide_eq_true_eq] at ho
    obtain ⟨rfl, hn, ho⟩ := ho
    cases e2 : ini2 h with
    | none => rw [e2] at ho; cases ho
    | some q =>
      obtain ⟨r2, h2⟩ := q
      rw [e2] at ho
      simp only [Bool.and_eq_true, decide_eq_true_eq] at ho
      obtain ⟨rfl, ho⟩ := ho
      unfold chkI at ho
      simp only [Bool.and_eq_true, decide_eq_true_eq, List.all_eq_true] at ho
      obtain ⟨c0, ⟨c1, c2⟩, c3, c4, c5⟩ := ho
      obtain ⟨a1, a2⟩ := ex0_ex xs L _ _ _ _ _ _ _ _ _ (show mscl (mal (hst (fun _ => 0) 0) 10 17 (dflt 10)) = 0 from rfl) e1
      obtain ⟨b1, b2⟩ := ex0_ex xs L _ _ _ _ _ _ _ _ _ (show mscl (mal h 11 52 (dflt 11)) = 0 from a2) e2
      have g1 : EV 799 103 0 [(2, 0), (3, 0)] [] (mal (hst xs L) 10 17 (dflt 10)) = some ((3, 0), sw xs L h) := EV_iff.mpr ⟨_, a1⟩
      have g2 : EV 799 171 0 [(2, 235), (3, 0)] [] (mal (sw xs L h) 11 52 (dflt 11)) = some ((3, 0), sw xs L h2) := EV_iff.mpr ⟨_, b1⟩
      refine ⟨sw xs L h2, ?_, ?_⟩
      · have hR : RRef (sw xs L h2).1 := c2
        have hSh : Shp (sw xs L h2) := ⟨by show 258 ≤ mnx h2; omega, c3⟩
        have w : ∀ a i x : Int, (a, i, x) ∈ iniV → (sw xs L h2).1 a i = x := fun a i x hm => c1 (a, i, x) hm
        have s8 := w 0 8 162 (by decide)
        have s4 := w 162 4 168 (by decide)
        refine ⟨hSh, ⟨hR, ⟨?_, ?_, ?_, ?_⟩, fun t t0 t1 => Or.inl ?_, ⟨⟨?_, ?_, ?_⟩, fun i i0 i1 => ?_⟩, ⟨Or.inl ⟨w _ _ _ (by decide), w _ _ _ (by decide)⟩, fun k k0 k1 => ?_⟩, ⟨Or.inl (w _ _ _ (by decide)), ?_, fun z => ?_⟩, ⟨⟨?_, ?_, ?_⟩, fun p p0 p1 => ?_⟩, ⟨Or.inl ⟨s8, w _ _ _ (by decide)⟩, Or.inl s4, Or.inr (Or.inl (w _ _ _ (by decide))), Or.inr (Or.inr (w _ _ _ (by decide))), ?_, ?_, ?_, fun x hx p p0 p1 => ?_⟩, ⟨?_, ?_⟩, ⟨⟨?_, ?_, ?_⟩, fun i i0 i1 => ?_⟩⟩, ?_, ?_, hx, l0, l1⟩
        · rw [w 0 14 (-1) (by decide), w 235 10 (-1) (by decide)]
        · rw [w 0 15 (-1) (by decide), w 235 11 (-1) (by decide)]
        · rw [w 0 12 0 (by decide), w 235 2 0 (by decide)]
        · rw [w 0 13 1 (by decide), w 235 3 1 (by decide)]
        · rcases (show t = 0 ∨ t = 1 ∨ t = 2 ∨ t = 3 by omega) with rfl | rfl | rfl | rfl
          · exact ⟨w 2 1 0 (by decide), w 237 0 (-1) (by decide)⟩
          · exact ⟨w 4 1 0 (by decide), w 237 1 (-1) (by decide)⟩
          · exact ⟨w 6 1 0 (by decide), w 237 2 (-1) (by decide)⟩
          · exact ⟨w 8 1 0 (by decide), w 237 3 (-1) (by decide)⟩
        · rw [w 110 2 0 (by decide), w 235 8 0 (by decide)]
        · rw [w 110 2 0 (by decide)]; decide
        · rw [w 110 2 0 (by decide)]; decide
        · rw [w 110 2 0 (by decide)] at i1; omega
        · rw [w 152 6 0 (by decide)] at k1; omega
        · rw [w 146 0 0 (by decide), w 235 44 0 (by decide)]
        · rw [w 146 0 0 (by decide)] at z; omega
        · rw [w 148 3 0 (by decide), w 235 32 0 (by decide)]
        · rw [w 148 3 0 (by decide)]; decide
        · rw [w 148 3 0 (by decide)]; decide
        · rw [w 148 3 0 (by decide)] at p1; omega
        · rw [s4, w 195 4 201 (by decide)]; decide
        · rw [s4, w 0 10 228 (by decide)]; decide
        · rw [w 195 4 201 (by decide), w 0 10 228 (by decide)]; decide
        · have z := c0 (x, p) (List.mem_flatMap.mpr ⟨x, hx, List.mem_map.mpr ⟨p.toNat, List.mem_range.mpr (by omega), by rw [Int.toNat_of_nonneg p0]⟩⟩)
          have z : (sw xs L h2).1 x p = 0 := z
          rw [z]
          decide
        · rw [s8]
          refine ⟨⟨?_, ?_, ?_⟩, ⟨?_, ?_, ?_⟩, ⟨?_, ?_, ?_⟩, ⟨?_, ?_, ?_⟩, fun l l0 l1 => ?_, fun k k0 k1 => ?_⟩
          · rw [w 162 5 0 (by decide)]; exact (w 240 0 0 (by decide)).symm
          · rw [w 162 5 0 (by decide)]; decide
          · rw [w 162 5 0 (by decide)]; decide
          · rw [w 162 6 0 (by decide)]; exact (w 240 1 0 (by decide)).symm
          · rw [w 162 6 0 (by decide)]; decide
          · rw [w 162 6 0 (by decide)]; decide
          · rw [w 162 7 0 (by decide)]; exact (w 240 2 0 (by decide)).symm
          · rw [w 162 7 0 (by decide)]; decide
          · rw [w 162 7 0 (by decide)]; decide
          · rw [w 162 8 2 (by decide)]; exact (w 240 3 2 (by decide)).symm
          · rw [w 162 8 2 (by decide)]; decide
          · rw [w 162 8 2 (by decide)]; decide
          · rw [w 162 6 0 (by decide)] at l1; omega
          · rw [w 162 7 0 (by decide)] at k1; omega
        · rw [s8, s4]
          refine ⟨Or.inl (w 168 6 0 (by decide)), ?_, fun z => ?_⟩
          · rw [w 168 6 0 (by decide)]; exact (w 240 128 0 (by decide)).symm
          · rw [w 168 6 0 (by decide)] at z; omega
        · rw [w 0 16 0 (by decide), w 235 23 0 (by decide)]
        · rw [w 0 16 0 (by decide)]; decide
        · rw [w 0 16 0 (by decide)]; decide
        · rw [w 0 16 0 (by decide)] at i1; omega
        · show (sw xs L h2).1 0 11 = (sw xs L h2).1 235 0
          rw [w 0 11 0 (by decide), w 235 0 0 (by decide)]
        · have e5 : mrd (sw xs L h2) 148 5 = 151 := w 148 5 151 (by decide)
          unfold RSum
          rw [e5]
          refine ⟨Or.inl rfl, kn_151 hSh, by rw [ln_151 hSh]; decide, by rw [ln_151 hSh]; decide, ?_, ?_⟩
          · show mnx h2 ≤ _; omega
          · show msl h2 ≤ _; omega
      · have n1 : mnx (hst xs L) = 0 := rfl
        have n2 : mnx (sw xs L h) = 235 := hn
        have n3 : mal (sw xs L h) 11 52 (dflt 11) = mal (sw xs L h) 11 52 (dflt 11) := rfl
        simp only [e332_0, e332_3, e332_4 (d := 799), e332_7, e332_8, e332_11, e332_12 (d := 799), e332_15, e332_16, e332_17, n1, n2, g1, g2, psh0, psh1, psh3, true_or, or_true, eq_self, Option.bind_some, List.length_nil, List.length_cons, Nat.reduceAdd, Nat.reduceLeDiff, Nat.zero_le, Int.le_refl, Int.reduceLE]
