/-! the 54 calls over Inv2; the start; the law -/
theorem ob_status : Op_status Inv2 := by
  intro d h  hI 
  obtain ⟨r, h1, h2, e1, e2, i2⟩ := op_status d h  hI.1 
  exact ⟨r, h1, h2, e1, e2, i2, Byt_EV e2 (Byt_EV e1 hI.2)⟩
theorem ob_top : Op_top Inv2 := by
  intro d h  hI 
  obtain ⟨r, h1, h2, e1, e2, i2⟩ := op_top d h  hI.1 
  exact ⟨r, h1, h2, e1, e2, i2, Byt_EV e2 (Byt_EV e1 hI.2)⟩
theorem ob_bottom : Op_bottom Inv2 := by
  intro d h  hI 
  obtain ⟨r, h1, h2, e1, e2, i2⟩ := op_bottom d h  hI.1 
  exact ⟨r, h1, h2, e1, e2, i2, Byt_EV e2 (Byt_EV e1 hI.2)⟩
theorem ob_tray : Op_tray Inv2 := by
  intro d h a0 a1 a2 hI p0 p1 p2
  obtain ⟨r, h1, h2, e1, e2, i2⟩ := op_tray d h a0 a1 a2 hI.1 p0 p1 p2
  exact ⟨r, h1, h2, e1, e2, i2, Byt_EV e2 (Byt_EV e1 hI.2)⟩
theorem ob_write : Op_write Inv2 := by
  intro d h a0 a1 a2 hI p0 p1 p2
  obtain ⟨r, h1, h2, e1, e2, i2⟩ := op_write d h a0 a1 a2 hI.1 p0 p1 p2
  exact ⟨r, h1, h2, e1, e2, i2, Byt_EV e2 (Byt_EV e1 hI.2)⟩
theorem ob_read : Op_read Inv2 := by
  intro d h a0 a1 hI p0 p1
  obtain ⟨r, h1, h2, e1, e2, i2⟩ := op_read d h a0 a1 hI.1 p0 p1
  exact ⟨r, h1, h2, e1, e2, i2, Byt_EV e2 (Byt_EV e1 hI.2)⟩
theorem ob_pour : Op_pour Inv2 := by
  intro d h a0 a1 a2 a3 a4 hI p0 p1 p2 p3 p4
  obtain ⟨r, h1, h2, e1, e2, i2⟩ := op_pour d h a0 a1 a2 a3 a4 hI.1 p0 p1 p2 p3 p4
  exact ⟨r, h1, h2, e1, e2, i2, Byt_EV e2 (Byt_EV e1 hI.2)⟩
theorem ob_feed : Op_feed Inv2 := by
  intro d h a0 a1 a2 a3 a4 hI p0 p1 p2 p3 p4
  obtain ⟨r, h1, h2, e1, e2, i2⟩ := op_feed d h a0 a1 a2 a3 a4 hI.1 p0 p1 p2 p3 p4
  exact ⟨r, h1, h2, e1, e2, i2, Byt_EV e2 (Byt_EV e1 hI.2)⟩
theorem ob_fault : Op_fault Inv2 := by
  intro d h a0 hI p0
  obtain ⟨r, h1, h2, e1, e2, i2⟩ := op_fault d h a0 hI.1 p0
  exact ⟨r, h1, h2, e1, e2, i2, Byt_EV e2 (Byt_EV e1 hI.2)⟩
theorem ob_many : Op_many Inv2 := by
  intro d h a0 hI p0
  obtain ⟨r, h1, h2, e1, e2, i2⟩ := op_many d h a0 hI.1 p0
  exact ⟨r, h1, h2, e1, e2, i2, Byt_EV e2 (Byt_EV e1 hI.2)⟩
theorem ob_lesson : Op_lesson Inv2 := by
  intro d h a0 a1 hI p0 p1
  obtain ⟨r, h1, h2, e1, e2, i2⟩ := op_lesson d h a0 a1 hI.1 p0 p1
  exact ⟨r, h1, h2, e1, e2, i2, Byt_EV e2 (Byt_EV e1 hI.2)⟩
theorem ob_child : Op_child Inv2 := by
  intro d h a0 a1 hI p0 p1
  obtain ⟨r, h1, h2, e1, e2, i2⟩ := op_child d h a0 a1 hI.1 p0 p1
  exact ⟨r, h1, h2, e1, e2, i2, Byt_EV e2 (Byt_EV e1 hI.2)⟩
theorem ob_letter : Op_letter Inv2 := by
  intro d h a0 a1 a2 hI p0 p1 p2
  obtain ⟨r, h1, h2, e1, e2, i2⟩ := op_letter d h a0 a1 a2 hI.1 p0 p1 p2
  exact ⟨r, h1, h2, e1, e2, i2, Byt_EV e2 (Byt_EV e1 hI.2)⟩
theorem ob_teaches : Op_teaches Inv2 := by
  intro d h a0 hI p0
  obtain ⟨r, h1, h2, e1, e2, i2⟩ := op_teaches d h a0 hI.1 p0
  exact ⟨r, h1, h2, e1, e2, i2, Byt_EV e2 (Byt_EV e1 hI.2)⟩
theorem ob_copyName : Op_copyName Inv2 := by
  intro d h a0 a1 hI p0 p1
  obtain ⟨r, h1, h2, e1, e2, i2⟩ := op_copyName d h a0 a1 hI.1 p0 p1
  exact ⟨r, h1, h2, e1, e2, i2, Byt_EV e2 (Byt_EV e1 hI.2)⟩
theorem ob_learn : Op_learn Inv2 := by
  intro d h a0 a1 hI p0 p1
  obtain ⟨r, h1, h2, e1, e2, i2⟩ := op_learn d h a0 a1 hI.1 p0 p1
  exact ⟨r, h1, h2, e1, e2, i2, Byt_EV e2 (Byt_EV e1 hI.2)⟩
theorem ob_lose : Op_lose Inv2 := by
  intro d h a0 a1 hI p0 p1
  obtain ⟨r, h1, h2, e1, e2, i2⟩ := op_lose d h a0 a1 hI.1 p0 p1
  exact ⟨r, h1, h2, e1, e2, i2, Byt_EV e2 (Byt_EV e1 hI.2)⟩
theorem ob_rest : Op_rest Inv2 := by
  intro d h a0 a1 hI p0 p1
  obtain ⟨r, h1, h2, e1, e2, i2⟩ := op_rest d h a0 a1 hI.1 p0 p1
  exact ⟨r, h1, h2, e1, e2, i2, Byt_EV e2 (Byt_EV e1 hI.2)⟩
theorem ob_pay : Op_pay Inv2 := by
  intro d h a0 a1 hI p0 p1
  obtain ⟨r, h1, h2, e1, e2, i2⟩ := op_pay d h a0 a1 hI.1 p0 p1
  exact ⟨r, h1, h2, e1, e2, i2, Byt_EV e2 (Byt_EV e1 hI.2)⟩
theorem ob_ready : Op_ready Inv2 := by
  intro d h a0 a1 hI p0 p1
  obtain ⟨r, h1, h2, e1, e2, i2⟩ := op_ready d h a0 a1 hI.1 p0 p1
  exact ⟨r, h1, h2, e1, e2, i2, Byt_EV e2 (Byt_EV e1 hI.2)⟩
theorem ob_takes : Op_takes Inv2 := by
  intro d h a0 a1 hI p0 p1
  obtain ⟨r, h1, h2, e1, e2, i2⟩ := op_takes d h a0 a1 hI.1 p0 p1
  exact ⟨r, h1, h2, e1, e2, i2, Byt_EV e2 (Byt_EV e1 hI.2)⟩
theorem ob_opens : Op_opens Inv2 := by
  intro d h a0 a1 hI p0 p1
  obtain ⟨r, h1, h2, e1, e2, i2⟩ := op_opens d h a0 a1 hI.1 p0 p1
  exact ⟨r, h1, h2, e1, e2, i2, Byt_EV e2 (Byt_EV e1 hI.2)⟩
theorem ob_choice : Op_choice Inv2 := by
  intro d h a0 hI p0
  obtain ⟨r, h1, h2, e1, e2, i2⟩ := op_choice d h a0 hI.1 p0
  exact ⟨r, h1, h2, e1, e2, i2, Byt_EV e2 (Byt_EV e1 hI.2)⟩
theorem ob_said : Op_said Inv2 := by
  intro d h a0 hI p0
  obtain ⟨r, h1, h2, e1, e2, i2⟩ := op_said d h a0 hI.1 p0
  exact ⟨r, h1, h2, e1, e2, i2, Byt_EV e2 (Byt_EV e1 hI.2)⟩
theorem ob_stumbles : Op_stumbles Inv2 := by
  intro d h a0 hI p0
  obtain ⟨r, h1, h2, e1, e2, i2⟩ := op_stumbles d h a0 hI.1 p0
  exact ⟨r, h1, h2, e1, e2, i2, Byt_EV e2 (Byt_EV e1 hI.2)⟩
theorem ob_drop : Op_drop Inv2 := by
  intro d h a0 hI p0
  obtain ⟨r, h1, h2, e1, e2, i2⟩ := op_drop d h a0 hI.1 p0
  exact ⟨r, h1, h2, e1, e2, i2, Byt_EV e2 (Byt_EV e1 hI.2)⟩
theorem ob_firm : Op_firm Inv2 := by
  intro d h a0 hI p0
  obtain ⟨r, h1, h2, e1, e2, i2⟩ := op_firm d h a0 hI.1 p0
  exact ⟨r, h1, h2, e1, e2, i2, Byt_EV e2 (Byt_EV e1 hI.2)⟩
theorem ob_weak : Op_weak Inv2 := by
  intro d h a0 hI p0
  obtain ⟨r, h1, h2, e1, e2, i2⟩ := op_weak d h a0 hI.1 p0
  exact ⟨r, h1, h2, e1, e2, i2, Byt_EV e2 (Byt_EV e1 hI.2)⟩
theorem ob_vowels : Op_vowels Inv2 := by
  intro d h a0 hI p0
  obtain ⟨r, h1, h2, e1, e2, i2⟩ := op_vowels d h a0 hI.1 p0
  exact ⟨r, h1, h2, e1, e2, i2, Byt_EV e2 (Byt_EV e1 hI.2)⟩
theorem ob_rhyme : Op_rhyme Inv2 := by
  intro d h a0 a1 hI p0 p1
  obtain ⟨r, h1, h2, e1, e2, i2⟩ := op_rhyme d h a0 a1 hI.1 p0 p1
  exact ⟨r, h1, h2, e1, e2, i2, Byt_EV e2 (Byt_EV e1 hI.2)⟩
theorem ob_apart : Op_apart Inv2 := by
  intro d h a0 a1 hI p0 p1
  obtain ⟨r, h1, h2, e1, e2, i2⟩ := op_apart d h a0 a1 hI.1 p0 p1
  exact ⟨r, h1, h2, e1, e2, i2, Byt_EV e2 (Byt_EV e1 hI.2)⟩
theorem ob_behind : Op_behind Inv2 := by
  intro d h a0 a1 hI p0 p1
  obtain ⟨r, h1, h2, e1, e2, i2⟩ := op_behind d h a0 a1 hI.1 p0 p1
  exact ⟨r, h1, h2, e1, e2, i2, Byt_EV e2 (Byt_EV e1 hI.2)⟩
theorem ob_life : Op_life Inv2 := by
  intro d h a0 a1 hI p0 p1
  obtain ⟨r, h1, h2, e1, e2, i2⟩ := op_life d h a0 a1 hI.1 p0 p1
  exact ⟨r, h1, h2, e1, e2, i2, Byt_EV e2 (Byt_EV e1 hI.2)⟩
theorem ob_soonest : Op_soonest Inv2 := by
  intro d h a0 a1 hI p0 p1
  obtain ⟨r, h1, h2, e1, e2, i2⟩ := op_soonest d h a0 a1 hI.1 p0 p1
  exact ⟨r, h1, h2, e1, e2, i2, Byt_EV e2 (Byt_EV e1 hI.2)⟩
theorem ob_cheapest : Op_cheapest Inv2 := by
  intro d h a0 a1 hI p0 p1
  obtain ⟨r, h1, h2, e1, e2, i2⟩ := op_cheapest d h a0 a1 hI.1 p0 p1
  exact ⟨r, h1, h2, e1, e2, i2, Byt_EV e2 (Byt_EV e1 hI.2)⟩
theorem ob_ways : Op_ways Inv2 := by
  intro d h a0 a1 hI p0 p1
  obtain ⟨r, h1, h2, e1, e2, i2⟩ := op_ways d h a0 a1 hI.1 p0 p1
  exact ⟨r, h1, h2, e1, e2, i2, Byt_EV e2 (Byt_EV e1 hI.2)⟩
theorem ob_first : Op_first Inv2 := by
  intro d h a0 a1 hI p0 p1
  obtain ⟨r, h1, h2, e1, e2, i2⟩ := op_first d h a0 a1 hI.1 p0 p1
  exact ⟨r, h1, h2, e1, e2, i2, Byt_EV e2 (Byt_EV e1 hI.2)⟩
theorem ob_firstAt : Op_firstAt Inv2 := by
  intro d h a0 hI p0
  obtain ⟨r, h1, h2, e1, e2, i2⟩ := op_firstAt d h a0 hI.1 p0
  exact ⟨r, h1, h2, e1, e2, i2, Byt_EV e2 (Byt_EV e1 hI.2)⟩
theorem ob_goes : Op_goes Inv2 := by
  intro d h a0 a1 hI p0 p1
  obtain ⟨r, h1, h2, e1, e2, i2⟩ := op_goes d h a0 a1 hI.1 p0 p1
  exact ⟨r, h1, h2, e1, e2, i2, Byt_EV e2 (Byt_EV e1 hI.2)⟩
theorem ob_lives : Op_lives Inv2 := by
  intro d h a0 hI p0
  obtain ⟨r, h1, h2, e1, e2, i2⟩ := op_lives d h a0 hI.1 p0
  exact ⟨r, h1, h2, e1, e2, i2, Byt_EV e2 (Byt_EV e1 hI.2)⟩
theorem ob_orders : Op_orders Inv2 := by
  intro d h a0 hI p0
  obtain ⟨r, h1, h2, e1, e2, i2⟩ := op_orders d h a0 hI.1 p0
  exact ⟨r, h1, h2, e1, e2, i2, Byt_EV e2 (Byt_EV e1 hI.2)⟩
theorem ob_reach : Op_reach Inv2 := by
  intro d h a0 hI p0
  obtain ⟨r, h1, h2, e1, e2, i2⟩ := op_reach d h a0 hI.1 p0
  exact ⟨r, h1, h2, e1, e2, i2, Byt_EV e2 (Byt_EV e1 hI.2)⟩
theorem ob_sayable : Op_sayable Inv2 := by
  intro d h a0 hI p0
  obtain ⟨r, h1, h2, e1, e2, i2⟩ := op_sayable d h a0 hI.1 p0
  exact ⟨r, h1, h2, e1, e2, i2, Byt_EV e2 (Byt_EV e1 hI.2)⟩
theorem ob_root : Op_root Inv2 := by
  intro d h  hI 
  obtain ⟨r, h1, h2, e1, e2, i2⟩ := op_root d h  hI.1 
  exact ⟨r, h1, h2, e1, e2, i2, Byt_EV e2 (Byt_EV e1 hI.2)⟩
theorem ob_plans : Op_plans Inv2 := by
  intro d h  hI 
  obtain ⟨r, h1, h2, e1, e2, i2⟩ := op_plans d h  hI.1 
  exact ⟨r, h1, h2, e1, e2, i2, Byt_EV e2 (Byt_EV e1 hI.2)⟩
theorem ob_waited : Op_waited Inv2 := by
  intro d h a0 hI p0
  obtain ⟨r, h1, h2, e1, e2, i2⟩ := op_waited d h a0 hI.1 p0
  exact ⟨r, h1, h2, e1, e2, i2, Byt_EV e2 (Byt_EV e1 hI.2)⟩
theorem ob_began : Op_began Inv2 := by
  intro d h a0 a1 hI p0 p1
  obtain ⟨r, h1, h2, e1, e2, i2⟩ := op_began d h a0 a1 hI.1 p0 p1
  exact ⟨r, h1, h2, e1, e2, i2, Byt_EV e2 (Byt_EV e1 hI.2)⟩
theorem ob_live : Op_live Inv2 := by
  intro d h a0 hI p0
  obtain ⟨r, h1, h2, e1, e2, i2⟩ := op_live d h a0 hI.1 p0
  exact ⟨r, h1, h2, e1, e2, i2, Byt_EV e2 (Byt_EV e1 hI.2)⟩
theorem ob_lived : Op_lived Inv2 := by
  intro d h a0 hI p0
  obtain ⟨r, h1, h2, e1, e2, i2⟩ := op_lived d h a0 hI.1 p0
  exact ⟨r, h1, h2, e1, e2, i2, Byt_EV e2 (Byt_EV e1 hI.2)⟩
theorem ob_odds : Op_odds Inv2 := by
  intro d h a0 a1 a2 hI p0 p1 p2
  obtain ⟨r, h1, h2, e1, e2, i2⟩ := op_odds d h a0 a1 a2 hI.1 p0 p1 p2
  exact ⟨r, h1, h2, e1, e2, i2, Byt_EV e2 (Byt_EV e1 hI.2)⟩
theorem ob_mark : Op_mark Inv2 := by
  intro d h  hI 
  obtain ⟨r, h1, h2, e1, e2, i2⟩ := op_mark d h  hI.1 
  exact ⟨r, h1, h2, e1, e2, i2, Byt_EV e2 (Byt_EV e1 hI.2)⟩
theorem ob_back : Op_back Inv2 := by
  intro d h  hI 
  obtain ⟨r, h1, h2, e1, e2, i2⟩ := op_back d h  hI.1 
  exact ⟨r, h1, h2, e1, e2, i2, Byt_EV e2 (Byt_EV e1 hI.2)⟩
theorem all_ops : AllOps Inv2 := ⟨ob_status, ob_top, ob_bottom, ob_tray, ob_write, ob_read, ob_pour, ob_feed, op_school, op_age, ob_fault, ob_many, ob_lesson, ob_child, ob_letter, ob_teaches, ob_copyName, ob_learn, ob_lose, ob_rest, ob_pay, ob_ready, ob_takes, ob_opens, ob_choice, ob_said, ob_stumbles, ob_drop, ob_firm, ob_weak, ob_vowels, ob_rhyme, ob_apart, ob_behind, ob_life, ob_soonest, ob_cheapest, ob_ways, ob_first, ob_firstAt, ob_goes, ob_lives, ob_orders, ob_reach, ob_sayable, ob_root, ob_plans, ob_waited, ob_began, ob_live, ob_lived, ob_odds, ob_mark, ob_back⟩
theorem base2 : Base Inv2 := fun h hI => Inv_base h hI.1
theorem room2 : ∀ h, Inv2 h → mnx h ≤ 600000 ∧ msl h ≤ 7302249 := fun h hI => Inv_room h hI.1
theorem hinit2 (xs : Int → Int) (L : Int) (l0 : 0 ≤ L) (l1 : L ≤ 3072) (hx : ∀ j, in32 (xs j)) : ∃ h2, Inv2 h2 ∧ EV 800 332 0 [(2, -2), (3, 0), (3, 0), (3, 0)] [] (hst xs L) = EV 800 332 18 [(2, -2), (2, 0), (2, 235), (0, 0)] [] h2 := by
  have ho := ini_ok
  unfold iniC at ho
  cases e1 : ini1 with
  | none => rw [e1] at ho; cases ho
  | some q =>
    obtain ⟨r, h⟩ := q
    rw [e1] at ho
    simp only [Bool.and_eq_true, decide_eq_true_eq] at ho
    obtain ⟨rfl, hn, ho⟩ := ho
    cases e2 : ini2 h with
    | none => rw [e2] at ho; cases ho
    | some q =>
      obtain ⟨r2, h2⟩ := q
      rw [e2] at ho
      simp only [Bool.and_eq_true, decide_eq_true_eq] at ho
      obtain ⟨rfl, ho⟩ := ho
      unfold chkI at ho
      simp only [Bool.and_eq_true, decide_eq_true_eq, List.all_eq_true] at ho
      obtain ⟨c0, ⟨c1, c2⟩, c3, c4, c5⟩ := ho
      obtain ⟨a1, a2⟩ := ex0_ex xs L _ _ _ _ _ _ _ _ _ (show mscl (mal (hst (fun _ => 0) 0) 10 17 (dflt 10)) = 0 from rfl) e1
      obtain ⟨b1, b2⟩ := ex0_ex xs L _ _ _ _ _ _ _ _ _ (show mscl (mal h 11 52 (dflt 11)) = 0 from a2) e2
      have g1 : EV 799 103 0 [(2, 0), (3, 0)] [] (mal (hst xs L) 10 17 (dflt 10)) = some ((3, 0), sw xs L h) := EV_iff.mpr ⟨_, a1⟩
      have g2 : EV 799 171 0 [(2, 235), (3, 0)] [] (mal (sw xs L h) 11 52 (dflt 11)) = some ((3, 0), sw xs L h2) := EV_iff.mpr ⟨_, b1⟩
      have y0 : Byt (hst xs L) := fun a i ha hk => absurd (show (0 : Nat) = 17 from hk) (by decide)
      have y1 := Byt_EV g1 (byt_al y0 (Or.inl (by decide)))
      have y2 := Byt_EV g2 (byt_al y1 (Or.inl (by decide)))
      refine ⟨sw xs L h2, ⟨?_, y2⟩, ?_⟩
      · have hR : RRef (sw xs L h2).1 := c2
        have hSh : Shp (sw xs L h2) := ⟨by show 258 ≤ mnx h2; omega, c3⟩
        have w : ∀ a i x : Int, (a, i, x) ∈ iniV → (sw xs L h2).1 a i = x := fun a i x hm => c1 (a, i, x) hm
        have s8 := w 0 8 162 (by decide)
        have s4 := w 162 4 168 (by decide)
        refine ⟨hSh, ⟨hR, ⟨?_, ?_, ?_, ?_⟩, fun t t0 t1 => Or.inl ?_, ⟨⟨?_, ?_, ?_⟩, fun i i0 i1 => ?_⟩, ⟨Or.inl ⟨w _ _ _ (by decide), w _ _ _ (by decide)⟩, fun k k0 k1 => ?_⟩, ⟨Or.inl (w _ _ _ (by decide)), ?_, fun z => ?_⟩, ⟨⟨?_, ?_, ?_⟩, fun p p0 p1 => ?_⟩, ⟨Or.inl ⟨s8, w _ _ _ (by decide)⟩, Or.inl s4, Or.inr (Or.inl (w _ _ _ (by decide))), Or.inr (Or.inr (w _ _ _ (by decide))), ?_, ?_, ?_, fun x hx p p0 p1 => ?_⟩, ⟨?_, ?_⟩, ⟨⟨?_, ?_, ?_⟩, fun i i0 i1 => ?_⟩⟩, ?_, ?_, hx, l0, l1⟩
        · rw [w 0 14 (-1) (by decide), w 235 10 (-1) (by decide)]
        · rw [w 0 15 (-1) (by decide), w 235 11 (-1) (by decide)]
        · rw [w 0 12 0 (by decide), w 235 2 0 (by decide)]
        · rw [w 0 13 1 (by decide), w 235 3 1 (by decide)]
        · rcases (show t = 0 ∨ t = 1 ∨ t = 2 ∨ t = 3 by omega) with rfl | rfl | rfl | rfl
          · exact ⟨w 2 1 0 (by decide), w 237 0 (-1) (by decide)⟩
          · exact ⟨w 4 1 0 (by decide), w 237 1 (-1) (by decide)⟩
          · exact ⟨w 6 1 0 (by decide), w 237 2 (-1) (by decide)⟩
          · exact ⟨w 8 1 0 (by decide), w 237 3 (-1) (by decide)⟩
        · rw [w 110 2 0 (by decide), w 235 8 0 (by decide)]
        · rw [w 110 2 0 (by decide)]; decide
        · rw [w 110 2 0 (by decide)]; decide
        · rw [w 110 2 0 (by decide)] at i1; omega
        · rw [w 152 6 0 (by decide)] at k1; omega
        · rw [w 146 0 0 (by decide), w 235 44 0 (by decide)]
        · rw [w 146 0 0 (by decide)] at z; omega
        · rw [w 148 3 0 (by decide), w 235 32 0 (by decide)]
        · rw [w 148 3 0 (by decide)]; decide
        · rw [w 148 3 0 (by decide)]; decide
        · rw [w 148 3 0 (by decide)] at p1; omega
        · rw [s4, w 195 4 201 (by decide)]; decide
        · rw [s4, w 0 10 228 (by decide)]; decide
        · rw [w 195 4 201 (by decide), w 0 10 228 (by decide)]; decide
        · have z := c0 (x, p) (List.mem_flatMap.mpr ⟨x, hx, List.mem_map.mpr ⟨p.toNat, List.mem_range.mpr (by omega), by rw [Int.toNat_of_nonneg p0]⟩⟩)
          have z : (sw xs L h2).1 x p = 0 := z
          rw [z]
          decide
        · rw [s8]
          refine ⟨⟨?_, ?_, ?_⟩, ⟨?_, ?_, ?_⟩, ⟨?_, ?_, ?_⟩, ⟨?_, ?_, ?_⟩, fun l l0 l1 => ?_, fun k k0 k1 => ?_⟩
          · rw [w 162 5 0 (by decide)]; exact (w 240 0 0 (by decide)).symm
          · rw [w 162 5 0 (by decide)]; decide
          · rw [w 162 5 0 (by decide)]; decide
          · rw [w 162 6 0 (by decide)]; exact (w 240 1 0 (by decide)).symm
          · rw [w 162 6 0 (by decide)]; decide
          · rw [w 162 6 0 (by decide)]; decide
          · rw [w 162 7 0 (by decide)]; exact (w 240 2 0 (by decide)).symm
          · rw [w 162 7 0 (by decide)]; decide
          · rw [w 162 7 0 (by decide)]; decide
          · rw [w 162 8 2 (by decide)]; exact (w 240 3 2 (by decide)).symm
          · rw [w 162 8 2 (by decide)]; decide
          · rw [w 162 8 2 (by decide)]; decide
          · rw [w 162 6 0 (by decide)] at l1; omega
          · rw [w 162 7 0 (by decide)] at k1; omega
        · rw [s8, s4]
          refine ⟨Or.inl (w 168 6 0 (by decide)), ?_, fun z => ?_⟩
          · rw [w 168 6 0 (by decide)]; exact (w 240 128 0 (by decide)).symm
          · rw [w 168 6 0 (by decide)] at z; omega
        · rw [w 0 16 0 (by decide), w 235 23 0 (by decide)]
        · rw [w 0 16 0 (by decide)]; decide
        · rw [w 0 16 0 (by decide)]; decide
        · rw [w 0 16 0 (by decide)] at i1; omega
        · show (sw xs L h2).1 0 11 = (sw xs L h2).1 235 0
          rw [w 0 11 0 (by decide), w 235 0 0 (by decide)]
        · have e5 : mrd (sw xs L h2) 148 5 = 151 := w 148 5 151 (by decide)
          unfold RSum
          rw [e5]
          refine ⟨Or.inl rfl, kn_151 hSh, by rw [ln_151 hSh]; decide, by rw [ln_151 hSh]; decide, ?_, ?_⟩
          · show mnx h2 ≤ _; omega
          · show msl h2 ≤ _; omega
      · have n1 : mnx (hst xs L) = 0 := rfl
        have n2 : mnx (sw xs L h) = 235 := hn
        have n3 : mal (sw xs L h) 11 52 (dflt 11) = mal (sw xs L h) 11 52 (dflt 11) := rfl
        simp only [e332_0, e332_3, e332_4 (d := 799), e332_7, e332_8, e332_11, e332_12 (d := 799), e332_15, e332_16, e332_17, n1, n2, g1, g2, psh0, psh1, psh3, true_or, or_true, eq_self, Option.bind_some, List.length_nil, List.length_cons, Nat.reduceAdd, Nat.reduceLeDiff, Nat.zero_le, Int.le_refl, Int.reduceLE]
theorem law_ok : LawOk := LawOk_of base2 all_ops room2 hinit2
