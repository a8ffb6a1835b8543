theorem mc0 : mcode 0 = cX0_init := rfl
theorem m0 {pc : Nat} {i : Instr} {len : Nat} (h : decode cX0_init pc = .ok (i, len)) : decode (mcode 0) pc = .ok (i, len) := by rw [mc0]; exact h
theorem ow0 : own 0 = 0 := rfl
theorem rr0 {ix : Nat} {x : Nat × Nat} (h : tref 0 ix = some x) : tref (own 0) ix = some x := by rw [ow0]; exact h
theorem td0 : tb_d 0 = 2 := rfl
theorem np0 : mnp 0 = 0 := rfl
theorem ml0 : mmaxL 0 = 1 := rfl
theorem rt0 : mret 0 = none := rfl
theorem mc1 : mcode 1 = cX0_copyFrom := rfl
theorem m1 {pc : Nat} {i : Instr} {len : Nat} (h : decode cX0_copyFrom pc = .ok (i, len)) : decode (mcode 1) pc = .ok (i, len) := by rw [mc1]; exact h
theorem ow1 : own 1 = 0 := rfl
theorem rr1 {ix : Nat} {x : Nat × Nat} (h : tref 0 ix = some x) : tref (own 1) ix = some x := by rw [ow1]; exact h
theorem td1 : tb_d 1 = 0 := rfl
theorem np1 : mnp 1 = 1 := rfl
theorem ml1 : mmaxL 1 = 2 := rfl
theorem rt1 : mret 1 = none := rfl
theorem mc2 : mcode 2 = cX0_readText := rfl
theorem m2 {pc : Nat} {i : Instr} {len : Nat} (h : decode cX0_readText pc = .ok (i, len)) : decode (mcode 2) pc = .ok (i, len) := by rw [mc2]; exact h
theorem ow2 : own 2 = 0 := rfl
theorem rr2 {ix : Nat} {x : Nat × Nat} (h : tref 0 ix = some x) : tref (own 2) ix = some x := by rw [ow2]; exact h
theorem td2 : tb_d 2 = 0 := rfl
theorem np2 : mnp 2 = 2 := rfl
theorem ml2 : mmaxL 2 = 4 := rfl
theorem rt2 : mret 2 = none := rfl
theorem mc3 : mcode 3 = cX0_closeBlock := rfl
theorem m3 {pc : Nat} {i : Instr} {len : Nat} (h : decode cX0_closeBlock pc = .ok (i, len)) : decode (mcode 3) pc = .ok (i, len) := by rw [mc3]; exact h
theorem ow3 : own 3 = 0 := rfl
theorem rr3 {ix : Nat} {x : Nat × Nat} (h : tref 0 ix = some x) : tref (own 3) ix = some x := by rw [ow3]; exact h
theorem td3 : tb_d 3 = 0 := rfl
theorem np3 : mnp 3 = 1 := rfl
theorem ml3 : mmaxL 3 = 2 := rfl
theorem rt3 : mret 3 = none := rfl
theorem mc4 : mcode 4 = cX0_readStep := rfl
theorem m4 {pc : Nat} {i : Instr} {len : Nat} (h : decode cX0_readStep pc = .ok (i, len)) : decode (mcode 4) pc = .ok (i, len) := by rw [mc4]; exact h
theorem ow4 : own 4 = 0 := rfl
theorem rr4 {ix : Nat} {x : Nat × Nat} (h : tref 0 ix = some x) : tref (own 4) ix = some x := by rw [ow4]; exact h
theorem td4 : tb_d 4 = 0 := rfl
theorem np4 : mnp 4 = 2 := rfl
theorem ml4 : mmaxL 4 = 6 := rfl
theorem rt4 : mret 4 = none := rfl
theorem mc5 : mcode 5 = cX0_isStepWord := rfl
theorem m5 {pc : Nat} {i : Instr} {len : Nat} (h : decode cX0_isStepWord pc = .ok (i, len)) : decode (mcode 5) pc = .ok (i, len) := by rw [mc5]; exact h
theorem ow5 : own 5 = 0 := rfl
theorem rr5 {ix : Nat} {x : Nat × Nat} (h : tref 0 ix = some x) : tref (own 5) ix = some x := by rw [ow5]; exact h
theorem td5 : tb_d 5 = 1 := rfl
theorem np5 : mnp 5 = 1 := rfl
theorem ml5 : mmaxL 5 = 1 := rfl
theorem rt5 : mret 5 = (some .boolean) := rfl
theorem mc6 : mcode 6 = cX0_readDeed := rfl
theorem m6 {pc : Nat} {i : Instr} {len : Nat} (h : decode cX0_readDeed pc = .ok (i, len)) : decode (mcode 6) pc = .ok (i, len) := by rw [mc6]; exact h
theorem ow6 : own 6 = 0 := rfl
theorem rr6 {ix : Nat} {x : Nat × Nat} (h : tref 0 ix = some x) : tref (own 6) ix = some x := by rw [ow6]; exact h
theorem td6 : tb_d 6 = 0 := rfl
theorem np6 : mnp 6 = 3 := rfl
theorem ml6 : mmaxL 6 = 5 := rfl
theorem rt6 : mret 6 = none := rfl
theorem mc7 : mcode 7 = cX0_readTest := rfl
theorem m7 {pc : Nat} {i : Instr} {len : Nat} (h : decode cX0_readTest pc = .ok (i, len)) : decode (mcode 7) pc = .ok (i, len) := by rw [mc7]; exact h
theorem ow7 : own 7 = 0 := rfl
theorem rr7 {ix : Nat} {x : Nat × Nat} (h : tref 0 ix = some x) : tref (own 7) ix = some x := by rw [ow7]; exact h
theorem td7 : tb_d 7 = 0 := rfl
theorem np7 : mnp 7 = 3 := rfl
theorem ml7 : mmaxL 7 = 4 := rfl
theorem rt7 : mret 7 = none := rfl
theorem mc8 : mcode 8 = cX1_init := rfl
theorem m8 {pc : Nat} {i : Instr} {len : Nat} (h : decode cX1_init pc = .ok (i, len)) : decode (mcode 8) pc = .ok (i, len) := by rw [mc8]; exact h
theorem ow8 : own 8 = 1 := rfl
theorem rr8 {ix : Nat} {x : Nat × Nat} (h : tref 1 ix = some x) : tref (own 8) ix = some x := by rw [ow8]; exact h
theorem td8 : tb_d 8 = 2 := rfl
theorem np8 : mnp 8 = 0 := rfl
theorem ml8 : mmaxL 8 = 1 := rfl
theorem rt8 : mret 8 = none := rfl
theorem mc9 : mcode 9 = cX1_begin := rfl
theorem m9 {pc : Nat} {i : Instr} {len : Nat} (h : decode cX1_begin pc = .ok (i, len)) : decode (mcode 9) pc = .ok (i, len) := by rw [mc9]; exact h
theorem ow9 : own 9 = 1 := rfl
theorem rr9 {ix : Nat} {x : Nat × Nat} (h : tref 1 ix = some x) : tref (own 9) ix = some x := by rw [ow9]; exact h
theorem td9 : tb_d 9 = 0 := rfl
theorem np9 : mnp 9 = 1 := rfl
theorem ml9 : mmaxL 9 = 3 := rfl
theorem rt9 : mret 9 = none := rfl
theorem mc10 : mcode 10 = cX1_copyFrom := rfl
theorem m10 {pc : Nat} {i : Instr} {len : Nat} (h : decode cX1_copyFrom pc = .ok (i, len)) : decode (mcode 10) pc = .ok (i, len) := by rw [mc10]; exact h
theorem ow10 : own 10 = 1 := rfl
theorem rr10 {ix : Nat} {x : Nat × Nat} (h : tref 1 ix = some x) : tref (own 10) ix = some x := by rw [ow10]; exact h
theorem td10 : tb_d 10 = 0 := rfl
theorem np10 : mnp 10 = 1 := rfl
theorem ml10 : mmaxL 10 = 2 := rfl
theorem rt10 : mret 10 = none := rfl
theorem mc11 : mcode 11 = cX1_hasPlace := rfl
theorem m11 {pc : Nat} {i : Instr} {len : Nat} (h : decode cX1_hasPlace pc = .ok (i, len)) : decode (mcode 11) pc = .ok (i, len) := by rw [mc11]; exact h
theorem ow11 : own 11 = 1 := rfl
theorem rr11 {ix : Nat} {x : Nat × Nat} (h : tref 1 ix = some x) : tref (own 11) ix = some x := by rw [ow11]; exact h
theorem td11 : tb_d 11 = 0 := rfl
theorem np11 : mnp 11 = 1 := rfl
theorem ml11 : mmaxL 11 = 2 := rfl
theorem rt11 : mret 11 = (some .boolean) := rfl
theorem mc12 : mcode 12 = cX1_earn := rfl
theorem m12 {pc : Nat} {i : Instr} {len : Nat} (h : decode cX1_earn pc = .ok (i, len)) : decode (mcode 12) pc = .ok (i, len) := by rw [mc12]; exact h
theorem ow12 : own 12 = 1 := rfl
theorem rr12 {ix : Nat} {x : Nat × Nat} (h : tref 1 ix = some x) : tref (own 12) ix = some x := by rw [ow12]; exact h
theorem td12 : tb_d 12 = 0 := rfl
theorem np12 : mnp 12 = 1 := rfl
theorem ml12 : mmaxL 12 = 2 := rfl
theorem rt12 : mret 12 = (some .boolean) := rfl
theorem mc13 : mcode 13 = cX1_forget := rfl
theorem m13 {pc : Nat} {i : Instr} {len : Nat} (h : decode cX1_forget pc = .ok (i, len)) : decode (mcode 13) pc = .ok (i, len) := by rw [mc13]; exact h
theorem ow13 : own 13 = 1 := rfl
theorem rr13 {ix : Nat} {x : Nat × Nat} (h : tref 1 ix = some x) : tref (own 13) ix = some x := by rw [ow13]; exact h
theorem td13 : tb_d 13 = 0 := rfl
theorem np13 : mnp 13 = 1 := rfl
theorem ml13 : mmaxL 13 = 4 := rfl
theorem rt13 : mret 13 = (some .int) := rfl
theorem mc14 : mcode 14 = cX2_init := rfl
theorem m14 {pc : Nat} {i : Instr} {len : Nat} (h : decode cX2_init pc = .ok (i, len)) : decode (mcode 14) pc = .ok (i, len) := by rw [mc14]; exact h
theorem ow14 : own 14 = 2 := rfl
theorem rr14 {ix : Nat} {x : Nat × Nat} (h : tref 2 ix = some x) : tref (own 14) ix = some x := by rw [ow14]; exact h
theorem td14 : tb_d 14 = 2 := rfl
theorem np14 : mnp 14 = 0 := rfl
theorem ml14 : mmaxL 14 = 1 := rfl
theorem rt14 : mret 14 = none := rfl
theorem mc15 : mcode 15 = cX2_give := rfl
theorem m15 {pc : Nat} {i : Instr} {len : Nat} (h : decode cX2_give pc = .ok (i, len)) : decode (mcode 15) pc = .ok (i, len) := by rw [mc15]; exact h
theorem ow15 : own 15 = 2 := rfl
theorem rr15 {ix : Nat} {x : Nat × Nat} (h : tref 2 ix = some x) : tref (own 15) ix = some x := by rw [ow15]; exact h
theorem td15 : tb_d 15 = 0 := rfl
theorem np15 : mnp 15 = 1 := rfl
theorem ml15 : mmaxL 15 = 2 := rfl
theorem rt15 : mret 15 = none := rfl
theorem mc16 : mcode 16 = cX2_copyFrom := rfl
theorem m16 {pc : Nat} {i : Instr} {len : Nat} (h : decode cX2_copyFrom pc = .ok (i, len)) : decode (mcode 16) pc = .ok (i, len) := by rw [mc16]; exact h
theorem ow16 : own 16 = 2 := rfl
theorem rr16 {ix : Nat} {x : Nat × Nat} (h : tref 2 ix = some x) : tref (own 16) ix = some x := by rw [ow16]; exact h
theorem td16 : tb_d 16 = 0 := rfl
theorem np16 : mnp 16 = 1 := rfl
theorem ml16 : mmaxL 16 = 2 := rfl
theorem rt16 : mret 16 = none := rfl
theorem mc17 : mcode 17 = cX3_init := rfl
theorem m17 {pc : Nat} {i : Instr} {len : Nat} (h : decode cX3_init pc = .ok (i, len)) : decode (mcode 17) pc = .ok (i, len) := by rw [mc17]; exact h
theorem ow17 : own 17 = 3 := rfl
theorem rr17 {ix : Nat} {x : Nat × Nat} (h : tref 3 ix = some x) : tref (own 17) ix = some x := by rw [ow17]; exact h
theorem td17 : tb_d 17 = 2 := rfl
theorem np17 : mnp 17 = 0 := rfl
theorem ml17 : mmaxL 17 = 1 := rfl
theorem rt17 : mret 17 = none := rfl
theorem mc18 : mcode 18 = cX3_run := rfl
theorem m18 {pc : Nat} {i : Instr} {len : Nat} (h : decode cX3_run pc = .ok (i, len)) : decode (mcode 18) pc = .ok (i, len) := by rw [mc18]; exact h
theorem ow18 : own 18 = 3 := rfl
theorem rr18 {ix : Nat} {x : Nat × Nat} (h : tref 3 ix = some x) : tref (own 18) ix = some x := by rw [ow18]; exact h
theorem td18 : tb_d 18 = 0 := rfl
theorem np18 : mnp 18 = 2 := rfl
theorem ml18 : mmaxL 18 = 3 := rfl
theorem rt18 : mret 18 = none := rfl
theorem mc19 : mcode 19 = cX3_walk := rfl
theorem m19 {pc : Nat} {i : Instr} {len : Nat} (h : decode cX3_walk pc = .ok (i, len)) : decode (mcode 19) pc = .ok (i, len) := by rw [mc19]; exact h
theorem ow19 : own 19 = 3 := rfl
theorem rr19 {ix : Nat} {x : Nat × Nat} (h : tref 3 ix = some x) : tref (own 19) ix = some x := by rw [ow19]; exact h
theorem td19 : tb_d 19 = 0 := rfl
theorem np19 : mnp 19 = 4 := rfl
theorem ml19 : mmaxL 19 = 6 := rfl
theorem rt19 : mret 19 = none := rfl
theorem mc20 : mcode 20 = cX3_doStep := rfl
theorem m20 {pc : Nat} {i : Instr} {len : Nat} (h : decode cX3_doStep pc = .ok (i, len)) : decode (mcode 20) pc = .ok (i, len) := by rw [mc20]; exact h
theorem ow20 : own 20 = 3 := rfl
theorem rr20 {ix : Nat} {x : Nat × Nat} (h : tref 3 ix = some x) : tref (own 20) ix = some x := by rw [ow20]; exact h
theorem td20 : tb_d 20 = 0 := rfl
theorem np20 : mnp 20 = 3 := rfl
theorem ml20 : mmaxL 20 = 8 := rfl
theorem rt20 : mret 20 = none := rfl
theorem mc21 : mcode 21 = cX3_holds := rfl
theorem m21 {pc : Nat} {i : Instr} {len : Nat} (h : decode cX3_holds pc = .ok (i, len)) : decode (mcode 21) pc = .ok (i, len) := by rw [mc21]; exact h
theorem ow21 : own 21 = 3 := rfl
theorem rr21 {ix : Nat} {x : Nat × Nat} (h : tref 3 ix = some x) : tref (own 21) ix = some x := by rw [ow21]; exact h
theorem td21 : tb_d 21 = 1 := rfl
theorem np21 : mnp 21 = 3 := rfl
theorem ml21 : mmaxL 21 = 4 := rfl
theorem rt21 : mret 21 = (some .boolean) := rfl
theorem mc22 : mcode 22 = cX3_compares := rfl
theorem m22 {pc : Nat} {i : Instr} {len : Nat} (h : decode cX3_compares pc = .ok (i, len)) : decode (mcode 22) pc = .ok (i, len) := by rw [mc22]; exact h
theorem ow22 : own 22 = 3 := rfl
theorem rr22 {ix : Nat} {x : Nat × Nat} (h : tref 3 ix = some x) : tref (own 22) ix = some x := by rw [ow22]; exact h
theorem td22 : tb_d 22 = 1 := rfl
theorem np22 : mnp 22 = 3 := rfl
theorem ml22 : mmaxL 22 = 3 := rfl
theorem rt22 : mret 22 = (some .boolean) := rfl
theorem mc23 : mcode 23 = cX3_tryLearn := rfl
theorem m23 {pc : Nat} {i : Instr} {len : Nat} (h : decode cX3_tryLearn pc = .ok (i, len)) : decode (mcode 23) pc = .ok (i, len) := by rw [mc23]; exact h
theorem ow23 : own 23 = 3 := rfl
theorem rr23 {ix : Nat} {x : Nat × Nat} (h : tref 3 ix = some x) : tref (own 23) ix = some x := by rw [ow23]; exact h
theorem td23 : tb_d 23 = 0 := rfl
theorem np23 : mnp 23 = 3 := rfl
theorem ml23 : mmaxL 23 = 4 := rfl
theorem rt23 : mret 23 = none := rfl
theorem mc24 : mcode 24 = cX3_tryLose := rfl
theorem m24 {pc : Nat} {i : Instr} {len : Nat} (h : decode cX3_tryLose pc = .ok (i, len)) : decode (mcode 24) pc = .ok (i, len) := by rw [mc24]; exact h
theorem ow24 : own 24 = 3 := rfl
theorem rr24 {ix : Nat} {x : Nat × Nat} (h : tref 3 ix = some x) : tref (own 24) ix = some x := by rw [ow24]; exact h
theorem td24 : tb_d 24 = 0 := rfl
theorem np24 : mnp 24 = 2 := rfl
theorem ml24 : mmaxL 24 = 3 := rfl
theorem rt24 : mret 24 = none := rfl
theorem mc25 : mcode 25 = cX3_meetFate := rfl
theorem m25 {pc : Nat} {i : Instr} {len : Nat} (h : decode cX3_meetFate pc = .ok (i, len)) : decode (mcode 25) pc = .ok (i, len) := by rw [mc25]; exact h
theorem ow25 : own 25 = 3 := rfl
theorem rr25 {ix : Nat} {x : Nat × Nat} (h : tref 3 ix = some x) : tref (own 25) ix = some x := by rw [ow25]; exact h
theorem td25 : tb_d 25 = 0 := rfl
theorem np25 : mnp 25 = 2 := rfl
theorem ml25 : mmaxL 25 = 5 := rfl
theorem rt25 : mret 25 = none := rfl
theorem mc26 : mcode 26 = cX3_draw := rfl
theorem m26 {pc : Nat} {i : Instr} {len : Nat} (h : decode cX3_draw pc = .ok (i, len)) : decode (mcode 26) pc = .ok (i, len) := by rw [mc26]; exact h
theorem ow26 : own 26 = 3 := rfl
theorem rr26 {ix : Nat} {x : Nat × Nat} (h : tref 3 ix = some x) : tref (own 26) ix = some x := by rw [ow26]; exact h
theorem td26 : tb_d 26 = 0 := rfl
theorem np26 : mnp 26 = 1 := rfl
theorem ml26 : mmaxL 26 = 2 := rfl
theorem rt26 : mret 26 = (some .int) := rfl
theorem mc27 : mcode 27 = cX3_memberOf := rfl
theorem m27 {pc : Nat} {i : Instr} {len : Nat} (h : decode cX3_memberOf pc = .ok (i, len)) : decode (mcode 27) pc = .ok (i, len) := by rw [mc27]; exact h
theorem ow27 : own 27 = 3 := rfl
theorem rr27 {ix : Nat} {x : Nat × Nat} (h : tref 3 ix = some x) : tref (own 27) ix = some x := by rw [ow27]; exact h
theorem td27 : tb_d 27 = 1 := rfl
theorem np27 : mnp 27 = 2 := rfl
theorem ml27 : mmaxL 27 = 4 := rfl
theorem rt27 : mret 27 = (some .int) := rfl
theorem mc28 : mcode 28 = cX4_init := rfl
theorem m28 {pc : Nat} {i : Instr} {len : Nat} (h : decode cX4_init pc = .ok (i, len)) : decode (mcode 28) pc = .ok (i, len) := by rw [mc28]; exact h
theorem ow28 : own 28 = 4 := rfl
theorem rr28 {ix : Nat} {x : Nat × Nat} (h : tref 4 ix = some x) : tref (own 28) ix = some x := by rw [ow28]; exact h
theorem td28 : tb_d 28 = 2 := rfl
theorem np28 : mnp 28 = 0 := rfl
theorem ml28 : mmaxL 28 = 1 := rfl
theorem rt28 : mret 28 = none := rfl
theorem mc29 : mcode 29 = cX4_hasChild := rfl
theorem m29 {pc : Nat} {i : Instr} {len : Nat} (h : decode cX4_hasChild pc = .ok (i, len)) : decode (mcode 29) pc = .ok (i, len) := by rw [mc29]; exact h
theorem ow29 : own 29 = 4 := rfl
theorem rr29 {ix : Nat} {x : Nat × Nat} (h : tref 4 ix = some x) : tref (own 29) ix = some x := by rw [ow29]; exact h
theorem td29 : tb_d 29 = 0 := rfl
theorem np29 : mnp 29 = 1 := rfl
theorem ml29 : mmaxL 29 = 2 := rfl
theorem rt29 : mret 29 = (some .boolean) := rfl
theorem mc30 : mcode 30 = cX4_make := rfl
theorem m30 {pc : Nat} {i : Instr} {len : Nat} (h : decode cX4_make pc = .ok (i, len)) : decode (mcode 30) pc = .ok (i, len) := by rw [mc30]; exact h
theorem ow30 : own 30 = 4 := rfl
theorem rr30 {ix : Nat} {x : Nat × Nat} (h : tref 4 ix = some x) : tref (own 30) ix = some x := by rw [ow30]; exact h
theorem td30 : tb_d 30 = 0 := rfl
theorem np30 : mnp 30 = 2 := rfl
theorem ml30 : mmaxL 30 = 7 := rfl
theorem rt30 : mret 30 = none := rfl
theorem mc31 : mcode 31 = cX4_tryBegin := rfl
theorem m31 {pc : Nat} {i : Instr} {len : Nat} (h : decode cX4_tryBegin pc = .ok (i, len)) : decode (mcode 31) pc = .ok (i, len) := by rw [mc31]; exact h
theorem ow31 : own 31 = 4 := rfl
theorem rr31 {ix : Nat} {x : Nat × Nat} (h : tref 4 ix = some x) : tref (own 31) ix = some x := by rw [ow31]; exact h
theorem td31 : tb_d 31 = 0 := rfl
theorem np31 : mnp 31 = 4 := rfl
theorem ml31 : mmaxL 31 = 7 := rfl
theorem rt31 : mret 31 = (some .boolean) := rfl
theorem mc32 : mcode 32 = cX5_init := rfl
theorem m32 {pc : Nat} {i : Instr} {len : Nat} (h : decode cX5_init pc = .ok (i, len)) : decode (mcode 32) pc = .ok (i, len) := by rw [mc32]; exact h
theorem ow32 : own 32 = 5 := rfl
theorem rr32 {ix : Nat} {x : Nat × Nat} (h : tref 5 ix = some x) : tref (own 32) ix = some x := by rw [ow32]; exact h
theorem td32 : tb_d 32 = 2 := rfl
theorem np32 : mnp 32 = 0 := rfl
theorem ml32 : mmaxL 32 = 6 := rfl
theorem rt32 : mret 32 = none := rfl
theorem mc33 : mcode 33 = cX5_takeIn := rfl
theorem m33 {pc : Nat} {i : Instr} {len : Nat} (h : decode cX5_takeIn pc = .ok (i, len)) : decode (mcode 33) pc = .ok (i, len) := by rw [mc33]; exact h
theorem ow33 : own 33 = 5 := rfl
theorem rr33 {ix : Nat} {x : Nat × Nat} (h : tref 5 ix = some x) : tref (own 33) ix = some x := by rw [ow33]; exact h
theorem td33 : tb_d 33 = 0 := rfl
theorem np33 : mnp 33 = 1 := rfl
theorem ml33 : mmaxL 33 = 3 := rfl
theorem rt33 : mret 33 = none := rfl
theorem mc34 : mcode 34 = cX5_begin := rfl
theorem m34 {pc : Nat} {i : Instr} {len : Nat} (h : decode cX5_begin pc = .ok (i, len)) : decode (mcode 34) pc = .ok (i, len) := by rw [mc34]; exact h
theorem ow34 : own 34 = 5 := rfl
theorem rr34 {ix : Nat} {x : Nat × Nat} (h : tref 5 ix = some x) : tref (own 34) ix = some x := by rw [ow34]; exact h
theorem td34 : tb_d 34 = 0 := rfl
theorem np34 : mnp 34 = 1 := rfl
theorem ml34 : mmaxL 34 = 2 := rfl
theorem rt34 : mret 34 = none := rfl
theorem mc35 : mcode 35 = cX5_advance := rfl
theorem m35 {pc : Nat} {i : Instr} {len : Nat} (h : decode cX5_advance pc = .ok (i, len)) : decode (mcode 35) pc = .ok (i, len) := by rw [mc35]; exact h
theorem ow35 : own 35 = 5 := rfl
theorem rr35 {ix : Nat} {x : Nat × Nat} (h : tref 5 ix = some x) : tref (own 35) ix = some x := by rw [ow35]; exact h
theorem td35 : tb_d 35 = 0 := rfl
theorem np35 : mnp 35 = 0 := rfl
theorem ml35 : mmaxL 35 = 1 := rfl
theorem rt35 : mret 35 = none := rfl
theorem mc36 : mcode 36 = cX5_advanceWord := rfl
theorem m36 {pc : Nat} {i : Instr} {len : Nat} (h : decode cX5_advanceWord pc = .ok (i, len)) : decode (mcode 36) pc = .ok (i, len) := by rw [mc36]; exact h
theorem ow36 : own 36 = 5 := rfl
theorem rr36 {ix : Nat} {x : Nat × Nat} (h : tref 5 ix = some x) : tref (own 36) ix = some x := by rw [ow36]; exact h
theorem td36 : tb_d 36 = 0 := rfl
theorem np36 : mnp 36 = 0 := rfl
theorem ml36 : mmaxL 36 = 2 := rfl
theorem rt36 : mret 36 = none := rfl
theorem mc37 : mcode 37 = cX5_advanceNumber := rfl
theorem m37 {pc : Nat} {i : Instr} {len : Nat} (h : decode cX5_advanceNumber pc = .ok (i, len)) : decode (mcode 37) pc = .ok (i, len) := by rw [mc37]; exact h
theorem ow37 : own 37 = 5 := rfl
theorem rr37 {ix : Nat} {x : Nat × Nat} (h : tref 5 ix = some x) : tref (own 37) ix = some x := by rw [ow37]; exact h
theorem td37 : tb_d 37 = 0 := rfl
theorem np37 : mnp 37 = 0 := rfl
theorem ml37 : mmaxL 37 = 1 := rfl
theorem rt37 : mret 37 = none := rfl
theorem mc38 : mcode 38 = cX5_goesOn := rfl
theorem m38 {pc : Nat} {i : Instr} {len : Nat} (h : decode cX5_goesOn pc = .ok (i, len)) : decode (mcode 38) pc = .ok (i, len) := by rw [mc38]; exact h
theorem ow38 : own 38 = 5 := rfl
theorem rr38 {ix : Nat} {x : Nat × Nat} (h : tref 5 ix = some x) : tref (own 38) ix = some x := by rw [ow38]; exact h
theorem td38 : tb_d 38 = 0 := rfl
theorem np38 : mnp 38 = 0 := rfl
theorem ml38 : mmaxL 38 = 1 := rfl
theorem rt38 : mret 38 = (some .boolean) := rfl
theorem mc39 : mcode 39 = cX5_blame := rfl
theorem m39 {pc : Nat} {i : Instr} {len : Nat} (h : decode cX5_blame pc = .ok (i, len)) : decode (mcode 39) pc = .ok (i, len) := by rw [mc39]; exact h
theorem ow39 : own 39 = 5 := rfl
theorem rr39 {ix : Nat} {x : Nat × Nat} (h : tref 5 ix = some x) : tref (own 39) ix = some x := by rw [ow39]; exact h
theorem td39 : tb_d 39 = 0 := rfl
theorem np39 : mnp 39 = 1 := rfl
theorem ml39 : mmaxL 39 = 2 := rfl
theorem rt39 : mret 39 = none := rfl
theorem mc40 : mcode 40 = cX5_blameMisfit := rfl
theorem m40 {pc : Nat} {i : Instr} {len : Nat} (h : decode cX5_blameMisfit pc = .ok (i, len)) : decode (mcode 40) pc = .ok (i, len) := by rw [mc40]; exact h
theorem ow40 : own 40 = 5 := rfl
theorem rr40 {ix : Nat} {x : Nat × Nat} (h : tref 5 ix = some x) : tref (own 40) ix = some x := by rw [ow40]; exact h
theorem td40 : tb_d 40 = 0 := rfl
theorem np40 : mnp 40 = 0 := rfl
theorem ml40 : mmaxL 40 = 1 := rfl
theorem rt40 : mret 40 = none := rfl
theorem mc41 : mcode 41 = cX5_isWord := rfl
theorem m41 {pc : Nat} {i : Instr} {len : Nat} (h : decode cX5_isWord pc = .ok (i, len)) : decode (mcode 41) pc = .ok (i, len) := by rw [mc41]; exact h
theorem ow41 : own 41 = 5 := rfl
theorem rr41 {ix : Nat} {x : Nat × Nat} (h : tref 5 ix = some x) : tref (own 41) ix = some x := by rw [ow41]; exact h
theorem td41 : tb_d 41 = 0 := rfl
theorem np41 : mnp 41 = 1 := rfl
theorem ml41 : mmaxL 41 = 2 := rfl
theorem rt41 : mret 41 = (some .boolean) := rfl
theorem mc42 : mcode 42 = cX5_isSign := rfl
theorem m42 {pc : Nat} {i : Instr} {len : Nat} (h : decode cX5_isSign pc = .ok (i, len)) : decode (mcode 42) pc = .ok (i, len) := by rw [mc42]; exact h
theorem ow42 : own 42 = 5 := rfl
theorem rr42 {ix : Nat} {x : Nat × Nat} (h : tref 5 ix = some x) : tref (own 42) ix = some x := by rw [ow42]; exact h
theorem td42 : tb_d 42 = 0 := rfl
theorem np42 : mnp 42 = 1 := rfl
theorem ml42 : mmaxL 42 = 2 := rfl
theorem rt42 : mret 42 = (some .boolean) := rfl
theorem mc43 : mcode 43 = cX5_passWord := rfl
theorem m43 {pc : Nat} {i : Instr} {len : Nat} (h : decode cX5_passWord pc = .ok (i, len)) : decode (mcode 43) pc = .ok (i, len) := by rw [mc43]; exact h
theorem ow43 : own 43 = 5 := rfl
theorem rr43 {ix : Nat} {x : Nat × Nat} (h : tref 5 ix = some x) : tref (own 43) ix = some x := by rw [ow43]; exact h
theorem td43 : tb_d 43 = 0 := rfl
theorem np43 : mnp 43 = 1 := rfl
theorem ml43 : mmaxL 43 = 2 := rfl
theorem rt43 : mret 43 = none := rfl
theorem mc44 : mcode 44 = cX5_passSign := rfl
theorem m44 {pc : Nat} {i : Instr} {len : Nat} (h : decode cX5_passSign pc = .ok (i, len)) : decode (mcode 44) pc = .ok (i, len) := by rw [mc44]; exact h
theorem ow44 : own 44 = 5 := rfl
theorem rr44 {ix : Nat} {x : Nat × Nat} (h : tref 5 ix = some x) : tref (own 44) ix = some x := by rw [ow44]; exact h
theorem td44 : tb_d 44 = 0 := rfl
theorem np44 : mnp 44 = 1 := rfl
theorem ml44 : mmaxL 44 = 2 := rfl
theorem rt44 : mret 44 = none := rfl
theorem mc45 : mcode 45 = cX5_passNumber := rfl
theorem m45 {pc : Nat} {i : Instr} {len : Nat} (h : decode cX5_passNumber pc = .ok (i, len)) : decode (mcode 45) pc = .ok (i, len) := by rw [mc45]; exact h
theorem ow45 : own 45 = 5 := rfl
theorem rr45 {ix : Nat} {x : Nat × Nat} (h : tref 5 ix = some x) : tref (own 45) ix = some x := by rw [ow45]; exact h
theorem td45 : tb_d 45 = 0 := rfl
theorem np45 : mnp 45 = 2 := rfl
theorem ml45 : mmaxL 45 = 4 := rfl
theorem rt45 : mret 45 = (some .int) := rfl
theorem mc46 : mcode 46 = cX5_passLetter := rfl
theorem m46 {pc : Nat} {i : Instr} {len : Nat} (h : decode cX5_passLetter pc = .ok (i, len)) : decode (mcode 46) pc = .ok (i, len) := by rw [mc46]; exact h
theorem ow46 : own 46 = 5 := rfl
theorem rr46 {ix : Nat} {x : Nat × Nat} (h : tref 5 ix = some x) : tref (own 46) ix = some x := by rw [ow46]; exact h
theorem td46 : tb_d 46 = 0 := rfl
theorem np46 : mnp 46 = 0 := rfl
theorem ml46 : mmaxL 46 = 2 := rfl
theorem rt46 : mret 46 = (some .int) := rfl
theorem mc47 : mcode 47 = cX5_passCompares := rfl
theorem m47 {pc : Nat} {i : Instr} {len : Nat} (h : decode cX5_passCompares pc = .ok (i, len)) : decode (mcode 47) pc = .ok (i, len) := by rw [mc47]; exact h
theorem ow47 : own 47 = 5 := rfl
theorem rr47 {ix : Nat} {x : Nat × Nat} (h : tref 5 ix = some x) : tref (own 47) ix = some x := by rw [ow47]; exact h
theorem td47 : tb_d 47 = 0 := rfl
theorem np47 : mnp 47 = 0 := rfl
theorem ml47 : mmaxL 47 = 2 := rfl
theorem rt47 : mret 47 = (some .char) := rfl
theorem mc48 : mcode 48 = cX5_seeName := rfl
theorem m48 {pc : Nat} {i : Instr} {len : Nat} (h : decode cX5_seeName pc = .ok (i, len)) : decode (mcode 48) pc = .ok (i, len) := by rw [mc48]; exact h
theorem ow48 : own 48 = 5 := rfl
theorem rr48 {ix : Nat} {x : Nat × Nat} (h : tref 5 ix = some x) : tref (own 48) ix = some x := by rw [ow48]; exact h
theorem td48 : tb_d 48 = 0 := rfl
theorem np48 : mnp 48 = 0 := rfl
theorem ml48 : mmaxL 48 = 1 := rfl
theorem rt48 : mret 48 = (some .long) := rfl
theorem mc49 : mcode 49 = cX5_passFound := rfl
theorem m49 {pc : Nat} {i : Instr} {len : Nat} (h : decode cX5_passFound pc = .ok (i, len)) : decode (mcode 49) pc = .ok (i, len) := by rw [mc49]; exact h
theorem ow49 : own 49 = 5 := rfl
theorem rr49 {ix : Nat} {x : Nat × Nat} (h : tref 5 ix = some x) : tref (own 49) ix = some x := by rw [ow49]; exact h
theorem td49 : tb_d 49 = 0 := rfl
theorem np49 : mnp 49 = 1 := rfl
theorem ml49 : mmaxL 49 = 2 := rfl
theorem rt49 : mret 49 = (some .int) := rfl
theorem mc50 : mcode 50 = cX6_init := rfl
theorem m50 {pc : Nat} {i : Instr} {len : Nat} (h : decode cX6_init pc = .ok (i, len)) : decode (mcode 50) pc = .ok (i, len) := by rw [mc50]; exact h
theorem ow50 : own 50 = 6 := rfl
theorem rr50 {ix : Nat} {x : Nat × Nat} (h : tref 6 ix = some x) : tref (own 50) ix = some x := by rw [ow50]; exact h
theorem td50 : tb_d 50 = 2 := rfl
theorem np50 : mnp 50 = 0 := rfl
theorem ml50 : mmaxL 50 = 2 := rfl
theorem rt50 : mret 50 = none := rfl
theorem mc51 : mcode 51 = cX6_copyFrom := rfl
theorem m51 {pc : Nat} {i : Instr} {len : Nat} (h : decode cX6_copyFrom pc = .ok (i, len)) : decode (mcode 51) pc = .ok (i, len) := by rw [mc51]; exact h
theorem ow51 : own 51 = 6 := rfl
theorem rr51 {ix : Nat} {x : Nat × Nat} (h : tref 6 ix = some x) : tref (own 51) ix = some x := by rw [ow51]; exact h
theorem td51 : tb_d 51 = 0 := rfl
theorem np51 : mnp 51 = 1 := rfl
theorem ml51 : mmaxL 51 = 3 := rfl
theorem rt51 : mret 51 = none := rfl
theorem mc52 : mcode 52 = cX6_readText := rfl
theorem m52 {pc : Nat} {i : Instr} {len : Nat} (h : decode cX6_readText pc = .ok (i, len)) : decode (mcode 52) pc = .ok (i, len) := by rw [mc52]; exact h
theorem ow52 : own 52 = 6 := rfl
theorem rr52 {ix : Nat} {x : Nat × Nat} (h : tref 6 ix = some x) : tref (own 52) ix = some x := by rw [ow52]; exact h
theorem td52 : tb_d 52 = 0 := rfl
theorem np52 : mnp 52 = 1 := rfl
theorem ml52 : mmaxL 52 = 3 := rfl
theorem rt52 : mret 52 = none := rfl
theorem mc53 : mcode 53 = cX6_readMaster := rfl
theorem m53 {pc : Nat} {i : Instr} {len : Nat} (h : decode cX6_readMaster pc = .ok (i, len)) : decode (mcode 53) pc = .ok (i, len) := by rw [mc53]; exact h
theorem ow53 : own 53 = 6 := rfl
theorem rr53 {ix : Nat} {x : Nat × Nat} (h : tref 6 ix = some x) : tref (own 53) ix = some x := by rw [ow53]; exact h
theorem td53 : tb_d 53 = 0 := rfl
theorem np53 : mnp 53 = 1 := rfl
theorem ml53 : mmaxL 53 = 2 := rfl
theorem rt53 : mret 53 = none := rfl
theorem mc54 : mcode 54 = cX6_readLesson := rfl
theorem m54 {pc : Nat} {i : Instr} {len : Nat} (h : decode cX6_readLesson pc = .ok (i, len)) : decode (mcode 54) pc = .ok (i, len) := by rw [mc54]; exact h
theorem ow54 : own 54 = 6 := rfl
theorem rr54 {ix : Nat} {x : Nat × Nat} (h : tref 6 ix = some x) : tref (own 54) ix = some x := by rw [ow54]; exact h
theorem td54 : tb_d 54 = 0 := rfl
theorem np54 : mnp 54 = 1 := rfl
theorem ml54 : mmaxL 54 = 3 := rfl
theorem rt54 : mret 54 = none := rfl
theorem mc55 : mcode 55 = cX6_readNeeds := rfl
theorem m55 {pc : Nat} {i : Instr} {len : Nat} (h : decode cX6_readNeeds pc = .ok (i, len)) : decode (mcode 55) pc = .ok (i, len) := by rw [mc55]; exact h
theorem ow55 : own 55 = 6 := rfl
theorem rr55 {ix : Nat} {x : Nat × Nat} (h : tref 6 ix = some x) : tref (own 55) ix = some x := by rw [ow55]; exact h
theorem td55 : tb_d 55 = 0 := rfl
theorem np55 : mnp 55 = 1 := rfl
theorem ml55 : mmaxL 55 = 5 := rfl
theorem rt55 : mret 55 = (some .int) := rfl
theorem mc56 : mcode 56 = cX6_readChild := rfl
theorem m56 {pc : Nat} {i : Instr} {len : Nat} (h : decode cX6_readChild pc = .ok (i, len)) : decode (mcode 56) pc = .ok (i, len) := by rw [mc56]; exact h
theorem ow56 : own 56 = 6 := rfl
theorem rr56 {ix : Nat} {x : Nat × Nat} (h : tref 6 ix = some x) : tref (own 56) ix = some x := by rw [ow56]; exact h
theorem td56 : tb_d 56 = 0 := rfl
theorem np56 : mnp 56 = 1 := rfl
theorem ml56 : mmaxL 56 = 3 := rfl
theorem rt56 : mret 56 = none := rfl
theorem mc57 : mcode 57 = cX6_readSounds := rfl
theorem m57 {pc : Nat} {i : Instr} {len : Nat} (h : decode cX6_readSounds pc = .ok (i, len)) : decode (mcode 57) pc = .ok (i, len) := by rw [mc57]; exact h
theorem ow57 : own 57 = 6 := rfl
theorem rr57 {ix : Nat} {x : Nat × Nat} (h : tref 6 ix = some x) : tref (own 57) ix = some x := by rw [ow57]; exact h
theorem td57 : tb_d 57 = 0 := rfl
theorem np57 : mnp 57 = 1 := rfl
theorem ml57 : mmaxL 57 = 2 := rfl
theorem rt57 : mret 57 = none := rfl
theorem mc58 : mcode 58 = cX6_readPerhaps := rfl
theorem m58 {pc : Nat} {i : Instr} {len : Nat} (h : decode cX6_readPerhaps pc = .ok (i, len)) : decode (mcode 58) pc = .ok (i, len) := by rw [mc58]; exact h
theorem ow58 : own 58 = 6 := rfl
theorem rr58 {ix : Nat} {x : Nat × Nat} (h : tref 6 ix = some x) : tref (own 58) ix = some x := by rw [ow58]; exact h
theorem td58 : tb_d 58 = 1 := rfl
theorem np58 : mnp 58 = 3 := rfl
theorem ml58 : mmaxL 58 = 3 := rfl
theorem rt58 : mret 58 = (some .int) := rfl
theorem mc59 : mcode 59 = cX6_readNewName := rfl
theorem m59 {pc : Nat} {i : Instr} {len : Nat} (h : decode cX6_readNewName pc = .ok (i, len)) : decode (mcode 59) pc = .ok (i, len) := by rw [mc59]; exact h
theorem ow59 : own 59 = 6 := rfl
theorem rr59 {ix : Nat} {x : Nat × Nat} (h : tref 6 ix = some x) : tref (own 59) ix = some x := by rw [ow59]; exact h
theorem td59 : tb_d 59 = 0 := rfl
theorem np59 : mnp 59 = 1 := rfl
theorem ml59 : mmaxL 59 = 4 := rfl
theorem rt59 : mret 59 = (some .long) := rfl
theorem mc60 : mcode 60 = cX6_findMaster := rfl
theorem m60 {pc : Nat} {i : Instr} {len : Nat} (h : decode cX6_findMaster pc = .ok (i, len)) : decode (mcode 60) pc = .ok (i, len) := by rw [mc60]; exact h
theorem ow60 : own 60 = 6 := rfl
theorem rr60 {ix : Nat} {x : Nat × Nat} (h : tref 6 ix = some x) : tref (own 60) ix = some x := by rw [ow60]; exact h
theorem td60 : tb_d 60 = 0 := rfl
theorem np60 : mnp 60 = 1 := rfl
theorem ml60 : mmaxL 60 = 4 := rfl
theorem rt60 : mret 60 = (some .int) := rfl
theorem mc61 : mcode 61 = cX6_findLesson := rfl
theorem m61 {pc : Nat} {i : Instr} {len : Nat} (h : decode cX6_findLesson pc = .ok (i, len)) : decode (mcode 61) pc = .ok (i, len) := by rw [mc61]; exact h
theorem ow61 : own 61 = 6 := rfl
theorem rr61 {ix : Nat} {x : Nat × Nat} (h : tref 6 ix = some x) : tref (own 61) ix = some x := by rw [ow61]; exact h
theorem td61 : tb_d 61 = 0 := rfl
theorem np61 : mnp 61 = 1 := rfl
theorem ml61 : mmaxL 61 = 4 := rfl
theorem rt61 : mret 61 = (some .int) := rfl
theorem mc62 : mcode 62 = cX6_findChild := rfl
theorem m62 {pc : Nat} {i : Instr} {len : Nat} (h : decode cX6_findChild pc = .ok (i, len)) : decode (mcode 62) pc = .ok (i, len) := by rw [mc62]; exact h
theorem ow62 : own 62 = 6 := rfl
theorem rr62 {ix : Nat} {x : Nat × Nat} (h : tref 6 ix = some x) : tref (own 62) ix = some x := by rw [ow62]; exact h
theorem td62 : tb_d 62 = 0 := rfl
theorem np62 : mnp 62 = 1 := rfl
theorem ml62 : mmaxL 62 = 4 := rfl
theorem rt62 : mret 62 = (some .int) := rfl
theorem mc63 : mcode 63 = cX6_hasMaster := rfl
theorem m63 {pc : Nat} {i : Instr} {len : Nat} (h : decode cX6_hasMaster pc = .ok (i, len)) : decode (mcode 63) pc = .ok (i, len) := by rw [mc63]; exact h
theorem ow63 : own 63 = 6 := rfl
theorem rr63 {ix : Nat} {x : Nat × Nat} (h : tref 6 ix = some x) : tref (own 63) ix = some x := by rw [ow63]; exact h
theorem td63 : tb_d 63 = 0 := rfl
theorem np63 : mnp 63 = 1 := rfl
theorem ml63 : mmaxL 63 = 2 := rfl
theorem rt63 : mret 63 = (some .boolean) := rfl
theorem mc64 : mcode 64 = cX6_hasLesson := rfl
theorem m64 {pc : Nat} {i : Instr} {len : Nat} (h : decode cX6_hasLesson pc = .ok (i, len)) : decode (mcode 64) pc = .ok (i, len) := by rw [mc64]; exact h
theorem ow64 : own 64 = 6 := rfl
theorem rr64 {ix : Nat} {x : Nat × Nat} (h : tref 6 ix = some x) : tref (own 64) ix = some x := by rw [ow64]; exact h
theorem td64 : tb_d 64 = 0 := rfl
theorem np64 : mnp 64 = 1 := rfl
theorem ml64 : mmaxL 64 = 3 := rfl
theorem rt64 : mret 64 = (some .boolean) := rfl
theorem mc65 : mcode 65 = cX6_hasChild := rfl
theorem m65 {pc : Nat} {i : Instr} {len : Nat} (h : decode cX6_hasChild pc = .ok (i, len)) : decode (mcode 65) pc = .ok (i, len) := by rw [mc65]; exact h
theorem ow65 : own 65 = 6 := rfl
theorem rr65 {ix : Nat} {x : Nat × Nat} (h : tref 6 ix = some x) : tref (own 65) ix = some x := by rw [ow65]; exact h
theorem td65 : tb_d 65 = 0 := rfl
theorem np65 : mnp 65 = 1 := rfl
theorem ml65 : mmaxL 65 = 2 := rfl
theorem rt65 : mret 65 = (some .boolean) := rfl
theorem mc66 : mcode 66 = cX6_hasAllLessons := rfl
theorem m66 {pc : Nat} {i : Instr} {len : Nat} (h : decode cX6_hasAllLessons pc = .ok (i, len)) : decode (mcode 66) pc = .ok (i, len) := by rw [mc66]; exact h
theorem ow66 : own 66 = 6 := rfl
theorem rr66 {ix : Nat} {x : Nat × Nat} (h : tref 6 ix = some x) : tref (own 66) ix = some x := by rw [ow66]; exact h
theorem td66 : tb_d 66 = 0 := rfl
theorem np66 : mnp 66 = 2 := rfl
theorem ml66 : mmaxL 66 = 4 := rfl
theorem rt66 : mret 66 = (some .boolean) := rfl
theorem mc67 : mcode 67 = cX6_letterAt := rfl
theorem m67 {pc : Nat} {i : Instr} {len : Nat} (h : decode cX6_letterAt pc = .ok (i, len)) : decode (mcode 67) pc = .ok (i, len) := by rw [mc67]; exact h
theorem ow67 : own 67 = 6 := rfl
theorem rr67 {ix : Nat} {x : Nat × Nat} (h : tref 6 ix = some x) : tref (own 67) ix = some x := by rw [ow67]; exact h
theorem td67 : tb_d 67 = 0 := rfl
theorem np67 : mnp 67 = 2 := rfl
theorem ml67 : mmaxL 67 = 3 := rfl
theorem rt67 : mret 67 = (some .int) := rfl
theorem mc68 : mcode 68 = cX6_lets := rfl
theorem m68 {pc : Nat} {i : Instr} {len : Nat} (h : decode cX6_lets pc = .ok (i, len)) : decode (mcode 68) pc = .ok (i, len) := by rw [mc68]; exact h
theorem ow68 : own 68 = 6 := rfl
theorem rr68 {ix : Nat} {x : Nat × Nat} (h : tref 6 ix = some x) : tref (own 68) ix = some x := by rw [ow68]; exact h
theorem td68 : tb_d 68 = 0 := rfl
theorem np68 : mnp 68 = 2 := rfl
theorem ml68 : mmaxL 68 = 3 := rfl
theorem rt68 : mret 68 = (some .boolean) := rfl
theorem mc69 : mcode 69 = cX6_canPay := rfl
theorem m69 {pc : Nat} {i : Instr} {len : Nat} (h : decode cX6_canPay pc = .ok (i, len)) : decode (mcode 69) pc = .ok (i, len) := by rw [mc69]; exact h
theorem ow69 : own 69 = 6 := rfl
theorem rr69 {ix : Nat} {x : Nat × Nat} (h : tref 6 ix = some x) : tref (own 69) ix = some x := by rw [ow69]; exact h
theorem td69 : tb_d 69 = 0 := rfl
theorem np69 : mnp 69 = 2 := rfl
theorem ml69 : mmaxL 69 = 3 := rfl
theorem rt69 : mret 69 = (some .boolean) := rfl
theorem mc70 : mcode 70 = cX6_daysFor := rfl
theorem m70 {pc : Nat} {i : Instr} {len : Nat} (h : decode cX6_daysFor pc = .ok (i, len)) : decode (mcode 70) pc = .ok (i, len) := by rw [mc70]; exact h
theorem ow70 : own 70 = 6 := rfl
theorem rr70 {ix : Nat} {x : Nat × Nat} (h : tref 6 ix = some x) : tref (own 70) ix = some x := by rw [ow70]; exact h
theorem td70 : tb_d 70 = 0 := rfl
theorem np70 : mnp 70 = 2 := rfl
theorem ml70 : mmaxL 70 = 4 := rfl
theorem rt70 : mret 70 = (some .int) := rfl
theorem mc71 : mcode 71 = cX6_readySet := rfl
theorem m71 {pc : Nat} {i : Instr} {len : Nat} (h : decode cX6_readySet pc = .ok (i, len)) : decode (mcode 71) pc = .ok (i, len) := by rw [mc71]; exact h
theorem ow71 : own 71 = 6 := rfl
theorem rr71 {ix : Nat} {x : Nat × Nat} (h : tref 6 ix = some x) : tref (own 71) ix = some x := by rw [ow71]; exact h
theorem td71 : tb_d 71 = 0 := rfl
theorem np71 : mnp 71 = 2 := rfl
theorem ml71 : mmaxL 71 = 5 := rfl
theorem rt71 : mret 71 = (some .int) := rfl
theorem mc72 : mcode 72 = cX6_teach := rfl
theorem m72 {pc : Nat} {i : Instr} {len : Nat} (h : decode cX6_teach pc = .ok (i, len)) : decode (mcode 72) pc = .ok (i, len) := by rw [mc72]; exact h
theorem ow72 : own 72 = 6 := rfl
theorem rr72 {ix : Nat} {x : Nat × Nat} (h : tref 6 ix = some x) : tref (own 72) ix = some x := by rw [ow72]; exact h
theorem td72 : tb_d 72 = 0 := rfl
theorem np72 : mnp 72 = 2 := rfl
theorem ml72 : mmaxL 72 = 3 := rfl
theorem rt72 : mret 72 = none := rfl
theorem mc73 : mcode 73 = cX6_choose := rfl
theorem m73 {pc : Nat} {i : Instr} {len : Nat} (h : decode cX6_choose pc = .ok (i, len)) : decode (mcode 73) pc = .ok (i, len) := by rw [mc73]; exact h
theorem ow73 : own 73 = 6 := rfl
theorem rr73 {ix : Nat} {x : Nat × Nat} (h : tref 6 ix = some x) : tref (own 73) ix = some x := by rw [ow73]; exact h
theorem td73 : tb_d 73 = 0 := rfl
theorem np73 : mnp 73 = 1 := rfl
theorem ml73 : mmaxL 73 = 7 := rfl
theorem rt73 : mret 73 = (some .int) := rfl
theorem mc74 : mcode 74 = cX6_isSaid := rfl
theorem m74 {pc : Nat} {i : Instr} {len : Nat} (h : decode cX6_isSaid pc = .ok (i, len)) : decode (mcode 74) pc = .ok (i, len) := by rw [mc74]; exact h
theorem ow74 : own 74 = 6 := rfl
theorem rr74 {ix : Nat} {x : Nat × Nat} (h : tref 6 ix = some x) : tref (own 74) ix = some x := by rw [ow74]; exact h
theorem td74 : tb_d 74 = 0 := rfl
theorem np74 : mnp 74 = 2 := rfl
theorem ml74 : mmaxL 74 = 3 := rfl
theorem rt74 : mret 74 = (some .boolean) := rfl
theorem mc75 : mcode 75 = cX6_weakPlace := rfl
theorem m75 {pc : Nat} {i : Instr} {len : Nat} (h : decode cX6_weakPlace pc = .ok (i, len)) : decode (mcode 75) pc = .ok (i, len) := by rw [mc75]; exact h
theorem ow75 : own 75 = 6 := rfl
theorem rr75 {ix : Nat} {x : Nat × Nat} (h : tref 6 ix = some x) : tref (own 75) ix = some x := by rw [ow75]; exact h
theorem td75 : tb_d 75 = 0 := rfl
theorem np75 : mnp 75 = 1 := rfl
theorem ml75 : mmaxL 75 = 3 := rfl
theorem rt75 : mret 75 = (some .int) := rfl
theorem mc76 : mcode 76 = cX6_sameAtEnd := rfl
theorem m76 {pc : Nat} {i : Instr} {len : Nat} (h : decode cX6_sameAtEnd pc = .ok (i, len)) : decode (mcode 76) pc = .ok (i, len) := by rw [mc76]; exact h
theorem ow76 : own 76 = 6 := rfl
theorem rr76 {ix : Nat} {x : Nat × Nat} (h : tref 6 ix = some x) : tref (own 76) ix = some x := by rw [ow76]; exact h
theorem td76 : tb_d 76 = 0 := rfl
theorem np76 : mnp 76 = 2 := rfl
theorem ml76 : mmaxL 76 = 5 := rfl
theorem rt76 : mret 76 = (some .int) := rfl
theorem mc77 : mcode 77 = cX6_unlikePlace := rfl
theorem m77 {pc : Nat} {i : Instr} {len : Nat} (h : decode cX6_unlikePlace pc = .ok (i, len)) : decode (mcode 77) pc = .ok (i, len) := by rw [mc77]; exact h
theorem ow77 : own 77 = 6 := rfl
theorem rr77 {ix : Nat} {x : Nat × Nat} (h : tref 6 ix = some x) : tref (own 77) ix = some x := by rw [ow77]; exact h
theorem td77 : tb_d 77 = 0 := rfl
theorem np77 : mnp 77 = 2 := rfl
theorem ml77 : mmaxL 77 = 5 := rfl
theorem rt77 : mret 77 = (some .int) := rfl
theorem mc78 : mcode 78 = cX6_stopOfLife := rfl
theorem m78 {pc : Nat} {i : Instr} {len : Nat} (h : decode cX6_stopOfLife pc = .ok (i, len)) : decode (mcode 78) pc = .ok (i, len) := by rw [mc78]; exact h
theorem ow78 : own 78 = 6 := rfl
theorem rr78 {ix : Nat} {x : Nat × Nat} (h : tref 6 ix = some x) : tref (own 78) ix = some x := by rw [ow78]; exact h
theorem td78 : tb_d 78 = 0 := rfl
theorem np78 : mnp 78 = 3 := rfl
theorem ml78 : mmaxL 78 = 7 := rfl
theorem rt78 : mret 78 = (some .int) := rfl
theorem mc79 : mcode 79 = cX6_allNeeds := rfl
theorem m79 {pc : Nat} {i : Instr} {len : Nat} (h : decode cX6_allNeeds pc = .ok (i, len)) : decode (mcode 79) pc = .ok (i, len) := by rw [mc79]; exact h
theorem ow79 : own 79 = 6 := rfl
theorem rr79 {ix : Nat} {x : Nat × Nat} (h : tref 6 ix = some x) : tref (own 79) ix = some x := by rw [ow79]; exact h
theorem td79 : tb_d 79 = 0 := rfl
theorem np79 : mnp 79 = 1 := rfl
theorem ml79 : mmaxL 79 = 4 := rfl
theorem rt79 : mret 79 = (some .int) := rfl
theorem mc80 : mcode 80 = cX6_needing := rfl
theorem m80 {pc : Nat} {i : Instr} {len : Nat} (h : decode cX6_needing pc = .ok (i, len)) : decode (mcode 80) pc = .ok (i, len) := by rw [mc80]; exact h
theorem ow80 : own 80 = 6 := rfl
theorem rr80 {ix : Nat} {x : Nat × Nat} (h : tref 6 ix = some x) : tref (own 80) ix = some x := by rw [ow80]; exact h
theorem td80 : tb_d 80 = 0 := rfl
theorem np80 : mnp 80 = 1 := rfl
theorem ml80 : mmaxL 80 = 4 := rfl
theorem rt80 : mret 80 = (some .int) := rfl
theorem mc81 : mcode 81 = cX7_init := rfl
theorem m81 {pc : Nat} {i : Instr} {len : Nat} (h : decode cX7_init pc = .ok (i, len)) : decode (mcode 81) pc = .ok (i, len) := by rw [mc81]; exact h
theorem ow81 : own 81 = 7 := rfl
theorem rr81 {ix : Nat} {x : Nat × Nat} (h : tref 7 ix = some x) : tref (own 81) ix = some x := by rw [ow81]; exact h
theorem td81 : tb_d 81 = 2 := rfl
theorem np81 : mnp 81 = 0 := rfl
theorem ml81 : mmaxL 81 = 1 := rfl
theorem rt81 : mret 81 = none := rfl
theorem mc82 : mcode 82 = cX7_hearTray := rfl
theorem m82 {pc : Nat} {i : Instr} {len : Nat} (h : decode cX7_hearTray pc = .ok (i, len)) : decode (mcode 82) pc = .ok (i, len) := by rw [mc82]; exact h
theorem ow82 : own 82 = 7 := rfl
theorem rr82 {ix : Nat} {x : Nat × Nat} (h : tref 7 ix = some x) : tref (own 82) ix = some x := by rw [ow82]; exact h
theorem td82 : tb_d 82 = 0 := rfl
theorem np82 : mnp 82 = 2 := rfl
theorem ml82 : mmaxL 82 = 6 := rfl
theorem rt82 : mret 82 = (some .boolean) := rfl
theorem mc83 : mcode 83 = cX7_hearName := rfl
theorem m83 {pc : Nat} {i : Instr} {len : Nat} (h : decode cX7_hearName pc = .ok (i, len)) : decode (mcode 83) pc = .ok (i, len) := by rw [mc83]; exact h
theorem ow83 : own 83 = 7 := rfl
theorem rr83 {ix : Nat} {x : Nat × Nat} (h : tref 7 ix = some x) : tref (own 83) ix = some x := by rw [ow83]; exact h
theorem td83 : tb_d 83 = 0 := rfl
theorem np83 : mnp 83 = 2 := rfl
theorem ml83 : mmaxL 83 = 4 := rfl
theorem rt83 : mret 83 = none := rfl
theorem mc84 : mcode 84 = cX7_hearAny := rfl
theorem m84 {pc : Nat} {i : Instr} {len : Nat} (h : decode cX7_hearAny pc = .ok (i, len)) : decode (mcode 84) pc = .ok (i, len) := by rw [mc84]; exact h
theorem ow84 : own 84 = 7 := rfl
theorem rr84 {ix : Nat} {x : Nat × Nat} (h : tref 7 ix = some x) : tref (own 84) ix = some x := by rw [ow84]; exact h
theorem td84 : tb_d 84 = 0 := rfl
theorem np84 : mnp 84 = 1 := rfl
theorem ml84 : mmaxL 84 = 3 := rfl
theorem rt84 : mret 84 = none := rfl
theorem mc85 : mcode 85 = cX7_clearSums := rfl
theorem m85 {pc : Nat} {i : Instr} {len : Nat} (h : decode cX7_clearSums pc = .ok (i, len)) : decode (mcode 85) pc = .ok (i, len) := by rw [mc85]; exact h
theorem ow85 : own 85 = 7 := rfl
theorem rr85 {ix : Nat} {x : Nat × Nat} (h : tref 7 ix = some x) : tref (own 85) ix = some x := by rw [ow85]; exact h
theorem td85 : tb_d 85 = 0 := rfl
theorem np85 : mnp 85 = 2 := rfl
theorem ml85 : mmaxL 85 = 5 := rfl
theorem rt85 : mret 85 = none := rfl
theorem mc86 : mcode 86 = cX7_comesNext := rfl
theorem m86 {pc : Nat} {i : Instr} {len : Nat} (h : decode cX7_comesNext pc = .ok (i, len)) : decode (mcode 86) pc = .ok (i, len) := by rw [mc86]; exact h
theorem ow86 : own 86 = 7 := rfl
theorem rr86 {ix : Nat} {x : Nat × Nat} (h : tref 7 ix = some x) : tref (own 86) ix = some x := by rw [ow86]; exact h
theorem td86 : tb_d 86 = 0 := rfl
theorem np86 : mnp 86 = 3 := rfl
theorem ml86 : mmaxL 86 = 5 := rfl
theorem rt86 : mret 86 = (some .boolean) := rfl
theorem mc87 : mcode 87 = cX7_count := rfl
theorem m87 {pc : Nat} {i : Instr} {len : Nat} (h : decode cX7_count pc = .ok (i, len)) : decode (mcode 87) pc = .ok (i, len) := by rw [mc87]; exact h
theorem ow87 : own 87 = 7 := rfl
theorem rr87 {ix : Nat} {x : Nat × Nat} (h : tref 7 ix = some x) : tref (own 87) ix = some x := by rw [ow87]; exact h
theorem td87 : tb_d 87 = 0 := rfl
theorem np87 : mnp 87 = 1 := rfl
theorem ml87 : mmaxL 87 = 8 := rfl
theorem rt87 : mret 87 = (some .long) := rfl
theorem mc88 : mcode 88 = cX7_least := rfl
theorem m88 {pc : Nat} {i : Instr} {len : Nat} (h : decode cX7_least pc = .ok (i, len)) : decode (mcode 88) pc = .ok (i, len) := by rw [mc88]; exact h
theorem ow88 : own 88 = 7 := rfl
theorem rr88 {ix : Nat} {x : Nat × Nat} (h : tref 7 ix = some x) : tref (own 88) ix = some x := by rw [ow88]; exact h
theorem td88 : tb_d 88 = 0 := rfl
theorem np88 : mnp 88 = 2 := rfl
theorem ml88 : mmaxL 88 = 10 := rfl
theorem rt88 : mret 88 = (some .int) := rfl
theorem mc89 : mcode 89 = cX7_lesser := rfl
theorem m89 {pc : Nat} {i : Instr} {len : Nat} (h : decode cX7_lesser pc = .ok (i, len)) : decode (mcode 89) pc = .ok (i, len) := by rw [mc89]; exact h
theorem ow89 : own 89 = 7 := rfl
theorem rr89 {ix : Nat} {x : Nat × Nat} (h : tref 7 ix = some x) : tref (own 89) ix = some x := by rw [ow89]; exact h
theorem td89 : tb_d 89 = 1 := rfl
theorem np89 : mnp 89 = 2 := rfl
theorem ml89 : mmaxL 89 = 4 := rfl
theorem rt89 : mret 89 = (some .long) := rfl
theorem mc90 : mcode 90 = cX7_findFirst := rfl
theorem m90 {pc : Nat} {i : Instr} {len : Nat} (h : decode cX7_findFirst pc = .ok (i, len)) : decode (mcode 90) pc = .ok (i, len) := by rw [mc90]; exact h
theorem ow90 : own 90 = 7 := rfl
theorem rr90 {ix : Nat} {x : Nat × Nat} (h : tref 7 ix = some x) : tref (own 90) ix = some x := by rw [ow90]; exact h
theorem td90 : tb_d 90 = 0 := rfl
theorem np90 : mnp 90 = 1 := rfl
theorem ml90 : mmaxL 90 = 5 := rfl
theorem rt90 : mret 90 = (some .boolean) := rfl
theorem mc91 : mcode 91 = cX7_goingOn := rfl
theorem m91 {pc : Nat} {i : Instr} {len : Nat} (h : decode cX7_goingOn pc = .ok (i, len)) : decode (mcode 91) pc = .ok (i, len) := by rw [mc91]; exact h
theorem ow91 : own 91 = 7 := rfl
theorem rr91 {ix : Nat} {x : Nat × Nat} (h : tref 7 ix = some x) : tref (own 91) ix = some x := by rw [ow91]; exact h
theorem td91 : tb_d 91 = 0 := rfl
theorem np91 : mnp 91 = 2 := rfl
theorem ml91 : mmaxL 91 = 4 := rfl
theorem rt91 : mret 91 = (some .int) := rfl
theorem mc92 : mcode 92 = cX7_countSaid := rfl
theorem m92 {pc : Nat} {i : Instr} {len : Nat} (h : decode cX7_countSaid pc = .ok (i, len)) : decode (mcode 92) pc = .ok (i, len) := by rw [mc92]; exact h
theorem ow92 : own 92 = 7 := rfl
theorem rr92 {ix : Nat} {x : Nat × Nat} (h : tref 7 ix = some x) : tref (own 92) ix = some x := by rw [ow92]; exact h
theorem td92 : tb_d 92 = 0 := rfl
theorem np92 : mnp 92 = 1 := rfl
theorem ml92 : mmaxL 92 = 9 := rfl
theorem rt92 : mret 92 = (some .long) := rfl
theorem mc93 : mcode 93 = cX7_saySo := rfl
theorem m93 {pc : Nat} {i : Instr} {len : Nat} (h : decode cX7_saySo pc = .ok (i, len)) : decode (mcode 93) pc = .ok (i, len) := by rw [mc93]; exact h
theorem ow93 : own 93 = 7 := rfl
theorem rr93 {ix : Nat} {x : Nat × Nat} (h : tref 7 ix = some x) : tref (own 93) ix = some x := by rw [ow93]; exact h
theorem td93 : tb_d 93 = 0 := rfl
theorem np93 : mnp 93 = 4 := rfl
theorem ml93 : mmaxL 93 = 8 := rfl
theorem rt93 : mret 93 = none := rfl
theorem mc94 : mcode 94 = cX8_init := rfl
theorem m94 {pc : Nat} {i : Instr} {len : Nat} (h : decode cX8_init pc = .ok (i, len)) : decode (mcode 94) pc = .ok (i, len) := by rw [mc94]; exact h
theorem ow94 : own 94 = 8 := rfl
theorem rr94 {ix : Nat} {x : Nat × Nat} (h : tref 8 ix = some x) : tref (own 94) ix = some x := by rw [ow94]; exact h
theorem td94 : tb_d 94 = 2 := rfl
theorem np94 : mnp 94 = 0 := rfl
theorem ml94 : mmaxL 94 = 1 := rfl
theorem rt94 : mret 94 = none := rfl
theorem mc95 : mcode 95 = cX8_lay := rfl
theorem m95 {pc : Nat} {i : Instr} {len : Nat} (h : decode cX8_lay pc = .ok (i, len)) : decode (mcode 95) pc = .ok (i, len) := by rw [mc95]; exact h
theorem ow95 : own 95 = 8 := rfl
theorem rr95 {ix : Nat} {x : Nat × Nat} (h : tref 8 ix = some x) : tref (own 95) ix = some x := by rw [ow95]; exact h
theorem td95 : tb_d 95 = 0 := rfl
theorem np95 : mnp 95 = 2 := rfl
theorem ml95 : mmaxL 95 = 4 := rfl
theorem rt95 : mret 95 = none := rfl
theorem mc96 : mcode 96 = cX8_hasRow := rfl
theorem m96 {pc : Nat} {i : Instr} {len : Nat} (h : decode cX8_hasRow pc = .ok (i, len)) : decode (mcode 96) pc = .ok (i, len) := by rw [mc96]; exact h
theorem ow96 : own 96 = 8 := rfl
theorem rr96 {ix : Nat} {x : Nat × Nat} (h : tref 8 ix = some x) : tref (own 96) ix = some x := by rw [ow96]; exact h
theorem td96 : tb_d 96 = 0 := rfl
theorem np96 : mnp 96 = 2 := rfl
theorem ml96 : mmaxL 96 = 3 := rfl
theorem rt96 : mret 96 = (some .boolean) := rfl
theorem mc97 : mcode 97 = cX8_put := rfl
theorem m97 {pc : Nat} {i : Instr} {len : Nat} (h : decode cX8_put pc = .ok (i, len)) : decode (mcode 97) pc = .ok (i, len) := by rw [mc97]; exact h
theorem ow97 : own 97 = 8 := rfl
theorem rr97 {ix : Nat} {x : Nat × Nat} (h : tref 8 ix = some x) : tref (own 97) ix = some x := by rw [ow97]; exact h
theorem td97 : tb_d 97 = 0 := rfl
theorem np97 : mnp 97 = 2 := rfl
theorem ml97 : mmaxL 97 = 4 := rfl
theorem rt97 : mret 97 = none := rfl
theorem mc98 : mcode 98 = cX9_init := rfl
theorem m98 {pc : Nat} {i : Instr} {len : Nat} (h : decode cX9_init pc = .ok (i, len)) : decode (mcode 98) pc = .ok (i, len) := by rw [mc98]; exact h
theorem ow98 : own 98 = 9 := rfl
theorem rr98 {ix : Nat} {x : Nat × Nat} (h : tref 9 ix = some x) : tref (own 98) ix = some x := by rw [ow98]; exact h
theorem td98 : tb_d 98 = 2 := rfl
theorem np98 : mnp 98 = 0 := rfl
theorem ml98 : mmaxL 98 = 1 := rfl
theorem rt98 : mret 98 = none := rfl
theorem mc99 : mcode 99 = cX9_spell := rfl
theorem m99 {pc : Nat} {i : Instr} {len : Nat} (h : decode cX9_spell pc = .ok (i, len)) : decode (mcode 99) pc = .ok (i, len) := by rw [mc99]; exact h
theorem ow99 : own 99 = 9 := rfl
theorem rr99 {ix : Nat} {x : Nat × Nat} (h : tref 9 ix = some x) : tref (own 99) ix = some x := by rw [ow99]; exact h
theorem td99 : tb_d 99 = 0 := rfl
theorem np99 : mnp 99 = 3 := rfl
theorem ml99 : mmaxL 99 = 5 := rfl
theorem rt99 : mret 99 = none := rfl
theorem mc100 : mcode 100 = cX9_add := rfl
theorem m100 {pc : Nat} {i : Instr} {len : Nat} (h : decode cX9_add pc = .ok (i, len)) : decode (mcode 100) pc = .ok (i, len) := by rw [mc100]; exact h
theorem ow100 : own 100 = 9 := rfl
theorem rr100 {ix : Nat} {x : Nat × Nat} (h : tref 9 ix = some x) : tref (own 100) ix = some x := by rw [ow100]; exact h
theorem td100 : tb_d 100 = 0 := rfl
theorem np100 : mnp 100 = 1 := rfl
theorem ml100 : mmaxL 100 = 2 := rfl
theorem rt100 : mret 100 = none := rfl
theorem mc101 : mcode 101 = cX9_stumble := rfl
theorem m101 {pc : Nat} {i : Instr} {len : Nat} (h : decode cX9_stumble pc = .ok (i, len)) : decode (mcode 101) pc = .ok (i, len) := by rw [mc101]; exact h
theorem ow101 : own 101 = 9 := rfl
theorem rr101 {ix : Nat} {x : Nat × Nat} (h : tref 9 ix = some x) : tref (own 101) ix = some x := by rw [ow101]; exact h
theorem td101 : tb_d 101 = 0 := rfl
theorem np101 : mnp 101 = 1 := rfl
theorem ml101 : mmaxL 101 = 4 := rfl
theorem rt101 : mret 101 = (some .int) := rfl
theorem mc102 : mcode 102 = cX9_tooMany := rfl
theorem m102 {pc : Nat} {i : Instr} {len : Nat} (h : decode cX9_tooMany pc = .ok (i, len)) : decode (mcode 102) pc = .ok (i, len) := by rw [mc102]; exact h
theorem ow102 : own 102 = 9 := rfl
theorem rr102 {ix : Nat} {x : Nat × Nat} (h : tref 9 ix = some x) : tref (own 102) ix = some x := by rw [ow102]; exact h
theorem td102 : tb_d 102 = 0 := rfl
theorem np102 : mnp 102 = 1 := rfl
theorem ml102 : mmaxL 102 = 5 := rfl
theorem rt102 : mret 102 = (some .int) := rfl
theorem mc103 : mcode 103 = cX10_init := rfl
theorem m103 {pc : Nat} {i : Instr} {len : Nat} (h : decode cX10_init pc = .ok (i, len)) : decode (mcode 103) pc = .ok (i, len) := by rw [mc103]; exact h
theorem ow103 : own 103 = 10 := rfl
theorem rr103 {ix : Nat} {x : Nat × Nat} (h : tref 10 ix = some x) : tref (own 103) ix = some x := by rw [ow103]; exact h
theorem td103 : tb_d 103 = 2 := rfl
theorem np103 : mnp 103 = 0 := rfl
theorem ml103 : mmaxL 103 = 2 := rfl
theorem rt103 : mret 103 = none := rfl
theorem mc104 : mcode 104 = cX10_status := rfl
theorem m104 {pc : Nat} {i : Instr} {len : Nat} (h : decode cX10_status pc = .ok (i, len)) : decode (mcode 104) pc = .ok (i, len) := by rw [mc104]; exact h
theorem ow104 : own 104 = 10 := rfl
theorem rr104 {ix : Nat} {x : Nat × Nat} (h : tref 10 ix = some x) : tref (own 104) ix = some x := by rw [ow104]; exact h
theorem td104 : tb_d 104 = 0 := rfl
theorem np104 : mnp 104 = 0 := rfl
theorem ml104 : mmaxL 104 = 1 := rfl
theorem rt104 : mret 104 = (some .int) := rfl
theorem mc105 : mcode 105 = cX10_top := rfl
theorem m105 {pc : Nat} {i : Instr} {len : Nat} (h : decode cX10_top pc = .ok (i, len)) : decode (mcode 105) pc = .ok (i, len) := by rw [mc105]; exact h
theorem ow105 : own 105 = 10 := rfl
theorem rr105 {ix : Nat} {x : Nat × Nat} (h : tref 10 ix = some x) : tref (own 105) ix = some x := by rw [ow105]; exact h
theorem td105 : tb_d 105 = 0 := rfl
theorem np105 : mnp 105 = 0 := rfl
theorem ml105 : mmaxL 105 = 1 := rfl
theorem rt105 : mret 105 = (some .long) := rfl
theorem mc106 : mcode 106 = cX10_bottom := rfl
theorem m106 {pc : Nat} {i : Instr} {len : Nat} (h : decode cX10_bottom pc = .ok (i, len)) : decode (mcode 106) pc = .ok (i, len) := by rw [mc106]; exact h
theorem ow106 : own 106 = 10 := rfl
theorem rr106 {ix : Nat} {x : Nat × Nat} (h : tref 10 ix = some x) : tref (own 106) ix = some x := by rw [ow106]; exact h
theorem td106 : tb_d 106 = 0 := rfl
theorem np106 : mnp 106 = 0 := rfl
theorem ml106 : mmaxL 106 = 1 := rfl
theorem rt106 : mret 106 = (some .long) := rfl
theorem mc107 : mcode 107 = cX10_tray := rfl
theorem m107 {pc : Nat} {i : Instr} {len : Nat} (h : decode cX10_tray pc = .ok (i, len)) : decode (mcode 107) pc = .ok (i, len) := by rw [mc107]; exact h
theorem ow107 : own 107 = 10 := rfl
theorem rr107 {ix : Nat} {x : Nat × Nat} (h : tref 10 ix = some x) : tref (own 107) ix = some x := by rw [ow107]; exact h
theorem td107 : tb_d 107 = 0 := rfl
theorem np107 : mnp 107 = 3 := rfl
theorem ml107 : mmaxL 107 = 4 := rfl
theorem rt107 : mret 107 = (some .boolean) := rfl
theorem mc108 : mcode 108 = cX10_write := rfl
theorem m108 {pc : Nat} {i : Instr} {len : Nat} (h : decode cX10_write pc = .ok (i, len)) : decode (mcode 108) pc = .ok (i, len) := by rw [mc108]; exact h
theorem ow108 : own 108 = 10 := rfl
theorem rr108 {ix : Nat} {x : Nat × Nat} (h : tref 10 ix = some x) : tref (own 108) ix = some x := by rw [ow108]; exact h
theorem td108 : tb_d 108 = 0 := rfl
theorem np108 : mnp 108 = 3 := rfl
theorem ml108 : mmaxL 108 = 6 := rfl
theorem rt108 : mret 108 = (some .boolean) := rfl
theorem mc109 : mcode 109 = cX10_read := rfl
theorem m109 {pc : Nat} {i : Instr} {len : Nat} (h : decode cX10_read pc = .ok (i, len)) : decode (mcode 109) pc = .ok (i, len) := by rw [mc109]; exact h
theorem ow109 : own 109 = 10 := rfl
theorem rr109 {ix : Nat} {x : Nat × Nat} (h : tref 10 ix = some x) : tref (own 109) ix = some x := by rw [ow109]; exact h
theorem td109 : tb_d 109 = 0 := rfl
theorem np109 : mnp 109 = 2 := rfl
theorem ml109 : mmaxL 109 = 4 := rfl
theorem rt109 : mret 109 = (some .long) := rfl
theorem mc110 : mcode 110 = cX10_pour := rfl
theorem m110 {pc : Nat} {i : Instr} {len : Nat} (h : decode cX10_pour pc = .ok (i, len)) : decode (mcode 110) pc = .ok (i, len) := by rw [mc110]; exact h
theorem ow110 : own 110 = 10 := rfl
theorem rr110 {ix : Nat} {x : Nat × Nat} (h : tref 10 ix = some x) : tref (own 110) ix = some x := by rw [ow110]; exact h
theorem td110 : tb_d 110 = 0 := rfl
theorem np110 : mnp 110 = 5 := rfl
theorem ml110 : mmaxL 110 = 8 := rfl
theorem rt110 : mret 110 = (some .boolean) := rfl
theorem mc111 : mcode 111 = cX10_feed := rfl
theorem m111 {pc : Nat} {i : Instr} {len : Nat} (h : decode cX10_feed pc = .ok (i, len)) : decode (mcode 111) pc = .ok (i, len) := by rw [mc111]; exact h
theorem ow111 : own 111 = 10 := rfl
theorem rr111 {ix : Nat} {x : Nat × Nat} (h : tref 10 ix = some x) : tref (own 111) ix = some x := by rw [ow111]; exact h
theorem td111 : tb_d 111 = 0 := rfl
theorem np111 : mnp 111 = 5 := rfl
theorem ml111 : mmaxL 111 = 6 := rfl
theorem rt111 : mret 111 = (some .int) := rfl
theorem mc112 : mcode 112 = cX10_school := rfl
theorem m112 {pc : Nat} {i : Instr} {len : Nat} (h : decode cX10_school pc = .ok (i, len)) : decode (mcode 112) pc = .ok (i, len) := by rw [mc112]; exact h
theorem ow112 : own 112 = 10 := rfl
theorem rr112 {ix : Nat} {x : Nat × Nat} (h : tref 10 ix = some x) : tref (own 112) ix = some x := by rw [ow112]; exact h
theorem td112 : tb_d 112 = 0 := rfl
theorem np112 : mnp 112 = 1 := rfl
theorem ml112 : mmaxL 112 = 3 := rfl
theorem rt112 : mret 112 = (some .int) := rfl
theorem mc113 : mcode 113 = cX10_age := rfl
theorem m113 {pc : Nat} {i : Instr} {len : Nat} (h : decode cX10_age pc = .ok (i, len)) : decode (mcode 113) pc = .ok (i, len) := by rw [mc113]; exact h
theorem ow113 : own 113 = 10 := rfl
theorem rr113 {ix : Nat} {x : Nat × Nat} (h : tref 10 ix = some x) : tref (own 113) ix = some x := by rw [ow113]; exact h
theorem td113 : tb_d 113 = 0 := rfl
theorem np113 : mnp 113 = 1 := rfl
theorem ml113 : mmaxL 113 = 3 := rfl
theorem rt113 : mret 113 = (some .int) := rfl
theorem mc114 : mcode 114 = cX10_fault := rfl
theorem m114 {pc : Nat} {i : Instr} {len : Nat} (h : decode cX10_fault pc = .ok (i, len)) : decode (mcode 114) pc = .ok (i, len) := by rw [mc114]; exact h
theorem ow114 : own 114 = 10 := rfl
theorem rr114 {ix : Nat} {x : Nat × Nat} (h : tref 10 ix = some x) : tref (own 114) ix = some x := by rw [ow114]; exact h
theorem td114 : tb_d 114 = 0 := rfl
theorem np114 : mnp 114 = 1 := rfl
theorem ml114 : mmaxL 114 = 2 := rfl
theorem rt114 : mret 114 = (some .int) := rfl
theorem mc115 : mcode 115 = cX10_many := rfl
theorem m115 {pc : Nat} {i : Instr} {len : Nat} (h : decode cX10_many pc = .ok (i, len)) : decode (mcode 115) pc = .ok (i, len) := by rw [mc115]; exact h
theorem ow115 : own 115 = 10 := rfl
theorem rr115 {ix : Nat} {x : Nat × Nat} (h : tref 10 ix = some x) : tref (own 115) ix = some x := by rw [ow115]; exact h
theorem td115 : tb_d 115 = 0 := rfl
theorem np115 : mnp 115 = 1 := rfl
theorem ml115 : mmaxL 115 = 2 := rfl
theorem rt115 : mret 115 = (some .int) := rfl
theorem mc116 : mcode 116 = cX10_lesson := rfl
theorem m116 {pc : Nat} {i : Instr} {len : Nat} (h : decode cX10_lesson pc = .ok (i, len)) : decode (mcode 116) pc = .ok (i, len) := by rw [mc116]; exact h
theorem ow116 : own 116 = 10 := rfl
theorem rr116 {ix : Nat} {x : Nat × Nat} (h : tref 10 ix = some x) : tref (own 116) ix = some x := by rw [ow116]; exact h
theorem td116 : tb_d 116 = 0 := rfl
theorem np116 : mnp 116 = 2 := rfl
theorem ml116 : mmaxL 116 = 4 := rfl
theorem rt116 : mret 116 = (some .int) := rfl
theorem mc117 : mcode 117 = cX10_child := rfl
theorem m117 {pc : Nat} {i : Instr} {len : Nat} (h : decode cX10_child pc = .ok (i, len)) : decode (mcode 117) pc = .ok (i, len) := by rw [mc117]; exact h
theorem ow117 : own 117 = 10 := rfl
theorem rr117 {ix : Nat} {x : Nat × Nat} (h : tref 10 ix = some x) : tref (own 117) ix = some x := by rw [ow117]; exact h
theorem td117 : tb_d 117 = 0 := rfl
theorem np117 : mnp 117 = 2 := rfl
theorem ml117 : mmaxL 117 = 4 := rfl
theorem rt117 : mret 117 = (some .int) := rfl
theorem mc118 : mcode 118 = cX10_letter := rfl
theorem m118 {pc : Nat} {i : Instr} {len : Nat} (h : decode cX10_letter pc = .ok (i, len)) : decode (mcode 118) pc = .ok (i, len) := by rw [mc118]; exact h
theorem ow118 : own 118 = 10 := rfl
theorem rr118 {ix : Nat} {x : Nat × Nat} (h : tref 10 ix = some x) : tref (own 118) ix = some x := by rw [ow118]; exact h
theorem td118 : tb_d 118 = 0 := rfl
theorem np118 : mnp 118 = 3 := rfl
theorem ml118 : mmaxL 118 = 5 := rfl
theorem rt118 : mret 118 = (some .int) := rfl
theorem mc119 : mcode 119 = cX10_teaches := rfl
theorem m119 {pc : Nat} {i : Instr} {len : Nat} (h : decode cX10_teaches pc = .ok (i, len)) : decode (mcode 119) pc = .ok (i, len) := by rw [mc119]; exact h
theorem ow119 : own 119 = 10 := rfl
theorem rr119 {ix : Nat} {x : Nat × Nat} (h : tref 10 ix = some x) : tref (own 119) ix = some x := by rw [ow119]; exact h
theorem td119 : tb_d 119 = 0 := rfl
theorem np119 : mnp 119 = 1 := rfl
theorem ml119 : mmaxL 119 = 4 := rfl
theorem rt119 : mret 119 = (some .int) := rfl
theorem mc120 : mcode 120 = cX10_copyName := rfl
theorem m120 {pc : Nat} {i : Instr} {len : Nat} (h : decode cX10_copyName pc = .ok (i, len)) : decode (mcode 120) pc = .ok (i, len) := by rw [mc120]; exact h
theorem ow120 : own 120 = 10 := rfl
theorem rr120 {ix : Nat} {x : Nat × Nat} (h : tref 10 ix = some x) : tref (own 120) ix = some x := by rw [ow120]; exact h
theorem td120 : tb_d 120 = 0 := rfl
theorem np120 : mnp 120 = 2 := rfl
theorem ml120 : mmaxL 120 = 6 := rfl
theorem rt120 : mret 120 = (some .int) := rfl
theorem mc121 : mcode 121 = cX10_learn := rfl
theorem m121 {pc : Nat} {i : Instr} {len : Nat} (h : decode cX10_learn pc = .ok (i, len)) : decode (mcode 121) pc = .ok (i, len) := by rw [mc121]; exact h
theorem ow121 : own 121 = 10 := rfl
theorem rr121 {ix : Nat} {x : Nat × Nat} (h : tref 10 ix = some x) : tref (own 121) ix = some x := by rw [ow121]; exact h
theorem td121 : tb_d 121 = 0 := rfl
theorem np121 : mnp 121 = 2 := rfl
theorem ml121 : mmaxL 121 = 4 := rfl
theorem rt121 : mret 121 = (some .int) := rfl
theorem mc122 : mcode 122 = cX10_lose := rfl
theorem m122 {pc : Nat} {i : Instr} {len : Nat} (h : decode cX10_lose pc = .ok (i, len)) : decode (mcode 122) pc = .ok (i, len) := by rw [mc122]; exact h
theorem ow122 : own 122 = 10 := rfl
theorem rr122 {ix : Nat} {x : Nat × Nat} (h : tref 10 ix = some x) : tref (own 122) ix = some x := by rw [ow122]; exact h
theorem td122 : tb_d 122 = 0 := rfl
theorem np122 : mnp 122 = 2 := rfl
theorem ml122 : mmaxL 122 = 4 := rfl
theorem rt122 : mret 122 = (some .int) := rfl
theorem mc123 : mcode 123 = cX10_rest := rfl
theorem m123 {pc : Nat} {i : Instr} {len : Nat} (h : decode cX10_rest pc = .ok (i, len)) : decode (mcode 123) pc = .ok (i, len) := by rw [mc123]; exact h
theorem ow123 : own 123 = 10 := rfl
theorem rr123 {ix : Nat} {x : Nat × Nat} (h : tref 10 ix = some x) : tref (own 123) ix = some x := by rw [ow123]; exact h
theorem td123 : tb_d 123 = 0 := rfl
theorem np123 : mnp 123 = 2 := rfl
theorem ml123 : mmaxL 123 = 4 := rfl
theorem rt123 : mret 123 = (some .int) := rfl
theorem mc124 : mcode 124 = cX10_pay := rfl
theorem m124 {pc : Nat} {i : Instr} {len : Nat} (h : decode cX10_pay pc = .ok (i, len)) : decode (mcode 124) pc = .ok (i, len) := by rw [mc124]; exact h
theorem ow124 : own 124 = 10 := rfl
theorem rr124 {ix : Nat} {x : Nat × Nat} (h : tref 10 ix = some x) : tref (own 124) ix = some x := by rw [ow124]; exact h
theorem td124 : tb_d 124 = 0 := rfl
theorem np124 : mnp 124 = 2 := rfl
theorem ml124 : mmaxL 124 = 4 := rfl
theorem rt124 : mret 124 = (some .int) := rfl
theorem mc125 : mcode 125 = cX10_ready := rfl
theorem m125 {pc : Nat} {i : Instr} {len : Nat} (h : decode cX10_ready pc = .ok (i, len)) : decode (mcode 125) pc = .ok (i, len) := by rw [mc125]; exact h
theorem ow125 : own 125 = 10 := rfl
theorem rr125 {ix : Nat} {x : Nat × Nat} (h : tref 10 ix = some x) : tref (own 125) ix = some x := by rw [ow125]; exact h
theorem td125 : tb_d 125 = 0 := rfl
theorem np125 : mnp 125 = 2 := rfl
theorem ml125 : mmaxL 125 = 3 := rfl
theorem rt125 : mret 125 = (some .int) := rfl
theorem mc126 : mcode 126 = cX10_takes := rfl
theorem m126 {pc : Nat} {i : Instr} {len : Nat} (h : decode cX10_takes pc = .ok (i, len)) : decode (mcode 126) pc = .ok (i, len) := by rw [mc126]; exact h
theorem ow126 : own 126 = 10 := rfl
theorem rr126 {ix : Nat} {x : Nat × Nat} (h : tref 10 ix = some x) : tref (own 126) ix = some x := by rw [ow126]; exact h
theorem td126 : tb_d 126 = 0 := rfl
theorem np126 : mnp 126 = 2 := rfl
theorem ml126 : mmaxL 126 = 3 := rfl
theorem rt126 : mret 126 = (some .int) := rfl
theorem mc127 : mcode 127 = cX10_opens := rfl
theorem m127 {pc : Nat} {i : Instr} {len : Nat} (h : decode cX10_opens pc = .ok (i, len)) : decode (mcode 127) pc = .ok (i, len) := by rw [mc127]; exact h
theorem ow127 : own 127 = 10 := rfl
theorem rr127 {ix : Nat} {x : Nat × Nat} (h : tref 10 ix = some x) : tref (own 127) ix = some x := by rw [ow127]; exact h
theorem td127 : tb_d 127 = 0 := rfl
theorem np127 : mnp 127 = 2 := rfl
theorem ml127 : mmaxL 127 = 7 := rfl
theorem rt127 : mret 127 = (some .int) := rfl
theorem mc128 : mcode 128 = cX10_choice := rfl
theorem m128 {pc : Nat} {i : Instr} {len : Nat} (h : decode cX10_choice pc = .ok (i, len)) : decode (mcode 128) pc = .ok (i, len) := by rw [mc128]; exact h
theorem ow128 : own 128 = 10 := rfl
theorem rr128 {ix : Nat} {x : Nat × Nat} (h : tref 10 ix = some x) : tref (own 128) ix = some x := by rw [ow128]; exact h
theorem td128 : tb_d 128 = 0 := rfl
theorem np128 : mnp 128 = 1 := rfl
theorem ml128 : mmaxL 128 = 2 := rfl
theorem rt128 : mret 128 = (some .int) := rfl
theorem mc129 : mcode 129 = cX10_said := rfl
theorem m129 {pc : Nat} {i : Instr} {len : Nat} (h : decode cX10_said pc = .ok (i, len)) : decode (mcode 129) pc = .ok (i, len) := by rw [mc129]; exact h
theorem ow129 : own 129 = 10 := rfl
theorem rr129 {ix : Nat} {x : Nat × Nat} (h : tref 10 ix = some x) : tref (own 129) ix = some x := by rw [ow129]; exact h
theorem td129 : tb_d 129 = 0 := rfl
theorem np129 : mnp 129 = 1 := rfl
theorem ml129 : mmaxL 129 = 2 := rfl
theorem rt129 : mret 129 = (some .int) := rfl
theorem mc130 : mcode 130 = cX10_stumbles := rfl
theorem m130 {pc : Nat} {i : Instr} {len : Nat} (h : decode cX10_stumbles pc = .ok (i, len)) : decode (mcode 130) pc = .ok (i, len) := by rw [mc130]; exact h
theorem ow130 : own 130 = 10 := rfl
theorem rr130 {ix : Nat} {x : Nat × Nat} (h : tref 10 ix = some x) : tref (own 130) ix = some x := by rw [ow130]; exact h
theorem td130 : tb_d 130 = 0 := rfl
theorem np130 : mnp 130 = 1 := rfl
theorem ml130 : mmaxL 130 = 2 := rfl
theorem rt130 : mret 130 = (some .int) := rfl
theorem mc131 : mcode 131 = cX10_drop := rfl
theorem m131 {pc : Nat} {i : Instr} {len : Nat} (h : decode cX10_drop pc = .ok (i, len)) : decode (mcode 131) pc = .ok (i, len) := by rw [mc131]; exact h
theorem ow131 : own 131 = 10 := rfl
theorem rr131 {ix : Nat} {x : Nat × Nat} (h : tref 10 ix = some x) : tref (own 131) ix = some x := by rw [ow131]; exact h
theorem td131 : tb_d 131 = 0 := rfl
theorem np131 : mnp 131 = 1 := rfl
theorem ml131 : mmaxL 131 = 3 := rfl
theorem rt131 : mret 131 = (some .int) := rfl
theorem mc132 : mcode 132 = cX10_firm := rfl
theorem m132 {pc : Nat} {i : Instr} {len : Nat} (h : decode cX10_firm pc = .ok (i, len)) : decode (mcode 132) pc = .ok (i, len) := by rw [mc132]; exact h
theorem ow132 : own 132 = 10 := rfl
theorem rr132 {ix : Nat} {x : Nat × Nat} (h : tref 10 ix = some x) : tref (own 132) ix = some x := by rw [ow132]; exact h
theorem td132 : tb_d 132 = 0 := rfl
theorem np132 : mnp 132 = 1 := rfl
theorem ml132 : mmaxL 132 = 3 := rfl
theorem rt132 : mret 132 = (some .int) := rfl
theorem mc133 : mcode 133 = cX10_weak := rfl
theorem m133 {pc : Nat} {i : Instr} {len : Nat} (h : decode cX10_weak pc = .ok (i, len)) : decode (mcode 133) pc = .ok (i, len) := by rw [mc133]; exact h
theorem ow133 : own 133 = 10 := rfl
theorem rr133 {ix : Nat} {x : Nat × Nat} (h : tref 10 ix = some x) : tref (own 133) ix = some x := by rw [ow133]; exact h
theorem td133 : tb_d 133 = 0 := rfl
theorem np133 : mnp 133 = 1 := rfl
theorem ml133 : mmaxL 133 = 2 := rfl
theorem rt133 : mret 133 = (some .int) := rfl
theorem mc134 : mcode 134 = cX10_vowels := rfl
theorem m134 {pc : Nat} {i : Instr} {len : Nat} (h : decode cX10_vowels pc = .ok (i, len)) : decode (mcode 134) pc = .ok (i, len) := by rw [mc134]; exact h
theorem ow134 : own 134 = 10 := rfl
theorem rr134 {ix : Nat} {x : Nat × Nat} (h : tref 10 ix = some x) : tref (own 134) ix = some x := by rw [ow134]; exact h
theorem td134 : tb_d 134 = 0 := rfl
theorem np134 : mnp 134 = 1 := rfl
theorem ml134 : mmaxL 134 = 5 := rfl
theorem rt134 : mret 134 = (some .int) := rfl
theorem mc135 : mcode 135 = cX10_rhyme := rfl
theorem m135 {pc : Nat} {i : Instr} {len : Nat} (h : decode cX10_rhyme pc = .ok (i, len)) : decode (mcode 135) pc = .ok (i, len) := by rw [mc135]; exact h
theorem ow135 : own 135 = 10 := rfl
theorem rr135 {ix : Nat} {x : Nat × Nat} (h : tref 10 ix = some x) : tref (own 135) ix = some x := by rw [ow135]; exact h
theorem td135 : tb_d 135 = 0 := rfl
theorem np135 : mnp 135 = 2 := rfl
theorem ml135 : mmaxL 135 = 4 := rfl
theorem rt135 : mret 135 = (some .int) := rfl
theorem mc136 : mcode 136 = cX10_apart := rfl
theorem m136 {pc : Nat} {i : Instr} {len : Nat} (h : decode cX10_apart pc = .ok (i, len)) : decode (mcode 136) pc = .ok (i, len) := by rw [mc136]; exact h
theorem ow136 : own 136 = 10 := rfl
theorem rr136 {ix : Nat} {x : Nat × Nat} (h : tref 10 ix = some x) : tref (own 136) ix = some x := by rw [ow136]; exact h
theorem td136 : tb_d 136 = 0 := rfl
theorem np136 : mnp 136 = 2 := rfl
theorem ml136 : mmaxL 136 = 4 := rfl
theorem rt136 : mret 136 = (some .int) := rfl
theorem mc137 : mcode 137 = cX10_behind := rfl
theorem m137 {pc : Nat} {i : Instr} {len : Nat} (h : decode cX10_behind pc = .ok (i, len)) : decode (mcode 137) pc = .ok (i, len) := by rw [mc137]; exact h
theorem ow137 : own 137 = 10 := rfl
theorem rr137 {ix : Nat} {x : Nat × Nat} (h : tref 10 ix = some x) : tref (own 137) ix = some x := by rw [ow137]; exact h
theorem td137 : tb_d 137 = 0 := rfl
theorem np137 : mnp 137 = 2 := rfl
theorem ml137 : mmaxL 137 = 7 := rfl
theorem rt137 : mret 137 = (some .int) := rfl
theorem mc138 : mcode 138 = cX10_life := rfl
theorem m138 {pc : Nat} {i : Instr} {len : Nat} (h : decode cX10_life pc = .ok (i, len)) : decode (mcode 138) pc = .ok (i, len) := by rw [mc138]; exact h
theorem ow138 : own 138 = 10 := rfl
theorem rr138 {ix : Nat} {x : Nat × Nat} (h : tref 10 ix = some x) : tref (own 138) ix = some x := by rw [ow138]; exact h
theorem td138 : tb_d 138 = 0 := rfl
theorem np138 : mnp 138 = 2 := rfl
theorem ml138 : mmaxL 138 = 5 := rfl
theorem rt138 : mret 138 = (some .int) := rfl
theorem mc139 : mcode 139 = cX10_soonest := rfl
theorem m139 {pc : Nat} {i : Instr} {len : Nat} (h : decode cX10_soonest pc = .ok (i, len)) : decode (mcode 139) pc = .ok (i, len) := by rw [mc139]; exact h
theorem ow139 : own 139 = 10 := rfl
theorem rr139 {ix : Nat} {x : Nat × Nat} (h : tref 10 ix = some x) : tref (own 139) ix = some x := by rw [ow139]; exact h
theorem td139 : tb_d 139 = 0 := rfl
theorem np139 : mnp 139 = 2 := rfl
theorem ml139 : mmaxL 139 = 4 := rfl
theorem rt139 : mret 139 = (some .int) := rfl
theorem mc140 : mcode 140 = cX10_cheapest := rfl
theorem m140 {pc : Nat} {i : Instr} {len : Nat} (h : decode cX10_cheapest pc = .ok (i, len)) : decode (mcode 140) pc = .ok (i, len) := by rw [mc140]; exact h
theorem ow140 : own 140 = 10 := rfl
theorem rr140 {ix : Nat} {x : Nat × Nat} (h : tref 10 ix = some x) : tref (own 140) ix = some x := by rw [ow140]; exact h
theorem td140 : tb_d 140 = 0 := rfl
theorem np140 : mnp 140 = 2 := rfl
theorem ml140 : mmaxL 140 = 4 := rfl
theorem rt140 : mret 140 = (some .int) := rfl
theorem mc141 : mcode 141 = cX10_ways := rfl
theorem m141 {pc : Nat} {i : Instr} {len : Nat} (h : decode cX10_ways pc = .ok (i, len)) : decode (mcode 141) pc = .ok (i, len) := by rw [mc141]; exact h
theorem ow141 : own 141 = 10 := rfl
theorem rr141 {ix : Nat} {x : Nat × Nat} (h : tref 10 ix = some x) : tref (own 141) ix = some x := by rw [ow141]; exact h
theorem td141 : tb_d 141 = 0 := rfl
theorem np141 : mnp 141 = 2 := rfl
theorem ml141 : mmaxL 141 = 4 := rfl
theorem rt141 : mret 141 = (some .long) := rfl
theorem mc142 : mcode 142 = cX10_first := rfl
theorem m142 {pc : Nat} {i : Instr} {len : Nat} (h : decode cX10_first pc = .ok (i, len)) : decode (mcode 142) pc = .ok (i, len) := by rw [mc142]; exact h
theorem ow142 : own 142 = 10 := rfl
theorem rr142 {ix : Nat} {x : Nat × Nat} (h : tref 10 ix = some x) : tref (own 142) ix = some x := by rw [ow142]; exact h
theorem td142 : tb_d 142 = 0 := rfl
theorem np142 : mnp 142 = 2 := rfl
theorem ml142 : mmaxL 142 = 4 := rfl
theorem rt142 : mret 142 = (some .int) := rfl
theorem mc143 : mcode 143 = cX10_firstAt := rfl
theorem m143 {pc : Nat} {i : Instr} {len : Nat} (h : decode cX10_firstAt pc = .ok (i, len)) : decode (mcode 143) pc = .ok (i, len) := by rw [mc143]; exact h
theorem ow143 : own 143 = 10 := rfl
theorem rr143 {ix : Nat} {x : Nat × Nat} (h : tref 10 ix = some x) : tref (own 143) ix = some x := by rw [ow143]; exact h
theorem td143 : tb_d 143 = 0 := rfl
theorem np143 : mnp 143 = 1 := rfl
theorem ml143 : mmaxL 143 = 2 := rfl
theorem rt143 : mret 143 = (some .int) := rfl
theorem mc144 : mcode 144 = cX10_goes := rfl
theorem m144 {pc : Nat} {i : Instr} {len : Nat} (h : decode cX10_goes pc = .ok (i, len)) : decode (mcode 144) pc = .ok (i, len) := by rw [mc144]; exact h
theorem ow144 : own 144 = 10 := rfl
theorem rr144 {ix : Nat} {x : Nat × Nat} (h : tref 10 ix = some x) : tref (own 144) ix = some x := by rw [ow144]; exact h
theorem td144 : tb_d 144 = 0 := rfl
theorem np144 : mnp 144 = 2 := rfl
theorem ml144 : mmaxL 144 = 4 := rfl
theorem rt144 : mret 144 = (some .int) := rfl
theorem mc145 : mcode 145 = cX10_lives := rfl
theorem m145 {pc : Nat} {i : Instr} {len : Nat} (h : decode cX10_lives pc = .ok (i, len)) : decode (mcode 145) pc = .ok (i, len) := by rw [mc145]; exact h
theorem ow145 : own 145 = 10 := rfl
theorem rr145 {ix : Nat} {x : Nat × Nat} (h : tref 10 ix = some x) : tref (own 145) ix = some x := by rw [ow145]; exact h
theorem td145 : tb_d 145 = 0 := rfl
theorem np145 : mnp 145 = 1 := rfl
theorem ml145 : mmaxL 145 = 2 := rfl
theorem rt145 : mret 145 = (some .long) := rfl
theorem mc146 : mcode 146 = cX10_orders := rfl
theorem m146 {pc : Nat} {i : Instr} {len : Nat} (h : decode cX10_orders pc = .ok (i, len)) : decode (mcode 146) pc = .ok (i, len) := by rw [mc146]; exact h
theorem ow146 : own 146 = 10 := rfl
theorem rr146 {ix : Nat} {x : Nat × Nat} (h : tref 10 ix = some x) : tref (own 146) ix = some x := by rw [ow146]; exact h
theorem td146 : tb_d 146 = 0 := rfl
theorem np146 : mnp 146 = 1 := rfl
theorem ml146 : mmaxL 146 = 2 := rfl
theorem rt146 : mret 146 = (some .long) := rfl
theorem mc147 : mcode 147 = cX10_reach := rfl
theorem m147 {pc : Nat} {i : Instr} {len : Nat} (h : decode cX10_reach pc = .ok (i, len)) : decode (mcode 147) pc = .ok (i, len) := by rw [mc147]; exact h
theorem ow147 : own 147 = 10 := rfl
theorem rr147 {ix : Nat} {x : Nat × Nat} (h : tref 10 ix = some x) : tref (own 147) ix = some x := by rw [ow147]; exact h
theorem td147 : tb_d 147 = 0 := rfl
theorem np147 : mnp 147 = 1 := rfl
theorem ml147 : mmaxL 147 = 2 := rfl
theorem rt147 : mret 147 = (some .int) := rfl
theorem mc148 : mcode 148 = cX10_sayable := rfl
theorem m148 {pc : Nat} {i : Instr} {len : Nat} (h : decode cX10_sayable pc = .ok (i, len)) : decode (mcode 148) pc = .ok (i, len) := by rw [mc148]; exact h
theorem ow148 : own 148 = 10 := rfl
theorem rr148 {ix : Nat} {x : Nat × Nat} (h : tref 10 ix = some x) : tref (own 148) ix = some x := by rw [ow148]; exact h
theorem td148 : tb_d 148 = 0 := rfl
theorem np148 : mnp 148 = 1 := rfl
theorem ml148 : mmaxL 148 = 4 := rfl
theorem rt148 : mret 148 = (some .boolean) := rfl
theorem mc149 : mcode 149 = cX10_root := rfl
theorem m149 {pc : Nat} {i : Instr} {len : Nat} (h : decode cX10_root pc = .ok (i, len)) : decode (mcode 149) pc = .ok (i, len) := by rw [mc149]; exact h
theorem ow149 : own 149 = 10 := rfl
theorem rr149 {ix : Nat} {x : Nat × Nat} (h : tref 10 ix = some x) : tref (own 149) ix = some x := by rw [ow149]; exact h
theorem td149 : tb_d 149 = 0 := rfl
theorem np149 : mnp 149 = 0 := rfl
theorem ml149 : mmaxL 149 = 5 := rfl
theorem rt149 : mret 149 = (some .int) := rfl
theorem mc150 : mcode 150 = cX10_plans := rfl
theorem m150 {pc : Nat} {i : Instr} {len : Nat} (h : decode cX10_plans pc = .ok (i, len)) : decode (mcode 150) pc = .ok (i, len) := by rw [mc150]; exact h
theorem ow150 : own 150 = 10 := rfl
theorem rr150 {ix : Nat} {x : Nat × Nat} (h : tref 10 ix = some x) : tref (own 150) ix = some x := by rw [ow150]; exact h
theorem td150 : tb_d 150 = 0 := rfl
theorem np150 : mnp 150 = 0 := rfl
theorem ml150 : mmaxL 150 = 3 := rfl
theorem rt150 : mret 150 = (some .int) := rfl
theorem mc151 : mcode 151 = cX10_waited := rfl
theorem m151 {pc : Nat} {i : Instr} {len : Nat} (h : decode cX10_waited pc = .ok (i, len)) : decode (mcode 151) pc = .ok (i, len) := by rw [mc151]; exact h
theorem ow151 : own 151 = 10 := rfl
theorem rr151 {ix : Nat} {x : Nat × Nat} (h : tref 10 ix = some x) : tref (own 151) ix = some x := by rw [ow151]; exact h
theorem td151 : tb_d 151 = 0 := rfl
theorem np151 : mnp 151 = 1 := rfl
theorem ml151 : mmaxL 151 = 2 := rfl
theorem rt151 : mret 151 = (some .int) := rfl
theorem mc152 : mcode 152 = cX10_began := rfl
theorem m152 {pc : Nat} {i : Instr} {len : Nat} (h : decode cX10_began pc = .ok (i, len)) : decode (mcode 152) pc = .ok (i, len) := by rw [mc152]; exact h
theorem ow152 : own 152 = 10 := rfl
theorem rr152 {ix : Nat} {x : Nat × Nat} (h : tref 10 ix = some x) : tref (own 152) ix = some x := by rw [ow152]; exact h
theorem td152 : tb_d 152 = 0 := rfl
theorem np152 : mnp 152 = 2 := rfl
theorem ml152 : mmaxL 152 = 3 := rfl
theorem rt152 : mret 152 = (some .int) := rfl
theorem mc153 : mcode 153 = cX10_live := rfl
theorem m153 {pc : Nat} {i : Instr} {len : Nat} (h : decode cX10_live pc = .ok (i, len)) : decode (mcode 153) pc = .ok (i, len) := by rw [mc153]; exact h
theorem ow153 : own 153 = 10 := rfl
theorem rr153 {ix : Nat} {x : Nat × Nat} (h : tref 10 ix = some x) : tref (own 153) ix = some x := by rw [ow153]; exact h
theorem td153 : tb_d 153 = 0 := rfl
theorem np153 : mnp 153 = 1 := rfl
theorem ml153 : mmaxL 153 = 2 := rfl
theorem rt153 : mret 153 = (some .int) := rfl
theorem mc154 : mcode 154 = cX10_lived := rfl
theorem m154 {pc : Nat} {i : Instr} {len : Nat} (h : decode cX10_lived pc = .ok (i, len)) : decode (mcode 154) pc = .ok (i, len) := by rw [mc154]; exact h
theorem ow154 : own 154 = 10 := rfl
theorem rr154 {ix : Nat} {x : Nat × Nat} (h : tref 10 ix = some x) : tref (own 154) ix = some x := by rw [ow154]; exact h
theorem td154 : tb_d 154 = 0 := rfl
theorem np154 : mnp 154 = 1 := rfl
theorem ml154 : mmaxL 154 = 2 := rfl
theorem rt154 : mret 154 = (some .int) := rfl
theorem mc155 : mcode 155 = cX10_odds := rfl
theorem m155 {pc : Nat} {i : Instr} {len : Nat} (h : decode cX10_odds pc = .ok (i, len)) : decode (mcode 155) pc = .ok (i, len) := by rw [mc155]; exact h
theorem ow155 : own 155 = 10 := rfl
theorem rr155 {ix : Nat} {x : Nat × Nat} (h : tref 10 ix = some x) : tref (own 155) ix = some x := by rw [ow155]; exact h
theorem td155 : tb_d 155 = 0 := rfl
theorem np155 : mnp 155 = 3 := rfl
theorem ml155 : mmaxL 155 = 6 := rfl
theorem rt155 : mret 155 = (some .boolean) := rfl
theorem mc156 : mcode 156 = cX10_mark := rfl
theorem m156 {pc : Nat} {i : Instr} {len : Nat} (h : decode cX10_mark pc = .ok (i, len)) : decode (mcode 156) pc = .ok (i, len) := by rw [mc156]; exact h
theorem ow156 : own 156 = 10 := rfl
theorem rr156 {ix : Nat} {x : Nat × Nat} (h : tref 10 ix = some x) : tref (own 156) ix = some x := by rw [ow156]; exact h
theorem td156 : tb_d 156 = 0 := rfl
theorem np156 : mnp 156 = 0 := rfl
theorem ml156 : mmaxL 156 = 1 := rfl
theorem rt156 : mret 156 = (some .int) := rfl
theorem mc157 : mcode 157 = cX10_back := rfl
theorem m157 {pc : Nat} {i : Instr} {len : Nat} (h : decode cX10_back pc = .ok (i, len)) : decode (mcode 157) pc = .ok (i, len) := by rw [mc157]; exact h
theorem ow157 : own 157 = 10 := rfl
theorem rr157 {ix : Nat} {x : Nat × Nat} (h : tref 10 ix = some x) : tref (own 157) ix = some x := by rw [ow157]; exact h
theorem td157 : tb_d 157 = 0 := rfl
theorem np157 : mnp 157 = 0 := rfl
theorem ml157 : mmaxL 157 = 1 := rfl
theorem rt157 : mret 157 = (some .int) := rfl
theorem mc158 : mcode 158 = cX10_answer := rfl
theorem m158 {pc : Nat} {i : Instr} {len : Nat} (h : decode cX10_answer pc = .ok (i, len)) : decode (mcode 158) pc = .ok (i, len) := by rw [mc158]; exact h
theorem ow158 : own 158 = 10 := rfl
theorem rr158 {ix : Nat} {x : Nat × Nat} (h : tref 10 ix = some x) : tref (own 158) ix = some x := by rw [ow158]; exact h
theorem td158 : tb_d 158 = 0 := rfl
theorem np158 : mnp 158 = 1 := rfl
theorem ml158 : mmaxL 158 = 2 := rfl
theorem rt158 : mret 158 = (some .int) := rfl
theorem mc159 : mcode 159 = cX10_refuse := rfl
theorem m159 {pc : Nat} {i : Instr} {len : Nat} (h : decode cX10_refuse pc = .ok (i, len)) : decode (mcode 159) pc = .ok (i, len) := by rw [mc159]; exact h
theorem ow159 : own 159 = 10 := rfl
theorem rr159 {ix : Nat} {x : Nat × Nat} (h : tref 10 ix = some x) : tref (own 159) ix = some x := by rw [ow159]; exact h
theorem td159 : tb_d 159 = 0 := rfl
theorem np159 : mnp 159 = 1 := rfl
theorem ml159 : mmaxL 159 = 2 := rfl
theorem rt159 : mret 159 = (some .int) := rfl
theorem mc160 : mcode 160 = cX10_answerIfThere := rfl
theorem m160 {pc : Nat} {i : Instr} {len : Nat} (h : decode cX10_answerIfThere pc = .ok (i, len)) : decode (mcode 160) pc = .ok (i, len) := by rw [mc160]; exact h
theorem ow160 : own 160 = 10 := rfl
theorem rr160 {ix : Nat} {x : Nat × Nat} (h : tref 10 ix = some x) : tref (own 160) ix = some x := by rw [ow160]; exact h
theorem td160 : tb_d 160 = 0 := rfl
theorem np160 : mnp 160 = 1 := rfl
theorem ml160 : mmaxL 160 = 2 := rfl
theorem rt160 : mret 160 = (some .int) := rfl
theorem mc161 : mcode 161 = cX10_agree := rfl
theorem m161 {pc : Nat} {i : Instr} {len : Nat} (h : decode cX10_agree pc = .ok (i, len)) : decode (mcode 161) pc = .ok (i, len) := by rw [mc161]; exact h
theorem ow161 : own 161 = 10 := rfl
theorem rr161 {ix : Nat} {x : Nat × Nat} (h : tref 10 ix = some x) : tref (own 161) ix = some x := by rw [ow161]; exact h
theorem td161 : tb_d 161 = 0 := rfl
theorem np161 : mnp 161 = 0 := rfl
theorem ml161 : mmaxL 161 = 1 := rfl
theorem rt161 : mret 161 = (some .boolean) := rfl
theorem mc162 : mcode 162 = cX10_deny := rfl
theorem m162 {pc : Nat} {i : Instr} {len : Nat} (h : decode cX10_deny pc = .ok (i, len)) : decode (mcode 162) pc = .ok (i, len) := by rw [mc162]; exact h
theorem ow162 : own 162 = 10 := rfl
theorem rr162 {ix : Nat} {x : Nat × Nat} (h : tref 10 ix = some x) : tref (own 162) ix = some x := by rw [ow162]; exact h
theorem td162 : tb_d 162 = 0 := rfl
theorem np162 : mnp 162 = 1 := rfl
theorem ml162 : mmaxL 162 = 2 := rfl
theorem rt162 : mret 162 = (some .boolean) := rfl
theorem mc163 : mcode 163 = cX10_keepFault := rfl
theorem m163 {pc : Nat} {i : Instr} {len : Nat} (h : decode cX10_keepFault pc = .ok (i, len)) : decode (mcode 163) pc = .ok (i, len) := by rw [mc163]; exact h
theorem ow163 : own 163 = 10 := rfl
theorem rr163 {ix : Nat} {x : Nat × Nat} (h : tref 10 ix = some x) : tref (own 163) ix = some x := by rw [ow163]; exact h
theorem td163 : tb_d 163 = 0 := rfl
theorem np163 : mnp 163 = 0 := rfl
theorem ml163 : mmaxL 163 = 1 := rfl
theorem rt163 : mret 163 = none := rfl
theorem mc164 : mcode 164 = cX10_tellFraction := rfl
theorem m164 {pc : Nat} {i : Instr} {len : Nat} (h : decode cX10_tellFraction pc = .ok (i, len)) : decode (mcode 164) pc = .ok (i, len) := by rw [mc164]; exact h
theorem ow164 : own 164 = 10 := rfl
theorem rr164 {ix : Nat} {x : Nat × Nat} (h : tref 10 ix = some x) : tref (own 164) ix = some x := by rw [ow164]; exact h
theorem td164 : tb_d 164 = 0 := rfl
theorem np164 : mnp 164 = 2 := rfl
theorem ml164 : mmaxL 164 = 12 := rfl
theorem rt164 : mret 164 = none := rfl
theorem mc165 : mcode 165 = cX10_isTray := rfl
theorem m165 {pc : Nat} {i : Instr} {len : Nat} (h : decode cX10_isTray pc = .ok (i, len)) : decode (mcode 165) pc = .ok (i, len) := by rw [mc165]; exact h
theorem ow165 : own 165 = 10 := rfl
theorem rr165 {ix : Nat} {x : Nat × Nat} (h : tref 10 ix = some x) : tref (own 165) ix = some x := by rw [ow165]; exact h
theorem td165 : tb_d 165 = 1 := rfl
theorem np165 : mnp 165 = 1 := rfl
theorem ml165 : mmaxL 165 = 1 := rfl
theorem rt165 : mret 165 = (some .boolean) := rfl
theorem mc166 : mcode 166 = cX10_askPlace := rfl
theorem m166 {pc : Nat} {i : Instr} {len : Nat} (h : decode cX10_askPlace pc = .ok (i, len)) : decode (mcode 166) pc = .ok (i, len) := by rw [mc166]; exact h
theorem ow166 : own 166 = 10 := rfl
theorem rr166 {ix : Nat} {x : Nat × Nat} (h : tref 10 ix = some x) : tref (own 166) ix = some x := by rw [ow166]; exact h
theorem td166 : tb_d 166 = 0 := rfl
theorem np166 : mnp 166 = 2 := rfl
theorem ml166 : mmaxL 166 = 3 := rfl
theorem rt166 : mret 166 = (some .int) := rfl
theorem mc167 : mcode 167 = cX10_askRow := rfl
theorem m167 {pc : Nat} {i : Instr} {len : Nat} (h : decode cX10_askRow pc = .ok (i, len)) : decode (mcode 167) pc = .ok (i, len) := by rw [mc167]; exact h
theorem ow167 : own 167 = 10 := rfl
theorem rr167 {ix : Nat} {x : Nat × Nat} (h : tref 10 ix = some x) : tref (own 167) ix = some x := by rw [ow167]; exact h
theorem td167 : tb_d 167 = 0 := rfl
theorem np167 : mnp 167 = 3 := rfl
theorem ml167 : mmaxL 167 = 4 := rfl
theorem rt167 : mret 167 = (some .int) := rfl
theorem mc168 : mcode 168 = cX10_askTold := rfl
theorem m168 {pc : Nat} {i : Instr} {len : Nat} (h : decode cX10_askTold pc = .ok (i, len)) : decode (mcode 168) pc = .ok (i, len) := by rw [mc168]; exact h
theorem ow168 : own 168 = 10 := rfl
theorem rr168 {ix : Nat} {x : Nat × Nat} (h : tref 10 ix = some x) : tref (own 168) ix = some x := by rw [ow168]; exact h
theorem td168 : tb_d 168 = 0 := rfl
theorem np168 : mnp 168 = 2 := rfl
theorem ml168 : mmaxL 168 = 4 := rfl
theorem rt168 : mret 168 = (some .int) := rfl
theorem mc169 : mcode 169 = cX10_askTwo := rfl
theorem m169 {pc : Nat} {i : Instr} {len : Nat} (h : decode cX10_askTwo pc = .ok (i, len)) : decode (mcode 169) pc = .ok (i, len) := by rw [mc169]; exact h
theorem ow169 : own 169 = 10 := rfl
theorem rr169 {ix : Nat} {x : Nat × Nat} (h : tref 10 ix = some x) : tref (own 169) ix = some x := by rw [ow169]; exact h
theorem td169 : tb_d 169 = 0 := rfl
theorem np169 : mnp 169 = 2 := rfl
theorem ml169 : mmaxL 169 = 3 := rfl
theorem rt169 : mret 169 = (some .int) := rfl
theorem mc170 : mcode 170 = cX10_askPlan := rfl
theorem m170 {pc : Nat} {i : Instr} {len : Nat} (h : decode cX10_askPlan pc = .ok (i, len)) : decode (mcode 170) pc = .ok (i, len) := by rw [mc170]; exact h
theorem ow170 : own 170 = 10 := rfl
theorem rr170 {ix : Nat} {x : Nat × Nat} (h : tref 10 ix = some x) : tref (own 170) ix = some x := by rw [ow170]; exact h
theorem td170 : tb_d 170 = 0 := rfl
theorem np170 : mnp 170 = 2 := rfl
theorem ml170 : mmaxL 170 = 3 := rfl
theorem rt170 : mret 170 = (some .int) := rfl
theorem mc171 : mcode 171 = cX11_init := rfl
theorem m171 {pc : Nat} {i : Instr} {len : Nat} (h : decode cX11_init pc = .ok (i, len)) : decode (mcode 171) pc = .ok (i, len) := by rw [mc171]; exact h
theorem ow171 : own 171 = 11 := rfl
theorem rr171 {ix : Nat} {x : Nat × Nat} (h : tref 11 ix = some x) : tref (own 171) ix = some x := by rw [ow171]; exact h
theorem td171 : tb_d 171 = 2 := rfl
theorem np171 : mnp 171 = 0 := rfl
theorem ml171 : mmaxL 171 = 2 := rfl
theorem rt171 : mret 171 = none := rfl
theorem mc172 : mcode 172 = cX11_status := rfl
theorem m172 {pc : Nat} {i : Instr} {len : Nat} (h : decode cX11_status pc = .ok (i, len)) : decode (mcode 172) pc = .ok (i, len) := by rw [mc172]; exact h
theorem ow172 : own 172 = 11 := rfl
theorem rr172 {ix : Nat} {x : Nat × Nat} (h : tref 11 ix = some x) : tref (own 172) ix = some x := by rw [ow172]; exact h
theorem td172 : tb_d 172 = 0 := rfl
theorem np172 : mnp 172 = 0 := rfl
theorem ml172 : mmaxL 172 = 1 := rfl
theorem rt172 : mret 172 = (some .int) := rfl
theorem mc173 : mcode 173 = cX11_top := rfl
theorem m173 {pc : Nat} {i : Instr} {len : Nat} (h : decode cX11_top pc = .ok (i, len)) : decode (mcode 173) pc = .ok (i, len) := by rw [mc173]; exact h
theorem ow173 : own 173 = 11 := rfl
theorem rr173 {ix : Nat} {x : Nat × Nat} (h : tref 11 ix = some x) : tref (own 173) ix = some x := by rw [ow173]; exact h
theorem td173 : tb_d 173 = 0 := rfl
theorem np173 : mnp 173 = 0 := rfl
theorem ml173 : mmaxL 173 = 1 := rfl
theorem rt173 : mret 173 = (some .long) := rfl
theorem mc174 : mcode 174 = cX11_bottom := rfl
theorem m174 {pc : Nat} {i : Instr} {len : Nat} (h : decode cX11_bottom pc = .ok (i, len)) : decode (mcode 174) pc = .ok (i, len) := by rw [mc174]; exact h
theorem ow174 : own 174 = 11 := rfl
theorem rr174 {ix : Nat} {x : Nat × Nat} (h : tref 11 ix = some x) : tref (own 174) ix = some x := by rw [ow174]; exact h
theorem td174 : tb_d 174 = 0 := rfl
theorem np174 : mnp 174 = 0 := rfl
theorem ml174 : mmaxL 174 = 1 := rfl
theorem rt174 : mret 174 = (some .long) := rfl
theorem mc175 : mcode 175 = cX11_refuse := rfl
theorem m175 {pc : Nat} {i : Instr} {len : Nat} (h : decode cX11_refuse pc = .ok (i, len)) : decode (mcode 175) pc = .ok (i, len) := by rw [mc175]; exact h
theorem ow175 : own 175 = 11 := rfl
theorem rr175 {ix : Nat} {x : Nat × Nat} (h : tref 11 ix = some x) : tref (own 175) ix = some x := by rw [ow175]; exact h
theorem td175 : tb_d 175 = 0 := rfl
theorem np175 : mnp 175 = 1 := rfl
theorem ml175 : mmaxL 175 = 2 := rfl
theorem rt175 : mret 175 = (some .int) := rfl
theorem mc176 : mcode 176 = cX11_no := rfl
theorem m176 {pc : Nat} {i : Instr} {len : Nat} (h : decode cX11_no pc = .ok (i, len)) : decode (mcode 176) pc = .ok (i, len) := by rw [mc176]; exact h
theorem ow176 : own 176 = 11 := rfl
theorem rr176 {ix : Nat} {x : Nat × Nat} (h : tref 11 ix = some x) : tref (own 176) ix = some x := by rw [ow176]; exact h
theorem td176 : tb_d 176 = 0 := rfl
theorem np176 : mnp 176 = 1 := rfl
theorem ml176 : mmaxL 176 = 2 := rfl
theorem rt176 : mret 176 = (some .boolean) := rfl
theorem mc177 : mcode 177 = cX11_isIn := rfl
theorem m177 {pc : Nat} {i : Instr} {len : Nat} (h : decode cX11_isIn pc = .ok (i, len)) : decode (mcode 177) pc = .ok (i, len) := by rw [mc177]; exact h
theorem ow177 : own 177 = 11 := rfl
theorem rr177 {ix : Nat} {x : Nat × Nat} (h : tref 11 ix = some x) : tref (own 177) ix = some x := by rw [ow177]; exact h
theorem td177 : tb_d 177 = 1 := rfl
theorem np177 : mnp 177 = 3 := rfl
theorem ml177 : mmaxL 177 = 6 := rfl
theorem rt177 : mret 177 = (some .boolean) := rfl
theorem mc178 : mcode 178 = cX11_fraction := rfl
theorem m178 {pc : Nat} {i : Instr} {len : Nat} (h : decode cX11_fraction pc = .ok (i, len)) : decode (mcode 178) pc = .ok (i, len) := by rw [mc178]; exact h
theorem ow178 : own 178 = 11 := rfl
theorem rr178 {ix : Nat} {x : Nat × Nat} (h : tref 11 ix = some x) : tref (own 178) ix = some x := by rw [ow178]; exact h
theorem td178 : tb_d 178 = 0 := rfl
theorem np178 : mnp 178 = 2 := rfl
theorem ml178 : mmaxL 178 = 11 := rfl
theorem rt178 : mret 178 = (some .boolean) := rfl
theorem mc179 : mcode 179 = cX11_cut := rfl
theorem m179 {pc : Nat} {i : Instr} {len : Nat} (h : decode cX11_cut pc = .ok (i, len)) : decode (mcode 179) pc = .ok (i, len) := by rw [mc179]; exact h
theorem ow179 : own 179 = 11 := rfl
theorem rr179 {ix : Nat} {x : Nat × Nat} (h : tref 11 ix = some x) : tref (own 179) ix = some x := by rw [ow179]; exact h
theorem td179 : tb_d 179 = 1 := rfl
theorem np179 : mnp 179 = 2 := rfl
theorem ml179 : mmaxL 179 = 3 := rfl
theorem rt179 : mret 179 = (some .long) := rfl
theorem mc180 : mcode 180 = cX11_tray := rfl
theorem m180 {pc : Nat} {i : Instr} {len : Nat} (h : decode cX11_tray pc = .ok (i, len)) : decode (mcode 180) pc = .ok (i, len) := by rw [mc180]; exact h
theorem ow180 : own 180 = 11 := rfl
theorem rr180 {ix : Nat} {x : Nat × Nat} (h : tref 11 ix = some x) : tref (own 180) ix = some x := by rw [ow180]; exact h
theorem td180 : tb_d 180 = 0 := rfl
theorem np180 : mnp 180 = 3 := rfl
theorem ml180 : mmaxL 180 = 5 := rfl
theorem rt180 : mret 180 = (some .boolean) := rfl
theorem mc181 : mcode 181 = cX11_trayed := rfl
theorem m181 {pc : Nat} {i : Instr} {len : Nat} (h : decode cX11_trayed pc = .ok (i, len)) : decode (mcode 181) pc = .ok (i, len) := by rw [mc181]; exact h
theorem ow181 : own 181 = 11 := rfl
theorem rr181 {ix : Nat} {x : Nat × Nat} (h : tref 11 ix = some x) : tref (own 181) ix = some x := by rw [ow181]; exact h
theorem td181 : tb_d 181 = 0 := rfl
theorem np181 : mnp 181 = 1 := rfl
theorem ml181 : mmaxL 181 = 2 := rfl
theorem rt181 : mret 181 = (some .int) := rfl
theorem mc182 : mcode 182 = cX11_placed := rfl
theorem m182 {pc : Nat} {i : Instr} {len : Nat} (h : decode cX11_placed pc = .ok (i, len)) : decode (mcode 182) pc = .ok (i, len) := by rw [mc182]; exact h
theorem ow182 : own 182 = 11 := rfl
theorem rr182 {ix : Nat} {x : Nat × Nat} (h : tref 11 ix = some x) : tref (own 182) ix = some x := by rw [ow182]; exact h
theorem td182 : tb_d 182 = 0 := rfl
theorem np182 : mnp 182 = 2 := rfl
theorem ml182 : mmaxL 182 = 4 := rfl
theorem rt182 : mret 182 = (some .int) := rfl
theorem mc183 : mcode 183 = cX11_write := rfl
theorem m183 {pc : Nat} {i : Instr} {len : Nat} (h : decode cX11_write pc = .ok (i, len)) : decode (mcode 183) pc = .ok (i, len) := by rw [mc183]; exact h
theorem ow183 : own 183 = 11 := rfl
theorem rr183 {ix : Nat} {x : Nat × Nat} (h : tref 11 ix = some x) : tref (own 183) ix = some x := by rw [ow183]; exact h
theorem td183 : tb_d 183 = 0 := rfl
theorem np183 : mnp 183 = 3 := rfl
theorem ml183 : mmaxL 183 = 5 := rfl
theorem rt183 : mret 183 = (some .boolean) := rfl
theorem mc184 : mcode 184 = cX11_read := rfl
theorem m184 {pc : Nat} {i : Instr} {len : Nat} (h : decode cX11_read pc = .ok (i, len)) : decode (mcode 184) pc = .ok (i, len) := by rw [mc184]; exact h
theorem ow184 : own 184 = 11 := rfl
theorem rr184 {ix : Nat} {x : Nat × Nat} (h : tref 11 ix = some x) : tref (own 184) ix = some x := by rw [ow184]; exact h
theorem td184 : tb_d 184 = 0 := rfl
theorem np184 : mnp 184 = 2 := rfl
theorem ml184 : mmaxL 184 = 3 := rfl
theorem rt184 : mret 184 = (some .long) := rfl
theorem mc185 : mcode 185 = cX11_pour := rfl
theorem m185 {pc : Nat} {i : Instr} {len : Nat} (h : decode cX11_pour pc = .ok (i, len)) : decode (mcode 185) pc = .ok (i, len) := by rw [mc185]; exact h
theorem ow185 : own 185 = 11 := rfl
theorem rr185 {ix : Nat} {x : Nat × Nat} (h : tref 11 ix = some x) : tref (own 185) ix = some x := by rw [ow185]; exact h
theorem td185 : tb_d 185 = 0 := rfl
theorem np185 : mnp 185 = 5 := rfl
theorem ml185 : mmaxL 185 = 9 := rfl
theorem rt185 : mret 185 = (some .boolean) := rfl
theorem mc186 : mcode 186 = cX11_numberOf := rfl
theorem m186 {pc : Nat} {i : Instr} {len : Nat} (h : decode cX11_numberOf pc = .ok (i, len)) : decode (mcode 186) pc = .ok (i, len) := by rw [mc186]; exact h
theorem ow186 : own 186 = 11 := rfl
theorem rr186 {ix : Nat} {x : Nat × Nat} (h : tref 11 ix = some x) : tref (own 186) ix = some x := by rw [ow186]; exact h
theorem td186 : tb_d 186 = 0 := rfl
theorem np186 : mnp 186 = 2 := rfl
theorem ml186 : mmaxL 186 = 3 := rfl
theorem rt186 : mret 186 = (some .long) := rfl
theorem mc187 : mcode 187 = cX11_isTray := rfl
theorem m187 {pc : Nat} {i : Instr} {len : Nat} (h : decode cX11_isTray pc = .ok (i, len)) : decode (mcode 187) pc = .ok (i, len) := by rw [mc187]; exact h
theorem ow187 : own 187 = 11 := rfl
theorem rr187 {ix : Nat} {x : Nat × Nat} (h : tref 11 ix = some x) : tref (own 187) ix = some x := by rw [ow187]; exact h
theorem td187 : tb_d 187 = 0 := rfl
theorem np187 : mnp 187 = 1 := rfl
theorem ml187 : mmaxL 187 = 2 := rfl
theorem rt187 : mret 187 = (some .boolean) := rfl
theorem mc188 : mcode 188 = cX11_has := rfl
theorem m188 {pc : Nat} {i : Instr} {len : Nat} (h : decode cX11_has pc = .ok (i, len)) : decode (mcode 188) pc = .ok (i, len) := by rw [mc188]; exact h
theorem ow188 : own 188 = 11 := rfl
theorem rr188 {ix : Nat} {x : Nat × Nat} (h : tref 11 ix = some x) : tref (own 188) ix = some x := by rw [ow188]; exact h
theorem td188 : tb_d 188 = 1 := rfl
theorem np188 : mnp 188 = 2 := rfl
theorem ml188 : mmaxL 188 = 2 := rfl
theorem rt188 : mret 188 = (some .boolean) := rfl
theorem mc189 : mcode 189 = cX11_look2 := rfl
theorem m189 {pc : Nat} {i : Instr} {len : Nat} (h : decode cX11_look2 pc = .ok (i, len)) : decode (mcode 189) pc = .ok (i, len) := by rw [mc189]; exact h
theorem ow189 : own 189 = 11 := rfl
theorem rr189 {ix : Nat} {x : Nat × Nat} (h : tref 11 ix = some x) : tref (own 189) ix = some x := by rw [ow189]; exact h
theorem td189 : tb_d 189 = 0 := rfl
theorem np189 : mnp 189 = 1 := rfl
theorem ml189 : mmaxL 189 = 2 := rfl
theorem rt189 : mret 189 = (some .int) := rfl
theorem mc190 : mcode 190 = cX11_isLetter := rfl
theorem m190 {pc : Nat} {i : Instr} {len : Nat} (h : decode cX11_isLetter pc = .ok (i, len)) : decode (mcode 190) pc = .ok (i, len) := by rw [mc190]; exact h
theorem ow190 : own 190 = 11 := rfl
theorem rr190 {ix : Nat} {x : Nat × Nat} (h : tref 11 ix = some x) : tref (own 190) ix = some x := by rw [ow190]; exact h
theorem td190 : tb_d 190 = 1 := rfl
theorem np190 : mnp 190 = 1 := rfl
theorem ml190 : mmaxL 190 = 1 := rfl
theorem rt190 : mret 190 = (some .boolean) := rfl
theorem mc191 : mcode 191 = cX11_isDigit := rfl
theorem m191 {pc : Nat} {i : Instr} {len : Nat} (h : decode cX11_isDigit pc = .ok (i, len)) : decode (mcode 191) pc = .ok (i, len) := by rw [mc191]; exact h
theorem ow191 : own 191 = 11 := rfl
theorem rr191 {ix : Nat} {x : Nat × Nat} (h : tref 11 ix = some x) : tref (own 191) ix = some x := by rw [ow191]; exact h
theorem td191 : tb_d 191 = 1 := rfl
theorem np191 : mnp 191 = 1 := rfl
theorem ml191 : mmaxL 191 = 1 := rfl
theorem rt191 : mret 191 = (some .boolean) := rfl
theorem mc192 : mcode 192 = cX11_isSignByte := rfl
theorem m192 {pc : Nat} {i : Instr} {len : Nat} (h : decode cX11_isSignByte pc = .ok (i, len)) : decode (mcode 192) pc = .ok (i, len) := by rw [mc192]; exact h
theorem ow192 : own 192 = 11 := rfl
theorem rr192 {ix : Nat} {x : Nat × Nat} (h : tref 11 ix = some x) : tref (own 192) ix = some x := by rw [ow192]; exact h
theorem td192 : tb_d 192 = 0 := rfl
theorem np192 : mnp 192 = 1 := rfl
theorem ml192 : mmaxL 192 = 2 := rfl
theorem rt192 : mret 192 = (some .boolean) := rfl
theorem mc193 : mcode 193 = cX11_next := rfl
theorem m193 {pc : Nat} {i : Instr} {len : Nat} (h : decode cX11_next pc = .ok (i, len)) : decode (mcode 193) pc = .ok (i, len) := by rw [mc193]; exact h
theorem ow193 : own 193 = 11 := rfl
theorem rr193 {ix : Nat} {x : Nat × Nat} (h : tref 11 ix = some x) : tref (own 193) ix = some x := by rw [ow193]; exact h
theorem td193 : tb_d 193 = 0 := rfl
theorem np193 : mnp 193 = 0 := rfl
theorem ml193 : mmaxL 193 = 2 := rfl
theorem rt193 : mret 193 = none := rfl
theorem mc194 : mcode 194 = cX11_isSign := rfl
theorem m194 {pc : Nat} {i : Instr} {len : Nat} (h : decode cX11_isSign pc = .ok (i, len)) : decode (mcode 194) pc = .ok (i, len) := by rw [mc194]; exact h
theorem ow194 : own 194 = 11 := rfl
theorem rr194 {ix : Nat} {x : Nat × Nat} (h : tref 11 ix = some x) : tref (own 194) ix = some x := by rw [ow194]; exact h
theorem td194 : tb_d 194 = 0 := rfl
theorem np194 : mnp 194 = 1 := rfl
theorem ml194 : mmaxL 194 = 2 := rfl
theorem rt194 : mret 194 = (some .boolean) := rfl
theorem mc195 : mcode 195 = cX11_spelled := rfl
theorem m195 {pc : Nat} {i : Instr} {len : Nat} (h : decode cX11_spelled pc = .ok (i, len)) : decode (mcode 195) pc = .ok (i, len) := by rw [mc195]; exact h
theorem ow195 : own 195 = 11 := rfl
theorem rr195 {ix : Nat} {x : Nat × Nat} (h : tref 11 ix = some x) : tref (own 195) ix = some x := by rw [ow195]; exact h
theorem td195 : tb_d 195 = 1 := rfl
theorem np195 : mnp 195 = 6 := rfl
theorem ml195 : mmaxL 195 = 8 := rfl
theorem rt195 : mret 195 = (some .long) := rfl
theorem mc196 : mcode 196 = cX11_isWord := rfl
theorem m196 {pc : Nat} {i : Instr} {len : Nat} (h : decode cX11_isWord pc = .ok (i, len)) : decode (mcode 196) pc = .ok (i, len) := by rw [mc196]; exact h
theorem ow196 : own 196 = 11 := rfl
theorem rr196 {ix : Nat} {x : Nat × Nat} (h : tref 11 ix = some x) : tref (own 196) ix = some x := by rw [ow196]; exact h
theorem td196 : tb_d 196 = 0 := rfl
theorem np196 : mnp 196 = 1 := rfl
theorem ml196 : mmaxL 196 = 3 := rfl
theorem rt196 : mret 196 = (some .boolean) := rfl
theorem mc197 : mcode 197 = cX11_isMaster := rfl
theorem m197 {pc : Nat} {i : Instr} {len : Nat} (h : decode cX11_isMaster pc = .ok (i, len)) : decode (mcode 197) pc = .ok (i, len) := by rw [mc197]; exact h
theorem ow197 : own 197 = 11 := rfl
theorem rr197 {ix : Nat} {x : Nat × Nat} (h : tref 11 ix = some x) : tref (own 197) ix = some x := by rw [ow197]; exact h
theorem td197 : tb_d 197 = 0 := rfl
theorem np197 : mnp 197 = 0 := rfl
theorem ml197 : mmaxL 197 = 1 := rfl
theorem rt197 : mret 197 = (some .boolean) := rfl
theorem mc198 : mcode 198 = cX11_isLesson := rfl
theorem m198 {pc : Nat} {i : Instr} {len : Nat} (h : decode cX11_isLesson pc = .ok (i, len)) : decode (mcode 198) pc = .ok (i, len) := by rw [mc198]; exact h
theorem ow198 : own 198 = 11 := rfl
theorem rr198 {ix : Nat} {x : Nat × Nat} (h : tref 11 ix = some x) : tref (own 198) ix = some x := by rw [ow198]; exact h
theorem td198 : tb_d 198 = 0 := rfl
theorem np198 : mnp 198 = 0 := rfl
theorem ml198 : mmaxL 198 = 1 := rfl
theorem rt198 : mret 198 = (some .boolean) := rfl
theorem mc199 : mcode 199 = cX11_isGives := rfl
theorem m199 {pc : Nat} {i : Instr} {len : Nat} (h : decode cX11_isGives pc = .ok (i, len)) : decode (mcode 199) pc = .ok (i, len) := by rw [mc199]; exact h
theorem ow199 : own 199 = 11 := rfl
theorem rr199 {ix : Nat} {x : Nat × Nat} (h : tref 11 ix = some x) : tref (own 199) ix = some x := by rw [ow199]; exact h
theorem td199 : tb_d 199 = 0 := rfl
theorem np199 : mnp 199 = 0 := rfl
theorem ml199 : mmaxL 199 = 1 := rfl
theorem rt199 : mret 199 = (some .boolean) := rfl
theorem mc200 : mcode 200 = cX11_isTakes := rfl
theorem m200 {pc : Nat} {i : Instr} {len : Nat} (h : decode cX11_isTakes pc = .ok (i, len)) : decode (mcode 200) pc = .ok (i, len) := by rw [mc200]; exact h
theorem ow200 : own 200 = 11 := rfl
theorem rr200 {ix : Nat} {x : Nat × Nat} (h : tref 11 ix = some x) : tref (own 200) ix = some x := by rw [ow200]; exact h
theorem td200 : tb_d 200 = 0 := rfl
theorem np200 : mnp 200 = 0 := rfl
theorem ml200 : mmaxL 200 = 1 := rfl
theorem rt200 : mret 200 = (some .boolean) := rfl
theorem mc201 : mcode 201 = cX11_isCosts := rfl
theorem m201 {pc : Nat} {i : Instr} {len : Nat} (h : decode cX11_isCosts pc = .ok (i, len)) : decode (mcode 201) pc = .ok (i, len) := by rw [mc201]; exact h
theorem ow201 : own 201 = 11 := rfl
theorem rr201 {ix : Nat} {x : Nat × Nat} (h : tref 11 ix = some x) : tref (own 201) ix = some x := by rw [ow201]; exact h
theorem td201 : tb_d 201 = 0 := rfl
theorem np201 : mnp 201 = 0 := rfl
theorem ml201 : mmaxL 201 = 1 := rfl
theorem rt201 : mret 201 = (some .boolean) := rfl
theorem mc202 : mcode 202 = cX11_isBy := rfl
theorem m202 {pc : Nat} {i : Instr} {len : Nat} (h : decode cX11_isBy pc = .ok (i, len)) : decode (mcode 202) pc = .ok (i, len) := by rw [mc202]; exact h
theorem ow202 : own 202 = 11 := rfl
theorem rr202 {ix : Nat} {x : Nat × Nat} (h : tref 11 ix = some x) : tref (own 202) ix = some x := by rw [ow202]; exact h
theorem td202 : tb_d 202 = 0 := rfl
theorem np202 : mnp 202 = 0 := rfl
theorem ml202 : mmaxL 202 = 1 := rfl
theorem rt202 : mret 202 = (some .boolean) := rfl
theorem mc203 : mcode 203 = cX11_isNeeds := rfl
theorem m203 {pc : Nat} {i : Instr} {len : Nat} (h : decode cX11_isNeeds pc = .ok (i, len)) : decode (mcode 203) pc = .ok (i, len) := by rw [mc203]; exact h
theorem ow203 : own 203 = 11 := rfl
theorem rr203 {ix : Nat} {x : Nat × Nat} (h : tref 11 ix = some x) : tref (own 203) ix = some x := by rw [ow203]; exact h
theorem td203 : tb_d 203 = 0 := rfl
theorem np203 : mnp 203 = 0 := rfl
theorem ml203 : mmaxL 203 = 1 := rfl
theorem rt203 : mret 203 = (some .boolean) := rfl
theorem mc204 : mcode 204 = cX11_isChild := rfl
theorem m204 {pc : Nat} {i : Instr} {len : Nat} (h : decode cX11_isChild pc = .ok (i, len)) : decode (mcode 204) pc = .ok (i, len) := by rw [mc204]; exact h
theorem ow204 : own 204 = 11 := rfl
theorem rr204 {ix : Nat} {x : Nat × Nat} (h : tref 11 ix = some x) : tref (own 204) ix = some x := by rw [ow204]; exact h
theorem td204 : tb_d 204 = 0 := rfl
theorem np204 : mnp 204 = 0 := rfl
theorem ml204 : mmaxL 204 = 1 := rfl
theorem rt204 : mret 204 = (some .boolean) := rfl
theorem mc205 : mcode 205 = cX11_isGift := rfl
theorem m205 {pc : Nat} {i : Instr} {len : Nat} (h : decode cX11_isGift pc = .ok (i, len)) : decode (mcode 205) pc = .ok (i, len) := by rw [mc205]; exact h
theorem ow205 : own 205 = 11 := rfl
theorem rr205 {ix : Nat} {x : Nat × Nat} (h : tref 11 ix = some x) : tref (own 205) ix = some x := by rw [ow205]; exact h
theorem td205 : tb_d 205 = 0 := rfl
theorem np205 : mnp 205 = 0 := rfl
theorem ml205 : mmaxL 205 = 1 := rfl
theorem rt205 : mret 205 = (some .boolean) := rfl
theorem mc206 : mcode 206 = cX11_isPurse := rfl
theorem m206 {pc : Nat} {i : Instr} {len : Nat} (h : decode cX11_isPurse pc = .ok (i, len)) : decode (mcode 206) pc = .ok (i, len) := by rw [mc206]; exact h
theorem ow206 : own 206 = 11 := rfl
theorem rr206 {ix : Nat} {x : Nat × Nat} (h : tref 11 ix = some x) : tref (own 206) ix = some x := by rw [ow206]; exact h
theorem td206 : tb_d 206 = 0 := rfl
theorem np206 : mnp 206 = 0 := rfl
theorem ml206 : mmaxL 206 = 1 := rfl
theorem rt206 : mret 206 = (some .boolean) := rfl
theorem mc207 : mcode 207 = cX11_isSounds := rfl
theorem m207 {pc : Nat} {i : Instr} {len : Nat} (h : decode cX11_isSounds pc = .ok (i, len)) : decode (mcode 207) pc = .ok (i, len) := by rw [mc207]; exact h
theorem ow207 : own 207 = 11 := rfl
theorem rr207 {ix : Nat} {x : Nat × Nat} (h : tref 11 ix = some x) : tref (own 207) ix = some x := by rw [ow207]; exact h
theorem td207 : tb_d 207 = 0 := rfl
theorem np207 : mnp 207 = 0 := rfl
theorem ml207 : mmaxL 207 = 1 := rfl
theorem rt207 : mret 207 = (some .boolean) := rfl
theorem mc208 : mcode 208 = cX11_stepWord := rfl
theorem m208 {pc : Nat} {i : Instr} {len : Nat} (h : decode cX11_stepWord pc = .ok (i, len)) : decode (mcode 208) pc = .ok (i, len) := by rw [mc208]; exact h
theorem ow208 : own 208 = 11 := rfl
theorem rr208 {ix : Nat} {x : Nat × Nat} (h : tref 11 ix = some x) : tref (own 208) ix = some x := by rw [ow208]; exact h
theorem td208 : tb_d 208 = 0 := rfl
theorem np208 : mnp 208 = 0 := rfl
theorem ml208 : mmaxL 208 = 1 := rfl
theorem rt208 : mret 208 = (some .int) := rfl
theorem mc209 : mcode 209 = cX11_testWord := rfl
theorem m209 {pc : Nat} {i : Instr} {len : Nat} (h : decode cX11_testWord pc = .ok (i, len)) : decode (mcode 209) pc = .ok (i, len) := by rw [mc209]; exact h
theorem ow209 : own 209 = 11 := rfl
theorem rr209 {ix : Nat} {x : Nat × Nat} (h : tref 11 ix = some x) : tref (own 209) ix = some x := by rw [ow209]; exact h
theorem td209 : tb_d 209 = 0 := rfl
theorem np209 : mnp 209 = 0 := rfl
theorem ml209 : mmaxL 209 = 1 := rfl
theorem rt209 : mret 209 = (some .int) := rfl
theorem mc210 : mcode 210 = cX11_isEnd := rfl
theorem m210 {pc : Nat} {i : Instr} {len : Nat} (h : decode cX11_isEnd pc = .ok (i, len)) : decode (mcode 210) pc = .ok (i, len) := by rw [mc210]; exact h
theorem ow210 : own 210 = 11 := rfl
theorem rr210 {ix : Nat} {x : Nat × Nat} (h : tref 11 ix = some x) : tref (own 210) ix = some x := by rw [ow210]; exact h
theorem td210 : tb_d 210 = 0 := rfl
theorem np210 : mnp 210 = 0 := rfl
theorem ml210 : mmaxL 210 = 1 := rfl
theorem rt210 : mret 210 = (some .boolean) := rfl
theorem mc211 : mcode 211 = cX11_isKept := rfl
theorem m211 {pc : Nat} {i : Instr} {len : Nat} (h : decode cX11_isKept pc = .ok (i, len)) : decode (mcode 211) pc = .ok (i, len) := by rw [mc211]; exact h
theorem ow211 : own 211 = 11 := rfl
theorem rr211 {ix : Nat} {x : Nat × Nat} (h : tref 11 ix = some x) : tref (own 211) ix = some x := by rw [ow211]; exact h
theorem td211 : tb_d 211 = 0 := rfl
theorem np211 : mnp 211 = 0 := rfl
theorem ml211 : mmaxL 211 = 1 := rfl
theorem rt211 : mret 211 = (some .boolean) := rfl
theorem mc212 : mcode 212 = cX11_isName := rfl
theorem m212 {pc : Nat} {i : Instr} {len : Nat} (h : decode cX11_isName pc = .ok (i, len)) : decode (mcode 212) pc = .ok (i, len) := by rw [mc212]; exact h
theorem ow212 : own 212 = 11 := rfl
theorem rr212 {ix : Nat} {x : Nat × Nat} (h : tref 11 ix = some x) : tref (own 212) ix = some x := by rw [ow212]; exact h
theorem td212 : tb_d 212 = 0 := rfl
theorem np212 : mnp 212 = 0 := rfl
theorem ml212 : mmaxL 212 = 1 := rfl
theorem rt212 : mret 212 = (some .boolean) := rfl
theorem mc213 : mcode 213 = cX11_fail := rfl
theorem m213 {pc : Nat} {i : Instr} {len : Nat} (h : decode cX11_fail pc = .ok (i, len)) : decode (mcode 213) pc = .ok (i, len) := by rw [mc213]; exact h
theorem ow213 : own 213 = 11 := rfl
theorem rr213 {ix : Nat} {x : Nat × Nat} (h : tref 11 ix = some x) : tref (own 213) ix = some x := by rw [ow213]; exact h
theorem td213 : tb_d 213 = 0 := rfl
theorem np213 : mnp 213 = 2 := rfl
theorem ml213 : mmaxL 213 = 3 := rfl
theorem rt213 : mret 213 = none := rfl
theorem mc214 : mcode 214 = cX11_wrong := rfl
theorem m214 {pc : Nat} {i : Instr} {len : Nat} (h : decode cX11_wrong pc = .ok (i, len)) : decode (mcode 214) pc = .ok (i, len) := by rw [mc214]; exact h
theorem ow214 : own 214 = 11 := rfl
theorem rr214 {ix : Nat} {x : Nat × Nat} (h : tref 11 ix = some x) : tref (own 214) ix = some x := by rw [ow214]; exact h
theorem td214 : tb_d 214 = 0 := rfl
theorem np214 : mnp 214 = 0 := rfl
theorem ml214 : mmaxL 214 = 1 := rfl
theorem rt214 : mret 214 = none := rfl
theorem mc215 : mcode 215 = cX11_must := rfl
theorem m215 {pc : Nat} {i : Instr} {len : Nat} (h : decode cX11_must pc = .ok (i, len)) : decode (mcode 215) pc = .ok (i, len) := by rw [mc215]; exact h
theorem ow215 : own 215 = 11 := rfl
theorem rr215 {ix : Nat} {x : Nat × Nat} (h : tref 11 ix = some x) : tref (own 215) ix = some x := by rw [ow215]; exact h
theorem td215 : tb_d 215 = 0 := rfl
theorem np215 : mnp 215 = 1 := rfl
theorem ml215 : mmaxL 215 = 2 := rfl
theorem rt215 : mret 215 = none := rfl
theorem mc216 : mcode 216 = cX11_count := rfl
theorem m216 {pc : Nat} {i : Instr} {len : Nat} (h : decode cX11_count pc = .ok (i, len)) : decode (mcode 216) pc = .ok (i, len) := by rw [mc216]; exact h
theorem ow216 : own 216 = 11 := rfl
theorem rr216 {ix : Nat} {x : Nat × Nat} (h : tref 11 ix = some x) : tref (own 216) ix = some x := by rw [ow216]; exact h
theorem td216 : tb_d 216 = 0 := rfl
theorem np216 : mnp 216 = 2 := rfl
theorem ml216 : mmaxL 216 = 4 := rfl
theorem rt216 : mret 216 = (some .int) := rfl
theorem mc217 : mcode 217 = cX11_feed := rfl
theorem m217 {pc : Nat} {i : Instr} {len : Nat} (h : decode cX11_feed pc = .ok (i, len)) : decode (mcode 217) pc = .ok (i, len) := by rw [mc217]; exact h
theorem ow217 : own 217 = 11 := rfl
theorem rr217 {ix : Nat} {x : Nat × Nat} (h : tref 11 ix = some x) : tref (own 217) ix = some x := by rw [ow217]; exact h
theorem td217 : tb_d 217 = 0 := rfl
theorem np217 : mnp 217 = 5 := rfl
theorem ml217 : mmaxL 217 = 6 := rfl
theorem rt217 : mret 217 = (some .int) := rfl
theorem mc218 : mcode 218 = cX11_lay := rfl
theorem m218 {pc : Nat} {i : Instr} {len : Nat} (h : decode cX11_lay pc = .ok (i, len)) : decode (mcode 218) pc = .ok (i, len) := by rw [mc218]; exact h
theorem ow218 : own 218 = 11 := rfl
theorem rr218 {ix : Nat} {x : Nat × Nat} (h : tref 11 ix = some x) : tref (own 218) ix = some x := by rw [ow218]; exact h
theorem td218 : tb_d 218 = 0 := rfl
theorem np218 : mnp 218 = 1 := rfl
theorem ml218 : mmaxL 218 = 3 := rfl
theorem rt218 : mret 218 = none := rfl
theorem mc219 : mcode 219 = cX11_starts := rfl
theorem m219 {pc : Nat} {i : Instr} {len : Nat} (h : decode cX11_starts pc = .ok (i, len)) : decode (mcode 219) pc = .ok (i, len) := by rw [mc219]; exact h
theorem ow219 : own 219 = 11 := rfl
theorem rr219 {ix : Nat} {x : Nat × Nat} (h : tref 11 ix = some x) : tref (own 219) ix = some x := by rw [ow219]; exact h
theorem td219 : tb_d 219 = 0 := rfl
theorem np219 : mnp 219 = 2 := rfl
theorem ml219 : mmaxL 219 = 3 := rfl
theorem rt219 : mret 219 = (some .boolean) := rfl
theorem mc220 : mcode 220 = cX11_isWell := rfl
theorem m220 {pc : Nat} {i : Instr} {len : Nat} (h : decode cX11_isWell pc = .ok (i, len)) : decode (mcode 220) pc = .ok (i, len) := by rw [mc220]; exact h
theorem ow220 : own 220 = 11 := rfl
theorem rr220 {ix : Nat} {x : Nat × Nat} (h : tref 11 ix = some x) : tref (own 220) ix = some x := by rw [ow220]; exact h
theorem td220 : tb_d 220 = 0 := rfl
theorem np220 : mnp 220 = 0 := rfl
theorem ml220 : mmaxL 220 = 1 := rfl
theorem rt220 : mret 220 = (some .boolean) := rfl
theorem mc221 : mcode 221 = cX11_fault := rfl
theorem m221 {pc : Nat} {i : Instr} {len : Nat} (h : decode cX11_fault pc = .ok (i, len)) : decode (mcode 221) pc = .ok (i, len) := by rw [mc221]; exact h
theorem ow221 : own 221 = 11 := rfl
theorem rr221 {ix : Nat} {x : Nat × Nat} (h : tref 11 ix = some x) : tref (own 221) ix = some x := by rw [ow221]; exact h
theorem td221 : tb_d 221 = 0 := rfl
theorem np221 : mnp 221 = 1 := rfl
theorem ml221 : mmaxL 221 = 2 := rfl
theorem rt221 : mret 221 = (some .int) := rfl
theorem mc222 : mcode 222 = cX11_namedIn := rfl
theorem m222 {pc : Nat} {i : Instr} {len : Nat} (h : decode cX11_namedIn pc = .ok (i, len)) : decode (mcode 222) pc = .ok (i, len) := by rw [mc222]; exact h
theorem ow222 : own 222 = 11 := rfl
theorem rr222 {ix : Nat} {x : Nat × Nat} (h : tref 11 ix = some x) : tref (own 222) ix = some x := by rw [ow222]; exact h
theorem td222 : tb_d 222 = 0 := rfl
theorem np222 : mnp 222 = 3 := rfl
theorem ml222 : mmaxL 222 = 5 := rfl
theorem rt222 : mret 222 = (some .int) := rfl
theorem mc223 : mcode 223 = cX11_masterNamed := rfl
theorem m223 {pc : Nat} {i : Instr} {len : Nat} (h : decode cX11_masterNamed pc = .ok (i, len)) : decode (mcode 223) pc = .ok (i, len) := by rw [mc223]; exact h
theorem ow223 : own 223 = 11 := rfl
theorem rr223 {ix : Nat} {x : Nat × Nat} (h : tref 11 ix = some x) : tref (own 223) ix = some x := by rw [ow223]; exact h
theorem td223 : tb_d 223 = 0 := rfl
theorem np223 : mnp 223 = 1 := rfl
theorem ml223 : mmaxL 223 = 2 := rfl
theorem rt223 : mret 223 = (some .int) := rfl
theorem mc224 : mcode 224 = cX11_lessonNamed := rfl
theorem m224 {pc : Nat} {i : Instr} {len : Nat} (h : decode cX11_lessonNamed pc = .ok (i, len)) : decode (mcode 224) pc = .ok (i, len) := by rw [mc224]; exact h
theorem ow224 : own 224 = 11 := rfl
theorem rr224 {ix : Nat} {x : Nat × Nat} (h : tref 11 ix = some x) : tref (own 224) ix = some x := by rw [ow224]; exact h
theorem td224 : tb_d 224 = 0 := rfl
theorem np224 : mnp 224 = 1 := rfl
theorem ml224 : mmaxL 224 = 2 := rfl
theorem rt224 : mret 224 = (some .int) := rfl
theorem mc225 : mcode 225 = cX11_childNamed := rfl
theorem m225 {pc : Nat} {i : Instr} {len : Nat} (h : decode cX11_childNamed pc = .ok (i, len)) : decode (mcode 225) pc = .ok (i, len) := by rw [mc225]; exact h
theorem ow225 : own 225 = 11 := rfl
theorem rr225 {ix : Nat} {x : Nat × Nat} (h : tref 11 ix = some x) : tref (own 225) ix = some x := by rw [ow225]; exact h
theorem td225 : tb_d 225 = 0 := rfl
theorem np225 : mnp 225 = 1 := rfl
theorem ml225 : mmaxL 225 = 2 := rfl
theorem rt225 : mret 225 = (some .int) := rfl
theorem mc226 : mcode 226 = cX11_readNew := rfl
theorem m226 {pc : Nat} {i : Instr} {len : Nat} (h : decode cX11_readNew pc = .ok (i, len)) : decode (mcode 226) pc = .ok (i, len) := by rw [mc226]; exact h
theorem ow226 : own 226 = 11 := rfl
theorem rr226 {ix : Nat} {x : Nat × Nat} (h : tref 11 ix = some x) : tref (own 226) ix = some x := by rw [ow226]; exact h
theorem td226 : tb_d 226 = 0 := rfl
theorem np226 : mnp 226 = 1 := rfl
theorem ml226 : mmaxL 226 = 2 := rfl
theorem rt226 : mret 226 = none := rfl
theorem mc227 : mcode 227 = cX11_told := rfl
theorem m227 {pc : Nat} {i : Instr} {len : Nat} (h : decode cX11_told pc = .ok (i, len)) : decode (mcode 227) pc = .ok (i, len) := by rw [mc227]; exact h
theorem ow227 : own 227 = 11 := rfl
theorem rr227 {ix : Nat} {x : Nat × Nat} (h : tref 11 ix = some x) : tref (own 227) ix = some x := by rw [ow227]; exact h
theorem td227 : tb_d 227 = 0 := rfl
theorem np227 : mnp 227 = 2 := rfl
theorem ml227 : mmaxL 227 = 4 := rfl
theorem rt227 : mret 227 = (some .int) := rfl
theorem mc228 : mcode 228 = cX11_readTold := rfl
theorem m228 {pc : Nat} {i : Instr} {len : Nat} (h : decode cX11_readTold pc = .ok (i, len)) : decode (mcode 228) pc = .ok (i, len) := by rw [mc228]; exact h
theorem ow228 : own 228 = 11 := rfl
theorem rr228 {ix : Nat} {x : Nat × Nat} (h : tref 11 ix = some x) : tref (own 228) ix = some x := by rw [ow228]; exact h
theorem td228 : tb_d 228 = 0 := rfl
theorem np228 : mnp 228 = 2 := rfl
theorem ml228 : mmaxL 228 = 4 := rfl
theorem rt228 : mret 228 = (some .int) := rfl
theorem mc229 : mcode 229 = cX11_readMaster := rfl
theorem m229 {pc : Nat} {i : Instr} {len : Nat} (h : decode cX11_readMaster pc = .ok (i, len)) : decode (mcode 229) pc = .ok (i, len) := by rw [mc229]; exact h
theorem ow229 : own 229 = 11 := rfl
theorem rr229 {ix : Nat} {x : Nat × Nat} (h : tref 11 ix = some x) : tref (own 229) ix = some x := by rw [ow229]; exact h
theorem td229 : tb_d 229 = 0 := rfl
theorem np229 : mnp 229 = 0 := rfl
theorem ml229 : mmaxL 229 = 2 := rfl
theorem rt229 : mret 229 = none := rfl
theorem mc230 : mcode 230 = cX11_readNeeds := rfl
theorem m230 {pc : Nat} {i : Instr} {len : Nat} (h : decode cX11_readNeeds pc = .ok (i, len)) : decode (mcode 230) pc = .ok (i, len) := by rw [mc230]; exact h
theorem ow230 : own 230 = 11 := rfl
theorem rr230 {ix : Nat} {x : Nat × Nat} (h : tref 11 ix = some x) : tref (own 230) ix = some x := by rw [ow230]; exact h
theorem td230 : tb_d 230 = 0 := rfl
theorem np230 : mnp 230 = 1 := rfl
theorem ml230 : mmaxL 230 = 4 := rfl
theorem rt230 : mret 230 = none := rfl
theorem mc231 : mcode 231 = cX11_readLesson := rfl
theorem m231 {pc : Nat} {i : Instr} {len : Nat} (h : decode cX11_readLesson pc = .ok (i, len)) : decode (mcode 231) pc = .ok (i, len) := by rw [mc231]; exact h
theorem ow231 : own 231 = 11 := rfl
theorem rr231 {ix : Nat} {x : Nat × Nat} (h : tref 11 ix = some x) : tref (own 231) ix = some x := by rw [ow231]; exact h
theorem td231 : tb_d 231 = 0 := rfl
theorem np231 : mnp 231 = 0 := rfl
theorem ml231 : mmaxL 231 = 2 := rfl
theorem rt231 : mret 231 = none := rfl
theorem mc232 : mcode 232 = cX11_readChild := rfl
theorem m232 {pc : Nat} {i : Instr} {len : Nat} (h : decode cX11_readChild pc = .ok (i, len)) : decode (mcode 232) pc = .ok (i, len) := by rw [mc232]; exact h
theorem ow232 : own 232 = 11 := rfl
theorem rr232 {ix : Nat} {x : Nat × Nat} (h : tref 11 ix = some x) : tref (own 232) ix = some x := by rw [ow232]; exact h
theorem td232 : tb_d 232 = 0 := rfl
theorem np232 : mnp 232 = 0 := rfl
theorem ml232 : mmaxL 232 = 2 := rfl
theorem rt232 : mret 232 = none := rfl
theorem mc233 : mcode 233 = cX11_readSounds := rfl
theorem m233 {pc : Nat} {i : Instr} {len : Nat} (h : decode cX11_readSounds pc = .ok (i, len)) : decode (mcode 233) pc = .ok (i, len) := by rw [mc233]; exact h
theorem ow233 : own 233 = 11 := rfl
theorem rr233 {ix : Nat} {x : Nat × Nat} (h : tref 11 ix = some x) : tref (own 233) ix = some x := by rw [ow233]; exact h
theorem td233 : tb_d 233 = 0 := rfl
theorem np233 : mnp 233 = 0 := rfl
theorem ml233 : mmaxL 233 = 1 := rfl
theorem rt233 : mret 233 = none := rfl
theorem mc234 : mcode 234 = cX11_school := rfl
theorem m234 {pc : Nat} {i : Instr} {len : Nat} (h : decode cX11_school pc = .ok (i, len)) : decode (mcode 234) pc = .ok (i, len) := by rw [mc234]; exact h
theorem ow234 : own 234 = 11 := rfl
theorem rr234 {ix : Nat} {x : Nat × Nat} (h : tref 11 ix = some x) : tref (own 234) ix = some x := by rw [ow234]; exact h
theorem td234 : tb_d 234 = 0 := rfl
theorem np234 : mnp 234 = 1 := rfl
theorem ml234 : mmaxL 234 = 3 := rfl
theorem rt234 : mret 234 = (some .int) := rfl
theorem mc235 : mcode 235 = cX11_readTest := rfl
theorem m235 {pc : Nat} {i : Instr} {len : Nat} (h : decode cX11_readTest pc = .ok (i, len)) : decode (mcode 235) pc = .ok (i, len) := by rw [mc235]; exact h
theorem ow235 : own 235 = 11 := rfl
theorem rr235 {ix : Nat} {x : Nat × Nat} (h : tref 11 ix = some x) : tref (own 235) ix = some x := by rw [ow235]; exact h
theorem td235 : tb_d 235 = 0 := rfl
theorem np235 : mnp 235 = 1 := rfl
theorem ml235 : mmaxL 235 = 3 := rfl
theorem rt235 : mret 235 = none := rfl
theorem mc236 : mcode 236 = cX11_readRest := rfl
theorem m236 {pc : Nat} {i : Instr} {len : Nat} (h : decode cX11_readRest pc = .ok (i, len)) : decode (mcode 236) pc = .ok (i, len) := by rw [mc236]; exact h
theorem ow236 : own 236 = 11 := rfl
theorem rr236 {ix : Nat} {x : Nat × Nat} (h : tref 11 ix = some x) : tref (own 236) ix = some x := by rw [ow236]; exact h
theorem td236 : tb_d 236 = 0 := rfl
theorem np236 : mnp 236 = 1 := rfl
theorem ml236 : mmaxL 236 = 3 := rfl
theorem rt236 : mret 236 = none := rfl
theorem mc237 : mcode 237 = cX11_readStep := rfl
theorem m237 {pc : Nat} {i : Instr} {len : Nat} (h : decode cX11_readStep pc = .ok (i, len)) : decode (mcode 237) pc = .ok (i, len) := by rw [mc237]; exact h
theorem ow237 : own 237 = 11 := rfl
theorem rr237 {ix : Nat} {x : Nat × Nat} (h : tref 11 ix = some x) : tref (own 237) ix = some x := by rw [ow237]; exact h
theorem td237 : tb_d 237 = 0 := rfl
theorem np237 : mnp 237 = 1 := rfl
theorem ml237 : mmaxL 237 = 5 := rfl
theorem rt237 : mret 237 = none := rfl
theorem mc238 : mcode 238 = cX11_age := rfl
theorem m238 {pc : Nat} {i : Instr} {len : Nat} (h : decode cX11_age pc = .ok (i, len)) : decode (mcode 238) pc = .ok (i, len) := by rw [mc238]; exact h
theorem ow238 : own 238 = 11 := rfl
theorem rr238 {ix : Nat} {x : Nat × Nat} (h : tref 11 ix = some x) : tref (own 238) ix = some x := by rw [ow238]; exact h
theorem td238 : tb_d 238 = 0 := rfl
theorem np238 : mnp 238 = 1 := rfl
theorem ml238 : mmaxL 238 = 3 := rfl
theorem rt238 : mret 238 = (some .int) := rfl
theorem mc239 : mcode 239 = cX11_isLessonAt := rfl
theorem m239 {pc : Nat} {i : Instr} {len : Nat} (h : decode cX11_isLessonAt pc = .ok (i, len)) : decode (mcode 239) pc = .ok (i, len) := by rw [mc239]; exact h
theorem ow239 : own 239 = 11 := rfl
theorem rr239 {ix : Nat} {x : Nat × Nat} (h : tref 11 ix = some x) : tref (own 239) ix = some x := by rw [ow239]; exact h
theorem td239 : tb_d 239 = 0 := rfl
theorem np239 : mnp 239 = 1 := rfl
theorem ml239 : mmaxL 239 = 2 := rfl
theorem rt239 : mret 239 = (some .boolean) := rfl
theorem mc240 : mcode 240 = cX11_isChildAt := rfl
theorem m240 {pc : Nat} {i : Instr} {len : Nat} (h : decode cX11_isChildAt pc = .ok (i, len)) : decode (mcode 240) pc = .ok (i, len) := by rw [mc240]; exact h
theorem ow240 : own 240 = 11 := rfl
theorem rr240 {ix : Nat} {x : Nat × Nat} (h : tref 11 ix = some x) : tref (own 240) ix = some x := by rw [ow240]; exact h
theorem td240 : tb_d 240 = 0 := rfl
theorem np240 : mnp 240 = 1 := rfl
theorem ml240 : mmaxL 240 = 2 := rfl
theorem rt240 : mret 240 = (some .boolean) := rfl
theorem mc241 : mcode 241 = cX11_lengthOf := rfl
theorem m241 {pc : Nat} {i : Instr} {len : Nat} (h : decode cX11_lengthOf pc = .ok (i, len)) : decode (mcode 241) pc = .ok (i, len) := by rw [mc241]; exact h
theorem ow241 : own 241 = 11 := rfl
theorem rr241 {ix : Nat} {x : Nat × Nat} (h : tref 11 ix = some x) : tref (own 241) ix = some x := by rw [ow241]; exact h
theorem td241 : tb_d 241 = 0 := rfl
theorem np241 : mnp 241 = 1 := rfl
theorem ml241 : mmaxL 241 = 2 := rfl
theorem rt241 : mret 241 = (some .int) := rfl
theorem mc242 : mcode 242 = cX11_lessonOf := rfl
theorem m242 {pc : Nat} {i : Instr} {len : Nat} (h : decode cX11_lessonOf pc = .ok (i, len)) : decode (mcode 242) pc = .ok (i, len) := by rw [mc242]; exact h
theorem ow242 : own 242 = 11 := rfl
theorem rr242 {ix : Nat} {x : Nat × Nat} (h : tref 11 ix = some x) : tref (own 242) ix = some x := by rw [ow242]; exact h
theorem td242 : tb_d 242 = 0 := rfl
theorem np242 : mnp 242 = 2 := rfl
theorem ml242 : mmaxL 242 = 3 := rfl
theorem rt242 : mret 242 = (some .int) := rfl
theorem mc243 : mcode 243 = cX11_letterOf := rfl
theorem m243 {pc : Nat} {i : Instr} {len : Nat} (h : decode cX11_letterOf pc = .ok (i, len)) : decode (mcode 243) pc = .ok (i, len) := by rw [mc243]; exact h
theorem ow243 : own 243 = 11 := rfl
theorem rr243 {ix : Nat} {x : Nat × Nat} (h : tref 11 ix = some x) : tref (own 243) ix = some x := by rw [ow243]; exact h
theorem td243 : tb_d 243 = 0 := rfl
theorem np243 : mnp 243 = 2 := rfl
theorem ml243 : mmaxL 243 = 3 := rfl
theorem rt243 : mret 243 = (some .int) := rfl
theorem mc244 : mcode 244 = cX11_knownOf := rfl
theorem m244 {pc : Nat} {i : Instr} {len : Nat} (h : decode cX11_knownOf pc = .ok (i, len)) : decode (mcode 244) pc = .ok (i, len) := by rw [mc244]; exact h
theorem ow244 : own 244 = 11 := rfl
theorem rr244 {ix : Nat} {x : Nat × Nat} (h : tref 11 ix = some x) : tref (own 244) ix = some x := by rw [ow244]; exact h
theorem td244 : tb_d 244 = 0 := rfl
theorem np244 : mnp 244 = 1 := rfl
theorem ml244 : mmaxL 244 = 4 := rfl
theorem rt244 : mret 244 = (some .int) := rfl
theorem mc245 : mcode 245 = cX11_many := rfl
theorem m245 {pc : Nat} {i : Instr} {len : Nat} (h : decode cX11_many pc = .ok (i, len)) : decode (mcode 245) pc = .ok (i, len) := by rw [mc245]; exact h
theorem ow245 : own 245 = 11 := rfl
theorem rr245 {ix : Nat} {x : Nat × Nat} (h : tref 11 ix = some x) : tref (own 245) ix = some x := by rw [ow245]; exact h
theorem td245 : tb_d 245 = 0 := rfl
theorem np245 : mnp 245 = 1 := rfl
theorem ml245 : mmaxL 245 = 2 := rfl
theorem rt245 : mret 245 = (some .int) := rfl
theorem mc246 : mcode 246 = cX11_lesson := rfl
theorem m246 {pc : Nat} {i : Instr} {len : Nat} (h : decode cX11_lesson pc = .ok (i, len)) : decode (mcode 246) pc = .ok (i, len) := by rw [mc246]; exact h
theorem ow246 : own 246 = 11 := rfl
theorem rr246 {ix : Nat} {x : Nat × Nat} (h : tref 11 ix = some x) : tref (own 246) ix = some x := by rw [ow246]; exact h
theorem td246 : tb_d 246 = 0 := rfl
theorem np246 : mnp 246 = 2 := rfl
theorem ml246 : mmaxL 246 = 3 := rfl
theorem rt246 : mret 246 = (some .int) := rfl
theorem mc247 : mcode 247 = cX11_child := rfl
theorem m247 {pc : Nat} {i : Instr} {len : Nat} (h : decode cX11_child pc = .ok (i, len)) : decode (mcode 247) pc = .ok (i, len) := by rw [mc247]; exact h
theorem ow247 : own 247 = 11 := rfl
theorem rr247 {ix : Nat} {x : Nat × Nat} (h : tref 11 ix = some x) : tref (own 247) ix = some x := by rw [ow247]; exact h
theorem td247 : tb_d 247 = 0 := rfl
theorem np247 : mnp 247 = 2 := rfl
theorem ml247 : mmaxL 247 = 3 := rfl
theorem rt247 : mret 247 = (some .int) := rfl
theorem mc248 : mcode 248 = cX11_letter := rfl
theorem m248 {pc : Nat} {i : Instr} {len : Nat} (h : decode cX11_letter pc = .ok (i, len)) : decode (mcode 248) pc = .ok (i, len) := by rw [mc248]; exact h
theorem ow248 : own 248 = 11 := rfl
theorem rr248 {ix : Nat} {x : Nat × Nat} (h : tref 11 ix = some x) : tref (own 248) ix = some x := by rw [ow248]; exact h
theorem td248 : tb_d 248 = 0 := rfl
theorem np248 : mnp 248 = 3 := rfl
theorem ml248 : mmaxL 248 = 4 := rfl
theorem rt248 : mret 248 = (some .int) := rfl
theorem mc249 : mcode 249 = cX11_teaches := rfl
theorem m249 {pc : Nat} {i : Instr} {len : Nat} (h : decode cX11_teaches pc = .ok (i, len)) : decode (mcode 249) pc = .ok (i, len) := by rw [mc249]; exact h
theorem ow249 : own 249 = 11 := rfl
theorem rr249 {ix : Nat} {x : Nat × Nat} (h : tref 11 ix = some x) : tref (own 249) ix = some x := by rw [ow249]; exact h
theorem td249 : tb_d 249 = 0 := rfl
theorem np249 : mnp 249 = 1 := rfl
theorem ml249 : mmaxL 249 = 4 := rfl
theorem rt249 : mret 249 = (some .int) := rfl
theorem mc250 : mcode 250 = cX11_copyName := rfl
theorem m250 {pc : Nat} {i : Instr} {len : Nat} (h : decode cX11_copyName pc = .ok (i, len)) : decode (mcode 250) pc = .ok (i, len) := by rw [mc250]; exact h
theorem ow250 : own 250 = 11 := rfl
theorem rr250 {ix : Nat} {x : Nat × Nat} (h : tref 11 ix = some x) : tref (own 250) ix = some x := by rw [ow250]; exact h
theorem td250 : tb_d 250 = 0 := rfl
theorem np250 : mnp 250 = 2 := rfl
theorem ml250 : mmaxL 250 = 4 := rfl
theorem rt250 : mret 250 = (some .int) := rfl
theorem mc251 : mcode 251 = cX11_daysOf := rfl
theorem m251 {pc : Nat} {i : Instr} {len : Nat} (h : decode cX11_daysOf pc = .ok (i, len)) : decode (mcode 251) pc = .ok (i, len) := by rw [mc251]; exact h
theorem ow251 : own 251 = 11 := rfl
theorem rr251 {ix : Nat} {x : Nat × Nat} (h : tref 11 ix = some x) : tref (own 251) ix = some x := by rw [ow251]; exact h
theorem td251 : tb_d 251 = 0 := rfl
theorem np251 : mnp 251 = 2 := rfl
theorem ml251 : mmaxL 251 = 3 := rfl
theorem rt251 : mret 251 = (some .int) := rfl
theorem mc252 : mcode 252 = cX11_isOpenTo := rfl
theorem m252 {pc : Nat} {i : Instr} {len : Nat} (h : decode cX11_isOpenTo pc = .ok (i, len)) : decode (mcode 252) pc = .ok (i, len) := by rw [mc252]; exact h
theorem ow252 : own 252 = 11 := rfl
theorem rr252 {ix : Nat} {x : Nat × Nat} (h : tref 11 ix = some x) : tref (own 252) ix = some x := by rw [ow252]; exact h
theorem td252 : tb_d 252 = 0 := rfl
theorem np252 : mnp 252 = 2 := rfl
theorem ml252 : mmaxL 252 = 3 := rfl
theorem rt252 : mret 252 = (some .boolean) := rfl
theorem mc253 : mcode 253 = cX11_whyNot := rfl
theorem m253 {pc : Nat} {i : Instr} {len : Nat} (h : decode cX11_whyNot pc = .ok (i, len)) : decode (mcode 253) pc = .ok (i, len) := by rw [mc253]; exact h
theorem ow253 : own 253 = 11 := rfl
theorem rr253 {ix : Nat} {x : Nat × Nat} (h : tref 11 ix = some x) : tref (own 253) ix = some x := by rw [ow253]; exact h
theorem td253 : tb_d 253 = 0 := rfl
theorem np253 : mnp 253 = 2 := rfl
theorem ml253 : mmaxL 253 = 3 := rfl
theorem rt253 : mret 253 = (some .int) := rfl
theorem mc254 : mcode 254 = cX11_learns := rfl
theorem m254 {pc : Nat} {i : Instr} {len : Nat} (h : decode cX11_learns pc = .ok (i, len)) : decode (mcode 254) pc = .ok (i, len) := by rw [mc254]; exact h
theorem ow254 : own 254 = 11 := rfl
theorem rr254 {ix : Nat} {x : Nat × Nat} (h : tref 11 ix = some x) : tref (own 254) ix = some x := by rw [ow254]; exact h
theorem td254 : tb_d 254 = 0 := rfl
theorem np254 : mnp 254 = 2 := rfl
theorem ml254 : mmaxL 254 = 3 := rfl
theorem rt254 : mret 254 = none := rfl
theorem mc255 : mcode 255 = cX11_learn := rfl
theorem m255 {pc : Nat} {i : Instr} {len : Nat} (h : decode cX11_learn pc = .ok (i, len)) : decode (mcode 255) pc = .ok (i, len) := by rw [mc255]; exact h
theorem ow255 : own 255 = 11 := rfl
theorem rr255 {ix : Nat} {x : Nat × Nat} (h : tref 11 ix = some x) : tref (own 255) ix = some x := by rw [ow255]; exact h
theorem td255 : tb_d 255 = 0 := rfl
theorem np255 : mnp 255 = 2 := rfl
theorem ml255 : mmaxL 255 = 4 := rfl
theorem rt255 : mret 255 = (some .int) := rfl
theorem mc256 : mcode 256 = cX11_loses := rfl
theorem m256 {pc : Nat} {i : Instr} {len : Nat} (h : decode cX11_loses pc = .ok (i, len)) : decode (mcode 256) pc = .ok (i, len) := by rw [mc256]; exact h
theorem ow256 : own 256 = 11 := rfl
theorem rr256 {ix : Nat} {x : Nat × Nat} (h : tref 11 ix = some x) : tref (own 256) ix = some x := by rw [ow256]; exact h
theorem td256 : tb_d 256 = 0 := rfl
theorem np256 : mnp 256 = 2 := rfl
theorem ml256 : mmaxL 256 = 5 := rfl
theorem rt256 : mret 256 = (some .int) := rfl
theorem mc257 : mcode 257 = cX11_lose := rfl
theorem m257 {pc : Nat} {i : Instr} {len : Nat} (h : decode cX11_lose pc = .ok (i, len)) : decode (mcode 257) pc = .ok (i, len) := by rw [mc257]; exact h
theorem ow257 : own 257 = 11 := rfl
theorem rr257 {ix : Nat} {x : Nat × Nat} (h : tref 11 ix = some x) : tref (own 257) ix = some x := by rw [ow257]; exact h
theorem td257 : tb_d 257 = 0 := rfl
theorem np257 : mnp 257 = 2 := rfl
theorem ml257 : mmaxL 257 = 3 := rfl
theorem rt257 : mret 257 = (some .int) := rfl
theorem mc258 : mcode 258 = cX11_rest := rfl
theorem m258 {pc : Nat} {i : Instr} {len : Nat} (h : decode cX11_rest pc = .ok (i, len)) : decode (mcode 258) pc = .ok (i, len) := by rw [mc258]; exact h
theorem ow258 : own 258 = 11 := rfl
theorem rr258 {ix : Nat} {x : Nat × Nat} (h : tref 11 ix = some x) : tref (own 258) ix = some x := by rw [ow258]; exact h
theorem td258 : tb_d 258 = 0 := rfl
theorem np258 : mnp 258 = 2 := rfl
theorem ml258 : mmaxL 258 = 3 := rfl
theorem rt258 : mret 258 = (some .int) := rfl
theorem mc259 : mcode 259 = cX11_pays := rfl
theorem m259 {pc : Nat} {i : Instr} {len : Nat} (h : decode cX11_pays pc = .ok (i, len)) : decode (mcode 259) pc = .ok (i, len) := by rw [mc259]; exact h
theorem ow259 : own 259 = 11 := rfl
theorem rr259 {ix : Nat} {x : Nat × Nat} (h : tref 11 ix = some x) : tref (own 259) ix = some x := by rw [ow259]; exact h
theorem td259 : tb_d 259 = 0 := rfl
theorem np259 : mnp 259 = 2 := rfl
theorem ml259 : mmaxL 259 = 3 := rfl
theorem rt259 : mret 259 = (some .boolean) := rfl
theorem mc260 : mcode 260 = cX11_pay := rfl
theorem m260 {pc : Nat} {i : Instr} {len : Nat} (h : decode cX11_pay pc = .ok (i, len)) : decode (mcode 260) pc = .ok (i, len) := by rw [mc260]; exact h
theorem ow260 : own 260 = 11 := rfl
theorem rr260 {ix : Nat} {x : Nat × Nat} (h : tref 11 ix = some x) : tref (own 260) ix = some x := by rw [ow260]; exact h
theorem td260 : tb_d 260 = 0 := rfl
theorem np260 : mnp 260 = 2 := rfl
theorem ml260 : mmaxL 260 = 3 := rfl
theorem rt260 : mret 260 = (some .int) := rfl
theorem mc261 : mcode 261 = cX11_openSet := rfl
theorem m261 {pc : Nat} {i : Instr} {len : Nat} (h : decode cX11_openSet pc = .ok (i, len)) : decode (mcode 261) pc = .ok (i, len) := by rw [mc261]; exact h
theorem ow261 : own 261 = 11 := rfl
theorem rr261 {ix : Nat} {x : Nat × Nat} (h : tref 11 ix = some x) : tref (own 261) ix = some x := by rw [ow261]; exact h
theorem td261 : tb_d 261 = 0 := rfl
theorem np261 : mnp 261 = 1 := rfl
theorem ml261 : mmaxL 261 = 4 := rfl
theorem rt261 : mret 261 = (some .int) := rfl
theorem mc262 : mcode 262 = cX11_readyOf := rfl
theorem m262 {pc : Nat} {i : Instr} {len : Nat} (h : decode cX11_readyOf pc = .ok (i, len)) : decode (mcode 262) pc = .ok (i, len) := by rw [mc262]; exact h
theorem ow262 : own 262 = 11 := rfl
theorem rr262 {ix : Nat} {x : Nat × Nat} (h : tref 11 ix = some x) : tref (own 262) ix = some x := by rw [ow262]; exact h
theorem td262 : tb_d 262 = 0 := rfl
theorem np262 : mnp 262 = 2 := rfl
theorem ml262 : mmaxL 262 = 5 := rfl
theorem rt262 : mret 262 = (some .int) := rfl
theorem mc263 : mcode 263 = cX11_sizeOf := rfl
theorem m263 {pc : Nat} {i : Instr} {len : Nat} (h : decode cX11_sizeOf pc = .ok (i, len)) : decode (mcode 263) pc = .ok (i, len) := by rw [mc263]; exact h
theorem ow263 : own 263 = 11 := rfl
theorem rr263 {ix : Nat} {x : Nat × Nat} (h : tref 11 ix = some x) : tref (own 263) ix = some x := by rw [ow263]; exact h
theorem td263 : tb_d 263 = 1 := rfl
theorem np263 : mnp 263 = 1 := rfl
theorem ml263 : mmaxL 263 = 3 := rfl
theorem rt263 : mret 263 = (some .int) := rfl
theorem mc264 : mcode 264 = cX11_ready := rfl
theorem m264 {pc : Nat} {i : Instr} {len : Nat} (h : decode cX11_ready pc = .ok (i, len)) : decode (mcode 264) pc = .ok (i, len) := by rw [mc264]; exact h
theorem ow264 : own 264 = 11 := rfl
theorem rr264 {ix : Nat} {x : Nat × Nat} (h : tref 11 ix = some x) : tref (own 264) ix = some x := by rw [ow264]; exact h
theorem td264 : tb_d 264 = 0 := rfl
theorem np264 : mnp 264 = 2 := rfl
theorem ml264 : mmaxL 264 = 3 := rfl
theorem rt264 : mret 264 = (some .int) := rfl
theorem mc265 : mcode 265 = cX11_takes := rfl
theorem m265 {pc : Nat} {i : Instr} {len : Nat} (h : decode cX11_takes pc = .ok (i, len)) : decode (mcode 265) pc = .ok (i, len) := by rw [mc265]; exact h
theorem ow265 : own 265 = 11 := rfl
theorem rr265 {ix : Nat} {x : Nat × Nat} (h : tref 11 ix = some x) : tref (own 265) ix = some x := by rw [ow265]; exact h
theorem td265 : tb_d 265 = 0 := rfl
theorem np265 : mnp 265 = 2 := rfl
theorem ml265 : mmaxL 265 = 3 := rfl
theorem rt265 : mret 265 = (some .int) := rfl
theorem mc266 : mcode 266 = cX11_opens := rfl
theorem m266 {pc : Nat} {i : Instr} {len : Nat} (h : decode cX11_opens pc = .ok (i, len)) : decode (mcode 266) pc = .ok (i, len) := by rw [mc266]; exact h
theorem ow266 : own 266 = 11 := rfl
theorem rr266 {ix : Nat} {x : Nat × Nat} (h : tref 11 ix = some x) : tref (own 266) ix = some x := by rw [ow266]; exact h
theorem td266 : tb_d 266 = 0 := rfl
theorem np266 : mnp 266 = 2 := rfl
theorem ml266 : mmaxL 266 = 4 := rfl
theorem rt266 : mret 266 = (some .int) := rfl
theorem mc267 : mcode 267 = cX11_isVowel := rfl
theorem m267 {pc : Nat} {i : Instr} {len : Nat} (h : decode cX11_isVowel pc = .ok (i, len)) : decode (mcode 267) pc = .ok (i, len) := by rw [mc267]; exact h
theorem ow267 : own 267 = 11 := rfl
theorem rr267 {ix : Nat} {x : Nat × Nat} (h : tref 11 ix = some x) : tref (own 267) ix = some x := by rw [ow267]; exact h
theorem td267 : tb_d 267 = 1 := rfl
theorem np267 : mnp 267 = 1 := rfl
theorem ml267 : mmaxL 267 = 1 := rfl
theorem rt267 : mret 267 = (some .boolean) := rfl
theorem mc268 : mcode 268 = cX11_stumble := rfl
theorem m268 {pc : Nat} {i : Instr} {len : Nat} (h : decode cX11_stumble pc = .ok (i, len)) : decode (mcode 268) pc = .ok (i, len) := by rw [mc268]; exact h
theorem ow268 : own 268 = 11 := rfl
theorem rr268 {ix : Nat} {x : Nat × Nat} (h : tref 11 ix = some x) : tref (own 268) ix = some x := by rw [ow268]; exact h
theorem td268 : tb_d 268 = 0 := rfl
theorem np268 : mnp 268 = 0 := rfl
theorem ml268 : mmaxL 268 = 3 := rfl
theorem rt268 : mret 268 = (some .int) := rfl
theorem mc269 : mcode 269 = cX11_isSaid := rfl
theorem m269 {pc : Nat} {i : Instr} {len : Nat} (h : decode cX11_isSaid pc = .ok (i, len)) : decode (mcode 269) pc = .ok (i, len) := by rw [mc269]; exact h
theorem ow269 : own 269 = 11 := rfl
theorem rr269 {ix : Nat} {x : Nat × Nat} (h : tref 11 ix = some x) : tref (own 269) ix = some x := by rw [ow269]; exact h
theorem td269 : tb_d 269 = 0 := rfl
theorem np269 : mnp 269 = 0 := rfl
theorem ml269 : mmaxL 269 = 1 := rfl
theorem rt269 : mret 269 = (some .boolean) := rfl
theorem mc270 : mcode 270 = cX11_layName := rfl
theorem m270 {pc : Nat} {i : Instr} {len : Nat} (h : decode cX11_layName pc = .ok (i, len)) : decode (mcode 270) pc = .ok (i, len) := by rw [mc270]; exact h
theorem ow270 : own 270 = 11 := rfl
theorem rr270 {ix : Nat} {x : Nat × Nat} (h : tref 11 ix = some x) : tref (own 270) ix = some x := by rw [ow270]; exact h
theorem td270 : tb_d 270 = 0 := rfl
theorem np270 : mnp 270 = 2 := rfl
theorem ml270 : mmaxL 270 = 4 := rfl
theorem rt270 : mret 270 = none := rfl
theorem mc271 : mcode 271 = cX11_saysName := rfl
theorem m271 {pc : Nat} {i : Instr} {len : Nat} (h : decode cX11_saysName pc = .ok (i, len)) : decode (mcode 271) pc = .ok (i, len) := by rw [mc271]; exact h
theorem ow271 : own 271 = 11 := rfl
theorem rr271 {ix : Nat} {x : Nat × Nat} (h : tref 11 ix = some x) : tref (own 271) ix = some x := by rw [ow271]; exact h
theorem td271 : tb_d 271 = 0 := rfl
theorem np271 : mnp 271 = 2 := rfl
theorem ml271 : mmaxL 271 = 3 := rfl
theorem rt271 : mret 271 = (some .boolean) := rfl
theorem mc272 : mcode 272 = cX11_saysWith := rfl
theorem m272 {pc : Nat} {i : Instr} {len : Nat} (h : decode cX11_saysWith pc = .ok (i, len)) : decode (mcode 272) pc = .ok (i, len) := by rw [mc272]; exact h
theorem ow272 : own 272 = 11 := rfl
theorem rr272 {ix : Nat} {x : Nat × Nat} (h : tref 11 ix = some x) : tref (own 272) ix = some x := by rw [ow272]; exact h
theorem td272 : tb_d 272 = 0 := rfl
theorem np272 : mnp 272 = 2 := rfl
theorem ml272 : mmaxL 272 = 3 := rfl
theorem rt272 : mret 272 = (some .boolean) := rfl
theorem mc273 : mcode 273 = cX11_choiceOf := rfl
theorem m273 {pc : Nat} {i : Instr} {len : Nat} (h : decode cX11_choiceOf pc = .ok (i, len)) : decode (mcode 273) pc = .ok (i, len) := by rw [mc273]; exact h
theorem ow273 : own 273 = 11 := rfl
theorem rr273 {ix : Nat} {x : Nat × Nat} (h : tref 11 ix = some x) : tref (own 273) ix = some x := by rw [ow273]; exact h
theorem td273 : tb_d 273 = 0 := rfl
theorem np273 : mnp 273 = 1 := rfl
theorem ml273 : mmaxL 273 = 7 := rfl
theorem rt273 : mret 273 = (some .int) := rfl
theorem mc274 : mcode 274 = cX11_choice := rfl
theorem m274 {pc : Nat} {i : Instr} {len : Nat} (h : decode cX11_choice pc = .ok (i, len)) : decode (mcode 274) pc = .ok (i, len) := by rw [mc274]; exact h
theorem ow274 : own 274 = 11 := rfl
theorem rr274 {ix : Nat} {x : Nat × Nat} (h : tref 11 ix = some x) : tref (own 274) ix = some x := by rw [ow274]; exact h
theorem td274 : tb_d 274 = 0 := rfl
theorem np274 : mnp 274 = 1 := rfl
theorem ml274 : mmaxL 274 = 3 := rfl
theorem rt274 : mret 274 = (some .int) := rfl
theorem mc275 : mcode 275 = cX11_said := rfl
theorem m275 {pc : Nat} {i : Instr} {len : Nat} (h : decode cX11_said pc = .ok (i, len)) : decode (mcode 275) pc = .ok (i, len) := by rw [mc275]; exact h
theorem ow275 : own 275 = 11 := rfl
theorem rr275 {ix : Nat} {x : Nat × Nat} (h : tref 11 ix = some x) : tref (own 275) ix = some x := by rw [ow275]; exact h
theorem td275 : tb_d 275 = 0 := rfl
theorem np275 : mnp 275 = 1 := rfl
theorem ml275 : mmaxL 275 = 2 := rfl
theorem rt275 : mret 275 = (some .int) := rfl
theorem mc276 : mcode 276 = cX11_stumbles := rfl
theorem m276 {pc : Nat} {i : Instr} {len : Nat} (h : decode cX11_stumbles pc = .ok (i, len)) : decode (mcode 276) pc = .ok (i, len) := by rw [mc276]; exact h
theorem ow276 : own 276 = 11 := rfl
theorem rr276 {ix : Nat} {x : Nat × Nat} (h : tref 11 ix = some x) : tref (own 276) ix = some x := by rw [ow276]; exact h
theorem td276 : tb_d 276 = 0 := rfl
theorem np276 : mnp 276 = 1 := rfl
theorem ml276 : mmaxL 276 = 3 := rfl
theorem rt276 : mret 276 = (some .int) := rfl
theorem mc277 : mcode 277 = cX11_drop := rfl
theorem m277 {pc : Nat} {i : Instr} {len : Nat} (h : decode cX11_drop pc = .ok (i, len)) : decode (mcode 277) pc = .ok (i, len) := by rw [mc277]; exact h
theorem ow277 : own 277 = 11 := rfl
theorem rr277 {ix : Nat} {x : Nat × Nat} (h : tref 11 ix = some x) : tref (own 277) ix = some x := by rw [ow277]; exact h
theorem td277 : tb_d 277 = 0 := rfl
theorem np277 : mnp 277 = 1 := rfl
theorem ml277 : mmaxL 277 = 5 := rfl
theorem rt277 : mret 277 = (some .int) := rfl
theorem mc278 : mcode 278 = cX11_weakOf := rfl
theorem m278 {pc : Nat} {i : Instr} {len : Nat} (h : decode cX11_weakOf pc = .ok (i, len)) : decode (mcode 278) pc = .ok (i, len) := by rw [mc278]; exact h
theorem ow278 : own 278 = 11 := rfl
theorem rr278 {ix : Nat} {x : Nat × Nat} (h : tref 11 ix = some x) : tref (own 278) ix = some x := by rw [ow278]; exact h
theorem td278 : tb_d 278 = 0 := rfl
theorem np278 : mnp 278 = 1 := rfl
theorem ml278 : mmaxL 278 = 3 := rfl
theorem rt278 : mret 278 = (some .int) := rfl
theorem mc279 : mcode 279 = cX11_firm := rfl
theorem m279 {pc : Nat} {i : Instr} {len : Nat} (h : decode cX11_firm pc = .ok (i, len)) : decode (mcode 279) pc = .ok (i, len) := by rw [mc279]; exact h
theorem ow279 : own 279 = 11 := rfl
theorem rr279 {ix : Nat} {x : Nat × Nat} (h : tref 11 ix = some x) : tref (own 279) ix = some x := by rw [ow279]; exact h
theorem td279 : tb_d 279 = 0 := rfl
theorem np279 : mnp 279 = 1 := rfl
theorem ml279 : mmaxL 279 = 2 := rfl
theorem rt279 : mret 279 = (some .int) := rfl
theorem mc280 : mcode 280 = cX11_weak := rfl
theorem m280 {pc : Nat} {i : Instr} {len : Nat} (h : decode cX11_weak pc = .ok (i, len)) : decode (mcode 280) pc = .ok (i, len) := by rw [mc280]; exact h
theorem ow280 : own 280 = 11 := rfl
theorem rr280 {ix : Nat} {x : Nat × Nat} (h : tref 11 ix = some x) : tref (own 280) ix = some x := by rw [ow280]; exact h
theorem td280 : tb_d 280 = 0 := rfl
theorem np280 : mnp 280 = 1 := rfl
theorem ml280 : mmaxL 280 = 3 := rfl
theorem rt280 : mret 280 = (some .int) := rfl
theorem mc281 : mcode 281 = cX11_vowels := rfl
theorem m281 {pc : Nat} {i : Instr} {len : Nat} (h : decode cX11_vowels pc = .ok (i, len)) : decode (mcode 281) pc = .ok (i, len) := by rw [mc281]; exact h
theorem ow281 : own 281 = 11 := rfl
theorem rr281 {ix : Nat} {x : Nat × Nat} (h : tref 11 ix = some x) : tref (own 281) ix = some x := by rw [ow281]; exact h
theorem td281 : tb_d 281 = 0 := rfl
theorem np281 : mnp 281 = 1 := rfl
theorem ml281 : mmaxL 281 = 4 := rfl
theorem rt281 : mret 281 = (some .int) := rfl
theorem mc282 : mcode 282 = cX11_rhyme := rfl
theorem m282 {pc : Nat} {i : Instr} {len : Nat} (h : decode cX11_rhyme pc = .ok (i, len)) : decode (mcode 282) pc = .ok (i, len) := by rw [mc282]; exact h
theorem ow282 : own 282 = 11 := rfl
theorem rr282 {ix : Nat} {x : Nat × Nat} (h : tref 11 ix = some x) : tref (own 282) ix = some x := by rw [ow282]; exact h
theorem td282 : tb_d 282 = 0 := rfl
theorem np282 : mnp 282 = 2 := rfl
theorem ml282 : mmaxL 282 = 4 := rfl
theorem rt282 : mret 282 = (some .int) := rfl
theorem mc283 : mcode 283 = cX11_apartOf := rfl
theorem m283 {pc : Nat} {i : Instr} {len : Nat} (h : decode cX11_apartOf pc = .ok (i, len)) : decode (mcode 283) pc = .ok (i, len) := by rw [mc283]; exact h
theorem ow283 : own 283 = 11 := rfl
theorem rr283 {ix : Nat} {x : Nat × Nat} (h : tref 11 ix = some x) : tref (own 283) ix = some x := by rw [ow283]; exact h
theorem td283 : tb_d 283 = 0 := rfl
theorem np283 : mnp 283 = 2 := rfl
theorem ml283 : mmaxL 283 = 4 := rfl
theorem rt283 : mret 283 = (some .int) := rfl
theorem mc284 : mcode 284 = cX11_apart := rfl
theorem m284 {pc : Nat} {i : Instr} {len : Nat} (h : decode cX11_apart pc = .ok (i, len)) : decode (mcode 284) pc = .ok (i, len) := by rw [mc284]; exact h
theorem ow284 : own 284 = 11 := rfl
theorem rr284 {ix : Nat} {x : Nat × Nat} (h : tref 11 ix = some x) : tref (own 284) ix = some x := by rw [ow284]; exact h
theorem td284 : tb_d 284 = 0 := rfl
theorem np284 : mnp 284 = 2 := rfl
theorem ml284 : mmaxL 284 = 4 := rfl
theorem rt284 : mret 284 = (some .int) := rfl
theorem mc285 : mcode 285 = cX11_behind := rfl
theorem m285 {pc : Nat} {i : Instr} {len : Nat} (h : decode cX11_behind pc = .ok (i, len)) : decode (mcode 285) pc = .ok (i, len) := by rw [mc285]; exact h
theorem ow285 : own 285 = 11 := rfl
theorem rr285 {ix : Nat} {x : Nat × Nat} (h : tref 11 ix = some x) : tref (own 285) ix = some x := by rw [ow285]; exact h
theorem td285 : tb_d 285 = 0 := rfl
theorem np285 : mnp 285 = 2 := rfl
theorem ml285 : mmaxL 285 = 4 := rfl
theorem rt285 : mret 285 = (some .int) := rfl
theorem mc286 : mcode 286 = cX11_life := rfl
theorem m286 {pc : Nat} {i : Instr} {len : Nat} (h : decode cX11_life pc = .ok (i, len)) : decode (mcode 286) pc = .ok (i, len) := by rw [mc286]; exact h
theorem ow286 : own 286 = 11 := rfl
theorem rr286 {ix : Nat} {x : Nat × Nat} (h : tref 11 ix = some x) : tref (own 286) ix = some x := by rw [ow286]; exact h
theorem td286 : tb_d 286 = 0 := rfl
theorem np286 : mnp 286 = 2 := rfl
theorem ml286 : mmaxL 286 = 6 := rfl
theorem rt286 : mret 286 = (some .int) := rfl
theorem mc287 : mcode 287 = cX11_fill := rfl
theorem m287 {pc : Nat} {i : Instr} {len : Nat} (h : decode cX11_fill pc = .ok (i, len)) : decode (mcode 287) pc = .ok (i, len) := by rw [mc287]; exact h
theorem ow287 : own 287 = 11 := rfl
theorem rr287 {ix : Nat} {x : Nat × Nat} (h : tref 11 ix = some x) : tref (own 287) ix = some x := by rw [ow287]; exact h
theorem td287 : tb_d 287 = 0 := rfl
theorem np287 : mnp 287 = 0 := rfl
theorem ml287 : mmaxL 287 = 5 := rfl
theorem rt287 : mret 287 = none := rfl
theorem mc288 : mcode 288 = cX11_allWays := rfl
theorem m288 {pc : Nat} {i : Instr} {len : Nat} (h : decode cX11_allWays pc = .ok (i, len)) : decode (mcode 288) pc = .ok (i, len) := by rw [mc288]; exact h
theorem ow288 : own 288 = 11 := rfl
theorem rr288 {ix : Nat} {x : Nat × Nat} (h : tref 11 ix = some x) : tref (own 288) ix = some x := by rw [ow288]; exact h
theorem td288 : tb_d 288 = 0 := rfl
theorem np288 : mnp 288 = 1 := rfl
theorem ml288 : mmaxL 288 = 5 := rfl
theorem rt288 : mret 288 = (some .long) := rfl
theorem mc289 : mcode 289 = cX11_isTold := rfl
theorem m289 {pc : Nat} {i : Instr} {len : Nat} (h : decode cX11_isTold pc = .ok (i, len)) : decode (mcode 289) pc = .ok (i, len) := by rw [mc289]; exact h
theorem ow289 : own 289 = 11 := rfl
theorem rr289 {ix : Nat} {x : Nat × Nat} (h : tref 11 ix = some x) : tref (own 289) ix = some x := by rw [ow289]; exact h
theorem td289 : tb_d 289 = 0 := rfl
theorem np289 : mnp 289 = 2 := rfl
theorem ml289 : mmaxL 289 = 4 := rfl
theorem rt289 : mret 289 = (some .boolean) := rfl
theorem mc290 : mcode 290 = cX11_leastOf := rfl
theorem m290 {pc : Nat} {i : Instr} {len : Nat} (h : decode cX11_leastOf pc = .ok (i, len)) : decode (mcode 290) pc = .ok (i, len) := by rw [mc290]; exact h
theorem ow290 : own 290 = 11 := rfl
theorem rr290 {ix : Nat} {x : Nat × Nat} (h : tref 11 ix = some x) : tref (own 290) ix = some x := by rw [ow290]; exact h
theorem td290 : tb_d 290 = 0 := rfl
theorem np290 : mnp 290 = 1 := rfl
theorem ml290 : mmaxL 290 = 4 := rfl
theorem rt290 : mret 290 = (some .int) := rfl
theorem mc291 : mcode 291 = cX11_soonest := rfl
theorem m291 {pc : Nat} {i : Instr} {len : Nat} (h : decode cX11_soonest pc = .ok (i, len)) : decode (mcode 291) pc = .ok (i, len) := by rw [mc291]; exact h
theorem ow291 : own 291 = 11 := rfl
theorem rr291 {ix : Nat} {x : Nat × Nat} (h : tref 11 ix = some x) : tref (own 291) ix = some x := by rw [ow291]; exact h
theorem td291 : tb_d 291 = 0 := rfl
theorem np291 : mnp 291 = 2 := rfl
theorem ml291 : mmaxL 291 = 3 := rfl
theorem rt291 : mret 291 = (some .int) := rfl
theorem mc292 : mcode 292 = cX11_cheapest := rfl
theorem m292 {pc : Nat} {i : Instr} {len : Nat} (h : decode cX11_cheapest pc = .ok (i, len)) : decode (mcode 292) pc = .ok (i, len) := by rw [mc292]; exact h
theorem ow292 : own 292 = 11 := rfl
theorem rr292 {ix : Nat} {x : Nat × Nat} (h : tref 11 ix = some x) : tref (own 292) ix = some x := by rw [ow292]; exact h
theorem td292 : tb_d 292 = 0 := rfl
theorem np292 : mnp 292 = 2 := rfl
theorem ml292 : mmaxL 292 = 3 := rfl
theorem rt292 : mret 292 = (some .int) := rfl
theorem mc293 : mcode 293 = cX11_ways := rfl
theorem m293 {pc : Nat} {i : Instr} {len : Nat} (h : decode cX11_ways pc = .ok (i, len)) : decode (mcode 293) pc = .ok (i, len) := by rw [mc293]; exact h
theorem ow293 : own 293 = 11 := rfl
theorem rr293 {ix : Nat} {x : Nat × Nat} (h : tref 11 ix = some x) : tref (own 293) ix = some x := by rw [ow293]; exact h
theorem td293 : tb_d 293 = 0 := rfl
theorem np293 : mnp 293 = 2 := rfl
theorem ml293 : mmaxL 293 = 3 := rfl
theorem rt293 : mret 293 = (some .long) := rfl
theorem mc294 : mcode 294 = cX11_first := rfl
theorem m294 {pc : Nat} {i : Instr} {len : Nat} (h : decode cX11_first pc = .ok (i, len)) : decode (mcode 294) pc = .ok (i, len) := by rw [mc294]; exact h
theorem ow294 : own 294 = 11 := rfl
theorem rr294 {ix : Nat} {x : Nat × Nat} (h : tref 11 ix = some x) : tref (own 294) ix = some x := by rw [ow294]; exact h
theorem td294 : tb_d 294 = 0 := rfl
theorem np294 : mnp 294 = 2 := rfl
theorem ml294 : mmaxL 294 = 6 := rfl
theorem rt294 : mret 294 = (some .int) := rfl
theorem mc295 : mcode 295 = cX11_firstAt := rfl
theorem m295 {pc : Nat} {i : Instr} {len : Nat} (h : decode cX11_firstAt pc = .ok (i, len)) : decode (mcode 295) pc = .ok (i, len) := by rw [mc295]; exact h
theorem ow295 : own 295 = 11 := rfl
theorem rr295 {ix : Nat} {x : Nat × Nat} (h : tref 11 ix = some x) : tref (own 295) ix = some x := by rw [ow295]; exact h
theorem td295 : tb_d 295 = 0 := rfl
theorem np295 : mnp 295 = 1 := rfl
theorem ml295 : mmaxL 295 = 2 := rfl
theorem rt295 : mret 295 = (some .int) := rfl
theorem mc296 : mcode 296 = cX11_goes := rfl
theorem m296 {pc : Nat} {i : Instr} {len : Nat} (h : decode cX11_goes pc = .ok (i, len)) : decode (mcode 296) pc = .ok (i, len) := by rw [mc296]; exact h
theorem ow296 : own 296 = 11 := rfl
theorem rr296 {ix : Nat} {x : Nat × Nat} (h : tref 11 ix = some x) : tref (own 296) ix = some x := by rw [ow296]; exact h
theorem td296 : tb_d 296 = 0 := rfl
theorem np296 : mnp 296 = 2 := rfl
theorem ml296 : mmaxL 296 = 4 := rfl
theorem rt296 : mret 296 = (some .int) := rfl
theorem mc297 : mcode 297 = cX11_lives := rfl
theorem m297 {pc : Nat} {i : Instr} {len : Nat} (h : decode cX11_lives pc = .ok (i, len)) : decode (mcode 297) pc = .ok (i, len) := by rw [mc297]; exact h
theorem ow297 : own 297 = 11 := rfl
theorem rr297 {ix : Nat} {x : Nat × Nat} (h : tref 11 ix = some x) : tref (own 297) ix = some x := by rw [ow297]; exact h
theorem td297 : tb_d 297 = 0 := rfl
theorem np297 : mnp 297 = 1 := rfl
theorem ml297 : mmaxL 297 = 2 := rfl
theorem rt297 : mret 297 = (some .long) := rfl
theorem mc298 : mcode 298 = cX11_fillOrders := rfl
theorem m298 {pc : Nat} {i : Instr} {len : Nat} (h : decode cX11_fillOrders pc = .ok (i, len)) : decode (mcode 298) pc = .ok (i, len) := by rw [mc298]; exact h
theorem ow298 : own 298 = 11 := rfl
theorem rr298 {ix : Nat} {x : Nat × Nat} (h : tref 11 ix = some x) : tref (own 298) ix = some x := by rw [ow298]; exact h
theorem td298 : tb_d 298 = 0 := rfl
theorem np298 : mnp 298 = 0 := rfl
theorem ml298 : mmaxL 298 = 4 := rfl
theorem rt298 : mret 298 = none := rfl
theorem mc299 : mcode 299 = cX11_orders := rfl
theorem m299 {pc : Nat} {i : Instr} {len : Nat} (h : decode cX11_orders pc = .ok (i, len)) : decode (mcode 299) pc = .ok (i, len) := by rw [mc299]; exact h
theorem ow299 : own 299 = 11 := rfl
theorem rr299 {ix : Nat} {x : Nat × Nat} (h : tref 11 ix = some x) : tref (own 299) ix = some x := by rw [ow299]; exact h
theorem td299 : tb_d 299 = 0 := rfl
theorem np299 : mnp 299 = 1 := rfl
theorem ml299 : mmaxL 299 = 5 := rfl
theorem rt299 : mret 299 = (some .long) := rfl
theorem mc300 : mcode 300 = cX11_cellOf := rfl
theorem m300 {pc : Nat} {i : Instr} {len : Nat} (h : decode cX11_cellOf pc = .ok (i, len)) : decode (mcode 300) pc = .ok (i, len) := by rw [mc300]; exact h
theorem ow300 : own 300 = 11 := rfl
theorem rr300 {ix : Nat} {x : Nat × Nat} (h : tref 11 ix = some x) : tref (own 300) ix = some x := by rw [ow300]; exact h
theorem td300 : tb_d 300 = 1 := rfl
theorem np300 : mnp 300 = 3 := rfl
theorem ml300 : mmaxL 300 = 3 := rfl
theorem rt300 : mret 300 = (some .int) := rfl
theorem mc301 : mcode 301 = cX11_says := rfl
theorem m301 {pc : Nat} {i : Instr} {len : Nat} (h : decode cX11_says pc = .ok (i, len)) : decode (mcode 301) pc = .ok (i, len) := by rw [mc301]; exact h
theorem ow301 : own 301 = 11 := rfl
theorem rr301 {ix : Nat} {x : Nat × Nat} (h : tref 11 ix = some x) : tref (own 301) ix = some x := by rw [ow301]; exact h
theorem td301 : tb_d 301 = 0 := rfl
theorem np301 : mnp 301 = 2 := rfl
theorem ml301 : mmaxL 301 = 6 := rfl
theorem rt301 : mret 301 = none := rfl
theorem mc302 : mcode 302 = cX11_sayable := rfl
theorem m302 {pc : Nat} {i : Instr} {len : Nat} (h : decode cX11_sayable pc = .ok (i, len)) : decode (mcode 302) pc = .ok (i, len) := by rw [mc302]; exact h
theorem ow302 : own 302 = 11 := rfl
theorem rr302 {ix : Nat} {x : Nat × Nat} (h : tref 11 ix = some x) : tref (own 302) ix = some x := by rw [ow302]; exact h
theorem td302 : tb_d 302 = 0 := rfl
theorem np302 : mnp 302 = 1 := rfl
theorem ml302 : mmaxL 302 = 8 := rfl
theorem rt302 : mret 302 = (some .boolean) := rfl
theorem mc303 : mcode 303 = cX11_needsOf := rfl
theorem m303 {pc : Nat} {i : Instr} {len : Nat} (h : decode cX11_needsOf pc = .ok (i, len)) : decode (mcode 303) pc = .ok (i, len) := by rw [mc303]; exact h
theorem ow303 : own 303 = 11 := rfl
theorem rr303 {ix : Nat} {x : Nat × Nat} (h : tref 11 ix = some x) : tref (own 303) ix = some x := by rw [ow303]; exact h
theorem td303 : tb_d 303 = 0 := rfl
theorem np303 : mnp 303 = 1 := rfl
theorem ml303 : mmaxL 303 = 4 := rfl
theorem rt303 : mret 303 = (some .int) := rfl
theorem mc304 : mcode 304 = cX11_reach := rfl
theorem m304 {pc : Nat} {i : Instr} {len : Nat} (h : decode cX11_reach pc = .ok (i, len)) : decode (mcode 304) pc = .ok (i, len) := by rw [mc304]; exact h
theorem ow304 : own 304 = 11 := rfl
theorem rr304 {ix : Nat} {x : Nat × Nat} (h : tref 11 ix = some x) : tref (own 304) ix = some x := by rw [ow304]; exact h
theorem td304 : tb_d 304 = 0 := rfl
theorem np304 : mnp 304 = 1 := rfl
theorem ml304 : mmaxL 304 = 2 := rfl
theorem rt304 : mret 304 = (some .int) := rfl
theorem mc305 : mcode 305 = cX11_root := rfl
theorem m305 {pc : Nat} {i : Instr} {len : Nat} (h : decode cX11_root pc = .ok (i, len)) : decode (mcode 305) pc = .ok (i, len) := by rw [mc305]; exact h
theorem ow305 : own 305 = 11 := rfl
theorem rr305 {ix : Nat} {x : Nat × Nat} (h : tref 11 ix = some x) : tref (own 305) ix = some x := by rw [ow305]; exact h
theorem td305 : tb_d 305 = 0 := rfl
theorem np305 : mnp 305 = 0 := rfl
theorem ml305 : mmaxL 305 = 6 := rfl
theorem rt305 : mret 305 = (some .int) := rfl
theorem mc306 : mcode 306 = cX11_planLong := rfl
theorem m306 {pc : Nat} {i : Instr} {len : Nat} (h : decode cX11_planLong pc = .ok (i, len)) : decode (mcode 306) pc = .ok (i, len) := by rw [mc306]; exact h
theorem ow306 : own 306 = 11 := rfl
theorem rr306 {ix : Nat} {x : Nat × Nat} (h : tref 11 ix = some x) : tref (own 306) ix = some x := by rw [ow306]; exact h
theorem td306 : tb_d 306 = 0 := rfl
theorem np306 : mnp 306 = 1 := rfl
theorem ml306 : mmaxL 306 = 2 := rfl
theorem rt306 : mret 306 = (some .int) := rfl
theorem mc307 : mcode 307 = cX11_whyNoPlan := rfl
theorem m307 {pc : Nat} {i : Instr} {len : Nat} (h : decode cX11_whyNoPlan pc = .ok (i, len)) : decode (mcode 307) pc = .ok (i, len) := by rw [mc307]; exact h
theorem ow307 : own 307 = 11 := rfl
theorem rr307 {ix : Nat} {x : Nat × Nat} (h : tref 11 ix = some x) : tref (own 307) ix = some x := by rw [ow307]; exact h
theorem td307 : tb_d 307 = 0 := rfl
theorem np307 : mnp 307 = 1 := rfl
theorem ml307 : mmaxL 307 = 5 := rfl
theorem rt307 : mret 307 = (some .int) := rfl
theorem mc308 : mcode 308 = cX11_begins := rfl
theorem m308 {pc : Nat} {i : Instr} {len : Nat} (h : decode cX11_begins pc = .ok (i, len)) : decode (mcode 308) pc = .ok (i, len) := by rw [mc308]; exact h
theorem ow308 : own 308 = 11 := rfl
theorem rr308 {ix : Nat} {x : Nat × Nat} (h : tref 11 ix = some x) : tref (own 308) ix = some x := by rw [ow308]; exact h
theorem td308 : tb_d 308 = 0 := rfl
theorem np308 : mnp 308 = 1 := rfl
theorem ml308 : mmaxL 308 = 6 := rfl
theorem rt308 : mret 308 = (some .int) := rfl
theorem mc309 : mcode 309 = cX11_plans := rfl
theorem m309 {pc : Nat} {i : Instr} {len : Nat} (h : decode cX11_plans pc = .ok (i, len)) : decode (mcode 309) pc = .ok (i, len) := by rw [mc309]; exact h
theorem ow309 : own 309 = 11 := rfl
theorem rr309 {ix : Nat} {x : Nat × Nat} (h : tref 11 ix = some x) : tref (own 309) ix = some x := by rw [ow309]; exact h
theorem td309 : tb_d 309 = 0 := rfl
theorem np309 : mnp 309 = 0 := rfl
theorem ml309 : mmaxL 309 = 4 := rfl
theorem rt309 : mret 309 = (some .int) := rfl
theorem mc310 : mcode 310 = cX11_waited := rfl
theorem m310 {pc : Nat} {i : Instr} {len : Nat} (h : decode cX11_waited pc = .ok (i, len)) : decode (mcode 310) pc = .ok (i, len) := by rw [mc310]; exact h
theorem ow310 : own 310 = 11 := rfl
theorem rr310 {ix : Nat} {x : Nat × Nat} (h : tref 11 ix = some x) : tref (own 310) ix = some x := by rw [ow310]; exact h
theorem td310 : tb_d 310 = 0 := rfl
theorem np310 : mnp 310 = 1 := rfl
theorem ml310 : mmaxL 310 = 2 := rfl
theorem rt310 : mret 310 = (some .int) := rfl
theorem mc311 : mcode 311 = cX11_began := rfl
theorem m311 {pc : Nat} {i : Instr} {len : Nat} (h : decode cX11_began pc = .ok (i, len)) : decode (mcode 311) pc = .ok (i, len) := by rw [mc311]; exact h
theorem ow311 : own 311 = 11 := rfl
theorem rr311 {ix : Nat} {x : Nat × Nat} (h : tref 11 ix = some x) : tref (own 311) ix = some x := by rw [ow311]; exact h
theorem td311 : tb_d 311 = 0 := rfl
theorem np311 : mnp 311 = 2 := rfl
theorem ml311 : mmaxL 311 = 3 := rfl
theorem rt311 : mret 311 = (some .int) := rfl
theorem mc312 : mcode 312 = cX11_draw := rfl
theorem m312 {pc : Nat} {i : Instr} {len : Nat} (h : decode cX11_draw pc = .ok (i, len)) : decode (mcode 312) pc = .ok (i, len) := by rw [mc312]; exact h
theorem ow312 : own 312 = 11 := rfl
theorem rr312 {ix : Nat} {x : Nat × Nat} (h : tref 11 ix = some x) : tref (own 312) ix = some x := by rw [ow312]; exact h
theorem td312 : tb_d 312 = 0 := rfl
theorem np312 : mnp 312 = 1 := rfl
theorem ml312 : mmaxL 312 = 2 := rfl
theorem rt312 : mret 312 = (some .int) := rfl
theorem mc313 : mcode 313 = cX11_learnsOne := rfl
theorem m313 {pc : Nat} {i : Instr} {len : Nat} (h : decode cX11_learnsOne pc = .ok (i, len)) : decode (mcode 313) pc = .ok (i, len) := by rw [mc313]; exact h
theorem ow313 : own 313 = 11 := rfl
theorem rr313 {ix : Nat} {x : Nat × Nat} (h : tref 11 ix = some x) : tref (own 313) ix = some x := by rw [ow313]; exact h
theorem td313 : tb_d 313 = 0 := rfl
theorem np313 : mnp 313 = 2 := rfl
theorem ml313 : mmaxL 313 = 3 := rfl
theorem rt313 : mret 313 = (some .boolean) := rfl
theorem mc314 : mcode 314 = cX11_losesOne := rfl
theorem m314 {pc : Nat} {i : Instr} {len : Nat} (h : decode cX11_losesOne pc = .ok (i, len)) : decode (mcode 314) pc = .ok (i, len) := by rw [mc314]; exact h
theorem ow314 : own 314 = 11 := rfl
theorem rr314 {ix : Nat} {x : Nat × Nat} (h : tref 11 ix = some x) : tref (own 314) ix = some x := by rw [ow314]; exact h
theorem td314 : tb_d 314 = 0 := rfl
theorem np314 : mnp 314 = 2 := rfl
theorem ml314 : mmaxL 314 = 3 := rfl
theorem rt314 : mret 314 = (some .boolean) := rfl
theorem mc315 : mcode 315 = cX11_fates := rfl
theorem m315 {pc : Nat} {i : Instr} {len : Nat} (h : decode cX11_fates pc = .ok (i, len)) : decode (mcode 315) pc = .ok (i, len) := by rw [mc315]; exact h
theorem ow315 : own 315 = 11 := rfl
theorem rr315 {ix : Nat} {x : Nat × Nat} (h : tref 11 ix = some x) : tref (own 315) ix = some x := by rw [ow315]; exact h
theorem td315 : tb_d 315 = 0 := rfl
theorem np315 : mnp 315 = 1 := rfl
theorem ml315 : mmaxL 315 = 6 := rfl
theorem rt315 : mret 315 = (some .boolean) := rfl
theorem mc316 : mcode 316 = cX11_does := rfl
theorem m316 {pc : Nat} {i : Instr} {len : Nat} (h : decode cX11_does pc = .ok (i, len)) : decode (mcode 316) pc = .ok (i, len) := by rw [mc316]; exact h
theorem ow316 : own 316 = 11 := rfl
theorem rr316 {ix : Nat} {x : Nat × Nat} (h : tref 11 ix = some x) : tref (own 316) ix = some x := by rw [ow316]; exact h
theorem td316 : tb_d 316 = 0 := rfl
theorem np316 : mnp 316 = 1 := rfl
theorem ml316 : mmaxL 316 = 4 := rfl
theorem rt316 : mret 316 = (some .boolean) := rfl
theorem mc317 : mcode 317 = cX11_isSo := rfl
theorem m317 {pc : Nat} {i : Instr} {len : Nat} (h : decode cX11_isSo pc = .ok (i, len)) : decode (mcode 317) pc = .ok (i, len) := by rw [mc317]; exact h
theorem ow317 : own 317 = 11 := rfl
theorem rr317 {ix : Nat} {x : Nat × Nat} (h : tref 11 ix = some x) : tref (own 317) ix = some x := by rw [ow317]; exact h
theorem td317 : tb_d 317 = 0 := rfl
theorem np317 : mnp 317 = 1 := rfl
theorem ml317 : mmaxL 317 = 5 := rfl
theorem rt317 : mret 317 = (some .boolean) := rfl
theorem mc318 : mcode 318 = cX11_doOne := rfl
theorem m318 {pc : Nat} {i : Instr} {len : Nat} (h : decode cX11_doOne pc = .ok (i, len)) : decode (mcode 318) pc = .ok (i, len) := by rw [mc318]; exact h
theorem ow318 : own 318 = 11 := rfl
theorem rr318 {ix : Nat} {x : Nat × Nat} (h : tref 11 ix = some x) : tref (own 318) ix = some x := by rw [ow318]; exact h
theorem td318 : tb_d 318 = 0 := rfl
theorem np318 : mnp 318 = 1 := rfl
theorem ml318 : mmaxL 318 = 5 := rfl
theorem rt318 : mret 318 = none := rfl
theorem mc319 : mcode 319 = cX11_doAll := rfl
theorem m319 {pc : Nat} {i : Instr} {len : Nat} (h : decode cX11_doAll pc = .ok (i, len)) : decode (mcode 319) pc = .ok (i, len) := by rw [mc319]; exact h
theorem ow319 : own 319 = 11 := rfl
theorem rr319 {ix : Nat} {x : Nat × Nat} (h : tref 11 ix = some x) : tref (own 319) ix = some x := by rw [ow319]; exact h
theorem td319 : tb_d 319 = 0 := rfl
theorem np319 : mnp 319 = 2 := rfl
theorem ml319 : mmaxL 319 = 4 := rfl
theorem rt319 : mret 319 = none := rfl
theorem mc320 : mcode 320 = cX11_runs := rfl
theorem m320 {pc : Nat} {i : Instr} {len : Nat} (h : decode cX11_runs pc = .ok (i, len)) : decode (mcode 320) pc = .ok (i, len) := by rw [mc320]; exact h
theorem ow320 : own 320 = 11 := rfl
theorem rr320 {ix : Nat} {x : Nat × Nat} (h : tref 11 ix = some x) : tref (own 320) ix = some x := by rw [ow320]; exact h
theorem td320 : tb_d 320 = 0 := rfl
theorem np320 : mnp 320 = 1 := rfl
theorem ml320 : mmaxL 320 = 2 := rfl
theorem rt320 : mret 320 = none := rfl
theorem mc321 : mcode 321 = cX11_live := rfl
theorem m321 {pc : Nat} {i : Instr} {len : Nat} (h : decode cX11_live pc = .ok (i, len)) : decode (mcode 321) pc = .ok (i, len) := by rw [mc321]; exact h
theorem ow321 : own 321 = 11 := rfl
theorem rr321 {ix : Nat} {x : Nat × Nat} (h : tref 11 ix = some x) : tref (own 321) ix = some x := by rw [ow321]; exact h
theorem td321 : tb_d 321 = 0 := rfl
theorem np321 : mnp 321 = 1 := rfl
theorem ml321 : mmaxL 321 = 2 := rfl
theorem rt321 : mret 321 = (some .int) := rfl
theorem mc322 : mcode 322 = cX11_lived := rfl
theorem m322 {pc : Nat} {i : Instr} {len : Nat} (h : decode cX11_lived pc = .ok (i, len)) : decode (mcode 322) pc = .ok (i, len) := by rw [mc322]; exact h
theorem ow322 : own 322 = 11 := rfl
theorem rr322 {ix : Nat} {x : Nat × Nat} (h : tref 11 ix = some x) : tref (own 322) ix = some x := by rw [ow322]; exact h
theorem td322 : tb_d 322 = 0 := rfl
theorem np322 : mnp 322 = 1 := rfl
theorem ml322 : mmaxL 322 = 2 := rfl
theorem rt322 : mret 322 = (some .int) := rfl
theorem mc323 : mcode 323 = cX11_odds := rfl
theorem m323 {pc : Nat} {i : Instr} {len : Nat} (h : decode cX11_odds pc = .ok (i, len)) : decode (mcode 323) pc = .ok (i, len) := by rw [mc323]; exact h
theorem ow323 : own 323 = 11 := rfl
theorem rr323 {ix : Nat} {x : Nat × Nat} (h : tref 11 ix = some x) : tref (own 323) ix = some x := by rw [ow323]; exact h
theorem td323 : tb_d 323 = 0 := rfl
theorem np323 : mnp 323 = 3 := rfl
theorem ml323 : mmaxL 323 = 7 := rfl
theorem rt323 : mret 323 = (some .boolean) := rfl
theorem mc324 : mcode 324 = cX11_copy := rfl
theorem m324 {pc : Nat} {i : Instr} {len : Nat} (h : decode cX11_copy pc = .ok (i, len)) : decode (mcode 324) pc = .ok (i, len) := by rw [mc324]; exact h
theorem ow324 : own 324 = 11 := rfl
theorem rr324 {ix : Nat} {x : Nat × Nat} (h : tref 11 ix = some x) : tref (own 324) ix = some x := by rw [ow324]; exact h
theorem td324 : tb_d 324 = 0 := rfl
theorem np324 : mnp 324 = 2 := rfl
theorem ml324 : mmaxL 324 = 4 := rfl
theorem rt324 : mret 324 = none := rfl
theorem mc325 : mcode 325 = cX11_mark := rfl
theorem m325 {pc : Nat} {i : Instr} {len : Nat} (h : decode cX11_mark pc = .ok (i, len)) : decode (mcode 325) pc = .ok (i, len) := by rw [mc325]; exact h
theorem ow325 : own 325 = 11 := rfl
theorem rr325 {ix : Nat} {x : Nat × Nat} (h : tref 11 ix = some x) : tref (own 325) ix = some x := by rw [ow325]; exact h
theorem td325 : tb_d 325 = 0 := rfl
theorem np325 : mnp 325 = 0 := rfl
theorem ml325 : mmaxL 325 = 1 := rfl
theorem rt325 : mret 325 = (some .int) := rfl
theorem mc326 : mcode 326 = cX11_back := rfl
theorem m326 {pc : Nat} {i : Instr} {len : Nat} (h : decode cX11_back pc = .ok (i, len)) : decode (mcode 326) pc = .ok (i, len) := by rw [mc326]; exact h
theorem ow326 : own 326 = 11 := rfl
theorem rr326 {ix : Nat} {x : Nat × Nat} (h : tref 11 ix = some x) : tref (own 326) ix = some x := by rw [ow326]; exact h
theorem td326 : tb_d 326 = 0 := rfl
theorem np326 : mnp 326 = 0 := rfl
theorem ml326 : mmaxL 326 = 1 := rfl
theorem rt326 : mret 326 = (some .int) := rfl
theorem mc327 : mcode 327 = cJ6_bitCount_0f7a4 := rfl
theorem m327 {pc : Nat} {i : Instr} {len : Nat} (h : decode cJ6_bitCount_0f7a4 pc = .ok (i, len)) : decode (mcode 327) pc = .ok (i, len) := by rw [mc327]; exact h
theorem ow327 : own 327 = 13 := rfl
theorem rr327 {ix : Nat} {x : Nat × Nat} (h : tref 13 ix = some x) : tref (own 327) ix = some x := by rw [ow327]; exact h
theorem td327 : tb_d 327 = 1 := rfl
theorem np327 : mnp 327 = 1 := rfl
theorem ml327 : mmaxL 327 = 1 := rfl
theorem rt327 : mret 327 = (some .int) := rfl
theorem mc328 : mcode 328 = cJ9_abs_067f4 := rfl
theorem m328 {pc : Nat} {i : Instr} {len : Nat} (h : decode cJ9_abs_067f4 pc = .ok (i, len)) : decode (mcode 328) pc = .ok (i, len) := by rw [mc328]; exact h
theorem ow328 : own 328 = 14 := rfl
theorem rr328 {ix : Nat} {x : Nat × Nat} (h : tref 14 ix = some x) : tref (own 328) ix = some x := by rw [ow328]; exact h
theorem td328 : tb_d 328 = 1 := rfl
theorem np328 : mnp 328 = 1 := rfl
theorem ml328 : mmaxL 328 = 2 := rfl
theorem rt328 : mret 328 = (some .long) := rfl
theorem mc329 : mcode 329 = cJ9_max_7cf53 := rfl
theorem m329 {pc : Nat} {i : Instr} {len : Nat} (h : decode cJ9_max_7cf53 pc = .ok (i, len)) : decode (mcode 329) pc = .ok (i, len) := by rw [mc329]; exact h
theorem ow329 : own 329 = 14 := rfl
theorem rr329 {ix : Nat} {x : Nat × Nat} (h : tref 14 ix = some x) : tref (own 329) ix = some x := by rw [ow329]; exact h
theorem td329 : tb_d 329 = 1 := rfl
theorem np329 : mnp 329 = 2 := rfl
theorem ml329 : mmaxL 329 = 2 := rfl
theorem rt329 : mret 329 = (some .int) := rfl
theorem mc330 : mcode 330 = cJ9_min_7cf53 := rfl
theorem m330 {pc : Nat} {i : Instr} {len : Nat} (h : decode cJ9_min_7cf53 pc = .ok (i, len)) : decode (mcode 330) pc = .ok (i, len) := by rw [mc330]; exact h
theorem ow330 : own 330 = 14 := rfl
theorem rr330 {ix : Nat} {x : Nat × Nat} (h : tref 14 ix = some x) : tref (own 330) ix = some x := by rw [ow330]; exact h
theorem td330 : tb_d 330 = 1 := rfl
theorem np330 : mnp 330 = 2 := rfl
theorem ml330 : mmaxL 330 = 2 := rfl
theorem rt330 : mret 330 = (some .int) := rfl
theorem mc331 : mcode 331 = cJ9_min_f86c9 := rfl
theorem m331 {pc : Nat} {i : Instr} {len : Nat} (h : decode cJ9_min_f86c9 pc = .ok (i, len)) : decode (mcode 331) pc = .ok (i, len) := by rw [mc331]; exact h
theorem ow331 : own 331 = 14 := rfl
theorem rr331 {ix : Nat} {x : Nat × Nat} (h : tref 14 ix = some x) : tref (own 331) ix = some x := by rw [ow331]; exact h
theorem td331 : tb_d 331 = 1 := rfl
theorem np331 : mnp 331 = 2 := rfl
theorem ml331 : mmaxL 331 = 4 := rfl
theorem rt331 : mret 331 = (some .long) := rfl
theorem mc332 : mcode 332 = cL_law := rfl
theorem m332 {pc : Nat} {i : Instr} {len : Nat} (h : decode cL_law pc = .ok (i, len)) : decode (mcode 332) pc = .ok (i, len) := by rw [mc332]; exact h
theorem ow332 : own 332 = 12 := rfl
theorem rr332 {ix : Nat} {x : Nat × Nat} (h : tref 12 ix = some x) : tref (own 332) ix = some x := by rw [ow332]; exact h
theorem td332 : tb_d 332 = 1 := rfl
theorem np332 : mnp 332 = 1 := rfl
theorem ml332 : mmaxL 332 = 4 := rfl
theorem rt332 : mret 332 = (some .boolean) := rfl
theorem tf_8_9 : tfld 8 9 = some (8, 0) := by decide +kernel
theorem tf_7_22 : tfld 7 22 = some (8, 0) := by decide +kernel
theorem tf_4_48 : tfld 4 48 = some (8, 0) := by decide +kernel
theorem tf_10_115 : tfld 10 115 = some (8, 0) := by decide +kernel
theorem tf_6_188 : tfld 6 188 = some (8, 0) := by decide +kernel
theorem tf_8_15 : tfld 8 15 = some (8, 1) := by decide +kernel
theorem tf_4_39 : tfld 4 39 = some (8, 1) := by decide +kernel
theorem tf_10_119 : tfld 10 119 = some (8, 1) := by decide +kernel
theorem tf_8_19 : tfld 8 19 = some (8, 2) := by decide +kernel
theorem tf_10_123 : tfld 10 123 = some (8, 2) := by decide +kernel
theorem tf_8_23 : tfld 8 23 = some (8, 3) := by decide +kernel
theorem tf_4_45 : tfld 4 45 = some (8, 3) := by decide +kernel
theorem tf_10_243 : tfld 10 243 = some (8, 3) := by decide +kernel
theorem tf_9_9 : tfld 9 9 = some (9, 0) := by decide +kernel
theorem tf_10_295 : tfld 10 295 = some (9, 0) := by decide +kernel
theorem tf_9_15 : tfld 9 15 = some (9, 1) := by decide +kernel
theorem tf_6_239 : tfld 6 239 = some (9, 1) := by decide +kernel
theorem tf_10_294 : tfld 10 294 = some (9, 1) := by decide +kernel
theorem tf_0_9 : tfld 0 9 = some (0, 0) := by decide +kernel
theorem tf_3_70 : tfld 3 70 = some (0, 0) := by decide +kernel
theorem tf_0_15 : tfld 0 15 = some (0, 1) := by decide +kernel
theorem tf_3_64 : tfld 3 64 = some (0, 1) := by decide +kernel
theorem tf_0_18 : tfld 0 18 = some (0, 2) := by decide +kernel
theorem tf_3_67 : tfld 3 67 = some (0, 2) := by decide +kernel
theorem tf_0_21 : tfld 0 21 = some (0, 3) := by decide +kernel
theorem tf_3_101 : tfld 3 101 = some (0, 3) := by decide +kernel
theorem tf_0_24 : tfld 0 24 = some (0, 4) := by decide +kernel
theorem tf_3_56 : tfld 3 56 = some (0, 4) := by decide +kernel
theorem tf_0_27 : tfld 0 27 = some (0, 5) := by decide +kernel
theorem tf_0_36 : tfld 0 36 = some (0, 6) := by decide +kernel
theorem tf_6_70 : tfld 6 70 = some (0, 6) := by decide +kernel
theorem tf_10_391 : tfld 10 391 = some (0, 6) := by decide +kernel
theorem tf_3_43 : tfld 3 43 = some (0, 7) := by decide +kernel
theorem tf_0_40 : tfld 0 40 = some (0, 7) := by decide +kernel
theorem tf_10_165 : tfld 10 165 = some (0, 7) := by decide +kernel
theorem tf_0_44 : tfld 0 44 = some (0, 8) := by decide +kernel
theorem tf_2_17 : tfld 2 17 = some (2, 0) := by decide +kernel
theorem tf_6_114 : tfld 6 114 = some (2, 0) := by decide +kernel
theorem tf_2_7 : tfld 2 7 = some (2, 1) := by decide +kernel
theorem tf_7_56 : tfld 7 56 = some (2, 1) := by decide +kernel
theorem tf_10_185 : tfld 10 185 = some (2, 1) := by decide +kernel
theorem tf_6_201 : tfld 6 201 = some (2, 1) := by decide +kernel
theorem tf_9_32 : tfld 9 32 = some (2, 2) := by decide +kernel
theorem tf_2_13 : tfld 2 13 = some (2, 2) := by decide +kernel
theorem tf_7_108 : tfld 7 108 = some (2, 2) := by decide +kernel
theorem tf_6_229 : tfld 6 229 = some (2, 2) := by decide +kernel
theorem tf_2_21 : tfld 2 21 = some (2, 3) := by decide +kernel
theorem tf_6_132 : tfld 6 132 = some (2, 3) := by decide +kernel
theorem tf_7_90 : tfld 7 90 = some (2, 3) := by decide +kernel
theorem tf_10_190 : tfld 10 190 = some (2, 3) := by decide +kernel
theorem tf_2_24 : tfld 2 24 = some (2, 4) := by decide +kernel
theorem tf_6_139 : tfld 6 139 = some (2, 4) := by decide +kernel
theorem tf_7_87 : tfld 7 87 = some (2, 4) := by decide +kernel
theorem tf_10_193 : tfld 10 193 = some (2, 4) := by decide +kernel
theorem tf_2_27 : tfld 2 27 = some (2, 5) := by decide +kernel
theorem tf_4_60 : tfld 4 60 = some (2, 5) := by decide +kernel
theorem tf_6_142 : tfld 6 142 = some (2, 5) := by decide +kernel
theorem tf_10_196 : tfld 10 196 = some (2, 5) := by decide +kernel
theorem tf_2_30 : tfld 2 30 = some (2, 6) := by decide +kernel
theorem tf_6_161 : tfld 6 161 = some (2, 6) := by decide +kernel
theorem tf_10_202 : tfld 10 202 = some (2, 6) := by decide +kernel
theorem tf_1_9 : tfld 1 9 = some (1, 0) := by decide +kernel
theorem tf_9_28 : tfld 9 28 = some (1, 0) := by decide +kernel
theorem tf_10_236 : tfld 10 236 = some (1, 0) := by decide +kernel
theorem tf_6_197 : tfld 6 197 = some (1, 0) := by decide +kernel
theorem tf_1_15 : tfld 1 15 = some (1, 1) := by decide +kernel
theorem tf_6_187 : tfld 6 187 = some (1, 1) := by decide +kernel
theorem tf_1_29 : tfld 1 29 = some (1, 2) := by decide +kernel
theorem tf_6_178 : tfld 6 178 = some (1, 2) := by decide +kernel
theorem tf_10_212 : tfld 10 212 = some (1, 2) := by decide +kernel
theorem tf_1_32 : tfld 1 32 = some (1, 3) := by decide +kernel
theorem tf_6_181 : tfld 6 181 = some (1, 3) := by decide +kernel
theorem tf_10_217 : tfld 10 217 = some (1, 3) := by decide +kernel
theorem tf_1_19 : tfld 1 19 = some (1, 4) := by decide +kernel
theorem tf_3_85 : tfld 3 85 = some (1, 4) := by decide +kernel
theorem tf_10_220 : tfld 10 220 = some (1, 4) := by decide +kernel
theorem tf_6_218 : tfld 6 218 = some (1, 4) := by decide +kernel
theorem tf_1_23 : tfld 1 23 = some (1, 5) := by decide +kernel
theorem tf_3_112 : tfld 3 112 = some (1, 5) := by decide +kernel
theorem tf_10_226 : tfld 10 226 = some (1, 5) := by decide +kernel
theorem tf_6_204 : tfld 6 204 = some (1, 5) := by decide +kernel
theorem tf_9_19 : tfld 9 19 = some (1, 6) := by decide +kernel
theorem tf_1_26 : tfld 1 26 = some (1, 6) := by decide +kernel
theorem tf_7_33 : tfld 7 33 = some (1, 6) := by decide +kernel
theorem tf_3_98 : tfld 3 98 = some (1, 6) := by decide +kernel
theorem tf_10_223 : tfld 10 223 = some (1, 6) := by decide +kernel
theorem tf_6_215 : tfld 6 215 = some (1, 6) := by decide +kernel
theorem tf_6_9 : tfld 6 9 = some (6, 0) := by decide +kernel
theorem tf_6_17 : tfld 6 17 = some (6, 1) := by decide +kernel
theorem tf_9_22 : tfld 9 22 = some (6, 1) := by decide +kernel
theorem tf_4_56 : tfld 4 56 = some (6, 1) := by decide +kernel
theorem tf_7_52 : tfld 7 52 = some (6, 1) := by decide +kernel
theorem tf_10_181 : tfld 10 181 = some (6, 1) := by decide +kernel
theorem tf_6_23 : tfld 6 23 = some (6, 2) := by decide +kernel
theorem tf_3_60 : tfld 3 60 = some (6, 2) := by decide +kernel
theorem tf_4_65 : tfld 4 65 = some (6, 2) := by decide +kernel
theorem tf_10_208 : tfld 10 208 = some (6, 2) := by decide +kernel
theorem tf_6_30 : tfld 6 30 = some (6, 3) := by decide +kernel
theorem tf_10_275 : tfld 10 275 = some (6, 3) := by decide +kernel
theorem tf_6_37 : tfld 6 37 = some (6, 4) := by decide +kernel
theorem tf_3_37 : tfld 3 37 = some (6, 4) := by decide +kernel
theorem tf_10_162 : tfld 10 162 = some (6, 4) := by decide +kernel
theorem tf_6_63 : tfld 6 63 = some (6, 5) := by decide +kernel
theorem tf_10_168 : tfld 10 168 = some (6, 5) := by decide +kernel
theorem tf_6_47 : tfld 6 47 = some (6, 6) := by decide +kernel
theorem tf_7_61 : tfld 7 61 = some (6, 6) := by decide +kernel
theorem tf_10_153 : tfld 10 153 = some (6, 6) := by decide +kernel
theorem tf_6_54 : tfld 6 54 = some (6, 7) := by decide +kernel
theorem tf_4_33 : tfld 4 33 = some (6, 7) := by decide +kernel
theorem tf_10_171 : tfld 10 171 = some (6, 7) := by decide +kernel
theorem tf_6_41 : tfld 6 41 = some (6, 8) := by decide +kernel
theorem tf_7_103 : tfld 7 103 = some (6, 8) := by decide +kernel
theorem tf_10_174 : tfld 10 174 = some (6, 8) := by decide +kernel
theorem tf_6_66 : tfld 6 66 = some (6, 9) := by decide +kernel
theorem tf_5_9 : tfld 5 9 = some (5, 0) := by decide +kernel
theorem tf_5_15 : tfld 5 15 = some (5, 1) := by decide +kernel
theorem tf_5_33 : tfld 5 33 = some (5, 2) := by decide +kernel
theorem tf_10_136 : tfld 10 136 = some (5, 2) := by decide +kernel
theorem tf_5_37 : tfld 5 37 = some (5, 3) := by decide +kernel
theorem tf_5_40 : tfld 5 40 = some (5, 4) := by decide +kernel
theorem tf_5_62 : tfld 5 62 = some (5, 5) := by decide +kernel
theorem tf_0_78 : tfld 0 78 = some (5, 5) := by decide +kernel
theorem tf_5_52 : tfld 5 52 = some (5, 6) := by decide +kernel
theorem tf_5_55 : tfld 5 55 = some (5, 7) := by decide +kernel
theorem tf_5_59 : tfld 5 59 = some (5, 8) := by decide +kernel
theorem tf_0_75 : tfld 0 75 = some (5, 8) := by decide +kernel
theorem tf_5_43 : tfld 5 43 = some (5, 9) := by decide +kernel
theorem tf_6_164 : tfld 6 164 = some (5, 9) := by decide +kernel
theorem tf_10_416 : tfld 10 416 = some (5, 9) := by decide +kernel
theorem tf_5_46 : tfld 5 46 = some (5, 10) := by decide +kernel
theorem tf_10_419 : tfld 10 419 = some (5, 10) := by decide +kernel
theorem tf_3_9 : tfld 3 9 = some (3, 0) := by decide +kernel
theorem tf_10_397 : tfld 10 397 = some (3, 0) := by decide +kernel
theorem tf_3_15 : tfld 3 15 = some (3, 1) := by decide +kernel
theorem tf_10_396 : tfld 10 396 = some (3, 1) := by decide +kernel
theorem tf_3_19 : tfld 3 19 = some (3, 2) := by decide +kernel
theorem tf_10_398 : tfld 10 398 = some (3, 2) := by decide +kernel
theorem tf_3_22 : tfld 3 22 = some (3, 3) := by decide +kernel
theorem tf_10_401 : tfld 10 401 = some (3, 3) := by decide +kernel
theorem tf_3_25 : tfld 3 25 = some (3, 4) := by decide +kernel
theorem tf_10_403 : tfld 10 403 = some (3, 4) := by decide +kernel
theorem tf_3_28 : tfld 3 28 = some (3, 5) := by decide +kernel
theorem tf_10_406 : tfld 10 406 = some (3, 5) := by decide +kernel
theorem tf_3_31 : tfld 3 31 = some (3, 6) := by decide +kernel
theorem tf_3_34 : tfld 3 34 = some (3, 7) := by decide +kernel
theorem tf_7_9 : tfld 7 9 = some (7, 0) := by decide +kernel
theorem tf_7_15 : tfld 7 15 = some (7, 1) := by decide +kernel
theorem tf_10_339 : tfld 10 339 = some (7, 1) := by decide +kernel
theorem tf_7_29 : tfld 7 29 = some (7, 2) := by decide +kernel
theorem tf_7_100 : tfld 7 100 = some (7, 3) := by decide +kernel
theorem tf_10_336 : tfld 10 336 = some (7, 3) := by decide +kernel
theorem tf_7_68 : tfld 7 68 = some (7, 4) := by decide +kernel
theorem tf_10_342 : tfld 10 342 = some (7, 4) := by decide +kernel
theorem tf_7_18 : tfld 7 18 = some (7, 5) := by decide +kernel
theorem tf_4_9 : tfld 4 9 = some (4, 0) := by decide +kernel
theorem tf_10_385 : tfld 10 385 = some (4, 0) := by decide +kernel
theorem tf_4_15 : tfld 4 15 = some (4, 1) := by decide +kernel
theorem tf_10_382 : tfld 10 382 = some (4, 1) := by decide +kernel
theorem tf_4_20 : tfld 4 20 = some (4, 2) := by decide +kernel
theorem tf_10_388 : tfld 10 388 = some (4, 2) := by decide +kernel
theorem tf_4_36 : tfld 4 36 = some (4, 3) := by decide +kernel
theorem tf_10_378 : tfld 10 378 = some (4, 3) := by decide +kernel
theorem tf_4_23 : tfld 4 23 = some (4, 4) := by decide +kernel
theorem tf_4_26 : tfld 4 26 = some (4, 5) := by decide +kernel
theorem tf_4_29 : tfld 4 29 = some (4, 6) := by decide +kernel
theorem tf_10_11 : tfld 10 11 = some (10, 0) := by decide +kernel
theorem tf_10_26 : tfld 10 26 = some (10, 1) := by decide +kernel
theorem tf_10_18 : tfld 10 18 = some (10, 2) := by decide +kernel
theorem tf_10_30 : tfld 10 30 = some (10, 3) := by decide +kernel
theorem tf_10_37 : tfld 10 37 = some (10, 4) := by decide +kernel
theorem tf_10_41 : tfld 10 41 = some (10, 5) := by decide +kernel
theorem tf_10_47 : tfld 10 47 = some (10, 6) := by decide +kernel
theorem tf_10_54 : tfld 10 54 = some (10, 7) := by decide +kernel
theorem tf_10_58 : tfld 10 58 = some (10, 8) := by decide +kernel
theorem tf_10_61 : tfld 10 61 = some (10, 9) := by decide +kernel
theorem tf_10_67 : tfld 10 67 = some (10, 10) := by decide +kernel
theorem tf_10_82 : tfld 10 82 = some (10, 11) := by decide +kernel
theorem tf_10_85 : tfld 10 85 = some (10, 12) := by decide +kernel
theorem tf_10_71 : tfld 10 71 = some (10, 13) := by decide +kernel
theorem tf_10_75 : tfld 10 75 = some (10, 14) := by decide +kernel
theorem tf_10_79 : tfld 10 79 = some (10, 15) := by decide +kernel
theorem tf_10_413 : tfld 10 413 = some (10, 16) := by decide +kernel
theorem tf_11_97 : tfld 11 97 = some (11, 0) := by decide +kernel
theorem tf_11_94 : tfld 11 94 = some (11, 1) := by decide +kernel
theorem tf_11_100 : tfld 11 100 = some (11, 2) := by decide +kernel
theorem tf_11_7 : tfld 11 7 = some (11, 3) := by decide +kernel
theorem tf_11_13 : tfld 11 13 = some (11, 4) := by decide +kernel
theorem tf_11_17 : tfld 11 17 = some (11, 5) := by decide +kernel
theorem tf_11_20 : tfld 11 20 = some (11, 6) := by decide +kernel
theorem tf_11_24 : tfld 11 24 = some (11, 7) := by decide +kernel
theorem tf_11_241 : tfld 11 241 = some (11, 8) := by decide +kernel
theorem tf_11_133 : tfld 11 133 = some (11, 9) := by decide +kernel
theorem tf_11_28 : tfld 11 28 = some (11, 10) := by decide +kernel
theorem tf_11_32 : tfld 11 32 = some (11, 11) := by decide +kernel
theorem tf_11_225 : tfld 11 225 = some (11, 12) := by decide +kernel
theorem tf_11_228 : tfld 11 228 = some (11, 13) := by decide +kernel
theorem tf_11_145 : tfld 11 145 = some (11, 14) := by decide +kernel
theorem tf_11_139 : tfld 11 139 = some (11, 15) := by decide +kernel
theorem tf_11_136 : tfld 11 136 = some (11, 16) := by decide +kernel
theorem tf_11_164 : tfld 11 164 = some (11, 17) := by decide +kernel
theorem tf_11_158 : tfld 11 158 = some (11, 18) := by decide +kernel
theorem tf_11_151 : tfld 11 151 = some (11, 19) := by decide +kernel
theorem tf_11_35 : tfld 11 35 = some (11, 20) := by decide +kernel
theorem tf_11_38 : tfld 11 38 = some (11, 21) := by decide +kernel
theorem tf_11_41 : tfld 11 41 = some (11, 22) := by decide +kernel
theorem tf_11_524 : tfld 11 524 = some (11, 23) := by decide +kernel
theorem tf_11_290 : tfld 11 290 = some (11, 24) := by decide +kernel
theorem tf_11_321 : tfld 11 321 = some (11, 25) := by decide +kernel
theorem tf_11_44 : tfld 11 44 = some (11, 26) := by decide +kernel
theorem tf_11_384 : tfld 11 384 = some (11, 27) := by decide +kernel
theorem tf_11_47 : tfld 11 47 = some (11, 28) := by decide +kernel
theorem tf_11_50 : tfld 11 50 = some (11, 29) := by decide +kernel
theorem tf_11_53 : tfld 11 53 = some (11, 30) := by decide +kernel
theorem tf_11_56 : tfld 11 56 = some (11, 31) := by decide +kernel
theorem tf_11_440 : tfld 11 440 = some (11, 32) := by decide +kernel
theorem tf_11_59 : tfld 11 59 = some (11, 33) := by decide +kernel
theorem tf_11_63 : tfld 11 63 = some (11, 34) := by decide +kernel
theorem tf_11_67 : tfld 11 67 = some (11, 35) := by decide +kernel
theorem tf_11_70 : tfld 11 70 = some (11, 36) := by decide +kernel
theorem tf_11_73 : tfld 11 73 = some (11, 37) := by decide +kernel
theorem tf_11_76 : tfld 11 76 = some (11, 38) := by decide +kernel
theorem tf_11_79 : tfld 11 79 = some (11, 39) := by decide +kernel
theorem tf_11_82 : tfld 11 82 = some (11, 40) := by decide +kernel
theorem tf_11_85 : tfld 11 85 = some (11, 41) := by decide +kernel
theorem tf_11_88 : tfld 11 88 = some (11, 42) := by decide +kernel
theorem tf_11_91 : tfld 11 91 = some (11, 43) := by decide +kernel
theorem tf_11_519 : tfld 11 519 = some (11, 44) := by decide +kernel
theorem tf_11_493 : tfld 11 493 = some (11, 45) := by decide +kernel
theorem tf_11_468 : tfld 11 468 = some (11, 46) := by decide +kernel
theorem tf_11_490 : tfld 11 490 = some (11, 47) := by decide +kernel
theorem tf_11_499 : tfld 11 499 = some (11, 48) := by decide +kernel
theorem tf_11_472 : tfld 11 472 = some (11, 49) := by decide +kernel
theorem tf_11_475 : tfld 11 475 = some (11, 50) := by decide +kernel
theorem tf_11_496 : tfld 11 496 = some (11, 51) := by decide +kernel
theorem tr_12_9 : tref 12 9 = some (103, 0) := by decide +kernel
theorem tr_10_1 : tref 10 1 = some (1000, 0) := by decide +kernel
theorem tr_10_15 : tref 10 15 = some (94, 1) := by decide +kernel
theorem tr_8_3 : tref 8 3 = some (1000, 0) := by decide +kernel
theorem tr_10_22 : tref 10 22 = some (50, 0) := by decide +kernel
theorem tr_6_3 : tref 6 3 = some (1000, 0) := by decide +kernel
theorem tr_6_29 : tref 6 29 = some (98, 1) := by decide +kernel
theorem tr_9_3 : tref 9 3 = some (1000, 0) := by decide +kernel
theorem tr_6_36 : tref 6 36 = some (0, 1) := by decide +kernel
theorem tr_0_3 : tref 0 3 = some (1000, 0) := by decide +kernel
theorem tr_6_45 : tref 6 45 = some (14, 1) := by decide +kernel
theorem tr_2_1 : tref 2 1 = some (1000, 0) := by decide +kernel
theorem tr_6_46 : tref 6 46 = some (8, 1) := by decide +kernel
theorem tr_1_3 : tref 1 3 = some (1000, 0) := by decide +kernel
theorem tr_10_25 : tref 10 25 = some (32, 0) := by decide +kernel
theorem tr_5_3 : tref 5 3 = some (1000, 0) := by decide +kernel
theorem tr_5_21 : tref 5 21 = some (1002, 0) := by decide +kernel
theorem tr_5_27 : tref 5 27 = some (1003, 0) := by decide +kernel
theorem tr_10_36 : tref 10 36 = some (17, 1) := by decide +kernel
theorem tr_3_3 : tref 3 3 = some (1000, 0) := by decide +kernel
theorem tr_10_46 : tref 10 46 = some (81, 1) := by decide +kernel
theorem tr_7_3 : tref 7 3 = some (1000, 0) := by decide +kernel
theorem tr_10_53 : tref 10 53 = some (28, 1) := by decide +kernel
theorem tr_4_3 : tref 4 3 = some (1000, 0) := by decide +kernel
theorem tr_10_66 : tref 10 66 = some (0, 1) := by decide +kernel
theorem tr_12_13 : tref 12 13 = some (104, 0) := by decide +kernel
theorem tr_12_18 : tref 12 18 = some (105, 0) := by decide +kernel
theorem tr_12_23 : tref 12 23 = some (106, 0) := by decide +kernel
theorem tr_12_27 : tref 12 27 = some (107, 0) := by decide +kernel
theorem tr_10_88 : tref 10 88 = some (165, 0) := by decide +kernel
theorem tr_10_92 : tref 10 92 = some (162, 0) := by decide +kernel
theorem tr_10_95 : tref 10 95 = some (95, 0) := by decide +kernel
theorem tr_10_99 : tref 10 99 = some (161, 0) := by decide +kernel
theorem tr_12_34 : tref 12 34 = some (108, 0) := by decide +kernel
theorem tr_10_103 : tref 10 103 = some (166, 0) := by decide +kernel
theorem tr_10_107 : tref 10 107 = some (97, 0) := by decide +kernel
theorem tr_12_39 : tref 12 39 = some (109, 0) := by decide +kernel
theorem tr_10_111 : tref 10 111 = some (159, 0) := by decide +kernel
theorem tr_12_44 : tref 12 44 = some (110, 0) := by decide +kernel
theorem tr_10_126 : tref 10 126 = some (96, 0) := by decide +kernel
theorem tr_10_130 : tref 10 130 = some (1001, 0) := by decide +kernel
theorem tr_12_49 : tref 12 49 = some (111, 0) := by decide +kernel
theorem tr_10_139 : tref 10 139 = some (33, 0) := by decide +kernel
theorem tr_12_54 : tref 12 54 = some (112, 0) := by decide +kernel
theorem tr_10_143 : tref 10 143 = some (34, 0) := by decide +kernel
theorem tr_5_49 : tref 5 49 = some (35, 0) := by decide +kernel
theorem tr_5_65 : tref 5 65 = some (36, 0) := by decide +kernel
theorem tr_5_68 : tref 5 68 = some (37, 0) := by decide +kernel
theorem tr_10_146 : tref 10 146 = some (52, 0) := by decide +kernel
theorem tr_6_73 : tref 6 73 = some (38, 0) := by decide +kernel
theorem tr_6_79 : tref 6 79 = some (41, 0) := by decide +kernel
theorem tr_6_83 : tref 6 83 = some (53, 0) := by decide +kernel
theorem tr_6_103 : tref 6 103 = some (39, 0) := by decide +kernel
theorem tr_6_107 : tref 6 107 = some (35, 0) := by decide +kernel
theorem tr_6_110 : tref 6 110 = some (59, 0) := by decide +kernel
theorem tr_6_145 : tref 6 145 = some (48, 0) := by decide +kernel
theorem tr_5_81 : tref 5 81 = some (40, 0) := by decide +kernel
theorem tr_5_73 : tref 5 73 = some (39, 0) := by decide +kernel
theorem tr_6_149 : tref 6 149 = some (60, 0) := by decide +kernel
theorem tr_6_167 : tref 6 167 = some (61, 0) := by decide +kernel
theorem tr_6_184 : tref 6 184 = some (62, 0) := by decide +kernel
theorem tr_6_87 : tref 6 87 = some (54, 0) := by decide +kernel
theorem tr_6_118 : tref 6 118 = some (43, 0) := by decide +kernel
theorem tr_5_77 : tref 5 77 = some (41, 0) := by decide +kernel
theorem tr_6_121 : tref 6 121 = some (46, 0) := by decide +kernel
theorem tr_6_125 : tref 6 125 = some (15, 0) := by decide +kernel
theorem tr_6_128 : tref 6 128 = some (45, 0) := by decide +kernel
theorem tr_6_135 : tref 6 135 = some (58, 0) := by decide +kernel
theorem tr_6_153 : tref 6 153 = some (49, 0) := by decide +kernel
theorem tr_6_157 : tref 6 157 = some (55, 0) := by decide +kernel
theorem tr_6_170 : tref 6 170 = some (42, 0) := by decide +kernel
theorem tr_6_90 : tref 6 90 = some (56, 0) := by decide +kernel
theorem tr_6_174 : tref 6 174 = some (9, 0) := by decide +kernel
theorem tr_6_93 : tref 6 93 = some (57, 0) := by decide +kernel
theorem tr_6_96 : tref 6 96 = some (40, 0) := by decide +kernel
theorem tr_6_99 : tref 6 99 = some (44, 0) := by decide +kernel
theorem tr_5_84 : tref 5 84 = some (42, 0) := by decide +kernel
theorem tr_10_150 : tref 10 150 = some (163, 0) := by decide +kernel
theorem tr_10_156 : tref 10 156 = some (158, 0) := by decide +kernel
theorem tr_12_59 : tref 12 59 = some (113, 0) := by decide +kernel
theorem tr_10_159 : tref 10 159 = some (2, 0) := by decide +kernel
theorem tr_0_47 : tref 0 47 = some (38, 0) := by decide +kernel
theorem tr_0_53 : tref 0 53 = some (41, 0) := by decide +kernel
theorem tr_0_57 : tref 0 57 = some (3, 0) := by decide +kernel
theorem tr_0_69 : tref 0 69 = some (40, 0) := by decide +kernel
theorem tr_0_72 : tref 0 72 = some (35, 0) := by decide +kernel
theorem tr_0_61 : tref 0 61 = some (4, 0) := by decide +kernel
theorem tr_0_81 : tref 0 81 = some (5, 0) := by decide +kernel
theorem tr_0_84 : tref 0 84 = some (39, 0) := by decide +kernel
theorem tr_0_88 : tref 0 88 = some (7, 0) := by decide +kernel
theorem tr_0_99 : tref 0 99 = some (48, 0) := by decide +kernel
theorem tr_0_103 : tref 0 103 = some (62, 0) := by decide +kernel
theorem tr_0_109 : tref 0 109 = some (49, 0) := by decide +kernel
theorem tr_0_116 : tref 0 116 = some (47, 0) := by decide +kernel
theorem tr_0_95 : tref 0 95 = some (45, 0) := by decide +kernel
theorem tr_0_113 : tref 0 113 = some (61, 0) := by decide +kernel
theorem tr_0_92 : tref 0 92 = some (6, 0) := by decide +kernel
theorem tr_0_65 : tref 0 65 = some (44, 0) := by decide +kernel
theorem tr_12_63 : tref 12 63 = some (114, 0) := by decide +kernel
theorem tr_12_67 : tref 12 67 = some (115, 0) := by decide +kernel
theorem tr_12_71 : tref 12 71 = some (116, 0) := by decide +kernel
theorem tr_10_177 : tref 10 177 = some (64, 0) := by decide +kernel
theorem tr_10_199 : tref 10 199 = some (160, 0) := by decide +kernel
theorem tr_12_76 : tref 12 76 = some (117, 0) := by decide +kernel
theorem tr_10_205 : tref 10 205 = some (65, 0) := by decide +kernel
theorem tr_12_80 : tref 12 80 = some (118, 0) := by decide +kernel
theorem tr_10_229 : tref 10 229 = some (11, 0) := by decide +kernel
theorem tr_10_232 : tref 10 232 = some (67, 0) := by decide +kernel
theorem tr_12_85 : tref 12 85 = some (119, 0) := by decide +kernel
theorem tr_10_240 : tref 10 240 = some (63, 0) := by decide +kernel
theorem tr_12_89 : tref 12 89 = some (120, 0) := by decide +kernel
theorem tr_12_93 : tref 12 93 = some (121, 0) := by decide +kernel
theorem tr_10_244 : tref 10 244 = some (68, 0) := by decide +kernel
theorem tr_10_247 : tref 10 247 = some (69, 0) := by decide +kernel
theorem tr_10_251 : tref 10 251 = some (72, 0) := by decide +kernel
theorem tr_6_221 : tref 6 221 = some (70, 0) := by decide +kernel
theorem tr_12_97 : tref 12 97 = some (122, 0) := by decide +kernel
theorem tr_10_255 : tref 10 255 = some (13, 0) := by decide +kernel
theorem tr_12_101 : tref 12 101 = some (123, 0) := by decide +kernel
theorem tr_12_105 : tref 12 105 = some (124, 0) := by decide +kernel
theorem tr_10_258 : tref 10 258 = some (12, 0) := by decide +kernel
theorem tr_12_109 : tref 12 109 = some (125, 0) := by decide +kernel
theorem tr_10_261 : tref 10 261 = some (71, 0) := by decide +kernel
theorem tr_6_207 : tref 6 207 = some (68, 0) := by decide +kernel
theorem tr_6_211 : tref 6 211 = some (69, 0) := by decide +kernel
theorem tr_12_113 : tref 12 113 = some (126, 0) := by decide +kernel
theorem tr_10_265 : tref 10 265 = some (70, 0) := by decide +kernel
theorem tr_12_117 : tref 12 117 = some (127, 0) := by decide +kernel
theorem tr_12_121 : tref 12 121 = some (128, 0) := by decide +kernel
theorem tr_10_268 : tref 10 268 = some (73, 0) := by decide +kernel
theorem tr_6_225 : tref 6 225 = some (99, 0) := by decide +kernel
theorem tr_6_232 : tref 6 232 = some (100, 0) := by decide +kernel
theorem tr_6_236 : tref 6 236 = some (101, 0) := by decide +kernel
theorem tr_12_125 : tref 12 125 = some (129, 0) := by decide +kernel
theorem tr_10_272 : tref 10 272 = some (74, 0) := by decide +kernel
theorem tr_12_129 : tref 12 129 = some (130, 0) := by decide +kernel
theorem tr_10_279 : tref 10 279 = some (99, 0) := by decide +kernel
theorem tr_10_285 : tref 10 285 = some (101, 0) := by decide +kernel
theorem tr_12_133 : tref 12 133 = some (131, 0) := by decide +kernel
theorem tr_10_288 : tref 10 288 = some (102, 0) := by decide +kernel
theorem tr_12_137 : tref 12 137 = some (132, 0) := by decide +kernel
theorem tr_10_291 : tref 10 291 = some (75, 0) := by decide +kernel
theorem tr_6_240 : tref 6 240 = some (74, 0) := by decide +kernel
theorem tr_12_141 : tref 12 141 = some (133, 0) := by decide +kernel
theorem tr_12_145 : tref 12 145 = some (134, 0) := by decide +kernel
theorem tr_12_149 : tref 12 149 = some (135, 0) := by decide +kernel
theorem tr_10_299 : tref 10 299 = some (169, 0) := by decide +kernel
theorem tr_10_302 : tref 10 302 = some (76, 0) := by decide +kernel
theorem tr_6_243 : tref 6 243 = some (1005, 0) := by decide +kernel
theorem tr_6_248 : tref 6 248 = some (67, 0) := by decide +kernel
theorem tr_12_153 : tref 12 153 = some (136, 0) := by decide +kernel
theorem tr_10_306 : tref 10 306 = some (77, 0) := by decide +kernel
theorem tr_12_157 : tref 12 157 = some (137, 0) := by decide +kernel
theorem tr_12_161 : tref 12 161 = some (138, 0) := by decide +kernel
theorem tr_10_309 : tref 10 309 = some (167, 0) := by decide +kernel
theorem tr_10_313 : tref 10 313 = some (66, 0) := by decide +kernel
theorem tr_6_193 : tref 6 193 = some (64, 0) := by decide +kernel
theorem tr_10_317 : tref 10 317 = some (78, 0) := by decide +kernel
theorem tr_12_165 : tref 12 165 = some (139, 0) := by decide +kernel
theorem tr_10_321 : tref 10 321 = some (168, 0) := by decide +kernel
theorem tr_10_422 : tref 10 422 = some (82, 0) := by decide +kernel
theorem tr_10_324 : tref 10 324 = some (88, 0) := by decide +kernel
theorem tr_7_64 : tref 7 64 = some (85, 0) := by decide +kernel
theorem tr_7_42 : tref 7 42 = some (327, 0) := by decide +kernel
theorem tr_7_83 : tref 7 83 = some (89, 0) := by decide +kernel
theorem tr_7_93 : tref 7 93 = some (1006, 0) := by decide +kernel
theorem tr_7_77 : tref 7 77 = some (86, 0) := by decide +kernel
theorem tr_7_48 : tref 7 48 = some (68, 0) := by decide +kernel
theorem tr_12_169 : tref 12 169 = some (140, 0) := by decide +kernel
theorem tr_12_173 : tref 12 173 = some (141, 0) := by decide +kernel
theorem tr_10_328 : tref 10 328 = some (87, 0) := by decide +kernel
theorem tr_7_71 : tref 7 71 = some (1004, 0) := by decide +kernel
theorem tr_12_177 : tref 12 177 = some (142, 0) := by decide +kernel
theorem tr_10_332 : tref 10 332 = some (90, 0) := by decide +kernel
theorem tr_7_96 : tref 7 96 = some (91, 0) := by decide +kernel
theorem tr_12_181 : tref 12 181 = some (143, 0) := by decide +kernel
theorem tr_12_185 : tref 12 185 = some (144, 0) := by decide +kernel
theorem tr_12_189 : tref 12 189 = some (145, 0) := by decide +kernel
theorem tr_10_345 : tref 10 345 = some (83, 0) := by decide +kernel
theorem tr_7_36 : tref 7 36 = some (67, 0) := by decide +kernel
theorem tr_12_194 : tref 12 194 = some (146, 0) := by decide +kernel
theorem tr_10_349 : tref 10 349 = some (84, 0) := by decide +kernel
theorem tr_12_198 : tref 12 198 = some (147, 0) := by decide +kernel
theorem tr_10_352 : tref 10 352 = some (79, 0) := by decide +kernel
theorem tr_10_355 : tref 10 355 = some (327, 0) := by decide +kernel
theorem tr_12_202 : tref 12 202 = some (148, 0) := by decide +kernel
theorem tr_10_360 : tref 10 360 = some (92, 0) := by decide +kernel
theorem tr_7_106 : tref 7 106 = some (1005, 0) := by decide +kernel
theorem tr_7_112 : tref 7 112 = some (93, 0) := by decide +kernel
theorem tr_10_363 : tref 10 363 = some (164, 0) := by decide +kernel
theorem tr_12_207 : tref 12 207 = some (149, 0) := by decide +kernel
theorem tr_10_367 : tref 10 367 = some (80, 0) := by decide +kernel
theorem tr_6_251 : tref 6 251 = some (79, 0) := by decide +kernel
theorem tr_12_211 : tref 12 211 = some (150, 0) := by decide +kernel
theorem tr_10_370 : tref 10 370 = some (170, 0) := by decide +kernel
theorem tr_10_374 : tref 10 374 = some (30, 0) := by decide +kernel
theorem tr_4_52 : tref 4 52 = some (31, 0) := by decide +kernel
theorem tr_4_69 : tref 4 69 = some (70, 0) := by decide +kernel
theorem tr_4_73 : tref 4 73 = some (1004, 0) := by decide +kernel
theorem tr_12_215 : tref 12 215 = some (151, 0) := by decide +kernel
theorem tr_10_381 : tref 10 381 = some (29, 0) := by decide +kernel
theorem tr_12_219 : tref 12 219 = some (152, 0) := by decide +kernel
theorem tr_12_223 : tref 12 223 = some (153, 0) := by decide +kernel
theorem tr_10_392 : tref 10 392 = some (18, 0) := by decide +kernel
theorem tr_3_48 : tref 3 48 = some (19, 0) := by decide +kernel
theorem tr_3_52 : tref 3 52 = some (20, 0) := by decide +kernel
theorem tr_3_73 : tref 3 73 = some (23, 0) := by decide +kernel
theorem tr_3_115 : tref 3 115 = some (64, 0) := by decide +kernel
theorem tr_3_119 : tref 3 119 = some (68, 0) := by decide +kernel
theorem tr_3_123 : tref 3 123 = some (69, 0) := by decide +kernel
theorem tr_3_126 : tref 3 126 = some (72, 0) := by decide +kernel
theorem tr_3_77 : tref 3 77 = some (24, 0) := by decide +kernel
theorem tr_3_129 : tref 3 129 = some (11, 0) := by decide +kernel
theorem tr_3_132 : tref 3 132 = some (13, 0) := by decide +kernel
theorem tr_3_81 : tref 3 81 = some (25, 0) := by decide +kernel
theorem tr_3_136 : tref 3 136 = some (26, 0) := by decide +kernel
theorem tr_3_139 : tref 3 139 = some (73, 0) := by decide +kernel
theorem tr_3_143 : tref 3 143 = some (71, 0) := by decide +kernel
theorem tr_3_147 : tref 3 147 = some (327, 0) := by decide +kernel
theorem tr_3_152 : tref 3 152 = some (27, 0) := by decide +kernel
theorem tr_3_90 : tref 3 90 = some (12, 0) := by decide +kernel
theorem tr_3_94 : tref 3 94 = some (21, 0) := by decide +kernel
theorem tr_3_104 : tref 3 104 = some (22, 0) := by decide +kernel
theorem tr_3_108 : tref 3 108 = some (74, 0) := by decide +kernel
theorem tr_12_227 : tref 12 227 = some (154, 0) := by decide +kernel
theorem tr_12_231 : tref 12 231 = some (155, 0) := by decide +kernel
theorem tr_10_409 : tref 10 409 = some (51, 0) := by decide +kernel
theorem tr_6_50 : tref 6 50 = some (16, 0) := by decide +kernel
theorem tr_6_57 : tref 6 57 = some (10, 0) := by decide +kernel
theorem tr_1_35 : tref 1 35 = some (1001, 0) := by decide +kernel
theorem tr_6_60 : tref 6 60 = some (1, 0) := by decide +kernel
theorem tr_0_30 : tref 0 30 = some (1001, 0) := by decide +kernel
theorem tr_12_235 : tref 12 235 = some (156, 0) := by decide +kernel
theorem tr_12_239 : tref 12 239 = some (157, 0) := by decide +kernel
theorem tr_12_12 : tref 12 12 = some (171, 0) := by decide +kernel
theorem tr_11_1 : tref 11 1 = some (1000, 0) := by decide +kernel
theorem tr_12_17 : tref 12 17 = some (172, 0) := by decide +kernel
theorem tr_12_22 : tref 12 22 = some (173, 0) := by decide +kernel
theorem tr_12_26 : tref 12 26 = some (174, 0) := by decide +kernel
theorem tr_12_31 : tref 12 31 = some (180, 0) := by decide +kernel
theorem tr_11_109 : tref 11 109 = some (176, 0) := by decide +kernel
theorem tr_12_38 : tref 12 38 = some (183, 0) := by decide +kernel
theorem tr_11_117 : tref 11 117 = some (182, 0) := by decide +kernel
theorem tr_11_113 : tref 11 113 = some (181, 0) := by decide +kernel
theorem tr_11_121 : tref 11 121 = some (179, 0) := by decide +kernel
theorem tr_12_43 : tref 12 43 = some (184, 0) := by decide +kernel
theorem tr_12_48 : tref 12 48 = some (185, 0) := by decide +kernel
theorem tr_12_53 : tref 12 53 = some (217, 0) := by decide +kernel
theorem tr_11_244 : tref 11 244 = some (218, 0) := by decide +kernel
theorem tr_12_66 : tref 12 66 = some (221, 0) := by decide +kernel
theorem tr_12_58 : tref 12 58 = some (234, 0) := by decide +kernel
theorem tr_11_294 : tref 11 294 = some (219, 0) := by decide +kernel
theorem tr_11_235 : tref 11 235 = some (193, 0) := by decide +kernel
theorem tr_11_142 : tref 11 142 = some (189, 0) := by decide +kernel
theorem tr_11_148 : tref 11 148 = some (190, 0) := by decide +kernel
theorem tr_11_161 : tref 11 161 = some (191, 0) := by decide +kernel
theorem tr_11_167 : tref 11 167 = some (192, 0) := by decide +kernel
theorem tr_11_178 : tref 11 178 = some (197, 0) := by decide +kernel
theorem tr_11_170 : tref 11 170 = some (195, 0) := by decide +kernel
theorem tr_11_174 : tref 11 174 = some (196, 0) := by decide +kernel
theorem tr_11_297 : tref 11 297 = some (229, 0) := by decide +kernel
theorem tr_11_231 : tref 11 231 = some (213, 0) := by decide +kernel
theorem tr_11_274 : tref 11 274 = some (226, 0) := by decide +kernel
theorem tr_11_252 : tref 11 252 = some (212, 0) := by decide +kernel
theorem tr_11_222 : tref 11 222 = some (211, 0) := by decide +kernel
theorem tr_11_182 : tref 11 182 = some (198, 0) := by decide +kernel
theorem tr_11_185 : tref 11 185 = some (199, 0) := by decide +kernel
theorem tr_11_188 : tref 11 188 = some (200, 0) := by decide +kernel
theorem tr_11_191 : tref 11 191 = some (201, 0) := by decide +kernel
theorem tr_11_194 : tref 11 194 = some (202, 0) := by decide +kernel
theorem tr_11_197 : tref 11 197 = some (203, 0) := by decide +kernel
theorem tr_11_200 : tref 11 200 = some (204, 0) := by decide +kernel
theorem tr_11_203 : tref 11 203 = some (205, 0) := by decide +kernel
theorem tr_11_206 : tref 11 206 = some (206, 0) := by decide +kernel
theorem tr_11_209 : tref 11 209 = some (207, 0) := by decide +kernel
theorem tr_11_212 : tref 11 212 = some (208, 0) := by decide +kernel
theorem tr_11_216 : tref 11 216 = some (209, 0) := by decide +kernel
theorem tr_11_219 : tref 11 219 = some (210, 0) := by decide +kernel
theorem tr_11_238 : tref 11 238 = some (214, 0) := by decide +kernel
theorem tr_11_255 : tref 11 255 = some (223, 0) := by decide +kernel
theorem tr_11_248 : tref 11 248 = some (222, 0) := by decide +kernel
theorem tr_11_258 : tref 11 258 = some (224, 0) := by decide +kernel
theorem tr_11_261 : tref 11 261 = some (225, 0) := by decide +kernel
theorem tr_11_300 : tref 11 300 = some (231, 0) := by decide +kernel
theorem tr_11_270 : tref 11 270 = some (215, 0) := by decide +kernel
theorem tr_11_281 : tref 11 281 = some (216, 0) := by decide +kernel
theorem tr_11_129 : tref 11 129 = some (177, 0) := by decide +kernel
theorem tr_11_284 : tref 11 284 = some (228, 0) := by decide +kernel
theorem tr_11_267 : tref 11 267 = some (227, 0) := by decide +kernel
theorem tr_11_264 : tref 11 264 = some (1004, 0) := by decide +kernel
theorem tr_11_287 : tref 11 287 = some (230, 0) := by decide +kernel
theorem tr_11_277 : tref 11 277 = some (188, 0) := by decide +kernel
theorem tr_11_303 : tref 11 303 = some (232, 0) := by decide +kernel
theorem tr_11_306 : tref 11 306 = some (233, 0) := by decide +kernel
theorem tr_11_309 : tref 11 309 = some (194, 0) := by decide +kernel
theorem tr_11_312 : tref 11 312 = some (220, 0) := by decide +kernel
theorem tr_11_315 : tref 11 315 = some (324, 0) := by decide +kernel
theorem tr_12_62 : tref 12 62 = some (238, 0) := by decide +kernel
theorem tr_11_327 : tref 11 327 = some (237, 0) := by decide +kernel
theorem tr_11_324 : tref 11 324 = some (236, 0) := by decide +kernel
theorem tr_11_318 : tref 11 318 = some (235, 0) := by decide +kernel
theorem tr_12_70 : tref 12 70 = some (245, 0) := by decide +kernel
theorem tr_11_336 : tref 11 336 = some (175, 0) := by decide +kernel
theorem tr_12_75 : tref 12 75 = some (246, 0) := by decide +kernel
theorem tr_11_339 : tref 11 339 = some (239, 0) := by decide +kernel
theorem tr_12_79 : tref 12 79 = some (247, 0) := by decide +kernel
theorem tr_11_342 : tref 11 342 = some (240, 0) := by decide +kernel
theorem tr_11_333 : tref 11 333 = some (241, 0) := by decide +kernel
theorem tr_11_345 : tref 11 345 = some (244, 0) := by decide +kernel
theorem tr_11_330 : tref 11 330 = some (242, 0) := by decide +kernel
theorem tr_12_84 : tref 12 84 = some (248, 0) := by decide +kernel
theorem tr_11_348 : tref 11 348 = some (243, 0) := by decide +kernel
theorem tr_12_88 : tref 12 88 = some (249, 0) := by decide +kernel
theorem tr_12_92 : tref 12 92 = some (250, 0) := by decide +kernel
theorem tr_11_351 : tref 11 351 = some (187, 0) := by decide +kernel
theorem tr_12_96 : tref 12 96 = some (255, 0) := by decide +kernel
theorem tr_11_360 : tref 11 360 = some (253, 0) := by decide +kernel
theorem tr_11_354 : tref 11 354 = some (252, 0) := by decide +kernel
theorem tr_11_363 : tref 11 363 = some (254, 0) := by decide +kernel
theorem tr_11_357 : tref 11 357 = some (251, 0) := by decide +kernel
theorem tr_12_100 : tref 12 100 = some (257, 0) := by decide +kernel
theorem tr_11_366 : tref 11 366 = some (256, 0) := by decide +kernel
theorem tr_12_104 : tref 12 104 = some (258, 0) := by decide +kernel
theorem tr_12_108 : tref 12 108 = some (260, 0) := by decide +kernel
theorem tr_11_371 : tref 11 371 = some (259, 0) := by decide +kernel
theorem tr_12_112 : tref 12 112 = some (264, 0) := by decide +kernel
theorem tr_11_377 : tref 11 377 = some (262, 0) := by decide +kernel
theorem tr_11_374 : tref 11 374 = some (261, 0) := by decide +kernel
theorem tr_12_116 : tref 12 116 = some (265, 0) := by decide +kernel
theorem tr_12_120 : tref 12 120 = some (266, 0) := by decide +kernel
theorem tr_11_381 : tref 11 381 = some (263, 0) := by decide +kernel
theorem tr_12_124 : tref 12 124 = some (274, 0) := by decide +kernel
theorem tr_11_402 : tref 11 402 = some (273, 0) := by decide +kernel
theorem tr_11_399 : tref 11 399 = some (272, 0) := by decide +kernel
theorem tr_11_393 : tref 11 393 = some (270, 0) := by decide +kernel
theorem tr_11_396 : tref 11 396 = some (269, 0) := by decide +kernel
theorem tr_11_390 : tref 11 390 = some (268, 0) := by decide +kernel
theorem tr_11_387 : tref 11 387 = some (267, 0) := by decide +kernel
theorem tr_12_128 : tref 12 128 = some (275, 0) := by decide +kernel
theorem tr_11_405 : tref 11 405 = some (271, 0) := by decide +kernel
theorem tr_12_132 : tref 12 132 = some (276, 0) := by decide +kernel
theorem tr_12_136 : tref 12 136 = some (277, 0) := by decide +kernel
theorem tr_12_140 : tref 12 140 = some (279, 0) := by decide +kernel
theorem tr_11_408 : tref 11 408 = some (278, 0) := by decide +kernel
theorem tr_12_144 : tref 12 144 = some (280, 0) := by decide +kernel
theorem tr_12_148 : tref 12 148 = some (281, 0) := by decide +kernel
theorem tr_12_152 : tref 12 152 = some (282, 0) := by decide +kernel
theorem tr_12_156 : tref 12 156 = some (284, 0) := by decide +kernel
theorem tr_11_411 : tref 11 411 = some (283, 0) := by decide +kernel
theorem tr_12_160 : tref 12 160 = some (285, 0) := by decide +kernel
theorem tr_12_164 : tref 12 164 = some (286, 0) := by decide +kernel
theorem tr_11_416 : tref 11 416 = some (186, 0) := by decide +kernel
theorem tr_12_168 : tref 12 168 = some (291, 0) := by decide +kernel
theorem tr_11_429 : tref 11 429 = some (289, 0) := by decide +kernel
theorem tr_11_426 : tref 11 426 = some (287, 0) := by decide +kernel
theorem tr_11_421 : tref 11 421 = some (1005, 0) := by decide +kernel
theorem tr_11_432 : tref 11 432 = some (290, 0) := by decide +kernel
theorem tr_12_172 : tref 12 172 = some (292, 0) := by decide +kernel
theorem tr_12_176 : tref 12 176 = some (293, 0) := by decide +kernel
theorem tr_11_436 : tref 11 436 = some (288, 0) := by decide +kernel
theorem tr_12_180 : tref 12 180 = some (294, 0) := by decide +kernel
theorem tr_12_184 : tref 12 184 = some (295, 0) := by decide +kernel
theorem tr_12_188 : tref 12 188 = some (296, 0) := by decide +kernel
theorem tr_12_193 : tref 12 193 = some (297, 0) := by decide +kernel
theorem tr_12_197 : tref 12 197 = some (299, 0) := by decide +kernel
theorem tr_11_443 : tref 11 443 = some (298, 0) := by decide +kernel
theorem tr_12_206 : tref 12 206 = some (302, 0) := by decide +kernel
theorem tr_11_449 : tref 11 449 = some (301, 0) := by decide +kernel
theorem tr_11_446 : tref 11 446 = some (300, 0) := by decide +kernel
theorem tr_11_452 : tref 11 452 = some (178, 0) := by decide +kernel
theorem tr_11_103 : tref 11 103 = some (1007, 0) := by decide +kernel
theorem tr_12_201 : tref 12 201 = some (304, 0) := by decide +kernel
theorem tr_11_456 : tref 11 456 = some (303, 0) := by decide +kernel
theorem tr_12_210 : tref 12 210 = some (305, 0) := by decide +kernel
theorem tr_12_214 : tref 12 214 = some (309, 0) := by decide +kernel
theorem tr_11_462 : tref 11 462 = some (307, 0) := by decide +kernel
theorem tr_11_459 : tref 11 459 = some (306, 0) := by decide +kernel
theorem tr_11_465 : tref 11 465 = some (308, 0) := by decide +kernel
theorem tr_12_218 : tref 12 218 = some (310, 0) := by decide +kernel
theorem tr_12_222 : tref 12 222 = some (311, 0) := by decide +kernel
theorem tr_12_226 : tref 12 226 = some (321, 0) := by decide +kernel
theorem tr_11_516 : tref 11 516 = some (320, 0) := by decide +kernel
theorem tr_11_508 : tref 11 508 = some (319, 0) := by decide +kernel
theorem tr_11_511 : tref 11 511 = some (318, 0) := by decide +kernel
theorem tr_11_502 : tref 11 502 = some (316, 0) := by decide +kernel
theorem tr_11_481 : tref 11 481 = some (313, 0) := by decide +kernel
theorem tr_11_484 : tref 11 484 = some (314, 0) := by decide +kernel
theorem tr_11_487 : tref 11 487 = some (315, 0) := by decide +kernel
theorem tr_11_478 : tref 11 478 = some (312, 0) := by decide +kernel
theorem tr_11_505 : tref 11 505 = some (317, 0) := by decide +kernel
theorem tr_12_230 : tref 12 230 = some (322, 0) := by decide +kernel
theorem tr_12_234 : tref 12 234 = some (323, 0) := by decide +kernel
theorem tr_12_238 : tref 12 238 = some (325, 0) := by decide +kernel
theorem tr_12_242 : tref 12 242 = some (326, 0) := by decide +kernel
theorem tc_13_265 : tcst 13 265 = some 1431655765 := by decide +kernel
theorem tc_13_266 : tcst 13 266 = some 858993459 := by decide +kernel
theorem tc_13_267 : tcst 13 267 = some 252645135 := by decide +kernel
theorem tc_3_156 : tcst 3 156 = some 65536 := by decide +kernel
theorem tc_11_66 : tcst 11 66 = some 73728 := by decide +kernel
theorem tc_11_420 : tcst 11 420 = some 99999 := by decide +kernel
theorem tc_11_471 : tcst 11 471 = some 65536 := by decide +kernel
theorem tl_5_31 : tcsl 5 31 = some (32) := by decide +kernel
theorem tl_5_71 : tcsl 5 71 = some (10) := by decide +kernel
theorem tl_7_27 : tcsl 7 27 = some (26) := by decide +kernel
theorem tl_7_81 : tcsl 7 81 = some (-1) := by decide +kernel
theorem tl_11_125 : tcsl 11 125 = some (-1) := by decide +kernel
theorem tl_11_154 : tcsl 11 154 = some (32) := by decide +kernel
theorem tl_11_156 : tcsl 11 156 = some (96) := by decide +kernel
theorem tl_11_127 : tcsl 11 127 = some (3) := by decide +kernel
theorem tl_11_369 : tcsl 11 369 = some (99) := by decide +kernel
theorem tl_11_414 : tcsl 11 414 = some (12) := by decide +kernel
theorem tl_11_424 : tcsl 11 424 = some (26) := by decide +kernel
theorem tl_11_514 : tcsl 11 514 = some (9999) := by decide +kernel
theorem tl_11_522 : tcsl 11 522 = some (20) := by decide +kernel
theorem tl_12_32 : tcsl 12 32 = some (4294967295) := by decide +kernel
theorem tk_50_27 : tcls (own 50) 27 = some 9 := by decide +kernel
theorem tk_50_34 : tcls (own 50) 34 = some 0 := by decide +kernel
theorem tk_50_15 : tcls (own 50) 15 = some 2 := by decide +kernel
theorem tk_50_21 : tcls (own 50) 21 = some 1 := by decide +kernel
theorem tk_103_9 : tcls (own 103) 9 = some 8 := by decide +kernel
theorem tk_103_16 : tcls (own 103) 16 = some 6 := by decide +kernel
theorem tk_103_23 : tcls (own 103) 23 = some 5 := by decide +kernel
theorem tk_103_34 : tcls (own 103) 34 = some 3 := by decide +kernel
theorem tk_103_44 : tcls (own 103) 44 = some 7 := by decide +kernel
theorem tk_103_51 : tcls (own 103) 51 = some 4 := by decide +kernel
theorem tk_103_64 : tcls (own 103) 64 = some 0 := by decide +kernel
theorem tk_332_7 : tcls (own 332) 7 = some 10 := by decide +kernel
theorem tk_332_10 : tcls (own 332) 10 = some 11 := by decide +kernel
