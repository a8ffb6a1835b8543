theorem e0_0 {d : Nat} {st : List AV} {h : AM} {x : Int} : EV d 0 0 [(2, x)] st h = EV d 0 1 [(2, x)] ((2, x) :: st) h := G_aload_n (m0 dX0_init_0) rfl
theorem e0_1 {d : Nat} {L st : List AV} {h : AM} {r : Int} (hs : st.length ≤ 4) (h0 : 0 ≤ r) : EV (d + 1) 0 1 L ((2, r) :: st) h = EV (d + 1) 0 4 L st h := E_oi (m0 dX0_init_1) (rr0 tr_0_3) hs h0
theorem e0_4 {d : Nat} {st : List AV} {h : AM} {x : Int} : EV d 0 4 [(2, x)] st h = EV d 0 5 [(2, x)] ((2, x) :: st) h := G_aload_n (m0 dX0_init_4) rfl
theorem e0_5 {d : Nat} {L st : List AV} {h : AM} : EV d 0 5 L st h = EV d 0 7 L ((0, 30) :: st) h := G_bipush (m0 dX0_init_5) (by decide)
theorem e0_7 {d : Nat} {L st : List AV} {h : AM} {n : Int} (h0 : 0 ≤ n) (h1 : n ≤ 1000000) : EV d 0 7 L ((0, n) :: st) h = EV d 0 9 L ((2, mnx h) :: st) (mal h 16 n (fun _ => 0)) := E_newi (m0 dX0_init_7) ⟨h0, h1⟩
theorem pk_0_0_0 : pok 0 0 0 2 = true := by decide +kernel
theorem e0_9 {d : Nat} {L st : List AV} {h : AM} {r v : Int} (hk : isK h r 0) : EV d 0 9 L ((2, v) :: (2, r) :: st) h = EV d 0 12 L st (mwr h r 0 v) := G_put (m0 dX0_init_9) ow0 tf_0_9 pk_0_0_0 rfl hk
theorem e0_12 {d : Nat} {st : List AV} {h : AM} {x : Int} : EV d 0 12 [(2, x)] st h = EV d 0 13 [(2, x)] ((2, x) :: st) h := G_aload_n (m0 dX0_init_12) rfl
theorem e0_13 {d : Nat} {L st : List AV} {h : AM} : EV d 0 13 L st h = EV d 0 15 L ((0, 30) :: st) h := G_bipush (m0 dX0_init_13) (by decide)
theorem e0_15 {d : Nat} {L st : List AV} {h : AM} {n : Int} (h0 : 0 ≤ n) (h1 : n ≤ 1000000) : EV d 0 15 L ((0, n) :: st) h = EV d 0 17 L ((2, mnx h) :: st) (mal h 16 n (fun _ => 0)) := E_newi (m0 dX0_init_15) ⟨h0, h1⟩
theorem pk_0_0_1 : pok 0 0 1 2 = true := by decide +kernel
theorem e0_17 {d : Nat} {L st : List AV} {h : AM} {r v : Int} (hk : isK h r 0) : EV d 0 17 L ((2, v) :: (2, r) :: st) h = EV d 0 20 L st (mwr h r 1 v) := G_put (m0 dX0_init_17) ow0 tf_0_15 pk_0_0_1 rfl hk
theorem e0_20 {d : Nat} {st : List AV} {h : AM} {x : Int} : EV d 0 20 [(2, x)] st h = EV d 0 21 [(2, x)] ((2, x) :: st) h := G_aload_n (m0 dX0_init_20) rfl
theorem e0_21 {d : Nat} {L st : List AV} {h : AM} : EV d 0 21 L st h = EV d 0 23 L ((0, 30) :: st) h := G_bipush (m0 dX0_init_21) (by decide)
theorem e0_23 {d : Nat} {L st : List AV} {h : AM} {n : Int} (h0 : 0 ≤ n) (h1 : n ≤ 1000000) : EV d 0 23 L ((0, n) :: st) h = EV d 0 25 L ((2, mnx h) :: st) (mal h 16 n (fun _ => 0)) := E_newi (m0 dX0_init_23) ⟨h0, h1⟩
theorem pk_0_0_2 : pok 0 0 2 2 = true := by decide +kernel
theorem e0_25 {d : Nat} {L st : List AV} {h : AM} {r v : Int} (hk : isK h r 0) : EV d 0 25 L ((2, v) :: (2, r) :: st) h = EV d 0 28 L st (mwr h r 2 v) := G_put (m0 dX0_init_25) ow0 tf_0_18 pk_0_0_2 rfl hk
theorem e0_28 {d : Nat} {st : List AV} {h : AM} {x : Int} : EV d 0 28 [(2, x)] st h = EV d 0 29 [(2, x)] ((2, x) :: st) h := G_aload_n (m0 dX0_init_28) rfl
theorem e0_29 {d : Nat} {L st : List AV} {h : AM} : EV d 0 29 L st h = EV d 0 31 L ((0, 30) :: st) h := G_bipush (m0 dX0_init_29) (by decide)
theorem e0_31 {d : Nat} {L st : List AV} {h : AM} {n : Int} (h0 : 0 ≤ n) (h1 : n ≤ 1000000) : EV d 0 31 L ((0, n) :: st) h = EV d 0 33 L ((2, mnx h) :: st) (mal h 16 n (fun _ => 0)) := E_newi (m0 dX0_init_31) ⟨h0, h1⟩
theorem pk_0_0_3 : pok 0 0 3 2 = true := by decide +kernel
theorem e0_33 {d : Nat} {L st : List AV} {h : AM} {r v : Int} (hk : isK h r 0) : EV d 0 33 L ((2, v) :: (2, r) :: st) h = EV d 0 36 L st (mwr h r 3 v) := G_put (m0 dX0_init_33) ow0 tf_0_21 pk_0_0_3 rfl hk
theorem e0_36 {d : Nat} {st : List AV} {h : AM} {x : Int} : EV d 0 36 [(2, x)] st h = EV d 0 37 [(2, x)] ((2, x) :: st) h := G_aload_n (m0 dX0_init_36) rfl
theorem e0_37 {d : Nat} {L st : List AV} {h : AM} : EV d 0 37 L st h = EV d 0 39 L ((0, 30) :: st) h := G_bipush (m0 dX0_init_37) (by decide)
theorem e0_39 {d : Nat} {L st : List AV} {h : AM} {n : Int} (h0 : 0 ≤ n) (h1 : n ≤ 1000000) : EV d 0 39 L ((0, n) :: st) h = EV d 0 41 L ((2, mnx h) :: st) (mal h 16 n (fun _ => 0)) := E_newi (m0 dX0_init_39) ⟨h0, h1⟩
theorem pk_0_0_4 : pok 0 0 4 2 = true := by decide +kernel
theorem e0_41 {d : Nat} {L st : List AV} {h : AM} {r v : Int} (hk : isK h r 0) : EV d 0 41 L ((2, v) :: (2, r) :: st) h = EV d 0 44 L st (mwr h r 4 v) := G_put (m0 dX0_init_41) ow0 tf_0_24 pk_0_0_4 rfl hk
theorem e0_44 {d : Nat} {st : List AV} {h : AM} {x : Int} : EV d 0 44 [(2, x)] st h = EV d 0 45 [(2, x)] ((2, x) :: st) h := G_aload_n (m0 dX0_init_44) rfl
theorem e0_45 {d : Nat} {L st : List AV} {h : AM} : EV d 0 45 L st h = EV d 0 46 L ((0, 3) :: st) h := G_iconst (m0 dX0_init_45) (by decide)
theorem e0_46 {d : Nat} {L st : List AV} {h : AM} {n : Int} (h0 : 0 ≤ n) (h1 : n ≤ 1000000) : EV d 0 46 L ((0, n) :: st) h = EV d 0 48 L ((2, mnx h) :: st) (mal h 16 n (fun _ => 0)) := E_newi (m0 dX0_init_46) ⟨h0, h1⟩
theorem pk_0_0_5 : pok 0 0 5 2 = true := by decide +kernel
theorem e0_48 {d : Nat} {L st : List AV} {h : AM} {r v : Int} (hk : isK h r 0) : EV d 0 48 L ((2, v) :: (2, r) :: st) h = EV d 0 51 L st (mwr h r 5 v) := G_put (m0 dX0_init_48) ow0 tf_0_27 pk_0_0_5 rfl hk
theorem e0_51 {d : Nat} {L : List AV} {h : AM} : EV d 0 51 L [] h = some ((3, 0), h) := E_ret (m0 dX0_init_51) rt0
theorem e1_0 {d : Nat} {l0 : AV} {st : List AV} {h : AM} {x : Int} : EV d 1 0 [l0, (2, x)] st h = EV d 1 1 [l0, (2, x)] ((2, x) :: st) h := G_aload_n (m1 dX0_copyFrom_0) rfl
theorem e1_1 {d : Nat} {L st : List AV} {h : AM} {r : Int} (hk : isK h r 0) : EV d 1 1 L ((2, r) :: st) h = EV d 1 4 L ((2, mrd h r 0) :: st) h := G_get (m1 dX0_copyFrom_1) ow1 tf_0_9 rfl rfl hk
theorem e1_4 {d : Nat} {L st : List AV} {h : AM} : EV d 1 4 L st h = EV d 1 5 L ((0, 0) :: st) h := G_iconst (m1 dX0_copyFrom_4) (by decide)
theorem e1_5 {d : Nat} {l1 : AV} {st : List AV} {h : AM} {x : Int} : EV d 1 5 [(2, x), l1] st h = EV d 1 6 [(2, x), l1] ((2, x) :: st) h := G_aload_n (m1 dX0_copyFrom_5) rfl
theorem e1_6 {d : Nat} {L st : List AV} {h : AM} {r : Int} (hk : isK h r 0) : EV d 1 6 L ((2, r) :: st) h = EV d 1 9 L ((2, mrd h r 0) :: st) h := G_get (m1 dX0_copyFrom_6) ow1 tf_0_9 rfl rfl hk
theorem e1_9 {d : Nat} {L st : List AV} {h : AM} : EV d 1 9 L st h = EV d 1 10 L ((0, 0) :: st) h := G_iconst (m1 dX0_copyFrom_9) (by decide)
theorem e1_10 {d : Nat} {L st : List AV} {h : AM} : EV d 1 10 L st h = EV d 1 12 L ((0, 30) :: st) h := G_bipush (m1 dX0_copyFrom_10) (by decide)
theorem e1_12 {d : Nat} {L st : List AV} {h : AM} {n j b i a : Int} (hs : st.length ≤ 4) (hk : (isK h a 16 ∧ isK h b 16) ∨ (isK h a 19 ∧ isK h b 19)) (h1 : 0 ≤ i) (h2 : 0 ≤ j) (h3 : 0 ≤ n) (h4 : i + n ≤ mln h a) (h5 : j + n ≤ mln h b) : EV (d + 1) 1 12 L ((0, n) :: (0, j) :: (2, b) :: (0, i) :: (2, a) :: st) h = EV (d + 1) 1 15 L st (mcp h a i b j n) := E_acp (m1 dX0_copyFrom_12) (rr1 tr_0_30) hs hk h1 h2 h3 h4 h5
theorem e1_15 {d : Nat} {l0 : AV} {st : List AV} {h : AM} {x : Int} : EV d 1 15 [l0, (2, x)] st h = EV d 1 16 [l0, (2, x)] ((2, x) :: st) h := G_aload_n (m1 dX0_copyFrom_15) rfl
theorem e1_16 {d : Nat} {L st : List AV} {h : AM} {r : Int} (hk : isK h r 0) : EV d 1 16 L ((2, r) :: st) h = EV d 1 19 L ((2, mrd h r 1) :: st) h := G_get (m1 dX0_copyFrom_16) ow1 tf_0_15 rfl rfl hk
theorem e1_19 {d : Nat} {L st : List AV} {h : AM} : EV d 1 19 L st h = EV d 1 20 L ((0, 0) :: st) h := G_iconst (m1 dX0_copyFrom_19) (by decide)
theorem e1_20 {d : Nat} {l1 : AV} {st : List AV} {h : AM} {x : Int} : EV d 1 20 [(2, x), l1] st h = EV d 1 21 [(2, x), l1] ((2, x) :: st) h := G_aload_n (m1 dX0_copyFrom_20) rfl
theorem e1_21 {d : Nat} {L st : List AV} {h : AM} {r : Int} (hk : isK h r 0) : EV d 1 21 L ((2, r) :: st) h = EV d 1 24 L ((2, mrd h r 1) :: st) h := G_get (m1 dX0_copyFrom_21) ow1 tf_0_15 rfl rfl hk
theorem e1_24 {d : Nat} {L st : List AV} {h : AM} : EV d 1 24 L st h = EV d 1 25 L ((0, 0) :: st) h := G_iconst (m1 dX0_copyFrom_24) (by decide)
theorem e1_25 {d : Nat} {L st : List AV} {h : AM} : EV d 1 25 L st h = EV d 1 27 L ((0, 30) :: st) h := G_bipush (m1 dX0_copyFrom_25) (by decide)
theorem e1_27 {d : Nat} {L st : List AV} {h : AM} {n j b i a : Int} (hs : st.length ≤ 4) (hk : (isK h a 16 ∧ isK h b 16) ∨ (isK h a 19 ∧ isK h b 19)) (h1 : 0 ≤ i) (h2 : 0 ≤ j) (h3 : 0 ≤ n) (h4 : i + n ≤ mln h a) (h5 : j + n ≤ mln h b) : EV (d + 1) 1 27 L ((0, n) :: (0, j) :: (2, b) :: (0, i) :: (2, a) :: st) h = EV (d + 1) 1 30 L st (mcp h a i b j n) := E_acp (m1 dX0_copyFrom_27) (rr1 tr_0_30) hs hk h1 h2 h3 h4 h5
theorem e1_30 {d : Nat} {l0 : AV} {st : List AV} {h : AM} {x : Int} : EV d 1 30 [l0, (2, x)] st h = EV d 1 31 [l0, (2, x)] ((2, x) :: st) h := G_aload_n (m1 dX0_copyFrom_30) rfl
theorem e1_31 {d : Nat} {L st : List AV} {h : AM} {r : Int} (hk : isK h r 0) : EV d 1 31 L ((2, r) :: st) h = EV d 1 34 L ((2, mrd h r 2) :: st) h := G_get (m1 dX0_copyFrom_31) ow1 tf_0_18 rfl rfl hk
theorem e1_34 {d : Nat} {L st : List AV} {h : AM} : EV d 1 34 L st h = EV d 1 35 L ((0, 0) :: st) h := G_iconst (m1 dX0_copyFrom_34) (by decide)
theorem e1_35 {d : Nat} {l1 : AV} {st : List AV} {h : AM} {x : Int} : EV d 1 35 [(2, x), l1] st h = EV d 1 36 [(2, x), l1] ((2, x) :: st) h := G_aload_n (m1 dX0_copyFrom_35) rfl
theorem e1_36 {d : Nat} {L st : List AV} {h : AM} {r : Int} (hk : isK h r 0) : EV d 1 36 L ((2, r) :: st) h = EV d 1 39 L ((2, mrd h r 2) :: st) h := G_get (m1 dX0_copyFrom_36) ow1 tf_0_18 rfl rfl hk
theorem e1_39 {d : Nat} {L st : List AV} {h : AM} : EV d 1 39 L st h = EV d 1 40 L ((0, 0) :: st) h := G_iconst (m1 dX0_copyFrom_39) (by decide)
theorem e1_40 {d : Nat} {L st : List AV} {h : AM} : EV d 1 40 L st h = EV d 1 42 L ((0, 30) :: st) h := G_bipush (m1 dX0_copyFrom_40) (by decide)
theorem e1_42 {d : Nat} {L st : List AV} {h : AM} {n j b i a : Int} (hs : st.length ≤ 4) (hk : (isK h a 16 ∧ isK h b 16) ∨ (isK h a 19 ∧ isK h b 19)) (h1 : 0 ≤ i) (h2 : 0 ≤ j) (h3 : 0 ≤ n) (h4 : i + n ≤ mln h a) (h5 : j + n ≤ mln h b) : EV (d + 1) 1 42 L ((0, n) :: (0, j) :: (2, b) :: (0, i) :: (2, a) :: st) h = EV (d + 1) 1 45 L st (mcp h a i b j n) := E_acp (m1 dX0_copyFrom_42) (rr1 tr_0_30) hs hk h1 h2 h3 h4 h5
theorem e1_45 {d : Nat} {l0 : AV} {st : List AV} {h : AM} {x : Int} : EV d 1 45 [l0, (2, x)] st h = EV d 1 46 [l0, (2, x)] ((2, x) :: st) h := G_aload_n (m1 dX0_copyFrom_45) rfl
theorem e1_46 {d : Nat} {L st : List AV} {h : AM} {r : Int} (hk : isK h r 0) : EV d 1 46 L ((2, r) :: st) h = EV d 1 49 L ((2, mrd h r 3) :: st) h := G_get (m1 dX0_copyFrom_46) ow1 tf_0_21 rfl rfl hk
theorem e1_49 {d : Nat} {L st : List AV} {h : AM} : EV d 1 49 L st h = EV d 1 50 L ((0, 0) :: st) h := G_iconst (m1 dX0_copyFrom_49) (by decide)
theorem e1_50 {d : Nat} {l1 : AV} {st : List AV} {h : AM} {x : Int} : EV d 1 50 [(2, x), l1] st h = EV d 1 51 [(2, x), l1] ((2, x) :: st) h := G_aload_n (m1 dX0_copyFrom_50) rfl
theorem e1_51 {d : Nat} {L st : List AV} {h : AM} {r : Int} (hk : isK h r 0) : EV d 1 51 L ((2, r) :: st) h = EV d 1 54 L ((2, mrd h r 3) :: st) h := G_get (m1 dX0_copyFrom_51) ow1 tf_0_21 rfl rfl hk
theorem e1_54 {d : Nat} {L st : List AV} {h : AM} : EV d 1 54 L st h = EV d 1 55 L ((0, 0) :: st) h := G_iconst (m1 dX0_copyFrom_54) (by decide)
theorem e1_55 {d : Nat} {L st : List AV} {h : AM} : EV d 1 55 L st h = EV d 1 57 L ((0, 30) :: st) h := G_bipush (m1 dX0_copyFrom_55) (by decide)
theorem e1_57 {d : Nat} {L st : List AV} {h : AM} {n j b i a : Int} (hs : st.length ≤ 4) (hk : (isK h a 16 ∧ isK h b 16) ∨ (isK h a 19 ∧ isK h b 19)) (h1 : 0 ≤ i) (h2 : 0 ≤ j) (h3 : 0 ≤ n) (h4 : i + n ≤ mln h a) (h5 : j + n ≤ mln h b) : EV (d + 1) 1 57 L ((0, n) :: (0, j) :: (2, b) :: (0, i) :: (2, a) :: st) h = EV (d + 1) 1 60 L st (mcp h a i b j n) := E_acp (m1 dX0_copyFrom_57) (rr1 tr_0_30) hs hk h1 h2 h3 h4 h5
theorem e1_60 {d : Nat} {l0 : AV} {st : List AV} {h : AM} {x : Int} : EV d 1 60 [l0, (2, x)] st h = EV d 1 61 [l0, (2, x)] ((2, x) :: st) h := G_aload_n (m1 dX0_copyFrom_60) rfl
theorem e1_61 {d : Nat} {L st : List AV} {h : AM} {r : Int} (hk : isK h r 0) : EV d 1 61 L ((2, r) :: st) h = EV d 1 64 L ((2, mrd h r 4) :: st) h := G_get (m1 dX0_copyFrom_61) ow1 tf_0_24 rfl rfl hk
theorem e1_64 {d : Nat} {L st : List AV} {h : AM} : EV d 1 64 L st h = EV d 1 65 L ((0, 0) :: st) h := G_iconst (m1 dX0_copyFrom_64) (by decide)
theorem e1_65 {d : Nat} {l1 : AV} {st : List AV} {h : AM} {x : Int} : EV d 1 65 [(2, x), l1] st h = EV d 1 66 [(2, x), l1] ((2, x) :: st) h := G_aload_n (m1 dX0_copyFrom_65) rfl
theorem e1_66 {d : Nat} {L st : List AV} {h : AM} {r : Int} (hk : isK h r 0) : EV d 1 66 L ((2, r) :: st) h = EV d 1 69 L ((2, mrd h r 4) :: st) h := G_get (m1 dX0_copyFrom_66) ow1 tf_0_24 rfl rfl hk
theorem e1_69 {d : Nat} {L st : List AV} {h : AM} : EV d 1 69 L st h = EV d 1 70 L ((0, 0) :: st) h := G_iconst (m1 dX0_copyFrom_69) (by decide)
theorem e1_70 {d : Nat} {L st : List AV} {h : AM} : EV d 1 70 L st h = EV d 1 72 L ((0, 30) :: st) h := G_bipush (m1 dX0_copyFrom_70) (by decide)
theorem e1_72 {d : Nat} {L st : List AV} {h : AM} {n j b i a : Int} (hs : st.length ≤ 4) (hk : (isK h a 16 ∧ isK h b 16) ∨ (isK h a 19 ∧ isK h b 19)) (h1 : 0 ≤ i) (h2 : 0 ≤ j) (h3 : 0 ≤ n) (h4 : i + n ≤ mln h a) (h5 : j + n ≤ mln h b) : EV (d + 1) 1 72 L ((0, n) :: (0, j) :: (2, b) :: (0, i) :: (2, a) :: st) h = EV (d + 1) 1 75 L st (mcp h a i b j n) := E_acp (m1 dX0_copyFrom_72) (rr1 tr_0_30) hs hk h1 h2 h3 h4 h5
theorem e1_75 {d : Nat} {l1 : AV} {st : List AV} {h : AM} {x : Int} : EV d 1 75 [(2, x), l1] st h = EV d 1 76 [(2, x), l1] ((2, x) :: st) h := G_aload_n (m1 dX0_copyFrom_75) rfl
theorem e1_76 {d : Nat} {l0 : AV} {st : List AV} {h : AM} {x : Int} : EV d 1 76 [l0, (2, x)] st h = EV d 1 77 [l0, (2, x)] ((2, x) :: st) h := G_aload_n (m1 dX0_copyFrom_76) rfl
theorem e1_77 {d : Nat} {L st : List AV} {h : AM} {r : Int} (hk : isK h r 0) : EV d 1 77 L ((2, r) :: st) h = EV d 1 80 L ((0, mrd h r 6) :: st) h := G_get (m1 dX0_copyFrom_77) ow1 tf_0_36 rfl rfl hk
theorem pz_1_0_6 : pokz 1 0 6 = true := by decide +kernel
theorem e1_80 {d : Nat} {L st : List AV} {h : AM} {r v : Int} (hk : isK h r 0) (hv : v = 0 ∨ v = 1) : EV d 1 80 L ((0, v) :: (2, r) :: st) h = EV d 1 83 L st (mwr h r 6 v) := G_putz (m1 dX0_copyFrom_80) ow1 tf_0_36 pz_1_0_6 rfl hk hv
theorem e1_83 {d : Nat} {l1 : AV} {st : List AV} {h : AM} {x : Int} : EV d 1 83 [(2, x), l1] st h = EV d 1 84 [(2, x), l1] ((2, x) :: st) h := G_aload_n (m1 dX0_copyFrom_83) rfl
theorem e1_84 {d : Nat} {l0 : AV} {st : List AV} {h : AM} {x : Int} : EV d 1 84 [l0, (2, x)] st h = EV d 1 85 [l0, (2, x)] ((2, x) :: st) h := G_aload_n (m1 dX0_copyFrom_84) rfl
theorem e1_85 {d : Nat} {L st : List AV} {h : AM} {r : Int} (hk : isK h r 0) : EV d 1 85 L ((2, r) :: st) h = EV d 1 88 L ((0, mrd h r 7) :: st) h := G_get (m1 dX0_copyFrom_85) ow1 tf_0_40 rfl rfl hk
theorem pk_1_0_7 : pok 1 0 7 0 = true := by decide +kernel
theorem e1_88 {d : Nat} {L st : List AV} {h : AM} {r v : Int} (hk : isK h r 0) : EV d 1 88 L ((0, v) :: (2, r) :: st) h = EV d 1 91 L st (mwr h r 7 v) := G_put (m1 dX0_copyFrom_88) ow1 tf_0_40 pk_1_0_7 rfl hk
theorem e1_91 {d : Nat} {L : List AV} {h : AM} : EV d 1 91 L [] h = some ((3, 0), h) := E_ret (m1 dX0_copyFrom_91) rt1
theorem e2_0 {d : Nat} {l1 l2 l3 : AV} {st : List AV} {h : AM} {x : Int} : EV d 2 0 [(2, x), l1, l2, l3] st h = EV d 2 1 [(2, x), l1, l2, l3] ((2, x) :: st) h := G_aload_n (m2 dX0_readText_0) rfl
theorem e2_1 {d : Nat} {L st : List AV} {h : AM} : EV d 2 1 L st h = EV d 2 2 L ((0, 1) :: st) h := G_iconst (m2 dX0_readText_1) (by decide)
theorem pz_2_0_6 : pokz 2 0 6 = true := by decide +kernel
theorem e2_2 {d : Nat} {L st : List AV} {h : AM} {r v : Int} (hk : isK h r 0) (hv : v = 0 ∨ v = 1) : EV d 2 2 L ((0, v) :: (2, r) :: st) h = EV d 2 5 L st (mwr h r 6 v) := G_putz (m2 dX0_readText_2) ow2 tf_0_36 pz_2_0_6 rfl hk hv
theorem e2_5 {d : Nat} {l1 l2 l3 : AV} {st : List AV} {h : AM} {x : Int} : EV d 2 5 [(2, x), l1, l2, l3] st h = EV d 2 6 [(2, x), l1, l2, l3] ((2, x) :: st) h := G_aload_n (m2 dX0_readText_5) rfl
theorem e2_6 {d : Nat} {L st : List AV} {h : AM} : EV d 2 6 L st h = EV d 2 7 L ((0, 0) :: st) h := G_iconst (m2 dX0_readText_6) (by decide)
theorem pk_2_0_7 : pok 2 0 7 0 = true := by decide +kernel
theorem e2_7 {d : Nat} {L st : List AV} {h : AM} {r v : Int} (hk : isK h r 0) : EV d 2 7 L ((0, v) :: (2, r) :: st) h = EV d 2 10 L st (mwr h r 7 v) := G_put (m2 dX0_readText_7) ow2 tf_0_40 pk_2_0_7 rfl hk
theorem e2_10 {d : Nat} {l1 l2 l3 : AV} {st : List AV} {h : AM} {x : Int} : EV d 2 10 [(2, x), l1, l2, l3] st h = EV d 2 11 [(2, x), l1, l2, l3] ((2, x) :: st) h := G_aload_n (m2 dX0_readText_10) rfl
theorem e2_11 {d : Nat} {L st : List AV} {h : AM} : EV d 2 11 L st h = EV d 2 12 L ((0, 0) :: st) h := G_iconst (m2 dX0_readText_11) (by decide)
theorem pk_2_0_8 : pok 2 0 8 0 = true := by decide +kernel
theorem e2_12 {d : Nat} {L st : List AV} {h : AM} {r v : Int} (hk : isK h r 0) : EV d 2 12 L ((0, v) :: (2, r) :: st) h = EV d 2 15 L st (mwr h r 8 v) := G_put (m2 dX0_readText_12) ow2 tf_0_44 pk_2_0_8 rfl hk
theorem e2_15 {d : Nat} {L st : List AV} {h : AM} : EV d 2 15 L st h = EV d 2 16 L ((0, 0) :: st) h := G_iconst (m2 dX0_readText_15) (by decide)
theorem e2_16 {d : Nat} {l0 l1 l2 l3 : AV} {st : List AV} {h : AM} {x : Int} : EV d 2 16 [l0, l1, l2, l3] ((0, x) :: st) h = EV d 2 17 [l0, l1, l2, (0, x)] st h := G_istore_n (m2 dX0_readText_16) (Nat.le_of_ble_eq_true rfl) rfl
theorem e2_17 {d : Nat} {l0 l1 l2 : AV} {st : List AV} {h : AM} {x : Int} : EV d 2 17 [l0, l1, l2, (0, x)] st h = EV d 2 18 [l0, l1, l2, (0, x)] ((0, x) :: st) h := G_iload_n (m2 dX0_readText_17) rfl
theorem e2_18 {d : Nat} {L st : List AV} {h : AM} : EV d 2 18 L st h = EV d 2 21 L ((0, 300) :: st) h := G_sipush (m2 dX0_readText_18) (by decide)
theorem e2_21 {d : Nat} {L st : List AV} {h : AM} {a b : Int} : EV d 2 21 L ((0, b) :: (0, a) :: st) h = if a < b then EV d 2 24 L st h else EV d 2 66 L st h := (E_ic (m2 dX0_readText_21) (t := 66) rfl).trans cc_ge
theorem e2_24 {d : Nat} {l0 l2 l3 : AV} {st : List AV} {h : AM} {x : Int} : EV d 2 24 [l0, (2, x), l2, l3] st h = EV d 2 25 [l0, (2, x), l2, l3] ((2, x) :: st) h := G_aload_n (m2 dX0_readText_24) rfl
theorem e2_25 {d : Nat} {L st : List AV} {h : AM} {r : Int} (hs : st.length ≤ 4) (hk : isK h r 5) : EV (d + 1) 2 25 L ((2, r) :: st) h = (EV d 38 0 [(2, r)] [] h).bind (fun q => EV (d + 1) 2 28 L (psh q.1 st) q.2) := G_cv [] (m2 dX0_readText_25) ow2 tr_0_47 (by decide) td38 np38 ml38 ow38 rfl rfl (Nat.le_of_ble_eq_true rfl) rfl hs hk
theorem e2_28 {d : Nat} {L st : List AV} {h : AM} {a : Int} : EV d 2 28 L ((0, a) :: st) h = if a = 0 then EV d 2 66 L st h else EV d 2 31 L st h := (E_if (m2 dX0_readText_28) (t := 66) rfl).trans cc_eq
theorem e2_31 {d : Nat} {l0 l2 l3 : AV} {st : List AV} {h : AM} {x : Int} : EV d 2 31 [l0, (2, x), l2, l3] st h = EV d 2 32 [l0, (2, x), l2, l3] ((2, x) :: st) h := G_aload_n (m2 dX0_readText_31) rfl
theorem e2_32 {d : Nat} {L st : List AV} {h : AM} : EV d 2 32 L st h = EV d 2 34 L ((0, 21) :: st) h := G_bipush (m2 dX0_readText_32) (by decide)
theorem e2_34 {d : Nat} {L st : List AV} {h : AM} {r p0 : Int} (hs : st.length ≤ 4) (hk : isK h r 5) : EV (d + 1) 2 34 L ((0, p0) :: (2, r) :: st) h = (EV d 41 0 [(2, r), (0, p0)] [] h).bind (fun q => EV (d + 1) 2 37 L (psh q.1 st) q.2) := G_cv [(0, p0)] (m2 dX0_readText_34) ow2 tr_0_53 (by decide) td41 np41 ml41 ow41 rfl rfl (Nat.le_of_ble_eq_true rfl) rfl hs hk
theorem e2_37 {d : Nat} {L st : List AV} {h : AM} {a : Int} : EV d 2 37 L ((0, a) :: st) h = if a = 0 then EV d 2 48 L st h else EV d 2 40 L st h := (E_if (m2 dX0_readText_37) (t := 48) rfl).trans cc_eq
theorem e2_40 {d : Nat} {l1 l2 l3 : AV} {st : List AV} {h : AM} {x : Int} : EV d 2 40 [(2, x), l1, l2, l3] st h = EV d 2 41 [(2, x), l1, l2, l3] ((2, x) :: st) h := G_aload_n (m2 dX0_readText_40) rfl
theorem e2_41 {d : Nat} {l0 l2 l3 : AV} {st : List AV} {h : AM} {x : Int} : EV d 2 41 [l0, (2, x), l2, l3] st h = EV d 2 42 [l0, (2, x), l2, l3] ((2, x) :: st) h := G_aload_n (m2 dX0_readText_41) rfl
theorem e2_42 {d : Nat} {L st : List AV} {h : AM} {r p0 : Int} (hs : st.length ≤ 4) (hk : isK h r 0) : EV (d + 1) 2 42 L ((2, p0) :: (2, r) :: st) h = (EV d 3 0 [(2, r), (2, p0)] [] h).bind (fun q => EV (d + 1) 2 45 L (psh q.1 st) q.2) := G_cv [(2, p0)] (m2 dX0_readText_42) ow2 tr_0_57 (by decide) td3 np3 ml3 ow3 rfl rfl (Nat.le_of_ble_eq_true rfl) rfl hs hk
theorem e2_45 {d : Nat} {L st : List AV} {h : AM} : EV d 2 45 L st h = EV d 2 54 L st h := G_goto (m2 dX0_readText_45) rfl
theorem e2_48 {d : Nat} {l1 l2 l3 : AV} {st : List AV} {h : AM} {x : Int} : EV d 2 48 [(2, x), l1, l2, l3] st h = EV d 2 49 [(2, x), l1, l2, l3] ((2, x) :: st) h := G_aload_n (m2 dX0_readText_48) rfl
theorem e2_49 {d : Nat} {l0 l2 l3 : AV} {st : List AV} {h : AM} {x : Int} : EV d 2 49 [l0, (2, x), l2, l3] st h = EV d 2 50 [l0, (2, x), l2, l3] ((2, x) :: st) h := G_aload_n (m2 dX0_readText_49) rfl
theorem e2_50 {d : Nat} {l0 l1 l3 : AV} {st : List AV} {h : AM} {x : Int} : EV d 2 50 [l0, l1, (2, x), l3] st h = EV d 2 51 [l0, l1, (2, x), l3] ((2, x) :: st) h := G_aload_n (m2 dX0_readText_50) rfl
theorem e2_51 {d : Nat} {L st : List AV} {h : AM} {r p0 p1 : Int} (hs : st.length ≤ 4) (hk : isK h r 0) : EV (d + 1) 2 51 L ((2, p1) :: (2, p0) :: (2, r) :: st) h = (EV d 4 0 [(2, r), (2, p0), (2, p1), (3, 0), (3, 0), (3, 0)] [] h).bind (fun q => EV (d + 1) 2 54 L (psh q.1 st) q.2) := G_cv [(2, p0), (2, p1)] (m2 dX0_readText_51) ow2 tr_0_61 (by decide) td4 np4 ml4 ow4 rfl rfl (Nat.le_of_ble_eq_true rfl) rfl hs hk
theorem e2_54 {d : Nat} {l0 l2 l3 : AV} {st : List AV} {h : AM} {x : Int} : EV d 2 54 [l0, (2, x), l2, l3] st h = EV d 2 55 [l0, (2, x), l2, l3] ((2, x) :: st) h := G_aload_n (m2 dX0_readText_54) rfl
theorem e2_55 {d : Nat} {L st : List AV} {h : AM} : EV d 2 55 L st h = EV d 2 57 L ((0, 59) :: st) h := G_bipush (m2 dX0_readText_55) (by decide)
theorem e2_57 {d : Nat} {L st : List AV} {h : AM} {r p0 : Int} (hs : st.length ≤ 4) (hk : isK h r 5) : EV (d + 1) 2 57 L ((0, p0) :: (2, r) :: st) h = (EV d 44 0 [(2, r), (0, p0)] [] h).bind (fun q => EV (d + 1) 2 60 L (psh q.1 st) q.2) := G_cv [(0, p0)] (m2 dX0_readText_57) ow2 tr_0_65 (by decide) td44 np44 ml44 ow44 rfl rfl (Nat.le_of_ble_eq_true rfl) rfl hs hk
theorem e2_60 {d : Nat} {l0 l1 l2 : AV} {st : List AV} {h : AM} {x : Int} : EV d 2 60 [l0, l1, l2, (0, x)] st h = EV d 2 63 [l0, l1, l2, (0, w32 (x + 1))] st h := G_iinc (m2 dX0_readText_60) rfl rfl
theorem e2_63 {d : Nat} {L st : List AV} {h : AM} : EV d 2 63 L st h = EV d 2 17 L st h := G_goto (m2 dX0_readText_63) rfl
theorem e2_66 {d : Nat} {l1 l2 l3 : AV} {st : List AV} {h : AM} {x : Int} : EV d 2 66 [(2, x), l1, l2, l3] st h = EV d 2 67 [(2, x), l1, l2, l3] ((2, x) :: st) h := G_aload_n (m2 dX0_readText_66) rfl
theorem e2_67 {d : Nat} {L st : List AV} {h : AM} {r : Int} (hk : isK h r 0) : EV d 2 67 L ((2, r) :: st) h = EV d 2 70 L ((0, mrd h r 8) :: st) h := G_get (m2 dX0_readText_67) ow2 tf_0_44 rfl rfl hk
theorem e2_70 {d : Nat} {L st : List AV} {h : AM} {a : Int} : EV d 2 70 L ((0, a) :: st) h = if 0 < a then EV d 2 73 L st h else EV d 2 77 L st h := (E_if (m2 dX0_readText_70) (t := 77) rfl).trans cc_le
theorem e2_73 {d : Nat} {l0 l2 l3 : AV} {st : List AV} {h : AM} {x : Int} : EV d 2 73 [l0, (2, x), l2, l3] st h = EV d 2 74 [l0, (2, x), l2, l3] ((2, x) :: st) h := G_aload_n (m2 dX0_readText_73) rfl
theorem e2_74 {d : Nat} {L st : List AV} {h : AM} {r : Int} (hs : st.length ≤ 4) (hk : isK h r 5) : EV (d + 1) 2 74 L ((2, r) :: st) h = (EV d 40 0 [(2, r)] [] h).bind (fun q => EV (d + 1) 2 77 L (psh q.1 st) q.2) := G_cv [] (m2 dX0_readText_74) ow2 tr_0_69 (by decide) td40 np40 ml40 ow40 rfl rfl (Nat.le_of_ble_eq_true rfl) rfl hs hk
theorem e2_77 {d : Nat} {L : List AV} {h : AM} : EV d 2 77 L [] h = some ((3, 0), h) := E_ret (m2 dX0_readText_77) rt2
theorem e3_0 {d : Nat} {l1 : AV} {st : List AV} {h : AM} {x : Int} : EV d 3 0 [(2, x), l1] st h = EV d 3 1 [(2, x), l1] ((2, x) :: st) h := G_aload_n (m3 dX0_closeBlock_0) rfl
theorem e3_1 {d : Nat} {L st : List AV} {h : AM} {r : Int} (hk : isK h r 0) : EV d 3 1 L ((2, r) :: st) h = EV d 3 4 L ((0, mrd h r 8) :: st) h := G_get (m3 dX0_closeBlock_1) ow3 tf_0_44 rfl rfl hk
theorem e3_4 {d : Nat} {L st : List AV} {h : AM} {a : Int} : EV d 3 4 L ((0, a) :: st) h = if 0 < a then EV d 3 12 L st h else EV d 3 7 L st h := (E_if (m3 dX0_closeBlock_4) (t := 12) rfl).trans cc_gt
theorem e3_7 {d : Nat} {l0 : AV} {st : List AV} {h : AM} {x : Int} : EV d 3 7 [l0, (2, x)] st h = EV d 3 8 [l0, (2, x)] ((2, x) :: st) h := G_aload_n (m3 dX0_closeBlock_7) rfl
theorem e3_8 {d : Nat} {L st : List AV} {h : AM} {r : Int} (hs : st.length ≤ 4) (hk : isK h r 5) : EV (d + 1) 3 8 L ((2, r) :: st) h = (EV d 40 0 [(2, r)] [] h).bind (fun q => EV (d + 1) 3 11 L (psh q.1 st) q.2) := G_cv [] (m3 dX0_closeBlock_8) ow3 tr_0_69 (by decide) td40 np40 ml40 ow40 rfl rfl (Nat.le_of_ble_eq_true rfl) rfl hs hk
theorem e3_11 {d : Nat} {L : List AV} {h : AM} : EV d 3 11 L [] h = some ((3, 0), h) := E_ret (m3 dX0_closeBlock_11) rt3
theorem e3_12 {d : Nat} {l1 : AV} {st : List AV} {h : AM} {x : Int} : EV d 3 12 [(2, x), l1] st h = EV d 3 13 [(2, x), l1] ((2, x) :: st) h := G_aload_n (m3 dX0_closeBlock_12) rfl
theorem e3_13 {d : Nat} {L st : List AV} {h : AM} {a : Int} : EV d 3 13 L ((2, a) :: st) h = EV d 3 14 L ((2, a) :: (2, a) :: st) h := G_dup2r (m3 dX0_closeBlock_13)
theorem e3_13i {d : Nat} {L st : List AV} {h : AM} {a : Int} : EV d 3 13 L ((0, a) :: st) h = EV d 3 14 L ((0, a) :: (0, a) :: st) h := G_dupi (m3 dX0_closeBlock_13)
theorem e3_14 {d : Nat} {L st : List AV} {h : AM} {r : Int} (hk : isK h r 0) : EV d 3 14 L ((2, r) :: st) h = EV d 3 17 L ((0, mrd h r 8) :: st) h := G_get (m3 dX0_closeBlock_14) ow3 tf_0_44 rfl rfl hk
theorem e3_17 {d : Nat} {L st : List AV} {h : AM} : EV d 3 17 L st h = EV d 3 18 L ((0, 1) :: st) h := G_iconst (m3 dX0_closeBlock_17) (by decide)
theorem e3_18 {d : Nat} {L st : List AV} {h : AM} {a b : Int} : EV d 3 18 L ((0, b) :: (0, a) :: st) h = EV d 3 19 L ((0, w32 (a - b)) :: st) h := E_isub (m3 dX0_closeBlock_18)
theorem pk_3_0_8 : pok 3 0 8 0 = true := by decide +kernel
theorem e3_19 {d : Nat} {L st : List AV} {h : AM} {r v : Int} (hk : isK h r 0) : EV d 3 19 L ((0, v) :: (2, r) :: st) h = EV d 3 22 L st (mwr h r 8 v) := G_put (m3 dX0_closeBlock_19) ow3 tf_0_44 pk_3_0_8 rfl hk
theorem e3_22 {d : Nat} {l1 : AV} {st : List AV} {h : AM} {x : Int} : EV d 3 22 [(2, x), l1] st h = EV d 3 23 [(2, x), l1] ((2, x) :: st) h := G_aload_n (m3 dX0_closeBlock_22) rfl
theorem e3_23 {d : Nat} {L st : List AV} {h : AM} {r : Int} (hk : isK h r 0) : EV d 3 23 L ((2, r) :: st) h = EV d 3 26 L ((2, mrd h r 4) :: st) h := G_get (m3 dX0_closeBlock_23) ow3 tf_0_24 rfl rfl hk
theorem e3_26 {d : Nat} {l1 : AV} {st : List AV} {h : AM} {x : Int} : EV d 3 26 [(2, x), l1] st h = EV d 3 27 [(2, x), l1] ((2, x) :: st) h := G_aload_n (m3 dX0_closeBlock_26) rfl
theorem e3_27 {d : Nat} {L st : List AV} {h : AM} {r : Int} (hk : isK h r 0) : EV d 3 27 L ((2, r) :: st) h = EV d 3 30 L ((2, mrd h r 5) :: st) h := G_get (m3 dX0_closeBlock_27) ow3 tf_0_27 rfl rfl hk
theorem e3_30 {d : Nat} {l1 : AV} {st : List AV} {h : AM} {x : Int} : EV d 3 30 [(2, x), l1] st h = EV d 3 31 [(2, x), l1] ((2, x) :: st) h := G_aload_n (m3 dX0_closeBlock_30) rfl
theorem e3_31 {d : Nat} {L st : List AV} {h : AM} {r : Int} (hk : isK h r 0) : EV d 3 31 L ((2, r) :: st) h = EV d 3 34 L ((0, mrd h r 8) :: st) h := G_get (m3 dX0_closeBlock_31) ow3 tf_0_44 rfl rfl hk
theorem e3_34 {d : Nat} {L st : List AV} {h : AM} {r j : Int} (hk : inA h r 16 j) : EV d 3 34 L ((0, j) :: (2, r) :: st) h = EV d 3 35 L ((0, mrd h r j) :: st) h := E_iald (m3 dX0_closeBlock_34) hk
theorem e3_35 {d : Nat} {l1 : AV} {st : List AV} {h : AM} {x : Int} : EV d 3 35 [(2, x), l1] st h = EV d 3 36 [(2, x), l1] ((2, x) :: st) h := G_aload_n (m3 dX0_closeBlock_35) rfl
theorem e3_36 {d : Nat} {L st : List AV} {h : AM} {r : Int} (hk : isK h r 0) : EV d 3 36 L ((2, r) :: st) h = EV d 3 39 L ((0, mrd h r 7) :: st) h := G_get (m3 dX0_closeBlock_36) ow3 tf_0_40 rfl rfl hk
theorem e3_39 {d : Nat} {L st : List AV} {h : AM} {r j v : Int} (hk : inA h r 16 j) : EV d 3 39 L ((0, v) :: (0, j) :: (2, r) :: st) h = EV d 3 40 L st (mwr h r j v) := E_iast (m3 dX0_closeBlock_39) hk
theorem e3_40 {d : Nat} {l0 : AV} {st : List AV} {h : AM} {x : Int} : EV d 3 40 [l0, (2, x)] st h = EV d 3 41 [l0, (2, x)] ((2, x) :: st) h := G_aload_n (m3 dX0_closeBlock_40) rfl
theorem e3_41 {d : Nat} {L st : List AV} {h : AM} {r : Int} (hs : st.length ≤ 4) (hk : isK h r 5) : EV (d + 1) 3 41 L ((2, r) :: st) h = (EV d 35 0 [(2, r)] [] h).bind (fun q => EV (d + 1) 3 44 L (psh q.1 st) q.2) := G_cv [] (m3 dX0_closeBlock_41) ow3 tr_0_72 (by decide) td35 np35 ml35 ow35 rfl rfl (Nat.le_of_ble_eq_true rfl) rfl hs hk
theorem e3_44 {d : Nat} {L : List AV} {h : AM} : EV d 3 44 L [] h = some ((3, 0), h) := E_ret (m3 dX0_closeBlock_44) rt3
theorem e4_0 {d : Nat} {l0 l2 l3 l4 l5 : AV} {st : List AV} {h : AM} {x : Int} : EV d 4 0 [l0, (2, x), l2, l3, l4, l5] st h = EV d 4 1 [l0, (2, x), l2, l3, l4, l5] ((2, x) :: st) h := G_aload_n (m4 dX0_readStep_0) rfl
theorem e4_1 {d : Nat} {L st : List AV} {h : AM} {r : Int} (hk : isK h r 5) : EV d 4 1 L ((2, r) :: st) h = EV d 4 4 L ((0, mrd h r 8) :: st) h := G_get (m4 dX0_readStep_1) ow4 tf_0_75 rfl rfl hk
theorem e4_4 {d : Nat} {l0 l1 l2 l3 l4 l5 : AV} {st : List AV} {h : AM} {x : Int} : EV d 4 4 [l0, l1, l2, l3, l4, l5] ((0, x) :: st) h = EV d 4 5 [l0, l1, l2, (0, x), l4, l5] st h := G_istore_n (m4 dX0_readStep_4) (Nat.le_of_ble_eq_true rfl) rfl
theorem e4_5 {d : Nat} {l0 l2 l3 l4 l5 : AV} {st : List AV} {h : AM} {x : Int} : EV d 4 5 [l0, (2, x), l2, l3, l4, l5] st h = EV d 4 6 [l0, (2, x), l2, l3, l4, l5] ((2, x) :: st) h := G_aload_n (m4 dX0_readStep_5) rfl
theorem e4_6 {d : Nat} {L st : List AV} {h : AM} {r : Int} (hk : isK h r 5) : EV d 4 6 L ((2, r) :: st) h = EV d 4 9 L ((0, mrd h r 5) :: st) h := G_get (m4 dX0_readStep_6) ow4 tf_0_78 rfl rfl hk
theorem e4_9 {d : Nat} {L st : List AV} {h : AM} : EV d 4 9 L st h = EV d 4 10 L ((0, 1) :: st) h := G_iconst (m4 dX0_readStep_9) (by decide)
theorem e4_10 {d : Nat} {L st : List AV} {h : AM} {a b : Int} : EV d 4 10 L ((0, b) :: (0, a) :: st) h = if a = b then EV d 4 13 L st h else EV d 4 20 L st h := (E_ic (m4 dX0_readStep_10) (t := 20) rfl).trans cc_ne
theorem e4_13 {d : Nat} {l0 l1 l2 l4 l5 : AV} {st : List AV} {h : AM} {x : Int} : EV d 4 13 [l0, l1, l2, (0, x), l4, l5] st h = EV d 4 14 [l0, l1, l2, (0, x), l4, l5] ((0, x) :: st) h := G_iload_n (m4 dX0_readStep_13) rfl
theorem e4_14 {d : Nat} {L st : List AV} {h : AM} {p0 : Int} (hs : st.length ≤ 4) : EV (d + 1) 4 14 L ((0, p0) :: st) h = (EV d 5 0 [(0, p0)] [] h).bind (fun q => EV (d + 1) 4 17 L (psh q.1 st) q.2) := G_cs [(0, p0)] (m4 dX0_readStep_14) ow4 tr_0_81 (by decide) td5 np5 ml5 rfl rfl (Nat.le_of_ble_eq_true rfl) rfl hs
theorem e4_17 {d : Nat} {L st : List AV} {h : AM} {a : Int} : EV d 4 17 L ((0, a) :: st) h = if a = 0 then EV d 4 20 L st h else EV d 4 25 L st h := (E_if (m4 dX0_readStep_17) (t := 25) rfl).trans cc_ne
theorem e4_20 {d : Nat} {l0 l2 l3 l4 l5 : AV} {st : List AV} {h : AM} {x : Int} : EV d 4 20 [l0, (2, x), l2, l3, l4, l5] st h = EV d 4 21 [l0, (2, x), l2, l3, l4, l5] ((2, x) :: st) h := G_aload_n (m4 dX0_readStep_20) rfl
theorem e4_21 {d : Nat} {L st : List AV} {h : AM} {r : Int} (hs : st.length ≤ 4) (hk : isK h r 5) : EV (d + 1) 4 21 L ((2, r) :: st) h = (EV d 40 0 [(2, r)] [] h).bind (fun q => EV (d + 1) 4 24 L (psh q.1 st) q.2) := G_cv [] (m4 dX0_readStep_21) ow4 tr_0_69 (by decide) td40 np40 ml40 ow40 rfl rfl (Nat.le_of_ble_eq_true rfl) rfl hs hk
theorem e4_24 {d : Nat} {L : List AV} {h : AM} : EV d 4 24 L [] h = some ((3, 0), h) := E_ret (m4 dX0_readStep_24) rt4
theorem e4_25 {d : Nat} {l1 l2 l3 l4 l5 : AV} {st : List AV} {h : AM} {x : Int} : EV d 4 25 [(2, x), l1, l2, l3, l4, l5] st h = EV d 4 26 [(2, x), l1, l2, l3, l4, l5] ((2, x) :: st) h := G_aload_n (m4 dX0_readStep_25) rfl
theorem e4_26 {d : Nat} {L st : List AV} {h : AM} {r : Int} (hk : isK h r 0) : EV d 4 26 L ((2, r) :: st) h = EV d 4 29 L ((0, mrd h r 7) :: st) h := G_get (m4 dX0_readStep_26) ow4 tf_0_40 rfl rfl hk
theorem e4_29 {d : Nat} {L st : List AV} {h : AM} : EV d 4 29 L st h = EV d 4 31 L ((0, 30) :: st) h := G_bipush (m4 dX0_readStep_29) (by decide)
theorem e4_31 {d : Nat} {L st : List AV} {h : AM} {a b : Int} : EV d 4 31 L ((0, b) :: (0, a) :: st) h = if a < b then EV d 4 41 L st h else EV d 4 34 L st h := (E_ic (m4 dX0_readStep_31) (t := 41) rfl).trans cc_lt
theorem e4_34 {d : Nat} {l0 l2 l3 l4 l5 : AV} {st : List AV} {h : AM} {x : Int} : EV d 4 34 [l0, (2, x), l2, l3, l4, l5] st h = EV d 4 35 [l0, (2, x), l2, l3, l4, l5] ((2, x) :: st) h := G_aload_n (m4 dX0_readStep_34) rfl
theorem e4_35 {d : Nat} {L st : List AV} {h : AM} : EV d 4 35 L st h = EV d 4 37 L ((0, 6) :: st) h := G_bipush (m4 dX0_readStep_35) (by decide)
theorem e4_37 {d : Nat} {L st : List AV} {h : AM} {r p0 : Int} (hs : st.length ≤ 4) (hk : isK h r 5) : EV (d + 1) 4 37 L ((0, p0) :: (2, r) :: st) h = (EV d 39 0 [(2, r), (0, p0)] [] h).bind (fun q => EV (d + 1) 4 40 L (psh q.1 st) q.2) := G_cv [(0, p0)] (m4 dX0_readStep_37) ow4 tr_0_84 (by decide) td39 np39 ml39 ow39 rfl rfl (Nat.le_of_ble_eq_true rfl) rfl hs hk
theorem e4_40 {d : Nat} {L : List AV} {h : AM} : EV d 4 40 L [] h = some ((3, 0), h) := E_ret (m4 dX0_readStep_40) rt4
theorem e4_41 {d : Nat} {l0 l1 l2 l4 l5 : AV} {st : List AV} {h : AM} {x : Int} : EV d 4 41 [l0, l1, l2, (0, x), l4, l5] st h = EV d 4 42 [l0, l1, l2, (0, x), l4, l5] ((0, x) :: st) h := G_iload_n (m4 dX0_readStep_41) rfl
theorem e4_42 {d : Nat} {L st : List AV} {h : AM} : EV d 4 42 L st h = EV d 4 44 L ((0, 16) :: st) h := G_bipush (m4 dX0_readStep_42) (by decide)
theorem e4_44 {d : Nat} {L st : List AV} {h : AM} {a b : Int} : EV d 4 44 L ((0, b) :: (0, a) :: st) h = if a = b then EV d 4 53 L st h else EV d 4 47 L st h := (E_ic (m4 dX0_readStep_44) (t := 53) rfl).trans cc_eq
theorem e4_47 {d : Nat} {l0 l1 l2 l4 l5 : AV} {st : List AV} {h : AM} {x : Int} : EV d 4 47 [l0, l1, l2, (0, x), l4, l5] st h = EV d 4 48 [l0, l1, l2, (0, x), l4, l5] ((0, x) :: st) h := G_iload_n (m4 dX0_readStep_47) rfl
theorem e4_48 {d : Nat} {L st : List AV} {h : AM} : EV d 4 48 L st h = EV d 4 50 L ((0, 20) :: st) h := G_bipush (m4 dX0_readStep_48) (by decide)
theorem e4_50 {d : Nat} {L st : List AV} {h : AM} {a b : Int} : EV d 4 50 L ((0, b) :: (0, a) :: st) h = if a = b then EV d 4 53 L st h else EV d 4 57 L st h := (E_ic (m4 dX0_readStep_50) (t := 57) rfl).trans cc_ne
theorem e4_53 {d : Nat} {L st : List AV} {h : AM} : EV d 4 53 L st h = EV d 4 54 L ((0, 1) :: st) h := G_iconst (m4 dX0_readStep_53) (by decide)
theorem e4_54 {d : Nat} {L st : List AV} {h : AM} : EV d 4 54 L st h = EV d 4 58 L st h := G_goto (m4 dX0_readStep_54) rfl
theorem e4_57 {d : Nat} {L st : List AV} {h : AM} : EV d 4 57 L st h = EV d 4 58 L ((0, 0) :: st) h := G_iconst (m4 dX0_readStep_57) (by decide)
theorem e4_58 {d : Nat} {l0 l1 l2 l3 l4 l5 : AV} {st : List AV} {h : AM} {x : Int} : EV d 4 58 [l0, l1, l2, l3, l4, l5] ((0, x) :: st) h = EV d 4 60 [l0, l1, l2, l3, (0, x), l5] st h := G_istore (m4 dX0_readStep_58) (Nat.le_of_ble_eq_true rfl) rfl
theorem e4_60 {d : Nat} {l0 l1 l2 l3 l5 : AV} {st : List AV} {h : AM} {x : Int} : EV d 4 60 [l0, l1, l2, l3, (0, x), l5] st h = EV d 4 62 [l0, l1, l2, l3, (0, x), l5] ((0, x) :: st) h := G_iload (m4 dX0_readStep_60) rfl
theorem e4_62 {d : Nat} {L st : List AV} {h : AM} {a : Int} : EV d 4 62 L ((0, a) :: st) h = if a = 0 then EV d 4 80 L st h else EV d 4 65 L st h := (E_if (m4 dX0_readStep_62) (t := 80) rfl).trans cc_eq
theorem e4_65 {d : Nat} {l1 l2 l3 l4 l5 : AV} {st : List AV} {h : AM} {x : Int} : EV d 4 65 [(2, x), l1, l2, l3, l4, l5] st h = EV d 4 66 [(2, x), l1, l2, l3, l4, l5] ((2, x) :: st) h := G_aload_n (m4 dX0_readStep_65) rfl
theorem e4_66 {d : Nat} {L st : List AV} {h : AM} {r : Int} (hk : isK h r 0) : EV d 4 66 L ((2, r) :: st) h = EV d 4 69 L ((0, mrd h r 8) :: st) h := G_get (m4 dX0_readStep_66) ow4 tf_0_44 rfl rfl hk
theorem e4_69 {d : Nat} {L st : List AV} {h : AM} : EV d 4 69 L st h = EV d 4 70 L ((0, 3) :: st) h := G_iconst (m4 dX0_readStep_69) (by decide)
theorem e4_70 {d : Nat} {L st : List AV} {h : AM} {a b : Int} : EV d 4 70 L ((0, b) :: (0, a) :: st) h = if a < b then EV d 4 80 L st h else EV d 4 73 L st h := (E_ic (m4 dX0_readStep_70) (t := 80) rfl).trans cc_lt
theorem e4_73 {d : Nat} {l0 l2 l3 l4 l5 : AV} {st : List AV} {h : AM} {x : Int} : EV d 4 73 [l0, (2, x), l2, l3, l4, l5] st h = EV d 4 74 [l0, (2, x), l2, l3, l4, l5] ((2, x) :: st) h := G_aload_n (m4 dX0_readStep_73) rfl
theorem e4_74 {d : Nat} {L st : List AV} {h : AM} : EV d 4 74 L st h = EV d 4 76 L ((0, 7) :: st) h := G_bipush (m4 dX0_readStep_74) (by decide)
theorem e4_76 {d : Nat} {L st : List AV} {h : AM} {r p0 : Int} (hs : st.length ≤ 4) (hk : isK h r 5) : EV (d + 1) 4 76 L ((0, p0) :: (2, r) :: st) h = (EV d 39 0 [(2, r), (0, p0)] [] h).bind (fun q => EV (d + 1) 4 79 L (psh q.1 st) q.2) := G_cv [(0, p0)] (m4 dX0_readStep_76) ow4 tr_0_84 (by decide) td39 np39 ml39 ow39 rfl rfl (Nat.le_of_ble_eq_true rfl) rfl hs hk
theorem e4_79 {d : Nat} {L : List AV} {h : AM} : EV d 4 79 L [] h = some ((3, 0), h) := E_ret (m4 dX0_readStep_79) rt4
theorem e4_80 {d : Nat} {l1 l2 l3 l4 l5 : AV} {st : List AV} {h : AM} {x : Int} : EV d 4 80 [(2, x), l1, l2, l3, l4, l5] st h = EV d 4 81 [(2, x), l1, l2, l3, l4, l5] ((2, x) :: st) h := G_aload_n (m4 dX0_readStep_80) rfl
theorem e4_81 {d : Nat} {L st : List AV} {h : AM} {r : Int} (hk : isK h r 0) : EV d 4 81 L ((2, r) :: st) h = EV d 4 84 L ((0, mrd h r 7) :: st) h := G_get (m4 dX0_readStep_81) ow4 tf_0_40 rfl rfl hk
theorem e4_84 {d : Nat} {l0 l1 l2 l3 l4 l5 : AV} {st : List AV} {h : AM} {x : Int} : EV d 4 84 [l0, l1, l2, l3, l4, l5] ((0, x) :: st) h = EV d 4 86 [l0, l1, l2, l3, l4, (0, x)] st h := G_istore (m4 dX0_readStep_84) (Nat.le_of_ble_eq_true rfl) rfl
theorem e4_86 {d : Nat} {l1 l2 l3 l4 l5 : AV} {st : List AV} {h : AM} {x : Int} : EV d 4 86 [(2, x), l1, l2, l3, l4, l5] st h = EV d 4 87 [(2, x), l1, l2, l3, l4, l5] ((2, x) :: st) h := G_aload_n (m4 dX0_readStep_86) rfl
theorem e4_87 {d : Nat} {L st : List AV} {h : AM} {a : Int} : EV d 4 87 L ((2, a) :: st) h = EV d 4 88 L ((2, a) :: (2, a) :: st) h := G_dup2r (m4 dX0_readStep_87)
theorem e4_87i {d : Nat} {L st : List AV} {h : AM} {a : Int} : EV d 4 87 L ((0, a) :: st) h = EV d 4 88 L ((0, a) :: (0, a) :: st) h := G_dupi (m4 dX0_readStep_87)
theorem e4_88 {d : Nat} {L st : List AV} {h : AM} {r : Int} (hk : isK h r 0) : EV d 4 88 L ((2, r) :: st) h = EV d 4 91 L ((0, mrd h r 7) :: st) h := G_get (m4 dX0_readStep_88) ow4 tf_0_40 rfl rfl hk
theorem e4_91 {d : Nat} {L st : List AV} {h : AM} : EV d 4 91 L st h = EV d 4 92 L ((0, 1) :: st) h := G_iconst (m4 dX0_readStep_91) (by decide)
theorem e4_92 {d : Nat} {L st : List AV} {h : AM} {a b : Int} : EV d 4 92 L ((0, b) :: (0, a) :: st) h = EV d 4 93 L ((0, w32 (a + b)) :: st) h := E_iadd (m4 dX0_readStep_92)
theorem pk_4_0_7 : pok 4 0 7 0 = true := by decide +kernel
theorem e4_93 {d : Nat} {L st : List AV} {h : AM} {r v : Int} (hk : isK h r 0) : EV d 4 93 L ((0, v) :: (2, r) :: st) h = EV d 4 96 L st (mwr h r 7 v) := G_put (m4 dX0_readStep_93) ow4 tf_0_40 pk_4_0_7 rfl hk
theorem e4_96 {d : Nat} {l1 l2 l3 l4 l5 : AV} {st : List AV} {h : AM} {x : Int} : EV d 4 96 [(2, x), l1, l2, l3, l4, l5] st h = EV d 4 97 [(2, x), l1, l2, l3, l4, l5] ((2, x) :: st) h := G_aload_n (m4 dX0_readStep_96) rfl
theorem e4_97 {d : Nat} {L st : List AV} {h : AM} {r : Int} (hk : isK h r 0) : EV d 4 97 L ((2, r) :: st) h = EV d 4 100 L ((2, mrd h r 0) :: st) h := G_get (m4 dX0_readStep_97) ow4 tf_0_9 rfl rfl hk
theorem e4_100 {d : Nat} {l0 l1 l2 l3 l4 : AV} {st : List AV} {h : AM} {x : Int} : EV d 4 100 [l0, l1, l2, l3, l4, (0, x)] st h = EV d 4 102 [l0, l1, l2, l3, l4, (0, x)] ((0, x) :: st) h := G_iload (m4 dX0_readStep_100) rfl
theorem e4_102 {d : Nat} {l0 l1 l2 l4 l5 : AV} {st : List AV} {h : AM} {x : Int} : EV d 4 102 [l0, l1, l2, (0, x), l4, l5] st h = EV d 4 103 [l0, l1, l2, (0, x), l4, l5] ((0, x) :: st) h := G_iload_n (m4 dX0_readStep_102) rfl
theorem e4_103 {d : Nat} {L st : List AV} {h : AM} {r j v : Int} (hk : inA h r 16 j) : EV d 4 103 L ((0, v) :: (0, j) :: (2, r) :: st) h = EV d 4 104 L st (mwr h r j v) := E_iast (m4 dX0_readStep_103) hk
theorem e4_104 {d : Nat} {l1 l2 l3 l4 l5 : AV} {st : List AV} {h : AM} {x : Int} : EV d 4 104 [(2, x), l1, l2, l3, l4, l5] st h = EV d 4 105 [(2, x), l1, l2, l3, l4, l5] ((2, x) :: st) h := G_aload_n (m4 dX0_readStep_104) rfl
theorem e4_105 {d : Nat} {L st : List AV} {h : AM} {r : Int} (hk : isK h r 0) : EV d 4 105 L ((2, r) :: st) h = EV d 4 108 L ((2, mrd h r 4) :: st) h := G_get (m4 dX0_readStep_105) ow4 tf_0_24 rfl rfl hk
theorem e4_108 {d : Nat} {l0 l1 l2 l3 l4 : AV} {st : List AV} {h : AM} {x : Int} : EV d 4 108 [l0, l1, l2, l3, l4, (0, x)] st h = EV d 4 110 [l0, l1, l2, l3, l4, (0, x)] ((0, x) :: st) h := G_iload (m4 dX0_readStep_108) rfl
theorem e4_110 {d : Nat} {l1 l2 l3 l4 l5 : AV} {st : List AV} {h : AM} {x : Int} : EV d 4 110 [(2, x), l1, l2, l3, l4, l5] st h = EV d 4 111 [(2, x), l1, l2, l3, l4, l5] ((2, x) :: st) h := G_aload_n (m4 dX0_readStep_110) rfl
theorem e4_111 {d : Nat} {L st : List AV} {h : AM} {r : Int} (hk : isK h r 0) : EV d 4 111 L ((2, r) :: st) h = EV d 4 114 L ((0, mrd h r 7) :: st) h := G_get (m4 dX0_readStep_111) ow4 tf_0_40 rfl rfl hk
theorem e4_114 {d : Nat} {L st : List AV} {h : AM} {r j v : Int} (hk : inA h r 16 j) : EV d 4 114 L ((0, v) :: (0, j) :: (2, r) :: st) h = EV d 4 115 L st (mwr h r j v) := E_iast (m4 dX0_readStep_114) hk
theorem e4_115 {d : Nat} {l0 l1 l2 l3 l5 : AV} {st : List AV} {h : AM} {x : Int} : EV d 4 115 [l0, l1, l2, l3, (0, x), l5] st h = EV d 4 117 [l0, l1, l2, l3, (0, x), l5] ((0, x) :: st) h := G_iload (m4 dX0_readStep_115) rfl
theorem e4_117 {d : Nat} {L st : List AV} {h : AM} {a : Int} : EV d 4 117 L ((0, a) :: st) h = if a = 0 then EV d 4 141 L st h else EV d 4 120 L st h := (E_if (m4 dX0_readStep_117) (t := 141) rfl).trans cc_eq
theorem e4_120 {d : Nat} {l1 l2 l3 l4 l5 : AV} {st : List AV} {h : AM} {x : Int} : EV d 4 120 [(2, x), l1, l2, l3, l4, l5] st h = EV d 4 121 [(2, x), l1, l2, l3, l4, l5] ((2, x) :: st) h := G_aload_n (m4 dX0_readStep_120) rfl
theorem e4_121 {d : Nat} {L st : List AV} {h : AM} {r : Int} (hk : isK h r 0) : EV d 4 121 L ((2, r) :: st) h = EV d 4 124 L ((2, mrd h r 5) :: st) h := G_get (m4 dX0_readStep_121) ow4 tf_0_27 rfl rfl hk
theorem e4_124 {d : Nat} {l1 l2 l3 l4 l5 : AV} {st : List AV} {h : AM} {x : Int} : EV d 4 124 [(2, x), l1, l2, l3, l4, l5] st h = EV d 4 125 [(2, x), l1, l2, l3, l4, l5] ((2, x) :: st) h := G_aload_n (m4 dX0_readStep_124) rfl
theorem e4_125 {d : Nat} {L st : List AV} {h : AM} {r : Int} (hk : isK h r 0) : EV d 4 125 L ((2, r) :: st) h = EV d 4 128 L ((0, mrd h r 8) :: st) h := G_get (m4 dX0_readStep_125) ow4 tf_0_44 rfl rfl hk
theorem e4_128 {d : Nat} {l0 l1 l2 l3 l4 : AV} {st : List AV} {h : AM} {x : Int} : EV d 4 128 [l0, l1, l2, l3, l4, (0, x)] st h = EV d 4 130 [l0, l1, l2, l3, l4, (0, x)] ((0, x) :: st) h := G_iload (m4 dX0_readStep_128) rfl
theorem e4_130 {d : Nat} {L st : List AV} {h : AM} {r j v : Int} (hk : inA h r 16 j) : EV d 4 130 L ((0, v) :: (0, j) :: (2, r) :: st) h = EV d 4 131 L st (mwr h r j v) := E_iast (m4 dX0_readStep_130) hk
theorem e4_131 {d : Nat} {l1 l2 l3 l4 l5 : AV} {st : List AV} {h : AM} {x : Int} : EV d 4 131 [(2, x), l1, l2, l3, l4, l5] st h = EV d 4 132 [(2, x), l1, l2, l3, l4, l5] ((2, x) :: st) h := G_aload_n (m4 dX0_readStep_131) rfl
theorem e4_132 {d : Nat} {L st : List AV} {h : AM} {a : Int} : EV d 4 132 L ((2, a) :: st) h = EV d 4 133 L ((2, a) :: (2, a) :: st) h := G_dup2r (m4 dX0_readStep_132)
theorem e4_132i {d : Nat} {L st : List AV} {h : AM} {a : Int} : EV d 4 132 L ((0, a) :: st) h = EV d 4 133 L ((0, a) :: (0, a) :: st) h := G_dupi (m4 dX0_readStep_132)
theorem e4_133 {d : Nat} {L st : List AV} {h : AM} {r : Int} (hk : isK h r 0) : EV d 4 133 L ((2, r) :: st) h = EV d 4 136 L ((0, mrd h r 8) :: st) h := G_get (m4 dX0_readStep_133) ow4 tf_0_44 rfl rfl hk
theorem e4_136 {d : Nat} {L st : List AV} {h : AM} : EV d 4 136 L st h = EV d 4 137 L ((0, 1) :: st) h := G_iconst (m4 dX0_readStep_136) (by decide)
theorem e4_137 {d : Nat} {L st : List AV} {h : AM} {a b : Int} : EV d 4 137 L ((0, b) :: (0, a) :: st) h = EV d 4 138 L ((0, w32 (a + b)) :: st) h := E_iadd (m4 dX0_readStep_137)
theorem pk_4_0_8 : pok 4 0 8 0 = true := by decide +kernel
theorem e4_138 {d : Nat} {L st : List AV} {h : AM} {r v : Int} (hk : isK h r 0) : EV d 4 138 L ((0, v) :: (2, r) :: st) h = EV d 4 141 L st (mwr h r 8 v) := G_put (m4 dX0_readStep_138) ow4 tf_0_44 pk_4_0_8 rfl hk
theorem e4_141 {d : Nat} {l0 l2 l3 l4 l5 : AV} {st : List AV} {h : AM} {x : Int} : EV d 4 141 [l0, (2, x), l2, l3, l4, l5] st h = EV d 4 142 [l0, (2, x), l2, l3, l4, l5] ((2, x) :: st) h := G_aload_n (m4 dX0_readStep_141) rfl
theorem e4_142 {d : Nat} {L st : List AV} {h : AM} {r : Int} (hs : st.length ≤ 4) (hk : isK h r 5) : EV (d + 1) 4 142 L ((2, r) :: st) h = (EV d 35 0 [(2, r)] [] h).bind (fun q => EV (d + 1) 4 145 L (psh q.1 st) q.2) := G_cv [] (m4 dX0_readStep_142) ow4 tr_0_72 (by decide) td35 np35 ml35 ow35 rfl rfl (Nat.le_of_ble_eq_true rfl) rfl hs hk
theorem e4_145 {d : Nat} {l0 l1 l2 l4 l5 : AV} {st : List AV} {h : AM} {x : Int} : EV d 4 145 [l0, l1, l2, (0, x), l4, l5] st h = EV d 4 146 [l0, l1, l2, (0, x), l4, l5] ((0, x) :: st) h := G_iload_n (m4 dX0_readStep_145) rfl
theorem e4_146 {d : Nat} {L st : List AV} {h : AM} : EV d 4 146 L st h = EV d 4 148 L ((0, 16) :: st) h := G_bipush (m4 dX0_readStep_146) (by decide)
theorem e4_148 {d : Nat} {L st : List AV} {h : AM} {a b : Int} : EV d 4 148 L ((0, b) :: (0, a) :: st) h = if a = b then EV d 4 151 L st h else EV d 4 162 L st h := (E_ic (m4 dX0_readStep_148) (t := 162) rfl).trans cc_ne
theorem e4_151 {d : Nat} {l1 l2 l3 l4 l5 : AV} {st : List AV} {h : AM} {x : Int} : EV d 4 151 [(2, x), l1, l2, l3, l4, l5] st h = EV d 4 152 [(2, x), l1, l2, l3, l4, l5] ((2, x) :: st) h := G_aload_n (m4 dX0_readStep_151) rfl
theorem e4_152 {d : Nat} {l0 l2 l3 l4 l5 : AV} {st : List AV} {h : AM} {x : Int} : EV d 4 152 [l0, (2, x), l2, l3, l4, l5] st h = EV d 4 153 [l0, (2, x), l2, l3, l4, l5] ((2, x) :: st) h := G_aload_n (m4 dX0_readStep_152) rfl
theorem e4_153 {d : Nat} {l0 l1 l3 l4 l5 : AV} {st : List AV} {h : AM} {x : Int} : EV d 4 153 [l0, l1, (2, x), l3, l4, l5] st h = EV d 4 154 [l0, l1, (2, x), l3, l4, l5] ((2, x) :: st) h := G_aload_n (m4 dX0_readStep_153) rfl
theorem e4_154 {d : Nat} {l0 l1 l2 l3 l4 : AV} {st : List AV} {h : AM} {x : Int} : EV d 4 154 [l0, l1, l2, l3, l4, (0, x)] st h = EV d 4 156 [l0, l1, l2, l3, l4, (0, x)] ((0, x) :: st) h := G_iload (m4 dX0_readStep_154) rfl
theorem e4_156 {d : Nat} {L st : List AV} {h : AM} {r p0 p1 p2 : Int} (hs : st.length ≤ 4) (hk : isK h r 0) : EV (d + 1) 4 156 L ((0, p2) :: (2, p1) :: (2, p0) :: (2, r) :: st) h = (EV d 7 0 [(2, r), (2, p0), (2, p1), (0, p2)] [] h).bind (fun q => EV (d + 1) 4 159 L (psh q.1 st) q.2) := G_cv [(2, p0), (2, p1), (0, p2)] (m4 dX0_readStep_156) ow4 tr_0_88 (by decide) td7 np7 ml7 ow7 rfl rfl (Nat.le_of_ble_eq_true rfl) rfl hs hk
theorem e4_159 {d : Nat} {L st : List AV} {h : AM} : EV d 4 159 L st h = EV d 4 170 L st h := G_goto (m4 dX0_readStep_159) rfl
theorem e4_162 {d : Nat} {l1 l2 l3 l4 l5 : AV} {st : List AV} {h : AM} {x : Int} : EV d 4 162 [(2, x), l1, l2, l3, l4, l5] st h = EV d 4 163 [(2, x), l1, l2, l3, l4, l5] ((2, x) :: st) h := G_aload_n (m4 dX0_readStep_162) rfl
theorem e4_163 {d : Nat} {l0 l2 l3 l4 l5 : AV} {st : List AV} {h : AM} {x : Int} : EV d 4 163 [l0, (2, x), l2, l3, l4, l5] st h = EV d 4 164 [l0, (2, x), l2, l3, l4, l5] ((2, x) :: st) h := G_aload_n (m4 dX0_readStep_163) rfl
theorem e4_164 {d : Nat} {l0 l1 l3 l4 l5 : AV} {st : List AV} {h : AM} {x : Int} : EV d 4 164 [l0, l1, (2, x), l3, l4, l5] st h = EV d 4 165 [l0, l1, (2, x), l3, l4, l5] ((2, x) :: st) h := G_aload_n (m4 dX0_readStep_164) rfl
theorem e4_165 {d : Nat} {l0 l1 l2 l3 l4 : AV} {st : List AV} {h : AM} {x : Int} : EV d 4 165 [l0, l1, l2, l3, l4, (0, x)] st h = EV d 4 167 [l0, l1, l2, l3, l4, (0, x)] ((0, x) :: st) h := G_iload (m4 dX0_readStep_165) rfl
theorem e4_167 {d : Nat} {L st : List AV} {h : AM} {r p0 p1 p2 : Int} (hs : st.length ≤ 4) (hk : isK h r 0) : EV (d + 1) 4 167 L ((0, p2) :: (2, p1) :: (2, p0) :: (2, r) :: st) h = (EV d 6 0 [(2, r), (2, p0), (2, p1), (0, p2), (3, 0)] [] h).bind (fun q => EV (d + 1) 4 170 L (psh q.1 st) q.2) := G_cv [(2, p0), (2, p1), (0, p2)] (m4 dX0_readStep_167) ow4 tr_0_92 (by decide) td6 np6 ml6 ow6 rfl rfl (Nat.le_of_ble_eq_true rfl) rfl hs hk
theorem e4_170 {d : Nat} {L : List AV} {h : AM} : EV d 4 170 L [] h = some ((3, 0), h) := E_ret (m4 dX0_readStep_170) rt4
theorem e5_0 {d : Nat} {st : List AV} {h : AM} {x : Int} : EV d 5 0 [(0, x)] st h = EV d 5 1 [(0, x)] ((0, x) :: st) h := G_iload_n (m5 dX0_isStepWord_0) rfl
theorem e5_1 {d : Nat} {L st : List AV} {h : AM} : EV d 5 1 L st h = EV d 5 3 L ((0, 11) :: st) h := G_bipush (m5 dX0_isStepWord_1) (by decide)
theorem e5_3 {d : Nat} {L st : List AV} {h : AM} {a b : Int} : EV d 5 3 L ((0, b) :: (0, a) :: st) h = if a < b then EV d 5 12 L st h else EV d 5 6 L st h := (E_ic (m5 dX0_isStepWord_3) (t := 12) rfl).trans cc_lt
theorem e5_6 {d : Nat} {st : List AV} {h : AM} {x : Int} : EV d 5 6 [(0, x)] st h = EV d 5 7 [(0, x)] ((0, x) :: st) h := G_iload_n (m5 dX0_isStepWord_6) rfl
theorem e5_7 {d : Nat} {L st : List AV} {h : AM} : EV d 5 7 L st h = EV d 5 9 L ((0, 16) :: st) h := G_bipush (m5 dX0_isStepWord_7) (by decide)
theorem e5_9 {d : Nat} {L st : List AV} {h : AM} {a b : Int} : EV d 5 9 L ((0, b) :: (0, a) :: st) h = if b < a then EV d 5 12 L st h else EV d 5 24 L st h := (E_ic (m5 dX0_isStepWord_9) (t := 24) rfl).trans cc_le
theorem e5_12 {d : Nat} {st : List AV} {h : AM} {x : Int} : EV d 5 12 [(0, x)] st h = EV d 5 13 [(0, x)] ((0, x) :: st) h := G_iload_n (m5 dX0_isStepWord_12) rfl
theorem e5_13 {d : Nat} {L st : List AV} {h : AM} : EV d 5 13 L st h = EV d 5 15 L ((0, 20) :: st) h := G_bipush (m5 dX0_isStepWord_13) (by decide)
theorem e5_15 {d : Nat} {L st : List AV} {h : AM} {a b : Int} : EV d 5 15 L ((0, b) :: (0, a) :: st) h = if a = b then EV d 5 24 L st h else EV d 5 18 L st h := (E_ic (m5 dX0_isStepWord_15) (t := 24) rfl).trans cc_eq
theorem e5_18 {d : Nat} {st : List AV} {h : AM} {x : Int} : EV d 5 18 [(0, x)] st h = EV d 5 19 [(0, x)] ((0, x) :: st) h := G_iload_n (m5 dX0_isStepWord_18) rfl
theorem e5_19 {d : Nat} {L st : List AV} {h : AM} : EV d 5 19 L st h = EV d 5 21 L ((0, 22) :: st) h := G_bipush (m5 dX0_isStepWord_19) (by decide)
theorem e5_21 {d : Nat} {L st : List AV} {h : AM} {a b : Int} : EV d 5 21 L ((0, b) :: (0, a) :: st) h = if a = b then EV d 5 24 L st h else EV d 5 28 L st h := (E_ic (m5 dX0_isStepWord_21) (t := 28) rfl).trans cc_ne
theorem e5_24 {d : Nat} {L st : List AV} {h : AM} : EV d 5 24 L st h = EV d 5 25 L ((0, 1) :: st) h := G_iconst (m5 dX0_isStepWord_24) (by decide)
theorem e5_25 {d : Nat} {L st : List AV} {h : AM} : EV d 5 25 L st h = EV d 5 29 L st h := G_goto (m5 dX0_isStepWord_25) rfl
theorem e5_28 {d : Nat} {L st : List AV} {h : AM} : EV d 5 28 L st h = EV d 5 29 L ((0, 0) :: st) h := G_iconst (m5 dX0_isStepWord_28) (by decide)
theorem e5_29 {d : Nat} {L : List AV} {h : AM} {v : Int} (hv : v = 0 ∨ v = 1) : EV d 5 29 L [(0, v)] h = some ((0, v), h) := E_iret (m5 dX0_isStepWord_29) (by rw [rt5]; rcases hv with rfl | rfl <;> rfl)
theorem e6_0 {d : Nat} {l1 l2 l3 l4 : AV} {st : List AV} {h : AM} {x : Int} : EV d 6 0 [(2, x), l1, l2, l3, l4] st h = EV d 6 1 [(2, x), l1, l2, l3, l4] ((2, x) :: st) h := G_aload_n (m6 dX0_readDeed_0) rfl
theorem e6_1 {d : Nat} {L st : List AV} {h : AM} {r : Int} (hk : isK h r 0) : EV d 6 1 L ((2, r) :: st) h = EV d 6 4 L ((2, mrd h r 0) :: st) h := G_get (m6 dX0_readDeed_1) ow6 tf_0_9 rfl rfl hk
theorem e6_4 {d : Nat} {l0 l1 l2 l4 : AV} {st : List AV} {h : AM} {x : Int} : EV d 6 4 [l0, l1, l2, (0, x), l4] st h = EV d 6 5 [l0, l1, l2, (0, x), l4] ((0, x) :: st) h := G_iload_n (m6 dX0_readDeed_4) rfl
theorem e6_5 {d : Nat} {L st : List AV} {h : AM} {r j : Int} (hk : inA h r 16 j) : EV d 6 5 L ((0, j) :: (2, r) :: st) h = EV d 6 6 L ((0, mrd h r j) :: st) h := E_iald (m6 dX0_readDeed_5) hk
theorem e6_6 {d : Nat} {l0 l1 l2 l3 l4 : AV} {st : List AV} {h : AM} {x : Int} : EV d 6 6 [l0, l1, l2, l3, l4] ((0, x) :: st) h = EV d 6 8 [l0, l1, l2, l3, (0, x)] st h := G_istore (m6 dX0_readDeed_6) (Nat.le_of_ble_eq_true rfl) rfl
theorem e6_8 {d : Nat} {l0 l1 l2 l3 : AV} {st : List AV} {h : AM} {x : Int} : EV d 6 8 [l0, l1, l2, l3, (0, x)] st h = EV d 6 10 [l0, l1, l2, l3, (0, x)] ((0, x) :: st) h := G_iload (m6 dX0_readDeed_8) rfl
theorem e6_10 {d : Nat} {L st : List AV} {h : AM} : EV d 6 10 L st h = EV d 6 12 L ((0, 22) :: st) h := G_bipush (m6 dX0_readDeed_10) (by decide)
theorem e6_12 {d : Nat} {L st : List AV} {h : AM} {a b : Int} : EV d 6 12 L ((0, b) :: (0, a) :: st) h = if a = b then EV d 6 15 L st h else EV d 6 16 L st h := (E_ic (m6 dX0_readDeed_12) (t := 16) rfl).trans cc_ne
theorem e6_15 {d : Nat} {L : List AV} {h : AM} : EV d 6 15 L [] h = some ((3, 0), h) := E_ret (m6 dX0_readDeed_15) rt6
theorem e6_16 {d : Nat} {l0 l1 l2 l3 : AV} {st : List AV} {h : AM} {x : Int} : EV d 6 16 [l0, l1, l2, l3, (0, x)] st h = EV d 6 18 [l0, l1, l2, l3, (0, x)] ((0, x) :: st) h := G_iload (m6 dX0_readDeed_16) rfl
theorem e6_18 {d : Nat} {L st : List AV} {h : AM} : EV d 6 18 L st h = EV d 6 20 L ((0, 20) :: st) h := G_bipush (m6 dX0_readDeed_18) (by decide)
theorem e6_20 {d : Nat} {L st : List AV} {h : AM} {a b : Int} : EV d 6 20 L ((0, b) :: (0, a) :: st) h = if a = b then EV d 6 23 L st h else EV d 6 37 L st h := (E_ic (m6 dX0_readDeed_20) (t := 37) rfl).trans cc_ne
theorem e6_23 {d : Nat} {l1 l2 l3 l4 : AV} {st : List AV} {h : AM} {x : Int} : EV d 6 23 [(2, x), l1, l2, l3, l4] st h = EV d 6 24 [(2, x), l1, l2, l3, l4] ((2, x) :: st) h := G_aload_n (m6 dX0_readDeed_23) rfl
theorem e6_24 {d : Nat} {L st : List AV} {h : AM} {r : Int} (hk : isK h r 0) : EV d 6 24 L ((2, r) :: st) h = EV d 6 27 L ((2, mrd h r 2) :: st) h := G_get (m6 dX0_readDeed_24) ow6 tf_0_18 rfl rfl hk
theorem e6_27 {d : Nat} {l0 l1 l2 l4 : AV} {st : List AV} {h : AM} {x : Int} : EV d 6 27 [l0, l1, l2, (0, x), l4] st h = EV d 6 28 [l0, l1, l2, (0, x), l4] ((0, x) :: st) h := G_iload_n (m6 dX0_readDeed_27) rfl
theorem e6_28 {d : Nat} {l0 l2 l3 l4 : AV} {st : List AV} {h : AM} {x : Int} : EV d 6 28 [l0, (2, x), l2, l3, l4] st h = EV d 6 29 [l0, (2, x), l2, l3, l4] ((2, x) :: st) h := G_aload_n (m6 dX0_readDeed_28) rfl
theorem e6_29 {d : Nat} {L st : List AV} {h : AM} : EV d 6 29 L st h = EV d 6 30 L ((0, 1) :: st) h := G_iconst (m6 dX0_readDeed_29) (by decide)
theorem e6_30 {d : Nat} {L st : List AV} {h : AM} : EV d 6 30 L st h = EV d 6 32 L ((0, 99) :: st) h := G_bipush (m6 dX0_readDeed_30) (by decide)
theorem e6_32 {d : Nat} {L st : List AV} {h : AM} {r p0 p1 : Int} (hs : st.length ≤ 4) (hk : isK h r 5) : EV (d + 1) 6 32 L ((0, p1) :: (0, p0) :: (2, r) :: st) h = (EV d 45 0 [(2, r), (0, p0), (0, p1), (3, 0)] [] h).bind (fun q => EV (d + 1) 6 35 L (psh q.1 st) q.2) := G_cv [(0, p0), (0, p1)] (m6 dX0_readDeed_32) ow6 tr_0_95 (by decide) td45 np45 ml45 ow45 rfl rfl (Nat.le_of_ble_eq_true rfl) rfl hs hk
theorem e6_35 {d : Nat} {L st : List AV} {h : AM} {r j v : Int} (hk : inA h r 16 j) : EV d 6 35 L ((0, v) :: (0, j) :: (2, r) :: st) h = EV d 6 36 L st (mwr h r j v) := E_iast (m6 dX0_readDeed_35) hk
theorem e6_36 {d : Nat} {L : List AV} {h : AM} : EV d 6 36 L [] h = some ((3, 0), h) := E_ret (m6 dX0_readDeed_36) rt6
theorem e6_37 {d : Nat} {l1 l2 l3 l4 : AV} {st : List AV} {h : AM} {x : Int} : EV d 6 37 [(2, x), l1, l2, l3, l4] st h = EV d 6 38 [(2, x), l1, l2, l3, l4] ((2, x) :: st) h := G_aload_n (m6 dX0_readDeed_37) rfl
theorem e6_38 {d : Nat} {L st : List AV} {h : AM} {r : Int} (hk : isK h r 0) : EV d 6 38 L ((2, r) :: st) h = EV d 6 41 L ((2, mrd h r 1) :: st) h := G_get (m6 dX0_readDeed_38) ow6 tf_0_15 rfl rfl hk
theorem e6_41 {d : Nat} {l0 l1 l2 l4 : AV} {st : List AV} {h : AM} {x : Int} : EV d 6 41 [l0, l1, l2, (0, x), l4] st h = EV d 6 42 [l0, l1, l2, (0, x), l4] ((0, x) :: st) h := G_iload_n (m6 dX0_readDeed_41) rfl
theorem e6_42 {d : Nat} {l0 l2 l3 l4 : AV} {st : List AV} {h : AM} {x : Int} : EV d 6 42 [l0, (2, x), l2, l3, l4] st h = EV d 6 43 [l0, (2, x), l2, l3, l4] ((2, x) :: st) h := G_aload_n (m6 dX0_readDeed_42) rfl
theorem e6_43 {d : Nat} {l0 l1 l3 l4 : AV} {st : List AV} {h : AM} {x : Int} : EV d 6 43 [l0, l1, (2, x), l3, l4] st h = EV d 6 44 [l0, l1, (2, x), l3, l4] ((2, x) :: st) h := G_aload_n (m6 dX0_readDeed_43) rfl
theorem e6_44 {d : Nat} {l0 l2 l3 l4 : AV} {st : List AV} {h : AM} {x : Int} : EV d 6 44 [l0, (2, x), l2, l3, l4] st h = EV d 6 45 [l0, (2, x), l2, l3, l4] ((2, x) :: st) h := G_aload_n (m6 dX0_readDeed_44) rfl
theorem e6_45 {d : Nat} {L st : List AV} {h : AM} {r : Int} (hs : st.length ≤ 4) (hk : isK h r 5) : EV (d + 1) 6 45 L ((2, r) :: st) h = (EV d 48 0 [(2, r)] [] h).bind (fun q => EV (d + 1) 6 48 L (psh q.1 st) q.2) := G_cv [] (m6 dX0_readDeed_45) ow6 tr_0_99 (by decide) td48 np48 ml48 ow48 rfl rfl (Nat.le_of_ble_eq_true rfl) rfl hs hk
theorem e6_48 {d : Nat} {L st : List AV} {h : AM} {r p0 : Int} (hs : st.length ≤ 4) (hk : isK h r 6) : EV (d + 1) 6 48 L ((1, p0) :: (2, r) :: st) h = (EV d 62 0 [(2, r), (1, p0), (3, 1), (3, 0)] [] h).bind (fun q => EV (d + 1) 6 51 L (psh q.1 st) q.2) := G_cv [(1, p0)] (m6 dX0_readDeed_48) ow6 tr_0_103 (by decide) td62 np62 ml62 ow62 rfl rfl (Nat.le_of_ble_eq_true rfl) rfl hs hk
theorem e6_51 {d : Nat} {L st : List AV} {h : AM} {r p0 : Int} (hs : st.length ≤ 4) (hk : isK h r 5) : EV (d + 1) 6 51 L ((0, p0) :: (2, r) :: st) h = (EV d 49 0 [(2, r), (0, p0)] [] h).bind (fun q => EV (d + 1) 6 54 L (psh q.1 st) q.2) := G_cv [(0, p0)] (m6 dX0_readDeed_51) ow6 tr_0_109 (by decide) td49 np49 ml49 ow49 rfl rfl (Nat.le_of_ble_eq_true rfl) rfl hs hk
theorem e6_54 {d : Nat} {L st : List AV} {h : AM} {r j v : Int} (hk : inA h r 16 j) : EV d 6 54 L ((0, v) :: (0, j) :: (2, r) :: st) h = EV d 6 55 L st (mwr h r j v) := E_iast (m6 dX0_readDeed_54) hk
theorem e6_55 {d : Nat} {l0 l1 l2 l3 : AV} {st : List AV} {h : AM} {x : Int} : EV d 6 55 [l0, l1, l2, l3, (0, x)] st h = EV d 6 57 [l0, l1, l2, l3, (0, x)] ((0, x) :: st) h := G_iload (m6 dX0_readDeed_55) rfl
theorem e6_57 {d : Nat} {L st : List AV} {h : AM} : EV d 6 57 L st h = EV d 6 59 L ((0, 11) :: st) h := G_bipush (m6 dX0_readDeed_57) (by decide)
theorem e6_59 {d : Nat} {L st : List AV} {h : AM} {a b : Int} : EV d 6 59 L ((0, b) :: (0, a) :: st) h = if a = b then EV d 6 62 L st h else EV d 6 83 L st h := (E_ic (m6 dX0_readDeed_59) (t := 83) rfl).trans cc_ne
theorem e6_62 {d : Nat} {l1 l2 l3 l4 : AV} {st : List AV} {h : AM} {x : Int} : EV d 6 62 [(2, x), l1, l2, l3, l4] st h = EV d 6 63 [(2, x), l1, l2, l3, l4] ((2, x) :: st) h := G_aload_n (m6 dX0_readDeed_62) rfl
theorem e6_63 {d : Nat} {L st : List AV} {h : AM} {r : Int} (hk : isK h r 0) : EV d 6 63 L ((2, r) :: st) h = EV d 6 66 L ((2, mrd h r 2) :: st) h := G_get (m6 dX0_readDeed_63) ow6 tf_0_18 rfl rfl hk
theorem e6_66 {d : Nat} {l0 l1 l2 l4 : AV} {st : List AV} {h : AM} {x : Int} : EV d 6 66 [l0, l1, l2, (0, x), l4] st h = EV d 6 67 [l0, l1, l2, (0, x), l4] ((0, x) :: st) h := G_iload_n (m6 dX0_readDeed_66) rfl
theorem e6_67 {d : Nat} {l0 l2 l3 l4 : AV} {st : List AV} {h : AM} {x : Int} : EV d 6 67 [l0, (2, x), l2, l3, l4] st h = EV d 6 68 [l0, (2, x), l2, l3, l4] ((2, x) :: st) h := G_aload_n (m6 dX0_readDeed_67) rfl
theorem e6_68 {d : Nat} {l0 l1 l3 l4 : AV} {st : List AV} {h : AM} {x : Int} : EV d 6 68 [l0, l1, (2, x), l3, l4] st h = EV d 6 69 [l0, l1, (2, x), l3, l4] ((2, x) :: st) h := G_aload_n (m6 dX0_readDeed_68) rfl
theorem e6_69 {d : Nat} {l0 l2 l3 l4 : AV} {st : List AV} {h : AM} {x : Int} : EV d 6 69 [l0, (2, x), l2, l3, l4] st h = EV d 6 70 [l0, (2, x), l2, l3, l4] ((2, x) :: st) h := G_aload_n (m6 dX0_readDeed_69) rfl
theorem e6_70 {d : Nat} {L st : List AV} {h : AM} {r : Int} (hs : st.length ≤ 4) (hk : isK h r 5) : EV (d + 1) 6 70 L ((2, r) :: st) h = (EV d 48 0 [(2, r)] [] h).bind (fun q => EV (d + 1) 6 73 L (psh q.1 st) q.2) := G_cv [] (m6 dX0_readDeed_70) ow6 tr_0_99 (by decide) td48 np48 ml48 ow48 rfl rfl (Nat.le_of_ble_eq_true rfl) rfl hs hk
theorem e6_73 {d : Nat} {L st : List AV} {h : AM} {r p0 : Int} (hs : st.length ≤ 4) (hk : isK h r 6) : EV (d + 1) 6 73 L ((1, p0) :: (2, r) :: st) h = (EV d 61 0 [(2, r), (1, p0), (3, 1), (3, 0)] [] h).bind (fun q => EV (d + 1) 6 76 L (psh q.1 st) q.2) := G_cv [(1, p0)] (m6 dX0_readDeed_73) ow6 tr_0_113 (by decide) td61 np61 ml61 ow61 rfl rfl (Nat.le_of_ble_eq_true rfl) rfl hs hk
theorem e6_76 {d : Nat} {L st : List AV} {h : AM} {r p0 : Int} (hs : st.length ≤ 4) (hk : isK h r 5) : EV (d + 1) 6 76 L ((0, p0) :: (2, r) :: st) h = (EV d 49 0 [(2, r), (0, p0)] [] h).bind (fun q => EV (d + 1) 6 79 L (psh q.1 st) q.2) := G_cv [(0, p0)] (m6 dX0_readDeed_76) ow6 tr_0_109 (by decide) td49 np49 ml49 ow49 rfl rfl (Nat.le_of_ble_eq_true rfl) rfl hs hk
theorem e6_79 {d : Nat} {L st : List AV} {h : AM} {r j v : Int} (hk : inA h r 16 j) : EV d 6 79 L ((0, v) :: (0, j) :: (2, r) :: st) h = EV d 6 80 L st (mwr h r j v) := E_iast (m6 dX0_readDeed_79) hk
theorem e6_80 {d : Nat} {L st : List AV} {h : AM} : EV d 6 80 L st h = EV d 6 133 L st h := G_goto (m6 dX0_readDeed_80) rfl
theorem e6_83 {d : Nat} {l0 l1 l2 l3 : AV} {st : List AV} {h : AM} {x : Int} : EV d 6 83 [l0, l1, l2, l3, (0, x)] st h = EV d 6 85 [l0, l1, l2, l3, (0, x)] ((0, x) :: st) h := G_iload (m6 dX0_readDeed_83) rfl
theorem e6_85 {d : Nat} {L st : List AV} {h : AM} : EV d 6 85 L st h = EV d 6 87 L ((0, 12) :: st) h := G_bipush (m6 dX0_readDeed_85) (by decide)
theorem e6_87 {d : Nat} {L st : List AV} {h : AM} {a b : Int} : EV d 6 87 L ((0, b) :: (0, a) :: st) h = if a = b then EV d 6 90 L st h else EV d 6 106 L st h := (E_ic (m6 dX0_readDeed_87) (t := 106) rfl).trans cc_ne
theorem e6_90 {d : Nat} {l1 l2 l3 l4 : AV} {st : List AV} {h : AM} {x : Int} : EV d 6 90 [(2, x), l1, l2, l3, l4] st h = EV d 6 91 [(2, x), l1, l2, l3, l4] ((2, x) :: st) h := G_aload_n (m6 dX0_readDeed_90) rfl
theorem e6_91 {d : Nat} {L st : List AV} {h : AM} {r : Int} (hk : isK h r 0) : EV d 6 91 L ((2, r) :: st) h = EV d 6 94 L ((2, mrd h r 2) :: st) h := G_get (m6 dX0_readDeed_91) ow6 tf_0_18 rfl rfl hk
theorem e6_94 {d : Nat} {l0 l1 l2 l4 : AV} {st : List AV} {h : AM} {x : Int} : EV d 6 94 [l0, l1, l2, (0, x), l4] st h = EV d 6 95 [l0, l1, l2, (0, x), l4] ((0, x) :: st) h := G_iload_n (m6 dX0_readDeed_94) rfl
theorem e6_95 {d : Nat} {l0 l2 l3 l4 : AV} {st : List AV} {h : AM} {x : Int} : EV d 6 95 [l0, (2, x), l2, l3, l4] st h = EV d 6 96 [l0, (2, x), l2, l3, l4] ((2, x) :: st) h := G_aload_n (m6 dX0_readDeed_95) rfl
theorem e6_96 {d : Nat} {L st : List AV} {h : AM} : EV d 6 96 L st h = EV d 6 97 L ((0, 0) :: st) h := G_iconst (m6 dX0_readDeed_96) (by decide)
theorem e6_97 {d : Nat} {L st : List AV} {h : AM} : EV d 6 97 L st h = EV d 6 99 L ((0, 11) :: st) h := G_bipush (m6 dX0_readDeed_97) (by decide)
theorem e6_99 {d : Nat} {L st : List AV} {h : AM} {r p0 p1 : Int} (hs : st.length ≤ 4) (hk : isK h r 5) : EV (d + 1) 6 99 L ((0, p1) :: (0, p0) :: (2, r) :: st) h = (EV d 45 0 [(2, r), (0, p0), (0, p1), (3, 0)] [] h).bind (fun q => EV (d + 1) 6 102 L (psh q.1 st) q.2) := G_cv [(0, p0), (0, p1)] (m6 dX0_readDeed_99) ow6 tr_0_95 (by decide) td45 np45 ml45 ow45 rfl rfl (Nat.le_of_ble_eq_true rfl) rfl hs hk
theorem e6_102 {d : Nat} {L st : List AV} {h : AM} {r j v : Int} (hk : inA h r 16 j) : EV d 6 102 L ((0, v) :: (0, j) :: (2, r) :: st) h = EV d 6 103 L st (mwr h r j v) := E_iast (m6 dX0_readDeed_102) hk
theorem e6_103 {d : Nat} {L st : List AV} {h : AM} : EV d 6 103 L st h = EV d 6 133 L st h := G_goto (m6 dX0_readDeed_103) rfl
theorem e6_106 {d : Nat} {l0 l1 l2 l3 : AV} {st : List AV} {h : AM} {x : Int} : EV d 6 106 [l0, l1, l2, l3, (0, x)] st h = EV d 6 108 [l0, l1, l2, l3, (0, x)] ((0, x) :: st) h := G_iload (m6 dX0_readDeed_106) rfl
theorem e6_108 {d : Nat} {L st : List AV} {h : AM} : EV d 6 108 L st h = EV d 6 110 L ((0, 14) :: st) h := G_bipush (m6 dX0_readDeed_108) (by decide)
theorem e6_110 {d : Nat} {L st : List AV} {h : AM} {a b : Int} : EV d 6 110 L ((0, b) :: (0, a) :: st) h = if a = b then EV d 6 120 L st h else EV d 6 113 L st h := (E_ic (m6 dX0_readDeed_110) (t := 120) rfl).trans cc_eq
theorem e6_113 {d : Nat} {l0 l1 l2 l3 : AV} {st : List AV} {h : AM} {x : Int} : EV d 6 113 [l0, l1, l2, l3, (0, x)] st h = EV d 6 115 [l0, l1, l2, l3, (0, x)] ((0, x) :: st) h := G_iload (m6 dX0_readDeed_113) rfl
theorem e6_115 {d : Nat} {L st : List AV} {h : AM} : EV d 6 115 L st h = EV d 6 117 L ((0, 15) :: st) h := G_bipush (m6 dX0_readDeed_115) (by decide)
theorem e6_117 {d : Nat} {L st : List AV} {h : AM} {a b : Int} : EV d 6 117 L ((0, b) :: (0, a) :: st) h = if a = b then EV d 6 120 L st h else EV d 6 133 L st h := (E_ic (m6 dX0_readDeed_117) (t := 133) rfl).trans cc_ne
theorem e6_120 {d : Nat} {l1 l2 l3 l4 : AV} {st : List AV} {h : AM} {x : Int} : EV d 6 120 [(2, x), l1, l2, l3, l4] st h = EV d 6 121 [(2, x), l1, l2, l3, l4] ((2, x) :: st) h := G_aload_n (m6 dX0_readDeed_120) rfl
theorem e6_121 {d : Nat} {L st : List AV} {h : AM} {r : Int} (hk : isK h r 0) : EV d 6 121 L ((2, r) :: st) h = EV d 6 124 L ((2, mrd h r 2) :: st) h := G_get (m6 dX0_readDeed_121) ow6 tf_0_18 rfl rfl hk
theorem e6_124 {d : Nat} {l0 l1 l2 l4 : AV} {st : List AV} {h : AM} {x : Int} : EV d 6 124 [l0, l1, l2, (0, x), l4] st h = EV d 6 125 [l0, l1, l2, (0, x), l4] ((0, x) :: st) h := G_iload_n (m6 dX0_readDeed_124) rfl
theorem e6_125 {d : Nat} {l0 l2 l3 l4 : AV} {st : List AV} {h : AM} {x : Int} : EV d 6 125 [l0, (2, x), l2, l3, l4] st h = EV d 6 126 [l0, (2, x), l2, l3, l4] ((2, x) :: st) h := G_aload_n (m6 dX0_readDeed_125) rfl
theorem e6_126 {d : Nat} {L st : List AV} {h : AM} : EV d 6 126 L st h = EV d 6 127 L ((0, 1) :: st) h := G_iconst (m6 dX0_readDeed_126) (by decide)
theorem e6_127 {d : Nat} {L st : List AV} {h : AM} : EV d 6 127 L st h = EV d 6 129 L ((0, 99) :: st) h := G_bipush (m6 dX0_readDeed_127) (by decide)
theorem e6_129 {d : Nat} {L st : List AV} {h : AM} {r p0 p1 : Int} (hs : st.length ≤ 4) (hk : isK h r 5) : EV (d + 1) 6 129 L ((0, p1) :: (0, p0) :: (2, r) :: st) h = (EV d 45 0 [(2, r), (0, p0), (0, p1), (3, 0)] [] h).bind (fun q => EV (d + 1) 6 132 L (psh q.1 st) q.2) := G_cv [(0, p0), (0, p1)] (m6 dX0_readDeed_129) ow6 tr_0_95 (by decide) td45 np45 ml45 ow45 rfl rfl (Nat.le_of_ble_eq_true rfl) rfl hs hk
theorem e6_132 {d : Nat} {L st : List AV} {h : AM} {r j v : Int} (hk : inA h r 16 j) : EV d 6 132 L ((0, v) :: (0, j) :: (2, r) :: st) h = EV d 6 133 L st (mwr h r j v) := E_iast (m6 dX0_readDeed_132) hk
theorem e6_133 {d : Nat} {L : List AV} {h : AM} : EV d 6 133 L [] h = some ((3, 0), h) := E_ret (m6 dX0_readDeed_133) rt6
theorem e7_0 {d : Nat} {l0 l2 l3 : AV} {st : List AV} {h : AM} {x : Int} : EV d 7 0 [l0, (2, x), l2, l3] st h = EV d 7 1 [l0, (2, x), l2, l3] ((2, x) :: st) h := G_aload_n (m7 dX0_readTest_0) rfl
theorem e7_1 {d : Nat} {L st : List AV} {h : AM} : EV d 7 1 L st h = EV d 7 3 L ((0, 17) :: st) h := G_bipush (m7 dX0_readTest_1) (by decide)
theorem e7_3 {d : Nat} {L st : List AV} {h : AM} {r p0 : Int} (hs : st.length ≤ 4) (hk : isK h r 5) : EV (d + 1) 7 3 L ((0, p0) :: (2, r) :: st) h = (EV d 41 0 [(2, r), (0, p0)] [] h).bind (fun q => EV (d + 1) 7 6 L (psh q.1 st) q.2) := G_cv [(0, p0)] (m7 dX0_readTest_3) ow7 tr_0_53 (by decide) td41 np41 ml41 ow41 rfl rfl (Nat.le_of_ble_eq_true rfl) rfl hs hk
theorem e7_6 {d : Nat} {L st : List AV} {h : AM} {a : Int} : EV d 7 6 L ((0, a) :: st) h = if a = 0 then EV d 7 9 L st h else EV d 7 32 L st h := (E_if (m7 dX0_readTest_6) (t := 32) rfl).trans cc_ne
theorem e7_9 {d : Nat} {l0 l2 l3 : AV} {st : List AV} {h : AM} {x : Int} : EV d 7 9 [l0, (2, x), l2, l3] st h = EV d 7 10 [l0, (2, x), l2, l3] ((2, x) :: st) h := G_aload_n (m7 dX0_readTest_9) rfl
theorem e7_10 {d : Nat} {L st : List AV} {h : AM} : EV d 7 10 L st h = EV d 7 12 L ((0, 18) :: st) h := G_bipush (m7 dX0_readTest_10) (by decide)
theorem e7_12 {d : Nat} {L st : List AV} {h : AM} {r p0 : Int} (hs : st.length ≤ 4) (hk : isK h r 5) : EV (d + 1) 7 12 L ((0, p0) :: (2, r) :: st) h = (EV d 41 0 [(2, r), (0, p0)] [] h).bind (fun q => EV (d + 1) 7 15 L (psh q.1 st) q.2) := G_cv [(0, p0)] (m7 dX0_readTest_12) ow7 tr_0_53 (by decide) td41 np41 ml41 ow41 rfl rfl (Nat.le_of_ble_eq_true rfl) rfl hs hk
theorem e7_15 {d : Nat} {L st : List AV} {h : AM} {a : Int} : EV d 7 15 L ((0, a) :: st) h = if a = 0 then EV d 7 18 L st h else EV d 7 32 L st h := (E_if (m7 dX0_readTest_15) (t := 32) rfl).trans cc_ne
theorem e7_18 {d : Nat} {l0 l2 l3 : AV} {st : List AV} {h : AM} {x : Int} : EV d 7 18 [l0, (2, x), l2, l3] st h = EV d 7 19 [l0, (2, x), l2, l3] ((2, x) :: st) h := G_aload_n (m7 dX0_readTest_18) rfl
theorem e7_19 {d : Nat} {L st : List AV} {h : AM} : EV d 7 19 L st h = EV d 7 21 L ((0, 19) :: st) h := G_bipush (m7 dX0_readTest_19) (by decide)
theorem e7_21 {d : Nat} {L st : List AV} {h : AM} {r p0 : Int} (hs : st.length ≤ 4) (hk : isK h r 5) : EV (d + 1) 7 21 L ((0, p0) :: (2, r) :: st) h = (EV d 41 0 [(2, r), (0, p0)] [] h).bind (fun q => EV (d + 1) 7 24 L (psh q.1 st) q.2) := G_cv [(0, p0)] (m7 dX0_readTest_21) ow7 tr_0_53 (by decide) td41 np41 ml41 ow41 rfl rfl (Nat.le_of_ble_eq_true rfl) rfl hs hk
theorem e7_24 {d : Nat} {L st : List AV} {h : AM} {a : Int} : EV d 7 24 L ((0, a) :: st) h = if a = 0 then EV d 7 27 L st h else EV d 7 32 L st h := (E_if (m7 dX0_readTest_24) (t := 32) rfl).trans cc_ne
theorem e7_27 {d : Nat} {l0 l2 l3 : AV} {st : List AV} {h : AM} {x : Int} : EV d 7 27 [l0, (2, x), l2, l3] st h = EV d 7 28 [l0, (2, x), l2, l3] ((2, x) :: st) h := G_aload_n (m7 dX0_readTest_27) rfl
theorem e7_28 {d : Nat} {L st : List AV} {h : AM} {r : Int} (hs : st.length ≤ 4) (hk : isK h r 5) : EV (d + 1) 7 28 L ((2, r) :: st) h = (EV d 40 0 [(2, r)] [] h).bind (fun q => EV (d + 1) 7 31 L (psh q.1 st) q.2) := G_cv [] (m7 dX0_readTest_28) ow7 tr_0_69 (by decide) td40 np40 ml40 ow40 rfl rfl (Nat.le_of_ble_eq_true rfl) rfl hs hk
theorem e7_31 {d : Nat} {L : List AV} {h : AM} : EV d 7 31 L [] h = some ((3, 0), h) := E_ret (m7 dX0_readTest_31) rt7
theorem e7_32 {d : Nat} {l1 l2 l3 : AV} {st : List AV} {h : AM} {x : Int} : EV d 7 32 [(2, x), l1, l2, l3] st h = EV d 7 33 [(2, x), l1, l2, l3] ((2, x) :: st) h := G_aload_n (m7 dX0_readTest_32) rfl
theorem e7_33 {d : Nat} {L st : List AV} {h : AM} {r : Int} (hk : isK h r 0) : EV d 7 33 L ((2, r) :: st) h = EV d 7 36 L ((2, mrd h r 0) :: st) h := G_get (m7 dX0_readTest_33) ow7 tf_0_9 rfl rfl hk
theorem e7_36 {d : Nat} {l0 l1 l2 : AV} {st : List AV} {h : AM} {x : Int} : EV d 7 36 [l0, l1, l2, (0, x)] st h = EV d 7 37 [l0, l1, l2, (0, x)] ((0, x) :: st) h := G_iload_n (m7 dX0_readTest_36) rfl
theorem e7_37 {d : Nat} {l0 l2 l3 : AV} {st : List AV} {h : AM} {x : Int} : EV d 7 37 [l0, (2, x), l2, l3] st h = EV d 7 38 [l0, (2, x), l2, l3] ((2, x) :: st) h := G_aload_n (m7 dX0_readTest_37) rfl
theorem e7_38 {d : Nat} {L st : List AV} {h : AM} {r : Int} (hk : isK h r 5) : EV d 7 38 L ((2, r) :: st) h = EV d 7 41 L ((0, mrd h r 8) :: st) h := G_get (m7 dX0_readTest_38) ow7 tf_0_75 rfl rfl hk
theorem e7_41 {d : Nat} {L st : List AV} {h : AM} {r j v : Int} (hk : inA h r 16 j) : EV d 7 41 L ((0, v) :: (0, j) :: (2, r) :: st) h = EV d 7 42 L st (mwr h r j v) := E_iast (m7 dX0_readTest_41) hk
theorem e7_42 {d : Nat} {l0 l2 l3 : AV} {st : List AV} {h : AM} {x : Int} : EV d 7 42 [l0, (2, x), l2, l3] st h = EV d 7 43 [l0, (2, x), l2, l3] ((2, x) :: st) h := G_aload_n (m7 dX0_readTest_42) rfl
theorem e7_43 {d : Nat} {L st : List AV} {h : AM} {r : Int} (hs : st.length ≤ 4) (hk : isK h r 5) : EV (d + 1) 7 43 L ((2, r) :: st) h = (EV d 35 0 [(2, r)] [] h).bind (fun q => EV (d + 1) 7 46 L (psh q.1 st) q.2) := G_cv [] (m7 dX0_readTest_43) ow7 tr_0_72 (by decide) td35 np35 ml35 ow35 rfl rfl (Nat.le_of_ble_eq_true rfl) rfl hs hk
theorem e7_46 {d : Nat} {l1 l2 l3 : AV} {st : List AV} {h : AM} {x : Int} : EV d 7 46 [(2, x), l1, l2, l3] st h = EV d 7 47 [(2, x), l1, l2, l3] ((2, x) :: st) h := G_aload_n (m7 dX0_readTest_46) rfl
theorem e7_47 {d : Nat} {L st : List AV} {h : AM} {r : Int} (hk : isK h r 0) : EV d 7 47 L ((2, r) :: st) h = EV d 7 50 L ((2, mrd h r 1) :: st) h := G_get (m7 dX0_readTest_47) ow7 tf_0_15 rfl rfl hk
theorem e7_50 {d : Nat} {l0 l1 l2 : AV} {st : List AV} {h : AM} {x : Int} : EV d 7 50 [l0, l1, l2, (0, x)] st h = EV d 7 51 [l0, l1, l2, (0, x)] ((0, x) :: st) h := G_iload_n (m7 dX0_readTest_50) rfl
theorem e7_51 {d : Nat} {l0 l2 l3 : AV} {st : List AV} {h : AM} {x : Int} : EV d 7 51 [l0, (2, x), l2, l3] st h = EV d 7 52 [l0, (2, x), l2, l3] ((2, x) :: st) h := G_aload_n (m7 dX0_readTest_51) rfl
theorem e7_52 {d : Nat} {l0 l1 l3 : AV} {st : List AV} {h : AM} {x : Int} : EV d 7 52 [l0, l1, (2, x), l3] st h = EV d 7 53 [l0, l1, (2, x), l3] ((2, x) :: st) h := G_aload_n (m7 dX0_readTest_52) rfl
theorem e7_53 {d : Nat} {l0 l2 l3 : AV} {st : List AV} {h : AM} {x : Int} : EV d 7 53 [l0, (2, x), l2, l3] st h = EV d 7 54 [l0, (2, x), l2, l3] ((2, x) :: st) h := G_aload_n (m7 dX0_readTest_53) rfl
theorem e7_54 {d : Nat} {L st : List AV} {h : AM} {r : Int} (hs : st.length ≤ 4) (hk : isK h r 5) : EV (d + 1) 7 54 L ((2, r) :: st) h = (EV d 48 0 [(2, r)] [] h).bind (fun q => EV (d + 1) 7 57 L (psh q.1 st) q.2) := G_cv [] (m7 dX0_readTest_54) ow7 tr_0_99 (by decide) td48 np48 ml48 ow48 rfl rfl (Nat.le_of_ble_eq_true rfl) rfl hs hk
theorem e7_57 {d : Nat} {L st : List AV} {h : AM} {r p0 : Int} (hs : st.length ≤ 4) (hk : isK h r 6) : EV (d + 1) 7 57 L ((1, p0) :: (2, r) :: st) h = (EV d 62 0 [(2, r), (1, p0), (3, 1), (3, 0)] [] h).bind (fun q => EV (d + 1) 7 60 L (psh q.1 st) q.2) := G_cv [(1, p0)] (m7 dX0_readTest_57) ow7 tr_0_103 (by decide) td62 np62 ml62 ow62 rfl rfl (Nat.le_of_ble_eq_true rfl) rfl hs hk
theorem e7_60 {d : Nat} {L st : List AV} {h : AM} {r p0 : Int} (hs : st.length ≤ 4) (hk : isK h r 5) : EV (d + 1) 7 60 L ((0, p0) :: (2, r) :: st) h = (EV d 49 0 [(2, r), (0, p0)] [] h).bind (fun q => EV (d + 1) 7 63 L (psh q.1 st) q.2) := G_cv [(0, p0)] (m7 dX0_readTest_60) ow7 tr_0_109 (by decide) td49 np49 ml49 ow49 rfl rfl (Nat.le_of_ble_eq_true rfl) rfl hs hk
theorem e7_63 {d : Nat} {L st : List AV} {h : AM} {r j v : Int} (hk : inA h r 16 j) : EV d 7 63 L ((0, v) :: (0, j) :: (2, r) :: st) h = EV d 7 64 L st (mwr h r j v) := E_iast (m7 dX0_readTest_63) hk
theorem e7_64 {d : Nat} {l1 l2 l3 : AV} {st : List AV} {h : AM} {x : Int} : EV d 7 64 [(2, x), l1, l2, l3] st h = EV d 7 65 [(2, x), l1, l2, l3] ((2, x) :: st) h := G_aload_n (m7 dX0_readTest_64) rfl
theorem e7_65 {d : Nat} {L st : List AV} {h : AM} {r : Int} (hk : isK h r 0) : EV d 7 65 L ((2, r) :: st) h = EV d 7 68 L ((2, mrd h r 0) :: st) h := G_get (m7 dX0_readTest_65) ow7 tf_0_9 rfl rfl hk
theorem e7_68 {d : Nat} {l0 l1 l2 : AV} {st : List AV} {h : AM} {x : Int} : EV d 7 68 [l0, l1, l2, (0, x)] st h = EV d 7 69 [l0, l1, l2, (0, x)] ((0, x) :: st) h := G_iload_n (m7 dX0_readTest_68) rfl
theorem e7_69 {d : Nat} {L st : List AV} {h : AM} {r j : Int} (hk : inA h r 16 j) : EV d 7 69 L ((0, j) :: (2, r) :: st) h = EV d 7 70 L ((0, mrd h r j) :: st) h := E_iald (m7 dX0_readTest_69) hk
theorem e7_70 {d : Nat} {L st : List AV} {h : AM} : EV d 7 70 L st h = EV d 7 72 L ((0, 17) :: st) h := G_bipush (m7 dX0_readTest_70) (by decide)
theorem e7_72 {d : Nat} {L st : List AV} {h : AM} {a b : Int} : EV d 7 72 L ((0, b) :: (0, a) :: st) h = if a = b then EV d 7 75 L st h else EV d 7 101 L st h := (E_ic (m7 dX0_readTest_72) (t := 101) rfl).trans cc_ne
theorem e7_75 {d : Nat} {l1 l2 l3 : AV} {st : List AV} {h : AM} {x : Int} : EV d 7 75 [(2, x), l1, l2, l3] st h = EV d 7 76 [(2, x), l1, l2, l3] ((2, x) :: st) h := G_aload_n (m7 dX0_readTest_75) rfl
theorem e7_76 {d : Nat} {L st : List AV} {h : AM} {r : Int} (hk : isK h r 0) : EV d 7 76 L ((2, r) :: st) h = EV d 7 79 L ((2, mrd h r 3) :: st) h := G_get (m7 dX0_readTest_76) ow7 tf_0_21 rfl rfl hk
theorem e7_79 {d : Nat} {l0 l1 l2 : AV} {st : List AV} {h : AM} {x : Int} : EV d 7 79 [l0, l1, l2, (0, x)] st h = EV d 7 80 [l0, l1, l2, (0, x)] ((0, x) :: st) h := G_iload_n (m7 dX0_readTest_79) rfl
theorem e7_80 {d : Nat} {l0 l2 l3 : AV} {st : List AV} {h : AM} {x : Int} : EV d 7 80 [l0, (2, x), l2, l3] st h = EV d 7 81 [l0, (2, x), l2, l3] ((2, x) :: st) h := G_aload_n (m7 dX0_readTest_80) rfl
theorem e7_81 {d : Nat} {L st : List AV} {h : AM} {r : Int} (hs : st.length ≤ 4) (hk : isK h r 5) : EV (d + 1) 7 81 L ((2, r) :: st) h = (EV d 47 0 [(2, r), (3, 0)] [] h).bind (fun q => EV (d + 1) 7 84 L (psh q.1 st) q.2) := G_cv [] (m7 dX0_readTest_81) ow7 tr_0_116 (by decide) td47 np47 ml47 ow47 rfl rfl (Nat.le_of_ble_eq_true rfl) rfl hs hk
theorem e7_84 {d : Nat} {L st : List AV} {h : AM} {r j v : Int} (hk : inA h r 16 j) : EV d 7 84 L ((0, v) :: (0, j) :: (2, r) :: st) h = EV d 7 85 L st (mwr h r j v) := E_iast (m7 dX0_readTest_84) hk
theorem e7_85 {d : Nat} {l1 l2 l3 : AV} {st : List AV} {h : AM} {x : Int} : EV d 7 85 [(2, x), l1, l2, l3] st h = EV d 7 86 [(2, x), l1, l2, l3] ((2, x) :: st) h := G_aload_n (m7 dX0_readTest_85) rfl
theorem e7_86 {d : Nat} {L st : List AV} {h : AM} {r : Int} (hk : isK h r 0) : EV d 7 86 L ((2, r) :: st) h = EV d 7 89 L ((2, mrd h r 2) :: st) h := G_get (m7 dX0_readTest_86) ow7 tf_0_18 rfl rfl hk
theorem e7_89 {d : Nat} {l0 l1 l2 : AV} {st : List AV} {h : AM} {x : Int} : EV d 7 89 [l0, l1, l2, (0, x)] st h = EV d 7 90 [l0, l1, l2, (0, x)] ((0, x) :: st) h := G_iload_n (m7 dX0_readTest_89) rfl
theorem e7_90 {d : Nat} {l0 l2 l3 : AV} {st : List AV} {h : AM} {x : Int} : EV d 7 90 [l0, (2, x), l2, l3] st h = EV d 7 91 [l0, (2, x), l2, l3] ((2, x) :: st) h := G_aload_n (m7 dX0_readTest_90) rfl
theorem e7_91 {d : Nat} {L st : List AV} {h : AM} : EV d 7 91 L st h = EV d 7 92 L ((0, 0) :: st) h := G_iconst (m7 dX0_readTest_91) (by decide)
theorem e7_92 {d : Nat} {L st : List AV} {h : AM} : EV d 7 92 L st h = EV d 7 94 L ((0, 12) :: st) h := G_bipush (m7 dX0_readTest_92) (by decide)
theorem e7_94 {d : Nat} {L st : List AV} {h : AM} {r p0 p1 : Int} (hs : st.length ≤ 4) (hk : isK h r 5) : EV (d + 1) 7 94 L ((0, p1) :: (0, p0) :: (2, r) :: st) h = (EV d 45 0 [(2, r), (0, p0), (0, p1), (3, 0)] [] h).bind (fun q => EV (d + 1) 7 97 L (psh q.1 st) q.2) := G_cv [(0, p0), (0, p1)] (m7 dX0_readTest_94) ow7 tr_0_95 (by decide) td45 np45 ml45 ow45 rfl rfl (Nat.le_of_ble_eq_true rfl) rfl hs hk
theorem e7_97 {d : Nat} {L st : List AV} {h : AM} {r j v : Int} (hk : inA h r 16 j) : EV d 7 97 L ((0, v) :: (0, j) :: (2, r) :: st) h = EV d 7 98 L st (mwr h r j v) := E_iast (m7 dX0_readTest_97) hk
theorem e7_98 {d : Nat} {L st : List AV} {h : AM} : EV d 7 98 L st h = EV d 7 130 L st h := G_goto (m7 dX0_readTest_98) rfl
theorem e7_101 {d : Nat} {l1 l2 l3 : AV} {st : List AV} {h : AM} {x : Int} : EV d 7 101 [(2, x), l1, l2, l3] st h = EV d 7 102 [(2, x), l1, l2, l3] ((2, x) :: st) h := G_aload_n (m7 dX0_readTest_101) rfl
theorem e7_102 {d : Nat} {L st : List AV} {h : AM} {r : Int} (hk : isK h r 0) : EV d 7 102 L ((2, r) :: st) h = EV d 7 105 L ((2, mrd h r 0) :: st) h := G_get (m7 dX0_readTest_102) ow7 tf_0_9 rfl rfl hk
theorem e7_105 {d : Nat} {l0 l1 l2 : AV} {st : List AV} {h : AM} {x : Int} : EV d 7 105 [l0, l1, l2, (0, x)] st h = EV d 7 106 [l0, l1, l2, (0, x)] ((0, x) :: st) h := G_iload_n (m7 dX0_readTest_105) rfl
theorem e7_106 {d : Nat} {L st : List AV} {h : AM} {r j : Int} (hk : inA h r 16 j) : EV d 7 106 L ((0, j) :: (2, r) :: st) h = EV d 7 107 L ((0, mrd h r j) :: st) h := E_iald (m7 dX0_readTest_106) hk
theorem e7_107 {d : Nat} {L st : List AV} {h : AM} : EV d 7 107 L st h = EV d 7 109 L ((0, 19) :: st) h := G_bipush (m7 dX0_readTest_107) (by decide)
theorem e7_109 {d : Nat} {L st : List AV} {h : AM} {a b : Int} : EV d 7 109 L ((0, b) :: (0, a) :: st) h = if a = b then EV d 7 112 L st h else EV d 7 130 L st h := (E_ic (m7 dX0_readTest_109) (t := 130) rfl).trans cc_ne
theorem e7_112 {d : Nat} {l1 l2 l3 : AV} {st : List AV} {h : AM} {x : Int} : EV d 7 112 [(2, x), l1, l2, l3] st h = EV d 7 113 [(2, x), l1, l2, l3] ((2, x) :: st) h := G_aload_n (m7 dX0_readTest_112) rfl
theorem e7_113 {d : Nat} {L st : List AV} {h : AM} {r : Int} (hk : isK h r 0) : EV d 7 113 L ((2, r) :: st) h = EV d 7 116 L ((2, mrd h r 2) :: st) h := G_get (m7 dX0_readTest_113) ow7 tf_0_18 rfl rfl hk
theorem e7_116 {d : Nat} {l0 l1 l2 : AV} {st : List AV} {h : AM} {x : Int} : EV d 7 116 [l0, l1, l2, (0, x)] st h = EV d 7 117 [l0, l1, l2, (0, x)] ((0, x) :: st) h := G_iload_n (m7 dX0_readTest_116) rfl
theorem e7_117 {d : Nat} {l0 l2 l3 : AV} {st : List AV} {h : AM} {x : Int} : EV d 7 117 [l0, (2, x), l2, l3] st h = EV d 7 118 [l0, (2, x), l2, l3] ((2, x) :: st) h := G_aload_n (m7 dX0_readTest_117) rfl
theorem e7_118 {d : Nat} {l0 l1 l3 : AV} {st : List AV} {h : AM} {x : Int} : EV d 7 118 [l0, l1, (2, x), l3] st h = EV d 7 119 [l0, l1, (2, x), l3] ((2, x) :: st) h := G_aload_n (m7 dX0_readTest_118) rfl
theorem e7_119 {d : Nat} {l0 l2 l3 : AV} {st : List AV} {h : AM} {x : Int} : EV d 7 119 [l0, (2, x), l2, l3] st h = EV d 7 120 [l0, (2, x), l2, l3] ((2, x) :: st) h := G_aload_n (m7 dX0_readTest_119) rfl
theorem e7_120 {d : Nat} {L st : List AV} {h : AM} {r : Int} (hs : st.length ≤ 4) (hk : isK h r 5) : EV (d + 1) 7 120 L ((2, r) :: st) h = (EV d 48 0 [(2, r)] [] h).bind (fun q => EV (d + 1) 7 123 L (psh q.1 st) q.2) := G_cv [] (m7 dX0_readTest_120) ow7 tr_0_99 (by decide) td48 np48 ml48 ow48 rfl rfl (Nat.le_of_ble_eq_true rfl) rfl hs hk
theorem e7_123 {d : Nat} {L st : List AV} {h : AM} {r p0 : Int} (hs : st.length ≤ 4) (hk : isK h r 6) : EV (d + 1) 7 123 L ((1, p0) :: (2, r) :: st) h = (EV d 61 0 [(2, r), (1, p0), (3, 1), (3, 0)] [] h).bind (fun q => EV (d + 1) 7 126 L (psh q.1 st) q.2) := G_cv [(1, p0)] (m7 dX0_readTest_123) ow7 tr_0_113 (by decide) td61 np61 ml61 ow61 rfl rfl (Nat.le_of_ble_eq_true rfl) rfl hs hk
theorem e7_126 {d : Nat} {L st : List AV} {h : AM} {r p0 : Int} (hs : st.length ≤ 4) (hk : isK h r 5) : EV (d + 1) 7 126 L ((0, p0) :: (2, r) :: st) h = (EV d 49 0 [(2, r), (0, p0)] [] h).bind (fun q => EV (d + 1) 7 129 L (psh q.1 st) q.2) := G_cv [(0, p0)] (m7 dX0_readTest_126) ow7 tr_0_109 (by decide) td49 np49 ml49 ow49 rfl rfl (Nat.le_of_ble_eq_true rfl) rfl hs hk
theorem e7_129 {d : Nat} {L st : List AV} {h : AM} {r j v : Int} (hk : inA h r 16 j) : EV d 7 129 L ((0, v) :: (0, j) :: (2, r) :: st) h = EV d 7 130 L st (mwr h r j v) := E_iast (m7 dX0_readTest_129) hk
theorem e7_130 {d : Nat} {L : List AV} {h : AM} : EV d 7 130 L [] h = some ((3, 0), h) := E_ret (m7 dX0_readTest_130) rt7
theorem e8_0 {d : Nat} {st : List AV} {h : AM} {x : Int} : EV d 8 0 [(2, x)] st h = EV d 8 1 [(2, x)] ((2, x) :: st) h := G_aload_n (m8 dX1_init_0) rfl
theorem e8_1 {d : Nat} {L st : List AV} {h : AM} {r : Int} (hs : st.length ≤ 4) (h0 : 0 ≤ r) : EV (d + 1) 8 1 L ((2, r) :: st) h = EV (d + 1) 8 4 L st h := E_oi (m8 dX1_init_1) (rr8 tr_1_3) hs h0
theorem e8_4 {d : Nat} {st : List AV} {h : AM} {x : Int} : EV d 8 4 [(2, x)] st h = EV d 8 5 [(2, x)] ((2, x) :: st) h := G_aload_n (m8 dX1_init_4) rfl
theorem e8_5 {d : Nat} {L st : List AV} {h : AM} : EV d 8 5 L st h = EV d 8 7 L ((0, 12) :: st) h := G_bipush (m8 dX1_init_5) (by decide)
theorem e8_7 {d : Nat} {L st : List AV} {h : AM} {n : Int} (h0 : 0 ≤ n) (h1 : n ≤ 1000000) : EV d 8 7 L ((0, n) :: st) h = EV d 8 9 L ((2, mnx h) :: st) (mal h 16 n (fun _ => 0)) := E_newi (m8 dX1_init_7) ⟨h0, h1⟩
theorem pk_8_1_0 : pok 8 1 0 2 = true := by decide +kernel
theorem e8_9 {d : Nat} {L st : List AV} {h : AM} {r v : Int} (hk : isK h r 1) : EV d 8 9 L ((2, v) :: (2, r) :: st) h = EV d 8 12 L st (mwr h r 0 v) := G_put (m8 dX1_init_9) ow8 tf_1_9 pk_8_1_0 rfl hk
theorem e8_12 {d : Nat} {L : List AV} {h : AM} : EV d 8 12 L [] h = some ((3, 0), h) := E_ret (m8 dX1_init_12) rt8
theorem e9_0 {d : Nat} {l1 l2 : AV} {st : List AV} {h : AM} {x : Int} : EV d 9 0 [(2, x), l1, l2] st h = EV d 9 1 [(2, x), l1, l2] ((2, x) :: st) h := G_aload_n (m9 dX1_begin_0) rfl
theorem e9_1 {d : Nat} {l0 : AV} {st : List AV} {h : AM} {x : Int} : EV d 9 1 [l0, (1, x), (3, 1)] st h = EV d 9 2 [l0, (1, x), (3, 1)] ((1, x) :: st) h := G_lload_n (m9 dX1_begin_1) rfl rfl
theorem pk_9_1_1 : pok 9 1 1 1 = true := by decide +kernel
theorem e9_2 {d : Nat} {L st : List AV} {h : AM} {r v : Int} (hk : isK h r 1) : EV d 9 2 L ((1, v) :: (2, r) :: st) h = EV d 9 5 L st (mwr h r 1 v) := G_put (m9 dX1_begin_2) ow9 tf_1_15 pk_9_1_1 rfl hk
theorem e9_5 {d : Nat} {l1 l2 : AV} {st : List AV} {h : AM} {x : Int} : EV d 9 5 [(2, x), l1, l2] st h = EV d 9 6 [(2, x), l1, l2] ((2, x) :: st) h := G_aload_n (m9 dX1_begin_5) rfl
theorem e9_6 {d : Nat} {L st : List AV} {h : AM} : EV d 9 6 L st h = EV d 9 7 L ((0, 0) :: st) h := G_iconst (m9 dX1_begin_6) (by decide)
theorem pk_9_1_4 : pok 9 1 4 0 = true := by decide +kernel
theorem e9_7 {d : Nat} {L st : List AV} {h : AM} {r v : Int} (hk : isK h r 1) : EV d 9 7 L ((0, v) :: (2, r) :: st) h = EV d 9 10 L st (mwr h r 4 v) := G_put (m9 dX1_begin_7) ow9 tf_1_19 pk_9_1_4 rfl hk
theorem e9_10 {d : Nat} {l1 l2 : AV} {st : List AV} {h : AM} {x : Int} : EV d 9 10 [(2, x), l1, l2] st h = EV d 9 11 [(2, x), l1, l2] ((2, x) :: st) h := G_aload_n (m9 dX1_begin_10) rfl
theorem e9_11 {d : Nat} {L st : List AV} {h : AM} : EV d 9 11 L st h = EV d 9 12 L ((0, 0) :: st) h := G_iconst (m9 dX1_begin_11) (by decide)
theorem pk_9_1_5 : pok 9 1 5 0 = true := by decide +kernel
theorem e9_12 {d : Nat} {L st : List AV} {h : AM} {r v : Int} (hk : isK h r 1) : EV d 9 12 L ((0, v) :: (2, r) :: st) h = EV d 9 15 L st (mwr h r 5 v) := G_put (m9 dX1_begin_12) ow9 tf_1_23 pk_9_1_5 rfl hk
theorem e9_15 {d : Nat} {l1 l2 : AV} {st : List AV} {h : AM} {x : Int} : EV d 9 15 [(2, x), l1, l2] st h = EV d 9 16 [(2, x), l1, l2] ((2, x) :: st) h := G_aload_n (m9 dX1_begin_15) rfl
theorem e9_16 {d : Nat} {L st : List AV} {h : AM} : EV d 9 16 L st h = EV d 9 17 L ((0, 0) :: st) h := G_iconst (m9 dX1_begin_16) (by decide)
theorem pk_9_1_6 : pok 9 1 6 0 = true := by decide +kernel
theorem e9_17 {d : Nat} {L st : List AV} {h : AM} {r v : Int} (hk : isK h r 1) : EV d 9 17 L ((0, v) :: (2, r) :: st) h = EV d 9 20 L st (mwr h r 6 v) := G_put (m9 dX1_begin_17) ow9 tf_1_26 pk_9_1_6 rfl hk
theorem e9_20 {d : Nat} {L : List AV} {h : AM} : EV d 9 20 L [] h = some ((3, 0), h) := E_ret (m9 dX1_begin_20) rt9
theorem e10_0 {d : Nat} {l1 : AV} {st : List AV} {h : AM} {x : Int} : EV d 10 0 [(2, x), l1] st h = EV d 10 1 [(2, x), l1] ((2, x) :: st) h := G_aload_n (m10 dX1_copyFrom_0) rfl
theorem e10_1 {d : Nat} {l0 : AV} {st : List AV} {h : AM} {x : Int} : EV d 10 1 [l0, (2, x)] st h = EV d 10 2 [l0, (2, x)] ((2, x) :: st) h := G_aload_n (m10 dX1_copyFrom_1) rfl
theorem e10_2 {d : Nat} {L st : List AV} {h : AM} {r : Int} (hk : isK h r 1) : EV d 10 2 L ((2, r) :: st) h = EV d 10 5 L ((1, mrd h r 1) :: st) h := G_get (m10 dX1_copyFrom_2) ow10 tf_1_15 rfl rfl hk
theorem pk_10_1_1 : pok 10 1 1 1 = true := by decide +kernel
theorem e10_5 {d : Nat} {L st : List AV} {h : AM} {r v : Int} (hk : isK h r 1) : EV d 10 5 L ((1, v) :: (2, r) :: st) h = EV d 10 8 L st (mwr h r 1 v) := G_put (m10 dX1_copyFrom_5) ow10 tf_1_15 pk_10_1_1 rfl hk
theorem e10_8 {d : Nat} {l1 : AV} {st : List AV} {h : AM} {x : Int} : EV d 10 8 [(2, x), l1] st h = EV d 10 9 [(2, x), l1] ((2, x) :: st) h := G_aload_n (m10 dX1_copyFrom_8) rfl
theorem e10_9 {d : Nat} {l0 : AV} {st : List AV} {h : AM} {x : Int} : EV d 10 9 [l0, (2, x)] st h = EV d 10 10 [l0, (2, x)] ((2, x) :: st) h := G_aload_n (m10 dX1_copyFrom_9) rfl
theorem e10_10 {d : Nat} {L st : List AV} {h : AM} {r : Int} (hk : isK h r 1) : EV d 10 10 L ((2, r) :: st) h = EV d 10 13 L ((0, mrd h r 2) :: st) h := G_get (m10 dX1_copyFrom_10) ow10 tf_1_29 rfl rfl hk
theorem pk_10_1_2 : pok 10 1 2 0 = true := by decide +kernel
theorem e10_13 {d : Nat} {L st : List AV} {h : AM} {r v : Int} (hk : isK h r 1) : EV d 10 13 L ((0, v) :: (2, r) :: st) h = EV d 10 16 L st (mwr h r 2 v) := G_put (m10 dX1_copyFrom_13) ow10 tf_1_29 pk_10_1_2 rfl hk
theorem e10_16 {d : Nat} {l1 : AV} {st : List AV} {h : AM} {x : Int} : EV d 10 16 [(2, x), l1] st h = EV d 10 17 [(2, x), l1] ((2, x) :: st) h := G_aload_n (m10 dX1_copyFrom_16) rfl
theorem e10_17 {d : Nat} {l0 : AV} {st : List AV} {h : AM} {x : Int} : EV d 10 17 [l0, (2, x)] st h = EV d 10 18 [l0, (2, x)] ((2, x) :: st) h := G_aload_n (m10 dX1_copyFrom_17) rfl
theorem e10_18 {d : Nat} {L st : List AV} {h : AM} {r : Int} (hk : isK h r 1) : EV d 10 18 L ((2, r) :: st) h = EV d 10 21 L ((0, mrd h r 3) :: st) h := G_get (m10 dX1_copyFrom_18) ow10 tf_1_32 rfl rfl hk
theorem pk_10_1_3 : pok 10 1 3 0 = true := by decide +kernel
theorem e10_21 {d : Nat} {L st : List AV} {h : AM} {r v : Int} (hk : isK h r 1) : EV d 10 21 L ((0, v) :: (2, r) :: st) h = EV d 10 24 L st (mwr h r 3 v) := G_put (m10 dX1_copyFrom_21) ow10 tf_1_32 pk_10_1_3 rfl hk
theorem e10_24 {d : Nat} {l1 : AV} {st : List AV} {h : AM} {x : Int} : EV d 10 24 [(2, x), l1] st h = EV d 10 25 [(2, x), l1] ((2, x) :: st) h := G_aload_n (m10 dX1_copyFrom_24) rfl
theorem e10_25 {d : Nat} {l0 : AV} {st : List AV} {h : AM} {x : Int} : EV d 10 25 [l0, (2, x)] st h = EV d 10 26 [l0, (2, x)] ((2, x) :: st) h := G_aload_n (m10 dX1_copyFrom_25) rfl
theorem e10_26 {d : Nat} {L st : List AV} {h : AM} {r : Int} (hk : isK h r 1) : EV d 10 26 L ((2, r) :: st) h = EV d 10 29 L ((0, mrd h r 4) :: st) h := G_get (m10 dX1_copyFrom_26) ow10 tf_1_19 rfl rfl hk
theorem pk_10_1_4 : pok 10 1 4 0 = true := by decide +kernel
theorem e10_29 {d : Nat} {L st : List AV} {h : AM} {r v : Int} (hk : isK h r 1) : EV d 10 29 L ((0, v) :: (2, r) :: st) h = EV d 10 32 L st (mwr h r 4 v) := G_put (m10 dX1_copyFrom_29) ow10 tf_1_19 pk_10_1_4 rfl hk
theorem e10_32 {d : Nat} {l1 : AV} {st : List AV} {h : AM} {x : Int} : EV d 10 32 [(2, x), l1] st h = EV d 10 33 [(2, x), l1] ((2, x) :: st) h := G_aload_n (m10 dX1_copyFrom_32) rfl
theorem e10_33 {d : Nat} {l0 : AV} {st : List AV} {h : AM} {x : Int} : EV d 10 33 [l0, (2, x)] st h = EV d 10 34 [l0, (2, x)] ((2, x) :: st) h := G_aload_n (m10 dX1_copyFrom_33) rfl
theorem e10_34 {d : Nat} {L st : List AV} {h : AM} {r : Int} (hk : isK h r 1) : EV d 10 34 L ((2, r) :: st) h = EV d 10 37 L ((0, mrd h r 5) :: st) h := G_get (m10 dX1_copyFrom_34) ow10 tf_1_23 rfl rfl hk
theorem pk_10_1_5 : pok 10 1 5 0 = true := by decide +kernel
theorem e10_37 {d : Nat} {L st : List AV} {h : AM} {r v : Int} (hk : isK h r 1) : EV d 10 37 L ((0, v) :: (2, r) :: st) h = EV d 10 40 L st (mwr h r 5 v) := G_put (m10 dX1_copyFrom_37) ow10 tf_1_23 pk_10_1_5 rfl hk
theorem e10_40 {d : Nat} {l1 : AV} {st : List AV} {h : AM} {x : Int} : EV d 10 40 [(2, x), l1] st h = EV d 10 41 [(2, x), l1] ((2, x) :: st) h := G_aload_n (m10 dX1_copyFrom_40) rfl
theorem e10_41 {d : Nat} {l0 : AV} {st : List AV} {h : AM} {x : Int} : EV d 10 41 [l0, (2, x)] st h = EV d 10 42 [l0, (2, x)] ((2, x) :: st) h := G_aload_n (m10 dX1_copyFrom_41) rfl
theorem e10_42 {d : Nat} {L st : List AV} {h : AM} {r : Int} (hk : isK h r 1) : EV d 10 42 L ((2, r) :: st) h = EV d 10 45 L ((0, mrd h r 6) :: st) h := G_get (m10 dX1_copyFrom_42) ow10 tf_1_26 rfl rfl hk
theorem pk_10_1_6 : pok 10 1 6 0 = true := by decide +kernel
theorem e10_45 {d : Nat} {L st : List AV} {h : AM} {r v : Int} (hk : isK h r 1) : EV d 10 45 L ((0, v) :: (2, r) :: st) h = EV d 10 48 L st (mwr h r 6 v) := G_put (m10 dX1_copyFrom_45) ow10 tf_1_26 pk_10_1_6 rfl hk
theorem e10_48 {d : Nat} {l0 : AV} {st : List AV} {h : AM} {x : Int} : EV d 10 48 [l0, (2, x)] st h = EV d 10 49 [l0, (2, x)] ((2, x) :: st) h := G_aload_n (m10 dX1_copyFrom_48) rfl
theorem e10_49 {d : Nat} {L st : List AV} {h : AM} {r : Int} (hk : isK h r 1) : EV d 10 49 L ((2, r) :: st) h = EV d 10 52 L ((2, mrd h r 0) :: st) h := G_get (m10 dX1_copyFrom_49) ow10 tf_1_9 rfl rfl hk
theorem e10_52 {d : Nat} {L st : List AV} {h : AM} : EV d 10 52 L st h = EV d 10 53 L ((0, 0) :: st) h := G_iconst (m10 dX1_copyFrom_52) (by decide)
theorem e10_53 {d : Nat} {l1 : AV} {st : List AV} {h : AM} {x : Int} : EV d 10 53 [(2, x), l1] st h = EV d 10 54 [(2, x), l1] ((2, x) :: st) h := G_aload_n (m10 dX1_copyFrom_53) rfl
theorem e10_54 {d : Nat} {L st : List AV} {h : AM} {r : Int} (hk : isK h r 1) : EV d 10 54 L ((2, r) :: st) h = EV d 10 57 L ((2, mrd h r 0) :: st) h := G_get (m10 dX1_copyFrom_54) ow10 tf_1_9 rfl rfl hk
theorem e10_57 {d : Nat} {L st : List AV} {h : AM} : EV d 10 57 L st h = EV d 10 58 L ((0, 0) :: st) h := G_iconst (m10 dX1_copyFrom_57) (by decide)
theorem e10_58 {d : Nat} {L st : List AV} {h : AM} : EV d 10 58 L st h = EV d 10 60 L ((0, 12) :: st) h := G_bipush (m10 dX1_copyFrom_58) (by decide)
theorem e10_60 {d : Nat} {L st : List AV} {h : AM} {n j b i a : Int} (hs : st.length ≤ 4) (hk : (isK h a 16 ∧ isK h b 16) ∨ (isK h a 19 ∧ isK h b 19)) (h1 : 0 ≤ i) (h2 : 0 ≤ j) (h3 : 0 ≤ n) (h4 : i + n ≤ mln h a) (h5 : j + n ≤ mln h b) : EV (d + 1) 10 60 L ((0, n) :: (0, j) :: (2, b) :: (0, i) :: (2, a) :: st) h = EV (d + 1) 10 63 L st (mcp h a i b j n) := E_acp (m10 dX1_copyFrom_60) (rr10 tr_1_35) hs hk h1 h2 h3 h4 h5
theorem e10_63 {d : Nat} {L : List AV} {h : AM} : EV d 10 63 L [] h = some ((3, 0), h) := E_ret (m10 dX1_copyFrom_63) rt10
theorem e11_0 {d : Nat} {l0 : AV} {st : List AV} {h : AM} {x : Int} : EV d 11 0 [l0, (0, x)] st h = EV d 11 1 [l0, (0, x)] ((0, x) :: st) h := G_iload_n (m11 dX1_hasPlace_0) rfl
theorem e11_1 {d : Nat} {L st : List AV} {h : AM} {a : Int} : EV d 11 1 L ((0, a) :: st) h = if a < 0 then EV d 11 16 L st h else EV d 11 4 L st h := (E_if (m11 dX1_hasPlace_1) (t := 16) rfl).trans cc_lt
theorem e11_4 {d : Nat} {l0 : AV} {st : List AV} {h : AM} {x : Int} : EV d 11 4 [l0, (0, x)] st h = EV d 11 5 [l0, (0, x)] ((0, x) :: st) h := G_iload_n (m11 dX1_hasPlace_4) rfl
theorem e11_5 {d : Nat} {l1 : AV} {st : List AV} {h : AM} {x : Int} : EV d 11 5 [(2, x), l1] st h = EV d 11 6 [(2, x), l1] ((2, x) :: st) h := G_aload_n (m11 dX1_hasPlace_5) rfl
theorem e11_6 {d : Nat} {L st : List AV} {h : AM} {r : Int} (hk : isK h r 1) : EV d 11 6 L ((2, r) :: st) h = EV d 11 9 L ((0, mrd h r 6) :: st) h := G_get (m11 dX1_hasPlace_6) ow11 tf_1_26 rfl rfl hk
theorem e11_9 {d : Nat} {L st : List AV} {h : AM} {a b : Int} : EV d 11 9 L ((0, b) :: (0, a) :: st) h = if a < b then EV d 11 12 L st h else EV d 11 16 L st h := (E_ic (m11 dX1_hasPlace_9) (t := 16) rfl).trans cc_ge
theorem e11_12 {d : Nat} {L st : List AV} {h : AM} : EV d 11 12 L st h = EV d 11 13 L ((0, 1) :: st) h := G_iconst (m11 dX1_hasPlace_12) (by decide)
theorem e11_13 {d : Nat} {L st : List AV} {h : AM} : EV d 11 13 L st h = EV d 11 17 L st h := G_goto (m11 dX1_hasPlace_13) rfl
theorem e11_16 {d : Nat} {L st : List AV} {h : AM} : EV d 11 16 L st h = EV d 11 17 L ((0, 0) :: st) h := G_iconst (m11 dX1_hasPlace_16) (by decide)
theorem e11_17 {d : Nat} {L : List AV} {h : AM} {v : Int} (hv : v = 0 ∨ v = 1) : EV d 11 17 L [(0, v)] h = some ((0, v), h) := E_iret (m11 dX1_hasPlace_17) (by rw [rt11]; rcases hv with rfl | rfl <;> rfl)
theorem e12_0 {d : Nat} {l1 : AV} {st : List AV} {h : AM} {x : Int} : EV d 12 0 [(2, x), l1] st h = EV d 12 1 [(2, x), l1] ((2, x) :: st) h := G_aload_n (m12 dX1_earn_0) rfl
theorem e12_1 {d : Nat} {L st : List AV} {h : AM} {r : Int} (hk : isK h r 1) : EV d 12 1 L ((2, r) :: st) h = EV d 12 4 L ((0, mrd h r 3) :: st) h := G_get (m12 dX1_earn_1) ow12 tf_1_32 rfl rfl hk
theorem e12_4 {d : Nat} {l0 : AV} {st : List AV} {h : AM} {x : Int} : EV d 12 4 [l0, (0, x)] st h = EV d 12 5 [l0, (0, x)] ((0, x) :: st) h := G_iload_n (m12 dX1_earn_4) rfl
theorem e12_5 {d : Nat} {L st : List AV} {h : AM} {a b : Int} : EV d 12 5 L ((0, b) :: (0, a) :: st) h = EV d 12 6 L ((0, w32 (a + b)) :: st) h := E_iadd (m12 dX1_earn_5)
theorem e12_6 {d : Nat} {L st : List AV} {h : AM} : EV d 12 6 L st h = EV d 12 9 L ((0, 9999) :: st) h := G_sipush (m12 dX1_earn_6) (by decide)
theorem e12_9 {d : Nat} {L st : List AV} {h : AM} {a b : Int} : EV d 12 9 L ((0, b) :: (0, a) :: st) h = if b < a then EV d 12 12 L st h else EV d 12 14 L st h := (E_ic (m12 dX1_earn_9) (t := 14) rfl).trans cc_le
theorem e12_12 {d : Nat} {L st : List AV} {h : AM} : EV d 12 12 L st h = EV d 12 13 L ((0, 0) :: st) h := G_iconst (m12 dX1_earn_12) (by decide)
theorem e12_13 {d : Nat} {L : List AV} {h : AM} {v : Int} (hv : v = 0 ∨ v = 1) : EV d 12 13 L [(0, v)] h = some ((0, v), h) := E_iret (m12 dX1_earn_13) (by rw [rt12]; rcases hv with rfl | rfl <;> rfl)
theorem e12_14 {d : Nat} {l1 : AV} {st : List AV} {h : AM} {x : Int} : EV d 12 14 [(2, x), l1] st h = EV d 12 15 [(2, x), l1] ((2, x) :: st) h := G_aload_n (m12 dX1_earn_14) rfl
theorem e12_15 {d : Nat} {L st : List AV} {h : AM} {a : Int} : EV d 12 15 L ((2, a) :: st) h = EV d 12 16 L ((2, a) :: (2, a) :: st) h := G_dup2r (m12 dX1_earn_15)
theorem e12_15i {d : Nat} {L st : List AV} {h : AM} {a : Int} : EV d 12 15 L ((0, a) :: st) h = EV d 12 16 L ((0, a) :: (0, a) :: st) h := G_dupi (m12 dX1_earn_15)
theorem e12_16 {d : Nat} {L st : List AV} {h : AM} {r : Int} (hk : isK h r 1) : EV d 12 16 L ((2, r) :: st) h = EV d 12 19 L ((0, mrd h r 3) :: st) h := G_get (m12 dX1_earn_16) ow12 tf_1_32 rfl rfl hk
theorem e12_19 {d : Nat} {l0 : AV} {st : List AV} {h : AM} {x : Int} : EV d 12 19 [l0, (0, x)] st h = EV d 12 20 [l0, (0, x)] ((0, x) :: st) h := G_iload_n (m12 dX1_earn_19) rfl
theorem e12_20 {d : Nat} {L st : List AV} {h : AM} {a b : Int} : EV d 12 20 L ((0, b) :: (0, a) :: st) h = EV d 12 21 L ((0, w32 (a + b)) :: st) h := E_iadd (m12 dX1_earn_20)
theorem pk_12_1_3 : pok 12 1 3 0 = true := by decide +kernel
theorem e12_21 {d : Nat} {L st : List AV} {h : AM} {r v : Int} (hk : isK h r 1) : EV d 12 21 L ((0, v) :: (2, r) :: st) h = EV d 12 24 L st (mwr h r 3 v) := G_put (m12 dX1_earn_21) ow12 tf_1_32 pk_12_1_3 rfl hk
theorem e12_24 {d : Nat} {L st : List AV} {h : AM} : EV d 12 24 L st h = EV d 12 25 L ((0, 1) :: st) h := G_iconst (m12 dX1_earn_24) (by decide)
theorem e12_25 {d : Nat} {L : List AV} {h : AM} {v : Int} (hv : v = 0 ∨ v = 1) : EV d 12 25 L [(0, v)] h = some ((0, v), h) := E_iret (m12 dX1_earn_25) (by rw [rt12]; rcases hv with rfl | rfl <;> rfl)
theorem e13_0 {d : Nat} {l1 l2 l3 : AV} {st : List AV} {h : AM} {x : Int} : EV d 13 0 [(2, x), l1, l2, l3] st h = EV d 13 1 [(2, x), l1, l2, l3] ((2, x) :: st) h := G_aload_n (m13 dX1_forget_0) rfl
theorem e13_1 {d : Nat} {L st : List AV} {h : AM} {r : Int} (hk : isK h r 1) : EV d 13 1 L ((2, r) :: st) h = EV d 13 4 L ((2, mrd h r 0) :: st) h := G_get (m13 dX1_forget_1) ow13 tf_1_9 rfl rfl hk
theorem e13_4 {d : Nat} {l0 l2 l3 : AV} {st : List AV} {h : AM} {x : Int} : EV d 13 4 [l0, (0, x), l2, l3] st h = EV d 13 5 [l0, (0, x), l2, l3] ((0, x) :: st) h := G_iload_n (m13 dX1_forget_4) rfl
theorem e13_5 {d : Nat} {L st : List AV} {h : AM} {r j : Int} (hk : inA h r 16 j) : EV d 13 5 L ((0, j) :: (2, r) :: st) h = EV d 13 6 L ((0, mrd h r j) :: st) h := E_iald (m13 dX1_forget_5) hk
theorem e13_6 {d : Nat} {l0 l1 l2 l3 : AV} {st : List AV} {h : AM} {x : Int} : EV d 13 6 [l0, l1, l2, l3] ((0, x) :: st) h = EV d 13 7 [l0, l1, (0, x), l3] st h := G_istore_n (m13 dX1_forget_6) (Nat.le_of_ble_eq_true rfl) rfl
theorem e13_7 {d : Nat} {l1 l2 l3 : AV} {st : List AV} {h : AM} {x : Int} : EV d 13 7 [(2, x), l1, l2, l3] st h = EV d 13 8 [(2, x), l1, l2, l3] ((2, x) :: st) h := G_aload_n (m13 dX1_forget_7) rfl
theorem e13_8 {d : Nat} {L st : List AV} {h : AM} {a : Int} : EV d 13 8 L ((2, a) :: st) h = EV d 13 9 L ((2, a) :: (2, a) :: st) h := G_dup2r (m13 dX1_forget_8)
theorem e13_8i {d : Nat} {L st : List AV} {h : AM} {a : Int} : EV d 13 8 L ((0, a) :: st) h = EV d 13 9 L ((0, a) :: (0, a) :: st) h := G_dupi (m13 dX1_forget_8)
theorem e13_9 {d : Nat} {L st : List AV} {h : AM} {r : Int} (hk : isK h r 1) : EV d 13 9 L ((2, r) :: st) h = EV d 13 12 L ((0, mrd h r 6) :: st) h := G_get (m13 dX1_forget_9) ow13 tf_1_26 rfl rfl hk
theorem e13_12 {d : Nat} {L st : List AV} {h : AM} : EV d 13 12 L st h = EV d 13 13 L ((0, 1) :: st) h := G_iconst (m13 dX1_forget_12) (by decide)
theorem e13_13 {d : Nat} {L st : List AV} {h : AM} {a b : Int} : EV d 13 13 L ((0, b) :: (0, a) :: st) h = EV d 13 14 L ((0, w32 (a - b)) :: st) h := E_isub (m13 dX1_forget_13)
theorem pk_13_1_6 : pok 13 1 6 0 = true := by decide +kernel
theorem e13_14 {d : Nat} {L st : List AV} {h : AM} {r v : Int} (hk : isK h r 1) : EV d 13 14 L ((0, v) :: (2, r) :: st) h = EV d 13 17 L st (mwr h r 6 v) := G_put (m13 dX1_forget_14) ow13 tf_1_26 pk_13_1_6 rfl hk
theorem e13_17 {d : Nat} {l0 l2 l3 : AV} {st : List AV} {h : AM} {x : Int} : EV d 13 17 [l0, (0, x), l2, l3] st h = EV d 13 18 [l0, (0, x), l2, l3] ((0, x) :: st) h := G_iload_n (m13 dX1_forget_17) rfl
theorem e13_18 {d : Nat} {l0 l1 l2 l3 : AV} {st : List AV} {h : AM} {x : Int} : EV d 13 18 [l0, l1, l2, l3] ((0, x) :: st) h = EV d 13 19 [l0, l1, l2, (0, x)] st h := G_istore_n (m13 dX1_forget_18) (Nat.le_of_ble_eq_true rfl) rfl
theorem e13_19 {d : Nat} {l0 l1 l2 : AV} {st : List AV} {h : AM} {x : Int} : EV d 13 19 [l0, l1, l2, (0, x)] st h = EV d 13 20 [l0, l1, l2, (0, x)] ((0, x) :: st) h := G_iload_n (m13 dX1_forget_19) rfl
theorem e13_20 {d : Nat} {l1 l2 l3 : AV} {st : List AV} {h : AM} {x : Int} : EV d 13 20 [(2, x), l1, l2, l3] st h = EV d 13 21 [(2, x), l1, l2, l3] ((2, x) :: st) h := G_aload_n (m13 dX1_forget_20) rfl
theorem e13_21 {d : Nat} {L st : List AV} {h : AM} {r : Int} (hk : isK h r 1) : EV d 13 21 L ((2, r) :: st) h = EV d 13 24 L ((0, mrd h r 6) :: st) h := G_get (m13 dX1_forget_21) ow13 tf_1_26 rfl rfl hk
theorem e13_24 {d : Nat} {L st : List AV} {h : AM} {a b : Int} : EV d 13 24 L ((0, b) :: (0, a) :: st) h = if a < b then EV d 13 27 L st h else EV d 13 47 L st h := (E_ic (m13 dX1_forget_24) (t := 47) rfl).trans cc_ge
theorem e13_27 {d : Nat} {l1 l2 l3 : AV} {st : List AV} {h : AM} {x : Int} : EV d 13 27 [(2, x), l1, l2, l3] st h = EV d 13 28 [(2, x), l1, l2, l3] ((2, x) :: st) h := G_aload_n (m13 dX1_forget_27) rfl
theorem e13_28 {d : Nat} {L st : List AV} {h : AM} {r : Int} (hk : isK h r 1) : EV d 13 28 L ((2, r) :: st) h = EV d 13 31 L ((2, mrd h r 0) :: st) h := G_get (m13 dX1_forget_28) ow13 tf_1_9 rfl rfl hk
theorem e13_31 {d : Nat} {l0 l1 l2 : AV} {st : List AV} {h : AM} {x : Int} : EV d 13 31 [l0, l1, l2, (0, x)] st h = EV d 13 32 [l0, l1, l2, (0, x)] ((0, x) :: st) h := G_iload_n (m13 dX1_forget_31) rfl
theorem e13_32 {d : Nat} {l1 l2 l3 : AV} {st : List AV} {h : AM} {x : Int} : EV d 13 32 [(2, x), l1, l2, l3] st h = EV d 13 33 [(2, x), l1, l2, l3] ((2, x) :: st) h := G_aload_n (m13 dX1_forget_32) rfl
theorem e13_33 {d : Nat} {L st : List AV} {h : AM} {r : Int} (hk : isK h r 1) : EV d 13 33 L ((2, r) :: st) h = EV d 13 36 L ((2, mrd h r 0) :: st) h := G_get (m13 dX1_forget_33) ow13 tf_1_9 rfl rfl hk
theorem e13_36 {d : Nat} {l0 l1 l2 : AV} {st : List AV} {h : AM} {x : Int} : EV d 13 36 [l0, l1, l2, (0, x)] st h = EV d 13 37 [l0, l1, l2, (0, x)] ((0, x) :: st) h := G_iload_n (m13 dX1_forget_36) rfl
theorem e13_37 {d : Nat} {L st : List AV} {h : AM} : EV d 13 37 L st h = EV d 13 38 L ((0, 1) :: st) h := G_iconst (m13 dX1_forget_37) (by decide)
theorem e13_38 {d : Nat} {L st : List AV} {h : AM} {a b : Int} : EV d 13 38 L ((0, b) :: (0, a) :: st) h = EV d 13 39 L ((0, w32 (a + b)) :: st) h := E_iadd (m13 dX1_forget_38)
theorem e13_39 {d : Nat} {L st : List AV} {h : AM} {r j : Int} (hk : inA h r 16 j) : EV d 13 39 L ((0, j) :: (2, r) :: st) h = EV d 13 40 L ((0, mrd h r j) :: st) h := E_iald (m13 dX1_forget_39) hk
theorem e13_40 {d : Nat} {L st : List AV} {h : AM} {r j v : Int} (hk : inA h r 16 j) : EV d 13 40 L ((0, v) :: (0, j) :: (2, r) :: st) h = EV d 13 41 L st (mwr h r j v) := E_iast (m13 dX1_forget_40) hk
theorem e13_41 {d : Nat} {l0 l1 l2 : AV} {st : List AV} {h : AM} {x : Int} : EV d 13 41 [l0, l1, l2, (0, x)] st h = EV d 13 44 [l0, l1, l2, (0, w32 (x + 1))] st h := G_iinc (m13 dX1_forget_41) rfl rfl
theorem e13_44 {d : Nat} {L st : List AV} {h : AM} : EV d 13 44 L st h = EV d 13 19 L st h := G_goto (m13 dX1_forget_44) rfl
theorem e13_47 {d : Nat} {l1 l2 l3 : AV} {st : List AV} {h : AM} {x : Int} : EV d 13 47 [(2, x), l1, l2, l3] st h = EV d 13 48 [(2, x), l1, l2, l3] ((2, x) :: st) h := G_aload_n (m13 dX1_forget_47) rfl
theorem e13_48 {d : Nat} {L st : List AV} {h : AM} {a : Int} : EV d 13 48 L ((2, a) :: st) h = EV d 13 49 L ((2, a) :: (2, a) :: st) h := G_dup2r (m13 dX1_forget_48)
theorem e13_48i {d : Nat} {L st : List AV} {h : AM} {a : Int} : EV d 13 48 L ((0, a) :: st) h = EV d 13 49 L ((0, a) :: (0, a) :: st) h := G_dupi (m13 dX1_forget_48)
theorem e13_49 {d : Nat} {L st : List AV} {h : AM} {r : Int} (hk : isK h r 1) : EV d 13 49 L ((2, r) :: st) h = EV d 13 52 L ((0, mrd h r 5) :: st) h := G_get (m13 dX1_forget_49) ow13 tf_1_23 rfl rfl hk
theorem e13_52 {d : Nat} {L st : List AV} {h : AM} : EV d 13 52 L st h = EV d 13 53 L ((0, 1) :: st) h := G_iconst (m13 dX1_forget_52) (by decide)
theorem e13_53 {d : Nat} {l0 l1 l3 : AV} {st : List AV} {h : AM} {x : Int} : EV d 13 53 [l0, l1, (0, x), l3] st h = EV d 13 54 [l0, l1, (0, x), l3] ((0, x) :: st) h := G_iload_n (m13 dX1_forget_53) rfl
theorem e13_54 {d : Nat} {L st : List AV} {h : AM} {a b : Int} : EV d 13 54 L ((0, b) :: (0, a) :: st) h = EV d 13 55 L ((0, i_shl a b) :: st) h := E_ishl (m13 dX1_forget_54)
theorem e13_55 {d : Nat} {L st : List AV} {h : AM} : EV d 13 55 L st h = EV d 13 56 L ((0, -1) :: st) h := G_iconst (m13 dX1_forget_55) (by decide)
theorem e13_56 {d : Nat} {L st : List AV} {h : AM} {a b : Int} : EV d 13 56 L ((0, b) :: (0, a) :: st) h = EV d 13 57 L ((0, i_xor a b) :: st) h := E_ixor (m13 dX1_forget_56)
theorem e13_57 {d : Nat} {L st : List AV} {h : AM} {a b : Int} : EV d 13 57 L ((0, b) :: (0, a) :: st) h = EV d 13 58 L ((0, i_and a b) :: st) h := E_iand (m13 dX1_forget_57)
theorem pk_13_1_5 : pok 13 1 5 0 = true := by decide +kernel
theorem e13_58 {d : Nat} {L st : List AV} {h : AM} {r v : Int} (hk : isK h r 1) : EV d 13 58 L ((0, v) :: (2, r) :: st) h = EV d 13 61 L st (mwr h r 5 v) := G_put (m13 dX1_forget_58) ow13 tf_1_23 pk_13_1_5 rfl hk
theorem e13_61 {d : Nat} {l0 l1 l3 : AV} {st : List AV} {h : AM} {x : Int} : EV d 13 61 [l0, l1, (0, x), l3] st h = EV d 13 62 [l0, l1, (0, x), l3] ((0, x) :: st) h := G_iload_n (m13 dX1_forget_61) rfl
theorem e13_62 {d : Nat} {L : List AV} {h : AM} {v : Int} : EV d 13 62 L [(0, v)] h = some ((0, v), h) := E_iret (m13 dX1_forget_62) (by rw [rt13]; rfl)
theorem e14_0 {d : Nat} {st : List AV} {h : AM} {x : Int} : EV d 14 0 [(2, x)] st h = EV d 14 1 [(2, x)] ((2, x) :: st) h := G_aload_n (m14 dX2_init_0) rfl
theorem e14_1 {d : Nat} {L st : List AV} {h : AM} {r : Int} (hs : st.length ≤ 4) (h0 : 0 ≤ r) : EV (d + 1) 14 1 L ((2, r) :: st) h = EV (d + 1) 14 4 L st h := E_oi (m14 dX2_init_1) (rr14 tr_2_1) hs h0
theorem e14_4 {d : Nat} {L : List AV} {h : AM} : EV d 14 4 L [] h = some ((3, 0), h) := E_ret (m14 dX2_init_4) rt14
theorem e15_0 {d : Nat} {l1 : AV} {st : List AV} {h : AM} {x : Int} : EV d 15 0 [(2, x), l1] st h = EV d 15 1 [(2, x), l1] ((2, x) :: st) h := G_aload_n (m15 dX2_give_0) rfl
theorem e15_1 {d : Nat} {l0 : AV} {st : List AV} {h : AM} {x : Int} : EV d 15 1 [l0, (0, x)] st h = EV d 15 2 [l0, (0, x)] ((0, x) :: st) h := G_iload_n (m15 dX2_give_1) rfl
theorem pk_15_2_1 : pok 15 2 1 0 = true := by decide +kernel
theorem e15_2 {d : Nat} {L st : List AV} {h : AM} {r v : Int} (hk : isK h r 2) : EV d 15 2 L ((0, v) :: (2, r) :: st) h = EV d 15 5 L st (mwr h r 1 v) := G_put (m15 dX2_give_2) ow15 tf_2_7 pk_15_2_1 rfl hk
theorem e15_5 {d : Nat} {l1 : AV} {st : List AV} {h : AM} {x : Int} : EV d 15 5 [(2, x), l1] st h = EV d 15 6 [(2, x), l1] ((2, x) :: st) h := G_aload_n (m15 dX2_give_5) rfl
theorem e15_6 {d : Nat} {l1 : AV} {st : List AV} {h : AM} {x : Int} : EV d 15 6 [(2, x), l1] st h = EV d 15 7 [(2, x), l1] ((2, x) :: st) h := G_aload_n (m15 dX2_give_6) rfl
theorem e15_7 {d : Nat} {L st : List AV} {h : AM} {r : Int} (hk : isK h r 2) : EV d 15 7 L ((2, r) :: st) h = EV d 15 10 L ((0, mrd h r 1) :: st) h := G_get (m15 dX2_give_7) ow15 tf_2_7 rfl rfl hk
theorem e15_10 {d : Nat} {L st : List AV} {h : AM} : EV d 15 10 L st h = EV d 15 11 L ((0, 1) :: st) h := G_iconst (m15 dX2_give_10) (by decide)
theorem e15_11 {d : Nat} {L st : List AV} {h : AM} {a b : Int} : EV d 15 11 L ((0, b) :: (0, a) :: st) h = if a = b then EV d 15 49 L st h else EV d 15 14 L st h := (E_ic (m15 dX2_give_11) (t := 49) rfl).trans cc_eq
theorem e15_14 {d : Nat} {l1 : AV} {st : List AV} {h : AM} {x : Int} : EV d 15 14 [(2, x), l1] st h = EV d 15 15 [(2, x), l1] ((2, x) :: st) h := G_aload_n (m15 dX2_give_14) rfl
theorem e15_15 {d : Nat} {L st : List AV} {h : AM} {r : Int} (hk : isK h r 2) : EV d 15 15 L ((2, r) :: st) h = EV d 15 18 L ((0, mrd h r 1) :: st) h := G_get (m15 dX2_give_15) ow15 tf_2_7 rfl rfl hk
theorem e15_18 {d : Nat} {L st : List AV} {h : AM} : EV d 15 18 L st h = EV d 15 19 L ((0, 5) :: st) h := G_iconst (m15 dX2_give_18) (by decide)
theorem e15_19 {d : Nat} {L st : List AV} {h : AM} {a b : Int} : EV d 15 19 L ((0, b) :: (0, a) :: st) h = if a = b then EV d 15 49 L st h else EV d 15 22 L st h := (E_ic (m15 dX2_give_19) (t := 49) rfl).trans cc_eq
theorem e15_22 {d : Nat} {l1 : AV} {st : List AV} {h : AM} {x : Int} : EV d 15 22 [(2, x), l1] st h = EV d 15 23 [(2, x), l1] ((2, x) :: st) h := G_aload_n (m15 dX2_give_22) rfl
theorem e15_23 {d : Nat} {L st : List AV} {h : AM} {r : Int} (hk : isK h r 2) : EV d 15 23 L ((2, r) :: st) h = EV d 15 26 L ((0, mrd h r 1) :: st) h := G_get (m15 dX2_give_23) ow15 tf_2_7 rfl rfl hk
theorem e15_26 {d : Nat} {L st : List AV} {h : AM} : EV d 15 26 L st h = EV d 15 28 L ((0, 9) :: st) h := G_bipush (m15 dX2_give_26) (by decide)
theorem e15_28 {d : Nat} {L st : List AV} {h : AM} {a b : Int} : EV d 15 28 L ((0, b) :: (0, a) :: st) h = if a = b then EV d 15 49 L st h else EV d 15 31 L st h := (E_ic (m15 dX2_give_28) (t := 49) rfl).trans cc_eq
theorem e15_31 {d : Nat} {l1 : AV} {st : List AV} {h : AM} {x : Int} : EV d 15 31 [(2, x), l1] st h = EV d 15 32 [(2, x), l1] ((2, x) :: st) h := G_aload_n (m15 dX2_give_31) rfl
theorem e15_32 {d : Nat} {L st : List AV} {h : AM} {r : Int} (hk : isK h r 2) : EV d 15 32 L ((2, r) :: st) h = EV d 15 35 L ((0, mrd h r 1) :: st) h := G_get (m15 dX2_give_32) ow15 tf_2_7 rfl rfl hk
theorem e15_35 {d : Nat} {L st : List AV} {h : AM} : EV d 15 35 L st h = EV d 15 37 L ((0, 15) :: st) h := G_bipush (m15 dX2_give_35) (by decide)
theorem e15_37 {d : Nat} {L st : List AV} {h : AM} {a b : Int} : EV d 15 37 L ((0, b) :: (0, a) :: st) h = if a = b then EV d 15 49 L st h else EV d 15 40 L st h := (E_ic (m15 dX2_give_37) (t := 49) rfl).trans cc_eq
theorem e15_40 {d : Nat} {l1 : AV} {st : List AV} {h : AM} {x : Int} : EV d 15 40 [(2, x), l1] st h = EV d 15 41 [(2, x), l1] ((2, x) :: st) h := G_aload_n (m15 dX2_give_40) rfl
theorem e15_41 {d : Nat} {L st : List AV} {h : AM} {r : Int} (hk : isK h r 2) : EV d 15 41 L ((2, r) :: st) h = EV d 15 44 L ((0, mrd h r 1) :: st) h := G_get (m15 dX2_give_41) ow15 tf_2_7 rfl rfl hk
theorem e15_44 {d : Nat} {L st : List AV} {h : AM} : EV d 15 44 L st h = EV d 15 46 L ((0, 21) :: st) h := G_bipush (m15 dX2_give_44) (by decide)
theorem e15_46 {d : Nat} {L st : List AV} {h : AM} {a b : Int} : EV d 15 46 L ((0, b) :: (0, a) :: st) h = if a = b then EV d 15 49 L st h else EV d 15 53 L st h := (E_ic (m15 dX2_give_46) (t := 53) rfl).trans cc_ne
theorem e15_49 {d : Nat} {L st : List AV} {h : AM} : EV d 15 49 L st h = EV d 15 50 L ((0, 1) :: st) h := G_iconst (m15 dX2_give_49) (by decide)
theorem e15_50 {d : Nat} {L st : List AV} {h : AM} : EV d 15 50 L st h = EV d 15 54 L st h := G_goto (m15 dX2_give_50) rfl
theorem e15_53 {d : Nat} {L st : List AV} {h : AM} : EV d 15 53 L st h = EV d 15 54 L ((0, 0) :: st) h := G_iconst (m15 dX2_give_53) (by decide)
theorem pz_15_2_2 : pokz 15 2 2 = true := by decide +kernel
theorem e15_54 {d : Nat} {L st : List AV} {h : AM} {r v : Int} (hk : isK h r 2) (hv : v = 0 ∨ v = 1) : EV d 15 54 L ((0, v) :: (2, r) :: st) h = EV d 15 57 L st (mwr h r 2 v) := G_putz (m15 dX2_give_54) ow15 tf_2_13 pz_15_2_2 rfl hk hv
theorem e15_57 {d : Nat} {L : List AV} {h : AM} : EV d 15 57 L [] h = some ((3, 0), h) := E_ret (m15 dX2_give_57) rt15
theorem e16_0 {d : Nat} {l1 : AV} {st : List AV} {h : AM} {x : Int} : EV d 16 0 [(2, x), l1] st h = EV d 16 1 [(2, x), l1] ((2, x) :: st) h := G_aload_n (m16 dX2_copyFrom_0) rfl
theorem e16_1 {d : Nat} {l0 : AV} {st : List AV} {h : AM} {x : Int} : EV d 16 1 [l0, (2, x)] st h = EV d 16 2 [l0, (2, x)] ((2, x) :: st) h := G_aload_n (m16 dX2_copyFrom_1) rfl
theorem e16_2 {d : Nat} {L st : List AV} {h : AM} {r : Int} (hk : isK h r 2) : EV d 16 2 L ((2, r) :: st) h = EV d 16 5 L ((1, mrd h r 0) :: st) h := G_get (m16 dX2_copyFrom_2) ow16 tf_2_17 rfl rfl hk
theorem pk_16_2_0 : pok 16 2 0 1 = true := by decide +kernel
theorem e16_5 {d : Nat} {L st : List AV} {h : AM} {r v : Int} (hk : isK h r 2) : EV d 16 5 L ((1, v) :: (2, r) :: st) h = EV d 16 8 L st (mwr h r 0 v) := G_put (m16 dX2_copyFrom_5) ow16 tf_2_17 pk_16_2_0 rfl hk
theorem e16_8 {d : Nat} {l1 : AV} {st : List AV} {h : AM} {x : Int} : EV d 16 8 [(2, x), l1] st h = EV d 16 9 [(2, x), l1] ((2, x) :: st) h := G_aload_n (m16 dX2_copyFrom_8) rfl
theorem e16_9 {d : Nat} {l0 : AV} {st : List AV} {h : AM} {x : Int} : EV d 16 9 [l0, (2, x)] st h = EV d 16 10 [l0, (2, x)] ((2, x) :: st) h := G_aload_n (m16 dX2_copyFrom_9) rfl
theorem e16_10 {d : Nat} {L st : List AV} {h : AM} {r : Int} (hk : isK h r 2) : EV d 16 10 L ((2, r) :: st) h = EV d 16 13 L ((0, mrd h r 1) :: st) h := G_get (m16 dX2_copyFrom_10) ow16 tf_2_7 rfl rfl hk
theorem pk_16_2_1 : pok 16 2 1 0 = true := by decide +kernel
theorem e16_13 {d : Nat} {L st : List AV} {h : AM} {r v : Int} (hk : isK h r 2) : EV d 16 13 L ((0, v) :: (2, r) :: st) h = EV d 16 16 L st (mwr h r 1 v) := G_put (m16 dX2_copyFrom_13) ow16 tf_2_7 pk_16_2_1 rfl hk
theorem e16_16 {d : Nat} {l1 : AV} {st : List AV} {h : AM} {x : Int} : EV d 16 16 [(2, x), l1] st h = EV d 16 17 [(2, x), l1] ((2, x) :: st) h := G_aload_n (m16 dX2_copyFrom_16) rfl
theorem e16_17 {d : Nat} {l0 : AV} {st : List AV} {h : AM} {x : Int} : EV d 16 17 [l0, (2, x)] st h = EV d 16 18 [l0, (2, x)] ((2, x) :: st) h := G_aload_n (m16 dX2_copyFrom_17) rfl
theorem e16_18 {d : Nat} {L st : List AV} {h : AM} {r : Int} (hk : isK h r 2) : EV d 16 18 L ((2, r) :: st) h = EV d 16 21 L ((0, mrd h r 2) :: st) h := G_get (m16 dX2_copyFrom_18) ow16 tf_2_13 rfl rfl hk
theorem pz_16_2_2 : pokz 16 2 2 = true := by decide +kernel
theorem e16_21 {d : Nat} {L st : List AV} {h : AM} {r v : Int} (hk : isK h r 2) (hv : v = 0 ∨ v = 1) : EV d 16 21 L ((0, v) :: (2, r) :: st) h = EV d 16 24 L st (mwr h r 2 v) := G_putz (m16 dX2_copyFrom_21) ow16 tf_2_13 pz_16_2_2 rfl hk hv
theorem e16_24 {d : Nat} {l1 : AV} {st : List AV} {h : AM} {x : Int} : EV d 16 24 [(2, x), l1] st h = EV d 16 25 [(2, x), l1] ((2, x) :: st) h := G_aload_n (m16 dX2_copyFrom_24) rfl
theorem e16_25 {d : Nat} {l0 : AV} {st : List AV} {h : AM} {x : Int} : EV d 16 25 [l0, (2, x)] st h = EV d 16 26 [l0, (2, x)] ((2, x) :: st) h := G_aload_n (m16 dX2_copyFrom_25) rfl
theorem e16_26 {d : Nat} {L st : List AV} {h : AM} {r : Int} (hk : isK h r 2) : EV d 16 26 L ((2, r) :: st) h = EV d 16 29 L ((0, mrd h r 3) :: st) h := G_get (m16 dX2_copyFrom_26) ow16 tf_2_21 rfl rfl hk
theorem pk_16_2_3 : pok 16 2 3 0 = true := by decide +kernel
theorem e16_29 {d : Nat} {L st : List AV} {h : AM} {r v : Int} (hk : isK h r 2) : EV d 16 29 L ((0, v) :: (2, r) :: st) h = EV d 16 32 L st (mwr h r 3 v) := G_put (m16 dX2_copyFrom_29) ow16 tf_2_21 pk_16_2_3 rfl hk
theorem e16_32 {d : Nat} {l1 : AV} {st : List AV} {h : AM} {x : Int} : EV d 16 32 [(2, x), l1] st h = EV d 16 33 [(2, x), l1] ((2, x) :: st) h := G_aload_n (m16 dX2_copyFrom_32) rfl
theorem e16_33 {d : Nat} {l0 : AV} {st : List AV} {h : AM} {x : Int} : EV d 16 33 [l0, (2, x)] st h = EV d 16 34 [l0, (2, x)] ((2, x) :: st) h := G_aload_n (m16 dX2_copyFrom_33) rfl
theorem e16_34 {d : Nat} {L st : List AV} {h : AM} {r : Int} (hk : isK h r 2) : EV d 16 34 L ((2, r) :: st) h = EV d 16 37 L ((0, mrd h r 4) :: st) h := G_get (m16 dX2_copyFrom_34) ow16 tf_2_24 rfl rfl hk
theorem pk_16_2_4 : pok 16 2 4 0 = true := by decide +kernel
theorem e16_37 {d : Nat} {L st : List AV} {h : AM} {r v : Int} (hk : isK h r 2) : EV d 16 37 L ((0, v) :: (2, r) :: st) h = EV d 16 40 L st (mwr h r 4 v) := G_put (m16 dX2_copyFrom_37) ow16 tf_2_24 pk_16_2_4 rfl hk
theorem e16_40 {d : Nat} {l1 : AV} {st : List AV} {h : AM} {x : Int} : EV d 16 40 [(2, x), l1] st h = EV d 16 41 [(2, x), l1] ((2, x) :: st) h := G_aload_n (m16 dX2_copyFrom_40) rfl
theorem e16_41 {d : Nat} {l0 : AV} {st : List AV} {h : AM} {x : Int} : EV d 16 41 [l0, (2, x)] st h = EV d 16 42 [l0, (2, x)] ((2, x) :: st) h := G_aload_n (m16 dX2_copyFrom_41) rfl
theorem e16_42 {d : Nat} {L st : List AV} {h : AM} {r : Int} (hk : isK h r 2) : EV d 16 42 L ((2, r) :: st) h = EV d 16 45 L ((0, mrd h r 5) :: st) h := G_get (m16 dX2_copyFrom_42) ow16 tf_2_27 rfl rfl hk
theorem pk_16_2_5 : pok 16 2 5 0 = true := by decide +kernel
theorem e16_45 {d : Nat} {L st : List AV} {h : AM} {r v : Int} (hk : isK h r 2) : EV d 16 45 L ((0, v) :: (2, r) :: st) h = EV d 16 48 L st (mwr h r 5 v) := G_put (m16 dX2_copyFrom_45) ow16 tf_2_27 pk_16_2_5 rfl hk
theorem e16_48 {d : Nat} {l1 : AV} {st : List AV} {h : AM} {x : Int} : EV d 16 48 [(2, x), l1] st h = EV d 16 49 [(2, x), l1] ((2, x) :: st) h := G_aload_n (m16 dX2_copyFrom_48) rfl
theorem e16_49 {d : Nat} {l0 : AV} {st : List AV} {h : AM} {x : Int} : EV d 16 49 [l0, (2, x)] st h = EV d 16 50 [l0, (2, x)] ((2, x) :: st) h := G_aload_n (m16 dX2_copyFrom_49) rfl
theorem e16_50 {d : Nat} {L st : List AV} {h : AM} {r : Int} (hk : isK h r 2) : EV d 16 50 L ((2, r) :: st) h = EV d 16 53 L ((0, mrd h r 6) :: st) h := G_get (m16 dX2_copyFrom_50) ow16 tf_2_30 rfl rfl hk
theorem pk_16_2_6 : pok 16 2 6 0 = true := by decide +kernel
theorem e16_53 {d : Nat} {L st : List AV} {h : AM} {r v : Int} (hk : isK h r 2) : EV d 16 53 L ((0, v) :: (2, r) :: st) h = EV d 16 56 L st (mwr h r 6 v) := G_put (m16 dX2_copyFrom_53) ow16 tf_2_30 pk_16_2_6 rfl hk
theorem e16_56 {d : Nat} {L : List AV} {h : AM} : EV d 16 56 L [] h = some ((3, 0), h) := E_ret (m16 dX2_copyFrom_56) rt16
theorem e17_0 {d : Nat} {st : List AV} {h : AM} {x : Int} : EV d 17 0 [(2, x)] st h = EV d 17 1 [(2, x)] ((2, x) :: st) h := G_aload_n (m17 dX3_init_0) rfl
theorem e17_1 {d : Nat} {L st : List AV} {h : AM} {r : Int} (hs : st.length ≤ 4) (h0 : 0 ≤ r) : EV (d + 1) 17 1 L ((2, r) :: st) h = EV (d + 1) 17 4 L st h := E_oi (m17 dX3_init_1) (rr17 tr_3_3) hs h0
theorem e17_4 {d : Nat} {L : List AV} {h : AM} : EV d 17 4 L [] h = some ((3, 0), h) := E_ret (m17 dX3_init_4) rt17
theorem e18_0 {d : Nat} {l1 l2 : AV} {st : List AV} {h : AM} {x : Int} : EV d 18 0 [(2, x), l1, l2] st h = EV d 18 1 [(2, x), l1, l2] ((2, x) :: st) h := G_aload_n (m18 dX3_run_0) rfl
theorem e18_1 {d : Nat} {L st : List AV} {h : AM} : EV d 18 1 L st h = EV d 18 2 L ((0, 1) :: st) h := G_iconst (m18 dX3_run_1) (by decide)
theorem pz_18_3_0 : pokz 18 3 0 = true := by decide +kernel
theorem e18_2 {d : Nat} {L st : List AV} {h : AM} {r v : Int} (hk : isK h r 3) (hv : v = 0 ∨ v = 1) : EV d 18 2 L ((0, v) :: (2, r) :: st) h = EV d 18 5 L st (mwr h r 0 v) := G_putz (m18 dX3_run_2) ow18 tf_3_9 pz_18_3_0 rfl hk hv
theorem e18_5 {d : Nat} {l1 l2 : AV} {st : List AV} {h : AM} {x : Int} : EV d 18 5 [(2, x), l1, l2] st h = EV d 18 6 [(2, x), l1, l2] ((2, x) :: st) h := G_aload_n (m18 dX3_run_5) rfl
theorem e18_6 {d : Nat} {L st : List AV} {h : AM} : EV d 18 6 L st h = EV d 18 7 L ((0, 0) :: st) h := G_iconst (m18 dX3_run_6) (by decide)
theorem pk_18_3_1 : pok 18 3 1 0 = true := by decide +kernel
theorem e18_7 {d : Nat} {L st : List AV} {h : AM} {r v : Int} (hk : isK h r 3) : EV d 18 7 L ((0, v) :: (2, r) :: st) h = EV d 18 10 L st (mwr h r 1 v) := G_put (m18 dX3_run_7) ow18 tf_3_15 pk_18_3_1 rfl hk
theorem e18_10 {d : Nat} {l1 l2 : AV} {st : List AV} {h : AM} {x : Int} : EV d 18 10 [(2, x), l1, l2] st h = EV d 18 11 [(2, x), l1, l2] ((2, x) :: st) h := G_aload_n (m18 dX3_run_10) rfl
theorem e18_11 {d : Nat} {L st : List AV} {h : AM} : EV d 18 11 L st h = EV d 18 12 L ((0, 0) :: st) h := G_iconst (m18 dX3_run_11) (by decide)
theorem pk_18_3_2 : pok 18 3 2 0 = true := by decide +kernel
theorem e18_12 {d : Nat} {L st : List AV} {h : AM} {r v : Int} (hk : isK h r 3) : EV d 18 12 L ((0, v) :: (2, r) :: st) h = EV d 18 15 L st (mwr h r 2 v) := G_put (m18 dX3_run_12) ow18 tf_3_19 pk_18_3_2 rfl hk
theorem e18_15 {d : Nat} {l1 l2 : AV} {st : List AV} {h : AM} {x : Int} : EV d 18 15 [(2, x), l1, l2] st h = EV d 18 16 [(2, x), l1, l2] ((2, x) :: st) h := G_aload_n (m18 dX3_run_15) rfl
theorem e18_16 {d : Nat} {L st : List AV} {h : AM} : EV d 18 16 L st h = EV d 18 17 L ((0, 0) :: st) h := G_iconst (m18 dX3_run_16) (by decide)
theorem pk_18_3_3 : pok 18 3 3 0 = true := by decide +kernel
theorem e18_17 {d : Nat} {L st : List AV} {h : AM} {r v : Int} (hk : isK h r 3) : EV d 18 17 L ((0, v) :: (2, r) :: st) h = EV d 18 20 L st (mwr h r 3 v) := G_put (m18 dX3_run_17) ow18 tf_3_22 pk_18_3_3 rfl hk
theorem e18_20 {d : Nat} {l1 l2 : AV} {st : List AV} {h : AM} {x : Int} : EV d 18 20 [(2, x), l1, l2] st h = EV d 18 21 [(2, x), l1, l2] ((2, x) :: st) h := G_aload_n (m18 dX3_run_20) rfl
theorem e18_21 {d : Nat} {L st : List AV} {h : AM} : EV d 18 21 L st h = EV d 18 22 L ((0, 0) :: st) h := G_iconst (m18 dX3_run_21) (by decide)
theorem pk_18_3_4 : pok 18 3 4 0 = true := by decide +kernel
theorem e18_22 {d : Nat} {L st : List AV} {h : AM} {r v : Int} (hk : isK h r 3) : EV d 18 22 L ((0, v) :: (2, r) :: st) h = EV d 18 25 L st (mwr h r 4 v) := G_put (m18 dX3_run_22) ow18 tf_3_25 pk_18_3_4 rfl hk
theorem e18_25 {d : Nat} {l1 l2 : AV} {st : List AV} {h : AM} {x : Int} : EV d 18 25 [(2, x), l1, l2] st h = EV d 18 26 [(2, x), l1, l2] ((2, x) :: st) h := G_aload_n (m18 dX3_run_25) rfl
theorem e18_26 {d : Nat} {L st : List AV} {h : AM} : EV d 18 26 L st h = EV d 18 27 L ((0, 0) :: st) h := G_iconst (m18 dX3_run_26) (by decide)
theorem pz_18_3_5 : pokz 18 3 5 = true := by decide +kernel
theorem e18_27 {d : Nat} {L st : List AV} {h : AM} {r v : Int} (hk : isK h r 3) (hv : v = 0 ∨ v = 1) : EV d 18 27 L ((0, v) :: (2, r) :: st) h = EV d 18 30 L st (mwr h r 5 v) := G_putz (m18 dX3_run_27) ow18 tf_3_28 pz_18_3_5 rfl hk hv
theorem e18_30 {d : Nat} {l1 l2 : AV} {st : List AV} {h : AM} {x : Int} : EV d 18 30 [(2, x), l1, l2] st h = EV d 18 31 [(2, x), l1, l2] ((2, x) :: st) h := G_aload_n (m18 dX3_run_30) rfl
theorem e18_31 {d : Nat} {L st : List AV} {h : AM} : EV d 18 31 L st h = EV d 18 32 L ((0, 0) :: st) h := G_iconst (m18 dX3_run_31) (by decide)
theorem pz_18_3_6 : pokz 18 3 6 = true := by decide +kernel
theorem e18_32 {d : Nat} {L st : List AV} {h : AM} {r v : Int} (hk : isK h r 3) (hv : v = 0 ∨ v = 1) : EV d 18 32 L ((0, v) :: (2, r) :: st) h = EV d 18 35 L st (mwr h r 6 v) := G_putz (m18 dX3_run_32) ow18 tf_3_31 pz_18_3_6 rfl hk hv
theorem e18_35 {d : Nat} {l1 l2 : AV} {st : List AV} {h : AM} {x : Int} : EV d 18 35 [(2, x), l1, l2] st h = EV d 18 36 [(2, x), l1, l2] ((2, x) :: st) h := G_aload_n (m18 dX3_run_35) rfl
theorem e18_36 {d : Nat} {l0 l1 : AV} {st : List AV} {h : AM} {x : Int} : EV d 18 36 [l0, l1, (0, x)] st h = EV d 18 37 [l0, l1, (0, x)] ((0, x) :: st) h := G_iload_n (m18 dX3_run_36) rfl
theorem pk_18_3_7 : pok 18 3 7 0 = true := by decide +kernel
theorem e18_37 {d : Nat} {L st : List AV} {h : AM} {r v : Int} (hk : isK h r 3) : EV d 18 37 L ((0, v) :: (2, r) :: st) h = EV d 18 40 L st (mwr h r 7 v) := G_put (m18 dX3_run_37) ow18 tf_3_34 pk_18_3_7 rfl hk
theorem e18_40 {d : Nat} {l1 l2 : AV} {st : List AV} {h : AM} {x : Int} : EV d 18 40 [(2, x), l1, l2] st h = EV d 18 41 [(2, x), l1, l2] ((2, x) :: st) h := G_aload_n (m18 dX3_run_40) rfl
theorem e18_41 {d : Nat} {l0 l2 : AV} {st : List AV} {h : AM} {x : Int} : EV d 18 41 [l0, (2, x), l2] st h = EV d 18 42 [l0, (2, x), l2] ((2, x) :: st) h := G_aload_n (m18 dX3_run_41) rfl
theorem e18_42 {d : Nat} {L st : List AV} {h : AM} : EV d 18 42 L st h = EV d 18 43 L ((0, 0) :: st) h := G_iconst (m18 dX3_run_42) (by decide)
theorem e18_43 {d : Nat} {l0 l2 : AV} {st : List AV} {h : AM} {x : Int} : EV d 18 43 [l0, (2, x), l2] st h = EV d 18 44 [l0, (2, x), l2] ((2, x) :: st) h := G_aload_n (m18 dX3_run_43) rfl
theorem e18_44 {d : Nat} {L st : List AV} {h : AM} {r : Int} (hk : isK h r 6) : EV d 18 44 L ((2, r) :: st) h = EV d 18 47 L ((2, mrd h r 4) :: st) h := G_get (m18 dX3_run_44) ow18 tf_3_37 rfl rfl hk
theorem e18_47 {d : Nat} {L st : List AV} {h : AM} {r : Int} (hk : isK h r 0) : EV d 18 47 L ((2, r) :: st) h = EV d 18 50 L ((0, mrd h r 7) :: st) h := G_get (m18 dX3_run_47) ow18 tf_3_43 rfl rfl hk
theorem e18_50 {d : Nat} {L st : List AV} {h : AM} : EV d 18 50 L st h = EV d 18 51 L ((0, 0) :: st) h := G_iconst (m18 dX3_run_50) (by decide)
theorem e18_51 {d : Nat} {L st : List AV} {h : AM} {r p0 p1 p2 p3 : Int} (hs : st.length ≤ 4) (hk : isK h r 3) : EV (d + 1) 18 51 L ((0, p3) :: (0, p2) :: (0, p1) :: (2, p0) :: (2, r) :: st) h = (EV d 19 0 [(2, r), (2, p0), (0, p1), (0, p2), (0, p3), (3, 0)] [] h).bind (fun q => EV (d + 1) 18 54 L (psh q.1 st) q.2) := G_cv [(2, p0), (0, p1), (0, p2), (0, p3)] (m18 dX3_run_51) ow18 tr_3_48 (by decide) td19 np19 ml19 ow19 rfl rfl (Nat.le_of_ble_eq_true rfl) rfl hs hk
theorem e18_54 {d : Nat} {L : List AV} {h : AM} : EV d 18 54 L [] h = some ((3, 0), h) := E_ret (m18 dX3_run_54) rt18
theorem e19_0 {d : Nat} {l0 l1 l2 l3 l5 : AV} {st : List AV} {h : AM} {x : Int} : EV d 19 0 [l0, l1, l2, l3, (0, x), l5] st h = EV d 19 2 [l0, l1, l2, l3, (0, x), l5] ((0, x) :: st) h := G_iload (m19 dX3_walk_0) rfl
theorem e19_2 {d : Nat} {L st : List AV} {h : AM} : EV d 19 2 L st h = EV d 19 3 L ((0, 3) :: st) h := G_iconst (m19 dX3_walk_2) (by decide)
theorem e19_3 {d : Nat} {L st : List AV} {h : AM} {a b : Int} : EV d 19 3 L ((0, b) :: (0, a) :: st) h = if b < a then EV d 19 6 L st h else EV d 19 7 L st h := (E_ic (m19 dX3_walk_3) (t := 7) rfl).trans cc_le
theorem e19_6 {d : Nat} {L : List AV} {h : AM} : EV d 19 6 L [] h = some ((3, 0), h) := E_ret (m19 dX3_walk_6) rt19
theorem e19_7 {d : Nat} {l0 l1 l3 l4 l5 : AV} {st : List AV} {h : AM} {x : Int} : EV d 19 7 [l0, l1, (0, x), l3, l4, l5] st h = EV d 19 8 [l0, l1, (0, x), l3, l4, l5] ((0, x) :: st) h := G_iload_n (m19 dX3_walk_7) rfl
theorem e19_8 {d : Nat} {l0 l1 l2 l3 l4 l5 : AV} {st : List AV} {h : AM} {x : Int} : EV d 19 8 [l0, l1, l2, l3, l4, l5] ((0, x) :: st) h = EV d 19 10 [l0, l1, l2, l3, l4, (0, x)] st h := G_istore (m19 dX3_walk_8) (Nat.le_of_ble_eq_true rfl) rfl
theorem e19_10 {d : Nat} {l0 l1 l2 l3 l4 : AV} {st : List AV} {h : AM} {x : Int} : EV d 19 10 [l0, l1, l2, l3, l4, (0, x)] st h = EV d 19 12 [l0, l1, l2, l3, l4, (0, x)] ((0, x) :: st) h := G_iload (m19 dX3_walk_10) rfl
theorem e19_12 {d : Nat} {l0 l1 l2 l4 l5 : AV} {st : List AV} {h : AM} {x : Int} : EV d 19 12 [l0, l1, l2, (0, x), l4, l5] st h = EV d 19 13 [l0, l1, l2, (0, x), l4, l5] ((0, x) :: st) h := G_iload_n (m19 dX3_walk_12) rfl
theorem e19_13 {d : Nat} {L st : List AV} {h : AM} {a b : Int} : EV d 19 13 L ((0, b) :: (0, a) :: st) h = if a < b then EV d 19 16 L st h else EV d 19 78 L st h := (E_ic (m19 dX3_walk_13) (t := 78) rfl).trans cc_ge
theorem e19_16 {d : Nat} {l1 l2 l3 l4 l5 : AV} {st : List AV} {h : AM} {x : Int} : EV d 19 16 [(2, x), l1, l2, l3, l4, l5] st h = EV d 19 17 [(2, x), l1, l2, l3, l4, l5] ((2, x) :: st) h := G_aload_n (m19 dX3_walk_16) rfl
theorem e19_17 {d : Nat} {L st : List AV} {h : AM} {r : Int} (hk : isK h r 3) : EV d 19 17 L ((2, r) :: st) h = EV d 19 20 L ((0, mrd h r 6) :: st) h := G_get (m19 dX3_walk_17) ow19 tf_3_31 rfl rfl hk
theorem e19_20 {d : Nat} {L st : List AV} {h : AM} {a : Int} : EV d 19 20 L ((0, a) :: st) h = if a = 0 then EV d 19 23 L st h else EV d 19 78 L st h := (E_if (m19 dX3_walk_20) (t := 78) rfl).trans cc_ne
theorem e19_23 {d : Nat} {l1 l2 l3 l4 l5 : AV} {st : List AV} {h : AM} {x : Int} : EV d 19 23 [(2, x), l1, l2, l3, l4, l5] st h = EV d 19 24 [(2, x), l1, l2, l3, l4, l5] ((2, x) :: st) h := G_aload_n (m19 dX3_walk_23) rfl
theorem e19_24 {d : Nat} {L st : List AV} {h : AM} {r : Int} (hk : isK h r 3) : EV d 19 24 L ((2, r) :: st) h = EV d 19 27 L ((0, mrd h r 1) :: st) h := G_get (m19 dX3_walk_24) ow19 tf_3_15 rfl rfl hk
theorem e19_27 {d : Nat} {L st : List AV} {h : AM} : EV d 19 27 L st h = EV d 19 30 L ((0, 300) :: st) h := G_sipush (m19 dX3_walk_27) (by decide)
theorem e19_30 {d : Nat} {L st : List AV} {h : AM} {a b : Int} : EV d 19 30 L ((0, b) :: (0, a) :: st) h = if a < b then EV d 19 44 L st h else EV d 19 33 L st h := (E_ic (m19 dX3_walk_30) (t := 44) rfl).trans cc_lt
theorem e19_33 {d : Nat} {l1 l2 l3 l4 l5 : AV} {st : List AV} {h : AM} {x : Int} : EV d 19 33 [(2, x), l1, l2, l3, l4, l5] st h = EV d 19 34 [(2, x), l1, l2, l3, l4, l5] ((2, x) :: st) h := G_aload_n (m19 dX3_walk_33) rfl
theorem e19_34 {d : Nat} {L st : List AV} {h : AM} : EV d 19 34 L st h = EV d 19 35 L ((0, 1) :: st) h := G_iconst (m19 dX3_walk_34) (by decide)
theorem pz_19_3_5 : pokz 19 3 5 = true := by decide +kernel
theorem e19_35 {d : Nat} {L st : List AV} {h : AM} {r v : Int} (hk : isK h r 3) (hv : v = 0 ∨ v = 1) : EV d 19 35 L ((0, v) :: (2, r) :: st) h = EV d 19 38 L st (mwr h r 5 v) := G_putz (m19 dX3_walk_35) ow19 tf_3_28 pz_19_3_5 rfl hk hv
theorem e19_38 {d : Nat} {l1 l2 l3 l4 l5 : AV} {st : List AV} {h : AM} {x : Int} : EV d 19 38 [(2, x), l1, l2, l3, l4, l5] st h = EV d 19 39 [(2, x), l1, l2, l3, l4, l5] ((2, x) :: st) h := G_aload_n (m19 dX3_walk_38) rfl
theorem e19_39 {d : Nat} {L st : List AV} {h : AM} : EV d 19 39 L st h = EV d 19 40 L ((0, 1) :: st) h := G_iconst (m19 dX3_walk_39) (by decide)
theorem pz_19_3_6 : pokz 19 3 6 = true := by decide +kernel
theorem e19_40 {d : Nat} {L st : List AV} {h : AM} {r v : Int} (hk : isK h r 3) (hv : v = 0 ∨ v = 1) : EV d 19 40 L ((0, v) :: (2, r) :: st) h = EV d 19 43 L st (mwr h r 6 v) := G_putz (m19 dX3_walk_40) ow19 tf_3_31 pz_19_3_6 rfl hk hv
theorem e19_43 {d : Nat} {L : List AV} {h : AM} : EV d 19 43 L [] h = some ((3, 0), h) := E_ret (m19 dX3_walk_43) rt19
theorem e19_44 {d : Nat} {l1 l2 l3 l4 l5 : AV} {st : List AV} {h : AM} {x : Int} : EV d 19 44 [(2, x), l1, l2, l3, l4, l5] st h = EV d 19 45 [(2, x), l1, l2, l3, l4, l5] ((2, x) :: st) h := G_aload_n (m19 dX3_walk_44) rfl
theorem e19_45 {d : Nat} {L st : List AV} {h : AM} {a : Int} : EV d 19 45 L ((2, a) :: st) h = EV d 19 46 L ((2, a) :: (2, a) :: st) h := G_dup2r (m19 dX3_walk_45)
theorem e19_45i {d : Nat} {L st : List AV} {h : AM} {a : Int} : EV d 19 45 L ((0, a) :: st) h = EV d 19 46 L ((0, a) :: (0, a) :: st) h := G_dupi (m19 dX3_walk_45)
theorem e19_46 {d : Nat} {L st : List AV} {h : AM} {r : Int} (hk : isK h r 3) : EV d 19 46 L ((2, r) :: st) h = EV d 19 49 L ((0, mrd h r 1) :: st) h := G_get (m19 dX3_walk_46) ow19 tf_3_15 rfl rfl hk
theorem e19_49 {d : Nat} {L st : List AV} {h : AM} : EV d 19 49 L st h = EV d 19 50 L ((0, 1) :: st) h := G_iconst (m19 dX3_walk_49) (by decide)
theorem e19_50 {d : Nat} {L st : List AV} {h : AM} {a b : Int} : EV d 19 50 L ((0, b) :: (0, a) :: st) h = EV d 19 51 L ((0, w32 (a + b)) :: st) h := E_iadd (m19 dX3_walk_50)
theorem pk_19_3_1 : pok 19 3 1 0 = true := by decide +kernel
theorem e19_51 {d : Nat} {L st : List AV} {h : AM} {r v : Int} (hk : isK h r 3) : EV d 19 51 L ((0, v) :: (2, r) :: st) h = EV d 19 54 L st (mwr h r 1 v) := G_put (m19 dX3_walk_51) ow19 tf_3_15 pk_19_3_1 rfl hk
theorem e19_54 {d : Nat} {l1 l2 l3 l4 l5 : AV} {st : List AV} {h : AM} {x : Int} : EV d 19 54 [(2, x), l1, l2, l3, l4, l5] st h = EV d 19 55 [(2, x), l1, l2, l3, l4, l5] ((2, x) :: st) h := G_aload_n (m19 dX3_walk_54) rfl
theorem e19_55 {d : Nat} {l0 l2 l3 l4 l5 : AV} {st : List AV} {h : AM} {x : Int} : EV d 19 55 [l0, (2, x), l2, l3, l4, l5] st h = EV d 19 56 [l0, (2, x), l2, l3, l4, l5] ((2, x) :: st) h := G_aload_n (m19 dX3_walk_55) rfl
theorem e19_56 {d : Nat} {l0 l1 l2 l3 l4 : AV} {st : List AV} {h : AM} {x : Int} : EV d 19 56 [l0, l1, l2, l3, l4, (0, x)] st h = EV d 19 58 [l0, l1, l2, l3, l4, (0, x)] ((0, x) :: st) h := G_iload (m19 dX3_walk_56) rfl
theorem e19_58 {d : Nat} {l0 l1 l2 l3 l5 : AV} {st : List AV} {h : AM} {x : Int} : EV d 19 58 [l0, l1, l2, l3, (0, x), l5] st h = EV d 19 60 [l0, l1, l2, l3, (0, x), l5] ((0, x) :: st) h := G_iload (m19 dX3_walk_58) rfl
theorem e19_60 {d : Nat} {L st : List AV} {h : AM} {r p0 p1 p2 : Int} (hs : st.length ≤ 4) (hk : isK h r 3) : EV (d + 1) 19 60 L ((0, p2) :: (0, p1) :: (2, p0) :: (2, r) :: st) h = (EV d 20 0 [(2, r), (2, p0), (0, p1), (0, p2), (3, 0), (3, 0), (3, 0), (3, 0)] [] h).bind (fun q => EV (d + 1) 19 63 L (psh q.1 st) q.2) := G_cv [(2, p0), (0, p1), (0, p2)] (m19 dX3_walk_60) ow19 tr_3_52 (by decide) td20 np20 ml20 ow20 rfl rfl (Nat.le_of_ble_eq_true rfl) rfl hs hk
theorem e19_63 {d : Nat} {l0 l2 l3 l4 l5 : AV} {st : List AV} {h : AM} {x : Int} : EV d 19 63 [l0, (2, x), l2, l3, l4, l5] st h = EV d 19 64 [l0, (2, x), l2, l3, l4, l5] ((2, x) :: st) h := G_aload_n (m19 dX3_walk_63) rfl
theorem e19_64 {d : Nat} {L st : List AV} {h : AM} {r : Int} (hk : isK h r 6) : EV d 19 64 L ((2, r) :: st) h = EV d 19 67 L ((2, mrd h r 4) :: st) h := G_get (m19 dX3_walk_64) ow19 tf_3_37 rfl rfl hk
theorem e19_67 {d : Nat} {L st : List AV} {h : AM} {r : Int} (hk : isK h r 0) : EV d 19 67 L ((2, r) :: st) h = EV d 19 70 L ((2, mrd h r 4) :: st) h := G_get (m19 dX3_walk_67) ow19 tf_3_56 rfl rfl hk
theorem e19_70 {d : Nat} {l0 l1 l2 l3 l4 : AV} {st : List AV} {h : AM} {x : Int} : EV d 19 70 [l0, l1, l2, l3, l4, (0, x)] st h = EV d 19 72 [l0, l1, l2, l3, l4, (0, x)] ((0, x) :: st) h := G_iload (m19 dX3_walk_70) rfl
theorem e19_72 {d : Nat} {L st : List AV} {h : AM} {r j : Int} (hk : inA h r 16 j) : EV d 19 72 L ((0, j) :: (2, r) :: st) h = EV d 19 73 L ((0, mrd h r j) :: st) h := E_iald (m19 dX3_walk_72) hk
theorem e19_73 {d : Nat} {l0 l1 l2 l3 l4 l5 : AV} {st : List AV} {h : AM} {x : Int} : EV d 19 73 [l0, l1, l2, l3, l4, l5] ((0, x) :: st) h = EV d 19 75 [l0, l1, l2, l3, l4, (0, x)] st h := G_istore (m19 dX3_walk_73) (Nat.le_of_ble_eq_true rfl) rfl
theorem e19_75 {d : Nat} {L st : List AV} {h : AM} : EV d 19 75 L st h = EV d 19 10 L st h := G_goto (m19 dX3_walk_75) rfl
theorem e19_78 {d : Nat} {L : List AV} {h : AM} : EV d 19 78 L [] h = some ((3, 0), h) := E_ret (m19 dX3_walk_78) rt19
theorem e20_0 {d : Nat} {l0 l2 l3 l4 l5 l6 l7 : AV} {st : List AV} {h : AM} {x : Int} : EV d 20 0 [l0, (2, x), l2, l3, l4, l5, l6, l7] st h = EV d 20 1 [l0, (2, x), l2, l3, l4, l5, l6, l7] ((2, x) :: st) h := G_aload_n (m20 dX3_doStep_0) rfl
theorem e20_1 {d : Nat} {L st : List AV} {h : AM} {r : Int} (hk : isK h r 6) : EV d 20 1 L ((2, r) :: st) h = EV d 20 4 L ((2, mrd h r 4) :: st) h := G_get (m20 dX3_doStep_1) ow20 tf_3_37 rfl rfl hk
theorem e20_4 {d : Nat} {l0 l1 l2 l3 l4 l5 l6 l7 : AV} {st : List AV} {h : AM} {x : Int} : EV d 20 4 [l0, l1, l2, l3, l4, l5, l6, l7] ((2, x) :: st) h = EV d 20 6 [l0, l1, l2, l3, (2, x), l5, l6, l7] st h := G_astore (m20 dX3_doStep_4) (Nat.le_of_ble_eq_true rfl) rfl
theorem e20_6 {d : Nat} {l0 l2 l3 l4 l5 l6 l7 : AV} {st : List AV} {h : AM} {x : Int} : EV d 20 6 [l0, (2, x), l2, l3, l4, l5, l6, l7] st h = EV d 20 7 [l0, (2, x), l2, l3, l4, l5, l6, l7] ((2, x) :: st) h := G_aload_n (m20 dX3_doStep_6) rfl
theorem e20_7 {d : Nat} {L st : List AV} {h : AM} {r : Int} (hk : isK h r 6) : EV d 20 7 L ((2, r) :: st) h = EV d 20 10 L ((2, mrd h r 2) :: st) h := G_get (m20 dX3_doStep_7) ow20 tf_3_60 rfl rfl hk
theorem e20_10 {d : Nat} {l0 l1 l2 l3 l5 l6 l7 : AV} {st : List AV} {h : AM} {x : Int} : EV d 20 10 [l0, l1, l2, l3, (2, x), l5, l6, l7] st h = EV d 20 12 [l0, l1, l2, l3, (2, x), l5, l6, l7] ((2, x) :: st) h := G_aload (m20 dX3_doStep_10) rfl
theorem e20_12 {d : Nat} {L st : List AV} {h : AM} {r : Int} (hk : isK h r 0) : EV d 20 12 L ((2, r) :: st) h = EV d 20 15 L ((2, mrd h r 1) :: st) h := G_get (m20 dX3_doStep_12) ow20 tf_3_64 rfl rfl hk
theorem e20_15 {d : Nat} {l0 l1 l3 l4 l5 l6 l7 : AV} {st : List AV} {h : AM} {x : Int} : EV d 20 15 [l0, l1, (0, x), l3, l4, l5, l6, l7] st h = EV d 20 16 [l0, l1, (0, x), l3, l4, l5, l6, l7] ((0, x) :: st) h := G_iload_n (m20 dX3_doStep_15) rfl
theorem e20_16 {d : Nat} {L st : List AV} {h : AM} {r j : Int} (hk : inA h r 16 j) : EV d 20 16 L ((0, j) :: (2, r) :: st) h = EV d 20 17 L ((0, mrd h r j) :: st) h := E_iald (m20 dX3_doStep_16) hk
theorem e20_17 {d : Nat} {L st : List AV} {h : AM} {r j : Int} (hk : inR h r j) : EV d 20 17 L ((0, j) :: (2, r) :: st) h = EV d 20 18 L ((2, mrd h r j) :: st) h := G_aald (m20 dX3_doStep_17) hk
theorem e20_18 {d : Nat} {l0 l1 l2 l3 l4 l5 l6 l7 : AV} {st : List AV} {h : AM} {x : Int} : EV d 20 18 [l0, l1, l2, l3, l4, l5, l6, l7] ((2, x) :: st) h = EV d 20 20 [l0, l1, l2, l3, l4, (2, x), l6, l7] st h := G_astore (m20 dX3_doStep_18) (Nat.le_of_ble_eq_true rfl) rfl
theorem e20_20 {d : Nat} {l0 l1 l2 l3 l5 l6 l7 : AV} {st : List AV} {h : AM} {x : Int} : EV d 20 20 [l0, l1, l2, l3, (2, x), l5, l6, l7] st h = EV d 20 22 [l0, l1, l2, l3, (2, x), l5, l6, l7] ((2, x) :: st) h := G_aload (m20 dX3_doStep_20) rfl
theorem e20_22 {d : Nat} {L st : List AV} {h : AM} {r : Int} (hk : isK h r 0) : EV d 20 22 L ((2, r) :: st) h = EV d 20 25 L ((2, mrd h r 2) :: st) h := G_get (m20 dX3_doStep_22) ow20 tf_3_67 rfl rfl hk
theorem e20_25 {d : Nat} {l0 l1 l3 l4 l5 l6 l7 : AV} {st : List AV} {h : AM} {x : Int} : EV d 20 25 [l0, l1, (0, x), l3, l4, l5, l6, l7] st h = EV d 20 26 [l0, l1, (0, x), l3, l4, l5, l6, l7] ((0, x) :: st) h := G_iload_n (m20 dX3_doStep_25) rfl
theorem e20_26 {d : Nat} {L st : List AV} {h : AM} {r j : Int} (hk : inA h r 16 j) : EV d 20 26 L ((0, j) :: (2, r) :: st) h = EV d 20 27 L ((0, mrd h r j) :: st) h := E_iald (m20 dX3_doStep_26) hk
theorem e20_27 {d : Nat} {l0 l1 l2 l3 l4 l5 l6 l7 : AV} {st : List AV} {h : AM} {x : Int} : EV d 20 27 [l0, l1, l2, l3, l4, l5, l6, l7] ((0, x) :: st) h = EV d 20 29 [l0, l1, l2, l3, l4, l5, (0, x), l7] st h := G_istore (m20 dX3_doStep_27) (Nat.le_of_ble_eq_true rfl) rfl
theorem e20_29 {d : Nat} {l0 l1 l2 l3 l5 l6 l7 : AV} {st : List AV} {h : AM} {x : Int} : EV d 20 29 [l0, l1, l2, l3, (2, x), l5, l6, l7] st h = EV d 20 31 [l0, l1, l2, l3, (2, x), l5, l6, l7] ((2, x) :: st) h := G_aload (m20 dX3_doStep_29) rfl
theorem e20_31 {d : Nat} {L st : List AV} {h : AM} {r : Int} (hk : isK h r 0) : EV d 20 31 L ((2, r) :: st) h = EV d 20 34 L ((2, mrd h r 0) :: st) h := G_get (m20 dX3_doStep_31) ow20 tf_3_70 rfl rfl hk
theorem e20_34 {d : Nat} {l0 l1 l3 l4 l5 l6 l7 : AV} {st : List AV} {h : AM} {x : Int} : EV d 20 34 [l0, l1, (0, x), l3, l4, l5, l6, l7] st h = EV d 20 35 [l0, l1, (0, x), l3, l4, l5, l6, l7] ((0, x) :: st) h := G_iload_n (m20 dX3_doStep_34) rfl
theorem e20_35 {d : Nat} {L st : List AV} {h : AM} {r j : Int} (hk : inA h r 16 j) : EV d 20 35 L ((0, j) :: (2, r) :: st) h = EV d 20 36 L ((0, mrd h r j) :: st) h := E_iald (m20 dX3_doStep_35) hk
theorem e20_36c0 {d : Nat} {L st : List AV} {h : AM} : EV d 20 36 L ((0, 11) :: st) h = EV d 20 100 L st h := E_tsw (m20 dX3_doStep_36) rfl
theorem e20_36c1 {d : Nat} {L st : List AV} {h : AM} : EV d 20 36 L ((0, 12) :: st) h = EV d 20 112 L st h := E_tsw (m20 dX3_doStep_36) rfl
theorem e20_36c2 {d : Nat} {L st : List AV} {h : AM} : EV d 20 36 L ((0, 13) :: st) h = EV d 20 123 L st h := E_tsw (m20 dX3_doStep_36) rfl
theorem e20_36c3 {d : Nat} {L st : List AV} {h : AM} : EV d 20 36 L ((0, 14) :: st) h = EV d 20 133 L st h := E_tsw (m20 dX3_doStep_36) rfl
theorem e20_36c4 {d : Nat} {L st : List AV} {h : AM} : EV d 20 36 L ((0, 15) :: st) h = EV d 20 148 L st h := E_tsw (m20 dX3_doStep_36) rfl
theorem e20_36c5 {d : Nat} {L st : List AV} {h : AM} : EV d 20 36 L ((0, 16) :: st) h = EV d 20 227 L st h := E_tsw (m20 dX3_doStep_36) rfl
theorem e20_36c6 {d : Nat} {L st : List AV} {h : AM} : EV d 20 36 L ((0, 17) :: st) h = EV d 20 227 L st h := E_tsw (m20 dX3_doStep_36) rfl
theorem e20_36c7 {d : Nat} {L st : List AV} {h : AM} : EV d 20 36 L ((0, 18) :: st) h = EV d 20 227 L st h := E_tsw (m20 dX3_doStep_36) rfl
theorem e20_36c8 {d : Nat} {L st : List AV} {h : AM} : EV d 20 36 L ((0, 19) :: st) h = EV d 20 227 L st h := E_tsw (m20 dX3_doStep_36) rfl
theorem e20_36c9 {d : Nat} {L st : List AV} {h : AM} : EV d 20 36 L ((0, 20) :: st) h = EV d 20 175 L st h := E_tsw (m20 dX3_doStep_36) rfl
theorem e20_36c10 {d : Nat} {L st : List AV} {h : AM} : EV d 20 36 L ((0, 21) :: st) h = EV d 20 227 L st h := E_tsw (m20 dX3_doStep_36) rfl
theorem e20_36c11 {d : Nat} {L st : List AV} {h : AM} : EV d 20 36 L ((0, 22) :: st) h = EV d 20 219 L st h := E_tsw (m20 dX3_doStep_36) rfl
theorem e20_36 {d : Nat} {L st : List AV} {h : AM} {a : Int} (ha : a < 11 ∨ 22 < a) : EV d 20 36 L ((0, a) :: st) h = EV d 20 227 L st h := E_tso (m20 dX3_doStep_36) rfl ha
theorem e20_100 {d : Nat} {l1 l2 l3 l4 l5 l6 l7 : AV} {st : List AV} {h : AM} {x : Int} : EV d 20 100 [(2, x), l1, l2, l3, l4, l5, l6, l7] st h = EV d 20 101 [(2, x), l1, l2, l3, l4, l5, l6, l7] ((2, x) :: st) h := G_aload_n (m20 dX3_doStep_100) rfl
theorem e20_101 {d : Nat} {l0 l2 l3 l4 l5 l6 l7 : AV} {st : List AV} {h : AM} {x : Int} : EV d 20 101 [l0, (2, x), l2, l3, l4, l5, l6, l7] st h = EV d 20 102 [l0, (2, x), l2, l3, l4, l5, l6, l7] ((2, x) :: st) h := G_aload_n (m20 dX3_doStep_101) rfl
theorem e20_102 {d : Nat} {l0 l1 l2 l3 l4 l6 l7 : AV} {st : List AV} {h : AM} {x : Int} : EV d 20 102 [l0, l1, l2, l3, l4, (2, x), l6, l7] st h = EV d 20 104 [l0, l1, l2, l3, l4, (2, x), l6, l7] ((2, x) :: st) h := G_aload (m20 dX3_doStep_102) rfl
theorem e20_104 {d : Nat} {l0 l1 l2 l3 l4 l5 l7 : AV} {st : List AV} {h : AM} {x : Int} : EV d 20 104 [l0, l1, l2, l3, l4, l5, (0, x), l7] st h = EV d 20 106 [l0, l1, l2, l3, l4, l5, (0, x), l7] ((0, x) :: st) h := G_iload (m20 dX3_doStep_104) rfl
theorem e20_106 {d : Nat} {L st : List AV} {h : AM} {r p0 p1 p2 : Int} (hs : st.length ≤ 4) (hk : isK h r 3) : EV (d + 1) 20 106 L ((0, p2) :: (2, p1) :: (2, p0) :: (2, r) :: st) h = (EV d 23 0 [(2, r), (2, p0), (2, p1), (0, p2)] [] h).bind (fun q => EV (d + 1) 20 109 L (psh q.1 st) q.2) := G_cv [(2, p0), (2, p1), (0, p2)] (m20 dX3_doStep_106) ow20 tr_3_73 (by decide) td23 np23 ml23 ow23 rfl rfl (Nat.le_of_ble_eq_true rfl) rfl hs hk
theorem e20_109 {d : Nat} {L st : List AV} {h : AM} : EV d 20 109 L st h = EV d 20 255 L st h := G_goto (m20 dX3_doStep_109) rfl
theorem e20_112 {d : Nat} {l1 l2 l3 l4 l5 l6 l7 : AV} {st : List AV} {h : AM} {x : Int} : EV d 20 112 [(2, x), l1, l2, l3, l4, l5, l6, l7] st h = EV d 20 113 [(2, x), l1, l2, l3, l4, l5, l6, l7] ((2, x) :: st) h := G_aload_n (m20 dX3_doStep_112) rfl
theorem e20_113 {d : Nat} {l0 l1 l2 l3 l4 l6 l7 : AV} {st : List AV} {h : AM} {x : Int} : EV d 20 113 [l0, l1, l2, l3, l4, (2, x), l6, l7] st h = EV d 20 115 [l0, l1, l2, l3, l4, (2, x), l6, l7] ((2, x) :: st) h := G_aload (m20 dX3_doStep_113) rfl
theorem e20_115 {d : Nat} {l0 l1 l2 l3 l4 l5 l7 : AV} {st : List AV} {h : AM} {x : Int} : EV d 20 115 [l0, l1, l2, l3, l4, l5, (0, x), l7] st h = EV d 20 117 [l0, l1, l2, l3, l4, l5, (0, x), l7] ((0, x) :: st) h := G_iload (m20 dX3_doStep_115) rfl
theorem e20_117 {d : Nat} {L st : List AV} {h : AM} {r p0 p1 : Int} (hs : st.length ≤ 4) (hk : isK h r 3) : EV (d + 1) 20 117 L ((0, p1) :: (2, p0) :: (2, r) :: st) h = (EV d 24 0 [(2, r), (2, p0), (0, p1)] [] h).bind (fun q => EV (d + 1) 20 120 L (psh q.1 st) q.2) := G_cv [(2, p0), (0, p1)] (m20 dX3_doStep_117) ow20 tr_3_77 (by decide) td24 np24 ml24 ow24 rfl rfl (Nat.le_of_ble_eq_true rfl) rfl hs hk
theorem e20_120 {d : Nat} {L st : List AV} {h : AM} : EV d 20 120 L st h = EV d 20 255 L st h := G_goto (m20 dX3_doStep_120) rfl
theorem e20_123 {d : Nat} {l1 l2 l3 l4 l5 l6 l7 : AV} {st : List AV} {h : AM} {x : Int} : EV d 20 123 [(2, x), l1, l2, l3, l4, l5, l6, l7] st h = EV d 20 124 [(2, x), l1, l2, l3, l4, l5, l6, l7] ((2, x) :: st) h := G_aload_n (m20 dX3_doStep_123) rfl
theorem e20_124 {d : Nat} {l0 l2 l3 l4 l5 l6 l7 : AV} {st : List AV} {h : AM} {x : Int} : EV d 20 124 [l0, (2, x), l2, l3, l4, l5, l6, l7] st h = EV d 20 125 [l0, (2, x), l2, l3, l4, l5, l6, l7] ((2, x) :: st) h := G_aload_n (m20 dX3_doStep_124) rfl
theorem e20_125 {d : Nat} {l0 l1 l2 l3 l4 l6 l7 : AV} {st : List AV} {h : AM} {x : Int} : EV d 20 125 [l0, l1, l2, l3, l4, (2, x), l6, l7] st h = EV d 20 127 [l0, l1, l2, l3, l4, (2, x), l6, l7] ((2, x) :: st) h := G_aload (m20 dX3_doStep_125) rfl
theorem e20_127 {d : Nat} {L st : List AV} {h : AM} {r p0 p1 : Int} (hs : st.length ≤ 4) (hk : isK h r 3) : EV (d + 1) 20 127 L ((2, p1) :: (2, p0) :: (2, r) :: st) h = (EV d 25 0 [(2, r), (2, p0), (2, p1), (3, 0), (3, 0)] [] h).bind (fun q => EV (d + 1) 20 130 L (psh q.1 st) q.2) := G_cv [(2, p0), (2, p1)] (m20 dX3_doStep_127) ow20 tr_3_81 (by decide) td25 np25 ml25 ow25 rfl rfl (Nat.le_of_ble_eq_true rfl) rfl hs hk
theorem e20_130 {d : Nat} {L st : List AV} {h : AM} : EV d 20 130 L st h = EV d 20 255 L st h := G_goto (m20 dX3_doStep_130) rfl
theorem e20_133 {d : Nat} {l0 l1 l2 l3 l4 l6 l7 : AV} {st : List AV} {h : AM} {x : Int} : EV d 20 133 [l0, l1, l2, l3, l4, (2, x), l6, l7] st h = EV d 20 135 [l0, l1, l2, l3, l4, (2, x), l6, l7] ((2, x) :: st) h := G_aload (m20 dX3_doStep_133) rfl
theorem e20_135 {d : Nat} {L st : List AV} {h : AM} {a : Int} : EV d 20 135 L ((2, a) :: st) h = EV d 20 136 L ((2, a) :: (2, a) :: st) h := G_dup2r (m20 dX3_doStep_135)
theorem e20_135i {d : Nat} {L st : List AV} {h : AM} {a : Int} : EV d 20 135 L ((0, a) :: st) h = EV d 20 136 L ((0, a) :: (0, a) :: st) h := G_dupi (m20 dX3_doStep_135)
theorem e20_136 {d : Nat} {L st : List AV} {h : AM} {r : Int} (hk : isK h r 1) : EV d 20 136 L ((2, r) :: st) h = EV d 20 139 L ((0, mrd h r 4) :: st) h := G_get (m20 dX3_doStep_136) ow20 tf_3_85 rfl rfl hk
theorem e20_139 {d : Nat} {l0 l1 l2 l3 l4 l5 l7 : AV} {st : List AV} {h : AM} {x : Int} : EV d 20 139 [l0, l1, l2, l3, l4, l5, (0, x), l7] st h = EV d 20 141 [l0, l1, l2, l3, l4, l5, (0, x), l7] ((0, x) :: st) h := G_iload (m20 dX3_doStep_139) rfl
theorem e20_141 {d : Nat} {L st : List AV} {h : AM} {a b : Int} : EV d 20 141 L ((0, b) :: (0, a) :: st) h = EV d 20 142 L ((0, w32 (a + b)) :: st) h := E_iadd (m20 dX3_doStep_141)
theorem pk_20_1_4 : pok 20 1 4 0 = true := by decide +kernel
theorem e20_142 {d : Nat} {L st : List AV} {h : AM} {r v : Int} (hk : isK h r 1) : EV d 20 142 L ((0, v) :: (2, r) :: st) h = EV d 20 145 L st (mwr h r 4 v) := G_put (m20 dX3_doStep_142) ow20 tf_3_85 pk_20_1_4 rfl hk
theorem e20_145 {d : Nat} {L st : List AV} {h : AM} : EV d 20 145 L st h = EV d 20 255 L st h := G_goto (m20 dX3_doStep_145) rfl
theorem e20_148 {d : Nat} {l1 l2 l3 l4 l5 l6 l7 : AV} {st : List AV} {h : AM} {x : Int} : EV d 20 148 [(2, x), l1, l2, l3, l4, l5, l6, l7] st h = EV d 20 149 [(2, x), l1, l2, l3, l4, l5, l6, l7] ((2, x) :: st) h := G_aload_n (m20 dX3_doStep_148) rfl
theorem e20_149 {d : Nat} {L st : List AV} {h : AM} {a : Int} : EV d 20 149 L ((2, a) :: st) h = EV d 20 150 L ((2, a) :: (2, a) :: st) h := G_dup2r (m20 dX3_doStep_149)
theorem e20_149i {d : Nat} {L st : List AV} {h : AM} {a : Int} : EV d 20 149 L ((0, a) :: st) h = EV d 20 150 L ((0, a) :: (0, a) :: st) h := G_dupi (m20 dX3_doStep_149)
theorem e20_150 {d : Nat} {L st : List AV} {h : AM} {r : Int} (hk : isK h r 3) : EV d 20 150 L ((2, r) :: st) h = EV d 20 153 L ((0, mrd h r 2) :: st) h := G_get (m20 dX3_doStep_150) ow20 tf_3_19 rfl rfl hk
theorem e20_153 {d : Nat} {l0 l1 l2 l3 l4 l6 l7 : AV} {st : List AV} {h : AM} {x : Int} : EV d 20 153 [l0, l1, l2, l3, l4, (2, x), l6, l7] st h = EV d 20 155 [l0, l1, l2, l3, l4, (2, x), l6, l7] ((2, x) :: st) h := G_aload (m20 dX3_doStep_153) rfl
theorem e20_155 {d : Nat} {l0 l1 l2 l3 l4 l5 l7 : AV} {st : List AV} {h : AM} {x : Int} : EV d 20 155 [l0, l1, l2, l3, l4, l5, (0, x), l7] st h = EV d 20 157 [l0, l1, l2, l3, l4, l5, (0, x), l7] ((0, x) :: st) h := G_iload (m20 dX3_doStep_155) rfl
theorem e20_157 {d : Nat} {L st : List AV} {h : AM} {r p0 : Int} (hs : st.length ≤ 4) (hk : isK h r 1) : EV (d + 1) 20 157 L ((0, p0) :: (2, r) :: st) h = (EV d 12 0 [(2, r), (0, p0)] [] h).bind (fun q => EV (d + 1) 20 160 L (psh q.1 st) q.2) := G_cv [(0, p0)] (m20 dX3_doStep_157) ow20 tr_3_90 (by decide) td12 np12 ml12 ow12 rfl rfl (Nat.le_of_ble_eq_true rfl) rfl hs hk
theorem e20_160 {d : Nat} {L st : List AV} {h : AM} {a : Int} : EV d 20 160 L ((0, a) :: st) h = if a = 0 then EV d 20 167 L st h else EV d 20 163 L st h := (E_if (m20 dX3_doStep_160) (t := 167) rfl).trans cc_eq
theorem e20_163 {d : Nat} {L st : List AV} {h : AM} : EV d 20 163 L st h = EV d 20 164 L ((0, 0) :: st) h := G_iconst (m20 dX3_doStep_163) (by decide)
theorem e20_164 {d : Nat} {L st : List AV} {h : AM} : EV d 20 164 L st h = EV d 20 168 L st h := G_goto (m20 dX3_doStep_164) rfl
theorem e20_167 {d : Nat} {L st : List AV} {h : AM} : EV d 20 167 L st h = EV d 20 168 L ((0, 1) :: st) h := G_iconst (m20 dX3_doStep_167) (by decide)
theorem e20_168 {d : Nat} {L st : List AV} {h : AM} {a b : Int} : EV d 20 168 L ((0, b) :: (0, a) :: st) h = EV d 20 169 L ((0, w32 (a + b)) :: st) h := E_iadd (m20 dX3_doStep_168)
theorem pk_20_3_2 : pok 20 3 2 0 = true := by decide +kernel
theorem e20_169 {d : Nat} {L st : List AV} {h : AM} {r v : Int} (hk : isK h r 3) : EV d 20 169 L ((0, v) :: (2, r) :: st) h = EV d 20 172 L st (mwr h r 2 v) := G_put (m20 dX3_doStep_169) ow20 tf_3_19 pk_20_3_2 rfl hk
theorem e20_172 {d : Nat} {L st : List AV} {h : AM} : EV d 20 172 L st h = EV d 20 255 L st h := G_goto (m20 dX3_doStep_172) rfl
theorem e20_175 {d : Nat} {L st : List AV} {h : AM} : EV d 20 175 L st h = EV d 20 176 L ((0, 0) :: st) h := G_iconst (m20 dX3_doStep_175) (by decide)
theorem e20_176 {d : Nat} {l0 l1 l2 l3 l4 l5 l6 l7 : AV} {st : List AV} {h : AM} {x : Int} : EV d 20 176 [l0, l1, l2, l3, l4, l5, l6, l7] ((0, x) :: st) h = EV d 20 178 [l0, l1, l2, l3, l4, l5, l6, (0, x)] st h := G_istore (m20 dX3_doStep_176) (Nat.le_of_ble_eq_true rfl) rfl
theorem e20_178 {d : Nat} {l0 l1 l2 l3 l4 l5 l6 : AV} {st : List AV} {h : AM} {x : Int} : EV d 20 178 [l0, l1, l2, l3, l4, l5, l6, (0, x)] st h = EV d 20 180 [l0, l1, l2, l3, l4, l5, l6, (0, x)] ((0, x) :: st) h := G_iload (m20 dX3_doStep_178) rfl
theorem e20_180 {d : Nat} {l0 l1 l2 l3 l4 l5 l7 : AV} {st : List AV} {h : AM} {x : Int} : EV d 20 180 [l0, l1, l2, l3, l4, l5, (0, x), l7] st h = EV d 20 182 [l0, l1, l2, l3, l4, l5, (0, x), l7] ((0, x) :: st) h := G_iload (m20 dX3_doStep_180) rfl
theorem e20_182 {d : Nat} {L st : List AV} {h : AM} {a b : Int} : EV d 20 182 L ((0, b) :: (0, a) :: st) h = if a < b then EV d 20 185 L st h else EV d 20 216 L st h := (E_ic (m20 dX3_doStep_182) (t := 216) rfl).trans cc_ge
theorem e20_185 {d : Nat} {l1 l2 l3 l4 l5 l6 l7 : AV} {st : List AV} {h : AM} {x : Int} : EV d 20 185 [(2, x), l1, l2, l3, l4, l5, l6, l7] st h = EV d 20 186 [(2, x), l1, l2, l3, l4, l5, l6, l7] ((2, x) :: st) h := G_aload_n (m20 dX3_doStep_185) rfl
theorem e20_186 {d : Nat} {L st : List AV} {h : AM} {r : Int} (hk : isK h r 3) : EV d 20 186 L ((2, r) :: st) h = EV d 20 189 L ((0, mrd h r 6) :: st) h := G_get (m20 dX3_doStep_186) ow20 tf_3_31 rfl rfl hk
theorem e20_189 {d : Nat} {L st : List AV} {h : AM} {a : Int} : EV d 20 189 L ((0, a) :: st) h = if a = 0 then EV d 20 192 L st h else EV d 20 216 L st h := (E_if (m20 dX3_doStep_189) (t := 216) rfl).trans cc_ne
theorem e20_192 {d : Nat} {l1 l2 l3 l4 l5 l6 l7 : AV} {st : List AV} {h : AM} {x : Int} : EV d 20 192 [(2, x), l1, l2, l3, l4, l5, l6, l7] st h = EV d 20 193 [(2, x), l1, l2, l3, l4, l5, l6, l7] ((2, x) :: st) h := G_aload_n (m20 dX3_doStep_192) rfl
theorem e20_193 {d : Nat} {l0 l2 l3 l4 l5 l6 l7 : AV} {st : List AV} {h : AM} {x : Int} : EV d 20 193 [l0, (2, x), l2, l3, l4, l5, l6, l7] st h = EV d 20 194 [l0, (2, x), l2, l3, l4, l5, l6, l7] ((2, x) :: st) h := G_aload_n (m20 dX3_doStep_193) rfl
theorem e20_194 {d : Nat} {l0 l1 l3 l4 l5 l6 l7 : AV} {st : List AV} {h : AM} {x : Int} : EV d 20 194 [l0, l1, (0, x), l3, l4, l5, l6, l7] st h = EV d 20 195 [l0, l1, (0, x), l3, l4, l5, l6, l7] ((0, x) :: st) h := G_iload_n (m20 dX3_doStep_194) rfl
theorem e20_195 {d : Nat} {L st : List AV} {h : AM} : EV d 20 195 L st h = EV d 20 196 L ((0, 1) :: st) h := G_iconst (m20 dX3_doStep_195) (by decide)
theorem e20_196 {d : Nat} {L st : List AV} {h : AM} {a b : Int} : EV d 20 196 L ((0, b) :: (0, a) :: st) h = EV d 20 197 L ((0, w32 (a + b)) :: st) h := E_iadd (m20 dX3_doStep_196)
theorem e20_197 {d : Nat} {l0 l1 l2 l3 l5 l6 l7 : AV} {st : List AV} {h : AM} {x : Int} : EV d 20 197 [l0, l1, l2, l3, (2, x), l5, l6, l7] st h = EV d 20 199 [l0, l1, l2, l3, (2, x), l5, l6, l7] ((2, x) :: st) h := G_aload (m20 dX3_doStep_197) rfl
theorem e20_199 {d : Nat} {L st : List AV} {h : AM} {r : Int} (hk : isK h r 0) : EV d 20 199 L ((2, r) :: st) h = EV d 20 202 L ((2, mrd h r 4) :: st) h := G_get (m20 dX3_doStep_199) ow20 tf_3_56 rfl rfl hk
theorem e20_202 {d : Nat} {l0 l1 l3 l4 l5 l6 l7 : AV} {st : List AV} {h : AM} {x : Int} : EV d 20 202 [l0, l1, (0, x), l3, l4, l5, l6, l7] st h = EV d 20 203 [l0, l1, (0, x), l3, l4, l5, l6, l7] ((0, x) :: st) h := G_iload_n (m20 dX3_doStep_202) rfl
theorem e20_203 {d : Nat} {L st : List AV} {h : AM} {r j : Int} (hk : inA h r 16 j) : EV d 20 203 L ((0, j) :: (2, r) :: st) h = EV d 20 204 L ((0, mrd h r j) :: st) h := E_iald (m20 dX3_doStep_203) hk
theorem e20_204 {d : Nat} {l0 l1 l2 l4 l5 l6 l7 : AV} {st : List AV} {h : AM} {x : Int} : EV d 20 204 [l0, l1, l2, (0, x), l4, l5, l6, l7] st h = EV d 20 205 [l0, l1, l2, (0, x), l4, l5, l6, l7] ((0, x) :: st) h := G_iload_n (m20 dX3_doStep_204) rfl
theorem e20_205 {d : Nat} {L st : List AV} {h : AM} : EV d 20 205 L st h = EV d 20 206 L ((0, 1) :: st) h := G_iconst (m20 dX3_doStep_205) (by decide)
theorem e20_206 {d : Nat} {L st : List AV} {h : AM} {a b : Int} : EV d 20 206 L ((0, b) :: (0, a) :: st) h = EV d 20 207 L ((0, w32 (a + b)) :: st) h := E_iadd (m20 dX3_doStep_206)
theorem e20_207 {d : Nat} {L st : List AV} {h : AM} {r p0 p1 p2 p3 : Int} (hs : st.length ≤ 4) (hk : isK h r 3) : EV (d + 1) 20 207 L ((0, p3) :: (0, p2) :: (0, p1) :: (2, p0) :: (2, r) :: st) h = (EV d 19 0 [(2, r), (2, p0), (0, p1), (0, p2), (0, p3), (3, 0)] [] h).bind (fun q => EV (d + 1) 20 210 L (psh q.1 st) q.2) := G_cv [(2, p0), (0, p1), (0, p2), (0, p3)] (m20 dX3_doStep_207) ow20 tr_3_48 (by decide) td19 np19 ml19 ow19 rfl rfl (Nat.le_of_ble_eq_true rfl) rfl hs hk
theorem e20_210 {d : Nat} {l0 l1 l2 l3 l4 l5 l6 : AV} {st : List AV} {h : AM} {x : Int} : EV d 20 210 [l0, l1, l2, l3, l4, l5, l6, (0, x)] st h = EV d 20 213 [l0, l1, l2, l3, l4, l5, l6, (0, w32 (x + 1))] st h := G_iinc (m20 dX3_doStep_210) rfl rfl
theorem e20_213 {d : Nat} {L st : List AV} {h : AM} : EV d 20 213 L st h = EV d 20 178 L st h := G_goto (m20 dX3_doStep_213) rfl
theorem e20_216 {d : Nat} {L st : List AV} {h : AM} : EV d 20 216 L st h = EV d 20 255 L st h := G_goto (m20 dX3_doStep_216) rfl
theorem e20_219 {d : Nat} {l1 l2 l3 l4 l5 l6 l7 : AV} {st : List AV} {h : AM} {x : Int} : EV d 20 219 [(2, x), l1, l2, l3, l4, l5, l6, l7] st h = EV d 20 220 [(2, x), l1, l2, l3, l4, l5, l6, l7] ((2, x) :: st) h := G_aload_n (m20 dX3_doStep_219) rfl
theorem e20_220 {d : Nat} {L st : List AV} {h : AM} : EV d 20 220 L st h = EV d 20 221 L ((0, 1) :: st) h := G_iconst (m20 dX3_doStep_220) (by decide)
theorem pz_20_3_6 : pokz 20 3 6 = true := by decide +kernel
theorem e20_221 {d : Nat} {L st : List AV} {h : AM} {r v : Int} (hk : isK h r 3) (hv : v = 0 ∨ v = 1) : EV d 20 221 L ((0, v) :: (2, r) :: st) h = EV d 20 224 L st (mwr h r 6 v) := G_putz (m20 dX3_doStep_221) ow20 tf_3_31 pz_20_3_6 rfl hk hv
theorem e20_224 {d : Nat} {L st : List AV} {h : AM} : EV d 20 224 L st h = EV d 20 255 L st h := G_goto (m20 dX3_doStep_224) rfl
theorem e20_227 {d : Nat} {l0 l2 l3 l4 l5 l6 l7 : AV} {st : List AV} {h : AM} {x : Int} : EV d 20 227 [l0, (2, x), l2, l3, l4, l5, l6, l7] st h = EV d 20 228 [l0, (2, x), l2, l3, l4, l5, l6, l7] ((2, x) :: st) h := G_aload_n (m20 dX3_doStep_227) rfl
theorem e20_228 {d : Nat} {l0 l1 l2 l3 l4 l6 l7 : AV} {st : List AV} {h : AM} {x : Int} : EV d 20 228 [l0, l1, l2, l3, l4, (2, x), l6, l7] st h = EV d 20 230 [l0, l1, l2, l3, l4, (2, x), l6, l7] ((2, x) :: st) h := G_aload (m20 dX3_doStep_228) rfl
theorem e20_230 {d : Nat} {l0 l1 l3 l4 l5 l6 l7 : AV} {st : List AV} {h : AM} {x : Int} : EV d 20 230 [l0, l1, (0, x), l3, l4, l5, l6, l7] st h = EV d 20 231 [l0, l1, (0, x), l3, l4, l5, l6, l7] ((0, x) :: st) h := G_iload_n (m20 dX3_doStep_230) rfl
theorem e20_231 {d : Nat} {L st : List AV} {h : AM} {p0 p1 p2 : Int} (hs : st.length ≤ 4) : EV (d + 1) 20 231 L ((0, p2) :: (2, p1) :: (2, p0) :: st) h = (EV d 21 0 [(2, p0), (2, p1), (0, p2), (3, 0)] [] h).bind (fun q => EV (d + 1) 20 234 L (psh q.1 st) q.2) := G_cs [(2, p0), (2, p1), (0, p2)] (m20 dX3_doStep_231) ow20 tr_3_94 (by decide) td21 np21 ml21 rfl rfl (Nat.le_of_ble_eq_true rfl) rfl hs
theorem e20_234 {d : Nat} {L st : List AV} {h : AM} {a : Int} : EV d 20 234 L ((0, a) :: st) h = if a = 0 then EV d 20 255 L st h else EV d 20 237 L st h := (E_if (m20 dX3_doStep_234) (t := 255) rfl).trans cc_eq
theorem e20_237 {d : Nat} {l1 l2 l3 l4 l5 l6 l7 : AV} {st : List AV} {h : AM} {x : Int} : EV d 20 237 [(2, x), l1, l2, l3, l4, l5, l6, l7] st h = EV d 20 238 [(2, x), l1, l2, l3, l4, l5, l6, l7] ((2, x) :: st) h := G_aload_n (m20 dX3_doStep_237) rfl
theorem e20_238 {d : Nat} {l0 l2 l3 l4 l5 l6 l7 : AV} {st : List AV} {h : AM} {x : Int} : EV d 20 238 [l0, (2, x), l2, l3, l4, l5, l6, l7] st h = EV d 20 239 [l0, (2, x), l2, l3, l4, l5, l6, l7] ((2, x) :: st) h := G_aload_n (m20 dX3_doStep_238) rfl
theorem e20_239 {d : Nat} {l0 l1 l3 l4 l5 l6 l7 : AV} {st : List AV} {h : AM} {x : Int} : EV d 20 239 [l0, l1, (0, x), l3, l4, l5, l6, l7] st h = EV d 20 240 [l0, l1, (0, x), l3, l4, l5, l6, l7] ((0, x) :: st) h := G_iload_n (m20 dX3_doStep_239) rfl
theorem e20_240 {d : Nat} {L st : List AV} {h : AM} : EV d 20 240 L st h = EV d 20 241 L ((0, 1) :: st) h := G_iconst (m20 dX3_doStep_240) (by decide)
theorem e20_241 {d : Nat} {L st : List AV} {h : AM} {a b : Int} : EV d 20 241 L ((0, b) :: (0, a) :: st) h = EV d 20 242 L ((0, w32 (a + b)) :: st) h := E_iadd (m20 dX3_doStep_241)
theorem e20_242 {d : Nat} {l0 l1 l2 l3 l5 l6 l7 : AV} {st : List AV} {h : AM} {x : Int} : EV d 20 242 [l0, l1, l2, l3, (2, x), l5, l6, l7] st h = EV d 20 244 [l0, l1, l2, l3, (2, x), l5, l6, l7] ((2, x) :: st) h := G_aload (m20 dX3_doStep_242) rfl
theorem e20_244 {d : Nat} {L st : List AV} {h : AM} {r : Int} (hk : isK h r 0) : EV d 20 244 L ((2, r) :: st) h = EV d 20 247 L ((2, mrd h r 4) :: st) h := G_get (m20 dX3_doStep_244) ow20 tf_3_56 rfl rfl hk
theorem e20_247 {d : Nat} {l0 l1 l3 l4 l5 l6 l7 : AV} {st : List AV} {h : AM} {x : Int} : EV d 20 247 [l0, l1, (0, x), l3, l4, l5, l6, l7] st h = EV d 20 248 [l0, l1, (0, x), l3, l4, l5, l6, l7] ((0, x) :: st) h := G_iload_n (m20 dX3_doStep_247) rfl
theorem e20_248 {d : Nat} {L st : List AV} {h : AM} {r j : Int} (hk : inA h r 16 j) : EV d 20 248 L ((0, j) :: (2, r) :: st) h = EV d 20 249 L ((0, mrd h r j) :: st) h := E_iald (m20 dX3_doStep_248) hk
theorem e20_249 {d : Nat} {l0 l1 l2 l4 l5 l6 l7 : AV} {st : List AV} {h : AM} {x : Int} : EV d 20 249 [l0, l1, l2, (0, x), l4, l5, l6, l7] st h = EV d 20 250 [l0, l1, l2, (0, x), l4, l5, l6, l7] ((0, x) :: st) h := G_iload_n (m20 dX3_doStep_249) rfl
theorem e20_250 {d : Nat} {L st : List AV} {h : AM} : EV d 20 250 L st h = EV d 20 251 L ((0, 1) :: st) h := G_iconst (m20 dX3_doStep_250) (by decide)
theorem e20_251 {d : Nat} {L st : List AV} {h : AM} {a b : Int} : EV d 20 251 L ((0, b) :: (0, a) :: st) h = EV d 20 252 L ((0, w32 (a + b)) :: st) h := E_iadd (m20 dX3_doStep_251)
theorem e20_252 {d : Nat} {L st : List AV} {h : AM} {r p0 p1 p2 p3 : Int} (hs : st.length ≤ 4) (hk : isK h r 3) : EV (d + 1) 20 252 L ((0, p3) :: (0, p2) :: (0, p1) :: (2, p0) :: (2, r) :: st) h = (EV d 19 0 [(2, r), (2, p0), (0, p1), (0, p2), (0, p3), (3, 0)] [] h).bind (fun q => EV (d + 1) 20 255 L (psh q.1 st) q.2) := G_cv [(2, p0), (0, p1), (0, p2), (0, p3)] (m20 dX3_doStep_252) ow20 tr_3_48 (by decide) td19 np19 ml19 ow19 rfl rfl (Nat.le_of_ble_eq_true rfl) rfl hs hk
theorem e20_255 {d : Nat} {L : List AV} {h : AM} : EV d 20 255 L [] h = some ((3, 0), h) := E_ret (m20 dX3_doStep_255) rt20
theorem e21_0 {d : Nat} {l1 l2 l3 : AV} {st : List AV} {h : AM} {x : Int} : EV d 21 0 [(2, x), l1, l2, l3] st h = EV d 21 1 [(2, x), l1, l2, l3] ((2, x) :: st) h := G_aload_n (m21 dX3_holds_0) rfl
theorem e21_1 {d : Nat} {L st : List AV} {h : AM} {r : Int} (hk : isK h r 6) : EV d 21 1 L ((2, r) :: st) h = EV d 21 4 L ((2, mrd h r 4) :: st) h := G_get (m21 dX3_holds_1) ow21 tf_3_37 rfl rfl hk
theorem e21_4 {d : Nat} {L st : List AV} {h : AM} {r : Int} (hk : isK h r 0) : EV d 21 4 L ((2, r) :: st) h = EV d 21 7 L ((2, mrd h r 2) :: st) h := G_get (m21 dX3_holds_4) ow21 tf_3_67 rfl rfl hk
theorem e21_7 {d : Nat} {l0 l1 l3 : AV} {st : List AV} {h : AM} {x : Int} : EV d 21 7 [l0, l1, (0, x), l3] st h = EV d 21 8 [l0, l1, (0, x), l3] ((0, x) :: st) h := G_iload_n (m21 dX3_holds_7) rfl
theorem e21_8 {d : Nat} {L st : List AV} {h : AM} {r j : Int} (hk : inA h r 16 j) : EV d 21 8 L ((0, j) :: (2, r) :: st) h = EV d 21 9 L ((0, mrd h r j) :: st) h := E_iald (m21 dX3_holds_8) hk
theorem e21_9 {d : Nat} {l0 l1 l2 l3 : AV} {st : List AV} {h : AM} {x : Int} : EV d 21 9 [l0, l1, l2, l3] ((0, x) :: st) h = EV d 21 10 [l0, l1, l2, (0, x)] st h := G_istore_n (m21 dX3_holds_9) (Nat.le_of_ble_eq_true rfl) rfl
theorem e21_10 {d : Nat} {l1 l2 l3 : AV} {st : List AV} {h : AM} {x : Int} : EV d 21 10 [(2, x), l1, l2, l3] st h = EV d 21 11 [(2, x), l1, l2, l3] ((2, x) :: st) h := G_aload_n (m21 dX3_holds_10) rfl
theorem e21_11 {d : Nat} {L st : List AV} {h : AM} {r : Int} (hk : isK h r 6) : EV d 21 11 L ((2, r) :: st) h = EV d 21 14 L ((2, mrd h r 4) :: st) h := G_get (m21 dX3_holds_11) ow21 tf_3_37 rfl rfl hk
theorem e21_14 {d : Nat} {L st : List AV} {h : AM} {r : Int} (hk : isK h r 0) : EV d 21 14 L ((2, r) :: st) h = EV d 21 17 L ((2, mrd h r 0) :: st) h := G_get (m21 dX3_holds_14) ow21 tf_3_70 rfl rfl hk
theorem e21_17 {d : Nat} {l0 l1 l3 : AV} {st : List AV} {h : AM} {x : Int} : EV d 21 17 [l0, l1, (0, x), l3] st h = EV d 21 18 [l0, l1, (0, x), l3] ((0, x) :: st) h := G_iload_n (m21 dX3_holds_17) rfl
theorem e21_18 {d : Nat} {L st : List AV} {h : AM} {r j : Int} (hk : inA h r 16 j) : EV d 21 18 L ((0, j) :: (2, r) :: st) h = EV d 21 19 L ((0, mrd h r j) :: st) h := E_iald (m21 dX3_holds_18) hk
theorem e21_19c0 {d : Nat} {L st : List AV} {h : AM} : EV d 21 19 L ((0, 17) :: st) h = EV d 21 44 L st h := E_br (m21 dX3_holds_19) rfl rfl rfl rfl
theorem e21_19c1 {d : Nat} {L st : List AV} {h : AM} : EV d 21 19 L ((0, 18) :: st) h = EV d 21 62 L st h := E_br (m21 dX3_holds_19) rfl rfl rfl rfl
theorem e21_19 {d : Nat} {L st : List AV} {h : AM} {a : Int} (h0 : a ≠ 17) (h1 : a ≠ 18) : EV d 21 19 L ((0, a) :: st) h = EV d 21 69 L st h := E_br (m21 dX3_holds_19) rfl rfl rfl (by simp [br_, Op.lookupswitch.offset, h0, Ne.symm h0, h1, Ne.symm h1, tgt])
theorem e21_44 {d : Nat} {l0 l2 l3 : AV} {st : List AV} {h : AM} {x : Int} : EV d 21 44 [l0, (2, x), l2, l3] st h = EV d 21 45 [l0, (2, x), l2, l3] ((2, x) :: st) h := G_aload_n (m21 dX3_holds_44) rfl
theorem e21_45 {d : Nat} {L st : List AV} {h : AM} {r : Int} (hk : isK h r 1) : EV d 21 45 L ((2, r) :: st) h = EV d 21 48 L ((0, mrd h r 6) :: st) h := G_get (m21 dX3_holds_45) ow21 tf_3_98 rfl rfl hk
theorem e21_48 {d : Nat} {l1 l2 l3 : AV} {st : List AV} {h : AM} {x : Int} : EV d 21 48 [(2, x), l1, l2, l3] st h = EV d 21 49 [(2, x), l1, l2, l3] ((2, x) :: st) h := G_aload_n (m21 dX3_holds_48) rfl
theorem e21_49 {d : Nat} {L st : List AV} {h : AM} {r : Int} (hk : isK h r 6) : EV d 21 49 L ((2, r) :: st) h = EV d 21 52 L ((2, mrd h r 4) :: st) h := G_get (m21 dX3_holds_49) ow21 tf_3_37 rfl rfl hk
theorem e21_52 {d : Nat} {L st : List AV} {h : AM} {r : Int} (hk : isK h r 0) : EV d 21 52 L ((2, r) :: st) h = EV d 21 55 L ((2, mrd h r 3) :: st) h := G_get (m21 dX3_holds_52) ow21 tf_3_101 rfl rfl hk
theorem e21_55 {d : Nat} {l0 l1 l3 : AV} {st : List AV} {h : AM} {x : Int} : EV d 21 55 [l0, l1, (0, x), l3] st h = EV d 21 56 [l0, l1, (0, x), l3] ((0, x) :: st) h := G_iload_n (m21 dX3_holds_55) rfl
theorem e21_56 {d : Nat} {L st : List AV} {h : AM} {r j : Int} (hk : inA h r 16 j) : EV d 21 56 L ((0, j) :: (2, r) :: st) h = EV d 21 57 L ((0, mrd h r j) :: st) h := E_iald (m21 dX3_holds_56) hk
theorem e21_57 {d : Nat} {l0 l1 l2 : AV} {st : List AV} {h : AM} {x : Int} : EV d 21 57 [l0, l1, l2, (0, x)] st h = EV d 21 58 [l0, l1, l2, (0, x)] ((0, x) :: st) h := G_iload_n (m21 dX3_holds_57) rfl
theorem e21_58 {d : Nat} {L st : List AV} {h : AM} {p0 p1 p2 : Int} (hs : st.length ≤ 4) : EV (d + 1) 21 58 L ((0, p2) :: (0, p1) :: (0, p0) :: st) h = (EV d 22 0 [(0, p0), (0, p1), (0, p2)] [] h).bind (fun q => EV (d + 1) 21 61 L (psh q.1 st) q.2) := G_cs [(0, p0), (0, p1), (0, p2)] (m21 dX3_holds_58) ow21 tr_3_104 (by decide) td22 np22 ml22 rfl rfl (Nat.le_of_ble_eq_true rfl) rfl hs
theorem e21_61 {d : Nat} {L : List AV} {h : AM} {v : Int} (hv : v = 0 ∨ v = 1) : EV d 21 61 L [(0, v)] h = some ((0, v), h) := E_iret (m21 dX3_holds_61) (by rw [rt21]; rcases hv with rfl | rfl <;> rfl)
theorem e21_62 {d : Nat} {l1 l2 l3 : AV} {st : List AV} {h : AM} {x : Int} : EV d 21 62 [(2, x), l1, l2, l3] st h = EV d 21 63 [(2, x), l1, l2, l3] ((2, x) :: st) h := G_aload_n (m21 dX3_holds_62) rfl
theorem e21_63 {d : Nat} {l0 l2 l3 : AV} {st : List AV} {h : AM} {x : Int} : EV d 21 63 [l0, (2, x), l2, l3] st h = EV d 21 64 [l0, (2, x), l2, l3] ((2, x) :: st) h := G_aload_n (m21 dX3_holds_63) rfl
theorem e21_64 {d : Nat} {L st : List AV} {h : AM} : EV d 21 64 L st h = EV d 21 65 L ((0, -1) :: st) h := G_iconst (m21 dX3_holds_64) (by decide)
theorem e21_65 {d : Nat} {L st : List AV} {h : AM} {r p0 p1 : Int} (hs : st.length ≤ 4) (hk : isK h r 6) : EV (d + 1) 21 65 L ((0, p1) :: (2, p0) :: (2, r) :: st) h = (EV d 74 0 [(2, r), (2, p0), (0, p1)] [] h).bind (fun q => EV (d + 1) 21 68 L (psh q.1 st) q.2) := G_cv [(2, p0), (0, p1)] (m21 dX3_holds_65) ow21 tr_3_108 (by decide) td74 np74 ml74 ow74 rfl rfl (Nat.le_of_ble_eq_true rfl) rfl hs hk
theorem e21_68 {d : Nat} {L : List AV} {h : AM} {v : Int} (hv : v = 0 ∨ v = 1) : EV d 21 68 L [(0, v)] h = some ((0, v), h) := E_iret (m21 dX3_holds_68) (by rw [rt21]; rcases hv with rfl | rfl <;> rfl)
theorem e21_69 {d : Nat} {l0 l2 l3 : AV} {st : List AV} {h : AM} {x : Int} : EV d 21 69 [l0, (2, x), l2, l3] st h = EV d 21 70 [l0, (2, x), l2, l3] ((2, x) :: st) h := G_aload_n (m21 dX3_holds_69) rfl
theorem e21_70 {d : Nat} {L st : List AV} {h : AM} {r : Int} (hk : isK h r 1) : EV d 21 70 L ((2, r) :: st) h = EV d 21 73 L ((0, mrd h r 5) :: st) h := G_get (m21 dX3_holds_70) ow21 tf_3_112 rfl rfl hk
theorem e21_73 {d : Nat} {L st : List AV} {h : AM} : EV d 21 73 L st h = EV d 21 74 L ((0, 1) :: st) h := G_iconst (m21 dX3_holds_73) (by decide)
theorem e21_74 {d : Nat} {l0 l1 l2 : AV} {st : List AV} {h : AM} {x : Int} : EV d 21 74 [l0, l1, l2, (0, x)] st h = EV d 21 75 [l0, l1, l2, (0, x)] ((0, x) :: st) h := G_iload_n (m21 dX3_holds_74) rfl
theorem e21_75 {d : Nat} {L st : List AV} {h : AM} {a b : Int} : EV d 21 75 L ((0, b) :: (0, a) :: st) h = EV d 21 76 L ((0, i_shl a b) :: st) h := E_ishl (m21 dX3_holds_75)
theorem e21_76 {d : Nat} {L st : List AV} {h : AM} {a b : Int} : EV d 21 76 L ((0, b) :: (0, a) :: st) h = EV d 21 77 L ((0, i_and a b) :: st) h := E_iand (m21 dX3_holds_76)
theorem e21_77 {d : Nat} {L st : List AV} {h : AM} {a : Int} : EV d 21 77 L ((0, a) :: st) h = if a = 0 then EV d 21 84 L st h else EV d 21 80 L st h := (E_if (m21 dX3_holds_77) (t := 84) rfl).trans cc_eq
theorem e21_80 {d : Nat} {L st : List AV} {h : AM} : EV d 21 80 L st h = EV d 21 81 L ((0, 1) :: st) h := G_iconst (m21 dX3_holds_80) (by decide)
theorem e21_81 {d : Nat} {L st : List AV} {h : AM} : EV d 21 81 L st h = EV d 21 85 L st h := G_goto (m21 dX3_holds_81) rfl
theorem e21_84 {d : Nat} {L st : List AV} {h : AM} : EV d 21 84 L st h = EV d 21 85 L ((0, 0) :: st) h := G_iconst (m21 dX3_holds_84) (by decide)
theorem e21_85 {d : Nat} {L : List AV} {h : AM} {v : Int} (hv : v = 0 ∨ v = 1) : EV d 21 85 L [(0, v)] h = some ((0, v), h) := E_iret (m21 dX3_holds_85) (by rw [rt21]; rcases hv with rfl | rfl <;> rfl)
theorem e22_0 {d : Nat} {l0 l2 : AV} {st : List AV} {h : AM} {x : Int} : EV d 22 0 [l0, (0, x), l2] st h = EV d 22 1 [l0, (0, x), l2] ((0, x) :: st) h := G_iload_n (m22 dX3_compares_0) rfl
theorem e22_1 {d : Nat} {L st : List AV} {h : AM} : EV d 22 1 L st h = EV d 22 3 L ((0, 60) :: st) h := G_bipush (m22 dX3_compares_1) (by decide)
theorem e22_3 {d : Nat} {L st : List AV} {h : AM} {a b : Int} : EV d 22 3 L ((0, b) :: (0, a) :: st) h = if a = b then EV d 22 6 L st h else EV d 22 17 L st h := (E_ic (m22 dX3_compares_3) (t := 17) rfl).trans cc_ne
theorem e22_6 {d : Nat} {l1 l2 : AV} {st : List AV} {h : AM} {x : Int} : EV d 22 6 [(0, x), l1, l2] st h = EV d 22 7 [(0, x), l1, l2] ((0, x) :: st) h := G_iload_n (m22 dX3_compares_6) rfl
theorem e22_7 {d : Nat} {l0 l1 : AV} {st : List AV} {h : AM} {x : Int} : EV d 22 7 [l0, l1, (0, x)] st h = EV d 22 8 [l0, l1, (0, x)] ((0, x) :: st) h := G_iload_n (m22 dX3_compares_7) rfl
theorem e22_8 {d : Nat} {L st : List AV} {h : AM} {a b : Int} : EV d 22 8 L ((0, b) :: (0, a) :: st) h = if a < b then EV d 22 11 L st h else EV d 22 15 L st h := (E_ic (m22 dX3_compares_8) (t := 15) rfl).trans cc_ge
theorem e22_11 {d : Nat} {L st : List AV} {h : AM} : EV d 22 11 L st h = EV d 22 12 L ((0, 1) :: st) h := G_iconst (m22 dX3_compares_11) (by decide)
theorem e22_12 {d : Nat} {L st : List AV} {h : AM} : EV d 22 12 L st h = EV d 22 16 L st h := G_goto (m22 dX3_compares_12) rfl
theorem e22_15 {d : Nat} {L st : List AV} {h : AM} : EV d 22 15 L st h = EV d 22 16 L ((0, 0) :: st) h := G_iconst (m22 dX3_compares_15) (by decide)
theorem e22_16 {d : Nat} {L : List AV} {h : AM} {v : Int} (hv : v = 0 ∨ v = 1) : EV d 22 16 L [(0, v)] h = some ((0, v), h) := E_iret (m22 dX3_compares_16) (by rw [rt22]; rcases hv with rfl | rfl <;> rfl)
theorem e22_17 {d : Nat} {l0 l2 : AV} {st : List AV} {h : AM} {x : Int} : EV d 22 17 [l0, (0, x), l2] st h = EV d 22 18 [l0, (0, x), l2] ((0, x) :: st) h := G_iload_n (m22 dX3_compares_17) rfl
theorem e22_18 {d : Nat} {L st : List AV} {h : AM} : EV d 22 18 L st h = EV d 22 20 L ((0, 62) :: st) h := G_bipush (m22 dX3_compares_18) (by decide)
theorem e22_20 {d : Nat} {L st : List AV} {h : AM} {a b : Int} : EV d 22 20 L ((0, b) :: (0, a) :: st) h = if a = b then EV d 22 23 L st h else EV d 22 36 L st h := (E_ic (m22 dX3_compares_20) (t := 36) rfl).trans cc_ne
theorem e22_23 {d : Nat} {l1 l2 : AV} {st : List AV} {h : AM} {x : Int} : EV d 22 23 [(0, x), l1, l2] st h = EV d 22 24 [(0, x), l1, l2] ((0, x) :: st) h := G_iload_n (m22 dX3_compares_23) rfl
theorem e22_24 {d : Nat} {l0 l1 : AV} {st : List AV} {h : AM} {x : Int} : EV d 22 24 [l0, l1, (0, x)] st h = EV d 22 25 [l0, l1, (0, x)] ((0, x) :: st) h := G_iload_n (m22 dX3_compares_24) rfl
theorem e22_25 {d : Nat} {L st : List AV} {h : AM} {a b : Int} : EV d 22 25 L ((0, b) :: (0, a) :: st) h = if b < a then EV d 22 28 L st h else EV d 22 32 L st h := (E_ic (m22 dX3_compares_25) (t := 32) rfl).trans cc_le
theorem e22_28 {d : Nat} {L st : List AV} {h : AM} : EV d 22 28 L st h = EV d 22 29 L ((0, 1) :: st) h := G_iconst (m22 dX3_compares_28) (by decide)
theorem e22_29 {d : Nat} {L st : List AV} {h : AM} : EV d 22 29 L st h = EV d 22 46 L st h := G_goto (m22 dX3_compares_29) rfl
theorem e22_32 {d : Nat} {L st : List AV} {h : AM} : EV d 22 32 L st h = EV d 22 33 L ((0, 0) :: st) h := G_iconst (m22 dX3_compares_32) (by decide)
theorem e22_33 {d : Nat} {L st : List AV} {h : AM} : EV d 22 33 L st h = EV d 22 46 L st h := G_goto (m22 dX3_compares_33) rfl
theorem e22_36 {d : Nat} {l1 l2 : AV} {st : List AV} {h : AM} {x : Int} : EV d 22 36 [(0, x), l1, l2] st h = EV d 22 37 [(0, x), l1, l2] ((0, x) :: st) h := G_iload_n (m22 dX3_compares_36) rfl
theorem e22_37 {d : Nat} {l0 l1 : AV} {st : List AV} {h : AM} {x : Int} : EV d 22 37 [l0, l1, (0, x)] st h = EV d 22 38 [l0, l1, (0, x)] ((0, x) :: st) h := G_iload_n (m22 dX3_compares_37) rfl
theorem e22_38 {d : Nat} {L st : List AV} {h : AM} {a b : Int} : EV d 22 38 L ((0, b) :: (0, a) :: st) h = if a = b then EV d 22 41 L st h else EV d 22 45 L st h := (E_ic (m22 dX3_compares_38) (t := 45) rfl).trans cc_ne
theorem e22_41 {d : Nat} {L st : List AV} {h : AM} : EV d 22 41 L st h = EV d 22 42 L ((0, 1) :: st) h := G_iconst (m22 dX3_compares_41) (by decide)
theorem e22_42 {d : Nat} {L st : List AV} {h : AM} : EV d 22 42 L st h = EV d 22 46 L st h := G_goto (m22 dX3_compares_42) rfl
theorem e22_45 {d : Nat} {L st : List AV} {h : AM} : EV d 22 45 L st h = EV d 22 46 L ((0, 0) :: st) h := G_iconst (m22 dX3_compares_45) (by decide)
theorem e22_46 {d : Nat} {L : List AV} {h : AM} {v : Int} (hv : v = 0 ∨ v = 1) : EV d 22 46 L [(0, v)] h = some ((0, v), h) := E_iret (m22 dX3_compares_46) (by rw [rt22]; rcases hv with rfl | rfl <;> rfl)
theorem e23_0 {d : Nat} {l0 l2 l3 : AV} {st : List AV} {h : AM} {x : Int} : EV d 23 0 [l0, (2, x), l2, l3] st h = EV d 23 1 [l0, (2, x), l2, l3] ((2, x) :: st) h := G_aload_n (m23 dX3_tryLearn_0) rfl
theorem e23_1 {d : Nat} {l0 l1 l2 : AV} {st : List AV} {h : AM} {x : Int} : EV d 23 1 [l0, l1, l2, (0, x)] st h = EV d 23 2 [l0, l1, l2, (0, x)] ((0, x) :: st) h := G_iload_n (m23 dX3_tryLearn_1) rfl
theorem e23_2 {d : Nat} {L st : List AV} {h : AM} {a : Int} : EV d 23 2 L ((0, a) :: st) h = EV d 23 3 L ((1, a) :: st) h := G_i2l (m23 dX3_tryLearn_2)
theorem e23_3 {d : Nat} {L st : List AV} {h : AM} {r p0 : Int} (hs : st.length ≤ 4) (hk : isK h r 6) : EV (d + 1) 23 3 L ((1, p0) :: (2, r) :: st) h = (EV d 64 0 [(2, r), (1, p0), (3, 1)] [] h).bind (fun q => EV (d + 1) 23 6 L (psh q.1 st) q.2) := G_cv [(1, p0)] (m23 dX3_tryLearn_3) ow23 tr_3_115 (by decide) td64 np64 ml64 ow64 rfl rfl (Nat.le_of_ble_eq_true rfl) rfl hs hk
theorem e23_6 {d : Nat} {L st : List AV} {h : AM} {a : Int} : EV d 23 6 L ((0, a) :: st) h = if a = 0 then EV d 23 49 L st h else EV d 23 9 L st h := (E_if (m23 dX3_tryLearn_6) (t := 49) rfl).trans cc_eq
theorem e23_9 {d : Nat} {l0 l2 l3 : AV} {st : List AV} {h : AM} {x : Int} : EV d 23 9 [l0, (2, x), l2, l3] st h = EV d 23 10 [l0, (2, x), l2, l3] ((2, x) :: st) h := G_aload_n (m23 dX3_tryLearn_9) rfl
theorem e23_10 {d : Nat} {l0 l1 l3 : AV} {st : List AV} {h : AM} {x : Int} : EV d 23 10 [l0, l1, (2, x), l3] st h = EV d 23 11 [l0, l1, (2, x), l3] ((2, x) :: st) h := G_aload_n (m23 dX3_tryLearn_10) rfl
theorem e23_11 {d : Nat} {L st : List AV} {h : AM} {r : Int} (hk : isK h r 1) : EV d 23 11 L ((2, r) :: st) h = EV d 23 14 L ((0, mrd h r 5) :: st) h := G_get (m23 dX3_tryLearn_11) ow23 tf_3_112 rfl rfl hk
theorem e23_14 {d : Nat} {l0 l1 l2 : AV} {st : List AV} {h : AM} {x : Int} : EV d 23 14 [l0, l1, l2, (0, x)] st h = EV d 23 15 [l0, l1, l2, (0, x)] ((0, x) :: st) h := G_iload_n (m23 dX3_tryLearn_14) rfl
theorem e23_15 {d : Nat} {L st : List AV} {h : AM} {r p0 p1 : Int} (hs : st.length ≤ 4) (hk : isK h r 6) : EV (d + 1) 23 15 L ((0, p1) :: (0, p0) :: (2, r) :: st) h = (EV d 68 0 [(2, r), (0, p0), (0, p1)] [] h).bind (fun q => EV (d + 1) 23 18 L (psh q.1 st) q.2) := G_cv [(0, p0), (0, p1)] (m23 dX3_tryLearn_15) ow23 tr_3_119 (by decide) td68 np68 ml68 ow68 rfl rfl (Nat.le_of_ble_eq_true rfl) rfl hs hk
theorem e23_18 {d : Nat} {L st : List AV} {h : AM} {a : Int} : EV d 23 18 L ((0, a) :: st) h = if a = 0 then EV d 23 49 L st h else EV d 23 21 L st h := (E_if (m23 dX3_tryLearn_18) (t := 49) rfl).trans cc_eq
theorem e23_21 {d : Nat} {l0 l2 l3 : AV} {st : List AV} {h : AM} {x : Int} : EV d 23 21 [l0, (2, x), l2, l3] st h = EV d 23 22 [l0, (2, x), l2, l3] ((2, x) :: st) h := G_aload_n (m23 dX3_tryLearn_21) rfl
theorem e23_22 {d : Nat} {l0 l1 l3 : AV} {st : List AV} {h : AM} {x : Int} : EV d 23 22 [l0, l1, (2, x), l3] st h = EV d 23 23 [l0, l1, (2, x), l3] ((2, x) :: st) h := G_aload_n (m23 dX3_tryLearn_22) rfl
theorem e23_23 {d : Nat} {l0 l1 l2 : AV} {st : List AV} {h : AM} {x : Int} : EV d 23 23 [l0, l1, l2, (0, x)] st h = EV d 23 24 [l0, l1, l2, (0, x)] ((0, x) :: st) h := G_iload_n (m23 dX3_tryLearn_23) rfl
theorem e23_24 {d : Nat} {L st : List AV} {h : AM} {r p0 p1 : Int} (hs : st.length ≤ 4) (hk : isK h r 6) : EV (d + 1) 23 24 L ((0, p1) :: (2, p0) :: (2, r) :: st) h = (EV d 69 0 [(2, r), (2, p0), (0, p1)] [] h).bind (fun q => EV (d + 1) 23 27 L (psh q.1 st) q.2) := G_cv [(2, p0), (0, p1)] (m23 dX3_tryLearn_24) ow23 tr_3_123 (by decide) td69 np69 ml69 ow69 rfl rfl (Nat.le_of_ble_eq_true rfl) rfl hs hk
theorem e23_27 {d : Nat} {L st : List AV} {h : AM} {a : Int} : EV d 23 27 L ((0, a) :: st) h = if a = 0 then EV d 23 49 L st h else EV d 23 30 L st h := (E_if (m23 dX3_tryLearn_27) (t := 49) rfl).trans cc_eq
theorem e23_30 {d : Nat} {l0 l2 l3 : AV} {st : List AV} {h : AM} {x : Int} : EV d 23 30 [l0, (2, x), l2, l3] st h = EV d 23 31 [l0, (2, x), l2, l3] ((2, x) :: st) h := G_aload_n (m23 dX3_tryLearn_30) rfl
theorem e23_31 {d : Nat} {l0 l1 l3 : AV} {st : List AV} {h : AM} {x : Int} : EV d 23 31 [l0, l1, (2, x), l3] st h = EV d 23 32 [l0, l1, (2, x), l3] ((2, x) :: st) h := G_aload_n (m23 dX3_tryLearn_31) rfl
theorem e23_32 {d : Nat} {l0 l1 l2 : AV} {st : List AV} {h : AM} {x : Int} : EV d 23 32 [l0, l1, l2, (0, x)] st h = EV d 23 33 [l0, l1, l2, (0, x)] ((0, x) :: st) h := G_iload_n (m23 dX3_tryLearn_32) rfl
theorem e23_33 {d : Nat} {L st : List AV} {h : AM} {r p0 p1 : Int} (hs : st.length ≤ 4) (hk : isK h r 6) : EV (d + 1) 23 33 L ((0, p1) :: (2, p0) :: (2, r) :: st) h = (EV d 72 0 [(2, r), (2, p0), (0, p1)] [] h).bind (fun q => EV (d + 1) 23 36 L (psh q.1 st) q.2) := G_cv [(2, p0), (0, p1)] (m23 dX3_tryLearn_33) ow23 tr_3_126 (by decide) td72 np72 ml72 ow72 rfl rfl (Nat.le_of_ble_eq_true rfl) rfl hs hk
theorem e23_36 {d : Nat} {l1 l2 l3 : AV} {st : List AV} {h : AM} {x : Int} : EV d 23 36 [(2, x), l1, l2, l3] st h = EV d 23 37 [(2, x), l1, l2, l3] ((2, x) :: st) h := G_aload_n (m23 dX3_tryLearn_36) rfl
theorem e23_37 {d : Nat} {L st : List AV} {h : AM} {a : Int} : EV d 23 37 L ((2, a) :: st) h = EV d 23 38 L ((2, a) :: (2, a) :: st) h := G_dup2r (m23 dX3_tryLearn_37)
theorem e23_37i {d : Nat} {L st : List AV} {h : AM} {a : Int} : EV d 23 37 L ((0, a) :: st) h = EV d 23 38 L ((0, a) :: (0, a) :: st) h := G_dupi (m23 dX3_tryLearn_37)
theorem e23_38 {d : Nat} {L st : List AV} {h : AM} {r : Int} (hk : isK h r 3) : EV d 23 38 L ((2, r) :: st) h = EV d 23 41 L ((0, mrd h r 3) :: st) h := G_get (m23 dX3_tryLearn_38) ow23 tf_3_22 rfl rfl hk
theorem e23_41 {d : Nat} {L st : List AV} {h : AM} : EV d 23 41 L st h = EV d 23 42 L ((0, 1) :: st) h := G_iconst (m23 dX3_tryLearn_41) (by decide)
theorem e23_42 {d : Nat} {L st : List AV} {h : AM} {a b : Int} : EV d 23 42 L ((0, b) :: (0, a) :: st) h = EV d 23 43 L ((0, w32 (a + b)) :: st) h := E_iadd (m23 dX3_tryLearn_42)
theorem pk_23_3_3 : pok 23 3 3 0 = true := by decide +kernel
theorem e23_43 {d : Nat} {L st : List AV} {h : AM} {r v : Int} (hk : isK h r 3) : EV d 23 43 L ((0, v) :: (2, r) :: st) h = EV d 23 46 L st (mwr h r 3 v) := G_put (m23 dX3_tryLearn_43) ow23 tf_3_22 pk_23_3_3 rfl hk
theorem e23_46 {d : Nat} {L st : List AV} {h : AM} : EV d 23 46 L st h = EV d 23 59 L st h := G_goto (m23 dX3_tryLearn_46) rfl
theorem e23_49 {d : Nat} {l1 l2 l3 : AV} {st : List AV} {h : AM} {x : Int} : EV d 23 49 [(2, x), l1, l2, l3] st h = EV d 23 50 [(2, x), l1, l2, l3] ((2, x) :: st) h := G_aload_n (m23 dX3_tryLearn_49) rfl
theorem e23_50 {d : Nat} {L st : List AV} {h : AM} {a : Int} : EV d 23 50 L ((2, a) :: st) h = EV d 23 51 L ((2, a) :: (2, a) :: st) h := G_dup2r (m23 dX3_tryLearn_50)
theorem e23_50i {d : Nat} {L st : List AV} {h : AM} {a : Int} : EV d 23 50 L ((0, a) :: st) h = EV d 23 51 L ((0, a) :: (0, a) :: st) h := G_dupi (m23 dX3_tryLearn_50)
theorem e23_51 {d : Nat} {L st : List AV} {h : AM} {r : Int} (hk : isK h r 3) : EV d 23 51 L ((2, r) :: st) h = EV d 23 54 L ((0, mrd h r 2) :: st) h := G_get (m23 dX3_tryLearn_51) ow23 tf_3_19 rfl rfl hk
theorem e23_54 {d : Nat} {L st : List AV} {h : AM} : EV d 23 54 L st h = EV d 23 55 L ((0, 1) :: st) h := G_iconst (m23 dX3_tryLearn_54) (by decide)
theorem e23_55 {d : Nat} {L st : List AV} {h : AM} {a b : Int} : EV d 23 55 L ((0, b) :: (0, a) :: st) h = EV d 23 56 L ((0, w32 (a + b)) :: st) h := E_iadd (m23 dX3_tryLearn_55)
theorem pk_23_3_2 : pok 23 3 2 0 = true := by decide +kernel
theorem e23_56 {d : Nat} {L st : List AV} {h : AM} {r v : Int} (hk : isK h r 3) : EV d 23 56 L ((0, v) :: (2, r) :: st) h = EV d 23 59 L st (mwr h r 2 v) := G_put (m23 dX3_tryLearn_56) ow23 tf_3_19 pk_23_3_2 rfl hk
theorem e23_59 {d : Nat} {L : List AV} {h : AM} : EV d 23 59 L [] h = some ((3, 0), h) := E_ret (m23 dX3_tryLearn_59) rt23
theorem e24_0 {d : Nat} {l0 l2 : AV} {st : List AV} {h : AM} {x : Int} : EV d 24 0 [l0, (2, x), l2] st h = EV d 24 1 [l0, (2, x), l2] ((2, x) :: st) h := G_aload_n (m24 dX3_tryLose_0) rfl
theorem e24_1 {d : Nat} {l0 l1 : AV} {st : List AV} {h : AM} {x : Int} : EV d 24 1 [l0, l1, (0, x)] st h = EV d 24 2 [l0, l1, (0, x)] ((0, x) :: st) h := G_iload_n (m24 dX3_tryLose_1) rfl
theorem e24_2 {d : Nat} {L st : List AV} {h : AM} {r p0 : Int} (hs : st.length ≤ 4) (hk : isK h r 1) : EV (d + 1) 24 2 L ((0, p0) :: (2, r) :: st) h = (EV d 11 0 [(2, r), (0, p0)] [] h).bind (fun q => EV (d + 1) 24 5 L (psh q.1 st) q.2) := G_cv [(0, p0)] (m24 dX3_tryLose_2) ow24 tr_3_129 (by decide) td11 np11 ml11 ow11 rfl rfl (Nat.le_of_ble_eq_true rfl) rfl hs hk
theorem e24_5 {d : Nat} {L st : List AV} {h : AM} {a : Int} : EV d 24 5 L ((0, a) :: st) h = if a = 0 then EV d 24 27 L st h else EV d 24 8 L st h := (E_if (m24 dX3_tryLose_5) (t := 27) rfl).trans cc_eq
theorem e24_8 {d : Nat} {l0 l2 : AV} {st : List AV} {h : AM} {x : Int} : EV d 24 8 [l0, (2, x), l2] st h = EV d 24 9 [l0, (2, x), l2] ((2, x) :: st) h := G_aload_n (m24 dX3_tryLose_8) rfl
theorem e24_9 {d : Nat} {l0 l1 : AV} {st : List AV} {h : AM} {x : Int} : EV d 24 9 [l0, l1, (0, x)] st h = EV d 24 10 [l0, l1, (0, x)] ((0, x) :: st) h := G_iload_n (m24 dX3_tryLose_9) rfl
theorem e24_10 {d : Nat} {L st : List AV} {h : AM} {r p0 : Int} (hs : st.length ≤ 4) (hk : isK h r 1) : EV (d + 1) 24 10 L ((0, p0) :: (2, r) :: st) h = (EV d 13 0 [(2, r), (0, p0), (3, 0), (3, 0)] [] h).bind (fun q => EV (d + 1) 24 13 L (psh q.1 st) q.2) := G_cv [(0, p0)] (m24 dX3_tryLose_10) ow24 tr_3_132 (by decide) td13 np13 ml13 ow13 rfl rfl (Nat.le_of_ble_eq_true rfl) rfl hs hk
theorem e24_13 {d : Nat} {L st : List AV} {h : AM} {a : Int} : EV d 24 13 L ((0, a) :: st) h = EV d 24 14 L st h := G_pop (m24 dX3_tryLose_13)
theorem e24_13r {d : Nat} {L st : List AV} {h : AM} {a : Int} : EV d 24 13 L ((2, a) :: st) h = EV d 24 14 L st h := G_popr (m24 dX3_tryLose_13)
theorem e24_14 {d : Nat} {l1 l2 : AV} {st : List AV} {h : AM} {x : Int} : EV d 24 14 [(2, x), l1, l2] st h = EV d 24 15 [(2, x), l1, l2] ((2, x) :: st) h := G_aload_n (m24 dX3_tryLose_14) rfl
theorem e24_15 {d : Nat} {L st : List AV} {h : AM} {a : Int} : EV d 24 15 L ((2, a) :: st) h = EV d 24 16 L ((2, a) :: (2, a) :: st) h := G_dup2r (m24 dX3_tryLose_15)
theorem e24_15i {d : Nat} {L st : List AV} {h : AM} {a : Int} : EV d 24 15 L ((0, a) :: st) h = EV d 24 16 L ((0, a) :: (0, a) :: st) h := G_dupi (m24 dX3_tryLose_15)
theorem e24_16 {d : Nat} {L st : List AV} {h : AM} {r : Int} (hk : isK h r 3) : EV d 24 16 L ((2, r) :: st) h = EV d 24 19 L ((0, mrd h r 4) :: st) h := G_get (m24 dX3_tryLose_16) ow24 tf_3_25 rfl rfl hk
theorem e24_19 {d : Nat} {L st : List AV} {h : AM} : EV d 24 19 L st h = EV d 24 20 L ((0, 1) :: st) h := G_iconst (m24 dX3_tryLose_19) (by decide)
theorem e24_20 {d : Nat} {L st : List AV} {h : AM} {a b : Int} : EV d 24 20 L ((0, b) :: (0, a) :: st) h = EV d 24 21 L ((0, w32 (a + b)) :: st) h := E_iadd (m24 dX3_tryLose_20)
theorem pk_24_3_4 : pok 24 3 4 0 = true := by decide +kernel
theorem e24_21 {d : Nat} {L st : List AV} {h : AM} {r v : Int} (hk : isK h r 3) : EV d 24 21 L ((0, v) :: (2, r) :: st) h = EV d 24 24 L st (mwr h r 4 v) := G_put (m24 dX3_tryLose_21) ow24 tf_3_25 pk_24_3_4 rfl hk
theorem e24_24 {d : Nat} {L st : List AV} {h : AM} : EV d 24 24 L st h = EV d 24 37 L st h := G_goto (m24 dX3_tryLose_24) rfl
theorem e24_27 {d : Nat} {l1 l2 : AV} {st : List AV} {h : AM} {x : Int} : EV d 24 27 [(2, x), l1, l2] st h = EV d 24 28 [(2, x), l1, l2] ((2, x) :: st) h := G_aload_n (m24 dX3_tryLose_27) rfl
theorem e24_28 {d : Nat} {L st : List AV} {h : AM} {a : Int} : EV d 24 28 L ((2, a) :: st) h = EV d 24 29 L ((2, a) :: (2, a) :: st) h := G_dup2r (m24 dX3_tryLose_28)
theorem e24_28i {d : Nat} {L st : List AV} {h : AM} {a : Int} : EV d 24 28 L ((0, a) :: st) h = EV d 24 29 L ((0, a) :: (0, a) :: st) h := G_dupi (m24 dX3_tryLose_28)
theorem e24_29 {d : Nat} {L st : List AV} {h : AM} {r : Int} (hk : isK h r 3) : EV d 24 29 L ((2, r) :: st) h = EV d 24 32 L ((0, mrd h r 2) :: st) h := G_get (m24 dX3_tryLose_29) ow24 tf_3_19 rfl rfl hk
theorem e24_32 {d : Nat} {L st : List AV} {h : AM} : EV d 24 32 L st h = EV d 24 33 L ((0, 1) :: st) h := G_iconst (m24 dX3_tryLose_32) (by decide)
theorem e24_33 {d : Nat} {L st : List AV} {h : AM} {a b : Int} : EV d 24 33 L ((0, b) :: (0, a) :: st) h = EV d 24 34 L ((0, w32 (a + b)) :: st) h := E_iadd (m24 dX3_tryLose_33)
theorem pk_24_3_2 : pok 24 3 2 0 = true := by decide +kernel
theorem e24_34 {d : Nat} {L st : List AV} {h : AM} {r v : Int} (hk : isK h r 3) : EV d 24 34 L ((0, v) :: (2, r) :: st) h = EV d 24 37 L st (mwr h r 2 v) := G_put (m24 dX3_tryLose_34) ow24 tf_3_19 pk_24_3_2 rfl hk
theorem e24_37 {d : Nat} {L : List AV} {h : AM} : EV d 24 37 L [] h = some ((3, 0), h) := E_ret (m24 dX3_tryLose_37) rt24
theorem e25_0 {d : Nat} {l1 l2 l3 l4 : AV} {st : List AV} {h : AM} {x : Int} : EV d 25 0 [(2, x), l1, l2, l3, l4] st h = EV d 25 1 [(2, x), l1, l2, l3, l4] ((2, x) :: st) h := G_aload_n (m25 dX3_meetFate_0) rfl
theorem e25_1 {d : Nat} {L st : List AV} {h : AM} : EV d 25 1 L st h = EV d 25 3 L ((0, 16) :: st) h := G_bipush (m25 dX3_meetFate_1) (by decide)
theorem e25_3 {d : Nat} {L st : List AV} {h : AM} {r p0 : Int} (hs : st.length ≤ 4) (hk : isK h r 3) : EV (d + 1) 25 3 L ((0, p0) :: (2, r) :: st) h = (EV d 26 0 [(2, r), (0, p0)] [] h).bind (fun q => EV (d + 1) 25 6 L (psh q.1 st) q.2) := G_cv [(0, p0)] (m25 dX3_meetFate_3) ow25 tr_3_136 (by decide) td26 np26 ml26 ow26 rfl rfl (Nat.le_of_ble_eq_true rfl) rfl hs hk
theorem e25_6 {d : Nat} {l0 l1 l2 l3 l4 : AV} {st : List AV} {h : AM} {x : Int} : EV d 25 6 [l0, l1, l2, l3, l4] ((0, x) :: st) h = EV d 25 7 [l0, l1, l2, (0, x), l4] st h := G_istore_n (m25 dX3_meetFate_6) (Nat.le_of_ble_eq_true rfl) rfl
theorem e25_7 {d : Nat} {l0 l1 l2 l4 : AV} {st : List AV} {h : AM} {x : Int} : EV d 25 7 [l0, l1, l2, (0, x), l4] st h = EV d 25 8 [l0, l1, l2, (0, x), l4] ((0, x) :: st) h := G_iload_n (m25 dX3_meetFate_7) rfl
theorem e25_8 {d : Nat} {L st : List AV} {h : AM} : EV d 25 8 L st h = EV d 25 10 L ((0, 8) :: st) h := G_bipush (m25 dX3_meetFate_8) (by decide)
theorem e25_10 {d : Nat} {L st : List AV} {h : AM} {a b : Int} : EV d 25 10 L ((0, b) :: (0, a) :: st) h = if a < b then EV d 25 13 L st h else EV d 25 27 L st h := (E_ic (m25 dX3_meetFate_10) (t := 27) rfl).trans cc_ge
theorem e25_13 {d : Nat} {l1 l2 l3 l4 : AV} {st : List AV} {h : AM} {x : Int} : EV d 25 13 [(2, x), l1, l2, l3, l4] st h = EV d 25 14 [(2, x), l1, l2, l3, l4] ((2, x) :: st) h := G_aload_n (m25 dX3_meetFate_13) rfl
theorem e25_14 {d : Nat} {l0 l2 l3 l4 : AV} {st : List AV} {h : AM} {x : Int} : EV d 25 14 [l0, (2, x), l2, l3, l4] st h = EV d 25 15 [l0, (2, x), l2, l3, l4] ((2, x) :: st) h := G_aload_n (m25 dX3_meetFate_14) rfl
theorem e25_15 {d : Nat} {l0 l1 l3 l4 : AV} {st : List AV} {h : AM} {x : Int} : EV d 25 15 [l0, l1, (2, x), l3, l4] st h = EV d 25 16 [l0, l1, (2, x), l3, l4] ((2, x) :: st) h := G_aload_n (m25 dX3_meetFate_15) rfl
theorem e25_16 {d : Nat} {l0 l2 l3 l4 : AV} {st : List AV} {h : AM} {x : Int} : EV d 25 16 [l0, (2, x), l2, l3, l4] st h = EV d 25 17 [l0, (2, x), l2, l3, l4] ((2, x) :: st) h := G_aload_n (m25 dX3_meetFate_16) rfl
theorem e25_17 {d : Nat} {l0 l1 l3 l4 : AV} {st : List AV} {h : AM} {x : Int} : EV d 25 17 [l0, l1, (2, x), l3, l4] st h = EV d 25 18 [l0, l1, (2, x), l3, l4] ((2, x) :: st) h := G_aload_n (m25 dX3_meetFate_17) rfl
theorem e25_18 {d : Nat} {L st : List AV} {h : AM} {r p0 : Int} (hs : st.length ≤ 4) (hk : isK h r 6) : EV (d + 1) 25 18 L ((2, p0) :: (2, r) :: st) h = (EV d 73 0 [(2, r), (2, p0), (3, 0), (3, 0), (3, 0), (3, 0), (3, 0)] [] h).bind (fun q => EV (d + 1) 25 21 L (psh q.1 st) q.2) := G_cv [(2, p0)] (m25 dX3_meetFate_18) ow25 tr_3_139 (by decide) td73 np73 ml73 ow73 rfl rfl (Nat.le_of_ble_eq_true rfl) rfl hs hk
theorem e25_21 {d : Nat} {L st : List AV} {h : AM} {r p0 p1 p2 : Int} (hs : st.length ≤ 4) (hk : isK h r 3) : EV (d + 1) 25 21 L ((0, p2) :: (2, p1) :: (2, p0) :: (2, r) :: st) h = (EV d 23 0 [(2, r), (2, p0), (2, p1), (0, p2)] [] h).bind (fun q => EV (d + 1) 25 24 L (psh q.1 st) q.2) := G_cv [(2, p0), (2, p1), (0, p2)] (m25 dX3_meetFate_21) ow25 tr_3_73 (by decide) td23 np23 ml23 ow23 rfl rfl (Nat.le_of_ble_eq_true rfl) rfl hs hk
theorem e25_24 {d : Nat} {L st : List AV} {h : AM} : EV d 25 24 L st h = EV d 25 77 L st h := G_goto (m25 dX3_meetFate_24) rfl
theorem e25_27 {d : Nat} {l0 l1 l2 l4 : AV} {st : List AV} {h : AM} {x : Int} : EV d 25 27 [l0, l1, l2, (0, x), l4] st h = EV d 25 28 [l0, l1, l2, (0, x), l4] ((0, x) :: st) h := G_iload_n (m25 dX3_meetFate_27) rfl
theorem e25_28 {d : Nat} {L st : List AV} {h : AM} : EV d 25 28 L st h = EV d 25 30 L ((0, 14) :: st) h := G_bipush (m25 dX3_meetFate_28) (by decide)
theorem e25_30 {d : Nat} {L st : List AV} {h : AM} {a b : Int} : EV d 25 30 L ((0, b) :: (0, a) :: st) h = if a < b then EV d 25 33 L st h else EV d 25 64 L st h := (E_ic (m25 dX3_meetFate_30) (t := 64) rfl).trans cc_ge
theorem e25_33 {d : Nat} {l0 l2 l3 l4 : AV} {st : List AV} {h : AM} {x : Int} : EV d 25 33 [l0, (2, x), l2, l3, l4] st h = EV d 25 34 [l0, (2, x), l2, l3, l4] ((2, x) :: st) h := G_aload_n (m25 dX3_meetFate_33) rfl
theorem e25_34 {d : Nat} {l0 l1 l3 l4 : AV} {st : List AV} {h : AM} {x : Int} : EV d 25 34 [l0, l1, (2, x), l3, l4] st h = EV d 25 35 [l0, l1, (2, x), l3, l4] ((2, x) :: st) h := G_aload_n (m25 dX3_meetFate_34) rfl
theorem e25_35 {d : Nat} {L st : List AV} {h : AM} : EV d 25 35 L st h = EV d 25 36 L ((0, 1) :: st) h := G_iconst (m25 dX3_meetFate_35) (by decide)
theorem e25_36 {d : Nat} {L st : List AV} {h : AM} {r p0 p1 : Int} (hs : st.length ≤ 4) (hk : isK h r 6) : EV (d + 1) 25 36 L ((0, p1) :: (2, p0) :: (2, r) :: st) h = (EV d 71 0 [(2, r), (2, p0), (0, p1), (3, 0), (3, 0)] [] h).bind (fun q => EV (d + 1) 25 39 L (psh q.1 st) q.2) := G_cv [(2, p0), (0, p1)] (m25 dX3_meetFate_36) ow25 tr_3_143 (by decide) td71 np71 ml71 ow71 rfl rfl (Nat.le_of_ble_eq_true rfl) rfl hs hk
theorem e25_39 {d : Nat} {l0 l1 l2 l3 l4 : AV} {st : List AV} {h : AM} {x : Int} : EV d 25 39 [l0, l1, l2, l3, l4] ((0, x) :: st) h = EV d 25 41 [l0, l1, l2, l3, (0, x)] st h := G_istore (m25 dX3_meetFate_39) (Nat.le_of_ble_eq_true rfl) rfl
theorem e25_41 {d : Nat} {l1 l2 l3 l4 : AV} {st : List AV} {h : AM} {x : Int} : EV d 25 41 [(2, x), l1, l2, l3, l4] st h = EV d 25 42 [(2, x), l1, l2, l3, l4] ((2, x) :: st) h := G_aload_n (m25 dX3_meetFate_41) rfl
theorem e25_42 {d : Nat} {l0 l2 l3 l4 : AV} {st : List AV} {h : AM} {x : Int} : EV d 25 42 [l0, (2, x), l2, l3, l4] st h = EV d 25 43 [l0, (2, x), l2, l3, l4] ((2, x) :: st) h := G_aload_n (m25 dX3_meetFate_42) rfl
theorem e25_43 {d : Nat} {l0 l1 l3 l4 : AV} {st : List AV} {h : AM} {x : Int} : EV d 25 43 [l0, l1, (2, x), l3, l4] st h = EV d 25 44 [l0, l1, (2, x), l3, l4] ((2, x) :: st) h := G_aload_n (m25 dX3_meetFate_43) rfl
theorem e25_44 {d : Nat} {l0 l1 l2 l3 : AV} {st : List AV} {h : AM} {x : Int} : EV d 25 44 [l0, l1, l2, l3, (0, x)] st h = EV d 25 46 [l0, l1, l2, l3, (0, x)] ((0, x) :: st) h := G_iload (m25 dX3_meetFate_44) rfl
theorem e25_46 {d : Nat} {l1 l2 l3 l4 : AV} {st : List AV} {h : AM} {x : Int} : EV d 25 46 [(2, x), l1, l2, l3, l4] st h = EV d 25 47 [(2, x), l1, l2, l3, l4] ((2, x) :: st) h := G_aload_n (m25 dX3_meetFate_46) rfl
theorem e25_47 {d : Nat} {l0 l1 l2 l3 : AV} {st : List AV} {h : AM} {x : Int} : EV d 25 47 [l0, l1, l2, l3, (0, x)] st h = EV d 25 49 [l0, l1, l2, l3, (0, x)] ((0, x) :: st) h := G_iload (m25 dX3_meetFate_47) rfl
theorem e25_49 {d : Nat} {L st : List AV} {h : AM} {p0 : Int} (hs : st.length ≤ 4) : EV (d + 1) 25 49 L ((0, p0) :: st) h = (EV d 327 0 [(0, p0)] [] h).bind (fun q => EV (d + 1) 25 52 L (psh q.1 st) q.2) := G_cs [(0, p0)] (m25 dX3_meetFate_49) ow25 tr_3_147 (by decide) td327 np327 ml327 rfl rfl (Nat.le_of_ble_eq_true rfl) rfl hs
theorem e25_52 {d : Nat} {L st : List AV} {h : AM} {r p0 : Int} (hs : st.length ≤ 4) (hk : isK h r 3) : EV (d + 1) 25 52 L ((0, p0) :: (2, r) :: st) h = (EV d 26 0 [(2, r), (0, p0)] [] h).bind (fun q => EV (d + 1) 25 55 L (psh q.1 st) q.2) := G_cv [(0, p0)] (m25 dX3_meetFate_52) ow25 tr_3_136 (by decide) td26 np26 ml26 ow26 rfl rfl (Nat.le_of_ble_eq_true rfl) rfl hs hk
theorem e25_55 {d : Nat} {L st : List AV} {h : AM} {p0 p1 : Int} (hs : st.length ≤ 4) : EV (d + 1) 25 55 L ((0, p1) :: (0, p0) :: st) h = (EV d 27 0 [(0, p0), (0, p1), (3, 0), (3, 0)] [] h).bind (fun q => EV (d + 1) 25 58 L (psh q.1 st) q.2) := G_cs [(0, p0), (0, p1)] (m25 dX3_meetFate_55) ow25 tr_3_152 (by decide) td27 np27 ml27 rfl rfl (Nat.le_of_ble_eq_true rfl) rfl hs
theorem e25_58 {d : Nat} {L st : List AV} {h : AM} {r p0 p1 p2 : Int} (hs : st.length ≤ 4) (hk : isK h r 3) : EV (d + 1) 25 58 L ((0, p2) :: (2, p1) :: (2, p0) :: (2, r) :: st) h = (EV d 23 0 [(2, r), (2, p0), (2, p1), (0, p2)] [] h).bind (fun q => EV (d + 1) 25 61 L (psh q.1 st) q.2) := G_cv [(2, p0), (2, p1), (0, p2)] (m25 dX3_meetFate_58) ow25 tr_3_73 (by decide) td23 np23 ml23 ow23 rfl rfl (Nat.le_of_ble_eq_true rfl) rfl hs hk
theorem e25_61 {d : Nat} {L st : List AV} {h : AM} : EV d 25 61 L st h = EV d 25 77 L st h := G_goto (m25 dX3_meetFate_61) rfl
theorem e25_64 {d : Nat} {l1 l2 l3 l4 : AV} {st : List AV} {h : AM} {x : Int} : EV d 25 64 [(2, x), l1, l2, l3, l4] st h = EV d 25 65 [(2, x), l1, l2, l3, l4] ((2, x) :: st) h := G_aload_n (m25 dX3_meetFate_64) rfl
theorem e25_65 {d : Nat} {l0 l1 l3 l4 : AV} {st : List AV} {h : AM} {x : Int} : EV d 25 65 [l0, l1, (2, x), l3, l4] st h = EV d 25 66 [l0, l1, (2, x), l3, l4] ((2, x) :: st) h := G_aload_n (m25 dX3_meetFate_65) rfl
theorem e25_66 {d : Nat} {l1 l2 l3 l4 : AV} {st : List AV} {h : AM} {x : Int} : EV d 25 66 [(2, x), l1, l2, l3, l4] st h = EV d 25 67 [(2, x), l1, l2, l3, l4] ((2, x) :: st) h := G_aload_n (m25 dX3_meetFate_66) rfl
theorem e25_67 {d : Nat} {l0 l1 l3 l4 : AV} {st : List AV} {h : AM} {x : Int} : EV d 25 67 [l0, l1, (2, x), l3, l4] st h = EV d 25 68 [l0, l1, (2, x), l3, l4] ((2, x) :: st) h := G_aload_n (m25 dX3_meetFate_67) rfl
theorem e25_68 {d : Nat} {L st : List AV} {h : AM} {r : Int} (hk : isK h r 1) : EV d 25 68 L ((2, r) :: st) h = EV d 25 71 L ((0, mrd h r 6) :: st) h := G_get (m25 dX3_meetFate_68) ow25 tf_3_98 rfl rfl hk
theorem e25_71 {d : Nat} {L st : List AV} {h : AM} {r p0 : Int} (hs : st.length ≤ 4) (hk : isK h r 3) : EV (d + 1) 25 71 L ((0, p0) :: (2, r) :: st) h = (EV d 26 0 [(2, r), (0, p0)] [] h).bind (fun q => EV (d + 1) 25 74 L (psh q.1 st) q.2) := G_cv [(0, p0)] (m25 dX3_meetFate_71) ow25 tr_3_136 (by decide) td26 np26 ml26 ow26 rfl rfl (Nat.le_of_ble_eq_true rfl) rfl hs hk
theorem e25_74 {d : Nat} {L st : List AV} {h : AM} {r p0 p1 : Int} (hs : st.length ≤ 4) (hk : isK h r 3) : EV (d + 1) 25 74 L ((0, p1) :: (2, p0) :: (2, r) :: st) h = (EV d 24 0 [(2, r), (2, p0), (0, p1)] [] h).bind (fun q => EV (d + 1) 25 77 L (psh q.1 st) q.2) := G_cv [(2, p0), (0, p1)] (m25 dX3_meetFate_74) ow25 tr_3_77 (by decide) td24 np24 ml24 ow24 rfl rfl (Nat.le_of_ble_eq_true rfl) rfl hs hk
theorem e25_77 {d : Nat} {L : List AV} {h : AM} : EV d 25 77 L [] h = some ((3, 0), h) := E_ret (m25 dX3_meetFate_77) rt25
theorem e26_0 {d : Nat} {l0 : AV} {st : List AV} {h : AM} {x : Int} : EV d 26 0 [l0, (0, x)] st h = EV d 26 1 [l0, (0, x)] ((0, x) :: st) h := G_iload_n (m26 dX3_draw_0) rfl
theorem e26_1 {d : Nat} {L st : List AV} {h : AM} {a : Int} : EV d 26 1 L ((0, a) :: st) h = if 0 < a then EV d 26 6 L st h else EV d 26 4 L st h := (E_if (m26 dX3_draw_1) (t := 6) rfl).trans cc_gt
theorem e26_4 {d : Nat} {L st : List AV} {h : AM} : EV d 26 4 L st h = EV d 26 5 L ((0, -1) :: st) h := G_iconst (m26 dX3_draw_4) (by decide)
theorem e26_5 {d : Nat} {L : List AV} {h : AM} {v : Int} : EV d 26 5 L [(0, v)] h = some ((0, v), h) := E_iret (m26 dX3_draw_5) (by rw [rt26]; rfl)
theorem e26_6 {d : Nat} {l1 : AV} {st : List AV} {h : AM} {x : Int} : EV d 26 6 [(2, x), l1] st h = EV d 26 7 [(2, x), l1] ((2, x) :: st) h := G_aload_n (m26 dX3_draw_6) rfl
theorem e26_7 {d : Nat} {l1 : AV} {st : List AV} {h : AM} {x : Int} : EV d 26 7 [(2, x), l1] st h = EV d 26 8 [(2, x), l1] ((2, x) :: st) h := G_aload_n (m26 dX3_draw_7) rfl
theorem e26_8 {d : Nat} {L st : List AV} {h : AM} {r : Int} (hk : isK h r 3) : EV d 26 8 L ((2, r) :: st) h = EV d 26 11 L ((0, mrd h r 7) :: st) h := G_get (m26 dX3_draw_8) ow26 tf_3_34 rfl rfl hk
theorem e26_11 {d : Nat} {L st : List AV} {h : AM} : EV d 26 11 L st h = EV d 26 14 L ((0, 2887) :: st) h := G_sipush (m26 dX3_draw_11) (by decide)
theorem e26_14 {d : Nat} {L st : List AV} {h : AM} {a b : Int} : EV d 26 14 L ((0, b) :: (0, a) :: st) h = EV d 26 15 L ((0, w32 (a * b)) :: st) h := E_imul (m26 dX3_draw_14)
theorem e26_15 {d : Nat} {L st : List AV} {h : AM} : EV d 26 15 L st h = EV d 26 18 L ((0, 10477) :: st) h := G_sipush (m26 dX3_draw_15) (by decide)
theorem e26_18 {d : Nat} {L st : List AV} {h : AM} {a b : Int} : EV d 26 18 L ((0, b) :: (0, a) :: st) h = EV d 26 19 L ((0, w32 (a + b)) :: st) h := E_iadd (m26 dX3_draw_18)
theorem e26_19 {d : Nat} {L st : List AV} {h : AM} : EV d 26 19 L st h = EV d 26 21 L ((0, 65536) :: st) h := G_ldc (m26 dX3_draw_19) ow26 (by decide) tc_3_156 (by decide)
theorem e26_21 {d : Nat} {L st : List AV} {h : AM} {a b : Int} (hb : b ≠ 0) : EV d 26 21 L ((0, b) :: (0, a) :: st) h = EV d 26 22 L ((0, i_rem a b) :: st) h := E_irem (m26 dX3_draw_21) hb
theorem pk_26_3_7 : pok 26 3 7 0 = true := by decide +kernel
theorem e26_22 {d : Nat} {L st : List AV} {h : AM} {r v : Int} (hk : isK h r 3) : EV d 26 22 L ((0, v) :: (2, r) :: st) h = EV d 26 25 L st (mwr h r 7 v) := G_put (m26 dX3_draw_22) ow26 tf_3_34 pk_26_3_7 rfl hk
theorem e26_25 {d : Nat} {l1 : AV} {st : List AV} {h : AM} {x : Int} : EV d 26 25 [(2, x), l1] st h = EV d 26 26 [(2, x), l1] ((2, x) :: st) h := G_aload_n (m26 dX3_draw_25) rfl
theorem e26_26 {d : Nat} {L st : List AV} {h : AM} {r : Int} (hk : isK h r 3) : EV d 26 26 L ((2, r) :: st) h = EV d 26 29 L ((0, mrd h r 7) :: st) h := G_get (m26 dX3_draw_26) ow26 tf_3_34 rfl rfl hk
theorem e26_29 {d : Nat} {L st : List AV} {h : AM} : EV d 26 29 L st h = EV d 26 31 L ((0, 8) :: st) h := G_bipush (m26 dX3_draw_29) (by decide)
theorem e26_31 {d : Nat} {L st : List AV} {h : AM} {a b : Int} (hb : b ≠ 0) : EV d 26 31 L ((0, b) :: (0, a) :: st) h = EV d 26 32 L ((0, i_div a b) :: st) h := E_idiv (m26 dX3_draw_31) hb
theorem e26_32 {d : Nat} {l0 : AV} {st : List AV} {h : AM} {x : Int} : EV d 26 32 [l0, (0, x)] st h = EV d 26 33 [l0, (0, x)] ((0, x) :: st) h := G_iload_n (m26 dX3_draw_32) rfl
theorem e26_33 {d : Nat} {L st : List AV} {h : AM} {a b : Int} (hb : b ≠ 0) : EV d 26 33 L ((0, b) :: (0, a) :: st) h = EV d 26 34 L ((0, i_rem a b) :: st) h := E_irem (m26 dX3_draw_33) hb
theorem e26_34 {d : Nat} {L : List AV} {h : AM} {v : Int} : EV d 26 34 L [(0, v)] h = some ((0, v), h) := E_iret (m26 dX3_draw_34) (by rw [rt26]; rfl)
theorem e27_0 {d : Nat} {l0 l2 l3 : AV} {st : List AV} {h : AM} {x : Int} : EV d 27 0 [l0, (0, x), l2, l3] st h = EV d 27 1 [l0, (0, x), l2, l3] ((0, x) :: st) h := G_iload_n (m27 dX3_memberOf_0) rfl
theorem e27_1 {d : Nat} {l0 l1 l2 l3 : AV} {st : List AV} {h : AM} {x : Int} : EV d 27 1 [l0, l1, l2, l3] ((0, x) :: st) h = EV d 27 2 [l0, l1, (0, x), l3] st h := G_istore_n (m27 dX3_memberOf_1) (Nat.le_of_ble_eq_true rfl) rfl
theorem e27_2 {d : Nat} {L st : List AV} {h : AM} : EV d 27 2 L st h = EV d 27 3 L ((0, 0) :: st) h := G_iconst (m27 dX3_memberOf_2) (by decide)
theorem e27_3 {d : Nat} {l0 l1 l2 l3 : AV} {st : List AV} {h : AM} {x : Int} : EV d 27 3 [l0, l1, l2, l3] ((0, x) :: st) h = EV d 27 4 [l0, l1, l2, (0, x)] st h := G_istore_n (m27 dX3_memberOf_3) (Nat.le_of_ble_eq_true rfl) rfl
theorem e27_4 {d : Nat} {l0 l1 l2 : AV} {st : List AV} {h : AM} {x : Int} : EV d 27 4 [l0, l1, l2, (0, x)] st h = EV d 27 5 [l0, l1, l2, (0, x)] ((0, x) :: st) h := G_iload_n (m27 dX3_memberOf_4) rfl
theorem e27_5 {d : Nat} {L st : List AV} {h : AM} : EV d 27 5 L st h = EV d 27 7 L ((0, 12) :: st) h := G_bipush (m27 dX3_memberOf_5) (by decide)
theorem e27_7 {d : Nat} {L st : List AV} {h : AM} {a b : Int} : EV d 27 7 L ((0, b) :: (0, a) :: st) h = if a < b then EV d 27 10 L st h else EV d 27 37 L st h := (E_ic (m27 dX3_memberOf_7) (t := 37) rfl).trans cc_ge
theorem e27_10 {d : Nat} {l0 l1 l3 : AV} {st : List AV} {h : AM} {x : Int} : EV d 27 10 [l0, l1, (0, x), l3] st h = EV d 27 11 [l0, l1, (0, x), l3] ((0, x) :: st) h := G_iload_n (m27 dX3_memberOf_10) rfl
theorem e27_11 {d : Nat} {L st : List AV} {h : AM} {a : Int} : EV d 27 11 L ((0, a) :: st) h = if a < 0 then EV d 27 37 L st h else EV d 27 14 L st h := (E_if (m27 dX3_memberOf_11) (t := 37) rfl).trans cc_lt
theorem e27_14 {d : Nat} {l1 l2 l3 : AV} {st : List AV} {h : AM} {x : Int} : EV d 27 14 [(0, x), l1, l2, l3] st h = EV d 27 15 [(0, x), l1, l2, l3] ((0, x) :: st) h := G_iload_n (m27 dX3_memberOf_14) rfl
theorem e27_15 {d : Nat} {L st : List AV} {h : AM} : EV d 27 15 L st h = EV d 27 16 L ((0, 1) :: st) h := G_iconst (m27 dX3_memberOf_15) (by decide)
theorem e27_16 {d : Nat} {l0 l1 l2 : AV} {st : List AV} {h : AM} {x : Int} : EV d 27 16 [l0, l1, l2, (0, x)] st h = EV d 27 17 [l0, l1, l2, (0, x)] ((0, x) :: st) h := G_iload_n (m27 dX3_memberOf_16) rfl
theorem e27_17 {d : Nat} {L st : List AV} {h : AM} {a b : Int} : EV d 27 17 L ((0, b) :: (0, a) :: st) h = EV d 27 18 L ((0, i_shl a b) :: st) h := E_ishl (m27 dX3_memberOf_17)
theorem e27_18 {d : Nat} {L st : List AV} {h : AM} {a b : Int} : EV d 27 18 L ((0, b) :: (0, a) :: st) h = EV d 27 19 L ((0, i_and a b) :: st) h := E_iand (m27 dX3_memberOf_18)
theorem e27_19 {d : Nat} {L st : List AV} {h : AM} {a : Int} : EV d 27 19 L ((0, a) :: st) h = if a = 0 then EV d 27 31 L st h else EV d 27 22 L st h := (E_if (m27 dX3_memberOf_19) (t := 31) rfl).trans cc_eq
theorem e27_22 {d : Nat} {l0 l1 l3 : AV} {st : List AV} {h : AM} {x : Int} : EV d 27 22 [l0, l1, (0, x), l3] st h = EV d 27 23 [l0, l1, (0, x), l3] ((0, x) :: st) h := G_iload_n (m27 dX3_memberOf_22) rfl
theorem e27_23 {d : Nat} {L st : List AV} {h : AM} {a : Int} : EV d 27 23 L ((0, a) :: st) h = if a = 0 then EV d 27 26 L st h else EV d 27 28 L st h := (E_if (m27 dX3_memberOf_23) (t := 28) rfl).trans cc_ne
theorem e27_26 {d : Nat} {l0 l1 l2 : AV} {st : List AV} {h : AM} {x : Int} : EV d 27 26 [l0, l1, l2, (0, x)] st h = EV d 27 27 [l0, l1, l2, (0, x)] ((0, x) :: st) h := G_iload_n (m27 dX3_memberOf_26) rfl
theorem e27_27 {d : Nat} {L : List AV} {h : AM} {v : Int} : EV d 27 27 L [(0, v)] h = some ((0, v), h) := E_iret (m27 dX3_memberOf_27) (by rw [rt27]; rfl)
theorem e27_28 {d : Nat} {l0 l1 l3 : AV} {st : List AV} {h : AM} {x : Int} : EV d 27 28 [l0, l1, (0, x), l3] st h = EV d 27 31 [l0, l1, (0, w32 (x + (-1))), l3] st h := G_iinc (m27 dX3_memberOf_28) rfl rfl
theorem e27_31 {d : Nat} {l0 l1 l2 : AV} {st : List AV} {h : AM} {x : Int} : EV d 27 31 [l0, l1, l2, (0, x)] st h = EV d 27 34 [l0, l1, l2, (0, w32 (x + 1))] st h := G_iinc (m27 dX3_memberOf_31) rfl rfl
theorem e27_34 {d : Nat} {L st : List AV} {h : AM} : EV d 27 34 L st h = EV d 27 4 L st h := G_goto (m27 dX3_memberOf_34) rfl
theorem e27_37 {d : Nat} {L st : List AV} {h : AM} : EV d 27 37 L st h = EV d 27 38 L ((0, -1) :: st) h := G_iconst (m27 dX3_memberOf_37) (by decide)
theorem e27_38 {d : Nat} {L : List AV} {h : AM} {v : Int} : EV d 27 38 L [(0, v)] h = some ((0, v), h) := E_iret (m27 dX3_memberOf_38) (by rw [rt27]; rfl)
theorem e28_0 {d : Nat} {st : List AV} {h : AM} {x : Int} : EV d 28 0 [(2, x)] st h = EV d 28 1 [(2, x)] ((2, x) :: st) h := G_aload_n (m28 dX4_init_0) rfl
theorem e28_1 {d : Nat} {L st : List AV} {h : AM} {r : Int} (hs : st.length ≤ 4) (h0 : 0 ≤ r) : EV (d + 1) 28 1 L ((2, r) :: st) h = EV (d + 1) 28 4 L st h := E_oi (m28 dX4_init_1) (rr28 tr_4_3) hs h0
theorem e28_4 {d : Nat} {st : List AV} {h : AM} {x : Int} : EV d 28 4 [(2, x)] st h = EV d 28 5 [(2, x)] ((2, x) :: st) h := G_aload_n (m28 dX4_init_4) rfl
theorem e28_5 {d : Nat} {L st : List AV} {h : AM} : EV d 28 5 L st h = EV d 28 6 L ((0, 4) :: st) h := G_iconst (m28 dX4_init_5) (by decide)
theorem e28_6 {d : Nat} {L st : List AV} {h : AM} {n : Int} (h0 : 0 ≤ n) (h1 : n ≤ 1000000) : EV d 28 6 L ((0, n) :: st) h = EV d 28 8 L ((2, mnx h) :: st) (mal h 16 n (fun _ => 0)) := E_newi (m28 dX4_init_6) ⟨h0, h1⟩
theorem pk_28_4_0 : pok 28 4 0 2 = true := by decide +kernel
theorem e28_8 {d : Nat} {L st : List AV} {h : AM} {r v : Int} (hk : isK h r 4) : EV d 28 8 L ((2, v) :: (2, r) :: st) h = EV d 28 11 L st (mwr h r 0 v) := G_put (m28 dX4_init_8) ow28 tf_4_9 pk_28_4_0 rfl hk
theorem e28_11 {d : Nat} {st : List AV} {h : AM} {x : Int} : EV d 28 11 [(2, x)] st h = EV d 28 12 [(2, x)] ((2, x) :: st) h := G_aload_n (m28 dX4_init_11) rfl
theorem e28_12 {d : Nat} {L st : List AV} {h : AM} : EV d 28 12 L st h = EV d 28 13 L ((0, 4) :: st) h := G_iconst (m28 dX4_init_12) (by decide)
theorem e28_13 {d : Nat} {L st : List AV} {h : AM} {n : Int} (h0 : 0 ≤ n) (h1 : n ≤ 1000000) : EV d 28 13 L ((0, n) :: st) h = EV d 28 15 L ((2, mnx h) :: st) (mal h 16 n (fun _ => 0)) := E_newi (m28 dX4_init_13) ⟨h0, h1⟩
theorem pk_28_4_1 : pok 28 4 1 2 = true := by decide +kernel
theorem e28_15 {d : Nat} {L st : List AV} {h : AM} {r v : Int} (hk : isK h r 4) : EV d 28 15 L ((2, v) :: (2, r) :: st) h = EV d 28 18 L st (mwr h r 1 v) := G_put (m28 dX4_init_15) ow28 tf_4_15 pk_28_4_1 rfl hk
theorem e28_18 {d : Nat} {st : List AV} {h : AM} {x : Int} : EV d 28 18 [(2, x)] st h = EV d 28 19 [(2, x)] ((2, x) :: st) h := G_aload_n (m28 dX4_init_18) rfl
theorem e28_19 {d : Nat} {L st : List AV} {h : AM} : EV d 28 19 L st h = EV d 28 20 L ((0, 4) :: st) h := G_iconst (m28 dX4_init_19) (by decide)
theorem e28_20 {d : Nat} {L st : List AV} {h : AM} : EV d 28 20 L st h = EV d 28 22 L ((0, 12) :: st) h := G_bipush (m28 dX4_init_20) (by decide)
theorem pk_28_4_2 : pok 28 4 2 2 = true := by decide +kernel
theorem e28_26 {d : Nat} {L st : List AV} {h : AM} {r v : Int} (hk : isK h r 4) : EV d 28 26 L ((2, v) :: (2, r) :: st) h = EV d 28 29 L st (mwr h r 2 v) := G_put (m28 dX4_init_26) ow28 tf_4_20 pk_28_4_2 rfl hk
theorem e28_29 {d : Nat} {st : List AV} {h : AM} {x : Int} : EV d 28 29 [(2, x)] st h = EV d 28 30 [(2, x)] ((2, x) :: st) h := G_aload_n (m28 dX4_init_29) rfl
theorem e28_30 {d : Nat} {L st : List AV} {h : AM} : EV d 28 30 L st h = EV d 28 31 L ((0, 4) :: st) h := G_iconst (m28 dX4_init_30) (by decide)
theorem e28_31 {d : Nat} {L st : List AV} {h : AM} {n : Int} (h0 : 0 ≤ n) (h1 : n ≤ 1000000) : EV d 28 31 L ((0, n) :: st) h = EV d 28 33 L ((2, mnx h) :: st) (mal h 16 n (fun _ => 0)) := E_newi (m28 dX4_init_31) ⟨h0, h1⟩
theorem pk_28_4_4 : pok 28 4 4 2 = true := by decide +kernel
theorem e28_33 {d : Nat} {L st : List AV} {h : AM} {r v : Int} (hk : isK h r 4) : EV d 28 33 L ((2, v) :: (2, r) :: st) h = EV d 28 36 L st (mwr h r 4 v) := G_put (m28 dX4_init_33) ow28 tf_4_23 pk_28_4_4 rfl hk
theorem e28_36 {d : Nat} {st : List AV} {h : AM} {x : Int} : EV d 28 36 [(2, x)] st h = EV d 28 37 [(2, x)] ((2, x) :: st) h := G_aload_n (m28 dX4_init_36) rfl
theorem e28_37 {d : Nat} {L st : List AV} {h : AM} : EV d 28 37 L st h = EV d 28 38 L ((0, 4) :: st) h := G_iconst (m28 dX4_init_37) (by decide)
theorem e28_38 {d : Nat} {L st : List AV} {h : AM} {n : Int} (h0 : 0 ≤ n) (h1 : n ≤ 1000000) : EV d 28 38 L ((0, n) :: st) h = EV d 28 40 L ((2, mnx h) :: st) (mal h 16 n (fun _ => 0)) := E_newi (m28 dX4_init_38) ⟨h0, h1⟩
theorem pk_28_4_5 : pok 28 4 5 2 = true := by decide +kernel
theorem e28_40 {d : Nat} {L st : List AV} {h : AM} {r v : Int} (hk : isK h r 4) : EV d 28 40 L ((2, v) :: (2, r) :: st) h = EV d 28 43 L st (mwr h r 5 v) := G_put (m28 dX4_init_40) ow28 tf_4_26 pk_28_4_5 rfl hk
theorem e28_43 {d : Nat} {L : List AV} {h : AM} : EV d 28 43 L [] h = some ((3, 0), h) := E_ret (m28 dX4_init_43) rt28
theorem e29_0 {d : Nat} {l0 : AV} {st : List AV} {h : AM} {x : Int} : EV d 29 0 [l0, (0, x)] st h = EV d 29 1 [l0, (0, x)] ((0, x) :: st) h := G_iload_n (m29 dX4_hasChild_0) rfl
theorem e29_1 {d : Nat} {L st : List AV} {h : AM} {a : Int} : EV d 29 1 L ((0, a) :: st) h = if a < 0 then EV d 29 16 L st h else EV d 29 4 L st h := (E_if (m29 dX4_hasChild_1) (t := 16) rfl).trans cc_lt
theorem e29_4 {d : Nat} {l0 : AV} {st : List AV} {h : AM} {x : Int} : EV d 29 4 [l0, (0, x)] st h = EV d 29 5 [l0, (0, x)] ((0, x) :: st) h := G_iload_n (m29 dX4_hasChild_4) rfl
theorem e29_5 {d : Nat} {l1 : AV} {st : List AV} {h : AM} {x : Int} : EV d 29 5 [(2, x), l1] st h = EV d 29 6 [(2, x), l1] ((2, x) :: st) h := G_aload_n (m29 dX4_hasChild_5) rfl
theorem e29_6 {d : Nat} {L st : List AV} {h : AM} {r : Int} (hk : isK h r 4) : EV d 29 6 L ((2, r) :: st) h = EV d 29 9 L ((0, mrd h r 6) :: st) h := G_get (m29 dX4_hasChild_6) ow29 tf_4_29 rfl rfl hk
theorem e29_9 {d : Nat} {L st : List AV} {h : AM} {a b : Int} : EV d 29 9 L ((0, b) :: (0, a) :: st) h = if a < b then EV d 29 12 L st h else EV d 29 16 L st h := (E_ic (m29 dX4_hasChild_9) (t := 16) rfl).trans cc_ge
theorem e29_12 {d : Nat} {L st : List AV} {h : AM} : EV d 29 12 L st h = EV d 29 13 L ((0, 1) :: st) h := G_iconst (m29 dX4_hasChild_12) (by decide)
theorem e29_13 {d : Nat} {L st : List AV} {h : AM} : EV d 29 13 L st h = EV d 29 17 L st h := G_goto (m29 dX4_hasChild_13) rfl
theorem e29_16 {d : Nat} {L st : List AV} {h : AM} : EV d 29 16 L st h = EV d 29 17 L ((0, 0) :: st) h := G_iconst (m29 dX4_hasChild_16) (by decide)
theorem e29_17 {d : Nat} {L : List AV} {h : AM} {v : Int} (hv : v = 0 ∨ v = 1) : EV d 29 17 L [(0, v)] h = some ((0, v), h) := E_iret (m29 dX4_hasChild_17) (by rw [rt29]; rcases hv with rfl | rfl <;> rfl)
theorem e30_0 {d : Nat} {l1 l2 l3 l4 l5 l6 : AV} {st : List AV} {h : AM} {x : Int} : EV d 30 0 [(2, x), l1, l2, l3, l4, l5, l6] st h = EV d 30 1 [(2, x), l1, l2, l3, l4, l5, l6] ((2, x) :: st) h := G_aload_n (m30 dX4_make_0) rfl
theorem e30_1 {d : Nat} {l0 l2 l3 l4 l5 l6 : AV} {st : List AV} {h : AM} {x : Int} : EV d 30 1 [l0, (2, x), l2, l3, l4, l5, l6] st h = EV d 30 2 [l0, (2, x), l2, l3, l4, l5, l6] ((2, x) :: st) h := G_aload_n (m30 dX4_make_1) rfl
theorem e30_2 {d : Nat} {L st : List AV} {h : AM} {r : Int} (hk : isK h r 6) : EV d 30 2 L ((2, r) :: st) h = EV d 30 5 L ((0, mrd h r 7) :: st) h := G_get (m30 dX4_make_2) ow30 tf_4_33 rfl rfl hk
theorem pk_30_4_6 : pok 30 4 6 0 = true := by decide +kernel
theorem e30_5 {d : Nat} {L st : List AV} {h : AM} {r v : Int} (hk : isK h r 4) : EV d 30 5 L ((0, v) :: (2, r) :: st) h = EV d 30 8 L st (mwr h r 6 v) := G_put (m30 dX4_make_5) ow30 tf_4_29 pk_30_4_6 rfl hk
theorem e30_8 {d : Nat} {l1 l2 l3 l4 l5 l6 : AV} {st : List AV} {h : AM} {x : Int} : EV d 30 8 [(2, x), l1, l2, l3, l4, l5, l6] st h = EV d 30 9 [(2, x), l1, l2, l3, l4, l5, l6] ((2, x) :: st) h := G_aload_n (m30 dX4_make_8) rfl
theorem e30_9 {d : Nat} {L st : List AV} {h : AM} : EV d 30 9 L st h = EV d 30 10 L ((0, 0) :: st) h := G_iconst (m30 dX4_make_9) (by decide)
theorem pk_30_4_3 : pok 30 4 3 0 = true := by decide +kernel
theorem e30_10 {d : Nat} {L st : List AV} {h : AM} {r v : Int} (hk : isK h r 4) : EV d 30 10 L ((0, v) :: (2, r) :: st) h = EV d 30 13 L st (mwr h r 3 v) := G_put (m30 dX4_make_10) ow30 tf_4_36 pk_30_4_3 rfl hk
theorem e30_13 {d : Nat} {L st : List AV} {h : AM} : EV d 30 13 L st h = EV d 30 14 L ((0, 0) :: st) h := G_iconst (m30 dX4_make_13) (by decide)
theorem e30_14 {d : Nat} {l0 l1 l2 l3 l4 l5 l6 : AV} {st : List AV} {h : AM} {x : Int} : EV d 30 14 [l0, l1, l2, l3, l4, l5, l6] ((0, x) :: st) h = EV d 30 15 [l0, l1, l2, (0, x), l4, l5, l6] st h := G_istore_n (m30 dX4_make_14) (Nat.le_of_ble_eq_true rfl) rfl
theorem e30_15 {d : Nat} {L st : List AV} {h : AM} : EV d 30 15 L st h = EV d 30 16 L ((0, 0) :: st) h := G_iconst (m30 dX4_make_15) (by decide)
theorem e30_16 {d : Nat} {l0 l1 l2 l3 l4 l5 l6 : AV} {st : List AV} {h : AM} {x : Int} : EV d 30 16 [l0, l1, l2, l3, l4, l5, l6] ((0, x) :: st) h = EV d 30 18 [l0, l1, l2, l3, (0, x), l5, l6] st h := G_istore (m30 dX4_make_16) (Nat.le_of_ble_eq_true rfl) rfl
theorem e30_18 {d : Nat} {l0 l1 l2 l3 l5 l6 : AV} {st : List AV} {h : AM} {x : Int} : EV d 30 18 [l0, l1, l2, l3, (0, x), l5, l6] st h = EV d 30 20 [l0, l1, l2, l3, (0, x), l5, l6] ((0, x) :: st) h := G_iload (m30 dX4_make_18) rfl
theorem e30_20 {d : Nat} {l1 l2 l3 l4 l5 l6 : AV} {st : List AV} {h : AM} {x : Int} : EV d 30 20 [(2, x), l1, l2, l3, l4, l5, l6] st h = EV d 30 21 [(2, x), l1, l2, l3, l4, l5, l6] ((2, x) :: st) h := G_aload_n (m30 dX4_make_20) rfl
theorem e30_21 {d : Nat} {L st : List AV} {h : AM} {r : Int} (hk : isK h r 4) : EV d 30 21 L ((2, r) :: st) h = EV d 30 24 L ((0, mrd h r 6) :: st) h := G_get (m30 dX4_make_21) ow30 tf_4_29 rfl rfl hk
theorem e30_24 {d : Nat} {L st : List AV} {h : AM} {a b : Int} : EV d 30 24 L ((0, b) :: (0, a) :: st) h = if a < b then EV d 30 27 L st h else EV d 30 81 L st h := (E_ic (m30 dX4_make_24) (t := 81) rfl).trans cc_ge
theorem e30_27 {d : Nat} {l1 l2 l3 l4 l5 l6 : AV} {st : List AV} {h : AM} {x : Int} : EV d 30 27 [(2, x), l1, l2, l3, l4, l5, l6] st h = EV d 30 28 [(2, x), l1, l2, l3, l4, l5, l6] ((2, x) :: st) h := G_aload_n (m30 dX4_make_27) rfl
theorem e30_28 {d : Nat} {L st : List AV} {h : AM} {r : Int} (hk : isK h r 4) : EV d 30 28 L ((2, r) :: st) h = EV d 30 31 L ((2, mrd h r 0) :: st) h := G_get (m30 dX4_make_28) ow30 tf_4_9 rfl rfl hk
theorem e30_31 {d : Nat} {l0 l1 l2 l3 l5 l6 : AV} {st : List AV} {h : AM} {x : Int} : EV d 30 31 [l0, l1, l2, l3, (0, x), l5, l6] st h = EV d 30 33 [l0, l1, l2, l3, (0, x), l5, l6] ((0, x) :: st) h := G_iload (m30 dX4_make_31) rfl
theorem e30_33 {d : Nat} {L st : List AV} {h : AM} : EV d 30 33 L st h = EV d 30 34 L ((0, 0) :: st) h := G_iconst (m30 dX4_make_33) (by decide)
theorem e30_34 {d : Nat} {L st : List AV} {h : AM} {r j v : Int} (hk : inA h r 16 j) : EV d 30 34 L ((0, v) :: (0, j) :: (2, r) :: st) h = EV d 30 35 L st (mwr h r j v) := E_iast (m30 dX4_make_34) hk
theorem e30_35 {d : Nat} {l1 l2 l3 l4 l5 l6 : AV} {st : List AV} {h : AM} {x : Int} : EV d 30 35 [(2, x), l1, l2, l3, l4, l5, l6] st h = EV d 30 36 [(2, x), l1, l2, l3, l4, l5, l6] ((2, x) :: st) h := G_aload_n (m30 dX4_make_35) rfl
theorem e30_36 {d : Nat} {L st : List AV} {h : AM} {r : Int} (hk : isK h r 4) : EV d 30 36 L ((2, r) :: st) h = EV d 30 39 L ((2, mrd h r 1) :: st) h := G_get (m30 dX4_make_36) ow30 tf_4_15 rfl rfl hk
theorem e30_39 {d : Nat} {l0 l1 l2 l3 l5 l6 : AV} {st : List AV} {h : AM} {x : Int} : EV d 30 39 [l0, l1, l2, l3, (0, x), l5, l6] st h = EV d 30 41 [l0, l1, l2, l3, (0, x), l5, l6] ((0, x) :: st) h := G_iload (m30 dX4_make_39) rfl
theorem e30_41 {d : Nat} {L st : List AV} {h : AM} : EV d 30 41 L st h = EV d 30 42 L ((0, 0) :: st) h := G_iconst (m30 dX4_make_41) (by decide)
theorem e30_42 {d : Nat} {L st : List AV} {h : AM} {r j v : Int} (hk : inA h r 16 j) : EV d 30 42 L ((0, v) :: (0, j) :: (2, r) :: st) h = EV d 30 43 L st (mwr h r j v) := E_iast (m30 dX4_make_42) hk
theorem e30_43 {d : Nat} {l1 l2 l3 l4 l5 l6 : AV} {st : List AV} {h : AM} {x : Int} : EV d 30 43 [(2, x), l1, l2, l3, l4, l5, l6] st h = EV d 30 44 [(2, x), l1, l2, l3, l4, l5, l6] ((2, x) :: st) h := G_aload_n (m30 dX4_make_43) rfl
theorem e30_44 {d : Nat} {L st : List AV} {h : AM} {r : Int} (hk : isK h r 4) : EV d 30 44 L ((2, r) :: st) h = EV d 30 47 L ((2, mrd h r 4) :: st) h := G_get (m30 dX4_make_44) ow30 tf_4_23 rfl rfl hk
theorem e30_47 {d : Nat} {l0 l1 l2 l3 l5 l6 : AV} {st : List AV} {h : AM} {x : Int} : EV d 30 47 [l0, l1, l2, l3, (0, x), l5, l6] st h = EV d 30 49 [l0, l1, l2, l3, (0, x), l5, l6] ((0, x) :: st) h := G_iload (m30 dX4_make_47) rfl
theorem e30_49 {d : Nat} {L st : List AV} {h : AM} : EV d 30 49 L st h = EV d 30 50 L ((0, 0) :: st) h := G_iconst (m30 dX4_make_49) (by decide)
theorem e30_50 {d : Nat} {L st : List AV} {h : AM} {r j v : Int} (hk : inA h r 16 j) : EV d 30 50 L ((0, v) :: (0, j) :: (2, r) :: st) h = EV d 30 51 L st (mwr h r j v) := E_iast (m30 dX4_make_50) hk
theorem e30_51 {d : Nat} {l0 l1 l2 l4 l5 l6 : AV} {st : List AV} {h : AM} {x : Int} : EV d 30 51 [l0, l1, l2, (0, x), l4, l5, l6] st h = EV d 30 52 [l0, l1, l2, (0, x), l4, l5, l6] ((0, x) :: st) h := G_iload_n (m30 dX4_make_51) rfl
theorem e30_52 {d : Nat} {l0 l1 l3 l4 l5 l6 : AV} {st : List AV} {h : AM} {x : Int} : EV d 30 52 [l0, l1, (2, x), l3, l4, l5, l6] st h = EV d 30 53 [l0, l1, (2, x), l3, l4, l5, l6] ((2, x) :: st) h := G_aload_n (m30 dX4_make_52) rfl
theorem e30_53 {d : Nat} {l0 l1 l2 l3 l5 l6 : AV} {st : List AV} {h : AM} {x : Int} : EV d 30 53 [l0, l1, l2, l3, (0, x), l5, l6] st h = EV d 30 55 [l0, l1, l2, l3, (0, x), l5, l6] ((0, x) :: st) h := G_iload (m30 dX4_make_53) rfl
theorem e30_55 {d : Nat} {L st : List AV} {h : AM} {r j : Int} (hk : inR h r j) : EV d 30 55 L ((0, j) :: (2, r) :: st) h = EV d 30 56 L ((2, mrd h r j) :: st) h := G_aald (m30 dX4_make_55) hk
theorem e30_56 {d : Nat} {L st : List AV} {h : AM} {r : Int} (hk : isK h r 8) : EV d 30 56 L ((2, r) :: st) h = EV d 30 59 L ((0, mrd h r 1) :: st) h := G_get (m30 dX4_make_56) ow30 tf_4_39 rfl rfl hk
theorem e30_59 {d : Nat} {L st : List AV} {h : AM} {a : Int} : EV d 30 59 L ((0, a) :: st) h = if a = 0 then EV d 30 72 L st h else EV d 30 62 L st h := (E_if (m30 dX4_make_59) (t := 72) rfl).trans cc_eq
theorem e30_62 {d : Nat} {l0 l1 l3 l4 l5 l6 : AV} {st : List AV} {h : AM} {x : Int} : EV d 30 62 [l0, l1, (2, x), l3, l4, l5, l6] st h = EV d 30 63 [l0, l1, (2, x), l3, l4, l5, l6] ((2, x) :: st) h := G_aload_n (m30 dX4_make_62) rfl
theorem e30_63 {d : Nat} {l0 l1 l2 l3 l5 l6 : AV} {st : List AV} {h : AM} {x : Int} : EV d 30 63 [l0, l1, l2, l3, (0, x), l5, l6] st h = EV d 30 65 [l0, l1, l2, l3, (0, x), l5, l6] ((0, x) :: st) h := G_iload (m30 dX4_make_63) rfl
theorem e30_65 {d : Nat} {L st : List AV} {h : AM} {r j : Int} (hk : inR h r j) : EV d 30 65 L ((0, j) :: (2, r) :: st) h = EV d 30 66 L ((2, mrd h r j) :: st) h := G_aald (m30 dX4_make_65) hk
theorem e30_66 {d : Nat} {L st : List AV} {h : AM} {r : Int} (hk : isK h r 8) : EV d 30 66 L ((2, r) :: st) h = EV d 30 69 L ((0, mrd h r 3) :: st) h := G_get (m30 dX4_make_66) ow30 tf_4_45 rfl rfl hk
theorem e30_69 {d : Nat} {L st : List AV} {h : AM} : EV d 30 69 L st h = EV d 30 73 L st h := G_goto (m30 dX4_make_69) rfl
theorem e30_72 {d : Nat} {L st : List AV} {h : AM} : EV d 30 72 L st h = EV d 30 73 L ((0, 0) :: st) h := G_iconst (m30 dX4_make_72) (by decide)
theorem e30_73 {d : Nat} {L st : List AV} {h : AM} {a b : Int} : EV d 30 73 L ((0, b) :: (0, a) :: st) h = EV d 30 74 L ((0, w32 (a + b)) :: st) h := E_iadd (m30 dX4_make_73)
theorem e30_74 {d : Nat} {l0 l1 l2 l3 l4 l5 l6 : AV} {st : List AV} {h : AM} {x : Int} : EV d 30 74 [l0, l1, l2, l3, l4, l5, l6] ((0, x) :: st) h = EV d 30 75 [l0, l1, l2, (0, x), l4, l5, l6] st h := G_istore_n (m30 dX4_make_74) (Nat.le_of_ble_eq_true rfl) rfl
theorem e30_75 {d : Nat} {l0 l1 l2 l3 l5 l6 : AV} {st : List AV} {h : AM} {x : Int} : EV d 30 75 [l0, l1, l2, l3, (0, x), l5, l6] st h = EV d 30 78 [l0, l1, l2, l3, (0, w32 (x + 1)), l5, l6] st h := G_iinc (m30 dX4_make_75) rfl rfl
theorem e30_78 {d : Nat} {L st : List AV} {h : AM} : EV d 30 78 L st h = EV d 30 18 L st h := G_goto (m30 dX4_make_78) rfl
theorem e30_81 {d : Nat} {L st : List AV} {h : AM} : EV d 30 81 L st h = EV d 30 82 L ((0, 0) :: st) h := G_iconst (m30 dX4_make_81) (by decide)
theorem e30_82 {d : Nat} {l0 l1 l2 l3 l4 l5 l6 : AV} {st : List AV} {h : AM} {x : Int} : EV d 30 82 [l0, l1, l2, l3, l4, l5, l6] ((0, x) :: st) h = EV d 30 84 [l0, l1, l2, l3, (0, x), l5, l6] st h := G_istore (m30 dX4_make_82) (Nat.le_of_ble_eq_true rfl) rfl
theorem e30_84 {d : Nat} {l0 l1 l2 l3 l5 l6 : AV} {st : List AV} {h : AM} {x : Int} : EV d 30 84 [l0, l1, l2, l3, (0, x), l5, l6] st h = EV d 30 86 [l0, l1, l2, l3, (0, x), l5, l6] ((0, x) :: st) h := G_iload (m30 dX4_make_84) rfl
theorem e30_86 {d : Nat} {L st : List AV} {h : AM} : EV d 30 86 L st h = EV d 30 87 L ((0, 4) :: st) h := G_iconst (m30 dX4_make_86) (by decide)
theorem e30_87 {d : Nat} {L st : List AV} {h : AM} {a b : Int} : EV d 30 87 L ((0, b) :: (0, a) :: st) h = if a < b then EV d 30 90 L st h else EV d 30 104 L st h := (E_ic (m30 dX4_make_87) (t := 104) rfl).trans cc_ge
theorem e30_90 {d : Nat} {l1 l2 l3 l4 l5 l6 : AV} {st : List AV} {h : AM} {x : Int} : EV d 30 90 [(2, x), l1, l2, l3, l4, l5, l6] st h = EV d 30 91 [(2, x), l1, l2, l3, l4, l5, l6] ((2, x) :: st) h := G_aload_n (m30 dX4_make_90) rfl
theorem e30_91 {d : Nat} {L st : List AV} {h : AM} {r : Int} (hk : isK h r 4) : EV d 30 91 L ((2, r) :: st) h = EV d 30 94 L ((2, mrd h r 5) :: st) h := G_get (m30 dX4_make_91) ow30 tf_4_26 rfl rfl hk
theorem e30_94 {d : Nat} {l0 l1 l2 l3 l5 l6 : AV} {st : List AV} {h : AM} {x : Int} : EV d 30 94 [l0, l1, l2, l3, (0, x), l5, l6] st h = EV d 30 96 [l0, l1, l2, l3, (0, x), l5, l6] ((0, x) :: st) h := G_iload (m30 dX4_make_94) rfl
theorem e30_96 {d : Nat} {L st : List AV} {h : AM} : EV d 30 96 L st h = EV d 30 97 L ((0, 0) :: st) h := G_iconst (m30 dX4_make_96) (by decide)
theorem e30_97 {d : Nat} {L st : List AV} {h : AM} {r j v : Int} (hk : inA h r 16 j) : EV d 30 97 L ((0, v) :: (0, j) :: (2, r) :: st) h = EV d 30 98 L st (mwr h r j v) := E_iast (m30 dX4_make_97) hk
theorem e30_98 {d : Nat} {l0 l1 l2 l3 l5 l6 : AV} {st : List AV} {h : AM} {x : Int} : EV d 30 98 [l0, l1, l2, l3, (0, x), l5, l6] st h = EV d 30 101 [l0, l1, l2, l3, (0, w32 (x + 1)), l5, l6] st h := G_iinc (m30 dX4_make_98) rfl rfl
theorem e30_101 {d : Nat} {L st : List AV} {h : AM} : EV d 30 101 L st h = EV d 30 84 L st h := G_goto (m30 dX4_make_101) rfl
theorem e30_104 {d : Nat} {L st : List AV} {h : AM} : EV d 30 104 L st h = EV d 30 105 L ((0, 0) :: st) h := G_iconst (m30 dX4_make_104) (by decide)
theorem e30_105 {d : Nat} {l0 l1 l2 l3 l4 l5 l6 : AV} {st : List AV} {h : AM} {x : Int} : EV d 30 105 [l0, l1, l2, l3, l4, l5, l6] ((0, x) :: st) h = EV d 30 107 [l0, l1, l2, l3, (0, x), l5, l6] st h := G_istore (m30 dX4_make_105) (Nat.le_of_ble_eq_true rfl) rfl
theorem e30_107 {d : Nat} {l0 l1 l2 l3 l5 l6 : AV} {st : List AV} {h : AM} {x : Int} : EV d 30 107 [l0, l1, l2, l3, (0, x), l5, l6] st h = EV d 30 109 [l0, l1, l2, l3, (0, x), l5, l6] ((0, x) :: st) h := G_iload (m30 dX4_make_107) rfl
theorem e30_109 {d : Nat} {L st : List AV} {h : AM} : EV d 30 109 L st h = EV d 30 112 L ((0, 1440) :: st) h := G_sipush (m30 dX4_make_109) (by decide)
theorem e30_112 {d : Nat} {L st : List AV} {h : AM} {a b : Int} : EV d 30 112 L ((0, b) :: (0, a) :: st) h = if b < a then EV d 30 225 L st h else EV d 30 115 L st h := (E_ic (m30 dX4_make_112) (t := 225) rfl).trans cc_gt
theorem e30_115 {d : Nat} {l0 l1 l2 l4 l5 l6 : AV} {st : List AV} {h : AM} {x : Int} : EV d 30 115 [l0, l1, l2, (0, x), l4, l5, l6] st h = EV d 30 116 [l0, l1, l2, (0, x), l4, l5, l6] ((0, x) :: st) h := G_iload_n (m30 dX4_make_115) rfl
theorem e30_116 {d : Nat} {L st : List AV} {h : AM} {a : Int} : EV d 30 116 L ((0, a) :: st) h = if 0 < a then EV d 30 119 L st h else EV d 30 225 L st h := (E_if (m30 dX4_make_116) (t := 225) rfl).trans cc_le
theorem e30_119 {d : Nat} {L st : List AV} {h : AM} : EV d 30 119 L st h = EV d 30 120 L ((0, 0) :: st) h := G_iconst (m30 dX4_make_119) (by decide)
theorem e30_120 {d : Nat} {l0 l1 l2 l3 l4 l5 l6 : AV} {st : List AV} {h : AM} {x : Int} : EV d 30 120 [l0, l1, l2, l3, l4, l5, l6] ((0, x) :: st) h = EV d 30 122 [l0, l1, l2, l3, l4, (0, x), l6] st h := G_istore (m30 dX4_make_120) (Nat.le_of_ble_eq_true rfl) rfl
theorem e30_122 {d : Nat} {l0 l1 l2 l3 l4 l6 : AV} {st : List AV} {h : AM} {x : Int} : EV d 30 122 [l0, l1, l2, l3, l4, (0, x), l6] st h = EV d 30 124 [l0, l1, l2, l3, l4, (0, x), l6] ((0, x) :: st) h := G_iload (m30 dX4_make_122) rfl
theorem e30_124 {d : Nat} {l1 l2 l3 l4 l5 l6 : AV} {st : List AV} {h : AM} {x : Int} : EV d 30 124 [(2, x), l1, l2, l3, l4, l5, l6] st h = EV d 30 125 [(2, x), l1, l2, l3, l4, l5, l6] ((2, x) :: st) h := G_aload_n (m30 dX4_make_124) rfl
theorem e30_125 {d : Nat} {L st : List AV} {h : AM} {r : Int} (hk : isK h r 4) : EV d 30 125 L ((2, r) :: st) h = EV d 30 128 L ((0, mrd h r 6) :: st) h := G_get (m30 dX4_make_125) ow30 tf_4_29 rfl rfl hk
theorem e30_128 {d : Nat} {L st : List AV} {h : AM} {a b : Int} : EV d 30 128 L ((0, b) :: (0, a) :: st) h = if a < b then EV d 30 131 L st h else EV d 30 219 L st h := (E_ic (m30 dX4_make_128) (t := 219) rfl).trans cc_ge
theorem e30_131 {d : Nat} {l0 l1 l3 l4 l5 l6 : AV} {st : List AV} {h : AM} {x : Int} : EV d 30 131 [l0, l1, (2, x), l3, l4, l5, l6] st h = EV d 30 132 [l0, l1, (2, x), l3, l4, l5, l6] ((2, x) :: st) h := G_aload_n (m30 dX4_make_131) rfl
theorem e30_132 {d : Nat} {l0 l1 l2 l3 l4 l6 : AV} {st : List AV} {h : AM} {x : Int} : EV d 30 132 [l0, l1, l2, l3, l4, (0, x), l6] st h = EV d 30 134 [l0, l1, l2, l3, l4, (0, x), l6] ((0, x) :: st) h := G_iload (m30 dX4_make_132) rfl
theorem e30_134 {d : Nat} {L st : List AV} {h : AM} {r j : Int} (hk : inR h r j) : EV d 30 134 L ((0, j) :: (2, r) :: st) h = EV d 30 135 L ((2, mrd h r j) :: st) h := G_aald (m30 dX4_make_134) hk
theorem e30_135 {d : Nat} {L st : List AV} {h : AM} {r : Int} (hk : isK h r 8) : EV d 30 135 L ((2, r) :: st) h = EV d 30 138 L ((0, mrd h r 1) :: st) h := G_get (m30 dX4_make_135) ow30 tf_4_39 rfl rfl hk
theorem e30_138 {d : Nat} {L st : List AV} {h : AM} {a : Int} : EV d 30 138 L ((0, a) :: st) h = if a = 0 then EV d 30 174 L st h else EV d 30 141 L st h := (E_if (m30 dX4_make_138) (t := 174) rfl).trans cc_eq
theorem e30_141 {d : Nat} {l1 l2 l3 l4 l5 l6 : AV} {st : List AV} {h : AM} {x : Int} : EV d 30 141 [(2, x), l1, l2, l3, l4, l5, l6] st h = EV d 30 142 [(2, x), l1, l2, l3, l4, l5, l6] ((2, x) :: st) h := G_aload_n (m30 dX4_make_141) rfl
theorem e30_142 {d : Nat} {L st : List AV} {h : AM} {r : Int} (hk : isK h r 4) : EV d 30 142 L ((2, r) :: st) h = EV d 30 145 L ((2, mrd h r 0) :: st) h := G_get (m30 dX4_make_142) ow30 tf_4_9 rfl rfl hk
theorem e30_145 {d : Nat} {l0 l1 l2 l3 l4 l6 : AV} {st : List AV} {h : AM} {x : Int} : EV d 30 145 [l0, l1, l2, l3, l4, (0, x), l6] st h = EV d 30 147 [l0, l1, l2, l3, l4, (0, x), l6] ((0, x) :: st) h := G_iload (m30 dX4_make_145) rfl
theorem e30_147 {d : Nat} {L st : List AV} {h : AM} {r j : Int} (hk : inA h r 16 j) : EV d 30 147 L ((0, j) :: (2, r) :: st) h = EV d 30 148 L ((0, mrd h r j) :: st) h := E_iald (m30 dX4_make_147) hk
theorem e30_148 {d : Nat} {l0 l1 l3 l4 l5 l6 : AV} {st : List AV} {h : AM} {x : Int} : EV d 30 148 [l0, l1, (2, x), l3, l4, l5, l6] st h = EV d 30 149 [l0, l1, (2, x), l3, l4, l5, l6] ((2, x) :: st) h := G_aload_n (m30 dX4_make_148) rfl
theorem e30_149 {d : Nat} {l0 l1 l2 l3 l4 l6 : AV} {st : List AV} {h : AM} {x : Int} : EV d 30 149 [l0, l1, l2, l3, l4, (0, x), l6] st h = EV d 30 151 [l0, l1, l2, l3, l4, (0, x), l6] ((0, x) :: st) h := G_iload (m30 dX4_make_149) rfl
theorem e30_151 {d : Nat} {L st : List AV} {h : AM} {r j : Int} (hk : inR h r j) : EV d 30 151 L ((0, j) :: (2, r) :: st) h = EV d 30 152 L ((2, mrd h r j) :: st) h := G_aald (m30 dX4_make_151) hk
theorem e30_152 {d : Nat} {L st : List AV} {h : AM} {r : Int} (hk : isK h r 8) : EV d 30 152 L ((2, r) :: st) h = EV d 30 155 L ((0, mrd h r 3) :: st) h := G_get (m30 dX4_make_152) ow30 tf_4_45 rfl rfl hk
theorem e30_155 {d : Nat} {L st : List AV} {h : AM} {a b : Int} : EV d 30 155 L ((0, b) :: (0, a) :: st) h = if a < b then EV d 30 158 L st h else EV d 30 174 L st h := (E_ic (m30 dX4_make_155) (t := 174) rfl).trans cc_ge
theorem e30_158 {d : Nat} {l1 l2 l3 l4 l5 l6 : AV} {st : List AV} {h : AM} {x : Int} : EV d 30 158 [(2, x), l1, l2, l3, l4, l5, l6] st h = EV d 30 159 [(2, x), l1, l2, l3, l4, l5, l6] ((2, x) :: st) h := G_aload_n (m30 dX4_make_158) rfl
theorem e30_159 {d : Nat} {L st : List AV} {h : AM} {r : Int} (hk : isK h r 4) : EV d 30 159 L ((2, r) :: st) h = EV d 30 162 L ((2, mrd h r 4) :: st) h := G_get (m30 dX4_make_159) ow30 tf_4_23 rfl rfl hk
theorem e30_162 {d : Nat} {l0 l1 l2 l3 l4 l6 : AV} {st : List AV} {h : AM} {x : Int} : EV d 30 162 [l0, l1, l2, l3, l4, (0, x), l6] st h = EV d 30 164 [l0, l1, l2, l3, l4, (0, x), l6] ((0, x) :: st) h := G_iload (m30 dX4_make_162) rfl
theorem e30_164 {d : Nat} {L st : List AV} {h : AM} {r j : Int} (hk : inA h r 16 j) : EV d 30 164 L ((0, j) :: (2, r) :: st) h = EV d 30 165 L ((0, mrd h r j) :: st) h := E_iald (m30 dX4_make_164) hk
theorem e30_165 {d : Nat} {l0 l1 l2 l3 l5 l6 : AV} {st : List AV} {h : AM} {x : Int} : EV d 30 165 [l0, l1, l2, l3, (0, x), l5, l6] st h = EV d 30 167 [l0, l1, l2, l3, (0, x), l5, l6] ((0, x) :: st) h := G_iload (m30 dX4_make_165) rfl
theorem e30_167 {d : Nat} {L st : List AV} {h : AM} {a b : Int} : EV d 30 167 L ((0, b) :: (0, a) :: st) h = if b < a then EV d 30 174 L st h else EV d 30 170 L st h := (E_ic (m30 dX4_make_167) (t := 174) rfl).trans cc_gt
theorem e30_170 {d : Nat} {L st : List AV} {h : AM} : EV d 30 170 L st h = EV d 30 171 L ((0, 1) :: st) h := G_iconst (m30 dX4_make_170) (by decide)
theorem e30_171 {d : Nat} {L st : List AV} {h : AM} : EV d 30 171 L st h = EV d 30 175 L st h := G_goto (m30 dX4_make_171) rfl
theorem e30_174 {d : Nat} {L st : List AV} {h : AM} : EV d 30 174 L st h = EV d 30 175 L ((0, 0) :: st) h := G_iconst (m30 dX4_make_174) (by decide)
theorem e30_175 {d : Nat} {l0 l1 l2 l3 l4 l5 l6 : AV} {st : List AV} {h : AM} {x : Int} : EV d 30 175 [l0, l1, l2, l3, l4, l5, l6] ((0, x) :: st) h = EV d 30 177 [l0, l1, l2, l3, l4, l5, (0, x)] st h := G_istore (m30 dX4_make_175) (Nat.le_of_ble_eq_true rfl) rfl
theorem e30_177 {d : Nat} {l0 l1 l2 l3 l4 l5 : AV} {st : List AV} {h : AM} {x : Int} : EV d 30 177 [l0, l1, l2, l3, l4, l5, (0, x)] st h = EV d 30 179 [l0, l1, l2, l3, l4, l5, (0, x)] ((0, x) :: st) h := G_iload (m30 dX4_make_177) rfl
theorem e30_179 {d : Nat} {L st : List AV} {h : AM} {a : Int} : EV d 30 179 L ((0, a) :: st) h = if a = 0 then EV d 30 213 L st h else EV d 30 182 L st h := (E_if (m30 dX4_make_179) (t := 213) rfl).trans cc_eq
theorem e30_182 {d : Nat} {l1 l2 l3 l4 l5 l6 : AV} {st : List AV} {h : AM} {x : Int} : EV d 30 182 [(2, x), l1, l2, l3, l4, l5, l6] st h = EV d 30 183 [(2, x), l1, l2, l3, l4, l5, l6] ((2, x) :: st) h := G_aload_n (m30 dX4_make_182) rfl
theorem e30_183 {d : Nat} {l0 l2 l3 l4 l5 l6 : AV} {st : List AV} {h : AM} {x : Int} : EV d 30 183 [l0, (2, x), l2, l3, l4, l5, l6] st h = EV d 30 184 [l0, (2, x), l2, l3, l4, l5, l6] ((2, x) :: st) h := G_aload_n (m30 dX4_make_183) rfl
theorem e30_184 {d : Nat} {l0 l1 l2 l3 l4 l6 : AV} {st : List AV} {h : AM} {x : Int} : EV d 30 184 [l0, l1, l2, l3, l4, (0, x), l6] st h = EV d 30 186 [l0, l1, l2, l3, l4, (0, x), l6] ((0, x) :: st) h := G_iload (m30 dX4_make_184) rfl
theorem e30_186 {d : Nat} {l0 l1 l3 l4 l5 l6 : AV} {st : List AV} {h : AM} {x : Int} : EV d 30 186 [l0, l1, (2, x), l3, l4, l5, l6] st h = EV d 30 187 [l0, l1, (2, x), l3, l4, l5, l6] ((2, x) :: st) h := G_aload_n (m30 dX4_make_186) rfl
theorem e30_187 {d : Nat} {l0 l1 l2 l3 l4 l6 : AV} {st : List AV} {h : AM} {x : Int} : EV d 30 187 [l0, l1, l2, l3, l4, (0, x), l6] st h = EV d 30 189 [l0, l1, l2, l3, l4, (0, x), l6] ((0, x) :: st) h := G_iload (m30 dX4_make_187) rfl
theorem e30_189 {d : Nat} {L st : List AV} {h : AM} {r j : Int} (hk : inR h r j) : EV d 30 189 L ((0, j) :: (2, r) :: st) h = EV d 30 190 L ((2, mrd h r j) :: st) h := G_aald (m30 dX4_make_189) hk
theorem e30_190 {d : Nat} {L st : List AV} {h : AM} {r : Int} (hk : isK h r 8) : EV d 30 190 L ((2, r) :: st) h = EV d 30 193 L ((2, mrd h r 0) :: st) h := G_get (m30 dX4_make_190) ow30 tf_4_48 rfl rfl hk
theorem e30_193 {d : Nat} {l1 l2 l3 l4 l5 l6 : AV} {st : List AV} {h : AM} {x : Int} : EV d 30 193 [(2, x), l1, l2, l3, l4, l5, l6] st h = EV d 30 194 [(2, x), l1, l2, l3, l4, l5, l6] ((2, x) :: st) h := G_aload_n (m30 dX4_make_193) rfl
theorem e30_194 {d : Nat} {L st : List AV} {h : AM} {r : Int} (hk : isK h r 4) : EV d 30 194 L ((2, r) :: st) h = EV d 30 197 L ((2, mrd h r 0) :: st) h := G_get (m30 dX4_make_194) ow30 tf_4_9 rfl rfl hk
theorem e30_197 {d : Nat} {l0 l1 l2 l3 l4 l6 : AV} {st : List AV} {h : AM} {x : Int} : EV d 30 197 [l0, l1, l2, l3, l4, (0, x), l6] st h = EV d 30 199 [l0, l1, l2, l3, l4, (0, x), l6] ((0, x) :: st) h := G_iload (m30 dX4_make_197) rfl
theorem e30_199 {d : Nat} {L st : List AV} {h : AM} {r j : Int} (hk : inA h r 16 j) : EV d 30 199 L ((0, j) :: (2, r) :: st) h = EV d 30 200 L ((0, mrd h r j) :: st) h := E_iald (m30 dX4_make_199) hk
theorem e30_200 {d : Nat} {L st : List AV} {h : AM} {r j : Int} (hk : inA h r 19 j) : EV d 30 200 L ((0, j) :: (2, r) :: st) h = EV d 30 201 L ((1, mrd h r j) :: st) h := E_lald (m30 dX4_make_200) hk
theorem e30_201 {d : Nat} {L st : List AV} {h : AM} {a : Int} : EV d 30 201 L ((1, a) :: st) h = EV d 30 202 L ((0, w32 a) :: st) h := G_l2i (m30 dX4_make_201)
theorem e30_202 {d : Nat} {l0 l1 l2 l3 l5 l6 : AV} {st : List AV} {h : AM} {x : Int} : EV d 30 202 [l0, l1, l2, l3, (0, x), l5, l6] st h = EV d 30 204 [l0, l1, l2, l3, (0, x), l5, l6] ((0, x) :: st) h := G_iload (m30 dX4_make_202) rfl
theorem e30_204 {d : Nat} {L st : List AV} {h : AM} {r p0 p1 p2 p3 : Int} (hs : st.length ≤ 4) (hk : isK h r 4) : EV (d + 1) 30 204 L ((0, p3) :: (0, p2) :: (0, p1) :: (2, p0) :: (2, r) :: st) h = (EV d 31 0 [(2, r), (2, p0), (0, p1), (0, p2), (0, p3), (3, 0), (3, 0)] [] h).bind (fun q => EV (d + 1) 30 207 L (psh q.1 st) q.2) := G_cv [(2, p0), (0, p1), (0, p2), (0, p3)] (m30 dX4_make_204) ow30 tr_4_52 (by decide) td31 np31 ml31 ow31 rfl rfl (Nat.le_of_ble_eq_true rfl) rfl hs hk
theorem e30_207 {d : Nat} {L st : List AV} {h : AM} {a : Int} : EV d 30 207 L ((0, a) :: st) h = if a = 0 then EV d 30 213 L st h else EV d 30 210 L st h := (E_if (m30 dX4_make_207) (t := 213) rfl).trans cc_eq
theorem e30_210 {d : Nat} {l0 l1 l2 l4 l5 l6 : AV} {st : List AV} {h : AM} {x : Int} : EV d 30 210 [l0, l1, l2, (0, x), l4, l5, l6] st h = EV d 30 213 [l0, l1, l2, (0, w32 (x + (-1))), l4, l5, l6] st h := G_iinc (m30 dX4_make_210) rfl rfl
theorem e30_213 {d : Nat} {l0 l1 l2 l3 l4 l6 : AV} {st : List AV} {h : AM} {x : Int} : EV d 30 213 [l0, l1, l2, l3, l4, (0, x), l6] st h = EV d 30 216 [l0, l1, l2, l3, l4, (0, w32 (x + 1)), l6] st h := G_iinc (m30 dX4_make_213) rfl rfl
theorem e30_216 {d : Nat} {L st : List AV} {h : AM} : EV d 30 216 L st h = EV d 30 122 L st h := G_goto (m30 dX4_make_216) rfl
theorem e30_219 {d : Nat} {l0 l1 l2 l3 l5 l6 : AV} {st : List AV} {h : AM} {x : Int} : EV d 30 219 [l0, l1, l2, l3, (0, x), l5, l6] st h = EV d 30 222 [l0, l1, l2, l3, (0, w32 (x + 1)), l5, l6] st h := G_iinc (m30 dX4_make_219) rfl rfl
theorem e30_222 {d : Nat} {L st : List AV} {h : AM} : EV d 30 222 L st h = EV d 30 107 L st h := G_goto (m30 dX4_make_222) rfl
theorem e30_225 {d : Nat} {L : List AV} {h : AM} : EV d 30 225 L [] h = some ((3, 0), h) := E_ret (m30 dX4_make_225) rt30
theorem e31_0 {d : Nat} {l0 l2 l3 l4 l5 l6 : AV} {st : List AV} {h : AM} {x : Int} : EV d 31 0 [l0, (2, x), l2, l3, l4, l5, l6] st h = EV d 31 1 [l0, (2, x), l2, l3, l4, l5, l6] ((2, x) :: st) h := G_aload_n (m31 dX4_tryBegin_0) rfl
theorem e31_1 {d : Nat} {L st : List AV} {h : AM} {r : Int} (hk : isK h r 6) : EV d 31 1 L ((2, r) :: st) h = EV d 31 4 L ((2, mrd h r 1) :: st) h := G_get (m31 dX4_tryBegin_1) ow31 tf_4_56 rfl rfl hk
theorem e31_4 {d : Nat} {l0 l1 l2 l4 l5 l6 : AV} {st : List AV} {h : AM} {x : Int} : EV d 31 4 [l0, l1, l2, (0, x), l4, l5, l6] st h = EV d 31 5 [l0, l1, l2, (0, x), l4, l5, l6] ((0, x) :: st) h := G_iload_n (m31 dX4_tryBegin_4) rfl
theorem e31_5 {d : Nat} {L st : List AV} {h : AM} {r j : Int} (hk : inR h r j) : EV d 31 5 L ((0, j) :: (2, r) :: st) h = EV d 31 6 L ((2, mrd h r j) :: st) h := G_aald (m31 dX4_tryBegin_5) hk
theorem e31_6 {d : Nat} {L st : List AV} {h : AM} {r : Int} (hk : isK h r 2) : EV d 31 6 L ((2, r) :: st) h = EV d 31 9 L ((0, mrd h r 5) :: st) h := G_get (m31 dX4_tryBegin_6) ow31 tf_4_60 rfl rfl hk
theorem e31_9 {d : Nat} {l0 l1 l2 l3 l4 l5 l6 : AV} {st : List AV} {h : AM} {x : Int} : EV d 31 9 [l0, l1, l2, l3, l4, l5, l6] ((0, x) :: st) h = EV d 31 11 [l0, l1, l2, l3, l4, (0, x), l6] st h := G_istore (m31 dX4_tryBegin_9) (Nat.le_of_ble_eq_true rfl) rfl
theorem e31_11 {d : Nat} {l0 l1 l2 l3 l4 l6 : AV} {st : List AV} {h : AM} {x : Int} : EV d 31 11 [l0, l1, l2, l3, l4, (0, x), l6] st h = EV d 31 13 [l0, l1, l2, l3, l4, (0, x), l6] ((0, x) :: st) h := G_iload (m31 dX4_tryBegin_11) rfl
theorem e31_13 {d : Nat} {L st : List AV} {h : AM} : EV d 31 13 L st h = EV d 31 14 L ((0, -1) :: st) h := G_iconst (m31 dX4_tryBegin_13) (by decide)
theorem e31_14 {d : Nat} {L st : List AV} {h : AM} {a b : Int} : EV d 31 14 L ((0, b) :: (0, a) :: st) h = if a = b then EV d 31 31 L st h else EV d 31 17 L st h := (E_ic (m31 dX4_tryBegin_14) (t := 31) rfl).trans cc_eq
theorem e31_17 {d : Nat} {l1 l2 l3 l4 l5 l6 : AV} {st : List AV} {h : AM} {x : Int} : EV d 31 17 [(2, x), l1, l2, l3, l4, l5, l6] st h = EV d 31 18 [(2, x), l1, l2, l3, l4, l5, l6] ((2, x) :: st) h := G_aload_n (m31 dX4_tryBegin_17) rfl
theorem e31_18 {d : Nat} {L st : List AV} {h : AM} {r : Int} (hk : isK h r 4) : EV d 31 18 L ((2, r) :: st) h = EV d 31 21 L ((2, mrd h r 5) :: st) h := G_get (m31 dX4_tryBegin_18) ow31 tf_4_26 rfl rfl hk
theorem e31_21 {d : Nat} {l0 l1 l2 l3 l4 l6 : AV} {st : List AV} {h : AM} {x : Int} : EV d 31 21 [l0, l1, l2, l3, l4, (0, x), l6] st h = EV d 31 23 [l0, l1, l2, l3, l4, (0, x), l6] ((0, x) :: st) h := G_iload (m31 dX4_tryBegin_21) rfl
theorem e31_23 {d : Nat} {L st : List AV} {h : AM} {r j : Int} (hk : inA h r 16 j) : EV d 31 23 L ((0, j) :: (2, r) :: st) h = EV d 31 24 L ((0, mrd h r j) :: st) h := E_iald (m31 dX4_tryBegin_23) hk
theorem e31_24 {d : Nat} {l0 l1 l2 l3 l5 l6 : AV} {st : List AV} {h : AM} {x : Int} : EV d 31 24 [l0, l1, l2, l3, (0, x), l5, l6] st h = EV d 31 26 [l0, l1, l2, l3, (0, x), l5, l6] ((0, x) :: st) h := G_iload (m31 dX4_tryBegin_24) rfl
theorem e31_26 {d : Nat} {L st : List AV} {h : AM} {a b : Int} : EV d 31 26 L ((0, b) :: (0, a) :: st) h = if b < a then EV d 31 29 L st h else EV d 31 31 L st h := (E_ic (m31 dX4_tryBegin_26) (t := 31) rfl).trans cc_le
theorem e31_29 {d : Nat} {L st : List AV} {h : AM} : EV d 31 29 L st h = EV d 31 30 L ((0, 0) :: st) h := G_iconst (m31 dX4_tryBegin_29) (by decide)
theorem e31_30 {d : Nat} {L : List AV} {h : AM} {v : Int} (hv : v = 0 ∨ v = 1) : EV d 31 30 L [(0, v)] h = some ((0, v), h) := E_iret (m31 dX4_tryBegin_30) (by rw [rt31]; rcases hv with rfl | rfl <;> rfl)
theorem e31_31 {d : Nat} {l0 l1 l2 l3 l5 l6 : AV} {st : List AV} {h : AM} {x : Int} : EV d 31 31 [l0, l1, l2, l3, (0, x), l5, l6] st h = EV d 31 33 [l0, l1, l2, l3, (0, x), l5, l6] ((0, x) :: st) h := G_iload (m31 dX4_tryBegin_31) rfl
theorem e31_33 {d : Nat} {l0 l2 l3 l4 l5 l6 : AV} {st : List AV} {h : AM} {x : Int} : EV d 31 33 [l0, (2, x), l2, l3, l4, l5, l6] st h = EV d 31 34 [l0, (2, x), l2, l3, l4, l5, l6] ((2, x) :: st) h := G_aload_n (m31 dX4_tryBegin_33) rfl
theorem e31_34 {d : Nat} {l0 l2 l3 l4 l5 l6 : AV} {st : List AV} {h : AM} {x : Int} : EV d 31 34 [l0, (2, x), l2, l3, l4, l5, l6] st h = EV d 31 35 [l0, (2, x), l2, l3, l4, l5, l6] ((2, x) :: st) h := G_aload_n (m31 dX4_tryBegin_34) rfl
theorem e31_35 {d : Nat} {L st : List AV} {h : AM} {r : Int} (hk : isK h r 6) : EV d 31 35 L ((2, r) :: st) h = EV d 31 38 L ((2, mrd h r 2) :: st) h := G_get (m31 dX4_tryBegin_35) ow31 tf_4_65 rfl rfl hk
theorem e31_38 {d : Nat} {l0 l1 l3 l4 l5 l6 : AV} {st : List AV} {h : AM} {x : Int} : EV d 31 38 [l0, l1, (0, x), l3, l4, l5, l6] st h = EV d 31 39 [l0, l1, (0, x), l3, l4, l5, l6] ((0, x) :: st) h := G_iload_n (m31 dX4_tryBegin_38) rfl
theorem e31_39 {d : Nat} {L st : List AV} {h : AM} {r j : Int} (hk : inR h r j) : EV d 31 39 L ((0, j) :: (2, r) :: st) h = EV d 31 40 L ((2, mrd h r j) :: st) h := G_aald (m31 dX4_tryBegin_39) hk
theorem e31_40 {d : Nat} {l0 l1 l2 l4 l5 l6 : AV} {st : List AV} {h : AM} {x : Int} : EV d 31 40 [l0, l1, l2, (0, x), l4, l5, l6] st h = EV d 31 41 [l0, l1, l2, (0, x), l4, l5, l6] ((0, x) :: st) h := G_iload_n (m31 dX4_tryBegin_40) rfl
theorem e31_41 {d : Nat} {L st : List AV} {h : AM} {r p0 p1 : Int} (hs : st.length ≤ 4) (hk : isK h r 6) : EV (d + 1) 31 41 L ((0, p1) :: (2, p0) :: (2, r) :: st) h = (EV d 70 0 [(2, r), (2, p0), (0, p1), (3, 0)] [] h).bind (fun q => EV (d + 1) 31 44 L (psh q.1 st) q.2) := G_cv [(2, p0), (0, p1)] (m31 dX4_tryBegin_41) ow31 tr_4_69 (by decide) td70 np70 ml70 ow70 rfl rfl (Nat.le_of_ble_eq_true rfl) rfl hs hk
theorem e31_44 {d : Nat} {L st : List AV} {h : AM} {a b : Int} : EV d 31 44 L ((0, b) :: (0, a) :: st) h = EV d 31 45 L ((0, w32 (a + b)) :: st) h := E_iadd (m31 dX4_tryBegin_44)
theorem e31_45 {d : Nat} {l0 l1 l2 l3 l4 l5 l6 : AV} {st : List AV} {h : AM} {x : Int} : EV d 31 45 [l0, l1, l2, l3, l4, l5, l6] ((0, x) :: st) h = EV d 31 47 [l0, l1, l2, l3, l4, l5, (0, x)] st h := G_istore (m31 dX4_tryBegin_45) (Nat.le_of_ble_eq_true rfl) rfl
theorem e31_47 {d : Nat} {l1 l2 l3 l4 l5 l6 : AV} {st : List AV} {h : AM} {x : Int} : EV d 31 47 [(2, x), l1, l2, l3, l4, l5, l6] st h = EV d 31 48 [(2, x), l1, l2, l3, l4, l5, l6] ((2, x) :: st) h := G_aload_n (m31 dX4_tryBegin_47) rfl
theorem e31_48 {d : Nat} {L st : List AV} {h : AM} {r : Int} (hk : isK h r 4) : EV d 31 48 L ((2, r) :: st) h = EV d 31 51 L ((2, mrd h r 1) :: st) h := G_get (m31 dX4_tryBegin_48) ow31 tf_4_15 rfl rfl hk
theorem e31_51 {d : Nat} {l0 l1 l3 l4 l5 l6 : AV} {st : List AV} {h : AM} {x : Int} : EV d 31 51 [l0, l1, (0, x), l3, l4, l5, l6] st h = EV d 31 52 [l0, l1, (0, x), l3, l4, l5, l6] ((0, x) :: st) h := G_iload_n (m31 dX4_tryBegin_51) rfl
theorem e31_52 {d : Nat} {L st : List AV} {h : AM} {a b : Int} : EV d 31 52 L ((0, a) :: (2, b) :: st) h = EV d 31 53 L ((0, a) :: (2, b) :: (0, a) :: (2, b) :: st) h := G_dup2 (m31 dX4_tryBegin_52)
theorem e31_53 {d : Nat} {L st : List AV} {h : AM} {r j : Int} (hk : inA h r 16 j) : EV d 31 53 L ((0, j) :: (2, r) :: st) h = EV d 31 54 L ((0, mrd h r j) :: st) h := E_iald (m31 dX4_tryBegin_53) hk
theorem e31_54 {d : Nat} {l0 l1 l2 l3 l5 l6 : AV} {st : List AV} {h : AM} {x : Int} : EV d 31 54 [l0, l1, l2, l3, (0, x), l5, l6] st h = EV d 31 56 [l0, l1, l2, l3, (0, x), l5, l6] ((0, x) :: st) h := G_iload (m31 dX4_tryBegin_54) rfl
theorem e31_56 {d : Nat} {l1 l2 l3 l4 l5 l6 : AV} {st : List AV} {h : AM} {x : Int} : EV d 31 56 [(2, x), l1, l2, l3, l4, l5, l6] st h = EV d 31 57 [(2, x), l1, l2, l3, l4, l5, l6] ((2, x) :: st) h := G_aload_n (m31 dX4_tryBegin_56) rfl
theorem e31_57 {d : Nat} {L st : List AV} {h : AM} {r : Int} (hk : isK h r 4) : EV d 31 57 L ((2, r) :: st) h = EV d 31 60 L ((2, mrd h r 4) :: st) h := G_get (m31 dX4_tryBegin_57) ow31 tf_4_23 rfl rfl hk
theorem e31_60 {d : Nat} {l0 l1 l3 l4 l5 l6 : AV} {st : List AV} {h : AM} {x : Int} : EV d 31 60 [l0, l1, (0, x), l3, l4, l5, l6] st h = EV d 31 61 [l0, l1, (0, x), l3, l4, l5, l6] ((0, x) :: st) h := G_iload_n (m31 dX4_tryBegin_60) rfl
theorem e31_61 {d : Nat} {L st : List AV} {h : AM} {r j : Int} (hk : inA h r 16 j) : EV d 31 61 L ((0, j) :: (2, r) :: st) h = EV d 31 62 L ((0, mrd h r j) :: st) h := E_iald (m31 dX4_tryBegin_61) hk
theorem e31_62 {d : Nat} {L st : List AV} {h : AM} {a b : Int} : EV d 31 62 L ((0, b) :: (0, a) :: st) h = EV d 31 63 L ((0, w32 (a - b)) :: st) h := E_isub (m31 dX4_tryBegin_62)
theorem e31_63 {d : Nat} {L st : List AV} {h : AM} {a b : Int} : EV d 31 63 L ((0, b) :: (0, a) :: st) h = EV d 31 64 L ((0, w32 (a + b)) :: st) h := E_iadd (m31 dX4_tryBegin_63)
theorem e31_64 {d : Nat} {L st : List AV} {h : AM} {r j v : Int} (hk : inA h r 16 j) : EV d 31 64 L ((0, v) :: (0, j) :: (2, r) :: st) h = EV d 31 65 L st (mwr h r j v) := E_iast (m31 dX4_tryBegin_64) hk
theorem e31_65 {d : Nat} {l1 l2 l3 l4 l5 l6 : AV} {st : List AV} {h : AM} {x : Int} : EV d 31 65 [(2, x), l1, l2, l3, l4, l5, l6] st h = EV d 31 66 [(2, x), l1, l2, l3, l4, l5, l6] ((2, x) :: st) h := G_aload_n (m31 dX4_tryBegin_65) rfl
theorem e31_66 {d : Nat} {L st : List AV} {h : AM} {r : Int} (hk : isK h r 4) : EV d 31 66 L ((2, r) :: st) h = EV d 31 69 L ((2, mrd h r 2) :: st) h := G_get (m31 dX4_tryBegin_66) ow31 tf_4_20 rfl rfl hk
theorem e31_69 {d : Nat} {l0 l1 l3 l4 l5 l6 : AV} {st : List AV} {h : AM} {x : Int} : EV d 31 69 [l0, l1, (0, x), l3, l4, l5, l6] st h = EV d 31 70 [l0, l1, (0, x), l3, l4, l5, l6] ((0, x) :: st) h := G_iload_n (m31 dX4_tryBegin_69) rfl
theorem e31_70 {d : Nat} {L st : List AV} {h : AM} {r j : Int} (hk : inR h r j) : EV d 31 70 L ((0, j) :: (2, r) :: st) h = EV d 31 71 L ((2, mrd h r j) :: st) h := G_aald (m31 dX4_tryBegin_70) hk
theorem e31_71 {d : Nat} {l1 l2 l3 l4 l5 l6 : AV} {st : List AV} {h : AM} {x : Int} : EV d 31 71 [(2, x), l1, l2, l3, l4, l5, l6] st h = EV d 31 72 [(2, x), l1, l2, l3, l4, l5, l6] ((2, x) :: st) h := G_aload_n (m31 dX4_tryBegin_71) rfl
theorem e31_72 {d : Nat} {L st : List AV} {h : AM} {r : Int} (hk : isK h r 4) : EV d 31 72 L ((2, r) :: st) h = EV d 31 75 L ((2, mrd h r 0) :: st) h := G_get (m31 dX4_tryBegin_72) ow31 tf_4_9 rfl rfl hk
theorem e31_75 {d : Nat} {l0 l1 l3 l4 l5 l6 : AV} {st : List AV} {h : AM} {x : Int} : EV d 31 75 [l0, l1, (0, x), l3, l4, l5, l6] st h = EV d 31 76 [l0, l1, (0, x), l3, l4, l5, l6] ((0, x) :: st) h := G_iload_n (m31 dX4_tryBegin_75) rfl
theorem e31_76 {d : Nat} {L st : List AV} {h : AM} {r j : Int} (hk : inA h r 16 j) : EV d 31 76 L ((0, j) :: (2, r) :: st) h = EV d 31 77 L ((0, mrd h r j) :: st) h := E_iald (m31 dX4_tryBegin_76) hk
theorem e31_77 {d : Nat} {l0 l1 l2 l3 l5 l6 : AV} {st : List AV} {h : AM} {x : Int} : EV d 31 77 [l0, l1, l2, l3, (0, x), l5, l6] st h = EV d 31 79 [l0, l1, l2, l3, (0, x), l5, l6] ((0, x) :: st) h := G_iload (m31 dX4_tryBegin_77) rfl
theorem e31_79 {d : Nat} {L st : List AV} {h : AM} {r j v : Int} (hk : inA h r 16 j) : EV d 31 79 L ((0, v) :: (0, j) :: (2, r) :: st) h = EV d 31 80 L st (mwr h r j v) := E_iast (m31 dX4_tryBegin_79) hk
theorem e31_80 {d : Nat} {l1 l2 l3 l4 l5 l6 : AV} {st : List AV} {h : AM} {x : Int} : EV d 31 80 [(2, x), l1, l2, l3, l4, l5, l6] st h = EV d 31 81 [(2, x), l1, l2, l3, l4, l5, l6] ((2, x) :: st) h := G_aload_n (m31 dX4_tryBegin_80) rfl
theorem e31_81 {d : Nat} {L st : List AV} {h : AM} {r : Int} (hk : isK h r 4) : EV d 31 81 L ((2, r) :: st) h = EV d 31 84 L ((2, mrd h r 0) :: st) h := G_get (m31 dX4_tryBegin_81) ow31 tf_4_9 rfl rfl hk
theorem e31_84 {d : Nat} {l0 l1 l3 l4 l5 l6 : AV} {st : List AV} {h : AM} {x : Int} : EV d 31 84 [l0, l1, (0, x), l3, l4, l5, l6] st h = EV d 31 85 [l0, l1, (0, x), l3, l4, l5, l6] ((0, x) :: st) h := G_iload_n (m31 dX4_tryBegin_84) rfl
theorem e31_85 {d : Nat} {L st : List AV} {h : AM} {a b : Int} : EV d 31 85 L ((0, a) :: (2, b) :: st) h = EV d 31 86 L ((0, a) :: (2, b) :: (0, a) :: (2, b) :: st) h := G_dup2 (m31 dX4_tryBegin_85)
theorem e31_86 {d : Nat} {L st : List AV} {h : AM} {r j : Int} (hk : inA h r 16 j) : EV d 31 86 L ((0, j) :: (2, r) :: st) h = EV d 31 87 L ((0, mrd h r j) :: st) h := E_iald (m31 dX4_tryBegin_86) hk
theorem e31_87 {d : Nat} {L st : List AV} {h : AM} : EV d 31 87 L st h = EV d 31 88 L ((0, 1) :: st) h := G_iconst (m31 dX4_tryBegin_87) (by decide)
theorem e31_88 {d : Nat} {L st : List AV} {h : AM} {a b : Int} : EV d 31 88 L ((0, b) :: (0, a) :: st) h = EV d 31 89 L ((0, w32 (a + b)) :: st) h := E_iadd (m31 dX4_tryBegin_88)
theorem e31_89 {d : Nat} {L st : List AV} {h : AM} {r j v : Int} (hk : inA h r 16 j) : EV d 31 89 L ((0, v) :: (0, j) :: (2, r) :: st) h = EV d 31 90 L st (mwr h r j v) := E_iast (m31 dX4_tryBegin_89) hk
theorem e31_90 {d : Nat} {l1 l2 l3 l4 l5 l6 : AV} {st : List AV} {h : AM} {x : Int} : EV d 31 90 [(2, x), l1, l2, l3, l4, l5, l6] st h = EV d 31 91 [(2, x), l1, l2, l3, l4, l5, l6] ((2, x) :: st) h := G_aload_n (m31 dX4_tryBegin_90) rfl
theorem e31_91 {d : Nat} {L st : List AV} {h : AM} {r : Int} (hk : isK h r 4) : EV d 31 91 L ((2, r) :: st) h = EV d 31 94 L ((2, mrd h r 4) :: st) h := G_get (m31 dX4_tryBegin_91) ow31 tf_4_23 rfl rfl hk
theorem e31_94 {d : Nat} {l0 l1 l3 l4 l5 l6 : AV} {st : List AV} {h : AM} {x : Int} : EV d 31 94 [l0, l1, (0, x), l3, l4, l5, l6] st h = EV d 31 95 [l0, l1, (0, x), l3, l4, l5, l6] ((0, x) :: st) h := G_iload_n (m31 dX4_tryBegin_94) rfl
theorem e31_95 {d : Nat} {l0 l1 l2 l3 l4 l5 : AV} {st : List AV} {h : AM} {x : Int} : EV d 31 95 [l0, l1, l2, l3, l4, l5, (0, x)] st h = EV d 31 97 [l0, l1, l2, l3, l4, l5, (0, x)] ((0, x) :: st) h := G_iload (m31 dX4_tryBegin_95) rfl
theorem e31_97 {d : Nat} {L st : List AV} {h : AM} {r j v : Int} (hk : inA h r 16 j) : EV d 31 97 L ((0, v) :: (0, j) :: (2, r) :: st) h = EV d 31 98 L st (mwr h r j v) := E_iast (m31 dX4_tryBegin_97) hk
theorem e31_98 {d : Nat} {l1 l2 l3 l4 l5 l6 : AV} {st : List AV} {h : AM} {x : Int} : EV d 31 98 [(2, x), l1, l2, l3, l4, l5, l6] st h = EV d 31 99 [(2, x), l1, l2, l3, l4, l5, l6] ((2, x) :: st) h := G_aload_n (m31 dX4_tryBegin_98) rfl
theorem e31_99 {d : Nat} {l1 l2 l3 l4 l5 l6 : AV} {st : List AV} {h : AM} {x : Int} : EV d 31 99 [(2, x), l1, l2, l3, l4, l5, l6] st h = EV d 31 100 [(2, x), l1, l2, l3, l4, l5, l6] ((2, x) :: st) h := G_aload_n (m31 dX4_tryBegin_99) rfl
theorem e31_100 {d : Nat} {L st : List AV} {h : AM} {r : Int} (hk : isK h r 4) : EV d 31 100 L ((2, r) :: st) h = EV d 31 103 L ((0, mrd h r 3) :: st) h := G_get (m31 dX4_tryBegin_100) ow31 tf_4_36 rfl rfl hk
theorem e31_103 {d : Nat} {l0 l1 l2 l3 l4 l5 : AV} {st : List AV} {h : AM} {x : Int} : EV d 31 103 [l0, l1, l2, l3, l4, l5, (0, x)] st h = EV d 31 105 [l0, l1, l2, l3, l4, l5, (0, x)] ((0, x) :: st) h := G_iload (m31 dX4_tryBegin_103) rfl
theorem e31_105 {d : Nat} {L st : List AV} {h : AM} {a b : Int} (hs : st.length ≤ 2) : EV (d + 1) 31 105 L ((0, b) :: (0, a) :: st) h = EV (d + 1) 31 108 L ((0, if a < b then b else a) :: st) h := E_max (m31 dX4_tryBegin_105) (rr31 tr_4_73) hs
theorem pk_31_4_3 : pok 31 4 3 0 = true := by decide +kernel
theorem e31_108 {d : Nat} {L st : List AV} {h : AM} {r v : Int} (hk : isK h r 4) : EV d 31 108 L ((0, v) :: (2, r) :: st) h = EV d 31 111 L st (mwr h r 3 v) := G_put (m31 dX4_tryBegin_108) ow31 tf_4_36 pk_31_4_3 rfl hk
theorem e31_111 {d : Nat} {l0 l1 l2 l3 l4 l6 : AV} {st : List AV} {h : AM} {x : Int} : EV d 31 111 [l0, l1, l2, l3, l4, (0, x), l6] st h = EV d 31 113 [l0, l1, l2, l3, l4, (0, x), l6] ((0, x) :: st) h := G_iload (m31 dX4_tryBegin_111) rfl
theorem e31_113 {d : Nat} {L st : List AV} {h : AM} : EV d 31 113 L st h = EV d 31 114 L ((0, -1) :: st) h := G_iconst (m31 dX4_tryBegin_113) (by decide)
theorem e31_114 {d : Nat} {L st : List AV} {h : AM} {a b : Int} : EV d 31 114 L ((0, b) :: (0, a) :: st) h = if a = b then EV d 31 126 L st h else EV d 31 117 L st h := (E_ic (m31 dX4_tryBegin_114) (t := 126) rfl).trans cc_eq
theorem e31_117 {d : Nat} {l1 l2 l3 l4 l5 l6 : AV} {st : List AV} {h : AM} {x : Int} : EV d 31 117 [(2, x), l1, l2, l3, l4, l5, l6] st h = EV d 31 118 [(2, x), l1, l2, l3, l4, l5, l6] ((2, x) :: st) h := G_aload_n (m31 dX4_tryBegin_117) rfl
theorem e31_118 {d : Nat} {L st : List AV} {h : AM} {r : Int} (hk : isK h r 4) : EV d 31 118 L ((2, r) :: st) h = EV d 31 121 L ((2, mrd h r 5) :: st) h := G_get (m31 dX4_tryBegin_118) ow31 tf_4_26 rfl rfl hk
theorem e31_121 {d : Nat} {l0 l1 l2 l3 l4 l6 : AV} {st : List AV} {h : AM} {x : Int} : EV d 31 121 [l0, l1, l2, l3, l4, (0, x), l6] st h = EV d 31 123 [l0, l1, l2, l3, l4, (0, x), l6] ((0, x) :: st) h := G_iload (m31 dX4_tryBegin_121) rfl
theorem e31_123 {d : Nat} {l0 l1 l2 l3 l4 l5 : AV} {st : List AV} {h : AM} {x : Int} : EV d 31 123 [l0, l1, l2, l3, l4, l5, (0, x)] st h = EV d 31 125 [l0, l1, l2, l3, l4, l5, (0, x)] ((0, x) :: st) h := G_iload (m31 dX4_tryBegin_123) rfl
theorem e31_125 {d : Nat} {L st : List AV} {h : AM} {r j v : Int} (hk : inA h r 16 j) : EV d 31 125 L ((0, v) :: (0, j) :: (2, r) :: st) h = EV d 31 126 L st (mwr h r j v) := E_iast (m31 dX4_tryBegin_125) hk
theorem e31_126 {d : Nat} {L st : List AV} {h : AM} : EV d 31 126 L st h = EV d 31 127 L ((0, 1) :: st) h := G_iconst (m31 dX4_tryBegin_126) (by decide)
theorem e31_127 {d : Nat} {L : List AV} {h : AM} {v : Int} (hv : v = 0 ∨ v = 1) : EV d 31 127 L [(0, v)] h = some ((0, v), h) := E_iret (m31 dX4_tryBegin_127) (by rw [rt31]; rcases hv with rfl | rfl <;> rfl)
theorem e32_0 {d : Nat} {l1 l2 l3 l4 l5 : AV} {st : List AV} {h : AM} {x : Int} : EV d 32 0 [(2, x), l1, l2, l3, l4, l5] st h = EV d 32 1 [(2, x), l1, l2, l3, l4, l5] ((2, x) :: st) h := G_aload_n (m32 dX5_init_0) rfl
theorem e32_1 {d : Nat} {L st : List AV} {h : AM} {r : Int} (hs : st.length ≤ 4) (h0 : 0 ≤ r) : EV (d + 1) 32 1 L ((2, r) :: st) h = EV (d + 1) 32 4 L st h := E_oi (m32 dX5_init_1) (rr32 tr_5_3) hs h0
theorem e32_4 {d : Nat} {l1 l2 l3 l4 l5 : AV} {st : List AV} {h : AM} {x : Int} : EV d 32 4 [(2, x), l1, l2, l3, l4, l5] st h = EV d 32 5 [(2, x), l1, l2, l3, l4, l5] ((2, x) :: st) h := G_aload_n (m32 dX5_init_4) rfl
theorem e32_5 {d : Nat} {L st : List AV} {h : AM} : EV d 32 5 L st h = EV d 32 8 L ((0, 900) :: st) h := G_sipush (m32 dX5_init_5) (by decide)
theorem e32_8 {d : Nat} {L st : List AV} {h : AM} {n : Int} (h0 : 0 ≤ n) (h1 : n ≤ 1000000) : EV d 32 8 L ((0, n) :: st) h = EV d 32 10 L ((2, mnx h) :: st) (mal h 17 n (fun _ => 0)) := E_newb (m32 dX5_init_8) ⟨h0, h1⟩
theorem pk_32_5_0 : pok 32 5 0 2 = true := by decide +kernel
theorem e32_10 {d : Nat} {L st : List AV} {h : AM} {r v : Int} (hk : isK h r 5) : EV d 32 10 L ((2, v) :: (2, r) :: st) h = EV d 32 13 L st (mwr h r 0 v) := G_put (m32 dX5_init_10) ow32 tf_5_9 pk_32_5_0 rfl hk
theorem e32_13 {d : Nat} {l1 l2 l3 l4 l5 : AV} {st : List AV} {h : AM} {x : Int} : EV d 32 13 [(2, x), l1, l2, l3, l4, l5] st h = EV d 32 14 [(2, x), l1, l2, l3, l4, l5] ((2, x) :: st) h := G_aload_n (m32 dX5_init_13) rfl
theorem e32_14 {d : Nat} {L st : List AV} {h : AM} : EV d 32 14 L st h = EV d 32 16 L ((0, 23) :: st) h := G_bipush (m32 dX5_init_14) (by decide)
theorem e32_16 {d : Nat} {L st : List AV} {h : AM} {n : Int} (h0 : 0 ≤ n) (h1 : n ≤ 1000000) : EV d 32 16 L ((0, n) :: st) h = EV d 32 18 L ((2, mnx h) :: st) (mal h 19 n (fun _ => 0)) := E_newl (m32 dX5_init_16) ⟨h0, h1⟩
theorem pk_32_5_1 : pok 32 5 1 2 = true := by decide +kernel
theorem e32_18 {d : Nat} {L st : List AV} {h : AM} {r v : Int} (hk : isK h r 5) : EV d 32 18 L ((2, v) :: (2, r) :: st) h = EV d 32 21 L st (mwr h r 1 v) := G_put (m32 dX5_init_18) ow32 tf_5_15 pk_32_5_1 rfl hk
theorem e32_21 {d : Nat} {L st : List AV} {h : AM} : EV d 32 21 L st h = EV d 32 22 L ((0, 0) :: st) h := G_iconst (m32 dX5_init_21) (by decide)
theorem e32_22 {d : Nat} {l0 l1 l2 l3 l4 l5 : AV} {st : List AV} {h : AM} {x : Int} : EV d 32 22 [l0, l1, l2, l3, l4, l5] ((0, x) :: st) h = EV d 32 23 [l0, (0, x), l2, l3, l4, l5] st h := G_istore_n (m32 dX5_init_22) (Nat.le_of_ble_eq_true rfl) rfl
theorem e32_23 {d : Nat} {L st : List AV} {h : AM} : EV d 32 23 L st h = EV d 32 24 L ((1, 0) :: st) h := G_lconst0 (m32 dX5_init_23)
theorem e32_24 {d : Nat} {l0 l1 l2 l3 l4 l5 : AV} {st : List AV} {h : AM} {x : Int} : EV d 32 24 [l0, l1, l2, l3, l4, l5] ((1, x) :: st) h = EV d 32 25 [l0, l1, (1, x), (3, 1), l4, l5] st h := G_lstore_n (m32 dX5_init_24) (Nat.le_of_ble_eq_true rfl) rfl
theorem e32_25 {d : Nat} {L st : List AV} {h : AM} : EV d 32 25 L st h = EV d 32 26 L ((0, 0) :: st) h := G_iconst (m32 dX5_init_25) (by decide)
theorem e32_26 {d : Nat} {l0 l1 l2 l3 l4 l5 : AV} {st : List AV} {h : AM} {x : Int} : EV d 32 26 [l0, l1, l2, l3, l4, l5] ((0, x) :: st) h = EV d 32 28 [l0, l1, l2, l3, (0, x), l5] st h := G_istore (m32 dX5_init_26) (Nat.le_of_ble_eq_true rfl) rfl
theorem e32_28 {d : Nat} {l0 l1 l2 l3 l5 : AV} {st : List AV} {h : AM} {x : Int} : EV d 32 28 [l0, l1, l2, l3, (0, x), l5] st h = EV d 32 30 [l0, l1, l2, l3, (0, x), l5] ((0, x) :: st) h := G_iload (m32 dX5_init_28) rfl
theorem e32_30 {d : Nat} {L st : List AV} {h : AM} : EV d 32 30 L st h = EV d 32 32 L ((2, -3) :: st) h := G_ldcs (m32 dX5_init_30) ow32
theorem e32_35 {d : Nat} {L st : List AV} {h : AM} {a b : Int} : EV d 32 35 L ((0, b) :: (0, a) :: st) h = if a < b then EV d 32 38 L st h else EV d 32 96 L st h := (E_ic (m32 dX5_init_35) (t := 96) rfl).trans cc_ge
theorem e32_38 {d : Nat} {l0 l2 l3 l4 l5 : AV} {st : List AV} {h : AM} {x : Int} : EV d 32 38 [l0, (0, x), l2, l3, l4, l5] st h = EV d 32 39 [l0, (0, x), l2, l3, l4, l5] ((0, x) :: st) h := G_iload_n (m32 dX5_init_38) rfl
theorem e32_39 {d : Nat} {L st : List AV} {h : AM} : EV d 32 39 L st h = EV d 32 41 L ((0, 23) :: st) h := G_bipush (m32 dX5_init_39) (by decide)
theorem e32_41 {d : Nat} {L st : List AV} {h : AM} {a b : Int} : EV d 32 41 L ((0, b) :: (0, a) :: st) h = if a < b then EV d 32 44 L st h else EV d 32 96 L st h := (E_ic (m32 dX5_init_41) (t := 96) rfl).trans cc_ge
theorem e32_44 {d : Nat} {L st : List AV} {h : AM} : EV d 32 44 L st h = EV d 32 46 L ((2, -3) :: st) h := G_ldcs (m32 dX5_init_44) ow32
theorem e32_46 {d : Nat} {l0 l1 l2 l3 l5 : AV} {st : List AV} {h : AM} {x : Int} : EV d 32 46 [l0, l1, l2, l3, (0, x), l5] st h = EV d 32 48 [l0, l1, l2, l3, (0, x), l5] ((0, x) :: st) h := G_iload (m32 dX5_init_46) rfl
theorem e32_51 {d : Nat} {l0 l1 l2 l3 l4 l5 : AV} {st : List AV} {h : AM} {x : Int} : EV d 32 51 [l0, l1, l2, l3, l4, l5] ((0, x) :: st) h = EV d 32 53 [l0, l1, l2, l3, l4, (0, x)] st h := G_istore (m32 dX5_init_51) (Nat.le_of_ble_eq_true rfl) rfl
theorem e32_53 {d : Nat} {l0 l1 l2 l3 l4 : AV} {st : List AV} {h : AM} {x : Int} : EV d 32 53 [l0, l1, l2, l3, l4, (0, x)] st h = EV d 32 55 [l0, l1, l2, l3, l4, (0, x)] ((0, x) :: st) h := G_iload (m32 dX5_init_53) rfl
theorem e32_55 {d : Nat} {L st : List AV} {h : AM} : EV d 32 55 L st h = EV d 32 57 L ((0, 32) :: st) h := G_bipush (m32 dX5_init_55) (by decide)
theorem e32_57 {d : Nat} {L st : List AV} {h : AM} {a b : Int} : EV d 32 57 L ((0, b) :: (0, a) :: st) h = if a = b then EV d 32 60 L st h else EV d 32 75 L st h := (E_ic (m32 dX5_init_57) (t := 75) rfl).trans cc_ne
theorem e32_60 {d : Nat} {l1 l2 l3 l4 l5 : AV} {st : List AV} {h : AM} {x : Int} : EV d 32 60 [(2, x), l1, l2, l3, l4, l5] st h = EV d 32 61 [(2, x), l1, l2, l3, l4, l5] ((2, x) :: st) h := G_aload_n (m32 dX5_init_60) rfl
theorem e32_61 {d : Nat} {L st : List AV} {h : AM} {r : Int} (hk : isK h r 5) : EV d 32 61 L ((2, r) :: st) h = EV d 32 64 L ((2, mrd h r 1) :: st) h := G_get (m32 dX5_init_61) ow32 tf_5_15 rfl rfl hk
theorem e32_64 {d : Nat} {l0 l2 l3 l4 l5 : AV} {st : List AV} {h : AM} {x : Int} : EV d 32 64 [l0, (0, x), l2, l3, l4, l5] st h = EV d 32 65 [l0, (0, x), l2, l3, l4, l5] ((0, x) :: st) h := G_iload_n (m32 dX5_init_64) rfl
theorem e32_65 {d : Nat} {l0 l1 l4 l5 : AV} {st : List AV} {h : AM} {x : Int} : EV d 32 65 [l0, l1, (1, x), (3, 1), l4, l5] st h = EV d 32 66 [l0, l1, (1, x), (3, 1), l4, l5] ((1, x) :: st) h := G_lload_n (m32 dX5_init_65) rfl rfl
theorem e32_66 {d : Nat} {L st : List AV} {h : AM} {r j v : Int} (hk : inA h r 19 j) : EV d 32 66 L ((1, v) :: (0, j) :: (2, r) :: st) h = EV d 32 67 L st (mwr h r j v) := E_last (m32 dX5_init_66) hk
theorem e32_67 {d : Nat} {l0 l2 l3 l4 l5 : AV} {st : List AV} {h : AM} {x : Int} : EV d 32 67 [l0, (0, x), l2, l3, l4, l5] st h = EV d 32 70 [l0, (0, w32 (x + 1)), l2, l3, l4, l5] st h := G_iinc (m32 dX5_init_67) rfl rfl
theorem e32_70 {d : Nat} {L st : List AV} {h : AM} : EV d 32 70 L st h = EV d 32 71 L ((1, 0) :: st) h := G_lconst0 (m32 dX5_init_70)
theorem e32_71 {d : Nat} {l0 l1 l2 l3 l4 l5 : AV} {st : List AV} {h : AM} {x : Int} : EV d 32 71 [l0, l1, l2, l3, l4, l5] ((1, x) :: st) h = EV d 32 72 [l0, l1, (1, x), (3, 1), l4, l5] st h := G_lstore_n (m32 dX5_init_71) (Nat.le_of_ble_eq_true rfl) rfl
theorem e32_72 {d : Nat} {L st : List AV} {h : AM} : EV d 32 72 L st h = EV d 32 90 L st h := G_goto (m32 dX5_init_72) rfl
theorem e32_75 {d : Nat} {l0 l1 l4 l5 : AV} {st : List AV} {h : AM} {x : Int} : EV d 32 75 [l0, l1, (1, x), (3, 1), l4, l5] st h = EV d 32 76 [l0, l1, (1, x), (3, 1), l4, l5] ((1, x) :: st) h := G_lload_n (m32 dX5_init_75) rfl rfl
theorem e32_76 {d : Nat} {L st : List AV} {h : AM} : EV d 32 76 L st h = EV d 32 79 L ((1, 32) :: st) h := G_ldc2 (m32 dX5_init_76) ow32 tl_5_31 (by decide)
theorem e32_79 {d : Nat} {L st : List AV} {h : AM} {a b : Int} : EV d 32 79 L ((1, b) :: (1, a) :: st) h = EV d 32 80 L ((1, w64 (a * b)) :: st) h := E_lmul (m32 dX5_init_79)
theorem e32_80 {d : Nat} {l0 l1 l2 l3 l4 : AV} {st : List AV} {h : AM} {x : Int} : EV d 32 80 [l0, l1, l2, l3, l4, (0, x)] st h = EV d 32 82 [l0, l1, l2, l3, l4, (0, x)] ((0, x) :: st) h := G_iload (m32 dX5_init_80) rfl
theorem e32_82 {d : Nat} {L st : List AV} {h : AM} : EV d 32 82 L st h = EV d 32 84 L ((0, 97) :: st) h := G_bipush (m32 dX5_init_82) (by decide)
theorem e32_84 {d : Nat} {L st : List AV} {h : AM} {a b : Int} : EV d 32 84 L ((0, b) :: (0, a) :: st) h = EV d 32 85 L ((0, w32 (a - b)) :: st) h := E_isub (m32 dX5_init_84)
theorem e32_85 {d : Nat} {L st : List AV} {h : AM} : EV d 32 85 L st h = EV d 32 86 L ((0, 1) :: st) h := G_iconst (m32 dX5_init_85) (by decide)
theorem e32_86 {d : Nat} {L st : List AV} {h : AM} {a b : Int} : EV d 32 86 L ((0, b) :: (0, a) :: st) h = EV d 32 87 L ((0, w32 (a + b)) :: st) h := E_iadd (m32 dX5_init_86)
theorem e32_87 {d : Nat} {L st : List AV} {h : AM} {a : Int} : EV d 32 87 L ((0, a) :: st) h = EV d 32 88 L ((1, a) :: st) h := G_i2l (m32 dX5_init_87)
theorem e32_88 {d : Nat} {L st : List AV} {h : AM} {a b : Int} : EV d 32 88 L ((1, b) :: (1, a) :: st) h = EV d 32 89 L ((1, w64 (a + b)) :: st) h := E_ladd (m32 dX5_init_88)
theorem e32_89 {d : Nat} {l0 l1 l2 l3 l4 l5 : AV} {st : List AV} {h : AM} {x : Int} : EV d 32 89 [l0, l1, l2, l3, l4, l5] ((1, x) :: st) h = EV d 32 90 [l0, l1, (1, x), (3, 1), l4, l5] st h := G_lstore_n (m32 dX5_init_89) (Nat.le_of_ble_eq_true rfl) rfl
theorem e32_90 {d : Nat} {l0 l1 l2 l3 l5 : AV} {st : List AV} {h : AM} {x : Int} : EV d 32 90 [l0, l1, l2, l3, (0, x), l5] st h = EV d 32 93 [l0, l1, l2, l3, (0, w32 (x + 1)), l5] st h := G_iinc (m32 dX5_init_90) rfl rfl
theorem e32_93 {d : Nat} {L st : List AV} {h : AM} : EV d 32 93 L st h = EV d 32 28 L st h := G_goto (m32 dX5_init_93) rfl
theorem e32_96 {d : Nat} {L : List AV} {h : AM} : EV d 32 96 L [] h = some ((3, 0), h) := E_ret (m32 dX5_init_96) rt32
theorem e33_0 {d : Nat} {L st : List AV} {h : AM} : EV d 33 0 L st h = EV d 33 2 L ((0, 24) :: st) h := G_bipush (m33 dX5_takeIn_0) (by decide)
theorem e33_2 {d : Nat} {l0 l1 l2 : AV} {st : List AV} {h : AM} {x : Int} : EV d 33 2 [l0, l1, l2] ((0, x) :: st) h = EV d 33 3 [l0, l1, (0, x)] st h := G_istore_n (m33 dX5_takeIn_2) (Nat.le_of_ble_eq_true rfl) rfl
theorem e33_3 {d : Nat} {l0 l1 : AV} {st : List AV} {h : AM} {x : Int} : EV d 33 3 [l0, l1, (0, x)] st h = EV d 33 4 [l0, l1, (0, x)] ((0, x) :: st) h := G_iload_n (m33 dX5_takeIn_3) rfl
theorem e33_4 {d : Nat} {L st : List AV} {h : AM} {a : Int} : EV d 33 4 L ((0, a) :: st) h = if a < 0 then EV d 33 46 L st h else EV d 33 7 L st h := (E_if (m33 dX5_takeIn_4) (t := 46) rfl).trans cc_lt
theorem e33_7 {d : Nat} {l1 l2 : AV} {st : List AV} {h : AM} {x : Int} : EV d 33 7 [(2, x), l1, l2] st h = EV d 33 8 [(2, x), l1, l2] ((2, x) :: st) h := G_aload_n (m33 dX5_takeIn_7) rfl
theorem e33_8 {d : Nat} {L st : List AV} {h : AM} {r : Int} (hk : isK h r 5) : EV d 33 8 L ((2, r) :: st) h = EV d 33 11 L ((0, mrd h r 2) :: st) h := G_get (m33 dX5_takeIn_8) ow33 tf_5_33 rfl rfl hk
theorem e33_11 {d : Nat} {L st : List AV} {h : AM} : EV d 33 11 L st h = EV d 33 14 L ((0, 900) :: st) h := G_sipush (m33 dX5_takeIn_11) (by decide)
theorem e33_14 {d : Nat} {L st : List AV} {h : AM} {a b : Int} : EV d 33 14 L ((0, b) :: (0, a) :: st) h = if a < b then EV d 33 17 L st h else EV d 33 46 L st h := (E_ic (m33 dX5_takeIn_14) (t := 46) rfl).trans cc_ge
theorem e33_17 {d : Nat} {l1 l2 : AV} {st : List AV} {h : AM} {x : Int} : EV d 33 17 [(2, x), l1, l2] st h = EV d 33 18 [(2, x), l1, l2] ((2, x) :: st) h := G_aload_n (m33 dX5_takeIn_17) rfl
theorem e33_18 {d : Nat} {L st : List AV} {h : AM} {r : Int} (hk : isK h r 5) : EV d 33 18 L ((2, r) :: st) h = EV d 33 21 L ((2, mrd h r 0) :: st) h := G_get (m33 dX5_takeIn_18) ow33 tf_5_9 rfl rfl hk
theorem e33_21 {d : Nat} {l1 l2 : AV} {st : List AV} {h : AM} {x : Int} : EV d 33 21 [(2, x), l1, l2] st h = EV d 33 22 [(2, x), l1, l2] ((2, x) :: st) h := G_aload_n (m33 dX5_takeIn_21) rfl
theorem e33_22 {d : Nat} {L st : List AV} {h : AM} {r : Int} (hk : isK h r 5) : EV d 33 22 L ((2, r) :: st) h = EV d 33 25 L ((0, mrd h r 2) :: st) h := G_get (m33 dX5_takeIn_22) ow33 tf_5_33 rfl rfl hk
theorem e33_25 {d : Nat} {l0 l2 : AV} {st : List AV} {h : AM} {x : Int} : EV d 33 25 [l0, (0, x), l2] st h = EV d 33 26 [l0, (0, x), l2] ((0, x) :: st) h := G_iload_n (m33 dX5_takeIn_25) rfl
theorem e33_26 {d : Nat} {l0 l1 : AV} {st : List AV} {h : AM} {x : Int} : EV d 33 26 [l0, l1, (0, x)] st h = EV d 33 27 [l0, l1, (0, x)] ((0, x) :: st) h := G_iload_n (m33 dX5_takeIn_26) rfl
theorem e33_27 {d : Nat} {L st : List AV} {h : AM} {a b : Int} : EV d 33 27 L ((0, b) :: (0, a) :: st) h = EV d 33 28 L ((0, i_shr a b) :: st) h := E_ishr (m33 dX5_takeIn_27)
theorem e33_28 {d : Nat} {L st : List AV} {h : AM} {a : Int} : EV d 33 28 L ((0, a) :: st) h = EV d 33 29 L ((0, w8 a) :: st) h := G_i2b (m33 dX5_takeIn_28)
theorem e33_29 {d : Nat} {L st : List AV} {h : AM} {r j v : Int} (hk : inA h r 17 j) : EV d 33 29 L ((0, v) :: (0, j) :: (2, r) :: st) h = EV d 33 30 L st (mwr h r j (w8 v)) := E_bast (m33 dX5_takeIn_29) hk
theorem e33_29z {d : Nat} {L st : List AV} {h : AM} {r j v : Int} (hk : inA h r 18 j) (hv : v = 0 ∨ v = 1) : EV d 33 29 L ((0, v) :: (0, j) :: (2, r) :: st) h = EV d 33 30 L st (mwr h r j v) := E_zast (m33 dX5_takeIn_29) hk hv
theorem e33_30 {d : Nat} {l1 l2 : AV} {st : List AV} {h : AM} {x : Int} : EV d 33 30 [(2, x), l1, l2] st h = EV d 33 31 [(2, x), l1, l2] ((2, x) :: st) h := G_aload_n (m33 dX5_takeIn_30) rfl
theorem e33_31 {d : Nat} {L st : List AV} {h : AM} {a : Int} : EV d 33 31 L ((2, a) :: st) h = EV d 33 32 L ((2, a) :: (2, a) :: st) h := G_dup2r (m33 dX5_takeIn_31)
theorem e33_31i {d : Nat} {L st : List AV} {h : AM} {a : Int} : EV d 33 31 L ((0, a) :: st) h = EV d 33 32 L ((0, a) :: (0, a) :: st) h := G_dupi (m33 dX5_takeIn_31)
theorem e33_32 {d : Nat} {L st : List AV} {h : AM} {r : Int} (hk : isK h r 5) : EV d 33 32 L ((2, r) :: st) h = EV d 33 35 L ((0, mrd h r 2) :: st) h := G_get (m33 dX5_takeIn_32) ow33 tf_5_33 rfl rfl hk
theorem e33_35 {d : Nat} {L st : List AV} {h : AM} : EV d 33 35 L st h = EV d 33 36 L ((0, 1) :: st) h := G_iconst (m33 dX5_takeIn_35) (by decide)
theorem e33_36 {d : Nat} {L st : List AV} {h : AM} {a b : Int} : EV d 33 36 L ((0, b) :: (0, a) :: st) h = EV d 33 37 L ((0, w32 (a + b)) :: st) h := E_iadd (m33 dX5_takeIn_36)
theorem pk_33_5_2 : pok 33 5 2 0 = true := by decide +kernel
theorem e33_37 {d : Nat} {L st : List AV} {h : AM} {r v : Int} (hk : isK h r 5) : EV d 33 37 L ((0, v) :: (2, r) :: st) h = EV d 33 40 L st (mwr h r 2 v) := G_put (m33 dX5_takeIn_37) ow33 tf_5_33 pk_33_5_2 rfl hk
theorem e33_40 {d : Nat} {l0 l1 : AV} {st : List AV} {h : AM} {x : Int} : EV d 33 40 [l0, l1, (0, x)] st h = EV d 33 43 [l0, l1, (0, w32 (x + (-8)))] st h := G_iinc (m33 dX5_takeIn_40) rfl rfl
theorem e33_43 {d : Nat} {L st : List AV} {h : AM} : EV d 33 43 L st h = EV d 33 3 L st h := G_goto (m33 dX5_takeIn_43) rfl
theorem e33_46 {d : Nat} {L : List AV} {h : AM} : EV d 33 46 L [] h = some ((3, 0), h) := E_ret (m33 dX5_takeIn_46) rt33
theorem e34_0 {d : Nat} {l1 : AV} {st : List AV} {h : AM} {x : Int} : EV d 34 0 [(2, x), l1] st h = EV d 34 1 [(2, x), l1] ((2, x) :: st) h := G_aload_n (m34 dX5_begin_0) rfl
theorem e34_1 {d : Nat} {l0 : AV} {st : List AV} {h : AM} {x : Int} : EV d 34 1 [l0, (0, x)] st h = EV d 34 2 [l0, (0, x)] ((0, x) :: st) h := G_iload_n (m34 dX5_begin_1) rfl
theorem pk_34_5_3 : pok 34 5 3 0 = true := by decide +kernel
theorem e34_2 {d : Nat} {L st : List AV} {h : AM} {r v : Int} (hk : isK h r 5) : EV d 34 2 L ((0, v) :: (2, r) :: st) h = EV d 34 5 L st (mwr h r 3 v) := G_put (m34 dX5_begin_2) ow34 tf_5_37 pk_34_5_3 rfl hk
theorem e34_5 {d : Nat} {l1 : AV} {st : List AV} {h : AM} {x : Int} : EV d 34 5 [(2, x), l1] st h = EV d 34 6 [(2, x), l1] ((2, x) :: st) h := G_aload_n (m34 dX5_begin_5) rfl
theorem e34_6 {d : Nat} {L st : List AV} {h : AM} : EV d 34 6 L st h = EV d 34 7 L ((0, 0) :: st) h := G_iconst (m34 dX5_begin_6) (by decide)
theorem pk_34_5_4 : pok 34 5 4 0 = true := by decide +kernel
theorem e34_7 {d : Nat} {L st : List AV} {h : AM} {r v : Int} (hk : isK h r 5) : EV d 34 7 L ((0, v) :: (2, r) :: st) h = EV d 34 10 L st (mwr h r 4 v) := G_put (m34 dX5_begin_7) ow34 tf_5_40 pk_34_5_4 rfl hk
theorem e34_10 {d : Nat} {l1 : AV} {st : List AV} {h : AM} {x : Int} : EV d 34 10 [(2, x), l1] st h = EV d 34 11 [(2, x), l1] ((2, x) :: st) h := G_aload_n (m34 dX5_begin_10) rfl
theorem e34_11 {d : Nat} {L st : List AV} {h : AM} : EV d 34 11 L st h = EV d 34 12 L ((0, 0) :: st) h := G_iconst (m34 dX5_begin_11) (by decide)
theorem pk_34_5_9 : pok 34 5 9 0 = true := by decide +kernel
theorem e34_12 {d : Nat} {L st : List AV} {h : AM} {r v : Int} (hk : isK h r 5) : EV d 34 12 L ((0, v) :: (2, r) :: st) h = EV d 34 15 L st (mwr h r 9 v) := G_put (m34 dX5_begin_12) ow34 tf_5_43 pk_34_5_9 rfl hk
theorem e34_15 {d : Nat} {l1 : AV} {st : List AV} {h : AM} {x : Int} : EV d 34 15 [(2, x), l1] st h = EV d 34 16 [(2, x), l1] ((2, x) :: st) h := G_aload_n (m34 dX5_begin_15) rfl
theorem e34_16 {d : Nat} {L st : List AV} {h : AM} : EV d 34 16 L st h = EV d 34 17 L ((0, -1) :: st) h := G_iconst (m34 dX5_begin_16) (by decide)
theorem pk_34_5_10 : pok 34 5 10 0 = true := by decide +kernel
theorem e34_17 {d : Nat} {L st : List AV} {h : AM} {r v : Int} (hk : isK h r 5) : EV d 34 17 L ((0, v) :: (2, r) :: st) h = EV d 34 20 L st (mwr h r 10 v) := G_put (m34 dX5_begin_17) ow34 tf_5_46 pk_34_5_10 rfl hk
theorem e34_20 {d : Nat} {l1 : AV} {st : List AV} {h : AM} {x : Int} : EV d 34 20 [(2, x), l1] st h = EV d 34 21 [(2, x), l1] ((2, x) :: st) h := G_aload_n (m34 dX5_begin_20) rfl
theorem e34_21 {d : Nat} {L st : List AV} {h : AM} {r : Int} (hs : st.length ≤ 4) (hk : isK h r 5) : EV (d + 1) 34 21 L ((2, r) :: st) h = (EV d 35 0 [(2, r)] [] h).bind (fun q => EV (d + 1) 34 24 L (psh q.1 st) q.2) := G_cv [] (m34 dX5_begin_21) ow34 tr_5_49 (by decide) td35 np35 ml35 ow35 rfl rfl (Nat.le_of_ble_eq_true rfl) rfl hs hk
theorem e34_24 {d : Nat} {L : List AV} {h : AM} : EV d 34 24 L [] h = some ((3, 0), h) := E_ret (m34 dX5_begin_24) rt34
theorem e35_0 {d : Nat} {st : List AV} {h : AM} {x : Int} : EV d 35 0 [(2, x)] st h = EV d 35 1 [(2, x)] ((2, x) :: st) h := G_aload_n (m35 dX5_advance_0) rfl
theorem e35_1 {d : Nat} {L st : List AV} {h : AM} {r : Int} (hk : isK h r 5) : EV d 35 1 L ((2, r) :: st) h = EV d 35 4 L ((0, mrd h r 4) :: st) h := G_get (m35 dX5_advance_1) ow35 tf_5_40 rfl rfl hk
theorem e35_4 {d : Nat} {st : List AV} {h : AM} {x : Int} : EV d 35 4 [(2, x)] st h = EV d 35 5 [(2, x)] ((2, x) :: st) h := G_aload_n (m35 dX5_advance_4) rfl
theorem e35_5 {d : Nat} {L st : List AV} {h : AM} {r : Int} (hk : isK h r 5) : EV d 35 5 L ((2, r) :: st) h = EV d 35 8 L ((0, mrd h r 3) :: st) h := G_get (m35 dX5_advance_5) ow35 tf_5_37 rfl rfl hk
theorem e35_8 {d : Nat} {L st : List AV} {h : AM} {a b : Int} : EV d 35 8 L ((0, b) :: (0, a) :: st) h = if a < b then EV d 35 11 L st h else EV d 35 52 L st h := (E_ic (m35 dX5_advance_8) (t := 52) rfl).trans cc_ge
theorem e35_11 {d : Nat} {st : List AV} {h : AM} {x : Int} : EV d 35 11 [(2, x)] st h = EV d 35 12 [(2, x)] ((2, x) :: st) h := G_aload_n (m35 dX5_advance_11) rfl
theorem e35_12 {d : Nat} {L st : List AV} {h : AM} {r : Int} (hk : isK h r 5) : EV d 35 12 L ((2, r) :: st) h = EV d 35 15 L ((2, mrd h r 0) :: st) h := G_get (m35 dX5_advance_12) ow35 tf_5_9 rfl rfl hk
theorem e35_15 {d : Nat} {st : List AV} {h : AM} {x : Int} : EV d 35 15 [(2, x)] st h = EV d 35 16 [(2, x)] ((2, x) :: st) h := G_aload_n (m35 dX5_advance_15) rfl
theorem e35_16 {d : Nat} {L st : List AV} {h : AM} {r : Int} (hk : isK h r 5) : EV d 35 16 L ((2, r) :: st) h = EV d 35 19 L ((0, mrd h r 4) :: st) h := G_get (m35 dX5_advance_16) ow35 tf_5_40 rfl rfl hk
theorem e35_19 {d : Nat} {L st : List AV} {h : AM} {r j : Int} (hk : inA h r 17 j) : EV d 35 19 L ((0, j) :: (2, r) :: st) h = EV d 35 20 L ((0, mrd h r j) :: st) h := E_bald (m35 dX5_advance_19) hk
theorem e35_19z {d : Nat} {L st : List AV} {h : AM} {r j : Int} (hk : inA h r 18 j) : EV d 35 19 L ((0, j) :: (2, r) :: st) h = EV d 35 20 L ((0, mrd h r j) :: st) h := E_zald (m35 dX5_advance_19) hk
theorem e35_20 {d : Nat} {L st : List AV} {h : AM} : EV d 35 20 L st h = EV d 35 22 L ((0, 32) :: st) h := G_bipush (m35 dX5_advance_20) (by decide)
theorem e35_22 {d : Nat} {L st : List AV} {h : AM} {a b : Int} : EV d 35 22 L ((0, b) :: (0, a) :: st) h = if a = b then EV d 35 39 L st h else EV d 35 25 L st h := (E_ic (m35 dX5_advance_22) (t := 39) rfl).trans cc_eq
theorem e35_25 {d : Nat} {st : List AV} {h : AM} {x : Int} : EV d 35 25 [(2, x)] st h = EV d 35 26 [(2, x)] ((2, x) :: st) h := G_aload_n (m35 dX5_advance_25) rfl
theorem e35_26 {d : Nat} {L st : List AV} {h : AM} {r : Int} (hk : isK h r 5) : EV d 35 26 L ((2, r) :: st) h = EV d 35 29 L ((2, mrd h r 0) :: st) h := G_get (m35 dX5_advance_26) ow35 tf_5_9 rfl rfl hk
theorem e35_29 {d : Nat} {st : List AV} {h : AM} {x : Int} : EV d 35 29 [(2, x)] st h = EV d 35 30 [(2, x)] ((2, x) :: st) h := G_aload_n (m35 dX5_advance_29) rfl
theorem e35_30 {d : Nat} {L st : List AV} {h : AM} {r : Int} (hk : isK h r 5) : EV d 35 30 L ((2, r) :: st) h = EV d 35 33 L ((0, mrd h r 4) :: st) h := G_get (m35 dX5_advance_30) ow35 tf_5_40 rfl rfl hk
theorem e35_33 {d : Nat} {L st : List AV} {h : AM} {r j : Int} (hk : inA h r 17 j) : EV d 35 33 L ((0, j) :: (2, r) :: st) h = EV d 35 34 L ((0, mrd h r j) :: st) h := E_bald (m35 dX5_advance_33) hk
theorem e35_33z {d : Nat} {L st : List AV} {h : AM} {r j : Int} (hk : inA h r 18 j) : EV d 35 33 L ((0, j) :: (2, r) :: st) h = EV d 35 34 L ((0, mrd h r j) :: st) h := E_zald (m35 dX5_advance_33) hk
theorem e35_34 {d : Nat} {L st : List AV} {h : AM} : EV d 35 34 L st h = EV d 35 36 L ((0, 10) :: st) h := G_bipush (m35 dX5_advance_34) (by decide)
theorem e35_36 {d : Nat} {L st : List AV} {h : AM} {a b : Int} : EV d 35 36 L ((0, b) :: (0, a) :: st) h = if a = b then EV d 35 39 L st h else EV d 35 52 L st h := (E_ic (m35 dX5_advance_36) (t := 52) rfl).trans cc_ne
theorem e35_39 {d : Nat} {st : List AV} {h : AM} {x : Int} : EV d 35 39 [(2, x)] st h = EV d 35 40 [(2, x)] ((2, x) :: st) h := G_aload_n (m35 dX5_advance_39) rfl
theorem e35_40 {d : Nat} {L st : List AV} {h : AM} {a : Int} : EV d 35 40 L ((2, a) :: st) h = EV d 35 41 L ((2, a) :: (2, a) :: st) h := G_dup2r (m35 dX5_advance_40)
theorem e35_40i {d : Nat} {L st : List AV} {h : AM} {a : Int} : EV d 35 40 L ((0, a) :: st) h = EV d 35 41 L ((0, a) :: (0, a) :: st) h := G_dupi (m35 dX5_advance_40)
theorem e35_41 {d : Nat} {L st : List AV} {h : AM} {r : Int} (hk : isK h r 5) : EV d 35 41 L ((2, r) :: st) h = EV d 35 44 L ((0, mrd h r 4) :: st) h := G_get (m35 dX5_advance_41) ow35 tf_5_40 rfl rfl hk
theorem e35_44 {d : Nat} {L st : List AV} {h : AM} : EV d 35 44 L st h = EV d 35 45 L ((0, 1) :: st) h := G_iconst (m35 dX5_advance_44) (by decide)
theorem e35_45 {d : Nat} {L st : List AV} {h : AM} {a b : Int} : EV d 35 45 L ((0, b) :: (0, a) :: st) h = EV d 35 46 L ((0, w32 (a + b)) :: st) h := E_iadd (m35 dX5_advance_45)
theorem pk_35_5_4 : pok 35 5 4 0 = true := by decide +kernel
theorem e35_46 {d : Nat} {L st : List AV} {h : AM} {r v : Int} (hk : isK h r 5) : EV d 35 46 L ((0, v) :: (2, r) :: st) h = EV d 35 49 L st (mwr h r 4 v) := G_put (m35 dX5_advance_46) ow35 tf_5_40 pk_35_5_4 rfl hk
theorem e35_49 {d : Nat} {L st : List AV} {h : AM} : EV d 35 49 L st h = EV d 35 0 L st h := G_goto (m35 dX5_advance_49) rfl
theorem e35_52 {d : Nat} {st : List AV} {h : AM} {x : Int} : EV d 35 52 [(2, x)] st h = EV d 35 53 [(2, x)] ((2, x) :: st) h := G_aload_n (m35 dX5_advance_52) rfl
theorem e35_53 {d : Nat} {st : List AV} {h : AM} {x : Int} : EV d 35 53 [(2, x)] st h = EV d 35 54 [(2, x)] ((2, x) :: st) h := G_aload_n (m35 dX5_advance_53) rfl
theorem e35_54 {d : Nat} {L st : List AV} {h : AM} {r : Int} (hk : isK h r 5) : EV d 35 54 L ((2, r) :: st) h = EV d 35 57 L ((0, mrd h r 4) :: st) h := G_get (m35 dX5_advance_54) ow35 tf_5_40 rfl rfl hk
theorem pk_35_5_6 : pok 35 5 6 0 = true := by decide +kernel
theorem e35_57 {d : Nat} {L st : List AV} {h : AM} {r v : Int} (hk : isK h r 5) : EV d 35 57 L ((0, v) :: (2, r) :: st) h = EV d 35 60 L st (mwr h r 6 v) := G_put (m35 dX5_advance_57) ow35 tf_5_52 pk_35_5_6 rfl hk
theorem e35_60 {d : Nat} {st : List AV} {h : AM} {x : Int} : EV d 35 60 [(2, x)] st h = EV d 35 61 [(2, x)] ((2, x) :: st) h := G_aload_n (m35 dX5_advance_60) rfl
theorem e35_61 {d : Nat} {L st : List AV} {h : AM} : EV d 35 61 L st h = EV d 35 62 L ((1, 0) :: st) h := G_lconst0 (m35 dX5_advance_61)
theorem pk_35_5_7 : pok 35 5 7 1 = true := by decide +kernel
theorem e35_62 {d : Nat} {L st : List AV} {h : AM} {r v : Int} (hk : isK h r 5) : EV d 35 62 L ((1, v) :: (2, r) :: st) h = EV d 35 65 L st (mwr h r 7 v) := G_put (m35 dX5_advance_62) ow35 tf_5_55 pk_35_5_7 rfl hk
theorem e35_65 {d : Nat} {st : List AV} {h : AM} {x : Int} : EV d 35 65 [(2, x)] st h = EV d 35 66 [(2, x)] ((2, x) :: st) h := G_aload_n (m35 dX5_advance_65) rfl
theorem e35_66 {d : Nat} {L st : List AV} {h : AM} : EV d 35 66 L st h = EV d 35 67 L ((0, -1) :: st) h := G_iconst (m35 dX5_advance_66) (by decide)
theorem pk_35_5_8 : pok 35 5 8 0 = true := by decide +kernel
theorem e35_67 {d : Nat} {L st : List AV} {h : AM} {r v : Int} (hk : isK h r 5) : EV d 35 67 L ((0, v) :: (2, r) :: st) h = EV d 35 70 L st (mwr h r 8 v) := G_put (m35 dX5_advance_67) ow35 tf_5_59 pk_35_5_8 rfl hk
theorem e35_70 {d : Nat} {st : List AV} {h : AM} {x : Int} : EV d 35 70 [(2, x)] st h = EV d 35 71 [(2, x)] ((2, x) :: st) h := G_aload_n (m35 dX5_advance_70) rfl
theorem e35_71 {d : Nat} {L st : List AV} {h : AM} {r : Int} (hk : isK h r 5) : EV d 35 71 L ((2, r) :: st) h = EV d 35 74 L ((0, mrd h r 4) :: st) h := G_get (m35 dX5_advance_71) ow35 tf_5_40 rfl rfl hk
theorem e35_74 {d : Nat} {st : List AV} {h : AM} {x : Int} : EV d 35 74 [(2, x)] st h = EV d 35 75 [(2, x)] ((2, x) :: st) h := G_aload_n (m35 dX5_advance_74) rfl
theorem e35_75 {d : Nat} {L st : List AV} {h : AM} {r : Int} (hk : isK h r 5) : EV d 35 75 L ((2, r) :: st) h = EV d 35 78 L ((0, mrd h r 3) :: st) h := G_get (m35 dX5_advance_75) ow35 tf_5_37 rfl rfl hk
theorem e35_78 {d : Nat} {L st : List AV} {h : AM} {a b : Int} : EV d 35 78 L ((0, b) :: (0, a) :: st) h = if a < b then EV d 35 89 L st h else EV d 35 81 L st h := (E_ic (m35 dX5_advance_78) (t := 89) rfl).trans cc_lt
theorem e35_81 {d : Nat} {st : List AV} {h : AM} {x : Int} : EV d 35 81 [(2, x)] st h = EV d 35 82 [(2, x)] ((2, x) :: st) h := G_aload_n (m35 dX5_advance_81) rfl
theorem e35_82 {d : Nat} {L st : List AV} {h : AM} : EV d 35 82 L st h = EV d 35 83 L ((0, 0) :: st) h := G_iconst (m35 dX5_advance_82) (by decide)
theorem pk_35_5_5 : pok 35 5 5 0 = true := by decide +kernel
theorem e35_83 {d : Nat} {L st : List AV} {h : AM} {r v : Int} (hk : isK h r 5) : EV d 35 83 L ((0, v) :: (2, r) :: st) h = EV d 35 86 L st (mwr h r 5 v) := G_put (m35 dX5_advance_83) ow35 tf_5_62 pk_35_5_5 rfl hk
theorem e35_86 {d : Nat} {L st : List AV} {h : AM} : EV d 35 86 L st h = EV d 35 252 L st h := G_goto (m35 dX5_advance_86) rfl
theorem e35_89 {d : Nat} {st : List AV} {h : AM} {x : Int} : EV d 35 89 [(2, x)] st h = EV d 35 90 [(2, x)] ((2, x) :: st) h := G_aload_n (m35 dX5_advance_89) rfl
theorem e35_90 {d : Nat} {L st : List AV} {h : AM} {r : Int} (hk : isK h r 5) : EV d 35 90 L ((2, r) :: st) h = EV d 35 93 L ((2, mrd h r 0) :: st) h := G_get (m35 dX5_advance_90) ow35 tf_5_9 rfl rfl hk
theorem e35_93 {d : Nat} {st : List AV} {h : AM} {x : Int} : EV d 35 93 [(2, x)] st h = EV d 35 94 [(2, x)] ((2, x) :: st) h := G_aload_n (m35 dX5_advance_93) rfl
theorem e35_94 {d : Nat} {L st : List AV} {h : AM} {r : Int} (hk : isK h r 5) : EV d 35 94 L ((2, r) :: st) h = EV d 35 97 L ((0, mrd h r 4) :: st) h := G_get (m35 dX5_advance_94) ow35 tf_5_40 rfl rfl hk
theorem e35_97 {d : Nat} {L st : List AV} {h : AM} {r j : Int} (hk : inA h r 17 j) : EV d 35 97 L ((0, j) :: (2, r) :: st) h = EV d 35 98 L ((0, mrd h r j) :: st) h := E_bald (m35 dX5_advance_97) hk
theorem e35_97z {d : Nat} {L st : List AV} {h : AM} {r j : Int} (hk : inA h r 18 j) : EV d 35 97 L ((0, j) :: (2, r) :: st) h = EV d 35 98 L ((0, mrd h r j) :: st) h := E_zald (m35 dX5_advance_97) hk
theorem e35_98 {d : Nat} {L st : List AV} {h : AM} : EV d 35 98 L st h = EV d 35 100 L ((0, 97) :: st) h := G_bipush (m35 dX5_advance_98) (by decide)
theorem e35_100 {d : Nat} {L st : List AV} {h : AM} {a b : Int} : EV d 35 100 L ((0, b) :: (0, a) :: st) h = if a < b then EV d 35 124 L st h else EV d 35 103 L st h := (E_ic (m35 dX5_advance_100) (t := 124) rfl).trans cc_lt
theorem e35_103 {d : Nat} {st : List AV} {h : AM} {x : Int} : EV d 35 103 [(2, x)] st h = EV d 35 104 [(2, x)] ((2, x) :: st) h := G_aload_n (m35 dX5_advance_103) rfl
theorem e35_104 {d : Nat} {L st : List AV} {h : AM} {r : Int} (hk : isK h r 5) : EV d 35 104 L ((2, r) :: st) h = EV d 35 107 L ((2, mrd h r 0) :: st) h := G_get (m35 dX5_advance_104) ow35 tf_5_9 rfl rfl hk
theorem e35_107 {d : Nat} {st : List AV} {h : AM} {x : Int} : EV d 35 107 [(2, x)] st h = EV d 35 108 [(2, x)] ((2, x) :: st) h := G_aload_n (m35 dX5_advance_107) rfl
theorem e35_108 {d : Nat} {L st : List AV} {h : AM} {r : Int} (hk : isK h r 5) : EV d 35 108 L ((2, r) :: st) h = EV d 35 111 L ((0, mrd h r 4) :: st) h := G_get (m35 dX5_advance_108) ow35 tf_5_40 rfl rfl hk
theorem e35_111 {d : Nat} {L st : List AV} {h : AM} {r j : Int} (hk : inA h r 17 j) : EV d 35 111 L ((0, j) :: (2, r) :: st) h = EV d 35 112 L ((0, mrd h r j) :: st) h := E_bald (m35 dX5_advance_111) hk
theorem e35_111z {d : Nat} {L st : List AV} {h : AM} {r j : Int} (hk : inA h r 18 j) : EV d 35 111 L ((0, j) :: (2, r) :: st) h = EV d 35 112 L ((0, mrd h r j) :: st) h := E_zald (m35 dX5_advance_111) hk
theorem e35_112 {d : Nat} {L st : List AV} {h : AM} : EV d 35 112 L st h = EV d 35 114 L ((0, 122) :: st) h := G_bipush (m35 dX5_advance_112) (by decide)
theorem e35_114 {d : Nat} {L st : List AV} {h : AM} {a b : Int} : EV d 35 114 L ((0, b) :: (0, a) :: st) h = if b < a then EV d 35 124 L st h else EV d 35 117 L st h := (E_ic (m35 dX5_advance_114) (t := 124) rfl).trans cc_gt
theorem e35_117 {d : Nat} {st : List AV} {h : AM} {x : Int} : EV d 35 117 [(2, x)] st h = EV d 35 118 [(2, x)] ((2, x) :: st) h := G_aload_n (m35 dX5_advance_117) rfl
theorem e35_118 {d : Nat} {L st : List AV} {h : AM} {r : Int} (hs : st.length ≤ 4) (hk : isK h r 5) : EV (d + 1) 35 118 L ((2, r) :: st) h = (EV d 36 0 [(2, r), (3, 0)] [] h).bind (fun q => EV (d + 1) 35 121 L (psh q.1 st) q.2) := G_cv [] (m35 dX5_advance_118) ow35 tr_5_65 (by decide) td36 np36 ml36 ow36 rfl rfl (Nat.le_of_ble_eq_true rfl) rfl hs hk
theorem e35_121 {d : Nat} {L st : List AV} {h : AM} : EV d 35 121 L st h = EV d 35 252 L st h := G_goto (m35 dX5_advance_121) rfl
theorem e35_124 {d : Nat} {st : List AV} {h : AM} {x : Int} : EV d 35 124 [(2, x)] st h = EV d 35 125 [(2, x)] ((2, x) :: st) h := G_aload_n (m35 dX5_advance_124) rfl
theorem e35_125 {d : Nat} {L st : List AV} {h : AM} {r : Int} (hk : isK h r 5) : EV d 35 125 L ((2, r) :: st) h = EV d 35 128 L ((2, mrd h r 0) :: st) h := G_get (m35 dX5_advance_125) ow35 tf_5_9 rfl rfl hk
theorem e35_128 {d : Nat} {st : List AV} {h : AM} {x : Int} : EV d 35 128 [(2, x)] st h = EV d 35 129 [(2, x)] ((2, x) :: st) h := G_aload_n (m35 dX5_advance_128) rfl
theorem e35_129 {d : Nat} {L st : List AV} {h : AM} {r : Int} (hk : isK h r 5) : EV d 35 129 L ((2, r) :: st) h = EV d 35 132 L ((0, mrd h r 4) :: st) h := G_get (m35 dX5_advance_129) ow35 tf_5_40 rfl rfl hk
theorem e35_132 {d : Nat} {L st : List AV} {h : AM} {r j : Int} (hk : inA h r 17 j) : EV d 35 132 L ((0, j) :: (2, r) :: st) h = EV d 35 133 L ((0, mrd h r j) :: st) h := E_bald (m35 dX5_advance_132) hk
theorem e35_132z {d : Nat} {L st : List AV} {h : AM} {r j : Int} (hk : inA h r 18 j) : EV d 35 132 L ((0, j) :: (2, r) :: st) h = EV d 35 133 L ((0, mrd h r j) :: st) h := E_zald (m35 dX5_advance_132) hk
theorem e35_133 {d : Nat} {L st : List AV} {h : AM} : EV d 35 133 L st h = EV d 35 135 L ((0, 48) :: st) h := G_bipush (m35 dX5_advance_133) (by decide)
theorem e35_135 {d : Nat} {L st : List AV} {h : AM} {a b : Int} : EV d 35 135 L ((0, b) :: (0, a) :: st) h = if a < b then EV d 35 159 L st h else EV d 35 138 L st h := (E_ic (m35 dX5_advance_135) (t := 159) rfl).trans cc_lt
theorem e35_138 {d : Nat} {st : List AV} {h : AM} {x : Int} : EV d 35 138 [(2, x)] st h = EV d 35 139 [(2, x)] ((2, x) :: st) h := G_aload_n (m35 dX5_advance_138) rfl
theorem e35_139 {d : Nat} {L st : List AV} {h : AM} {r : Int} (hk : isK h r 5) : EV d 35 139 L ((2, r) :: st) h = EV d 35 142 L ((2, mrd h r 0) :: st) h := G_get (m35 dX5_advance_139) ow35 tf_5_9 rfl rfl hk
theorem e35_142 {d : Nat} {st : List AV} {h : AM} {x : Int} : EV d 35 142 [(2, x)] st h = EV d 35 143 [(2, x)] ((2, x) :: st) h := G_aload_n (m35 dX5_advance_142) rfl
theorem e35_143 {d : Nat} {L st : List AV} {h : AM} {r : Int} (hk : isK h r 5) : EV d 35 143 L ((2, r) :: st) h = EV d 35 146 L ((0, mrd h r 4) :: st) h := G_get (m35 dX5_advance_143) ow35 tf_5_40 rfl rfl hk
theorem e35_146 {d : Nat} {L st : List AV} {h : AM} {r j : Int} (hk : inA h r 17 j) : EV d 35 146 L ((0, j) :: (2, r) :: st) h = EV d 35 147 L ((0, mrd h r j) :: st) h := E_bald (m35 dX5_advance_146) hk
theorem e35_146z {d : Nat} {L st : List AV} {h : AM} {r j : Int} (hk : inA h r 18 j) : EV d 35 146 L ((0, j) :: (2, r) :: st) h = EV d 35 147 L ((0, mrd h r j) :: st) h := E_zald (m35 dX5_advance_146) hk
theorem e35_147 {d : Nat} {L st : List AV} {h : AM} : EV d 35 147 L st h = EV d 35 149 L ((0, 57) :: st) h := G_bipush (m35 dX5_advance_147) (by decide)
theorem e35_149 {d : Nat} {L st : List AV} {h : AM} {a b : Int} : EV d 35 149 L ((0, b) :: (0, a) :: st) h = if b < a then EV d 35 159 L st h else EV d 35 152 L st h := (E_ic (m35 dX5_advance_149) (t := 159) rfl).trans cc_gt
theorem e35_152 {d : Nat} {st : List AV} {h : AM} {x : Int} : EV d 35 152 [(2, x)] st h = EV d 35 153 [(2, x)] ((2, x) :: st) h := G_aload_n (m35 dX5_advance_152) rfl
theorem e35_153 {d : Nat} {L st : List AV} {h : AM} {r : Int} (hs : st.length ≤ 4) (hk : isK h r 5) : EV (d + 1) 35 153 L ((2, r) :: st) h = (EV d 37 0 [(2, r)] [] h).bind (fun q => EV (d + 1) 35 156 L (psh q.1 st) q.2) := G_cv [] (m35 dX5_advance_153) ow35 tr_5_68 (by decide) td37 np37 ml37 ow37 rfl rfl (Nat.le_of_ble_eq_true rfl) rfl hs hk
theorem e35_156 {d : Nat} {L st : List AV} {h : AM} : EV d 35 156 L st h = EV d 35 252 L st h := G_goto (m35 dX5_advance_156) rfl
theorem e35_159 {d : Nat} {st : List AV} {h : AM} {x : Int} : EV d 35 159 [(2, x)] st h = EV d 35 160 [(2, x)] ((2, x) :: st) h := G_aload_n (m35 dX5_advance_159) rfl
theorem e35_160 {d : Nat} {L st : List AV} {h : AM} {r : Int} (hk : isK h r 5) : EV d 35 160 L ((2, r) :: st) h = EV d 35 163 L ((2, mrd h r 0) :: st) h := G_get (m35 dX5_advance_160) ow35 tf_5_9 rfl rfl hk
theorem e35_163 {d : Nat} {st : List AV} {h : AM} {x : Int} : EV d 35 163 [(2, x)] st h = EV d 35 164 [(2, x)] ((2, x) :: st) h := G_aload_n (m35 dX5_advance_163) rfl
theorem e35_164 {d : Nat} {L st : List AV} {h : AM} {r : Int} (hk : isK h r 5) : EV d 35 164 L ((2, r) :: st) h = EV d 35 167 L ((0, mrd h r 4) :: st) h := G_get (m35 dX5_advance_164) ow35 tf_5_40 rfl rfl hk
theorem e35_167 {d : Nat} {L st : List AV} {h : AM} {r j : Int} (hk : inA h r 17 j) : EV d 35 167 L ((0, j) :: (2, r) :: st) h = EV d 35 168 L ((0, mrd h r j) :: st) h := E_bald (m35 dX5_advance_167) hk
theorem e35_167z {d : Nat} {L st : List AV} {h : AM} {r j : Int} (hk : inA h r 18 j) : EV d 35 167 L ((0, j) :: (2, r) :: st) h = EV d 35 168 L ((0, mrd h r j) :: st) h := E_zald (m35 dX5_advance_167) hk
theorem e35_168 {d : Nat} {L st : List AV} {h : AM} : EV d 35 168 L st h = EV d 35 170 L ((0, 59) :: st) h := G_bipush (m35 dX5_advance_168) (by decide)
theorem e35_170 {d : Nat} {L st : List AV} {h : AM} {a b : Int} : EV d 35 170 L ((0, b) :: (0, a) :: st) h = if a = b then EV d 35 215 L st h else EV d 35 173 L st h := (E_ic (m35 dX5_advance_170) (t := 215) rfl).trans cc_eq
theorem e35_173 {d : Nat} {st : List AV} {h : AM} {x : Int} : EV d 35 173 [(2, x)] st h = EV d 35 174 [(2, x)] ((2, x) :: st) h := G_aload_n (m35 dX5_advance_173) rfl
theorem e35_174 {d : Nat} {L st : List AV} {h : AM} {r : Int} (hk : isK h r 5) : EV d 35 174 L ((2, r) :: st) h = EV d 35 177 L ((2, mrd h r 0) :: st) h := G_get (m35 dX5_advance_174) ow35 tf_5_9 rfl rfl hk
theorem e35_177 {d : Nat} {st : List AV} {h : AM} {x : Int} : EV d 35 177 [(2, x)] st h = EV d 35 178 [(2, x)] ((2, x) :: st) h := G_aload_n (m35 dX5_advance_177) rfl
theorem e35_178 {d : Nat} {L st : List AV} {h : AM} {r : Int} (hk : isK h r 5) : EV d 35 178 L ((2, r) :: st) h = EV d 35 181 L ((0, mrd h r 4) :: st) h := G_get (m35 dX5_advance_178) ow35 tf_5_40 rfl rfl hk
theorem e35_181 {d : Nat} {L st : List AV} {h : AM} {r j : Int} (hk : inA h r 17 j) : EV d 35 181 L ((0, j) :: (2, r) :: st) h = EV d 35 182 L ((0, mrd h r j) :: st) h := E_bald (m35 dX5_advance_181) hk
theorem e35_181z {d : Nat} {L st : List AV} {h : AM} {r j : Int} (hk : inA h r 18 j) : EV d 35 181 L ((0, j) :: (2, r) :: st) h = EV d 35 182 L ((0, mrd h r j) :: st) h := E_zald (m35 dX5_advance_181) hk
theorem e35_182 {d : Nat} {L st : List AV} {h : AM} : EV d 35 182 L st h = EV d 35 184 L ((0, 60) :: st) h := G_bipush (m35 dX5_advance_182) (by decide)
theorem e35_184 {d : Nat} {L st : List AV} {h : AM} {a b : Int} : EV d 35 184 L ((0, b) :: (0, a) :: st) h = if a = b then EV d 35 215 L st h else EV d 35 187 L st h := (E_ic (m35 dX5_advance_184) (t := 215) rfl).trans cc_eq
theorem e35_187 {d : Nat} {st : List AV} {h : AM} {x : Int} : EV d 35 187 [(2, x)] st h = EV d 35 188 [(2, x)] ((2, x) :: st) h := G_aload_n (m35 dX5_advance_187) rfl
theorem e35_188 {d : Nat} {L st : List AV} {h : AM} {r : Int} (hk : isK h r 5) : EV d 35 188 L ((2, r) :: st) h = EV d 35 191 L ((2, mrd h r 0) :: st) h := G_get (m35 dX5_advance_188) ow35 tf_5_9 rfl rfl hk
theorem e35_191 {d : Nat} {st : List AV} {h : AM} {x : Int} : EV d 35 191 [(2, x)] st h = EV d 35 192 [(2, x)] ((2, x) :: st) h := G_aload_n (m35 dX5_advance_191) rfl
theorem e35_192 {d : Nat} {L st : List AV} {h : AM} {r : Int} (hk : isK h r 5) : EV d 35 192 L ((2, r) :: st) h = EV d 35 195 L ((0, mrd h r 4) :: st) h := G_get (m35 dX5_advance_192) ow35 tf_5_40 rfl rfl hk
theorem e35_195 {d : Nat} {L st : List AV} {h : AM} {r j : Int} (hk : inA h r 17 j) : EV d 35 195 L ((0, j) :: (2, r) :: st) h = EV d 35 196 L ((0, mrd h r j) :: st) h := E_bald (m35 dX5_advance_195) hk
theorem e35_195z {d : Nat} {L st : List AV} {h : AM} {r j : Int} (hk : inA h r 18 j) : EV d 35 195 L ((0, j) :: (2, r) :: st) h = EV d 35 196 L ((0, mrd h r j) :: st) h := E_zald (m35 dX5_advance_195) hk
theorem e35_196 {d : Nat} {L st : List AV} {h : AM} : EV d 35 196 L st h = EV d 35 198 L ((0, 62) :: st) h := G_bipush (m35 dX5_advance_196) (by decide)
theorem e35_198 {d : Nat} {L st : List AV} {h : AM} {a b : Int} : EV d 35 198 L ((0, b) :: (0, a) :: st) h = if a = b then EV d 35 215 L st h else EV d 35 201 L st h := (E_ic (m35 dX5_advance_198) (t := 215) rfl).trans cc_eq
theorem e35_201 {d : Nat} {st : List AV} {h : AM} {x : Int} : EV d 35 201 [(2, x)] st h = EV d 35 202 [(2, x)] ((2, x) :: st) h := G_aload_n (m35 dX5_advance_201) rfl
theorem e35_202 {d : Nat} {L st : List AV} {h : AM} {r : Int} (hk : isK h r 5) : EV d 35 202 L ((2, r) :: st) h = EV d 35 205 L ((2, mrd h r 0) :: st) h := G_get (m35 dX5_advance_202) ow35 tf_5_9 rfl rfl hk
theorem e35_205 {d : Nat} {st : List AV} {h : AM} {x : Int} : EV d 35 205 [(2, x)] st h = EV d 35 206 [(2, x)] ((2, x) :: st) h := G_aload_n (m35 dX5_advance_205) rfl
theorem e35_206 {d : Nat} {L st : List AV} {h : AM} {r : Int} (hk : isK h r 5) : EV d 35 206 L ((2, r) :: st) h = EV d 35 209 L ((0, mrd h r 4) :: st) h := G_get (m35 dX5_advance_206) ow35 tf_5_40 rfl rfl hk
theorem e35_209 {d : Nat} {L st : List AV} {h : AM} {r j : Int} (hk : inA h r 17 j) : EV d 35 209 L ((0, j) :: (2, r) :: st) h = EV d 35 210 L ((0, mrd h r j) :: st) h := E_bald (m35 dX5_advance_209) hk
theorem e35_209z {d : Nat} {L st : List AV} {h : AM} {r j : Int} (hk : inA h r 18 j) : EV d 35 209 L ((0, j) :: (2, r) :: st) h = EV d 35 210 L ((0, mrd h r j) :: st) h := E_zald (m35 dX5_advance_209) hk
theorem e35_210 {d : Nat} {L st : List AV} {h : AM} : EV d 35 210 L st h = EV d 35 212 L ((0, 61) :: st) h := G_bipush (m35 dX5_advance_210) (by decide)
theorem e35_212 {d : Nat} {L st : List AV} {h : AM} {a b : Int} : EV d 35 212 L ((0, b) :: (0, a) :: st) h = if a = b then EV d 35 215 L st h else EV d 35 247 L st h := (E_ic (m35 dX5_advance_212) (t := 247) rfl).trans cc_ne
theorem e35_215 {d : Nat} {st : List AV} {h : AM} {x : Int} : EV d 35 215 [(2, x)] st h = EV d 35 216 [(2, x)] ((2, x) :: st) h := G_aload_n (m35 dX5_advance_215) rfl
theorem e35_216 {d : Nat} {L st : List AV} {h : AM} : EV d 35 216 L st h = EV d 35 217 L ((0, 3) :: st) h := G_iconst (m35 dX5_advance_216) (by decide)
theorem e35_217 {d : Nat} {L st : List AV} {h : AM} {r v : Int} (hk : isK h r 5) : EV d 35 217 L ((0, v) :: (2, r) :: st) h = EV d 35 220 L st (mwr h r 5 v) := G_put (m35 dX5_advance_217) ow35 tf_5_62 pk_35_5_5 rfl hk
theorem e35_220 {d : Nat} {st : List AV} {h : AM} {x : Int} : EV d 35 220 [(2, x)] st h = EV d 35 221 [(2, x)] ((2, x) :: st) h := G_aload_n (m35 dX5_advance_220) rfl
theorem e35_221 {d : Nat} {st : List AV} {h : AM} {x : Int} : EV d 35 221 [(2, x)] st h = EV d 35 222 [(2, x)] ((2, x) :: st) h := G_aload_n (m35 dX5_advance_221) rfl
theorem e35_222 {d : Nat} {L st : List AV} {h : AM} {r : Int} (hk : isK h r 5) : EV d 35 222 L ((2, r) :: st) h = EV d 35 225 L ((2, mrd h r 0) :: st) h := G_get (m35 dX5_advance_222) ow35 tf_5_9 rfl rfl hk
theorem e35_225 {d : Nat} {st : List AV} {h : AM} {x : Int} : EV d 35 225 [(2, x)] st h = EV d 35 226 [(2, x)] ((2, x) :: st) h := G_aload_n (m35 dX5_advance_225) rfl
theorem e35_226 {d : Nat} {L st : List AV} {h : AM} {r : Int} (hk : isK h r 5) : EV d 35 226 L ((2, r) :: st) h = EV d 35 229 L ((0, mrd h r 4) :: st) h := G_get (m35 dX5_advance_226) ow35 tf_5_40 rfl rfl hk
theorem e35_229 {d : Nat} {L st : List AV} {h : AM} {r j : Int} (hk : inA h r 17 j) : EV d 35 229 L ((0, j) :: (2, r) :: st) h = EV d 35 230 L ((0, mrd h r j) :: st) h := E_bald (m35 dX5_advance_229) hk
theorem e35_229z {d : Nat} {L st : List AV} {h : AM} {r j : Int} (hk : inA h r 18 j) : EV d 35 229 L ((0, j) :: (2, r) :: st) h = EV d 35 230 L ((0, mrd h r j) :: st) h := E_zald (m35 dX5_advance_229) hk
theorem e35_230 {d : Nat} {L st : List AV} {h : AM} {a : Int} : EV d 35 230 L ((0, a) :: st) h = EV d 35 231 L ((1, a) :: st) h := G_i2l (m35 dX5_advance_230)
theorem e35_231 {d : Nat} {L st : List AV} {h : AM} {r v : Int} (hk : isK h r 5) : EV d 35 231 L ((1, v) :: (2, r) :: st) h = EV d 35 234 L st (mwr h r 7 v) := G_put (m35 dX5_advance_231) ow35 tf_5_55 pk_35_5_7 rfl hk
theorem e35_234 {d : Nat} {st : List AV} {h : AM} {x : Int} : EV d 35 234 [(2, x)] st h = EV d 35 235 [(2, x)] ((2, x) :: st) h := G_aload_n (m35 dX5_advance_234) rfl
theorem e35_235 {d : Nat} {L st : List AV} {h : AM} {a : Int} : EV d 35 235 L ((2, a) :: st) h = EV d 35 236 L ((2, a) :: (2, a) :: st) h := G_dup2r (m35 dX5_advance_235)
theorem e35_235i {d : Nat} {L st : List AV} {h : AM} {a : Int} : EV d 35 235 L ((0, a) :: st) h = EV d 35 236 L ((0, a) :: (0, a) :: st) h := G_dupi (m35 dX5_advance_235)
theorem e35_236 {d : Nat} {L st : List AV} {h : AM} {r : Int} (hk : isK h r 5) : EV d 35 236 L ((2, r) :: st) h = EV d 35 239 L ((0, mrd h r 4) :: st) h := G_get (m35 dX5_advance_236) ow35 tf_5_40 rfl rfl hk
theorem e35_239 {d : Nat} {L st : List AV} {h : AM} : EV d 35 239 L st h = EV d 35 240 L ((0, 1) :: st) h := G_iconst (m35 dX5_advance_239) (by decide)
theorem e35_240 {d : Nat} {L st : List AV} {h : AM} {a b : Int} : EV d 35 240 L ((0, b) :: (0, a) :: st) h = EV d 35 241 L ((0, w32 (a + b)) :: st) h := E_iadd (m35 dX5_advance_240)
theorem e35_241 {d : Nat} {L st : List AV} {h : AM} {r v : Int} (hk : isK h r 5) : EV d 35 241 L ((0, v) :: (2, r) :: st) h = EV d 35 244 L st (mwr h r 4 v) := G_put (m35 dX5_advance_241) ow35 tf_5_40 pk_35_5_4 rfl hk
theorem e35_244 {d : Nat} {L st : List AV} {h : AM} : EV d 35 244 L st h = EV d 35 252 L st h := G_goto (m35 dX5_advance_244) rfl
theorem e35_247 {d : Nat} {st : List AV} {h : AM} {x : Int} : EV d 35 247 [(2, x)] st h = EV d 35 248 [(2, x)] ((2, x) :: st) h := G_aload_n (m35 dX5_advance_247) rfl
theorem e35_248 {d : Nat} {L st : List AV} {h : AM} : EV d 35 248 L st h = EV d 35 249 L ((0, 4) :: st) h := G_iconst (m35 dX5_advance_248) (by decide)
theorem e35_249 {d : Nat} {L st : List AV} {h : AM} {r v : Int} (hk : isK h r 5) : EV d 35 249 L ((0, v) :: (2, r) :: st) h = EV d 35 252 L st (mwr h r 5 v) := G_put (m35 dX5_advance_249) ow35 tf_5_62 pk_35_5_5 rfl hk
theorem e35_252 {d : Nat} {L : List AV} {h : AM} : EV d 35 252 L [] h = some ((3, 0), h) := E_ret (m35 dX5_advance_252) rt35
theorem e36_0 {d : Nat} {l1 : AV} {st : List AV} {h : AM} {x : Int} : EV d 36 0 [(2, x), l1] st h = EV d 36 1 [(2, x), l1] ((2, x) :: st) h := G_aload_n (m36 dX5_advanceWord_0) rfl
theorem e36_1 {d : Nat} {L st : List AV} {h : AM} {r : Int} (hk : isK h r 5) : EV d 36 1 L ((2, r) :: st) h = EV d 36 4 L ((0, mrd h r 4) :: st) h := G_get (m36 dX5_advanceWord_1) ow36 tf_5_40 rfl rfl hk
theorem e36_4 {d : Nat} {l1 : AV} {st : List AV} {h : AM} {x : Int} : EV d 36 4 [(2, x), l1] st h = EV d 36 5 [(2, x), l1] ((2, x) :: st) h := G_aload_n (m36 dX5_advanceWord_4) rfl
theorem e36_5 {d : Nat} {L st : List AV} {h : AM} {r : Int} (hk : isK h r 5) : EV d 36 5 L ((2, r) :: st) h = EV d 36 8 L ((0, mrd h r 3) :: st) h := G_get (m36 dX5_advanceWord_5) ow36 tf_5_37 rfl rfl hk
theorem e36_8 {d : Nat} {L st : List AV} {h : AM} {a b : Int} : EV d 36 8 L ((0, b) :: (0, a) :: st) h = if a < b then EV d 36 11 L st h else EV d 36 94 L st h := (E_ic (m36 dX5_advanceWord_8) (t := 94) rfl).trans cc_ge
theorem e36_11 {d : Nat} {l1 : AV} {st : List AV} {h : AM} {x : Int} : EV d 36 11 [(2, x), l1] st h = EV d 36 12 [(2, x), l1] ((2, x) :: st) h := G_aload_n (m36 dX5_advanceWord_11) rfl
theorem e36_12 {d : Nat} {L st : List AV} {h : AM} {r : Int} (hk : isK h r 5) : EV d 36 12 L ((2, r) :: st) h = EV d 36 15 L ((2, mrd h r 0) :: st) h := G_get (m36 dX5_advanceWord_12) ow36 tf_5_9 rfl rfl hk
theorem e36_15 {d : Nat} {l1 : AV} {st : List AV} {h : AM} {x : Int} : EV d 36 15 [(2, x), l1] st h = EV d 36 16 [(2, x), l1] ((2, x) :: st) h := G_aload_n (m36 dX5_advanceWord_15) rfl
theorem e36_16 {d : Nat} {L st : List AV} {h : AM} {r : Int} (hk : isK h r 5) : EV d 36 16 L ((2, r) :: st) h = EV d 36 19 L ((0, mrd h r 4) :: st) h := G_get (m36 dX5_advanceWord_16) ow36 tf_5_40 rfl rfl hk
theorem e36_19 {d : Nat} {L st : List AV} {h : AM} {r j : Int} (hk : inA h r 17 j) : EV d 36 19 L ((0, j) :: (2, r) :: st) h = EV d 36 20 L ((0, mrd h r j) :: st) h := E_bald (m36 dX5_advanceWord_19) hk
theorem e36_19z {d : Nat} {L st : List AV} {h : AM} {r j : Int} (hk : inA h r 18 j) : EV d 36 19 L ((0, j) :: (2, r) :: st) h = EV d 36 20 L ((0, mrd h r j) :: st) h := E_zald (m36 dX5_advanceWord_19) hk
theorem e36_20 {d : Nat} {L st : List AV} {h : AM} : EV d 36 20 L st h = EV d 36 22 L ((0, 97) :: st) h := G_bipush (m36 dX5_advanceWord_20) (by decide)
theorem e36_22 {d : Nat} {L st : List AV} {h : AM} {a b : Int} : EV d 36 22 L ((0, b) :: (0, a) :: st) h = if a < b then EV d 36 94 L st h else EV d 36 25 L st h := (E_ic (m36 dX5_advanceWord_22) (t := 94) rfl).trans cc_lt
theorem e36_25 {d : Nat} {l1 : AV} {st : List AV} {h : AM} {x : Int} : EV d 36 25 [(2, x), l1] st h = EV d 36 26 [(2, x), l1] ((2, x) :: st) h := G_aload_n (m36 dX5_advanceWord_25) rfl
theorem e36_26 {d : Nat} {L st : List AV} {h : AM} {r : Int} (hk : isK h r 5) : EV d 36 26 L ((2, r) :: st) h = EV d 36 29 L ((2, mrd h r 0) :: st) h := G_get (m36 dX5_advanceWord_26) ow36 tf_5_9 rfl rfl hk
theorem e36_29 {d : Nat} {l1 : AV} {st : List AV} {h : AM} {x : Int} : EV d 36 29 [(2, x), l1] st h = EV d 36 30 [(2, x), l1] ((2, x) :: st) h := G_aload_n (m36 dX5_advanceWord_29) rfl
theorem e36_30 {d : Nat} {L st : List AV} {h : AM} {r : Int} (hk : isK h r 5) : EV d 36 30 L ((2, r) :: st) h = EV d 36 33 L ((0, mrd h r 4) :: st) h := G_get (m36 dX5_advanceWord_30) ow36 tf_5_40 rfl rfl hk
theorem e36_33 {d : Nat} {L st : List AV} {h : AM} {r j : Int} (hk : inA h r 17 j) : EV d 36 33 L ((0, j) :: (2, r) :: st) h = EV d 36 34 L ((0, mrd h r j) :: st) h := E_bald (m36 dX5_advanceWord_33) hk
theorem e36_33z {d : Nat} {L st : List AV} {h : AM} {r j : Int} (hk : inA h r 18 j) : EV d 36 33 L ((0, j) :: (2, r) :: st) h = EV d 36 34 L ((0, mrd h r j) :: st) h := E_zald (m36 dX5_advanceWord_33) hk
theorem e36_34 {d : Nat} {L st : List AV} {h : AM} : EV d 36 34 L st h = EV d 36 36 L ((0, 122) :: st) h := G_bipush (m36 dX5_advanceWord_34) (by decide)
theorem e36_36 {d : Nat} {L st : List AV} {h : AM} {a b : Int} : EV d 36 36 L ((0, b) :: (0, a) :: st) h = if b < a then EV d 36 94 L st h else EV d 36 39 L st h := (E_ic (m36 dX5_advanceWord_36) (t := 94) rfl).trans cc_gt
theorem e36_39 {d : Nat} {l1 : AV} {st : List AV} {h : AM} {x : Int} : EV d 36 39 [(2, x), l1] st h = EV d 36 40 [(2, x), l1] ((2, x) :: st) h := G_aload_n (m36 dX5_advanceWord_39) rfl
theorem e36_40 {d : Nat} {L st : List AV} {h : AM} {r : Int} (hk : isK h r 5) : EV d 36 40 L ((2, r) :: st) h = EV d 36 43 L ((0, mrd h r 4) :: st) h := G_get (m36 dX5_advanceWord_40) ow36 tf_5_40 rfl rfl hk
theorem e36_43 {d : Nat} {l1 : AV} {st : List AV} {h : AM} {x : Int} : EV d 36 43 [(2, x), l1] st h = EV d 36 44 [(2, x), l1] ((2, x) :: st) h := G_aload_n (m36 dX5_advanceWord_43) rfl
theorem e36_44 {d : Nat} {L st : List AV} {h : AM} {r : Int} (hk : isK h r 5) : EV d 36 44 L ((2, r) :: st) h = EV d 36 47 L ((0, mrd h r 6) :: st) h := G_get (m36 dX5_advanceWord_44) ow36 tf_5_52 rfl rfl hk
theorem e36_47 {d : Nat} {L st : List AV} {h : AM} {a b : Int} : EV d 36 47 L ((0, b) :: (0, a) :: st) h = EV d 36 48 L ((0, w32 (a - b)) :: st) h := E_isub (m36 dX5_advanceWord_47)
theorem e36_48 {d : Nat} {L st : List AV} {h : AM} : EV d 36 48 L st h = EV d 36 50 L ((0, 8) :: st) h := G_bipush (m36 dX5_advanceWord_48) (by decide)
theorem e36_50 {d : Nat} {L st : List AV} {h : AM} {a b : Int} : EV d 36 50 L ((0, b) :: (0, a) :: st) h = if a < b then EV d 36 53 L st h else EV d 36 81 L st h := (E_ic (m36 dX5_advanceWord_50) (t := 81) rfl).trans cc_ge
theorem e36_53 {d : Nat} {l1 : AV} {st : List AV} {h : AM} {x : Int} : EV d 36 53 [(2, x), l1] st h = EV d 36 54 [(2, x), l1] ((2, x) :: st) h := G_aload_n (m36 dX5_advanceWord_53) rfl
theorem e36_54 {d : Nat} {l1 : AV} {st : List AV} {h : AM} {x : Int} : EV d 36 54 [(2, x), l1] st h = EV d 36 55 [(2, x), l1] ((2, x) :: st) h := G_aload_n (m36 dX5_advanceWord_54) rfl
theorem e36_55 {d : Nat} {L st : List AV} {h : AM} {r : Int} (hk : isK h r 5) : EV d 36 55 L ((2, r) :: st) h = EV d 36 58 L ((1, mrd h r 7) :: st) h := G_get (m36 dX5_advanceWord_55) ow36 tf_5_55 rfl rfl hk
theorem e36_58 {d : Nat} {L st : List AV} {h : AM} : EV d 36 58 L st h = EV d 36 61 L ((1, 32) :: st) h := G_ldc2 (m36 dX5_advanceWord_58) ow36 tl_5_31 (by decide)
theorem e36_61 {d : Nat} {L st : List AV} {h : AM} {a b : Int} : EV d 36 61 L ((1, b) :: (1, a) :: st) h = EV d 36 62 L ((1, w64 (a * b)) :: st) h := E_lmul (m36 dX5_advanceWord_61)
theorem e36_62 {d : Nat} {l1 : AV} {st : List AV} {h : AM} {x : Int} : EV d 36 62 [(2, x), l1] st h = EV d 36 63 [(2, x), l1] ((2, x) :: st) h := G_aload_n (m36 dX5_advanceWord_62) rfl
theorem e36_63 {d : Nat} {L st : List AV} {h : AM} {r : Int} (hk : isK h r 5) : EV d 36 63 L ((2, r) :: st) h = EV d 36 66 L ((2, mrd h r 0) :: st) h := G_get (m36 dX5_advanceWord_63) ow36 tf_5_9 rfl rfl hk
theorem e36_66 {d : Nat} {l1 : AV} {st : List AV} {h : AM} {x : Int} : EV d 36 66 [(2, x), l1] st h = EV d 36 67 [(2, x), l1] ((2, x) :: st) h := G_aload_n (m36 dX5_advanceWord_66) rfl
theorem e36_67 {d : Nat} {L st : List AV} {h : AM} {r : Int} (hk : isK h r 5) : EV d 36 67 L ((2, r) :: st) h = EV d 36 70 L ((0, mrd h r 4) :: st) h := G_get (m36 dX5_advanceWord_67) ow36 tf_5_40 rfl rfl hk
theorem e36_70 {d : Nat} {L st : List AV} {h : AM} {r j : Int} (hk : inA h r 17 j) : EV d 36 70 L ((0, j) :: (2, r) :: st) h = EV d 36 71 L ((0, mrd h r j) :: st) h := E_bald (m36 dX5_advanceWord_70) hk
theorem e36_70z {d : Nat} {L st : List AV} {h : AM} {r j : Int} (hk : inA h r 18 j) : EV d 36 70 L ((0, j) :: (2, r) :: st) h = EV d 36 71 L ((0, mrd h r j) :: st) h := E_zald (m36 dX5_advanceWord_70) hk
theorem e36_71 {d : Nat} {L st : List AV} {h : AM} : EV d 36 71 L st h = EV d 36 73 L ((0, 97) :: st) h := G_bipush (m36 dX5_advanceWord_71) (by decide)
theorem e36_73 {d : Nat} {L st : List AV} {h : AM} {a b : Int} : EV d 36 73 L ((0, b) :: (0, a) :: st) h = EV d 36 74 L ((0, w32 (a - b)) :: st) h := E_isub (m36 dX5_advanceWord_73)
theorem e36_74 {d : Nat} {L st : List AV} {h : AM} : EV d 36 74 L st h = EV d 36 75 L ((0, 1) :: st) h := G_iconst (m36 dX5_advanceWord_74) (by decide)
theorem e36_75 {d : Nat} {L st : List AV} {h : AM} {a b : Int} : EV d 36 75 L ((0, b) :: (0, a) :: st) h = EV d 36 76 L ((0, w32 (a + b)) :: st) h := E_iadd (m36 dX5_advanceWord_75)
theorem e36_76 {d : Nat} {L st : List AV} {h : AM} {a : Int} : EV d 36 76 L ((0, a) :: st) h = EV d 36 77 L ((1, a) :: st) h := G_i2l (m36 dX5_advanceWord_76)
theorem e36_77 {d : Nat} {L st : List AV} {h : AM} {a b : Int} : EV d 36 77 L ((1, b) :: (1, a) :: st) h = EV d 36 78 L ((1, w64 (a + b)) :: st) h := E_ladd (m36 dX5_advanceWord_77)
theorem pk_36_5_7 : pok 36 5 7 1 = true := by decide +kernel
theorem e36_78 {d : Nat} {L st : List AV} {h : AM} {r v : Int} (hk : isK h r 5) : EV d 36 78 L ((1, v) :: (2, r) :: st) h = EV d 36 81 L st (mwr h r 7 v) := G_put (m36 dX5_advanceWord_78) ow36 tf_5_55 pk_36_5_7 rfl hk
theorem e36_81 {d : Nat} {l1 : AV} {st : List AV} {h : AM} {x : Int} : EV d 36 81 [(2, x), l1] st h = EV d 36 82 [(2, x), l1] ((2, x) :: st) h := G_aload_n (m36 dX5_advanceWord_81) rfl
theorem e36_82 {d : Nat} {L st : List AV} {h : AM} {a : Int} : EV d 36 82 L ((2, a) :: st) h = EV d 36 83 L ((2, a) :: (2, a) :: st) h := G_dup2r (m36 dX5_advanceWord_82)
theorem e36_82i {d : Nat} {L st : List AV} {h : AM} {a : Int} : EV d 36 82 L ((0, a) :: st) h = EV d 36 83 L ((0, a) :: (0, a) :: st) h := G_dupi (m36 dX5_advanceWord_82)
theorem e36_83 {d : Nat} {L st : List AV} {h : AM} {r : Int} (hk : isK h r 5) : EV d 36 83 L ((2, r) :: st) h = EV d 36 86 L ((0, mrd h r 4) :: st) h := G_get (m36 dX5_advanceWord_83) ow36 tf_5_40 rfl rfl hk
theorem e36_86 {d : Nat} {L st : List AV} {h : AM} : EV d 36 86 L st h = EV d 36 87 L ((0, 1) :: st) h := G_iconst (m36 dX5_advanceWord_86) (by decide)
theorem e36_87 {d : Nat} {L st : List AV} {h : AM} {a b : Int} : EV d 36 87 L ((0, b) :: (0, a) :: st) h = EV d 36 88 L ((0, w32 (a + b)) :: st) h := E_iadd (m36 dX5_advanceWord_87)
theorem pk_36_5_4 : pok 36 5 4 0 = true := by decide +kernel
theorem e36_88 {d : Nat} {L st : List AV} {h : AM} {r v : Int} (hk : isK h r 5) : EV d 36 88 L ((0, v) :: (2, r) :: st) h = EV d 36 91 L st (mwr h r 4 v) := G_put (m36 dX5_advanceWord_88) ow36 tf_5_40 pk_36_5_4 rfl hk
theorem e36_91 {d : Nat} {L st : List AV} {h : AM} : EV d 36 91 L st h = EV d 36 0 L st h := G_goto (m36 dX5_advanceWord_91) rfl
theorem e36_94 {d : Nat} {l1 : AV} {st : List AV} {h : AM} {x : Int} : EV d 36 94 [(2, x), l1] st h = EV d 36 95 [(2, x), l1] ((2, x) :: st) h := G_aload_n (m36 dX5_advanceWord_94) rfl
theorem e36_95 {d : Nat} {L st : List AV} {h : AM} : EV d 36 95 L st h = EV d 36 96 L ((0, 1) :: st) h := G_iconst (m36 dX5_advanceWord_95) (by decide)
theorem pk_36_5_5 : pok 36 5 5 0 = true := by decide +kernel
theorem e36_96 {d : Nat} {L st : List AV} {h : AM} {r v : Int} (hk : isK h r 5) : EV d 36 96 L ((0, v) :: (2, r) :: st) h = EV d 36 99 L st (mwr h r 5 v) := G_put (m36 dX5_advanceWord_96) ow36 tf_5_62 pk_36_5_5 rfl hk
theorem e36_99 {d : Nat} {l1 : AV} {st : List AV} {h : AM} {x : Int} : EV d 36 99 [(2, x), l1] st h = EV d 36 100 [(2, x), l1] ((2, x) :: st) h := G_aload_n (m36 dX5_advanceWord_99) rfl
theorem e36_100 {d : Nat} {L st : List AV} {h : AM} {r : Int} (hk : isK h r 5) : EV d 36 100 L ((2, r) :: st) h = EV d 36 103 L ((0, mrd h r 4) :: st) h := G_get (m36 dX5_advanceWord_100) ow36 tf_5_40 rfl rfl hk
theorem e36_103 {d : Nat} {l1 : AV} {st : List AV} {h : AM} {x : Int} : EV d 36 103 [(2, x), l1] st h = EV d 36 104 [(2, x), l1] ((2, x) :: st) h := G_aload_n (m36 dX5_advanceWord_103) rfl
theorem e36_104 {d : Nat} {L st : List AV} {h : AM} {r : Int} (hk : isK h r 5) : EV d 36 104 L ((2, r) :: st) h = EV d 36 107 L ((0, mrd h r 6) :: st) h := G_get (m36 dX5_advanceWord_104) ow36 tf_5_52 rfl rfl hk
theorem e36_107 {d : Nat} {L st : List AV} {h : AM} {a b : Int} : EV d 36 107 L ((0, b) :: (0, a) :: st) h = EV d 36 108 L ((0, w32 (a - b)) :: st) h := E_isub (m36 dX5_advanceWord_107)
theorem e36_108 {d : Nat} {L st : List AV} {h : AM} : EV d 36 108 L st h = EV d 36 110 L ((0, 8) :: st) h := G_bipush (m36 dX5_advanceWord_108) (by decide)
theorem e36_110 {d : Nat} {L st : List AV} {h : AM} {a b : Int} : EV d 36 110 L ((0, b) :: (0, a) :: st) h = if b < a then EV d 36 113 L st h else EV d 36 114 L st h := (E_ic (m36 dX5_advanceWord_110) (t := 114) rfl).trans cc_le
theorem e36_113 {d : Nat} {L : List AV} {h : AM} : EV d 36 113 L [] h = some ((3, 0), h) := E_ret (m36 dX5_advanceWord_113) rt36
theorem e36_114 {d : Nat} {L st : List AV} {h : AM} : EV d 36 114 L st h = EV d 36 115 L ((0, 0) :: st) h := G_iconst (m36 dX5_advanceWord_114) (by decide)
theorem e36_115 {d : Nat} {l0 l1 : AV} {st : List AV} {h : AM} {x : Int} : EV d 36 115 [l0, l1] ((0, x) :: st) h = EV d 36 116 [l0, (0, x)] st h := G_istore_n (m36 dX5_advanceWord_115) (Nat.le_of_ble_eq_true rfl) rfl
theorem e36_116 {d : Nat} {l0 : AV} {st : List AV} {h : AM} {x : Int} : EV d 36 116 [l0, (0, x)] st h = EV d 36 117 [l0, (0, x)] ((0, x) :: st) h := G_iload_n (m36 dX5_advanceWord_116) rfl
theorem e36_117 {d : Nat} {L st : List AV} {h : AM} : EV d 36 117 L st h = EV d 36 119 L ((0, 23) :: st) h := G_bipush (m36 dX5_advanceWord_117) (by decide)
theorem e36_119 {d : Nat} {L st : List AV} {h : AM} {a b : Int} : EV d 36 119 L ((0, b) :: (0, a) :: st) h = if a < b then EV d 36 122 L st h else EV d 36 147 L st h := (E_ic (m36 dX5_advanceWord_119) (t := 147) rfl).trans cc_ge
theorem e36_122 {d : Nat} {l1 : AV} {st : List AV} {h : AM} {x : Int} : EV d 36 122 [(2, x), l1] st h = EV d 36 123 [(2, x), l1] ((2, x) :: st) h := G_aload_n (m36 dX5_advanceWord_122) rfl
theorem e36_123 {d : Nat} {L st : List AV} {h : AM} {r : Int} (hk : isK h r 5) : EV d 36 123 L ((2, r) :: st) h = EV d 36 126 L ((2, mrd h r 1) :: st) h := G_get (m36 dX5_advanceWord_123) ow36 tf_5_15 rfl rfl hk
theorem e36_126 {d : Nat} {l0 : AV} {st : List AV} {h : AM} {x : Int} : EV d 36 126 [l0, (0, x)] st h = EV d 36 127 [l0, (0, x)] ((0, x) :: st) h := G_iload_n (m36 dX5_advanceWord_126) rfl
theorem e36_127 {d : Nat} {L st : List AV} {h : AM} {r j : Int} (hk : inA h r 19 j) : EV d 36 127 L ((0, j) :: (2, r) :: st) h = EV d 36 128 L ((1, mrd h r j) :: st) h := E_lald (m36 dX5_advanceWord_127) hk
theorem e36_128 {d : Nat} {l1 : AV} {st : List AV} {h : AM} {x : Int} : EV d 36 128 [(2, x), l1] st h = EV d 36 129 [(2, x), l1] ((2, x) :: st) h := G_aload_n (m36 dX5_advanceWord_128) rfl
theorem e36_129 {d : Nat} {L st : List AV} {h : AM} {r : Int} (hk : isK h r 5) : EV d 36 129 L ((2, r) :: st) h = EV d 36 132 L ((1, mrd h r 7) :: st) h := G_get (m36 dX5_advanceWord_129) ow36 tf_5_55 rfl rfl hk
theorem e36_132 {d : Nat} {L st : List AV} {h : AM} {a b : Int} : EV d 36 132 L ((1, b) :: (1, a) :: st) h = EV d 36 133 L ((0, cmp3 a b) :: st) h := G_lcmp (m36 dX5_advanceWord_132)
theorem e36_133 {d : Nat} {L st : List AV} {h : AM} {a : Int} : EV d 36 133 L ((0, a) :: st) h = if a = 0 then EV d 36 136 L st h else EV d 36 141 L st h := (E_if (m36 dX5_advanceWord_133) (t := 141) rfl).trans cc_ne
theorem e36_136 {d : Nat} {l1 : AV} {st : List AV} {h : AM} {x : Int} : EV d 36 136 [(2, x), l1] st h = EV d 36 137 [(2, x), l1] ((2, x) :: st) h := G_aload_n (m36 dX5_advanceWord_136) rfl
theorem e36_137 {d : Nat} {l0 : AV} {st : List AV} {h : AM} {x : Int} : EV d 36 137 [l0, (0, x)] st h = EV d 36 138 [l0, (0, x)] ((0, x) :: st) h := G_iload_n (m36 dX5_advanceWord_137) rfl
theorem pk_36_5_8 : pok 36 5 8 0 = true := by decide +kernel
theorem e36_138 {d : Nat} {L st : List AV} {h : AM} {r v : Int} (hk : isK h r 5) : EV d 36 138 L ((0, v) :: (2, r) :: st) h = EV d 36 141 L st (mwr h r 8 v) := G_put (m36 dX5_advanceWord_138) ow36 tf_5_59 pk_36_5_8 rfl hk
theorem e36_141 {d : Nat} {l0 : AV} {st : List AV} {h : AM} {x : Int} : EV d 36 141 [l0, (0, x)] st h = EV d 36 144 [l0, (0, w32 (x + 1))] st h := G_iinc (m36 dX5_advanceWord_141) rfl rfl
theorem e36_144 {d : Nat} {L st : List AV} {h : AM} : EV d 36 144 L st h = EV d 36 116 L st h := G_goto (m36 dX5_advanceWord_144) rfl
theorem e36_147 {d : Nat} {L : List AV} {h : AM} : EV d 36 147 L [] h = some ((3, 0), h) := E_ret (m36 dX5_advanceWord_147) rt36
theorem e37_0 {d : Nat} {st : List AV} {h : AM} {x : Int} : EV d 37 0 [(2, x)] st h = EV d 37 1 [(2, x)] ((2, x) :: st) h := G_aload_n (m37 dX5_advanceNumber_0) rfl
theorem e37_1 {d : Nat} {L st : List AV} {h : AM} {r : Int} (hk : isK h r 5) : EV d 37 1 L ((2, r) :: st) h = EV d 37 4 L ((0, mrd h r 4) :: st) h := G_get (m37 dX5_advanceNumber_1) ow37 tf_5_40 rfl rfl hk
theorem e37_4 {d : Nat} {st : List AV} {h : AM} {x : Int} : EV d 37 4 [(2, x)] st h = EV d 37 5 [(2, x)] ((2, x) :: st) h := G_aload_n (m37 dX5_advanceNumber_4) rfl
theorem e37_5 {d : Nat} {L st : List AV} {h : AM} {r : Int} (hk : isK h r 5) : EV d 37 5 L ((2, r) :: st) h = EV d 37 8 L ((0, mrd h r 3) :: st) h := G_get (m37 dX5_advanceNumber_5) ow37 tf_5_37 rfl rfl hk
theorem e37_8 {d : Nat} {L st : List AV} {h : AM} {a b : Int} : EV d 37 8 L ((0, b) :: (0, a) :: st) h = if a < b then EV d 37 11 L st h else EV d 37 91 L st h := (E_ic (m37 dX5_advanceNumber_8) (t := 91) rfl).trans cc_ge
theorem e37_11 {d : Nat} {st : List AV} {h : AM} {x : Int} : EV d 37 11 [(2, x)] st h = EV d 37 12 [(2, x)] ((2, x) :: st) h := G_aload_n (m37 dX5_advanceNumber_11) rfl
theorem e37_12 {d : Nat} {L st : List AV} {h : AM} {r : Int} (hk : isK h r 5) : EV d 37 12 L ((2, r) :: st) h = EV d 37 15 L ((2, mrd h r 0) :: st) h := G_get (m37 dX5_advanceNumber_12) ow37 tf_5_9 rfl rfl hk
theorem e37_15 {d : Nat} {st : List AV} {h : AM} {x : Int} : EV d 37 15 [(2, x)] st h = EV d 37 16 [(2, x)] ((2, x) :: st) h := G_aload_n (m37 dX5_advanceNumber_15) rfl
theorem e37_16 {d : Nat} {L st : List AV} {h : AM} {r : Int} (hk : isK h r 5) : EV d 37 16 L ((2, r) :: st) h = EV d 37 19 L ((0, mrd h r 4) :: st) h := G_get (m37 dX5_advanceNumber_16) ow37 tf_5_40 rfl rfl hk
theorem e37_19 {d : Nat} {L st : List AV} {h : AM} {r j : Int} (hk : inA h r 17 j) : EV d 37 19 L ((0, j) :: (2, r) :: st) h = EV d 37 20 L ((0, mrd h r j) :: st) h := E_bald (m37 dX5_advanceNumber_19) hk
theorem e37_19z {d : Nat} {L st : List AV} {h : AM} {r j : Int} (hk : inA h r 18 j) : EV d 37 19 L ((0, j) :: (2, r) :: st) h = EV d 37 20 L ((0, mrd h r j) :: st) h := E_zald (m37 dX5_advanceNumber_19) hk
theorem e37_20 {d : Nat} {L st : List AV} {h : AM} : EV d 37 20 L st h = EV d 37 22 L ((0, 48) :: st) h := G_bipush (m37 dX5_advanceNumber_20) (by decide)
theorem e37_22 {d : Nat} {L st : List AV} {h : AM} {a b : Int} : EV d 37 22 L ((0, b) :: (0, a) :: st) h = if a < b then EV d 37 91 L st h else EV d 37 25 L st h := (E_ic (m37 dX5_advanceNumber_22) (t := 91) rfl).trans cc_lt
theorem e37_25 {d : Nat} {st : List AV} {h : AM} {x : Int} : EV d 37 25 [(2, x)] st h = EV d 37 26 [(2, x)] ((2, x) :: st) h := G_aload_n (m37 dX5_advanceNumber_25) rfl
theorem e37_26 {d : Nat} {L st : List AV} {h : AM} {r : Int} (hk : isK h r 5) : EV d 37 26 L ((2, r) :: st) h = EV d 37 29 L ((2, mrd h r 0) :: st) h := G_get (m37 dX5_advanceNumber_26) ow37 tf_5_9 rfl rfl hk
theorem e37_29 {d : Nat} {st : List AV} {h : AM} {x : Int} : EV d 37 29 [(2, x)] st h = EV d 37 30 [(2, x)] ((2, x) :: st) h := G_aload_n (m37 dX5_advanceNumber_29) rfl
theorem e37_30 {d : Nat} {L st : List AV} {h : AM} {r : Int} (hk : isK h r 5) : EV d 37 30 L ((2, r) :: st) h = EV d 37 33 L ((0, mrd h r 4) :: st) h := G_get (m37 dX5_advanceNumber_30) ow37 tf_5_40 rfl rfl hk
theorem e37_33 {d : Nat} {L st : List AV} {h : AM} {r j : Int} (hk : inA h r 17 j) : EV d 37 33 L ((0, j) :: (2, r) :: st) h = EV d 37 34 L ((0, mrd h r j) :: st) h := E_bald (m37 dX5_advanceNumber_33) hk
theorem e37_33z {d : Nat} {L st : List AV} {h : AM} {r j : Int} (hk : inA h r 18 j) : EV d 37 33 L ((0, j) :: (2, r) :: st) h = EV d 37 34 L ((0, mrd h r j) :: st) h := E_zald (m37 dX5_advanceNumber_33) hk
theorem e37_34 {d : Nat} {L st : List AV} {h : AM} : EV d 37 34 L st h = EV d 37 36 L ((0, 57) :: st) h := G_bipush (m37 dX5_advanceNumber_34) (by decide)
theorem e37_36 {d : Nat} {L st : List AV} {h : AM} {a b : Int} : EV d 37 36 L ((0, b) :: (0, a) :: st) h = if b < a then EV d 37 91 L st h else EV d 37 39 L st h := (E_ic (m37 dX5_advanceNumber_36) (t := 91) rfl).trans cc_gt
theorem e37_39 {d : Nat} {st : List AV} {h : AM} {x : Int} : EV d 37 39 [(2, x)] st h = EV d 37 40 [(2, x)] ((2, x) :: st) h := G_aload_n (m37 dX5_advanceNumber_39) rfl
theorem e37_40 {d : Nat} {L st : List AV} {h : AM} {r : Int} (hk : isK h r 5) : EV d 37 40 L ((2, r) :: st) h = EV d 37 43 L ((0, mrd h r 4) :: st) h := G_get (m37 dX5_advanceNumber_40) ow37 tf_5_40 rfl rfl hk
theorem e37_43 {d : Nat} {st : List AV} {h : AM} {x : Int} : EV d 37 43 [(2, x)] st h = EV d 37 44 [(2, x)] ((2, x) :: st) h := G_aload_n (m37 dX5_advanceNumber_43) rfl
theorem e37_44 {d : Nat} {L st : List AV} {h : AM} {r : Int} (hk : isK h r 5) : EV d 37 44 L ((2, r) :: st) h = EV d 37 47 L ((0, mrd h r 6) :: st) h := G_get (m37 dX5_advanceNumber_44) ow37 tf_5_52 rfl rfl hk
theorem e37_47 {d : Nat} {L st : List AV} {h : AM} {a b : Int} : EV d 37 47 L ((0, b) :: (0, a) :: st) h = EV d 37 48 L ((0, w32 (a - b)) :: st) h := E_isub (m37 dX5_advanceNumber_47)
theorem e37_48 {d : Nat} {L st : List AV} {h : AM} : EV d 37 48 L st h = EV d 37 49 L ((0, 4) :: st) h := G_iconst (m37 dX5_advanceNumber_48) (by decide)
theorem e37_49 {d : Nat} {L st : List AV} {h : AM} {a b : Int} : EV d 37 49 L ((0, b) :: (0, a) :: st) h = if a < b then EV d 37 52 L st h else EV d 37 78 L st h := (E_ic (m37 dX5_advanceNumber_49) (t := 78) rfl).trans cc_ge
theorem e37_52 {d : Nat} {st : List AV} {h : AM} {x : Int} : EV d 37 52 [(2, x)] st h = EV d 37 53 [(2, x)] ((2, x) :: st) h := G_aload_n (m37 dX5_advanceNumber_52) rfl
theorem e37_53 {d : Nat} {st : List AV} {h : AM} {x : Int} : EV d 37 53 [(2, x)] st h = EV d 37 54 [(2, x)] ((2, x) :: st) h := G_aload_n (m37 dX5_advanceNumber_53) rfl
theorem e37_54 {d : Nat} {L st : List AV} {h : AM} {r : Int} (hk : isK h r 5) : EV d 37 54 L ((2, r) :: st) h = EV d 37 57 L ((1, mrd h r 7) :: st) h := G_get (m37 dX5_advanceNumber_54) ow37 tf_5_55 rfl rfl hk
theorem e37_57 {d : Nat} {L st : List AV} {h : AM} : EV d 37 57 L st h = EV d 37 60 L ((1, 10) :: st) h := G_ldc2 (m37 dX5_advanceNumber_57) ow37 tl_5_71 (by decide)
theorem e37_60 {d : Nat} {L st : List AV} {h : AM} {a b : Int} : EV d 37 60 L ((1, b) :: (1, a) :: st) h = EV d 37 61 L ((1, w64 (a * b)) :: st) h := E_lmul (m37 dX5_advanceNumber_60)
theorem e37_61 {d : Nat} {st : List AV} {h : AM} {x : Int} : EV d 37 61 [(2, x)] st h = EV d 37 62 [(2, x)] ((2, x) :: st) h := G_aload_n (m37 dX5_advanceNumber_61) rfl
theorem e37_62 {d : Nat} {L st : List AV} {h : AM} {r : Int} (hk : isK h r 5) : EV d 37 62 L ((2, r) :: st) h = EV d 37 65 L ((2, mrd h r 0) :: st) h := G_get (m37 dX5_advanceNumber_62) ow37 tf_5_9 rfl rfl hk
theorem e37_65 {d : Nat} {st : List AV} {h : AM} {x : Int} : EV d 37 65 [(2, x)] st h = EV d 37 66 [(2, x)] ((2, x) :: st) h := G_aload_n (m37 dX5_advanceNumber_65) rfl
theorem e37_66 {d : Nat} {L st : List AV} {h : AM} {r : Int} (hk : isK h r 5) : EV d 37 66 L ((2, r) :: st) h = EV d 37 69 L ((0, mrd h r 4) :: st) h := G_get (m37 dX5_advanceNumber_66) ow37 tf_5_40 rfl rfl hk
theorem e37_69 {d : Nat} {L st : List AV} {h : AM} {r j : Int} (hk : inA h r 17 j) : EV d 37 69 L ((0, j) :: (2, r) :: st) h = EV d 37 70 L ((0, mrd h r j) :: st) h := E_bald (m37 dX5_advanceNumber_69) hk
theorem e37_69z {d : Nat} {L st : List AV} {h : AM} {r j : Int} (hk : inA h r 18 j) : EV d 37 69 L ((0, j) :: (2, r) :: st) h = EV d 37 70 L ((0, mrd h r j) :: st) h := E_zald (m37 dX5_advanceNumber_69) hk
theorem e37_70 {d : Nat} {L st : List AV} {h : AM} : EV d 37 70 L st h = EV d 37 72 L ((0, 48) :: st) h := G_bipush (m37 dX5_advanceNumber_70) (by decide)
theorem e37_72 {d : Nat} {L st : List AV} {h : AM} {a b : Int} : EV d 37 72 L ((0, b) :: (0, a) :: st) h = EV d 37 73 L ((0, w32 (a - b)) :: st) h := E_isub (m37 dX5_advanceNumber_72)
theorem e37_73 {d : Nat} {L st : List AV} {h : AM} {a : Int} : EV d 37 73 L ((0, a) :: st) h = EV d 37 74 L ((1, a) :: st) h := G_i2l (m37 dX5_advanceNumber_73)
theorem e37_74 {d : Nat} {L st : List AV} {h : AM} {a b : Int} : EV d 37 74 L ((1, b) :: (1, a) :: st) h = EV d 37 75 L ((1, w64 (a + b)) :: st) h := E_ladd (m37 dX5_advanceNumber_74)
theorem pk_37_5_7 : pok 37 5 7 1 = true := by decide +kernel
theorem e37_75 {d : Nat} {L st : List AV} {h : AM} {r v : Int} (hk : isK h r 5) : EV d 37 75 L ((1, v) :: (2, r) :: st) h = EV d 37 78 L st (mwr h r 7 v) := G_put (m37 dX5_advanceNumber_75) ow37 tf_5_55 pk_37_5_7 rfl hk
theorem e37_78 {d : Nat} {st : List AV} {h : AM} {x : Int} : EV d 37 78 [(2, x)] st h = EV d 37 79 [(2, x)] ((2, x) :: st) h := G_aload_n (m37 dX5_advanceNumber_78) rfl
theorem e37_79 {d : Nat} {L st : List AV} {h : AM} {a : Int} : EV d 37 79 L ((2, a) :: st) h = EV d 37 80 L ((2, a) :: (2, a) :: st) h := G_dup2r (m37 dX5_advanceNumber_79)
theorem e37_79i {d : Nat} {L st : List AV} {h : AM} {a : Int} : EV d 37 79 L ((0, a) :: st) h = EV d 37 80 L ((0, a) :: (0, a) :: st) h := G_dupi (m37 dX5_advanceNumber_79)
theorem e37_80 {d : Nat} {L st : List AV} {h : AM} {r : Int} (hk : isK h r 5) : EV d 37 80 L ((2, r) :: st) h = EV d 37 83 L ((0, mrd h r 4) :: st) h := G_get (m37 dX5_advanceNumber_80) ow37 tf_5_40 rfl rfl hk
theorem e37_83 {d : Nat} {L st : List AV} {h : AM} : EV d 37 83 L st h = EV d 37 84 L ((0, 1) :: st) h := G_iconst (m37 dX5_advanceNumber_83) (by decide)
theorem e37_84 {d : Nat} {L st : List AV} {h : AM} {a b : Int} : EV d 37 84 L ((0, b) :: (0, a) :: st) h = EV d 37 85 L ((0, w32 (a + b)) :: st) h := E_iadd (m37 dX5_advanceNumber_84)
theorem pk_37_5_4 : pok 37 5 4 0 = true := by decide +kernel
theorem e37_85 {d : Nat} {L st : List AV} {h : AM} {r v : Int} (hk : isK h r 5) : EV d 37 85 L ((0, v) :: (2, r) :: st) h = EV d 37 88 L st (mwr h r 4 v) := G_put (m37 dX5_advanceNumber_85) ow37 tf_5_40 pk_37_5_4 rfl hk
theorem e37_88 {d : Nat} {L st : List AV} {h : AM} : EV d 37 88 L st h = EV d 37 0 L st h := G_goto (m37 dX5_advanceNumber_88) rfl
theorem e37_91 {d : Nat} {st : List AV} {h : AM} {x : Int} : EV d 37 91 [(2, x)] st h = EV d 37 92 [(2, x)] ((2, x) :: st) h := G_aload_n (m37 dX5_advanceNumber_91) rfl
theorem e37_92 {d : Nat} {st : List AV} {h : AM} {x : Int} : EV d 37 92 [(2, x)] st h = EV d 37 93 [(2, x)] ((2, x) :: st) h := G_aload_n (m37 dX5_advanceNumber_92) rfl
theorem e37_93 {d : Nat} {L st : List AV} {h : AM} {r : Int} (hk : isK h r 5) : EV d 37 93 L ((2, r) :: st) h = EV d 37 96 L ((0, mrd h r 4) :: st) h := G_get (m37 dX5_advanceNumber_93) ow37 tf_5_40 rfl rfl hk
theorem e37_96 {d : Nat} {st : List AV} {h : AM} {x : Int} : EV d 37 96 [(2, x)] st h = EV d 37 97 [(2, x)] ((2, x) :: st) h := G_aload_n (m37 dX5_advanceNumber_96) rfl
theorem e37_97 {d : Nat} {L st : List AV} {h : AM} {r : Int} (hk : isK h r 5) : EV d 37 97 L ((2, r) :: st) h = EV d 37 100 L ((0, mrd h r 6) :: st) h := G_get (m37 dX5_advanceNumber_97) ow37 tf_5_52 rfl rfl hk
theorem e37_100 {d : Nat} {L st : List AV} {h : AM} {a b : Int} : EV d 37 100 L ((0, b) :: (0, a) :: st) h = EV d 37 101 L ((0, w32 (a - b)) :: st) h := E_isub (m37 dX5_advanceNumber_100)
theorem e37_101 {d : Nat} {L st : List AV} {h : AM} : EV d 37 101 L st h = EV d 37 102 L ((0, 4) :: st) h := G_iconst (m37 dX5_advanceNumber_101) (by decide)
theorem e37_102 {d : Nat} {L st : List AV} {h : AM} {a b : Int} : EV d 37 102 L ((0, b) :: (0, a) :: st) h = if b < a then EV d 37 105 L st h else EV d 37 109 L st h := (E_ic (m37 dX5_advanceNumber_102) (t := 109) rfl).trans cc_le
theorem e37_105 {d : Nat} {L st : List AV} {h : AM} : EV d 37 105 L st h = EV d 37 106 L ((0, 4) :: st) h := G_iconst (m37 dX5_advanceNumber_105) (by decide)
theorem e37_106 {d : Nat} {L st : List AV} {h : AM} : EV d 37 106 L st h = EV d 37 110 L st h := G_goto (m37 dX5_advanceNumber_106) rfl
theorem e37_109 {d : Nat} {L st : List AV} {h : AM} : EV d 37 109 L st h = EV d 37 110 L ((0, 2) :: st) h := G_iconst (m37 dX5_advanceNumber_109) (by decide)
theorem pk_37_5_5 : pok 37 5 5 0 = true := by decide +kernel
theorem e37_110 {d : Nat} {L st : List AV} {h : AM} {r v : Int} (hk : isK h r 5) : EV d 37 110 L ((0, v) :: (2, r) :: st) h = EV d 37 113 L st (mwr h r 5 v) := G_put (m37 dX5_advanceNumber_110) ow37 tf_5_62 pk_37_5_5 rfl hk
theorem e37_113 {d : Nat} {L : List AV} {h : AM} : EV d 37 113 L [] h = some ((3, 0), h) := E_ret (m37 dX5_advanceNumber_113) rt37
theorem e38_0 {d : Nat} {st : List AV} {h : AM} {x : Int} : EV d 38 0 [(2, x)] st h = EV d 38 1 [(2, x)] ((2, x) :: st) h := G_aload_n (m38 dX5_goesOn_0) rfl
theorem e38_1 {d : Nat} {L st : List AV} {h : AM} {r : Int} (hk : isK h r 5) : EV d 38 1 L ((2, r) :: st) h = EV d 38 4 L ((0, mrd h r 9) :: st) h := G_get (m38 dX5_goesOn_1) ow38 tf_5_43 rfl rfl hk
theorem e38_4 {d : Nat} {L st : List AV} {h : AM} {a : Int} : EV d 38 4 L ((0, a) :: st) h = if a = 0 then EV d 38 7 L st h else EV d 38 18 L st h := (E_if (m38 dX5_goesOn_4) (t := 18) rfl).trans cc_ne
theorem e38_7 {d : Nat} {st : List AV} {h : AM} {x : Int} : EV d 38 7 [(2, x)] st h = EV d 38 8 [(2, x)] ((2, x) :: st) h := G_aload_n (m38 dX5_goesOn_7) rfl
theorem e38_8 {d : Nat} {L st : List AV} {h : AM} {r : Int} (hk : isK h r 5) : EV d 38 8 L ((2, r) :: st) h = EV d 38 11 L ((0, mrd h r 5) :: st) h := G_get (m38 dX5_goesOn_8) ow38 tf_5_62 rfl rfl hk
theorem e38_11 {d : Nat} {L st : List AV} {h : AM} {a : Int} : EV d 38 11 L ((0, a) :: st) h = if a = 0 then EV d 38 18 L st h else EV d 38 14 L st h := (E_if (m38 dX5_goesOn_11) (t := 18) rfl).trans cc_eq
theorem e38_14 {d : Nat} {L st : List AV} {h : AM} : EV d 38 14 L st h = EV d 38 15 L ((0, 1) :: st) h := G_iconst (m38 dX5_goesOn_14) (by decide)
theorem e38_15 {d : Nat} {L st : List AV} {h : AM} : EV d 38 15 L st h = EV d 38 19 L st h := G_goto (m38 dX5_goesOn_15) rfl
theorem e38_18 {d : Nat} {L st : List AV} {h : AM} : EV d 38 18 L st h = EV d 38 19 L ((0, 0) :: st) h := G_iconst (m38 dX5_goesOn_18) (by decide)
theorem e38_19 {d : Nat} {L : List AV} {h : AM} {v : Int} (hv : v = 0 ∨ v = 1) : EV d 38 19 L [(0, v)] h = some ((0, v), h) := E_iret (m38 dX5_goesOn_19) (by rw [rt38]; rcases hv with rfl | rfl <;> rfl)
theorem e39_0 {d : Nat} {l1 : AV} {st : List AV} {h : AM} {x : Int} : EV d 39 0 [(2, x), l1] st h = EV d 39 1 [(2, x), l1] ((2, x) :: st) h := G_aload_n (m39 dX5_blame_0) rfl
theorem e39_1 {d : Nat} {L st : List AV} {h : AM} {r : Int} (hk : isK h r 5) : EV d 39 1 L ((2, r) :: st) h = EV d 39 4 L ((0, mrd h r 9) :: st) h := G_get (m39 dX5_blame_1) ow39 tf_5_43 rfl rfl hk
theorem e39_4 {d : Nat} {L st : List AV} {h : AM} {a : Int} : EV d 39 4 L ((0, a) :: st) h = if a = 0 then EV d 39 7 L st h else EV d 39 20 L st h := (E_if (m39 dX5_blame_4) (t := 20) rfl).trans cc_ne
theorem e39_7 {d : Nat} {l1 : AV} {st : List AV} {h : AM} {x : Int} : EV d 39 7 [(2, x), l1] st h = EV d 39 8 [(2, x), l1] ((2, x) :: st) h := G_aload_n (m39 dX5_blame_7) rfl
theorem e39_8 {d : Nat} {l0 : AV} {st : List AV} {h : AM} {x : Int} : EV d 39 8 [l0, (0, x)] st h = EV d 39 9 [l0, (0, x)] ((0, x) :: st) h := G_iload_n (m39 dX5_blame_8) rfl
theorem pk_39_5_9 : pok 39 5 9 0 = true := by decide +kernel
theorem e39_9 {d : Nat} {L st : List AV} {h : AM} {r v : Int} (hk : isK h r 5) : EV d 39 9 L ((0, v) :: (2, r) :: st) h = EV d 39 12 L st (mwr h r 9 v) := G_put (m39 dX5_blame_9) ow39 tf_5_43 pk_39_5_9 rfl hk
theorem e39_12 {d : Nat} {l1 : AV} {st : List AV} {h : AM} {x : Int} : EV d 39 12 [(2, x), l1] st h = EV d 39 13 [(2, x), l1] ((2, x) :: st) h := G_aload_n (m39 dX5_blame_12) rfl
theorem e39_13 {d : Nat} {l1 : AV} {st : List AV} {h : AM} {x : Int} : EV d 39 13 [(2, x), l1] st h = EV d 39 14 [(2, x), l1] ((2, x) :: st) h := G_aload_n (m39 dX5_blame_13) rfl
theorem e39_14 {d : Nat} {L st : List AV} {h : AM} {r : Int} (hk : isK h r 5) : EV d 39 14 L ((2, r) :: st) h = EV d 39 17 L ((0, mrd h r 6) :: st) h := G_get (m39 dX5_blame_14) ow39 tf_5_52 rfl rfl hk
theorem pk_39_5_10 : pok 39 5 10 0 = true := by decide +kernel
theorem e39_17 {d : Nat} {L st : List AV} {h : AM} {r v : Int} (hk : isK h r 5) : EV d 39 17 L ((0, v) :: (2, r) :: st) h = EV d 39 20 L st (mwr h r 10 v) := G_put (m39 dX5_blame_17) ow39 tf_5_46 pk_39_5_10 rfl hk
theorem e39_20 {d : Nat} {L : List AV} {h : AM} : EV d 39 20 L [] h = some ((3, 0), h) := E_ret (m39 dX5_blame_20) rt39
theorem e40_0 {d : Nat} {st : List AV} {h : AM} {x : Int} : EV d 40 0 [(2, x)] st h = EV d 40 1 [(2, x)] ((2, x) :: st) h := G_aload_n (m40 dX5_blameMisfit_0) rfl
theorem e40_1 {d : Nat} {st : List AV} {h : AM} {x : Int} : EV d 40 1 [(2, x)] st h = EV d 40 2 [(2, x)] ((2, x) :: st) h := G_aload_n (m40 dX5_blameMisfit_1) rfl
theorem e40_2 {d : Nat} {L st : List AV} {h : AM} {r : Int} (hk : isK h r 5) : EV d 40 2 L ((2, r) :: st) h = EV d 40 5 L ((0, mrd h r 5) :: st) h := G_get (m40 dX5_blameMisfit_2) ow40 tf_5_62 rfl rfl hk
theorem e40_5 {d : Nat} {L st : List AV} {h : AM} : EV d 40 5 L st h = EV d 40 6 L ((0, 4) :: st) h := G_iconst (m40 dX5_blameMisfit_5) (by decide)
theorem e40_6 {d : Nat} {L st : List AV} {h : AM} {a b : Int} : EV d 40 6 L ((0, b) :: (0, a) :: st) h = if a = b then EV d 40 9 L st h else EV d 40 13 L st h := (E_ic (m40 dX5_blameMisfit_6) (t := 13) rfl).trans cc_ne
theorem e40_9 {d : Nat} {L st : List AV} {h : AM} : EV d 40 9 L st h = EV d 40 10 L ((0, 1) :: st) h := G_iconst (m40 dX5_blameMisfit_9) (by decide)
theorem e40_10 {d : Nat} {L st : List AV} {h : AM} : EV d 40 10 L st h = EV d 40 14 L st h := G_goto (m40 dX5_blameMisfit_10) rfl
theorem e40_13 {d : Nat} {L st : List AV} {h : AM} : EV d 40 13 L st h = EV d 40 14 L ((0, 2) :: st) h := G_iconst (m40 dX5_blameMisfit_13) (by decide)
theorem e40_14 {d : Nat} {L st : List AV} {h : AM} {r p0 : Int} (hs : st.length ≤ 4) (hk : isK h r 5) : EV (d + 1) 40 14 L ((0, p0) :: (2, r) :: st) h = (EV d 39 0 [(2, r), (0, p0)] [] h).bind (fun q => EV (d + 1) 40 17 L (psh q.1 st) q.2) := G_cv [(0, p0)] (m40 dX5_blameMisfit_14) ow40 tr_5_73 (by decide) td39 np39 ml39 ow39 rfl rfl (Nat.le_of_ble_eq_true rfl) rfl hs hk
theorem e40_17 {d : Nat} {L : List AV} {h : AM} : EV d 40 17 L [] h = some ((3, 0), h) := E_ret (m40 dX5_blameMisfit_17) rt40
theorem e41_0 {d : Nat} {l1 : AV} {st : List AV} {h : AM} {x : Int} : EV d 41 0 [(2, x), l1] st h = EV d 41 1 [(2, x), l1] ((2, x) :: st) h := G_aload_n (m41 dX5_isWord_0) rfl
theorem e41_1 {d : Nat} {L st : List AV} {h : AM} {r : Int} (hk : isK h r 5) : EV d 41 1 L ((2, r) :: st) h = EV d 41 4 L ((0, mrd h r 9) :: st) h := G_get (m41 dX5_isWord_1) ow41 tf_5_43 rfl rfl hk
theorem e41_4 {d : Nat} {L st : List AV} {h : AM} {a : Int} : EV d 41 4 L ((0, a) :: st) h = if a = 0 then EV d 41 7 L st h else EV d 41 27 L st h := (E_if (m41 dX5_isWord_4) (t := 27) rfl).trans cc_ne
theorem e41_7 {d : Nat} {l1 : AV} {st : List AV} {h : AM} {x : Int} : EV d 41 7 [(2, x), l1] st h = EV d 41 8 [(2, x), l1] ((2, x) :: st) h := G_aload_n (m41 dX5_isWord_7) rfl
theorem e41_8 {d : Nat} {L st : List AV} {h : AM} {r : Int} (hk : isK h r 5) : EV d 41 8 L ((2, r) :: st) h = EV d 41 11 L ((0, mrd h r 5) :: st) h := G_get (m41 dX5_isWord_8) ow41 tf_5_62 rfl rfl hk
theorem e41_11 {d : Nat} {L st : List AV} {h : AM} : EV d 41 11 L st h = EV d 41 12 L ((0, 1) :: st) h := G_iconst (m41 dX5_isWord_11) (by decide)
theorem e41_12 {d : Nat} {L st : List AV} {h : AM} {a b : Int} : EV d 41 12 L ((0, b) :: (0, a) :: st) h = if a = b then EV d 41 15 L st h else EV d 41 27 L st h := (E_ic (m41 dX5_isWord_12) (t := 27) rfl).trans cc_ne
theorem e41_15 {d : Nat} {l1 : AV} {st : List AV} {h : AM} {x : Int} : EV d 41 15 [(2, x), l1] st h = EV d 41 16 [(2, x), l1] ((2, x) :: st) h := G_aload_n (m41 dX5_isWord_15) rfl
theorem e41_16 {d : Nat} {L st : List AV} {h : AM} {r : Int} (hk : isK h r 5) : EV d 41 16 L ((2, r) :: st) h = EV d 41 19 L ((0, mrd h r 8) :: st) h := G_get (m41 dX5_isWord_16) ow41 tf_5_59 rfl rfl hk
theorem e41_19 {d : Nat} {l0 : AV} {st : List AV} {h : AM} {x : Int} : EV d 41 19 [l0, (0, x)] st h = EV d 41 20 [l0, (0, x)] ((0, x) :: st) h := G_iload_n (m41 dX5_isWord_19) rfl
theorem e41_20 {d : Nat} {L st : List AV} {h : AM} {a b : Int} : EV d 41 20 L ((0, b) :: (0, a) :: st) h = if a = b then EV d 41 23 L st h else EV d 41 27 L st h := (E_ic (m41 dX5_isWord_20) (t := 27) rfl).trans cc_ne
theorem e41_23 {d : Nat} {L st : List AV} {h : AM} : EV d 41 23 L st h = EV d 41 24 L ((0, 1) :: st) h := G_iconst (m41 dX5_isWord_23) (by decide)
theorem e41_24 {d : Nat} {L st : List AV} {h : AM} : EV d 41 24 L st h = EV d 41 28 L st h := G_goto (m41 dX5_isWord_24) rfl
theorem e41_27 {d : Nat} {L st : List AV} {h : AM} : EV d 41 27 L st h = EV d 41 28 L ((0, 0) :: st) h := G_iconst (m41 dX5_isWord_27) (by decide)
theorem e41_28 {d : Nat} {L : List AV} {h : AM} {v : Int} (hv : v = 0 ∨ v = 1) : EV d 41 28 L [(0, v)] h = some ((0, v), h) := E_iret (m41 dX5_isWord_28) (by rw [rt41]; rcases hv with rfl | rfl <;> rfl)
theorem e42_0 {d : Nat} {l1 : AV} {st : List AV} {h : AM} {x : Int} : EV d 42 0 [(2, x), l1] st h = EV d 42 1 [(2, x), l1] ((2, x) :: st) h := G_aload_n (m42 dX5_isSign_0) rfl
theorem e42_1 {d : Nat} {L st : List AV} {h : AM} {r : Int} (hk : isK h r 5) : EV d 42 1 L ((2, r) :: st) h = EV d 42 4 L ((0, mrd h r 9) :: st) h := G_get (m42 dX5_isSign_1) ow42 tf_5_43 rfl rfl hk
theorem e42_4 {d : Nat} {L st : List AV} {h : AM} {a : Int} : EV d 42 4 L ((0, a) :: st) h = if a = 0 then EV d 42 7 L st h else EV d 42 29 L st h := (E_if (m42 dX5_isSign_4) (t := 29) rfl).trans cc_ne
theorem e42_7 {d : Nat} {l1 : AV} {st : List AV} {h : AM} {x : Int} : EV d 42 7 [(2, x), l1] st h = EV d 42 8 [(2, x), l1] ((2, x) :: st) h := G_aload_n (m42 dX5_isSign_7) rfl
theorem e42_8 {d : Nat} {L st : List AV} {h : AM} {r : Int} (hk : isK h r 5) : EV d 42 8 L ((2, r) :: st) h = EV d 42 11 L ((0, mrd h r 5) :: st) h := G_get (m42 dX5_isSign_8) ow42 tf_5_62 rfl rfl hk
theorem e42_11 {d : Nat} {L st : List AV} {h : AM} : EV d 42 11 L st h = EV d 42 12 L ((0, 3) :: st) h := G_iconst (m42 dX5_isSign_11) (by decide)
theorem e42_12 {d : Nat} {L st : List AV} {h : AM} {a b : Int} : EV d 42 12 L ((0, b) :: (0, a) :: st) h = if a = b then EV d 42 15 L st h else EV d 42 29 L st h := (E_ic (m42 dX5_isSign_12) (t := 29) rfl).trans cc_ne
theorem e42_15 {d : Nat} {l1 : AV} {st : List AV} {h : AM} {x : Int} : EV d 42 15 [(2, x), l1] st h = EV d 42 16 [(2, x), l1] ((2, x) :: st) h := G_aload_n (m42 dX5_isSign_15) rfl
theorem e42_16 {d : Nat} {L st : List AV} {h : AM} {r : Int} (hk : isK h r 5) : EV d 42 16 L ((2, r) :: st) h = EV d 42 19 L ((1, mrd h r 7) :: st) h := G_get (m42 dX5_isSign_16) ow42 tf_5_55 rfl rfl hk
theorem e42_19 {d : Nat} {l0 : AV} {st : List AV} {h : AM} {x : Int} : EV d 42 19 [l0, (0, x)] st h = EV d 42 20 [l0, (0, x)] ((0, x) :: st) h := G_iload_n (m42 dX5_isSign_19) rfl
theorem e42_20 {d : Nat} {L st : List AV} {h : AM} {a : Int} : EV d 42 20 L ((0, a) :: st) h = EV d 42 21 L ((1, a) :: st) h := G_i2l (m42 dX5_isSign_20)
theorem e42_21 {d : Nat} {L st : List AV} {h : AM} {a b : Int} : EV d 42 21 L ((1, b) :: (1, a) :: st) h = EV d 42 22 L ((0, cmp3 a b) :: st) h := G_lcmp (m42 dX5_isSign_21)
theorem e42_22 {d : Nat} {L st : List AV} {h : AM} {a : Int} : EV d 42 22 L ((0, a) :: st) h = if a = 0 then EV d 42 25 L st h else EV d 42 29 L st h := (E_if (m42 dX5_isSign_22) (t := 29) rfl).trans cc_ne
theorem e42_25 {d : Nat} {L st : List AV} {h : AM} : EV d 42 25 L st h = EV d 42 26 L ((0, 1) :: st) h := G_iconst (m42 dX5_isSign_25) (by decide)
theorem e42_26 {d : Nat} {L st : List AV} {h : AM} : EV d 42 26 L st h = EV d 42 30 L st h := G_goto (m42 dX5_isSign_26) rfl
theorem e42_29 {d : Nat} {L st : List AV} {h : AM} : EV d 42 29 L st h = EV d 42 30 L ((0, 0) :: st) h := G_iconst (m42 dX5_isSign_29) (by decide)
theorem e42_30 {d : Nat} {L : List AV} {h : AM} {v : Int} (hv : v = 0 ∨ v = 1) : EV d 42 30 L [(0, v)] h = some ((0, v), h) := E_iret (m42 dX5_isSign_30) (by rw [rt42]; rcases hv with rfl | rfl <;> rfl)
theorem e43_0 {d : Nat} {l1 : AV} {st : List AV} {h : AM} {x : Int} : EV d 43 0 [(2, x), l1] st h = EV d 43 1 [(2, x), l1] ((2, x) :: st) h := G_aload_n (m43 dX5_passWord_0) rfl
theorem e43_1 {d : Nat} {l0 : AV} {st : List AV} {h : AM} {x : Int} : EV d 43 1 [l0, (0, x)] st h = EV d 43 2 [l0, (0, x)] ((0, x) :: st) h := G_iload_n (m43 dX5_passWord_1) rfl
theorem e43_2 {d : Nat} {L st : List AV} {h : AM} {r p0 : Int} (hs : st.length ≤ 4) (hk : isK h r 5) : EV (d + 1) 43 2 L ((0, p0) :: (2, r) :: st) h = (EV d 41 0 [(2, r), (0, p0)] [] h).bind (fun q => EV (d + 1) 43 5 L (psh q.1 st) q.2) := G_cv [(0, p0)] (m43 dX5_passWord_2) ow43 tr_5_77 (by decide) td41 np41 ml41 ow41 rfl rfl (Nat.le_of_ble_eq_true rfl) rfl hs hk
theorem e43_5 {d : Nat} {L st : List AV} {h : AM} {a : Int} : EV d 43 5 L ((0, a) :: st) h = if a = 0 then EV d 43 15 L st h else EV d 43 8 L st h := (E_if (m43 dX5_passWord_5) (t := 15) rfl).trans cc_eq
theorem e43_8 {d : Nat} {l1 : AV} {st : List AV} {h : AM} {x : Int} : EV d 43 8 [(2, x), l1] st h = EV d 43 9 [(2, x), l1] ((2, x) :: st) h := G_aload_n (m43 dX5_passWord_8) rfl
theorem e43_9 {d : Nat} {L st : List AV} {h : AM} {r : Int} (hs : st.length ≤ 4) (hk : isK h r 5) : EV (d + 1) 43 9 L ((2, r) :: st) h = (EV d 35 0 [(2, r)] [] h).bind (fun q => EV (d + 1) 43 12 L (psh q.1 st) q.2) := G_cv [] (m43 dX5_passWord_9) ow43 tr_5_49 (by decide) td35 np35 ml35 ow35 rfl rfl (Nat.le_of_ble_eq_true rfl) rfl hs hk
theorem e43_12 {d : Nat} {L st : List AV} {h : AM} : EV d 43 12 L st h = EV d 43 19 L st h := G_goto (m43 dX5_passWord_12) rfl
theorem e43_15 {d : Nat} {l1 : AV} {st : List AV} {h : AM} {x : Int} : EV d 43 15 [(2, x), l1] st h = EV d 43 16 [(2, x), l1] ((2, x) :: st) h := G_aload_n (m43 dX5_passWord_15) rfl
theorem e43_16 {d : Nat} {L st : List AV} {h : AM} {r : Int} (hs : st.length ≤ 4) (hk : isK h r 5) : EV (d + 1) 43 16 L ((2, r) :: st) h = (EV d 40 0 [(2, r)] [] h).bind (fun q => EV (d + 1) 43 19 L (psh q.1 st) q.2) := G_cv [] (m43 dX5_passWord_16) ow43 tr_5_81 (by decide) td40 np40 ml40 ow40 rfl rfl (Nat.le_of_ble_eq_true rfl) rfl hs hk
theorem e43_19 {d : Nat} {L : List AV} {h : AM} : EV d 43 19 L [] h = some ((3, 0), h) := E_ret (m43 dX5_passWord_19) rt43
theorem e44_0 {d : Nat} {l1 : AV} {st : List AV} {h : AM} {x : Int} : EV d 44 0 [(2, x), l1] st h = EV d 44 1 [(2, x), l1] ((2, x) :: st) h := G_aload_n (m44 dX5_passSign_0) rfl
theorem e44_1 {d : Nat} {l0 : AV} {st : List AV} {h : AM} {x : Int} : EV d 44 1 [l0, (0, x)] st h = EV d 44 2 [l0, (0, x)] ((0, x) :: st) h := G_iload_n (m44 dX5_passSign_1) rfl
theorem e44_2 {d : Nat} {L st : List AV} {h : AM} {r p0 : Int} (hs : st.length ≤ 4) (hk : isK h r 5) : EV (d + 1) 44 2 L ((0, p0) :: (2, r) :: st) h = (EV d 42 0 [(2, r), (0, p0)] [] h).bind (fun q => EV (d + 1) 44 5 L (psh q.1 st) q.2) := G_cv [(0, p0)] (m44 dX5_passSign_2) ow44 tr_5_84 (by decide) td42 np42 ml42 ow42 rfl rfl (Nat.le_of_ble_eq_true rfl) rfl hs hk
theorem e44_5 {d : Nat} {L st : List AV} {h : AM} {a : Int} : EV d 44 5 L ((0, a) :: st) h = if a = 0 then EV d 44 15 L st h else EV d 44 8 L st h := (E_if (m44 dX5_passSign_5) (t := 15) rfl).trans cc_eq
theorem e44_8 {d : Nat} {l1 : AV} {st : List AV} {h : AM} {x : Int} : EV d 44 8 [(2, x), l1] st h = EV d 44 9 [(2, x), l1] ((2, x) :: st) h := G_aload_n (m44 dX5_passSign_8) rfl
theorem e44_9 {d : Nat} {L st : List AV} {h : AM} {r : Int} (hs : st.length ≤ 4) (hk : isK h r 5) : EV (d + 1) 44 9 L ((2, r) :: st) h = (EV d 35 0 [(2, r)] [] h).bind (fun q => EV (d + 1) 44 12 L (psh q.1 st) q.2) := G_cv [] (m44 dX5_passSign_9) ow44 tr_5_49 (by decide) td35 np35 ml35 ow35 rfl rfl (Nat.le_of_ble_eq_true rfl) rfl hs hk
theorem e44_12 {d : Nat} {L st : List AV} {h : AM} : EV d 44 12 L st h = EV d 44 19 L st h := G_goto (m44 dX5_passSign_12) rfl
theorem e44_15 {d : Nat} {l1 : AV} {st : List AV} {h : AM} {x : Int} : EV d 44 15 [(2, x), l1] st h = EV d 44 16 [(2, x), l1] ((2, x) :: st) h := G_aload_n (m44 dX5_passSign_15) rfl
theorem e44_16 {d : Nat} {L st : List AV} {h : AM} {r : Int} (hs : st.length ≤ 4) (hk : isK h r 5) : EV (d + 1) 44 16 L ((2, r) :: st) h = (EV d 40 0 [(2, r)] [] h).bind (fun q => EV (d + 1) 44 19 L (psh q.1 st) q.2) := G_cv [] (m44 dX5_passSign_16) ow44 tr_5_81 (by decide) td40 np40 ml40 ow40 rfl rfl (Nat.le_of_ble_eq_true rfl) rfl hs hk
theorem e44_19 {d : Nat} {L : List AV} {h : AM} : EV d 44 19 L [] h = some ((3, 0), h) := E_ret (m44 dX5_passSign_19) rt44
theorem e45_0 {d : Nat} {l1 l2 l3 : AV} {st : List AV} {h : AM} {x : Int} : EV d 45 0 [(2, x), l1, l2, l3] st h = EV d 45 1 [(2, x), l1, l2, l3] ((2, x) :: st) h := G_aload_n (m45 dX5_passNumber_0) rfl
theorem e45_1 {d : Nat} {L st : List AV} {h : AM} {r : Int} (hk : isK h r 5) : EV d 45 1 L ((2, r) :: st) h = EV d 45 4 L ((0, mrd h r 9) :: st) h := G_get (m45 dX5_passNumber_1) ow45 tf_5_43 rfl rfl hk
theorem e45_4 {d : Nat} {L st : List AV} {h : AM} {a : Int} : EV d 45 4 L ((0, a) :: st) h = if a = 0 then EV d 45 7 L st h else EV d 45 15 L st h := (E_if (m45 dX5_passNumber_4) (t := 15) rfl).trans cc_ne
theorem e45_7 {d : Nat} {l1 l2 l3 : AV} {st : List AV} {h : AM} {x : Int} : EV d 45 7 [(2, x), l1, l2, l3] st h = EV d 45 8 [(2, x), l1, l2, l3] ((2, x) :: st) h := G_aload_n (m45 dX5_passNumber_7) rfl
theorem e45_8 {d : Nat} {L st : List AV} {h : AM} {r : Int} (hk : isK h r 5) : EV d 45 8 L ((2, r) :: st) h = EV d 45 11 L ((0, mrd h r 5) :: st) h := G_get (m45 dX5_passNumber_8) ow45 tf_5_62 rfl rfl hk
theorem e45_11 {d : Nat} {L st : List AV} {h : AM} : EV d 45 11 L st h = EV d 45 12 L ((0, 2) :: st) h := G_iconst (m45 dX5_passNumber_11) (by decide)
theorem e45_12 {d : Nat} {L st : List AV} {h : AM} {a b : Int} : EV d 45 12 L ((0, b) :: (0, a) :: st) h = if a = b then EV d 45 21 L st h else EV d 45 15 L st h := (E_ic (m45 dX5_passNumber_12) (t := 21) rfl).trans cc_eq
theorem e45_15 {d : Nat} {l1 l2 l3 : AV} {st : List AV} {h : AM} {x : Int} : EV d 45 15 [(2, x), l1, l2, l3] st h = EV d 45 16 [(2, x), l1, l2, l3] ((2, x) :: st) h := G_aload_n (m45 dX5_passNumber_15) rfl
theorem e45_16 {d : Nat} {L st : List AV} {h : AM} {r : Int} (hs : st.length ≤ 4) (hk : isK h r 5) : EV (d + 1) 45 16 L ((2, r) :: st) h = (EV d 40 0 [(2, r)] [] h).bind (fun q => EV (d + 1) 45 19 L (psh q.1 st) q.2) := G_cv [] (m45 dX5_passNumber_16) ow45 tr_5_81 (by decide) td40 np40 ml40 ow40 rfl rfl (Nat.le_of_ble_eq_true rfl) rfl hs hk
theorem e45_19 {d : Nat} {l0 l2 l3 : AV} {st : List AV} {h : AM} {x : Int} : EV d 45 19 [l0, (0, x), l2, l3] st h = EV d 45 20 [l0, (0, x), l2, l3] ((0, x) :: st) h := G_iload_n (m45 dX5_passNumber_19) rfl
theorem e45_20 {d : Nat} {L : List AV} {h : AM} {v : Int} : EV d 45 20 L [(0, v)] h = some ((0, v), h) := E_iret (m45 dX5_passNumber_20) (by rw [rt45]; rfl)
theorem e45_21 {d : Nat} {l1 l2 l3 : AV} {st : List AV} {h : AM} {x : Int} : EV d 45 21 [(2, x), l1, l2, l3] st h = EV d 45 22 [(2, x), l1, l2, l3] ((2, x) :: st) h := G_aload_n (m45 dX5_passNumber_21) rfl
theorem e45_22 {d : Nat} {L st : List AV} {h : AM} {r : Int} (hk : isK h r 5) : EV d 45 22 L ((2, r) :: st) h = EV d 45 25 L ((1, mrd h r 7) :: st) h := G_get (m45 dX5_passNumber_22) ow45 tf_5_55 rfl rfl hk
theorem e45_25 {d : Nat} {l0 l2 l3 : AV} {st : List AV} {h : AM} {x : Int} : EV d 45 25 [l0, (0, x), l2, l3] st h = EV d 45 26 [l0, (0, x), l2, l3] ((0, x) :: st) h := G_iload_n (m45 dX5_passNumber_25) rfl
theorem e45_26 {d : Nat} {L st : List AV} {h : AM} {a : Int} : EV d 45 26 L ((0, a) :: st) h = EV d 45 27 L ((1, a) :: st) h := G_i2l (m45 dX5_passNumber_26)
theorem e45_27 {d : Nat} {L st : List AV} {h : AM} {a b : Int} : EV d 45 27 L ((1, b) :: (1, a) :: st) h = EV d 45 28 L ((0, cmp3 a b) :: st) h := G_lcmp (m45 dX5_passNumber_27)
theorem e45_28 {d : Nat} {L st : List AV} {h : AM} {a : Int} : EV d 45 28 L ((0, a) :: st) h = if a < 0 then EV d 45 41 L st h else EV d 45 31 L st h := (E_if (m45 dX5_passNumber_28) (t := 41) rfl).trans cc_lt
theorem e45_31 {d : Nat} {l1 l2 l3 : AV} {st : List AV} {h : AM} {x : Int} : EV d 45 31 [(2, x), l1, l2, l3] st h = EV d 45 32 [(2, x), l1, l2, l3] ((2, x) :: st) h := G_aload_n (m45 dX5_passNumber_31) rfl
theorem e45_32 {d : Nat} {L st : List AV} {h : AM} {r : Int} (hk : isK h r 5) : EV d 45 32 L ((2, r) :: st) h = EV d 45 35 L ((1, mrd h r 7) :: st) h := G_get (m45 dX5_passNumber_32) ow45 tf_5_55 rfl rfl hk
theorem e45_35 {d : Nat} {l0 l1 l3 : AV} {st : List AV} {h : AM} {x : Int} : EV d 45 35 [l0, l1, (0, x), l3] st h = EV d 45 36 [l0, l1, (0, x), l3] ((0, x) :: st) h := G_iload_n (m45 dX5_passNumber_35) rfl
theorem e45_36 {d : Nat} {L st : List AV} {h : AM} {a : Int} : EV d 45 36 L ((0, a) :: st) h = EV d 45 37 L ((1, a) :: st) h := G_i2l (m45 dX5_passNumber_36)
theorem e45_37 {d : Nat} {L st : List AV} {h : AM} {a b : Int} : EV d 45 37 L ((1, b) :: (1, a) :: st) h = EV d 45 38 L ((0, cmp3 a b) :: st) h := G_lcmp (m45 dX5_passNumber_37)
theorem e45_38 {d : Nat} {L st : List AV} {h : AM} {a : Int} : EV d 45 38 L ((0, a) :: st) h = if 0 < a then EV d 45 41 L st h else EV d 45 48 L st h := (E_if (m45 dX5_passNumber_38) (t := 48) rfl).trans cc_le
theorem e45_41 {d : Nat} {l1 l2 l3 : AV} {st : List AV} {h : AM} {x : Int} : EV d 45 41 [(2, x), l1, l2, l3] st h = EV d 45 42 [(2, x), l1, l2, l3] ((2, x) :: st) h := G_aload_n (m45 dX5_passNumber_41) rfl
theorem e45_42 {d : Nat} {L st : List AV} {h : AM} : EV d 45 42 L st h = EV d 45 43 L ((0, 4) :: st) h := G_iconst (m45 dX5_passNumber_42) (by decide)
theorem e45_43 {d : Nat} {L st : List AV} {h : AM} {r p0 : Int} (hs : st.length ≤ 4) (hk : isK h r 5) : EV (d + 1) 45 43 L ((0, p0) :: (2, r) :: st) h = (EV d 39 0 [(2, r), (0, p0)] [] h).bind (fun q => EV (d + 1) 45 46 L (psh q.1 st) q.2) := G_cv [(0, p0)] (m45 dX5_passNumber_43) ow45 tr_5_73 (by decide) td39 np39 ml39 ow39 rfl rfl (Nat.le_of_ble_eq_true rfl) rfl hs hk
theorem e45_46 {d : Nat} {l0 l2 l3 : AV} {st : List AV} {h : AM} {x : Int} : EV d 45 46 [l0, (0, x), l2, l3] st h = EV d 45 47 [l0, (0, x), l2, l3] ((0, x) :: st) h := G_iload_n (m45 dX5_passNumber_46) rfl
theorem e45_47 {d : Nat} {L : List AV} {h : AM} {v : Int} : EV d 45 47 L [(0, v)] h = some ((0, v), h) := E_iret (m45 dX5_passNumber_47) (by rw [rt45]; rfl)
theorem e45_48 {d : Nat} {l1 l2 l3 : AV} {st : List AV} {h : AM} {x : Int} : EV d 45 48 [(2, x), l1, l2, l3] st h = EV d 45 49 [(2, x), l1, l2, l3] ((2, x) :: st) h := G_aload_n (m45 dX5_passNumber_48) rfl
theorem e45_49 {d : Nat} {L st : List AV} {h : AM} {r : Int} (hk : isK h r 5) : EV d 45 49 L ((2, r) :: st) h = EV d 45 52 L ((1, mrd h r 7) :: st) h := G_get (m45 dX5_passNumber_49) ow45 tf_5_55 rfl rfl hk
theorem e45_52 {d : Nat} {L st : List AV} {h : AM} {a : Int} : EV d 45 52 L ((1, a) :: st) h = EV d 45 53 L ((0, w32 a) :: st) h := G_l2i (m45 dX5_passNumber_52)
theorem e45_53 {d : Nat} {l0 l1 l2 l3 : AV} {st : List AV} {h : AM} {x : Int} : EV d 45 53 [l0, l1, l2, l3] ((0, x) :: st) h = EV d 45 54 [l0, l1, l2, (0, x)] st h := G_istore_n (m45 dX5_passNumber_53) (Nat.le_of_ble_eq_true rfl) rfl
theorem e45_54 {d : Nat} {l1 l2 l3 : AV} {st : List AV} {h : AM} {x : Int} : EV d 45 54 [(2, x), l1, l2, l3] st h = EV d 45 55 [(2, x), l1, l2, l3] ((2, x) :: st) h := G_aload_n (m45 dX5_passNumber_54) rfl
theorem e45_55 {d : Nat} {L st : List AV} {h : AM} {r : Int} (hs : st.length ≤ 4) (hk : isK h r 5) : EV (d + 1) 45 55 L ((2, r) :: st) h = (EV d 35 0 [(2, r)] [] h).bind (fun q => EV (d + 1) 45 58 L (psh q.1 st) q.2) := G_cv [] (m45 dX5_passNumber_55) ow45 tr_5_49 (by decide) td35 np35 ml35 ow35 rfl rfl (Nat.le_of_ble_eq_true rfl) rfl hs hk
theorem e45_58 {d : Nat} {l0 l1 l2 : AV} {st : List AV} {h : AM} {x : Int} : EV d 45 58 [l0, l1, l2, (0, x)] st h = EV d 45 59 [l0, l1, l2, (0, x)] ((0, x) :: st) h := G_iload_n (m45 dX5_passNumber_58) rfl
theorem e45_59 {d : Nat} {L : List AV} {h : AM} {v : Int} : EV d 45 59 L [(0, v)] h = some ((0, v), h) := E_iret (m45 dX5_passNumber_59) (by rw [rt45]; rfl)
theorem e46_0 {d : Nat} {l1 : AV} {st : List AV} {h : AM} {x : Int} : EV d 46 0 [(2, x), l1] st h = EV d 46 1 [(2, x), l1] ((2, x) :: st) h := G_aload_n (m46 dX5_passLetter_0) rfl
theorem e46_1 {d : Nat} {L st : List AV} {h : AM} {r : Int} (hk : isK h r 5) : EV d 46 1 L ((2, r) :: st) h = EV d 46 4 L ((0, mrd h r 9) :: st) h := G_get (m46 dX5_passLetter_1) ow46 tf_5_43 rfl rfl hk
theorem e46_4 {d : Nat} {L st : List AV} {h : AM} {a : Int} : EV d 46 4 L ((0, a) :: st) h = if a = 0 then EV d 46 7 L st h else EV d 46 28 L st h := (E_if (m46 dX5_passLetter_4) (t := 28) rfl).trans cc_ne
theorem e46_7 {d : Nat} {l1 : AV} {st : List AV} {h : AM} {x : Int} : EV d 46 7 [(2, x), l1] st h = EV d 46 8 [(2, x), l1] ((2, x) :: st) h := G_aload_n (m46 dX5_passLetter_7) rfl
theorem e46_8 {d : Nat} {L st : List AV} {h : AM} {r : Int} (hk : isK h r 5) : EV d 46 8 L ((2, r) :: st) h = EV d 46 11 L ((0, mrd h r 5) :: st) h := G_get (m46 dX5_passLetter_8) ow46 tf_5_62 rfl rfl hk
theorem e46_11 {d : Nat} {L st : List AV} {h : AM} : EV d 46 11 L st h = EV d 46 12 L ((0, 1) :: st) h := G_iconst (m46 dX5_passLetter_11) (by decide)
theorem e46_12 {d : Nat} {L st : List AV} {h : AM} {a b : Int} : EV d 46 12 L ((0, b) :: (0, a) :: st) h = if a = b then EV d 46 15 L st h else EV d 46 28 L st h := (E_ic (m46 dX5_passLetter_12) (t := 28) rfl).trans cc_ne
theorem e46_15 {d : Nat} {l1 : AV} {st : List AV} {h : AM} {x : Int} : EV d 46 15 [(2, x), l1] st h = EV d 46 16 [(2, x), l1] ((2, x) :: st) h := G_aload_n (m46 dX5_passLetter_15) rfl
theorem e46_16 {d : Nat} {L st : List AV} {h : AM} {r : Int} (hk : isK h r 5) : EV d 46 16 L ((2, r) :: st) h = EV d 46 19 L ((0, mrd h r 4) :: st) h := G_get (m46 dX5_passLetter_16) ow46 tf_5_40 rfl rfl hk
theorem e46_19 {d : Nat} {l1 : AV} {st : List AV} {h : AM} {x : Int} : EV d 46 19 [(2, x), l1] st h = EV d 46 20 [(2, x), l1] ((2, x) :: st) h := G_aload_n (m46 dX5_passLetter_19) rfl
theorem e46_20 {d : Nat} {L st : List AV} {h : AM} {r : Int} (hk : isK h r 5) : EV d 46 20 L ((2, r) :: st) h = EV d 46 23 L ((0, mrd h r 6) :: st) h := G_get (m46 dX5_passLetter_20) ow46 tf_5_52 rfl rfl hk
theorem e46_23 {d : Nat} {L st : List AV} {h : AM} {a b : Int} : EV d 46 23 L ((0, b) :: (0, a) :: st) h = EV d 46 24 L ((0, w32 (a - b)) :: st) h := E_isub (m46 dX5_passLetter_23)
theorem e46_24 {d : Nat} {L st : List AV} {h : AM} : EV d 46 24 L st h = EV d 46 25 L ((0, 1) :: st) h := G_iconst (m46 dX5_passLetter_24) (by decide)
theorem e46_25 {d : Nat} {L st : List AV} {h : AM} {a b : Int} : EV d 46 25 L ((0, b) :: (0, a) :: st) h = if a = b then EV d 46 34 L st h else EV d 46 28 L st h := (E_ic (m46 dX5_passLetter_25) (t := 34) rfl).trans cc_eq
theorem e46_28 {d : Nat} {l1 : AV} {st : List AV} {h : AM} {x : Int} : EV d 46 28 [(2, x), l1] st h = EV d 46 29 [(2, x), l1] ((2, x) :: st) h := G_aload_n (m46 dX5_passLetter_28) rfl
theorem e46_29 {d : Nat} {L st : List AV} {h : AM} {r : Int} (hs : st.length ≤ 4) (hk : isK h r 5) : EV (d + 1) 46 29 L ((2, r) :: st) h = (EV d 40 0 [(2, r)] [] h).bind (fun q => EV (d + 1) 46 32 L (psh q.1 st) q.2) := G_cv [] (m46 dX5_passLetter_29) ow46 tr_5_81 (by decide) td40 np40 ml40 ow40 rfl rfl (Nat.le_of_ble_eq_true rfl) rfl hs hk
theorem e46_32 {d : Nat} {L st : List AV} {h : AM} : EV d 46 32 L st h = EV d 46 33 L ((0, 0) :: st) h := G_iconst (m46 dX5_passLetter_32) (by decide)
theorem e46_33 {d : Nat} {L : List AV} {h : AM} {v : Int} : EV d 46 33 L [(0, v)] h = some ((0, v), h) := E_iret (m46 dX5_passLetter_33) (by rw [rt46]; rfl)
theorem e46_34 {d : Nat} {l1 : AV} {st : List AV} {h : AM} {x : Int} : EV d 46 34 [(2, x), l1] st h = EV d 46 35 [(2, x), l1] ((2, x) :: st) h := G_aload_n (m46 dX5_passLetter_34) rfl
theorem e46_35 {d : Nat} {L st : List AV} {h : AM} {r : Int} (hk : isK h r 5) : EV d 46 35 L ((2, r) :: st) h = EV d 46 38 L ((1, mrd h r 7) :: st) h := G_get (m46 dX5_passLetter_35) ow46 tf_5_55 rfl rfl hk
theorem e46_38 {d : Nat} {L st : List AV} {h : AM} {a : Int} : EV d 46 38 L ((1, a) :: st) h = EV d 46 39 L ((0, w32 a) :: st) h := G_l2i (m46 dX5_passLetter_38)
theorem e46_39 {d : Nat} {l0 l1 : AV} {st : List AV} {h : AM} {x : Int} : EV d 46 39 [l0, l1] ((0, x) :: st) h = EV d 46 40 [l0, (0, x)] st h := G_istore_n (m46 dX5_passLetter_39) (Nat.le_of_ble_eq_true rfl) rfl
theorem e46_40 {d : Nat} {l1 : AV} {st : List AV} {h : AM} {x : Int} : EV d 46 40 [(2, x), l1] st h = EV d 46 41 [(2, x), l1] ((2, x) :: st) h := G_aload_n (m46 dX5_passLetter_40) rfl
theorem e46_41 {d : Nat} {L st : List AV} {h : AM} {r : Int} (hs : st.length ≤ 4) (hk : isK h r 5) : EV (d + 1) 46 41 L ((2, r) :: st) h = (EV d 35 0 [(2, r)] [] h).bind (fun q => EV (d + 1) 46 44 L (psh q.1 st) q.2) := G_cv [] (m46 dX5_passLetter_41) ow46 tr_5_49 (by decide) td35 np35 ml35 ow35 rfl rfl (Nat.le_of_ble_eq_true rfl) rfl hs hk
theorem e46_44 {d : Nat} {l0 : AV} {st : List AV} {h : AM} {x : Int} : EV d 46 44 [l0, (0, x)] st h = EV d 46 45 [l0, (0, x)] ((0, x) :: st) h := G_iload_n (m46 dX5_passLetter_44) rfl
theorem e46_45 {d : Nat} {L : List AV} {h : AM} {v : Int} : EV d 46 45 L [(0, v)] h = some ((0, v), h) := E_iret (m46 dX5_passLetter_45) (by rw [rt46]; rfl)
theorem e47_0 {d : Nat} {l1 : AV} {st : List AV} {h : AM} {x : Int} : EV d 47 0 [(2, x), l1] st h = EV d 47 1 [(2, x), l1] ((2, x) :: st) h := G_aload_n (m47 dX5_passCompares_0) rfl
theorem e47_1 {d : Nat} {L st : List AV} {h : AM} : EV d 47 1 L st h = EV d 47 3 L ((0, 60) :: st) h := G_bipush (m47 dX5_passCompares_1) (by decide)
theorem e47_3 {d : Nat} {L st : List AV} {h : AM} {r p0 : Int} (hs : st.length ≤ 4) (hk : isK h r 5) : EV (d + 1) 47 3 L ((0, p0) :: (2, r) :: st) h = (EV d 42 0 [(2, r), (0, p0)] [] h).bind (fun q => EV (d + 1) 47 6 L (psh q.1 st) q.2) := G_cv [(0, p0)] (m47 dX5_passCompares_3) ow47 tr_5_84 (by decide) td42 np42 ml42 ow42 rfl rfl (Nat.le_of_ble_eq_true rfl) rfl hs hk
theorem e47_6 {d : Nat} {L st : List AV} {h : AM} {a : Int} : EV d 47 6 L ((0, a) :: st) h = if a = 0 then EV d 47 9 L st h else EV d 47 27 L st h := (E_if (m47 dX5_passCompares_6) (t := 27) rfl).trans cc_ne
theorem e47_9 {d : Nat} {l1 : AV} {st : List AV} {h : AM} {x : Int} : EV d 47 9 [(2, x), l1] st h = EV d 47 10 [(2, x), l1] ((2, x) :: st) h := G_aload_n (m47 dX5_passCompares_9) rfl
theorem e47_10 {d : Nat} {L st : List AV} {h : AM} : EV d 47 10 L st h = EV d 47 12 L ((0, 62) :: st) h := G_bipush (m47 dX5_passCompares_10) (by decide)
theorem e47_12 {d : Nat} {L st : List AV} {h : AM} {r p0 : Int} (hs : st.length ≤ 4) (hk : isK h r 5) : EV (d + 1) 47 12 L ((0, p0) :: (2, r) :: st) h = (EV d 42 0 [(2, r), (0, p0)] [] h).bind (fun q => EV (d + 1) 47 15 L (psh q.1 st) q.2) := G_cv [(0, p0)] (m47 dX5_passCompares_12) ow47 tr_5_84 (by decide) td42 np42 ml42 ow42 rfl rfl (Nat.le_of_ble_eq_true rfl) rfl hs hk
theorem e47_15 {d : Nat} {L st : List AV} {h : AM} {a : Int} : EV d 47 15 L ((0, a) :: st) h = if a = 0 then EV d 47 18 L st h else EV d 47 27 L st h := (E_if (m47 dX5_passCompares_15) (t := 27) rfl).trans cc_ne
theorem e47_18 {d : Nat} {l1 : AV} {st : List AV} {h : AM} {x : Int} : EV d 47 18 [(2, x), l1] st h = EV d 47 19 [(2, x), l1] ((2, x) :: st) h := G_aload_n (m47 dX5_passCompares_18) rfl
theorem e47_19 {d : Nat} {L st : List AV} {h : AM} : EV d 47 19 L st h = EV d 47 21 L ((0, 61) :: st) h := G_bipush (m47 dX5_passCompares_19) (by decide)
theorem e47_21 {d : Nat} {L st : List AV} {h : AM} {r p0 : Int} (hs : st.length ≤ 4) (hk : isK h r 5) : EV (d + 1) 47 21 L ((0, p0) :: (2, r) :: st) h = (EV d 42 0 [(2, r), (0, p0)] [] h).bind (fun q => EV (d + 1) 47 24 L (psh q.1 st) q.2) := G_cv [(0, p0)] (m47 dX5_passCompares_21) ow47 tr_5_84 (by decide) td42 np42 ml42 ow42 rfl rfl (Nat.le_of_ble_eq_true rfl) rfl hs hk
theorem e47_24 {d : Nat} {L st : List AV} {h : AM} {a : Int} : EV d 47 24 L ((0, a) :: st) h = if a = 0 then EV d 47 40 L st h else EV d 47 27 L st h := (E_if (m47 dX5_passCompares_24) (t := 40) rfl).trans cc_eq
theorem e47_27 {d : Nat} {l1 : AV} {st : List AV} {h : AM} {x : Int} : EV d 47 27 [(2, x), l1] st h = EV d 47 28 [(2, x), l1] ((2, x) :: st) h := G_aload_n (m47 dX5_passCompares_27) rfl
theorem e47_28 {d : Nat} {L st : List AV} {h : AM} {r : Int} (hk : isK h r 5) : EV d 47 28 L ((2, r) :: st) h = EV d 47 31 L ((1, mrd h r 7) :: st) h := G_get (m47 dX5_passCompares_28) ow47 tf_5_55 rfl rfl hk
theorem e47_31 {d : Nat} {L st : List AV} {h : AM} {a : Int} : EV d 47 31 L ((1, a) :: st) h = EV d 47 32 L ((0, w32 a) :: st) h := G_l2i (m47 dX5_passCompares_31)
theorem e47_32 {d : Nat} {L st : List AV} {h : AM} {a : Int} : EV d 47 32 L ((0, a) :: st) h = EV d 47 33 L ((0, wch a) :: st) h := G_i2c (m47 dX5_passCompares_32)
theorem e47_33 {d : Nat} {l0 l1 : AV} {st : List AV} {h : AM} {x : Int} : EV d 47 33 [l0, l1] ((0, x) :: st) h = EV d 47 34 [l0, (0, x)] st h := G_istore_n (m47 dX5_passCompares_33) (Nat.le_of_ble_eq_true rfl) rfl
theorem e47_34 {d : Nat} {l1 : AV} {st : List AV} {h : AM} {x : Int} : EV d 47 34 [(2, x), l1] st h = EV d 47 35 [(2, x), l1] ((2, x) :: st) h := G_aload_n (m47 dX5_passCompares_34) rfl
theorem e47_35 {d : Nat} {L st : List AV} {h : AM} {r : Int} (hs : st.length ≤ 4) (hk : isK h r 5) : EV (d + 1) 47 35 L ((2, r) :: st) h = (EV d 35 0 [(2, r)] [] h).bind (fun q => EV (d + 1) 47 38 L (psh q.1 st) q.2) := G_cv [] (m47 dX5_passCompares_35) ow47 tr_5_49 (by decide) td35 np35 ml35 ow35 rfl rfl (Nat.le_of_ble_eq_true rfl) rfl hs hk
theorem e47_38 {d : Nat} {l0 : AV} {st : List AV} {h : AM} {x : Int} : EV d 47 38 [l0, (0, x)] st h = EV d 47 39 [l0, (0, x)] ((0, x) :: st) h := G_iload_n (m47 dX5_passCompares_38) rfl
theorem e47_39 {d : Nat} {L : List AV} {h : AM} {v : Int} (h0 : 0 ≤ v) (h1 : v < 65536) : EV d 47 39 L [(0, v)] h = some ((0, v), h) := E_iret (m47 dX5_passCompares_39) (by rw [rt47]; show (decide (0 ≤ v) && decide (v < 65536)) = true; simp [h0, h1])
theorem e47_40 {d : Nat} {l1 : AV} {st : List AV} {h : AM} {x : Int} : EV d 47 40 [(2, x), l1] st h = EV d 47 41 [(2, x), l1] ((2, x) :: st) h := G_aload_n (m47 dX5_passCompares_40) rfl
theorem e47_41 {d : Nat} {L st : List AV} {h : AM} {r : Int} (hs : st.length ≤ 4) (hk : isK h r 5) : EV (d + 1) 47 41 L ((2, r) :: st) h = (EV d 40 0 [(2, r)] [] h).bind (fun q => EV (d + 1) 47 44 L (psh q.1 st) q.2) := G_cv [] (m47 dX5_passCompares_41) ow47 tr_5_81 (by decide) td40 np40 ml40 ow40 rfl rfl (Nat.le_of_ble_eq_true rfl) rfl hs hk
theorem e47_44 {d : Nat} {L st : List AV} {h : AM} : EV d 47 44 L st h = EV d 47 46 L ((0, 61) :: st) h := G_bipush (m47 dX5_passCompares_44) (by decide)
theorem e47_46 {d : Nat} {L : List AV} {h : AM} {v : Int} (h0 : 0 ≤ v) (h1 : v < 65536) : EV d 47 46 L [(0, v)] h = some ((0, v), h) := E_iret (m47 dX5_passCompares_46) (by rw [rt47]; show (decide (0 ≤ v) && decide (v < 65536)) = true; simp [h0, h1])
theorem e48_0 {d : Nat} {st : List AV} {h : AM} {x : Int} : EV d 48 0 [(2, x)] st h = EV d 48 1 [(2, x)] ((2, x) :: st) h := G_aload_n (m48 dX5_seeName_0) rfl
theorem e48_1 {d : Nat} {L st : List AV} {h : AM} {r : Int} (hk : isK h r 5) : EV d 48 1 L ((2, r) :: st) h = EV d 48 4 L ((0, mrd h r 9) :: st) h := G_get (m48 dX5_seeName_1) ow48 tf_5_43 rfl rfl hk
theorem e48_4 {d : Nat} {L st : List AV} {h : AM} {a : Int} : EV d 48 4 L ((0, a) :: st) h = if a = 0 then EV d 48 7 L st h else EV d 48 42 L st h := (E_if (m48 dX5_seeName_4) (t := 42) rfl).trans cc_ne
theorem e48_7 {d : Nat} {st : List AV} {h : AM} {x : Int} : EV d 48 7 [(2, x)] st h = EV d 48 8 [(2, x)] ((2, x) :: st) h := G_aload_n (m48 dX5_seeName_7) rfl
theorem e48_8 {d : Nat} {L st : List AV} {h : AM} {r : Int} (hk : isK h r 5) : EV d 48 8 L ((2, r) :: st) h = EV d 48 11 L ((0, mrd h r 5) :: st) h := G_get (m48 dX5_seeName_8) ow48 tf_5_62 rfl rfl hk
theorem e48_11 {d : Nat} {L st : List AV} {h : AM} : EV d 48 11 L st h = EV d 48 12 L ((0, 1) :: st) h := G_iconst (m48 dX5_seeName_11) (by decide)
theorem e48_12 {d : Nat} {L st : List AV} {h : AM} {a b : Int} : EV d 48 12 L ((0, b) :: (0, a) :: st) h = if a = b then EV d 48 15 L st h else EV d 48 42 L st h := (E_ic (m48 dX5_seeName_12) (t := 42) rfl).trans cc_ne
theorem e48_15 {d : Nat} {st : List AV} {h : AM} {x : Int} : EV d 48 15 [(2, x)] st h = EV d 48 16 [(2, x)] ((2, x) :: st) h := G_aload_n (m48 dX5_seeName_15) rfl
theorem e48_16 {d : Nat} {L st : List AV} {h : AM} {r : Int} (hk : isK h r 5) : EV d 48 16 L ((2, r) :: st) h = EV d 48 19 L ((0, mrd h r 8) :: st) h := G_get (m48 dX5_seeName_16) ow48 tf_5_59 rfl rfl hk
theorem e48_19 {d : Nat} {L st : List AV} {h : AM} : EV d 48 19 L st h = EV d 48 20 L ((0, -1) :: st) h := G_iconst (m48 dX5_seeName_19) (by decide)
theorem e48_20 {d : Nat} {L st : List AV} {h : AM} {a b : Int} : EV d 48 20 L ((0, b) :: (0, a) :: st) h = if a = b then EV d 48 23 L st h else EV d 48 42 L st h := (E_ic (m48 dX5_seeName_20) (t := 42) rfl).trans cc_ne
theorem e48_23 {d : Nat} {st : List AV} {h : AM} {x : Int} : EV d 48 23 [(2, x)] st h = EV d 48 24 [(2, x)] ((2, x) :: st) h := G_aload_n (m48 dX5_seeName_23) rfl
theorem e48_24 {d : Nat} {L st : List AV} {h : AM} {r : Int} (hk : isK h r 5) : EV d 48 24 L ((2, r) :: st) h = EV d 48 27 L ((0, mrd h r 4) :: st) h := G_get (m48 dX5_seeName_24) ow48 tf_5_40 rfl rfl hk
theorem e48_27 {d : Nat} {st : List AV} {h : AM} {x : Int} : EV d 48 27 [(2, x)] st h = EV d 48 28 [(2, x)] ((2, x) :: st) h := G_aload_n (m48 dX5_seeName_27) rfl
theorem e48_28 {d : Nat} {L st : List AV} {h : AM} {r : Int} (hk : isK h r 5) : EV d 48 28 L ((2, r) :: st) h = EV d 48 31 L ((0, mrd h r 6) :: st) h := G_get (m48 dX5_seeName_28) ow48 tf_5_52 rfl rfl hk
theorem e48_31 {d : Nat} {L st : List AV} {h : AM} {a b : Int} : EV d 48 31 L ((0, b) :: (0, a) :: st) h = EV d 48 32 L ((0, w32 (a - b)) :: st) h := E_isub (m48 dX5_seeName_31)
theorem e48_32 {d : Nat} {L st : List AV} {h : AM} : EV d 48 32 L st h = EV d 48 34 L ((0, 8) :: st) h := G_bipush (m48 dX5_seeName_32) (by decide)
theorem e48_34 {d : Nat} {L st : List AV} {h : AM} {a b : Int} : EV d 48 34 L ((0, b) :: (0, a) :: st) h = if b < a then EV d 48 42 L st h else EV d 48 37 L st h := (E_ic (m48 dX5_seeName_34) (t := 42) rfl).trans cc_gt
theorem e48_37 {d : Nat} {st : List AV} {h : AM} {x : Int} : EV d 48 37 [(2, x)] st h = EV d 48 38 [(2, x)] ((2, x) :: st) h := G_aload_n (m48 dX5_seeName_37) rfl
theorem e48_38 {d : Nat} {L st : List AV} {h : AM} {r : Int} (hk : isK h r 5) : EV d 48 38 L ((2, r) :: st) h = EV d 48 41 L ((1, mrd h r 7) :: st) h := G_get (m48 dX5_seeName_38) ow48 tf_5_55 rfl rfl hk
theorem e48_41 {d : Nat} {L : List AV} {h : AM} {v : Int} : EV d 48 41 L [(1, v)] h = some ((1, v), h) := E_lret (m48 dX5_seeName_41) rt48
theorem e48_42 {d : Nat} {st : List AV} {h : AM} {x : Int} : EV d 48 42 [(2, x)] st h = EV d 48 43 [(2, x)] ((2, x) :: st) h := G_aload_n (m48 dX5_seeName_42) rfl
theorem e48_43 {d : Nat} {L st : List AV} {h : AM} {r : Int} (hs : st.length ≤ 4) (hk : isK h r 5) : EV (d + 1) 48 43 L ((2, r) :: st) h = (EV d 40 0 [(2, r)] [] h).bind (fun q => EV (d + 1) 48 46 L (psh q.1 st) q.2) := G_cv [] (m48 dX5_seeName_43) ow48 tr_5_81 (by decide) td40 np40 ml40 ow40 rfl rfl (Nat.le_of_ble_eq_true rfl) rfl hs hk
theorem e48_46 {d : Nat} {L st : List AV} {h : AM} : EV d 48 46 L st h = EV d 48 47 L ((1, 0) :: st) h := G_lconst0 (m48 dX5_seeName_46)
theorem e48_47 {d : Nat} {L : List AV} {h : AM} {v : Int} : EV d 48 47 L [(1, v)] h = some ((1, v), h) := E_lret (m48 dX5_seeName_47) rt48
theorem e49_0 {d : Nat} {l0 : AV} {st : List AV} {h : AM} {x : Int} : EV d 49 0 [l0, (0, x)] st h = EV d 49 1 [l0, (0, x)] ((0, x) :: st) h := G_iload_n (m49 dX5_passFound_0) rfl
theorem e49_1 {d : Nat} {L st : List AV} {h : AM} : EV d 49 1 L st h = EV d 49 2 L ((0, -1) :: st) h := G_iconst (m49 dX5_passFound_1) (by decide)
theorem e49_2 {d : Nat} {L st : List AV} {h : AM} {a b : Int} : EV d 49 2 L ((0, b) :: (0, a) :: st) h = if a = b then EV d 49 5 L st h else EV d 49 10 L st h := (E_ic (m49 dX5_passFound_2) (t := 10) rfl).trans cc_ne
theorem e49_5 {d : Nat} {l1 : AV} {st : List AV} {h : AM} {x : Int} : EV d 49 5 [(2, x), l1] st h = EV d 49 6 [(2, x), l1] ((2, x) :: st) h := G_aload_n (m49 dX5_passFound_5) rfl
theorem e49_6 {d : Nat} {L st : List AV} {h : AM} : EV d 49 6 L st h = EV d 49 7 L ((0, 3) :: st) h := G_iconst (m49 dX5_passFound_6) (by decide)
theorem e49_7 {d : Nat} {L st : List AV} {h : AM} {r p0 : Int} (hs : st.length ≤ 4) (hk : isK h r 5) : EV (d + 1) 49 7 L ((0, p0) :: (2, r) :: st) h = (EV d 39 0 [(2, r), (0, p0)] [] h).bind (fun q => EV (d + 1) 49 10 L (psh q.1 st) q.2) := G_cv [(0, p0)] (m49 dX5_passFound_7) ow49 tr_5_73 (by decide) td39 np39 ml39 ow39 rfl rfl (Nat.le_of_ble_eq_true rfl) rfl hs hk
theorem e49_10 {d : Nat} {l1 : AV} {st : List AV} {h : AM} {x : Int} : EV d 49 10 [(2, x), l1] st h = EV d 49 11 [(2, x), l1] ((2, x) :: st) h := G_aload_n (m49 dX5_passFound_10) rfl
theorem e49_11 {d : Nat} {L st : List AV} {h : AM} {r : Int} (hk : isK h r 5) : EV d 49 11 L ((2, r) :: st) h = EV d 49 14 L ((0, mrd h r 9) :: st) h := G_get (m49 dX5_passFound_11) ow49 tf_5_43 rfl rfl hk
theorem e49_14 {d : Nat} {L st : List AV} {h : AM} {a : Int} : EV d 49 14 L ((0, a) :: st) h = if a = 0 then EV d 49 19 L st h else EV d 49 17 L st h := (E_if (m49 dX5_passFound_14) (t := 19) rfl).trans cc_eq
theorem e49_17 {d : Nat} {L st : List AV} {h : AM} : EV d 49 17 L st h = EV d 49 18 L ((0, 0) :: st) h := G_iconst (m49 dX5_passFound_17) (by decide)
theorem e49_18 {d : Nat} {L : List AV} {h : AM} {v : Int} : EV d 49 18 L [(0, v)] h = some ((0, v), h) := E_iret (m49 dX5_passFound_18) (by rw [rt49]; rfl)
theorem e49_19 {d : Nat} {l1 : AV} {st : List AV} {h : AM} {x : Int} : EV d 49 19 [(2, x), l1] st h = EV d 49 20 [(2, x), l1] ((2, x) :: st) h := G_aload_n (m49 dX5_passFound_19) rfl
theorem e49_20 {d : Nat} {L st : List AV} {h : AM} {r : Int} (hs : st.length ≤ 4) (hk : isK h r 5) : EV (d + 1) 49 20 L ((2, r) :: st) h = (EV d 35 0 [(2, r)] [] h).bind (fun q => EV (d + 1) 49 23 L (psh q.1 st) q.2) := G_cv [] (m49 dX5_passFound_20) ow49 tr_5_49 (by decide) td35 np35 ml35 ow35 rfl rfl (Nat.le_of_ble_eq_true rfl) rfl hs hk
theorem e49_23 {d : Nat} {l0 : AV} {st : List AV} {h : AM} {x : Int} : EV d 49 23 [l0, (0, x)] st h = EV d 49 24 [l0, (0, x)] ((0, x) :: st) h := G_iload_n (m49 dX5_passFound_23) rfl
theorem e49_24 {d : Nat} {L : List AV} {h : AM} {v : Int} : EV d 49 24 L [(0, v)] h = some ((0, v), h) := E_iret (m49 dX5_passFound_24) (by rw [rt49]; rfl)
theorem e50_0 {d : Nat} {l1 : AV} {st : List AV} {h : AM} {x : Int} : EV d 50 0 [(2, x), l1] st h = EV d 50 1 [(2, x), l1] ((2, x) :: st) h := G_aload_n (m50 dX6_init_0) rfl
theorem e50_1 {d : Nat} {L st : List AV} {h : AM} {r : Int} (hs : st.length ≤ 4) (h0 : 0 ≤ r) : EV (d + 1) 50 1 L ((2, r) :: st) h = EV (d + 1) 50 4 L st h := E_oi (m50 dX6_init_1) (rr50 tr_6_3) hs h0
theorem e50_4 {d : Nat} {l1 : AV} {st : List AV} {h : AM} {x : Int} : EV d 50 4 [(2, x), l1] st h = EV d 50 5 [(2, x), l1] ((2, x) :: st) h := G_aload_n (m50 dX6_init_4) rfl
theorem e50_5 {d : Nat} {L st : List AV} {h : AM} : EV d 50 5 L st h = EV d 50 6 L ((0, 4) :: st) h := G_iconst (m50 dX6_init_5) (by decide)
theorem e50_6 {d : Nat} {L st : List AV} {h : AM} {n : Int} (h0 : 0 ≤ n) (h1 : n ≤ 1000000) : EV d 50 6 L ((0, n) :: st) h = EV d 50 8 L ((2, mnx h) :: st) (mal h 19 n (fun _ => 0)) := E_newl (m50 dX6_init_6) ⟨h0, h1⟩
theorem pk_50_6_0 : pok 50 6 0 2 = true := by decide +kernel
theorem e50_8 {d : Nat} {L st : List AV} {h : AM} {r v : Int} (hk : isK h r 6) : EV d 50 8 L ((2, v) :: (2, r) :: st) h = EV d 50 11 L st (mwr h r 0 v) := G_put (m50 dX6_init_8) ow50 tf_6_9 pk_50_6_0 rfl hk
theorem e50_11 {d : Nat} {l1 : AV} {st : List AV} {h : AM} {x : Int} : EV d 50 11 [(2, x), l1] st h = EV d 50 12 [(2, x), l1] ((2, x) :: st) h := G_aload_n (m50 dX6_init_11) rfl
theorem e50_12 {d : Nat} {L st : List AV} {h : AM} : EV d 50 12 L st h = EV d 50 14 L ((0, 12) :: st) h := G_bipush (m50 dX6_init_12) (by decide)
theorem pk_50_6_1 : pok 50 6 1 2 = true := by decide +kernel
theorem e50_17 {d : Nat} {L st : List AV} {h : AM} {r v : Int} (hk : isK h r 6) : EV d 50 17 L ((2, v) :: (2, r) :: st) h = EV d 50 20 L st (mwr h r 1 v) := G_put (m50 dX6_init_17) ow50 tf_6_17 pk_50_6_1 rfl hk
theorem e50_20 {d : Nat} {l1 : AV} {st : List AV} {h : AM} {x : Int} : EV d 50 20 [(2, x), l1] st h = EV d 50 21 [(2, x), l1] ((2, x) :: st) h := G_aload_n (m50 dX6_init_20) rfl
theorem e50_21 {d : Nat} {L st : List AV} {h : AM} : EV d 50 21 L st h = EV d 50 22 L ((0, 4) :: st) h := G_iconst (m50 dX6_init_21) (by decide)
theorem pk_50_6_2 : pok 50 6 2 2 = true := by decide +kernel
theorem e50_25 {d : Nat} {L st : List AV} {h : AM} {r v : Int} (hk : isK h r 6) : EV d 50 25 L ((2, v) :: (2, r) :: st) h = EV d 50 28 L st (mwr h r 2 v) := G_put (m50 dX6_init_25) ow50 tf_6_23 pk_50_6_2 rfl hk
theorem e50_28 {d : Nat} {l1 : AV} {st : List AV} {h : AM} {x : Int} : EV d 50 28 [(2, x), l1] st h = EV d 50 29 [(2, x), l1] ((2, x) :: st) h := G_aload_n (m50 dX6_init_28) rfl
theorem e50_29 {d : Nat} {L st : List AV} {h : AM} : EV d 50 29 L st h = EV d 50 32 L ((2, mnx h) :: st) (mal h 9 2 (dflt 9)) := E_new (m50 dX6_init_29) tk_50_27 (by decide)
theorem e50_32 {d : Nat} {L st : List AV} {h : AM} {a : Int} : EV d 50 32 L ((2, a) :: st) h = EV d 50 33 L ((2, a) :: (2, a) :: st) h := G_dup2r (m50 dX6_init_32)
theorem e50_32i {d : Nat} {L st : List AV} {h : AM} {a : Int} : EV d 50 32 L ((0, a) :: st) h = EV d 50 33 L ((0, a) :: (0, a) :: st) h := G_dupi (m50 dX6_init_32)
theorem e50_33 {d : Nat} {L st : List AV} {h : AM} {r : Int} (hs : st.length ≤ 4) (h0 : 0 ≤ r) : EV (d + 1) 50 33 L ((2, r) :: st) h = (EV d 98 0 [(2, r)] [] h).bind (fun q => EV (d + 1) 50 36 L (psh q.1 st) q.2) := G_ci [] (m50 dX6_init_33) ow50 tr_6_29 (by decide) td98 np98 ml98 rfl rfl (Nat.le_of_ble_eq_true rfl) rfl hs h0
theorem pk_50_6_3 : pok 50 6 3 2 = true := by decide +kernel
theorem e50_36 {d : Nat} {L st : List AV} {h : AM} {r v : Int} (hk : isK h r 6) : EV d 50 36 L ((2, v) :: (2, r) :: st) h = EV d 50 39 L st (mwr h r 3 v) := G_put (m50 dX6_init_36) ow50 tf_6_30 pk_50_6_3 rfl hk
theorem e50_39 {d : Nat} {l1 : AV} {st : List AV} {h : AM} {x : Int} : EV d 50 39 [(2, x), l1] st h = EV d 50 40 [(2, x), l1] ((2, x) :: st) h := G_aload_n (m50 dX6_init_39) rfl
theorem e50_40 {d : Nat} {L st : List AV} {h : AM} : EV d 50 40 L st h = EV d 50 43 L ((2, mnx h) :: st) (mal h 0 9 (dflt 0)) := E_new (m50 dX6_init_40) tk_50_34 (by decide)
theorem e50_43 {d : Nat} {L st : List AV} {h : AM} {a : Int} : EV d 50 43 L ((2, a) :: st) h = EV d 50 44 L ((2, a) :: (2, a) :: st) h := G_dup2r (m50 dX6_init_43)
theorem e50_43i {d : Nat} {L st : List AV} {h : AM} {a : Int} : EV d 50 43 L ((0, a) :: st) h = EV d 50 44 L ((0, a) :: (0, a) :: st) h := G_dupi (m50 dX6_init_43)
theorem e50_44 {d : Nat} {L st : List AV} {h : AM} {r : Int} (hs : st.length ≤ 4) (h0 : 0 ≤ r) : EV (d + 1) 50 44 L ((2, r) :: st) h = (EV d 0 0 [(2, r)] [] h).bind (fun q => EV (d + 1) 50 47 L (psh q.1 st) q.2) := G_ci [] (m50 dX6_init_44) ow50 tr_6_36 (by decide) td0 np0 ml0 rfl rfl (Nat.le_of_ble_eq_true rfl) rfl hs h0
theorem pk_50_6_4 : pok 50 6 4 2 = true := by decide +kernel
theorem e50_47 {d : Nat} {L st : List AV} {h : AM} {r v : Int} (hk : isK h r 6) : EV d 50 47 L ((2, v) :: (2, r) :: st) h = EV d 50 50 L st (mwr h r 4 v) := G_put (m50 dX6_init_47) ow50 tf_6_37 pk_50_6_4 rfl hk
theorem e50_50 {d : Nat} {l1 : AV} {st : List AV} {h : AM} {x : Int} : EV d 50 50 [(2, x), l1] st h = EV d 50 51 [(2, x), l1] ((2, x) :: st) h := G_aload_n (m50 dX6_init_50) rfl
theorem e50_51 {d : Nat} {L st : List AV} {h : AM} : EV d 50 51 L st h = EV d 50 52 L ((0, 2) :: st) h := G_iconst (m50 dX6_init_51) (by decide)
theorem pk_50_6_8 : pok 50 6 8 0 = true := by decide +kernel
theorem e50_52 {d : Nat} {L st : List AV} {h : AM} {r v : Int} (hk : isK h r 6) : EV d 50 52 L ((0, v) :: (2, r) :: st) h = EV d 50 55 L st (mwr h r 8 v) := G_put (m50 dX6_init_52) ow50 tf_6_41 pk_50_6_8 rfl hk
theorem e50_55 {d : Nat} {L st : List AV} {h : AM} : EV d 50 55 L st h = EV d 50 56 L ((0, 0) :: st) h := G_iconst (m50 dX6_init_55) (by decide)
theorem e50_56 {d : Nat} {l0 l1 : AV} {st : List AV} {h : AM} {x : Int} : EV d 50 56 [l0, l1] ((0, x) :: st) h = EV d 50 57 [l0, (0, x)] st h := G_istore_n (m50 dX6_init_56) (Nat.le_of_ble_eq_true rfl) rfl
theorem e50_57 {d : Nat} {l0 : AV} {st : List AV} {h : AM} {x : Int} : EV d 50 57 [l0, (0, x)] st h = EV d 50 58 [l0, (0, x)] ((0, x) :: st) h := G_iload_n (m50 dX6_init_57) rfl
theorem e50_58 {d : Nat} {L st : List AV} {h : AM} : EV d 50 58 L st h = EV d 50 60 L ((0, 12) :: st) h := G_bipush (m50 dX6_init_58) (by decide)
theorem e50_60 {d : Nat} {L st : List AV} {h : AM} {a b : Int} : EV d 50 60 L ((0, b) :: (0, a) :: st) h = if a < b then EV d 50 63 L st h else EV d 50 82 L st h := (E_ic (m50 dX6_init_60) (t := 82) rfl).trans cc_ge
theorem e50_63 {d : Nat} {l1 : AV} {st : List AV} {h : AM} {x : Int} : EV d 50 63 [(2, x), l1] st h = EV d 50 64 [(2, x), l1] ((2, x) :: st) h := G_aload_n (m50 dX6_init_63) rfl
theorem e50_64 {d : Nat} {L st : List AV} {h : AM} {r : Int} (hk : isK h r 6) : EV d 50 64 L ((2, r) :: st) h = EV d 50 67 L ((2, mrd h r 1) :: st) h := G_get (m50 dX6_init_64) ow50 tf_6_17 rfl rfl hk
theorem e50_67 {d : Nat} {l0 : AV} {st : List AV} {h : AM} {x : Int} : EV d 50 67 [l0, (0, x)] st h = EV d 50 68 [l0, (0, x)] ((0, x) :: st) h := G_iload_n (m50 dX6_init_67) rfl
theorem e50_68 {d : Nat} {L st : List AV} {h : AM} : EV d 50 68 L st h = EV d 50 71 L ((2, mnx h) :: st) (mal h 2 7 (dflt 2)) := E_new (m50 dX6_init_68) tk_50_15 (by decide)
theorem e50_71 {d : Nat} {L st : List AV} {h : AM} {a : Int} : EV d 50 71 L ((2, a) :: st) h = EV d 50 72 L ((2, a) :: (2, a) :: st) h := G_dup2r (m50 dX6_init_71)
theorem e50_71i {d : Nat} {L st : List AV} {h : AM} {a : Int} : EV d 50 71 L ((0, a) :: st) h = EV d 50 72 L ((0, a) :: (0, a) :: st) h := G_dupi (m50 dX6_init_71)
theorem e50_72 {d : Nat} {L st : List AV} {h : AM} {r : Int} (hs : st.length ≤ 4) (h0 : 0 ≤ r) : EV (d + 1) 50 72 L ((2, r) :: st) h = (EV d 14 0 [(2, r)] [] h).bind (fun q => EV (d + 1) 50 75 L (psh q.1 st) q.2) := G_ci [] (m50 dX6_init_72) ow50 tr_6_45 (by decide) td14 np14 ml14 rfl rfl (Nat.le_of_ble_eq_true rfl) rfl hs h0
theorem e50_75 {d : Nat} {L st : List AV} {h : AM} {r j v : Int} (c : Nat) (hk : inA h r c j) (h1 : 20 ≤ c) (h2 : c < 24) (hv : isK h v (elemK c)) : EV d 50 75 L ((2, v) :: (0, j) :: (2, r) :: st) h = EV d 50 76 L st (mwr h r j v) := E_aast c (m50 dX6_init_75) hk h1 h2 hv
theorem e50_76 {d : Nat} {l0 : AV} {st : List AV} {h : AM} {x : Int} : EV d 50 76 [l0, (0, x)] st h = EV d 50 79 [l0, (0, w32 (x + 1))] st h := G_iinc (m50 dX6_init_76) rfl rfl
theorem e50_79 {d : Nat} {L st : List AV} {h : AM} : EV d 50 79 L st h = EV d 50 57 L st h := G_goto (m50 dX6_init_79) rfl
theorem e50_82 {d : Nat} {L st : List AV} {h : AM} : EV d 50 82 L st h = EV d 50 83 L ((0, 0) :: st) h := G_iconst (m50 dX6_init_82) (by decide)
theorem e50_83 {d : Nat} {l0 l1 : AV} {st : List AV} {h : AM} {x : Int} : EV d 50 83 [l0, l1] ((0, x) :: st) h = EV d 50 84 [l0, (0, x)] st h := G_istore_n (m50 dX6_init_83) (Nat.le_of_ble_eq_true rfl) rfl
theorem e50_84 {d : Nat} {l0 : AV} {st : List AV} {h : AM} {x : Int} : EV d 50 84 [l0, (0, x)] st h = EV d 50 85 [l0, (0, x)] ((0, x) :: st) h := G_iload_n (m50 dX6_init_84) rfl
theorem e50_85 {d : Nat} {L st : List AV} {h : AM} : EV d 50 85 L st h = EV d 50 86 L ((0, 4) :: st) h := G_iconst (m50 dX6_init_85) (by decide)
theorem e50_86 {d : Nat} {L st : List AV} {h : AM} {a b : Int} : EV d 50 86 L ((0, b) :: (0, a) :: st) h = if a < b then EV d 50 89 L st h else EV d 50 108 L st h := (E_ic (m50 dX6_init_86) (t := 108) rfl).trans cc_ge
theorem e50_89 {d : Nat} {l1 : AV} {st : List AV} {h : AM} {x : Int} : EV d 50 89 [(2, x), l1] st h = EV d 50 90 [(2, x), l1] ((2, x) :: st) h := G_aload_n (m50 dX6_init_89) rfl
theorem e50_90 {d : Nat} {L st : List AV} {h : AM} {r : Int} (hk : isK h r 6) : EV d 50 90 L ((2, r) :: st) h = EV d 50 93 L ((2, mrd h r 2) :: st) h := G_get (m50 dX6_init_90) ow50 tf_6_23 rfl rfl hk
theorem e50_93 {d : Nat} {l0 : AV} {st : List AV} {h : AM} {x : Int} : EV d 50 93 [l0, (0, x)] st h = EV d 50 94 [l0, (0, x)] ((0, x) :: st) h := G_iload_n (m50 dX6_init_93) rfl
theorem e50_94 {d : Nat} {L st : List AV} {h : AM} : EV d 50 94 L st h = EV d 50 97 L ((2, mnx h) :: st) (mal h 1 7 (dflt 1)) := E_new (m50 dX6_init_94) tk_50_21 (by decide)
theorem e50_97 {d : Nat} {L st : List AV} {h : AM} {a : Int} : EV d 50 97 L ((2, a) :: st) h = EV d 50 98 L ((2, a) :: (2, a) :: st) h := G_dup2r (m50 dX6_init_97)
theorem e50_97i {d : Nat} {L st : List AV} {h : AM} {a : Int} : EV d 50 97 L ((0, a) :: st) h = EV d 50 98 L ((0, a) :: (0, a) :: st) h := G_dupi (m50 dX6_init_97)
theorem e50_98 {d : Nat} {L st : List AV} {h : AM} {r : Int} (hs : st.length ≤ 4) (h0 : 0 ≤ r) : EV (d + 1) 50 98 L ((2, r) :: st) h = (EV d 8 0 [(2, r)] [] h).bind (fun q => EV (d + 1) 50 101 L (psh q.1 st) q.2) := G_ci [] (m50 dX6_init_98) ow50 tr_6_46 (by decide) td8 np8 ml8 rfl rfl (Nat.le_of_ble_eq_true rfl) rfl hs h0
theorem e50_101 {d : Nat} {L st : List AV} {h : AM} {r j v : Int} (c : Nat) (hk : inA h r c j) (h1 : 20 ≤ c) (h2 : c < 24) (hv : isK h v (elemK c)) : EV d 50 101 L ((2, v) :: (0, j) :: (2, r) :: st) h = EV d 50 102 L st (mwr h r j v) := E_aast c (m50 dX6_init_101) hk h1 h2 hv
theorem e50_102 {d : Nat} {l0 : AV} {st : List AV} {h : AM} {x : Int} : EV d 50 102 [l0, (0, x)] st h = EV d 50 105 [l0, (0, w32 (x + 1))] st h := G_iinc (m50 dX6_init_102) rfl rfl
theorem e50_105 {d : Nat} {L st : List AV} {h : AM} : EV d 50 105 L st h = EV d 50 84 L st h := G_goto (m50 dX6_init_105) rfl
theorem e50_108 {d : Nat} {L : List AV} {h : AM} : EV d 50 108 L [] h = some ((3, 0), h) := E_ret (m50 dX6_init_108) rt50
theorem e51_0 {d : Nat} {L st : List AV} {h : AM} : EV d 51 0 L st h = EV d 51 1 L ((0, 0) :: st) h := G_iconst (m51 dX6_copyFrom_0) (by decide)
theorem e51_1 {d : Nat} {l0 l1 l2 : AV} {st : List AV} {h : AM} {x : Int} : EV d 51 1 [l0, l1, l2] ((0, x) :: st) h = EV d 51 2 [l0, l1, (0, x)] st h := G_istore_n (m51 dX6_copyFrom_1) (Nat.le_of_ble_eq_true rfl) rfl
theorem e51_2 {d : Nat} {l0 l1 : AV} {st : List AV} {h : AM} {x : Int} : EV d 51 2 [l0, l1, (0, x)] st h = EV d 51 3 [l0, l1, (0, x)] ((0, x) :: st) h := G_iload_n (m51 dX6_copyFrom_2) rfl
theorem e51_3 {d : Nat} {l0 l2 : AV} {st : List AV} {h : AM} {x : Int} : EV d 51 3 [l0, (2, x), l2] st h = EV d 51 4 [l0, (2, x), l2] ((2, x) :: st) h := G_aload_n (m51 dX6_copyFrom_3) rfl
theorem e51_4 {d : Nat} {L st : List AV} {h : AM} {r : Int} (hk : isK h r 6) : EV d 51 4 L ((2, r) :: st) h = EV d 51 7 L ((0, mrd h r 6) :: st) h := G_get (m51 dX6_copyFrom_4) ow51 tf_6_47 rfl rfl hk
theorem e51_7 {d : Nat} {L st : List AV} {h : AM} {a b : Int} : EV d 51 7 L ((0, b) :: (0, a) :: st) h = if a < b then EV d 51 10 L st h else EV d 51 31 L st h := (E_ic (m51 dX6_copyFrom_7) (t := 31) rfl).trans cc_ge
theorem e51_10 {d : Nat} {l1 l2 : AV} {st : List AV} {h : AM} {x : Int} : EV d 51 10 [(2, x), l1, l2] st h = EV d 51 11 [(2, x), l1, l2] ((2, x) :: st) h := G_aload_n (m51 dX6_copyFrom_10) rfl
theorem e51_11 {d : Nat} {L st : List AV} {h : AM} {r : Int} (hk : isK h r 6) : EV d 51 11 L ((2, r) :: st) h = EV d 51 14 L ((2, mrd h r 1) :: st) h := G_get (m51 dX6_copyFrom_11) ow51 tf_6_17 rfl rfl hk
theorem e51_14 {d : Nat} {l0 l1 : AV} {st : List AV} {h : AM} {x : Int} : EV d 51 14 [l0, l1, (0, x)] st h = EV d 51 15 [l0, l1, (0, x)] ((0, x) :: st) h := G_iload_n (m51 dX6_copyFrom_14) rfl
theorem e51_15 {d : Nat} {L st : List AV} {h : AM} {r j : Int} (hk : inR h r j) : EV d 51 15 L ((0, j) :: (2, r) :: st) h = EV d 51 16 L ((2, mrd h r j) :: st) h := G_aald (m51 dX6_copyFrom_15) hk
theorem e51_16 {d : Nat} {l0 l2 : AV} {st : List AV} {h : AM} {x : Int} : EV d 51 16 [l0, (2, x), l2] st h = EV d 51 17 [l0, (2, x), l2] ((2, x) :: st) h := G_aload_n (m51 dX6_copyFrom_16) rfl
theorem e51_17 {d : Nat} {L st : List AV} {h : AM} {r : Int} (hk : isK h r 6) : EV d 51 17 L ((2, r) :: st) h = EV d 51 20 L ((2, mrd h r 1) :: st) h := G_get (m51 dX6_copyFrom_17) ow51 tf_6_17 rfl rfl hk
theorem e51_20 {d : Nat} {l0 l1 : AV} {st : List AV} {h : AM} {x : Int} : EV d 51 20 [l0, l1, (0, x)] st h = EV d 51 21 [l0, l1, (0, x)] ((0, x) :: st) h := G_iload_n (m51 dX6_copyFrom_20) rfl
theorem e51_21 {d : Nat} {L st : List AV} {h : AM} {r j : Int} (hk : inR h r j) : EV d 51 21 L ((0, j) :: (2, r) :: st) h = EV d 51 22 L ((2, mrd h r j) :: st) h := G_aald (m51 dX6_copyFrom_21) hk
theorem e51_22 {d : Nat} {L st : List AV} {h : AM} {r p0 : Int} (hs : st.length ≤ 4) (hk : isK h r 2) : EV (d + 1) 51 22 L ((2, p0) :: (2, r) :: st) h = (EV d 16 0 [(2, r), (2, p0)] [] h).bind (fun q => EV (d + 1) 51 25 L (psh q.1 st) q.2) := G_cv [(2, p0)] (m51 dX6_copyFrom_22) ow51 tr_6_50 (by decide) td16 np16 ml16 ow16 rfl rfl (Nat.le_of_ble_eq_true rfl) rfl hs hk
theorem e51_25 {d : Nat} {l0 l1 : AV} {st : List AV} {h : AM} {x : Int} : EV d 51 25 [l0, l1, (0, x)] st h = EV d 51 28 [l0, l1, (0, w32 (x + 1))] st h := G_iinc (m51 dX6_copyFrom_25) rfl rfl
theorem e51_28 {d : Nat} {L st : List AV} {h : AM} : EV d 51 28 L st h = EV d 51 2 L st h := G_goto (m51 dX6_copyFrom_28) rfl
theorem e51_31 {d : Nat} {L st : List AV} {h : AM} : EV d 51 31 L st h = EV d 51 32 L ((0, 0) :: st) h := G_iconst (m51 dX6_copyFrom_31) (by decide)
theorem e51_32 {d : Nat} {l0 l1 l2 : AV} {st : List AV} {h : AM} {x : Int} : EV d 51 32 [l0, l1, l2] ((0, x) :: st) h = EV d 51 33 [l0, l1, (0, x)] st h := G_istore_n (m51 dX6_copyFrom_32) (Nat.le_of_ble_eq_true rfl) rfl
theorem e51_33 {d : Nat} {l0 l1 : AV} {st : List AV} {h : AM} {x : Int} : EV d 51 33 [l0, l1, (0, x)] st h = EV d 51 34 [l0, l1, (0, x)] ((0, x) :: st) h := G_iload_n (m51 dX6_copyFrom_33) rfl
theorem e51_34 {d : Nat} {l0 l2 : AV} {st : List AV} {h : AM} {x : Int} : EV d 51 34 [l0, (2, x), l2] st h = EV d 51 35 [l0, (2, x), l2] ((2, x) :: st) h := G_aload_n (m51 dX6_copyFrom_34) rfl
theorem e51_35 {d : Nat} {L st : List AV} {h : AM} {r : Int} (hk : isK h r 6) : EV d 51 35 L ((2, r) :: st) h = EV d 51 38 L ((0, mrd h r 7) :: st) h := G_get (m51 dX6_copyFrom_35) ow51 tf_6_54 rfl rfl hk
theorem e51_38 {d : Nat} {L st : List AV} {h : AM} {a b : Int} : EV d 51 38 L ((0, b) :: (0, a) :: st) h = if a < b then EV d 51 41 L st h else EV d 51 62 L st h := (E_ic (m51 dX6_copyFrom_38) (t := 62) rfl).trans cc_ge
theorem e51_41 {d : Nat} {l1 l2 : AV} {st : List AV} {h : AM} {x : Int} : EV d 51 41 [(2, x), l1, l2] st h = EV d 51 42 [(2, x), l1, l2] ((2, x) :: st) h := G_aload_n (m51 dX6_copyFrom_41) rfl
theorem e51_42 {d : Nat} {L st : List AV} {h : AM} {r : Int} (hk : isK h r 6) : EV d 51 42 L ((2, r) :: st) h = EV d 51 45 L ((2, mrd h r 2) :: st) h := G_get (m51 dX6_copyFrom_42) ow51 tf_6_23 rfl rfl hk
theorem e51_45 {d : Nat} {l0 l1 : AV} {st : List AV} {h : AM} {x : Int} : EV d 51 45 [l0, l1, (0, x)] st h = EV d 51 46 [l0, l1, (0, x)] ((0, x) :: st) h := G_iload_n (m51 dX6_copyFrom_45) rfl
theorem e51_46 {d : Nat} {L st : List AV} {h : AM} {r j : Int} (hk : inR h r j) : EV d 51 46 L ((0, j) :: (2, r) :: st) h = EV d 51 47 L ((2, mrd h r j) :: st) h := G_aald (m51 dX6_copyFrom_46) hk
theorem e51_47 {d : Nat} {l0 l2 : AV} {st : List AV} {h : AM} {x : Int} : EV d 51 47 [l0, (2, x), l2] st h = EV d 51 48 [l0, (2, x), l2] ((2, x) :: st) h := G_aload_n (m51 dX6_copyFrom_47) rfl
theorem e51_48 {d : Nat} {L st : List AV} {h : AM} {r : Int} (hk : isK h r 6) : EV d 51 48 L ((2, r) :: st) h = EV d 51 51 L ((2, mrd h r 2) :: st) h := G_get (m51 dX6_copyFrom_48) ow51 tf_6_23 rfl rfl hk
theorem e51_51 {d : Nat} {l0 l1 : AV} {st : List AV} {h : AM} {x : Int} : EV d 51 51 [l0, l1, (0, x)] st h = EV d 51 52 [l0, l1, (0, x)] ((0, x) :: st) h := G_iload_n (m51 dX6_copyFrom_51) rfl
theorem e51_52 {d : Nat} {L st : List AV} {h : AM} {r j : Int} (hk : inR h r j) : EV d 51 52 L ((0, j) :: (2, r) :: st) h = EV d 51 53 L ((2, mrd h r j) :: st) h := G_aald (m51 dX6_copyFrom_52) hk
theorem e51_53 {d : Nat} {L st : List AV} {h : AM} {r p0 : Int} (hs : st.length ≤ 4) (hk : isK h r 1) : EV (d + 1) 51 53 L ((2, p0) :: (2, r) :: st) h = (EV d 10 0 [(2, r), (2, p0)] [] h).bind (fun q => EV (d + 1) 51 56 L (psh q.1 st) q.2) := G_cv [(2, p0)] (m51 dX6_copyFrom_53) ow51 tr_6_57 (by decide) td10 np10 ml10 ow10 rfl rfl (Nat.le_of_ble_eq_true rfl) rfl hs hk
theorem e51_56 {d : Nat} {l0 l1 : AV} {st : List AV} {h : AM} {x : Int} : EV d 51 56 [l0, l1, (0, x)] st h = EV d 51 59 [l0, l1, (0, w32 (x + 1))] st h := G_iinc (m51 dX6_copyFrom_56) rfl rfl
theorem e51_59 {d : Nat} {L st : List AV} {h : AM} : EV d 51 59 L st h = EV d 51 33 L st h := G_goto (m51 dX6_copyFrom_59) rfl
theorem e51_62 {d : Nat} {l1 l2 : AV} {st : List AV} {h : AM} {x : Int} : EV d 51 62 [(2, x), l1, l2] st h = EV d 51 63 [(2, x), l1, l2] ((2, x) :: st) h := G_aload_n (m51 dX6_copyFrom_62) rfl
theorem e51_63 {d : Nat} {L st : List AV} {h : AM} {r : Int} (hk : isK h r 6) : EV d 51 63 L ((2, r) :: st) h = EV d 51 66 L ((2, mrd h r 4) :: st) h := G_get (m51 dX6_copyFrom_63) ow51 tf_6_37 rfl rfl hk
theorem e51_66 {d : Nat} {l0 l2 : AV} {st : List AV} {h : AM} {x : Int} : EV d 51 66 [l0, (2, x), l2] st h = EV d 51 67 [l0, (2, x), l2] ((2, x) :: st) h := G_aload_n (m51 dX6_copyFrom_66) rfl
theorem e51_67 {d : Nat} {L st : List AV} {h : AM} {r : Int} (hk : isK h r 6) : EV d 51 67 L ((2, r) :: st) h = EV d 51 70 L ((2, mrd h r 4) :: st) h := G_get (m51 dX6_copyFrom_67) ow51 tf_6_37 rfl rfl hk
theorem e51_70 {d : Nat} {L st : List AV} {h : AM} {r p0 : Int} (hs : st.length ≤ 4) (hk : isK h r 0) : EV (d + 1) 51 70 L ((2, p0) :: (2, r) :: st) h = (EV d 1 0 [(2, r), (2, p0)] [] h).bind (fun q => EV (d + 1) 51 73 L (psh q.1 st) q.2) := G_cv [(2, p0)] (m51 dX6_copyFrom_70) ow51 tr_6_60 (by decide) td1 np1 ml1 ow1 rfl rfl (Nat.le_of_ble_eq_true rfl) rfl hs hk
theorem e51_73 {d : Nat} {l1 l2 : AV} {st : List AV} {h : AM} {x : Int} : EV d 51 73 [(2, x), l1, l2] st h = EV d 51 74 [(2, x), l1, l2] ((2, x) :: st) h := G_aload_n (m51 dX6_copyFrom_73) rfl
theorem e51_74 {d : Nat} {l0 l2 : AV} {st : List AV} {h : AM} {x : Int} : EV d 51 74 [l0, (2, x), l2] st h = EV d 51 75 [l0, (2, x), l2] ((2, x) :: st) h := G_aload_n (m51 dX6_copyFrom_74) rfl
theorem e51_75 {d : Nat} {L st : List AV} {h : AM} {r : Int} (hk : isK h r 6) : EV d 51 75 L ((2, r) :: st) h = EV d 51 78 L ((0, mrd h r 5) :: st) h := G_get (m51 dX6_copyFrom_75) ow51 tf_6_63 rfl rfl hk
theorem pk_51_6_5 : pok 51 6 5 0 = true := by decide +kernel
theorem e51_78 {d : Nat} {L st : List AV} {h : AM} {r v : Int} (hk : isK h r 6) : EV d 51 78 L ((0, v) :: (2, r) :: st) h = EV d 51 81 L st (mwr h r 5 v) := G_put (m51 dX6_copyFrom_78) ow51 tf_6_63 pk_51_6_5 rfl hk
theorem e51_81 {d : Nat} {l1 l2 : AV} {st : List AV} {h : AM} {x : Int} : EV d 51 81 [(2, x), l1, l2] st h = EV d 51 82 [(2, x), l1, l2] ((2, x) :: st) h := G_aload_n (m51 dX6_copyFrom_81) rfl
theorem e51_82 {d : Nat} {l0 l2 : AV} {st : List AV} {h : AM} {x : Int} : EV d 51 82 [l0, (2, x), l2] st h = EV d 51 83 [l0, (2, x), l2] ((2, x) :: st) h := G_aload_n (m51 dX6_copyFrom_82) rfl
theorem e51_83 {d : Nat} {L st : List AV} {h : AM} {r : Int} (hk : isK h r 6) : EV d 51 83 L ((2, r) :: st) h = EV d 51 86 L ((0, mrd h r 6) :: st) h := G_get (m51 dX6_copyFrom_83) ow51 tf_6_47 rfl rfl hk
theorem pk_51_6_6 : pok 51 6 6 0 = true := by decide +kernel
theorem e51_86 {d : Nat} {L st : List AV} {h : AM} {r v : Int} (hk : isK h r 6) : EV d 51 86 L ((0, v) :: (2, r) :: st) h = EV d 51 89 L st (mwr h r 6 v) := G_put (m51 dX6_copyFrom_86) ow51 tf_6_47 pk_51_6_6 rfl hk
theorem e51_89 {d : Nat} {l1 l2 : AV} {st : List AV} {h : AM} {x : Int} : EV d 51 89 [(2, x), l1, l2] st h = EV d 51 90 [(2, x), l1, l2] ((2, x) :: st) h := G_aload_n (m51 dX6_copyFrom_89) rfl
theorem e51_90 {d : Nat} {l0 l2 : AV} {st : List AV} {h : AM} {x : Int} : EV d 51 90 [l0, (2, x), l2] st h = EV d 51 91 [l0, (2, x), l2] ((2, x) :: st) h := G_aload_n (m51 dX6_copyFrom_90) rfl
theorem e51_91 {d : Nat} {L st : List AV} {h : AM} {r : Int} (hk : isK h r 6) : EV d 51 91 L ((2, r) :: st) h = EV d 51 94 L ((0, mrd h r 7) :: st) h := G_get (m51 dX6_copyFrom_91) ow51 tf_6_54 rfl rfl hk
theorem pk_51_6_7 : pok 51 6 7 0 = true := by decide +kernel
theorem e51_94 {d : Nat} {L st : List AV} {h : AM} {r v : Int} (hk : isK h r 6) : EV d 51 94 L ((0, v) :: (2, r) :: st) h = EV d 51 97 L st (mwr h r 7 v) := G_put (m51 dX6_copyFrom_94) ow51 tf_6_54 pk_51_6_7 rfl hk
theorem e51_97 {d : Nat} {l1 l2 : AV} {st : List AV} {h : AM} {x : Int} : EV d 51 97 [(2, x), l1, l2] st h = EV d 51 98 [(2, x), l1, l2] ((2, x) :: st) h := G_aload_n (m51 dX6_copyFrom_97) rfl
theorem e51_98 {d : Nat} {l0 l2 : AV} {st : List AV} {h : AM} {x : Int} : EV d 51 98 [l0, (2, x), l2] st h = EV d 51 99 [l0, (2, x), l2] ((2, x) :: st) h := G_aload_n (m51 dX6_copyFrom_98) rfl
theorem e51_99 {d : Nat} {L st : List AV} {h : AM} {r : Int} (hk : isK h r 6) : EV d 51 99 L ((2, r) :: st) h = EV d 51 102 L ((0, mrd h r 8) :: st) h := G_get (m51 dX6_copyFrom_99) ow51 tf_6_41 rfl rfl hk
theorem pk_51_6_8 : pok 51 6 8 0 = true := by decide +kernel
theorem e51_102 {d : Nat} {L st : List AV} {h : AM} {r v : Int} (hk : isK h r 6) : EV d 51 102 L ((0, v) :: (2, r) :: st) h = EV d 51 105 L st (mwr h r 8 v) := G_put (m51 dX6_copyFrom_102) ow51 tf_6_41 pk_51_6_8 rfl hk
theorem e51_105 {d : Nat} {L : List AV} {h : AM} : EV d 51 105 L [] h = some ((3, 0), h) := E_ret (m51 dX6_copyFrom_105) rt51
theorem e52_0 {d : Nat} {l1 l2 : AV} {st : List AV} {h : AM} {x : Int} : EV d 52 0 [(2, x), l1, l2] st h = EV d 52 1 [(2, x), l1, l2] ((2, x) :: st) h := G_aload_n (m52 dX6_readText_0) rfl
theorem e52_1 {d : Nat} {L st : List AV} {h : AM} : EV d 52 1 L st h = EV d 52 2 L ((0, 0) :: st) h := G_iconst (m52 dX6_readText_1) (by decide)
theorem pk_52_6_5 : pok 52 6 5 0 = true := by decide +kernel
theorem e52_2 {d : Nat} {L st : List AV} {h : AM} {r v : Int} (hk : isK h r 6) : EV d 52 2 L ((0, v) :: (2, r) :: st) h = EV d 52 5 L st (mwr h r 5 v) := G_put (m52 dX6_readText_2) ow52 tf_6_63 pk_52_6_5 rfl hk
theorem e52_5 {d : Nat} {l1 l2 : AV} {st : List AV} {h : AM} {x : Int} : EV d 52 5 [(2, x), l1, l2] st h = EV d 52 6 [(2, x), l1, l2] ((2, x) :: st) h := G_aload_n (m52 dX6_readText_5) rfl
theorem e52_6 {d : Nat} {L st : List AV} {h : AM} : EV d 52 6 L st h = EV d 52 7 L ((0, 0) :: st) h := G_iconst (m52 dX6_readText_6) (by decide)
theorem pk_52_6_6 : pok 52 6 6 0 = true := by decide +kernel
theorem e52_7 {d : Nat} {L st : List AV} {h : AM} {r v : Int} (hk : isK h r 6) : EV d 52 7 L ((0, v) :: (2, r) :: st) h = EV d 52 10 L st (mwr h r 6 v) := G_put (m52 dX6_readText_7) ow52 tf_6_47 pk_52_6_6 rfl hk
theorem e52_10 {d : Nat} {l1 l2 : AV} {st : List AV} {h : AM} {x : Int} : EV d 52 10 [(2, x), l1, l2] st h = EV d 52 11 [(2, x), l1, l2] ((2, x) :: st) h := G_aload_n (m52 dX6_readText_10) rfl
theorem e52_11 {d : Nat} {L st : List AV} {h : AM} : EV d 52 11 L st h = EV d 52 12 L ((0, 0) :: st) h := G_iconst (m52 dX6_readText_11) (by decide)
theorem pk_52_6_7 : pok 52 6 7 0 = true := by decide +kernel
theorem e52_12 {d : Nat} {L st : List AV} {h : AM} {r v : Int} (hk : isK h r 6) : EV d 52 12 L ((0, v) :: (2, r) :: st) h = EV d 52 15 L st (mwr h r 7 v) := G_put (m52 dX6_readText_12) ow52 tf_6_54 pk_52_6_7 rfl hk
theorem e52_15 {d : Nat} {l1 l2 : AV} {st : List AV} {h : AM} {x : Int} : EV d 52 15 [(2, x), l1, l2] st h = EV d 52 16 [(2, x), l1, l2] ((2, x) :: st) h := G_aload_n (m52 dX6_readText_15) rfl
theorem e52_16 {d : Nat} {L st : List AV} {h : AM} : EV d 52 16 L st h = EV d 52 17 L ((0, 2) :: st) h := G_iconst (m52 dX6_readText_16) (by decide)
theorem pk_52_6_8 : pok 52 6 8 0 = true := by decide +kernel
theorem e52_17 {d : Nat} {L st : List AV} {h : AM} {r v : Int} (hk : isK h r 6) : EV d 52 17 L ((0, v) :: (2, r) :: st) h = EV d 52 20 L st (mwr h r 8 v) := G_put (m52 dX6_readText_17) ow52 tf_6_41 pk_52_6_8 rfl hk
theorem e52_20 {d : Nat} {l1 l2 : AV} {st : List AV} {h : AM} {x : Int} : EV d 52 20 [(2, x), l1, l2] st h = EV d 52 21 [(2, x), l1, l2] ((2, x) :: st) h := G_aload_n (m52 dX6_readText_20) rfl
theorem e52_21 {d : Nat} {L st : List AV} {h : AM} : EV d 52 21 L st h = EV d 52 22 L ((0, 0) :: st) h := G_iconst (m52 dX6_readText_21) (by decide)
theorem pz_52_6_9 : pokz 52 6 9 = true := by decide +kernel
theorem e52_22 {d : Nat} {L st : List AV} {h : AM} {r v : Int} (hk : isK h r 6) (hv : v = 0 ∨ v = 1) : EV d 52 22 L ((0, v) :: (2, r) :: st) h = EV d 52 25 L st (mwr h r 9 v) := G_putz (m52 dX6_readText_22) ow52 tf_6_66 pz_52_6_9 rfl hk hv
theorem e52_25 {d : Nat} {l1 l2 : AV} {st : List AV} {h : AM} {x : Int} : EV d 52 25 [(2, x), l1, l2] st h = EV d 52 26 [(2, x), l1, l2] ((2, x) :: st) h := G_aload_n (m52 dX6_readText_25) rfl
theorem e52_26 {d : Nat} {L st : List AV} {h : AM} {r : Int} (hk : isK h r 6) : EV d 52 26 L ((2, r) :: st) h = EV d 52 29 L ((2, mrd h r 4) :: st) h := G_get (m52 dX6_readText_26) ow52 tf_6_37 rfl rfl hk
theorem e52_29 {d : Nat} {L st : List AV} {h : AM} : EV d 52 29 L st h = EV d 52 30 L ((0, 0) :: st) h := G_iconst (m52 dX6_readText_29) (by decide)
theorem pz_52_0_6 : pokz 52 0 6 = true := by decide +kernel
theorem e52_30 {d : Nat} {L st : List AV} {h : AM} {r v : Int} (hk : isK h r 0) (hv : v = 0 ∨ v = 1) : EV d 52 30 L ((0, v) :: (2, r) :: st) h = EV d 52 33 L st (mwr h r 6 v) := G_putz (m52 dX6_readText_30) ow52 tf_6_70 pz_52_0_6 rfl hk hv
theorem e52_33 {d : Nat} {L st : List AV} {h : AM} : EV d 52 33 L st h = EV d 52 34 L ((0, 0) :: st) h := G_iconst (m52 dX6_readText_33) (by decide)
theorem e52_34 {d : Nat} {l0 l1 l2 : AV} {st : List AV} {h : AM} {x : Int} : EV d 52 34 [l0, l1, l2] ((0, x) :: st) h = EV d 52 35 [l0, l1, (0, x)] st h := G_istore_n (m52 dX6_readText_34) (Nat.le_of_ble_eq_true rfl) rfl
theorem e52_35 {d : Nat} {l0 l1 : AV} {st : List AV} {h : AM} {x : Int} : EV d 52 35 [l0, l1, (0, x)] st h = EV d 52 36 [l0, l1, (0, x)] ((0, x) :: st) h := G_iload_n (m52 dX6_readText_35) rfl
theorem e52_36 {d : Nat} {L st : List AV} {h : AM} : EV d 52 36 L st h = EV d 52 39 L ((0, 900) :: st) h := G_sipush (m52 dX6_readText_36) (by decide)
theorem e52_39 {d : Nat} {L st : List AV} {h : AM} {a b : Int} : EV d 52 39 L ((0, b) :: (0, a) :: st) h = if a < b then EV d 52 42 L st h else EV d 52 131 L st h := (E_ic (m52 dX6_readText_39) (t := 131) rfl).trans cc_ge
theorem e52_42 {d : Nat} {l0 l2 : AV} {st : List AV} {h : AM} {x : Int} : EV d 52 42 [l0, (2, x), l2] st h = EV d 52 43 [l0, (2, x), l2] ((2, x) :: st) h := G_aload_n (m52 dX6_readText_42) rfl
theorem e52_43 {d : Nat} {L st : List AV} {h : AM} {r : Int} (hs : st.length ≤ 4) (hk : isK h r 5) : EV (d + 1) 52 43 L ((2, r) :: st) h = (EV d 38 0 [(2, r)] [] h).bind (fun q => EV (d + 1) 52 46 L (psh q.1 st) q.2) := G_cv [] (m52 dX6_readText_43) ow52 tr_6_73 (by decide) td38 np38 ml38 ow38 rfl rfl (Nat.le_of_ble_eq_true rfl) rfl hs hk
theorem e52_46 {d : Nat} {L st : List AV} {h : AM} {a : Int} : EV d 52 46 L ((0, a) :: st) h = if a = 0 then EV d 52 131 L st h else EV d 52 49 L st h := (E_if (m52 dX6_readText_46) (t := 131) rfl).trans cc_eq
theorem e52_49 {d : Nat} {l0 l2 : AV} {st : List AV} {h : AM} {x : Int} : EV d 52 49 [l0, (2, x), l2] st h = EV d 52 50 [l0, (2, x), l2] ((2, x) :: st) h := G_aload_n (m52 dX6_readText_49) rfl
theorem e52_50 {d : Nat} {L st : List AV} {h : AM} : EV d 52 50 L st h = EV d 52 51 L ((0, 0) :: st) h := G_iconst (m52 dX6_readText_50) (by decide)
theorem e52_51 {d : Nat} {L st : List AV} {h : AM} {r p0 : Int} (hs : st.length ≤ 4) (hk : isK h r 5) : EV (d + 1) 52 51 L ((0, p0) :: (2, r) :: st) h = (EV d 41 0 [(2, r), (0, p0)] [] h).bind (fun q => EV (d + 1) 52 54 L (psh q.1 st) q.2) := G_cv [(0, p0)] (m52 dX6_readText_51) ow52 tr_6_79 (by decide) td41 np41 ml41 ow41 rfl rfl (Nat.le_of_ble_eq_true rfl) rfl hs hk
theorem e52_54 {d : Nat} {L st : List AV} {h : AM} {a : Int} : EV d 52 54 L ((0, a) :: st) h = if a = 0 then EV d 52 65 L st h else EV d 52 57 L st h := (E_if (m52 dX6_readText_54) (t := 65) rfl).trans cc_eq
theorem e52_57 {d : Nat} {l1 l2 : AV} {st : List AV} {h : AM} {x : Int} : EV d 52 57 [(2, x), l1, l2] st h = EV d 52 58 [(2, x), l1, l2] ((2, x) :: st) h := G_aload_n (m52 dX6_readText_57) rfl
theorem e52_58 {d : Nat} {l0 l2 : AV} {st : List AV} {h : AM} {x : Int} : EV d 52 58 [l0, (2, x), l2] st h = EV d 52 59 [l0, (2, x), l2] ((2, x) :: st) h := G_aload_n (m52 dX6_readText_58) rfl
theorem e52_59 {d : Nat} {L st : List AV} {h : AM} {r p0 : Int} (hs : st.length ≤ 4) (hk : isK h r 6) : EV (d + 1) 52 59 L ((2, p0) :: (2, r) :: st) h = (EV d 53 0 [(2, r), (2, p0)] [] h).bind (fun q => EV (d + 1) 52 62 L (psh q.1 st) q.2) := G_cv [(2, p0)] (m52 dX6_readText_59) ow52 tr_6_83 (by decide) td53 np53 ml53 ow53 rfl rfl (Nat.le_of_ble_eq_true rfl) rfl hs hk
theorem e52_62 {d : Nat} {L st : List AV} {h : AM} : EV d 52 62 L st h = EV d 52 119 L st h := G_goto (m52 dX6_readText_62) rfl
theorem e52_65 {d : Nat} {l0 l2 : AV} {st : List AV} {h : AM} {x : Int} : EV d 52 65 [l0, (2, x), l2] st h = EV d 52 66 [l0, (2, x), l2] ((2, x) :: st) h := G_aload_n (m52 dX6_readText_65) rfl
theorem e52_66 {d : Nat} {L st : List AV} {h : AM} : EV d 52 66 L st h = EV d 52 67 L ((0, 1) :: st) h := G_iconst (m52 dX6_readText_66) (by decide)
theorem e52_67 {d : Nat} {L st : List AV} {h : AM} {r p0 : Int} (hs : st.length ≤ 4) (hk : isK h r 5) : EV (d + 1) 52 67 L ((0, p0) :: (2, r) :: st) h = (EV d 41 0 [(2, r), (0, p0)] [] h).bind (fun q => EV (d + 1) 52 70 L (psh q.1 st) q.2) := G_cv [(0, p0)] (m52 dX6_readText_67) ow52 tr_6_79 (by decide) td41 np41 ml41 ow41 rfl rfl (Nat.le_of_ble_eq_true rfl) rfl hs hk
theorem e52_70 {d : Nat} {L st : List AV} {h : AM} {a : Int} : EV d 52 70 L ((0, a) :: st) h = if a = 0 then EV d 52 81 L st h else EV d 52 73 L st h := (E_if (m52 dX6_readText_70) (t := 81) rfl).trans cc_eq
theorem e52_73 {d : Nat} {l1 l2 : AV} {st : List AV} {h : AM} {x : Int} : EV d 52 73 [(2, x), l1, l2] st h = EV d 52 74 [(2, x), l1, l2] ((2, x) :: st) h := G_aload_n (m52 dX6_readText_73) rfl
theorem e52_74 {d : Nat} {l0 l2 : AV} {st : List AV} {h : AM} {x : Int} : EV d 52 74 [l0, (2, x), l2] st h = EV d 52 75 [l0, (2, x), l2] ((2, x) :: st) h := G_aload_n (m52 dX6_readText_74) rfl
theorem e52_75 {d : Nat} {L st : List AV} {h : AM} {r p0 : Int} (hs : st.length ≤ 4) (hk : isK h r 6) : EV (d + 1) 52 75 L ((2, p0) :: (2, r) :: st) h = (EV d 54 0 [(2, r), (2, p0), (3, 0)] [] h).bind (fun q => EV (d + 1) 52 78 L (psh q.1 st) q.2) := G_cv [(2, p0)] (m52 dX6_readText_75) ow52 tr_6_87 (by decide) td54 np54 ml54 ow54 rfl rfl (Nat.le_of_ble_eq_true rfl) rfl hs hk
theorem e52_78 {d : Nat} {L st : List AV} {h : AM} : EV d 52 78 L st h = EV d 52 119 L st h := G_goto (m52 dX6_readText_78) rfl
theorem e52_81 {d : Nat} {l0 l2 : AV} {st : List AV} {h : AM} {x : Int} : EV d 52 81 [l0, (2, x), l2] st h = EV d 52 82 [l0, (2, x), l2] ((2, x) :: st) h := G_aload_n (m52 dX6_readText_81) rfl
theorem e52_82 {d : Nat} {L st : List AV} {h : AM} : EV d 52 82 L st h = EV d 52 84 L ((0, 7) :: st) h := G_bipush (m52 dX6_readText_82) (by decide)
theorem e52_84 {d : Nat} {L st : List AV} {h : AM} {r p0 : Int} (hs : st.length ≤ 4) (hk : isK h r 5) : EV (d + 1) 52 84 L ((0, p0) :: (2, r) :: st) h = (EV d 41 0 [(2, r), (0, p0)] [] h).bind (fun q => EV (d + 1) 52 87 L (psh q.1 st) q.2) := G_cv [(0, p0)] (m52 dX6_readText_84) ow52 tr_6_79 (by decide) td41 np41 ml41 ow41 rfl rfl (Nat.le_of_ble_eq_true rfl) rfl hs hk
theorem e52_87 {d : Nat} {L st : List AV} {h : AM} {a : Int} : EV d 52 87 L ((0, a) :: st) h = if a = 0 then EV d 52 98 L st h else EV d 52 90 L st h := (E_if (m52 dX6_readText_87) (t := 98) rfl).trans cc_eq
theorem e52_90 {d : Nat} {l1 l2 : AV} {st : List AV} {h : AM} {x : Int} : EV d 52 90 [(2, x), l1, l2] st h = EV d 52 91 [(2, x), l1, l2] ((2, x) :: st) h := G_aload_n (m52 dX6_readText_90) rfl
theorem e52_91 {d : Nat} {l0 l2 : AV} {st : List AV} {h : AM} {x : Int} : EV d 52 91 [l0, (2, x), l2] st h = EV d 52 92 [l0, (2, x), l2] ((2, x) :: st) h := G_aload_n (m52 dX6_readText_91) rfl
theorem e52_92 {d : Nat} {L st : List AV} {h : AM} {r p0 : Int} (hs : st.length ≤ 4) (hk : isK h r 6) : EV (d + 1) 52 92 L ((2, p0) :: (2, r) :: st) h = (EV d 56 0 [(2, r), (2, p0), (3, 0)] [] h).bind (fun q => EV (d + 1) 52 95 L (psh q.1 st) q.2) := G_cv [(2, p0)] (m52 dX6_readText_92) ow52 tr_6_90 (by decide) td56 np56 ml56 ow56 rfl rfl (Nat.le_of_ble_eq_true rfl) rfl hs hk
theorem e52_95 {d : Nat} {L st : List AV} {h : AM} : EV d 52 95 L st h = EV d 52 119 L st h := G_goto (m52 dX6_readText_95) rfl
theorem e52_98 {d : Nat} {l0 l2 : AV} {st : List AV} {h : AM} {x : Int} : EV d 52 98 [l0, (2, x), l2] st h = EV d 52 99 [l0, (2, x), l2] ((2, x) :: st) h := G_aload_n (m52 dX6_readText_98) rfl
theorem e52_99 {d : Nat} {L st : List AV} {h : AM} : EV d 52 99 L st h = EV d 52 101 L ((0, 10) :: st) h := G_bipush (m52 dX6_readText_99) (by decide)
theorem e52_101 {d : Nat} {L st : List AV} {h : AM} {r p0 : Int} (hs : st.length ≤ 4) (hk : isK h r 5) : EV (d + 1) 52 101 L ((0, p0) :: (2, r) :: st) h = (EV d 41 0 [(2, r), (0, p0)] [] h).bind (fun q => EV (d + 1) 52 104 L (psh q.1 st) q.2) := G_cv [(0, p0)] (m52 dX6_readText_101) ow52 tr_6_79 (by decide) td41 np41 ml41 ow41 rfl rfl (Nat.le_of_ble_eq_true rfl) rfl hs hk
theorem e52_104 {d : Nat} {L st : List AV} {h : AM} {a : Int} : EV d 52 104 L ((0, a) :: st) h = if a = 0 then EV d 52 115 L st h else EV d 52 107 L st h := (E_if (m52 dX6_readText_104) (t := 115) rfl).trans cc_eq
theorem e52_107 {d : Nat} {l1 l2 : AV} {st : List AV} {h : AM} {x : Int} : EV d 52 107 [(2, x), l1, l2] st h = EV d 52 108 [(2, x), l1, l2] ((2, x) :: st) h := G_aload_n (m52 dX6_readText_107) rfl
theorem e52_108 {d : Nat} {l0 l2 : AV} {st : List AV} {h : AM} {x : Int} : EV d 52 108 [l0, (2, x), l2] st h = EV d 52 109 [l0, (2, x), l2] ((2, x) :: st) h := G_aload_n (m52 dX6_readText_108) rfl
theorem e52_109 {d : Nat} {L st : List AV} {h : AM} {r p0 : Int} (hs : st.length ≤ 4) (hk : isK h r 6) : EV (d + 1) 52 109 L ((2, p0) :: (2, r) :: st) h = (EV d 57 0 [(2, r), (2, p0)] [] h).bind (fun q => EV (d + 1) 52 112 L (psh q.1 st) q.2) := G_cv [(2, p0)] (m52 dX6_readText_109) ow52 tr_6_93 (by decide) td57 np57 ml57 ow57 rfl rfl (Nat.le_of_ble_eq_true rfl) rfl hs hk
theorem e52_112 {d : Nat} {L st : List AV} {h : AM} : EV d 52 112 L st h = EV d 52 119 L st h := G_goto (m52 dX6_readText_112) rfl
theorem e52_115 {d : Nat} {l0 l2 : AV} {st : List AV} {h : AM} {x : Int} : EV d 52 115 [l0, (2, x), l2] st h = EV d 52 116 [l0, (2, x), l2] ((2, x) :: st) h := G_aload_n (m52 dX6_readText_115) rfl
theorem e52_116 {d : Nat} {L st : List AV} {h : AM} {r : Int} (hs : st.length ≤ 4) (hk : isK h r 5) : EV (d + 1) 52 116 L ((2, r) :: st) h = (EV d 40 0 [(2, r)] [] h).bind (fun q => EV (d + 1) 52 119 L (psh q.1 st) q.2) := G_cv [] (m52 dX6_readText_116) ow52 tr_6_96 (by decide) td40 np40 ml40 ow40 rfl rfl (Nat.le_of_ble_eq_true rfl) rfl hs hk
theorem e52_119 {d : Nat} {l0 l2 : AV} {st : List AV} {h : AM} {x : Int} : EV d 52 119 [l0, (2, x), l2] st h = EV d 52 120 [l0, (2, x), l2] ((2, x) :: st) h := G_aload_n (m52 dX6_readText_119) rfl
theorem e52_120 {d : Nat} {L st : List AV} {h : AM} : EV d 52 120 L st h = EV d 52 122 L ((0, 59) :: st) h := G_bipush (m52 dX6_readText_120) (by decide)
theorem e52_122 {d : Nat} {L st : List AV} {h : AM} {r p0 : Int} (hs : st.length ≤ 4) (hk : isK h r 5) : EV (d + 1) 52 122 L ((0, p0) :: (2, r) :: st) h = (EV d 44 0 [(2, r), (0, p0)] [] h).bind (fun q => EV (d + 1) 52 125 L (psh q.1 st) q.2) := G_cv [(0, p0)] (m52 dX6_readText_122) ow52 tr_6_99 (by decide) td44 np44 ml44 ow44 rfl rfl (Nat.le_of_ble_eq_true rfl) rfl hs hk
theorem e52_125 {d : Nat} {l0 l1 : AV} {st : List AV} {h : AM} {x : Int} : EV d 52 125 [l0, l1, (0, x)] st h = EV d 52 128 [l0, l1, (0, w32 (x + 1))] st h := G_iinc (m52 dX6_readText_125) rfl rfl
theorem e52_128 {d : Nat} {L st : List AV} {h : AM} : EV d 52 128 L st h = EV d 52 35 L st h := G_goto (m52 dX6_readText_128) rfl
theorem e52_131 {d : Nat} {L : List AV} {h : AM} : EV d 52 131 L [] h = some ((3, 0), h) := E_ret (m52 dX6_readText_131) rt52
theorem e53_0 {d : Nat} {l1 : AV} {st : List AV} {h : AM} {x : Int} : EV d 53 0 [(2, x), l1] st h = EV d 53 1 [(2, x), l1] ((2, x) :: st) h := G_aload_n (m53 dX6_readMaster_0) rfl
theorem e53_1 {d : Nat} {L st : List AV} {h : AM} {r : Int} (hk : isK h r 6) : EV d 53 1 L ((2, r) :: st) h = EV d 53 4 L ((0, mrd h r 5) :: st) h := G_get (m53 dX6_readMaster_1) ow53 tf_6_63 rfl rfl hk
theorem e53_4 {d : Nat} {L st : List AV} {h : AM} : EV d 53 4 L st h = EV d 53 5 L ((0, 4) :: st) h := G_iconst (m53 dX6_readMaster_4) (by decide)
theorem e53_5 {d : Nat} {L st : List AV} {h : AM} {a b : Int} : EV d 53 5 L ((0, b) :: (0, a) :: st) h = if a < b then EV d 53 15 L st h else EV d 53 8 L st h := (E_ic (m53 dX6_readMaster_5) (t := 15) rfl).trans cc_lt
theorem e53_8 {d : Nat} {l0 : AV} {st : List AV} {h : AM} {x : Int} : EV d 53 8 [l0, (2, x)] st h = EV d 53 9 [l0, (2, x)] ((2, x) :: st) h := G_aload_n (m53 dX6_readMaster_8) rfl
theorem e53_9 {d : Nat} {L st : List AV} {h : AM} : EV d 53 9 L st h = EV d 53 11 L ((0, 6) :: st) h := G_bipush (m53 dX6_readMaster_9) (by decide)
theorem e53_11 {d : Nat} {L st : List AV} {h : AM} {r p0 : Int} (hs : st.length ≤ 4) (hk : isK h r 5) : EV (d + 1) 53 11 L ((0, p0) :: (2, r) :: st) h = (EV d 39 0 [(2, r), (0, p0)] [] h).bind (fun q => EV (d + 1) 53 14 L (psh q.1 st) q.2) := G_cv [(0, p0)] (m53 dX6_readMaster_11) ow53 tr_6_103 (by decide) td39 np39 ml39 ow39 rfl rfl (Nat.le_of_ble_eq_true rfl) rfl hs hk
theorem e53_14 {d : Nat} {L : List AV} {h : AM} : EV d 53 14 L [] h = some ((3, 0), h) := E_ret (m53 dX6_readMaster_14) rt53
theorem e53_15 {d : Nat} {l0 : AV} {st : List AV} {h : AM} {x : Int} : EV d 53 15 [l0, (2, x)] st h = EV d 53 16 [l0, (2, x)] ((2, x) :: st) h := G_aload_n (m53 dX6_readMaster_15) rfl
theorem e53_16 {d : Nat} {L st : List AV} {h : AM} {r : Int} (hs : st.length ≤ 4) (hk : isK h r 5) : EV (d + 1) 53 16 L ((2, r) :: st) h = (EV d 35 0 [(2, r)] [] h).bind (fun q => EV (d + 1) 53 19 L (psh q.1 st) q.2) := G_cv [] (m53 dX6_readMaster_16) ow53 tr_6_107 (by decide) td35 np35 ml35 ow35 rfl rfl (Nat.le_of_ble_eq_true rfl) rfl hs hk
theorem e53_19 {d : Nat} {l1 : AV} {st : List AV} {h : AM} {x : Int} : EV d 53 19 [(2, x), l1] st h = EV d 53 20 [(2, x), l1] ((2, x) :: st) h := G_aload_n (m53 dX6_readMaster_19) rfl
theorem e53_20 {d : Nat} {L st : List AV} {h : AM} {r : Int} (hk : isK h r 6) : EV d 53 20 L ((2, r) :: st) h = EV d 53 23 L ((2, mrd h r 0) :: st) h := G_get (m53 dX6_readMaster_20) ow53 tf_6_9 rfl rfl hk
theorem e53_23 {d : Nat} {l1 : AV} {st : List AV} {h : AM} {x : Int} : EV d 53 23 [(2, x), l1] st h = EV d 53 24 [(2, x), l1] ((2, x) :: st) h := G_aload_n (m53 dX6_readMaster_23) rfl
theorem e53_24 {d : Nat} {L st : List AV} {h : AM} {r : Int} (hk : isK h r 6) : EV d 53 24 L ((2, r) :: st) h = EV d 53 27 L ((0, mrd h r 5) :: st) h := G_get (m53 dX6_readMaster_24) ow53 tf_6_63 rfl rfl hk
theorem e53_27 {d : Nat} {l1 : AV} {st : List AV} {h : AM} {x : Int} : EV d 53 27 [(2, x), l1] st h = EV d 53 28 [(2, x), l1] ((2, x) :: st) h := G_aload_n (m53 dX6_readMaster_27) rfl
theorem e53_28 {d : Nat} {l0 : AV} {st : List AV} {h : AM} {x : Int} : EV d 53 28 [l0, (2, x)] st h = EV d 53 29 [l0, (2, x)] ((2, x) :: st) h := G_aload_n (m53 dX6_readMaster_28) rfl
theorem e53_29 {d : Nat} {L st : List AV} {h : AM} {r p0 : Int} (hs : st.length ≤ 4) (hk : isK h r 6) : EV (d + 1) 53 29 L ((2, p0) :: (2, r) :: st) h = (EV d 59 0 [(2, r), (2, p0), (3, 0), (3, 0)] [] h).bind (fun q => EV (d + 1) 53 32 L (psh q.1 st) q.2) := G_cv [(2, p0)] (m53 dX6_readMaster_29) ow53 tr_6_110 (by decide) td59 np59 ml59 ow59 rfl rfl (Nat.le_of_ble_eq_true rfl) rfl hs hk
theorem e53_32 {d : Nat} {L st : List AV} {h : AM} {r j v : Int} (hk : inA h r 19 j) : EV d 53 32 L ((1, v) :: (0, j) :: (2, r) :: st) h = EV d 53 33 L st (mwr h r j v) := E_last (m53 dX6_readMaster_32) hk
theorem e53_33 {d : Nat} {l1 : AV} {st : List AV} {h : AM} {x : Int} : EV d 53 33 [(2, x), l1] st h = EV d 53 34 [(2, x), l1] ((2, x) :: st) h := G_aload_n (m53 dX6_readMaster_33) rfl
theorem e53_34 {d : Nat} {L st : List AV} {h : AM} {a : Int} : EV d 53 34 L ((2, a) :: st) h = EV d 53 35 L ((2, a) :: (2, a) :: st) h := G_dup2r (m53 dX6_readMaster_34)
theorem e53_34i {d : Nat} {L st : List AV} {h : AM} {a : Int} : EV d 53 34 L ((0, a) :: st) h = EV d 53 35 L ((0, a) :: (0, a) :: st) h := G_dupi (m53 dX6_readMaster_34)
theorem e53_35 {d : Nat} {L st : List AV} {h : AM} {r : Int} (hk : isK h r 6) : EV d 53 35 L ((2, r) :: st) h = EV d 53 38 L ((0, mrd h r 5) :: st) h := G_get (m53 dX6_readMaster_35) ow53 tf_6_63 rfl rfl hk
theorem e53_38 {d : Nat} {L st : List AV} {h : AM} : EV d 53 38 L st h = EV d 53 39 L ((0, 1) :: st) h := G_iconst (m53 dX6_readMaster_38) (by decide)
theorem e53_39 {d : Nat} {L st : List AV} {h : AM} {a b : Int} : EV d 53 39 L ((0, b) :: (0, a) :: st) h = EV d 53 40 L ((0, w32 (a + b)) :: st) h := E_iadd (m53 dX6_readMaster_39)
theorem pk_53_6_5 : pok 53 6 5 0 = true := by decide +kernel
theorem e53_40 {d : Nat} {L st : List AV} {h : AM} {r v : Int} (hk : isK h r 6) : EV d 53 40 L ((0, v) :: (2, r) :: st) h = EV d 53 43 L st (mwr h r 5 v) := G_put (m53 dX6_readMaster_40) ow53 tf_6_63 pk_53_6_5 rfl hk
theorem e53_43 {d : Nat} {L : List AV} {h : AM} : EV d 53 43 L [] h = some ((3, 0), h) := E_ret (m53 dX6_readMaster_43) rt53
theorem e54_0 {d : Nat} {l1 l2 : AV} {st : List AV} {h : AM} {x : Int} : EV d 54 0 [(2, x), l1, l2] st h = EV d 54 1 [(2, x), l1, l2] ((2, x) :: st) h := G_aload_n (m54 dX6_readLesson_0) rfl
theorem e54_1 {d : Nat} {L st : List AV} {h : AM} {r : Int} (hk : isK h r 6) : EV d 54 1 L ((2, r) :: st) h = EV d 54 4 L ((0, mrd h r 6) :: st) h := G_get (m54 dX6_readLesson_1) ow54 tf_6_47 rfl rfl hk
theorem e54_4 {d : Nat} {L st : List AV} {h : AM} : EV d 54 4 L st h = EV d 54 6 L ((0, 12) :: st) h := G_bipush (m54 dX6_readLesson_4) (by decide)
theorem e54_6 {d : Nat} {L st : List AV} {h : AM} {a b : Int} : EV d 54 6 L ((0, b) :: (0, a) :: st) h = if a < b then EV d 54 16 L st h else EV d 54 9 L st h := (E_ic (m54 dX6_readLesson_6) (t := 16) rfl).trans cc_lt
theorem e54_9 {d : Nat} {l0 l2 : AV} {st : List AV} {h : AM} {x : Int} : EV d 54 9 [l0, (2, x), l2] st h = EV d 54 10 [l0, (2, x), l2] ((2, x) :: st) h := G_aload_n (m54 dX6_readLesson_9) rfl
theorem e54_10 {d : Nat} {L st : List AV} {h : AM} : EV d 54 10 L st h = EV d 54 12 L ((0, 6) :: st) h := G_bipush (m54 dX6_readLesson_10) (by decide)
theorem e54_12 {d : Nat} {L st : List AV} {h : AM} {r p0 : Int} (hs : st.length ≤ 4) (hk : isK h r 5) : EV (d + 1) 54 12 L ((0, p0) :: (2, r) :: st) h = (EV d 39 0 [(2, r), (0, p0)] [] h).bind (fun q => EV (d + 1) 54 15 L (psh q.1 st) q.2) := G_cv [(0, p0)] (m54 dX6_readLesson_12) ow54 tr_6_103 (by decide) td39 np39 ml39 ow39 rfl rfl (Nat.le_of_ble_eq_true rfl) rfl hs hk
theorem e54_15 {d : Nat} {L : List AV} {h : AM} : EV d 54 15 L [] h = some ((3, 0), h) := E_ret (m54 dX6_readLesson_15) rt54
theorem e54_16 {d : Nat} {l0 l2 : AV} {st : List AV} {h : AM} {x : Int} : EV d 54 16 [l0, (2, x), l2] st h = EV d 54 17 [l0, (2, x), l2] ((2, x) :: st) h := G_aload_n (m54 dX6_readLesson_16) rfl
theorem e54_17 {d : Nat} {L st : List AV} {h : AM} {r : Int} (hs : st.length ≤ 4) (hk : isK h r 5) : EV (d + 1) 54 17 L ((2, r) :: st) h = (EV d 35 0 [(2, r)] [] h).bind (fun q => EV (d + 1) 54 20 L (psh q.1 st) q.2) := G_cv [] (m54 dX6_readLesson_17) ow54 tr_6_107 (by decide) td35 np35 ml35 ow35 rfl rfl (Nat.le_of_ble_eq_true rfl) rfl hs hk
theorem e54_20 {d : Nat} {l1 l2 : AV} {st : List AV} {h : AM} {x : Int} : EV d 54 20 [(2, x), l1, l2] st h = EV d 54 21 [(2, x), l1, l2] ((2, x) :: st) h := G_aload_n (m54 dX6_readLesson_20) rfl
theorem e54_21 {d : Nat} {L st : List AV} {h : AM} {r : Int} (hk : isK h r 6) : EV d 54 21 L ((2, r) :: st) h = EV d 54 24 L ((2, mrd h r 1) :: st) h := G_get (m54 dX6_readLesson_21) ow54 tf_6_17 rfl rfl hk
theorem e54_24 {d : Nat} {l1 l2 : AV} {st : List AV} {h : AM} {x : Int} : EV d 54 24 [(2, x), l1, l2] st h = EV d 54 25 [(2, x), l1, l2] ((2, x) :: st) h := G_aload_n (m54 dX6_readLesson_24) rfl
theorem e54_25 {d : Nat} {L st : List AV} {h : AM} {r : Int} (hk : isK h r 6) : EV d 54 25 L ((2, r) :: st) h = EV d 54 28 L ((0, mrd h r 6) :: st) h := G_get (m54 dX6_readLesson_25) ow54 tf_6_47 rfl rfl hk
theorem e54_28 {d : Nat} {L st : List AV} {h : AM} {r j : Int} (hk : inR h r j) : EV d 54 28 L ((0, j) :: (2, r) :: st) h = EV d 54 29 L ((2, mrd h r j) :: st) h := G_aald (m54 dX6_readLesson_28) hk
theorem e54_29 {d : Nat} {l0 l1 l2 : AV} {st : List AV} {h : AM} {x : Int} : EV d 54 29 [l0, l1, l2] ((2, x) :: st) h = EV d 54 30 [l0, l1, (2, x)] st h := G_astore_n (m54 dX6_readLesson_29) (Nat.le_of_ble_eq_true rfl) rfl
theorem e54_30 {d : Nat} {l0 l1 : AV} {st : List AV} {h : AM} {x : Int} : EV d 54 30 [l0, l1, (2, x)] st h = EV d 54 31 [l0, l1, (2, x)] ((2, x) :: st) h := G_aload_n (m54 dX6_readLesson_30) rfl
theorem e54_31 {d : Nat} {l1 l2 : AV} {st : List AV} {h : AM} {x : Int} : EV d 54 31 [(2, x), l1, l2] st h = EV d 54 32 [(2, x), l1, l2] ((2, x) :: st) h := G_aload_n (m54 dX6_readLesson_31) rfl
theorem e54_32 {d : Nat} {l0 l2 : AV} {st : List AV} {h : AM} {x : Int} : EV d 54 32 [l0, (2, x), l2] st h = EV d 54 33 [l0, (2, x), l2] ((2, x) :: st) h := G_aload_n (m54 dX6_readLesson_32) rfl
theorem e54_33 {d : Nat} {L st : List AV} {h : AM} {r p0 : Int} (hs : st.length ≤ 4) (hk : isK h r 6) : EV (d + 1) 54 33 L ((2, p0) :: (2, r) :: st) h = (EV d 59 0 [(2, r), (2, p0), (3, 0), (3, 0)] [] h).bind (fun q => EV (d + 1) 54 36 L (psh q.1 st) q.2) := G_cv [(2, p0)] (m54 dX6_readLesson_33) ow54 tr_6_110 (by decide) td59 np59 ml59 ow59 rfl rfl (Nat.le_of_ble_eq_true rfl) rfl hs hk
theorem pk_54_2_0 : pok 54 2 0 1 = true := by decide +kernel
theorem e54_36 {d : Nat} {L st : List AV} {h : AM} {r v : Int} (hk : isK h r 2) : EV d 54 36 L ((1, v) :: (2, r) :: st) h = EV d 54 39 L st (mwr h r 0 v) := G_put (m54 dX6_readLesson_36) ow54 tf_6_114 pk_54_2_0 rfl hk
theorem e54_39 {d : Nat} {l0 l2 : AV} {st : List AV} {h : AM} {x : Int} : EV d 54 39 [l0, (2, x), l2] st h = EV d 54 40 [l0, (2, x), l2] ((2, x) :: st) h := G_aload_n (m54 dX6_readLesson_39) rfl
theorem e54_40 {d : Nat} {L st : List AV} {h : AM} : EV d 54 40 L st h = EV d 54 41 L ((0, 2) :: st) h := G_iconst (m54 dX6_readLesson_40) (by decide)
theorem e54_41 {d : Nat} {L st : List AV} {h : AM} {r p0 : Int} (hs : st.length ≤ 4) (hk : isK h r 5) : EV (d + 1) 54 41 L ((0, p0) :: (2, r) :: st) h = (EV d 43 0 [(2, r), (0, p0)] [] h).bind (fun q => EV (d + 1) 54 44 L (psh q.1 st) q.2) := G_cv [(0, p0)] (m54 dX6_readLesson_41) ow54 tr_6_118 (by decide) td43 np43 ml43 ow43 rfl rfl (Nat.le_of_ble_eq_true rfl) rfl hs hk
theorem e54_44 {d : Nat} {l0 l1 : AV} {st : List AV} {h : AM} {x : Int} : EV d 54 44 [l0, l1, (2, x)] st h = EV d 54 45 [l0, l1, (2, x)] ((2, x) :: st) h := G_aload_n (m54 dX6_readLesson_44) rfl
theorem e54_45 {d : Nat} {l0 l2 : AV} {st : List AV} {h : AM} {x : Int} : EV d 54 45 [l0, (2, x), l2] st h = EV d 54 46 [l0, (2, x), l2] ((2, x) :: st) h := G_aload_n (m54 dX6_readLesson_45) rfl
theorem e54_46 {d : Nat} {L st : List AV} {h : AM} {r : Int} (hs : st.length ≤ 4) (hk : isK h r 5) : EV (d + 1) 54 46 L ((2, r) :: st) h = (EV d 46 0 [(2, r), (3, 0)] [] h).bind (fun q => EV (d + 1) 54 49 L (psh q.1 st) q.2) := G_cv [] (m54 dX6_readLesson_46) ow54 tr_6_121 (by decide) td46 np46 ml46 ow46 rfl rfl (Nat.le_of_ble_eq_true rfl) rfl hs hk
theorem e54_49 {d : Nat} {L st : List AV} {h : AM} {r p0 : Int} (hs : st.length ≤ 4) (hk : isK h r 2) : EV (d + 1) 54 49 L ((0, p0) :: (2, r) :: st) h = (EV d 15 0 [(2, r), (0, p0)] [] h).bind (fun q => EV (d + 1) 54 52 L (psh q.1 st) q.2) := G_cv [(0, p0)] (m54 dX6_readLesson_49) ow54 tr_6_125 (by decide) td15 np15 ml15 ow15 rfl rfl (Nat.le_of_ble_eq_true rfl) rfl hs hk
theorem e54_52 {d : Nat} {l0 l2 : AV} {st : List AV} {h : AM} {x : Int} : EV d 54 52 [l0, (2, x), l2] st h = EV d 54 53 [l0, (2, x), l2] ((2, x) :: st) h := G_aload_n (m54 dX6_readLesson_52) rfl
theorem e54_53 {d : Nat} {L st : List AV} {h : AM} : EV d 54 53 L st h = EV d 54 54 L ((0, 3) :: st) h := G_iconst (m54 dX6_readLesson_53) (by decide)
theorem e54_54 {d : Nat} {L st : List AV} {h : AM} {r p0 : Int} (hs : st.length ≤ 4) (hk : isK h r 5) : EV (d + 1) 54 54 L ((0, p0) :: (2, r) :: st) h = (EV d 43 0 [(2, r), (0, p0)] [] h).bind (fun q => EV (d + 1) 54 57 L (psh q.1 st) q.2) := G_cv [(0, p0)] (m54 dX6_readLesson_54) ow54 tr_6_118 (by decide) td43 np43 ml43 ow43 rfl rfl (Nat.le_of_ble_eq_true rfl) rfl hs hk
theorem e54_57 {d : Nat} {l0 l1 : AV} {st : List AV} {h : AM} {x : Int} : EV d 54 57 [l0, l1, (2, x)] st h = EV d 54 58 [l0, l1, (2, x)] ((2, x) :: st) h := G_aload_n (m54 dX6_readLesson_57) rfl
theorem e54_58 {d : Nat} {l0 l2 : AV} {st : List AV} {h : AM} {x : Int} : EV d 54 58 [l0, (2, x), l2] st h = EV d 54 59 [l0, (2, x), l2] ((2, x) :: st) h := G_aload_n (m54 dX6_readLesson_58) rfl
theorem e54_59 {d : Nat} {L st : List AV} {h : AM} : EV d 54 59 L st h = EV d 54 60 L ((0, 1) :: st) h := G_iconst (m54 dX6_readLesson_59) (by decide)
theorem e54_60 {d : Nat} {L st : List AV} {h : AM} : EV d 54 60 L st h = EV d 54 62 L ((0, 30) :: st) h := G_bipush (m54 dX6_readLesson_60) (by decide)
theorem e54_62 {d : Nat} {L st : List AV} {h : AM} {r p0 p1 : Int} (hs : st.length ≤ 4) (hk : isK h r 5) : EV (d + 1) 54 62 L ((0, p1) :: (0, p0) :: (2, r) :: st) h = (EV d 45 0 [(2, r), (0, p0), (0, p1), (3, 0)] [] h).bind (fun q => EV (d + 1) 54 65 L (psh q.1 st) q.2) := G_cv [(0, p0), (0, p1)] (m54 dX6_readLesson_62) ow54 tr_6_128 (by decide) td45 np45 ml45 ow45 rfl rfl (Nat.le_of_ble_eq_true rfl) rfl hs hk
theorem pk_54_2_3 : pok 54 2 3 0 = true := by decide +kernel
theorem e54_65 {d : Nat} {L st : List AV} {h : AM} {r v : Int} (hk : isK h r 2) : EV d 54 65 L ((0, v) :: (2, r) :: st) h = EV d 54 68 L st (mwr h r 3 v) := G_put (m54 dX6_readLesson_65) ow54 tf_6_132 pk_54_2_3 rfl hk
theorem e54_68 {d : Nat} {l0 l1 : AV} {st : List AV} {h : AM} {x : Int} : EV d 54 68 [l0, l1, (2, x)] st h = EV d 54 69 [l0, l1, (2, x)] ((2, x) :: st) h := G_aload_n (m54 dX6_readLesson_68) rfl
theorem e54_69 {d : Nat} {l0 l2 : AV} {st : List AV} {h : AM} {x : Int} : EV d 54 69 [l0, (2, x), l2] st h = EV d 54 70 [l0, (2, x), l2] ((2, x) :: st) h := G_aload_n (m54 dX6_readLesson_69) rfl
theorem e54_70 {d : Nat} {L st : List AV} {h : AM} : EV d 54 70 L st h = EV d 54 71 L ((0, 4) :: st) h := G_iconst (m54 dX6_readLesson_70) (by decide)
theorem e54_71 {d : Nat} {L st : List AV} {h : AM} : EV d 54 71 L st h = EV d 54 73 L ((0, 99) :: st) h := G_bipush (m54 dX6_readLesson_71) (by decide)
theorem e54_73 {d : Nat} {L st : List AV} {h : AM} {p0 p1 p2 : Int} (hs : st.length ≤ 4) : EV (d + 1) 54 73 L ((0, p2) :: (0, p1) :: (2, p0) :: st) h = (EV d 58 0 [(2, p0), (0, p1), (0, p2)] [] h).bind (fun q => EV (d + 1) 54 76 L (psh q.1 st) q.2) := G_cs [(2, p0), (0, p1), (0, p2)] (m54 dX6_readLesson_73) ow54 tr_6_135 (by decide) td58 np58 ml58 rfl rfl (Nat.le_of_ble_eq_true rfl) rfl hs
theorem pk_54_2_4 : pok 54 2 4 0 = true := by decide +kernel
theorem e54_76 {d : Nat} {L st : List AV} {h : AM} {r v : Int} (hk : isK h r 2) : EV d 54 76 L ((0, v) :: (2, r) :: st) h = EV d 54 79 L st (mwr h r 4 v) := G_put (m54 dX6_readLesson_76) ow54 tf_6_139 pk_54_2_4 rfl hk
theorem e54_79 {d : Nat} {l0 l1 : AV} {st : List AV} {h : AM} {x : Int} : EV d 54 79 [l0, l1, (2, x)] st h = EV d 54 80 [l0, l1, (2, x)] ((2, x) :: st) h := G_aload_n (m54 dX6_readLesson_79) rfl
theorem e54_80 {d : Nat} {L st : List AV} {h : AM} : EV d 54 80 L st h = EV d 54 81 L ((0, -1) :: st) h := G_iconst (m54 dX6_readLesson_80) (by decide)
theorem pk_54_2_5 : pok 54 2 5 0 = true := by decide +kernel
theorem e54_81 {d : Nat} {L st : List AV} {h : AM} {r v : Int} (hk : isK h r 2) : EV d 54 81 L ((0, v) :: (2, r) :: st) h = EV d 54 84 L st (mwr h r 5 v) := G_put (m54 dX6_readLesson_81) ow54 tf_6_142 pk_54_2_5 rfl hk
theorem e54_84 {d : Nat} {l0 l2 : AV} {st : List AV} {h : AM} {x : Int} : EV d 54 84 [l0, (2, x), l2] st h = EV d 54 85 [l0, (2, x), l2] ((2, x) :: st) h := G_aload_n (m54 dX6_readLesson_84) rfl
theorem e54_85 {d : Nat} {L st : List AV} {h : AM} : EV d 54 85 L st h = EV d 54 86 L ((0, 5) :: st) h := G_iconst (m54 dX6_readLesson_85) (by decide)
theorem e54_86 {d : Nat} {L st : List AV} {h : AM} {r p0 : Int} (hs : st.length ≤ 4) (hk : isK h r 5) : EV (d + 1) 54 86 L ((0, p0) :: (2, r) :: st) h = (EV d 41 0 [(2, r), (0, p0)] [] h).bind (fun q => EV (d + 1) 54 89 L (psh q.1 st) q.2) := G_cv [(0, p0)] (m54 dX6_readLesson_86) ow54 tr_6_79 (by decide) td41 np41 ml41 ow41 rfl rfl (Nat.le_of_ble_eq_true rfl) rfl hs hk
theorem e54_89 {d : Nat} {L st : List AV} {h : AM} {a : Int} : EV d 54 89 L ((0, a) :: st) h = if a = 0 then EV d 54 112 L st h else EV d 54 92 L st h := (E_if (m54 dX6_readLesson_89) (t := 112) rfl).trans cc_eq
theorem e54_92 {d : Nat} {l0 l2 : AV} {st : List AV} {h : AM} {x : Int} : EV d 54 92 [l0, (2, x), l2] st h = EV d 54 93 [l0, (2, x), l2] ((2, x) :: st) h := G_aload_n (m54 dX6_readLesson_92) rfl
theorem e54_93 {d : Nat} {L st : List AV} {h : AM} {r : Int} (hs : st.length ≤ 4) (hk : isK h r 5) : EV (d + 1) 54 93 L ((2, r) :: st) h = (EV d 35 0 [(2, r)] [] h).bind (fun q => EV (d + 1) 54 96 L (psh q.1 st) q.2) := G_cv [] (m54 dX6_readLesson_93) ow54 tr_6_107 (by decide) td35 np35 ml35 ow35 rfl rfl (Nat.le_of_ble_eq_true rfl) rfl hs hk
theorem e54_96 {d : Nat} {l0 l1 : AV} {st : List AV} {h : AM} {x : Int} : EV d 54 96 [l0, l1, (2, x)] st h = EV d 54 97 [l0, l1, (2, x)] ((2, x) :: st) h := G_aload_n (m54 dX6_readLesson_96) rfl
theorem e54_97 {d : Nat} {l0 l2 : AV} {st : List AV} {h : AM} {x : Int} : EV d 54 97 [l0, (2, x), l2] st h = EV d 54 98 [l0, (2, x), l2] ((2, x) :: st) h := G_aload_n (m54 dX6_readLesson_97) rfl
theorem e54_98 {d : Nat} {l1 l2 : AV} {st : List AV} {h : AM} {x : Int} : EV d 54 98 [(2, x), l1, l2] st h = EV d 54 99 [(2, x), l1, l2] ((2, x) :: st) h := G_aload_n (m54 dX6_readLesson_98) rfl
theorem e54_99 {d : Nat} {l0 l2 : AV} {st : List AV} {h : AM} {x : Int} : EV d 54 99 [l0, (2, x), l2] st h = EV d 54 100 [l0, (2, x), l2] ((2, x) :: st) h := G_aload_n (m54 dX6_readLesson_99) rfl
theorem e54_100 {d : Nat} {L st : List AV} {h : AM} {r : Int} (hs : st.length ≤ 4) (hk : isK h r 5) : EV (d + 1) 54 100 L ((2, r) :: st) h = (EV d 48 0 [(2, r)] [] h).bind (fun q => EV (d + 1) 54 103 L (psh q.1 st) q.2) := G_cv [] (m54 dX6_readLesson_100) ow54 tr_6_145 (by decide) td48 np48 ml48 ow48 rfl rfl (Nat.le_of_ble_eq_true rfl) rfl hs hk
theorem e54_103 {d : Nat} {L st : List AV} {h : AM} {r p0 : Int} (hs : st.length ≤ 4) (hk : isK h r 6) : EV (d + 1) 54 103 L ((1, p0) :: (2, r) :: st) h = (EV d 60 0 [(2, r), (1, p0), (3, 1), (3, 0)] [] h).bind (fun q => EV (d + 1) 54 106 L (psh q.1 st) q.2) := G_cv [(1, p0)] (m54 dX6_readLesson_103) ow54 tr_6_149 (by decide) td60 np60 ml60 ow60 rfl rfl (Nat.le_of_ble_eq_true rfl) rfl hs hk
theorem e54_106 {d : Nat} {L st : List AV} {h : AM} {r p0 : Int} (hs : st.length ≤ 4) (hk : isK h r 5) : EV (d + 1) 54 106 L ((0, p0) :: (2, r) :: st) h = (EV d 49 0 [(2, r), (0, p0)] [] h).bind (fun q => EV (d + 1) 54 109 L (psh q.1 st) q.2) := G_cv [(0, p0)] (m54 dX6_readLesson_106) ow54 tr_6_153 (by decide) td49 np49 ml49 ow49 rfl rfl (Nat.le_of_ble_eq_true rfl) rfl hs hk
theorem e54_109 {d : Nat} {L st : List AV} {h : AM} {r v : Int} (hk : isK h r 2) : EV d 54 109 L ((0, v) :: (2, r) :: st) h = EV d 54 112 L st (mwr h r 5 v) := G_put (m54 dX6_readLesson_109) ow54 tf_6_142 pk_54_2_5 rfl hk
theorem e54_112 {d : Nat} {l0 l1 : AV} {st : List AV} {h : AM} {x : Int} : EV d 54 112 [l0, l1, (2, x)] st h = EV d 54 113 [l0, l1, (2, x)] ((2, x) :: st) h := G_aload_n (m54 dX6_readLesson_112) rfl
theorem e54_113 {d : Nat} {l0 l2 : AV} {st : List AV} {h : AM} {x : Int} : EV d 54 113 [l0, (2, x), l2] st h = EV d 54 114 [l0, (2, x), l2] ((2, x) :: st) h := G_aload_n (m54 dX6_readLesson_113) rfl
theorem e54_114 {d : Nat} {L st : List AV} {h : AM} : EV d 54 114 L st h = EV d 54 116 L ((0, 6) :: st) h := G_bipush (m54 dX6_readLesson_114) (by decide)
theorem e54_116 {d : Nat} {L st : List AV} {h : AM} {r p0 : Int} (hs : st.length ≤ 4) (hk : isK h r 5) : EV (d + 1) 54 116 L ((0, p0) :: (2, r) :: st) h = (EV d 41 0 [(2, r), (0, p0)] [] h).bind (fun q => EV (d + 1) 54 119 L (psh q.1 st) q.2) := G_cv [(0, p0)] (m54 dX6_readLesson_116) ow54 tr_6_79 (by decide) td41 np41 ml41 ow41 rfl rfl (Nat.le_of_ble_eq_true rfl) rfl hs hk
theorem e54_119 {d : Nat} {L st : List AV} {h : AM} {a : Int} : EV d 54 119 L ((0, a) :: st) h = if a = 0 then EV d 54 130 L st h else EV d 54 122 L st h := (E_if (m54 dX6_readLesson_119) (t := 130) rfl).trans cc_eq
theorem e54_122 {d : Nat} {l1 l2 : AV} {st : List AV} {h : AM} {x : Int} : EV d 54 122 [(2, x), l1, l2] st h = EV d 54 123 [(2, x), l1, l2] ((2, x) :: st) h := G_aload_n (m54 dX6_readLesson_122) rfl
theorem e54_123 {d : Nat} {l0 l2 : AV} {st : List AV} {h : AM} {x : Int} : EV d 54 123 [l0, (2, x), l2] st h = EV d 54 124 [l0, (2, x), l2] ((2, x) :: st) h := G_aload_n (m54 dX6_readLesson_123) rfl
theorem e54_124 {d : Nat} {L st : List AV} {h : AM} {r p0 : Int} (hs : st.length ≤ 4) (hk : isK h r 6) : EV (d + 1) 54 124 L ((2, p0) :: (2, r) :: st) h = (EV d 55 0 [(2, r), (2, p0), (3, 0), (3, 0), (3, 0)] [] h).bind (fun q => EV (d + 1) 54 127 L (psh q.1 st) q.2) := G_cv [(2, p0)] (m54 dX6_readLesson_124) ow54 tr_6_157 (by decide) td55 np55 ml55 ow55 rfl rfl (Nat.le_of_ble_eq_true rfl) rfl hs hk
theorem e54_127 {d : Nat} {L st : List AV} {h : AM} : EV d 54 127 L st h = EV d 54 131 L st h := G_goto (m54 dX6_readLesson_127) rfl
theorem e54_130 {d : Nat} {L st : List AV} {h : AM} : EV d 54 130 L st h = EV d 54 131 L ((0, 0) :: st) h := G_iconst (m54 dX6_readLesson_130) (by decide)
theorem pk_54_2_6 : pok 54 2 6 0 = true := by decide +kernel
theorem e54_131 {d : Nat} {L st : List AV} {h : AM} {r v : Int} (hk : isK h r 2) : EV d 54 131 L ((0, v) :: (2, r) :: st) h = EV d 54 134 L st (mwr h r 6 v) := G_put (m54 dX6_readLesson_131) ow54 tf_6_161 pk_54_2_6 rfl hk
theorem e54_134 {d : Nat} {l1 l2 : AV} {st : List AV} {h : AM} {x : Int} : EV d 54 134 [(2, x), l1, l2] st h = EV d 54 135 [(2, x), l1, l2] ((2, x) :: st) h := G_aload_n (m54 dX6_readLesson_134) rfl
theorem e54_135 {d : Nat} {L st : List AV} {h : AM} {a : Int} : EV d 54 135 L ((2, a) :: st) h = EV d 54 136 L ((2, a) :: (2, a) :: st) h := G_dup2r (m54 dX6_readLesson_135)
theorem e54_135i {d : Nat} {L st : List AV} {h : AM} {a : Int} : EV d 54 135 L ((0, a) :: st) h = EV d 54 136 L ((0, a) :: (0, a) :: st) h := G_dupi (m54 dX6_readLesson_135)
theorem e54_136 {d : Nat} {L st : List AV} {h : AM} {r : Int} (hk : isK h r 6) : EV d 54 136 L ((2, r) :: st) h = EV d 54 139 L ((0, mrd h r 6) :: st) h := G_get (m54 dX6_readLesson_136) ow54 tf_6_47 rfl rfl hk
theorem e54_139 {d : Nat} {L st : List AV} {h : AM} : EV d 54 139 L st h = EV d 54 140 L ((0, 1) :: st) h := G_iconst (m54 dX6_readLesson_139) (by decide)
theorem e54_140 {d : Nat} {L st : List AV} {h : AM} {a b : Int} : EV d 54 140 L ((0, b) :: (0, a) :: st) h = EV d 54 141 L ((0, w32 (a + b)) :: st) h := E_iadd (m54 dX6_readLesson_140)
theorem pk_54_6_6 : pok 54 6 6 0 = true := by decide +kernel
theorem e54_141 {d : Nat} {L st : List AV} {h : AM} {r v : Int} (hk : isK h r 6) : EV d 54 141 L ((0, v) :: (2, r) :: st) h = EV d 54 144 L st (mwr h r 6 v) := G_put (m54 dX6_readLesson_141) ow54 tf_6_47 pk_54_6_6 rfl hk
theorem e54_144 {d : Nat} {L : List AV} {h : AM} : EV d 54 144 L [] h = some ((3, 0), h) := E_ret (m54 dX6_readLesson_144) rt54
theorem e55_0 {d : Nat} {l0 l2 l3 l4 : AV} {st : List AV} {h : AM} {x : Int} : EV d 55 0 [l0, (2, x), l2, l3, l4] st h = EV d 55 1 [l0, (2, x), l2, l3, l4] ((2, x) :: st) h := G_aload_n (m55 dX6_readNeeds_0) rfl
theorem e55_1 {d : Nat} {L st : List AV} {h : AM} {r : Int} (hs : st.length ≤ 4) (hk : isK h r 5) : EV (d + 1) 55 1 L ((2, r) :: st) h = (EV d 35 0 [(2, r)] [] h).bind (fun q => EV (d + 1) 55 4 L (psh q.1 st) q.2) := G_cv [] (m55 dX6_readNeeds_1) ow55 tr_6_107 (by decide) td35 np35 ml35 ow35 rfl rfl (Nat.le_of_ble_eq_true rfl) rfl hs hk
theorem e55_4 {d : Nat} {L st : List AV} {h : AM} : EV d 55 4 L st h = EV d 55 5 L ((0, 0) :: st) h := G_iconst (m55 dX6_readNeeds_4) (by decide)
theorem e55_5 {d : Nat} {l0 l1 l2 l3 l4 : AV} {st : List AV} {h : AM} {x : Int} : EV d 55 5 [l0, l1, l2, l3, l4] ((0, x) :: st) h = EV d 55 6 [l0, l1, (0, x), l3, l4] st h := G_istore_n (m55 dX6_readNeeds_5) (Nat.le_of_ble_eq_true rfl) rfl
theorem e55_6 {d : Nat} {L st : List AV} {h : AM} : EV d 55 6 L st h = EV d 55 7 L ((0, 0) :: st) h := G_iconst (m55 dX6_readNeeds_6) (by decide)
theorem e55_7 {d : Nat} {l0 l1 l2 l3 l4 : AV} {st : List AV} {h : AM} {x : Int} : EV d 55 7 [l0, l1, l2, l3, l4] ((0, x) :: st) h = EV d 55 8 [l0, l1, l2, (0, x), l4] st h := G_istore_n (m55 dX6_readNeeds_7) (Nat.le_of_ble_eq_true rfl) rfl
theorem e55_8 {d : Nat} {l0 l1 l2 l4 : AV} {st : List AV} {h : AM} {x : Int} : EV d 55 8 [l0, l1, l2, (0, x), l4] st h = EV d 55 9 [l0, l1, l2, (0, x), l4] ((0, x) :: st) h := G_iload_n (m55 dX6_readNeeds_8) rfl
theorem e55_9 {d : Nat} {L st : List AV} {h : AM} : EV d 55 9 L st h = EV d 55 11 L ((0, 12) :: st) h := G_bipush (m55 dX6_readNeeds_9) (by decide)
theorem e55_11 {d : Nat} {L st : List AV} {h : AM} {a b : Int} : EV d 55 11 L ((0, b) :: (0, a) :: st) h = if b < a then EV d 55 80 L st h else EV d 55 14 L st h := (E_ic (m55 dX6_readNeeds_11) (t := 80) rfl).trans cc_gt
theorem e55_14 {d : Nat} {l0 l2 l3 l4 : AV} {st : List AV} {h : AM} {x : Int} : EV d 55 14 [l0, (2, x), l2, l3, l4] st h = EV d 55 15 [l0, (2, x), l2, l3, l4] ((2, x) :: st) h := G_aload_n (m55 dX6_readNeeds_14) rfl
theorem e55_15 {d : Nat} {L st : List AV} {h : AM} {r : Int} (hk : isK h r 5) : EV d 55 15 L ((2, r) :: st) h = EV d 55 18 L ((0, mrd h r 9) :: st) h := G_get (m55 dX6_readNeeds_15) ow55 tf_6_164 rfl rfl hk
theorem e55_18 {d : Nat} {L st : List AV} {h : AM} {a : Int} : EV d 55 18 L ((0, a) :: st) h = if a = 0 then EV d 55 21 L st h else EV d 55 80 L st h := (E_if (m55 dX6_readNeeds_18) (t := 80) rfl).trans cc_ne
theorem e55_21 {d : Nat} {l1 l2 l3 l4 : AV} {st : List AV} {h : AM} {x : Int} : EV d 55 21 [(2, x), l1, l2, l3, l4] st h = EV d 55 22 [(2, x), l1, l2, l3, l4] ((2, x) :: st) h := G_aload_n (m55 dX6_readNeeds_21) rfl
theorem e55_22 {d : Nat} {l0 l2 l3 l4 : AV} {st : List AV} {h : AM} {x : Int} : EV d 55 22 [l0, (2, x), l2, l3, l4] st h = EV d 55 23 [l0, (2, x), l2, l3, l4] ((2, x) :: st) h := G_aload_n (m55 dX6_readNeeds_22) rfl
theorem e55_23 {d : Nat} {L st : List AV} {h : AM} {r : Int} (hs : st.length ≤ 4) (hk : isK h r 5) : EV (d + 1) 55 23 L ((2, r) :: st) h = (EV d 48 0 [(2, r)] [] h).bind (fun q => EV (d + 1) 55 26 L (psh q.1 st) q.2) := G_cv [] (m55 dX6_readNeeds_23) ow55 tr_6_145 (by decide) td48 np48 ml48 ow48 rfl rfl (Nat.le_of_ble_eq_true rfl) rfl hs hk
theorem e55_26 {d : Nat} {L st : List AV} {h : AM} {r p0 : Int} (hs : st.length ≤ 4) (hk : isK h r 6) : EV (d + 1) 55 26 L ((1, p0) :: (2, r) :: st) h = (EV d 61 0 [(2, r), (1, p0), (3, 1), (3, 0)] [] h).bind (fun q => EV (d + 1) 55 29 L (psh q.1 st) q.2) := G_cv [(1, p0)] (m55 dX6_readNeeds_26) ow55 tr_6_167 (by decide) td61 np61 ml61 ow61 rfl rfl (Nat.le_of_ble_eq_true rfl) rfl hs hk
theorem e55_29 {d : Nat} {l0 l1 l2 l3 l4 : AV} {st : List AV} {h : AM} {x : Int} : EV d 55 29 [l0, l1, l2, l3, l4] ((0, x) :: st) h = EV d 55 31 [l0, l1, l2, l3, (0, x)] st h := G_istore (m55 dX6_readNeeds_29) (Nat.le_of_ble_eq_true rfl) rfl
theorem e55_31 {d : Nat} {l0 l1 l2 l3 : AV} {st : List AV} {h : AM} {x : Int} : EV d 55 31 [l0, l1, l2, l3, (0, x)] st h = EV d 55 33 [l0, l1, l2, l3, (0, x)] ((0, x) :: st) h := G_iload (m55 dX6_readNeeds_31) rfl
theorem e55_33 {d : Nat} {L st : List AV} {h : AM} : EV d 55 33 L st h = EV d 55 34 L ((0, -1) :: st) h := G_iconst (m55 dX6_readNeeds_33) (by decide)
theorem e55_34 {d : Nat} {L st : List AV} {h : AM} {a b : Int} : EV d 55 34 L ((0, b) :: (0, a) :: st) h = if a = b then EV d 55 51 L st h else EV d 55 37 L st h := (E_ic (m55 dX6_readNeeds_34) (t := 51) rfl).trans cc_eq
theorem e55_37 {d : Nat} {l0 l1 l3 l4 : AV} {st : List AV} {h : AM} {x : Int} : EV d 55 37 [l0, l1, (0, x), l3, l4] st h = EV d 55 38 [l0, l1, (0, x), l3, l4] ((0, x) :: st) h := G_iload_n (m55 dX6_readNeeds_37) rfl
theorem e55_38 {d : Nat} {L st : List AV} {h : AM} : EV d 55 38 L st h = EV d 55 39 L ((0, 1) :: st) h := G_iconst (m55 dX6_readNeeds_38) (by decide)
theorem e55_39 {d : Nat} {l0 l1 l2 l3 : AV} {st : List AV} {h : AM} {x : Int} : EV d 55 39 [l0, l1, l2, l3, (0, x)] st h = EV d 55 41 [l0, l1, l2, l3, (0, x)] ((0, x) :: st) h := G_iload (m55 dX6_readNeeds_39) rfl
theorem e55_41 {d : Nat} {L st : List AV} {h : AM} {a b : Int} : EV d 55 41 L ((0, b) :: (0, a) :: st) h = EV d 55 42 L ((0, i_shl a b) :: st) h := E_ishl (m55 dX6_readNeeds_41)
theorem e55_42 {d : Nat} {L st : List AV} {h : AM} {a b : Int} : EV d 55 42 L ((0, b) :: (0, a) :: st) h = EV d 55 43 L ((0, i_and a b) :: st) h := E_iand (m55 dX6_readNeeds_42)
theorem e55_43 {d : Nat} {L st : List AV} {h : AM} {a : Int} : EV d 55 43 L ((0, a) :: st) h = if a = 0 then EV d 55 51 L st h else EV d 55 46 L st h := (E_if (m55 dX6_readNeeds_43) (t := 51) rfl).trans cc_eq
theorem e55_46 {d : Nat} {l0 l2 l3 l4 : AV} {st : List AV} {h : AM} {x : Int} : EV d 55 46 [l0, (2, x), l2, l3, l4] st h = EV d 55 47 [l0, (2, x), l2, l3, l4] ((2, x) :: st) h := G_aload_n (m55 dX6_readNeeds_46) rfl
theorem e55_47 {d : Nat} {L st : List AV} {h : AM} : EV d 55 47 L st h = EV d 55 48 L ((0, 5) :: st) h := G_iconst (m55 dX6_readNeeds_47) (by decide)
theorem e55_48 {d : Nat} {L st : List AV} {h : AM} {r p0 : Int} (hs : st.length ≤ 4) (hk : isK h r 5) : EV (d + 1) 55 48 L ((0, p0) :: (2, r) :: st) h = (EV d 39 0 [(2, r), (0, p0)] [] h).bind (fun q => EV (d + 1) 55 51 L (psh q.1 st) q.2) := G_cv [(0, p0)] (m55 dX6_readNeeds_48) ow55 tr_6_103 (by decide) td39 np39 ml39 ow39 rfl rfl (Nat.le_of_ble_eq_true rfl) rfl hs hk
theorem e55_51 {d : Nat} {l0 l1 l3 l4 : AV} {st : List AV} {h : AM} {x : Int} : EV d 55 51 [l0, l1, (0, x), l3, l4] st h = EV d 55 52 [l0, l1, (0, x), l3, l4] ((0, x) :: st) h := G_iload_n (m55 dX6_readNeeds_51) rfl
theorem e55_52 {d : Nat} {L st : List AV} {h : AM} : EV d 55 52 L st h = EV d 55 53 L ((0, 1) :: st) h := G_iconst (m55 dX6_readNeeds_52) (by decide)
theorem e55_53 {d : Nat} {l0 l2 l3 l4 : AV} {st : List AV} {h : AM} {x : Int} : EV d 55 53 [l0, (2, x), l2, l3, l4] st h = EV d 55 54 [l0, (2, x), l2, l3, l4] ((2, x) :: st) h := G_aload_n (m55 dX6_readNeeds_53) rfl
theorem e55_54 {d : Nat} {l0 l1 l2 l3 : AV} {st : List AV} {h : AM} {x : Int} : EV d 55 54 [l0, l1, l2, l3, (0, x)] st h = EV d 55 56 [l0, l1, l2, l3, (0, x)] ((0, x) :: st) h := G_iload (m55 dX6_readNeeds_54) rfl
theorem e55_56 {d : Nat} {L st : List AV} {h : AM} {r p0 : Int} (hs : st.length ≤ 4) (hk : isK h r 5) : EV (d + 1) 55 56 L ((0, p0) :: (2, r) :: st) h = (EV d 49 0 [(2, r), (0, p0)] [] h).bind (fun q => EV (d + 1) 55 59 L (psh q.1 st) q.2) := G_cv [(0, p0)] (m55 dX6_readNeeds_56) ow55 tr_6_153 (by decide) td49 np49 ml49 ow49 rfl rfl (Nat.le_of_ble_eq_true rfl) rfl hs hk
theorem e55_59 {d : Nat} {L st : List AV} {h : AM} {a b : Int} : EV d 55 59 L ((0, b) :: (0, a) :: st) h = EV d 55 60 L ((0, i_shl a b) :: st) h := E_ishl (m55 dX6_readNeeds_59)
theorem e55_60 {d : Nat} {L st : List AV} {h : AM} {a b : Int} : EV d 55 60 L ((0, b) :: (0, a) :: st) h = EV d 55 61 L ((0, i_or a b) :: st) h := E_ior (m55 dX6_readNeeds_60)
theorem e55_61 {d : Nat} {l0 l1 l2 l3 l4 : AV} {st : List AV} {h : AM} {x : Int} : EV d 55 61 [l0, l1, l2, l3, l4] ((0, x) :: st) h = EV d 55 62 [l0, l1, (0, x), l3, l4] st h := G_istore_n (m55 dX6_readNeeds_61) (Nat.le_of_ble_eq_true rfl) rfl
theorem e55_62 {d : Nat} {l0 l2 l3 l4 : AV} {st : List AV} {h : AM} {x : Int} : EV d 55 62 [l0, (2, x), l2, l3, l4] st h = EV d 55 63 [l0, (2, x), l2, l3, l4] ((2, x) :: st) h := G_aload_n (m55 dX6_readNeeds_62) rfl
theorem e55_63 {d : Nat} {L st : List AV} {h : AM} : EV d 55 63 L st h = EV d 55 65 L ((0, 59) :: st) h := G_bipush (m55 dX6_readNeeds_63) (by decide)
theorem e55_65 {d : Nat} {L st : List AV} {h : AM} {r p0 : Int} (hs : st.length ≤ 4) (hk : isK h r 5) : EV (d + 1) 55 65 L ((0, p0) :: (2, r) :: st) h = (EV d 42 0 [(2, r), (0, p0)] [] h).bind (fun q => EV (d + 1) 55 68 L (psh q.1 st) q.2) := G_cv [(0, p0)] (m55 dX6_readNeeds_65) ow55 tr_6_170 (by decide) td42 np42 ml42 ow42 rfl rfl (Nat.le_of_ble_eq_true rfl) rfl hs hk
theorem e55_68 {d : Nat} {L st : List AV} {h : AM} {a : Int} : EV d 55 68 L ((0, a) :: st) h = if a = 0 then EV d 55 74 L st h else EV d 55 71 L st h := (E_if (m55 dX6_readNeeds_68) (t := 74) rfl).trans cc_eq
theorem e55_71 {d : Nat} {L st : List AV} {h : AM} : EV d 55 71 L st h = EV d 55 80 L st h := G_goto (m55 dX6_readNeeds_71) rfl
theorem e55_74 {d : Nat} {l0 l1 l2 l4 : AV} {st : List AV} {h : AM} {x : Int} : EV d 55 74 [l0, l1, l2, (0, x), l4] st h = EV d 55 77 [l0, l1, l2, (0, w32 (x + 1)), l4] st h := G_iinc (m55 dX6_readNeeds_74) rfl rfl
theorem e55_77 {d : Nat} {L st : List AV} {h : AM} : EV d 55 77 L st h = EV d 55 8 L st h := G_goto (m55 dX6_readNeeds_77) rfl
theorem e55_80 {d : Nat} {l0 l1 l3 l4 : AV} {st : List AV} {h : AM} {x : Int} : EV d 55 80 [l0, l1, (0, x), l3, l4] st h = EV d 55 81 [l0, l1, (0, x), l3, l4] ((0, x) :: st) h := G_iload_n (m55 dX6_readNeeds_80) rfl
theorem e55_81 {d : Nat} {L : List AV} {h : AM} {v : Int} : EV d 55 81 L [(0, v)] h = some ((0, v), h) := E_iret (m55 dX6_readNeeds_81) (by rw [rt55]; rfl)
theorem e56_0 {d : Nat} {l1 l2 : AV} {st : List AV} {h : AM} {x : Int} : EV d 56 0 [(2, x), l1, l2] st h = EV d 56 1 [(2, x), l1, l2] ((2, x) :: st) h := G_aload_n (m56 dX6_readChild_0) rfl
theorem e56_1 {d : Nat} {L st : List AV} {h : AM} {r : Int} (hk : isK h r 6) : EV d 56 1 L ((2, r) :: st) h = EV d 56 4 L ((0, mrd h r 7) :: st) h := G_get (m56 dX6_readChild_1) ow56 tf_6_54 rfl rfl hk
theorem e56_4 {d : Nat} {L st : List AV} {h : AM} : EV d 56 4 L st h = EV d 56 5 L ((0, 4) :: st) h := G_iconst (m56 dX6_readChild_4) (by decide)
theorem e56_5 {d : Nat} {L st : List AV} {h : AM} {a b : Int} : EV d 56 5 L ((0, b) :: (0, a) :: st) h = if a < b then EV d 56 15 L st h else EV d 56 8 L st h := (E_ic (m56 dX6_readChild_5) (t := 15) rfl).trans cc_lt
theorem e56_8 {d : Nat} {l0 l2 : AV} {st : List AV} {h : AM} {x : Int} : EV d 56 8 [l0, (2, x), l2] st h = EV d 56 9 [l0, (2, x), l2] ((2, x) :: st) h := G_aload_n (m56 dX6_readChild_8) rfl
theorem e56_9 {d : Nat} {L st : List AV} {h : AM} : EV d 56 9 L st h = EV d 56 11 L ((0, 6) :: st) h := G_bipush (m56 dX6_readChild_9) (by decide)
theorem e56_11 {d : Nat} {L st : List AV} {h : AM} {r p0 : Int} (hs : st.length ≤ 4) (hk : isK h r 5) : EV (d + 1) 56 11 L ((0, p0) :: (2, r) :: st) h = (EV d 39 0 [(2, r), (0, p0)] [] h).bind (fun q => EV (d + 1) 56 14 L (psh q.1 st) q.2) := G_cv [(0, p0)] (m56 dX6_readChild_11) ow56 tr_6_103 (by decide) td39 np39 ml39 ow39 rfl rfl (Nat.le_of_ble_eq_true rfl) rfl hs hk
theorem e56_14 {d : Nat} {L : List AV} {h : AM} : EV d 56 14 L [] h = some ((3, 0), h) := E_ret (m56 dX6_readChild_14) rt56
theorem e56_15 {d : Nat} {l0 l2 : AV} {st : List AV} {h : AM} {x : Int} : EV d 56 15 [l0, (2, x), l2] st h = EV d 56 16 [l0, (2, x), l2] ((2, x) :: st) h := G_aload_n (m56 dX6_readChild_15) rfl
theorem e56_16 {d : Nat} {L st : List AV} {h : AM} {r : Int} (hs : st.length ≤ 4) (hk : isK h r 5) : EV (d + 1) 56 16 L ((2, r) :: st) h = (EV d 35 0 [(2, r)] [] h).bind (fun q => EV (d + 1) 56 19 L (psh q.1 st) q.2) := G_cv [] (m56 dX6_readChild_16) ow56 tr_6_107 (by decide) td35 np35 ml35 ow35 rfl rfl (Nat.le_of_ble_eq_true rfl) rfl hs hk
theorem e56_19 {d : Nat} {l1 l2 : AV} {st : List AV} {h : AM} {x : Int} : EV d 56 19 [(2, x), l1, l2] st h = EV d 56 20 [(2, x), l1, l2] ((2, x) :: st) h := G_aload_n (m56 dX6_readChild_19) rfl
theorem e56_20 {d : Nat} {L st : List AV} {h : AM} {r : Int} (hk : isK h r 6) : EV d 56 20 L ((2, r) :: st) h = EV d 56 23 L ((2, mrd h r 2) :: st) h := G_get (m56 dX6_readChild_20) ow56 tf_6_23 rfl rfl hk
theorem e56_23 {d : Nat} {l1 l2 : AV} {st : List AV} {h : AM} {x : Int} : EV d 56 23 [(2, x), l1, l2] st h = EV d 56 24 [(2, x), l1, l2] ((2, x) :: st) h := G_aload_n (m56 dX6_readChild_23) rfl
theorem e56_24 {d : Nat} {L st : List AV} {h : AM} {r : Int} (hk : isK h r 6) : EV d 56 24 L ((2, r) :: st) h = EV d 56 27 L ((0, mrd h r 7) :: st) h := G_get (m56 dX6_readChild_24) ow56 tf_6_54 rfl rfl hk
theorem e56_27 {d : Nat} {L st : List AV} {h : AM} {r j : Int} (hk : inR h r j) : EV d 56 27 L ((0, j) :: (2, r) :: st) h = EV d 56 28 L ((2, mrd h r j) :: st) h := G_aald (m56 dX6_readChild_27) hk
theorem e56_28 {d : Nat} {l0 l1 l2 : AV} {st : List AV} {h : AM} {x : Int} : EV d 56 28 [l0, l1, l2] ((2, x) :: st) h = EV d 56 29 [l0, l1, (2, x)] st h := G_astore_n (m56 dX6_readChild_28) (Nat.le_of_ble_eq_true rfl) rfl
theorem e56_29 {d : Nat} {l0 l1 : AV} {st : List AV} {h : AM} {x : Int} : EV d 56 29 [l0, l1, (2, x)] st h = EV d 56 30 [l0, l1, (2, x)] ((2, x) :: st) h := G_aload_n (m56 dX6_readChild_29) rfl
theorem e56_30 {d : Nat} {l1 l2 : AV} {st : List AV} {h : AM} {x : Int} : EV d 56 30 [(2, x), l1, l2] st h = EV d 56 31 [(2, x), l1, l2] ((2, x) :: st) h := G_aload_n (m56 dX6_readChild_30) rfl
theorem e56_31 {d : Nat} {l0 l2 : AV} {st : List AV} {h : AM} {x : Int} : EV d 56 31 [l0, (2, x), l2] st h = EV d 56 32 [l0, (2, x), l2] ((2, x) :: st) h := G_aload_n (m56 dX6_readChild_31) rfl
theorem e56_32 {d : Nat} {L st : List AV} {h : AM} {r p0 : Int} (hs : st.length ≤ 4) (hk : isK h r 6) : EV (d + 1) 56 32 L ((2, p0) :: (2, r) :: st) h = (EV d 59 0 [(2, r), (2, p0), (3, 0), (3, 0)] [] h).bind (fun q => EV (d + 1) 56 35 L (psh q.1 st) q.2) := G_cv [(2, p0)] (m56 dX6_readChild_32) ow56 tr_6_110 (by decide) td59 np59 ml59 ow59 rfl rfl (Nat.le_of_ble_eq_true rfl) rfl hs hk
theorem e56_35 {d : Nat} {L st : List AV} {h : AM} {r p0 : Int} (hs : st.length ≤ 4) (hk : isK h r 1) : EV (d + 1) 56 35 L ((1, p0) :: (2, r) :: st) h = (EV d 9 0 [(2, r), (1, p0), (3, 1)] [] h).bind (fun q => EV (d + 1) 56 38 L (psh q.1 st) q.2) := G_cv [(1, p0)] (m56 dX6_readChild_35) ow56 tr_6_174 (by decide) td9 np9 ml9 ow9 rfl rfl (Nat.le_of_ble_eq_true rfl) rfl hs hk
theorem e56_38 {d : Nat} {l0 l1 : AV} {st : List AV} {h : AM} {x : Int} : EV d 56 38 [l0, l1, (2, x)] st h = EV d 56 39 [l0, l1, (2, x)] ((2, x) :: st) h := G_aload_n (m56 dX6_readChild_38) rfl
theorem e56_39 {d : Nat} {l0 l2 : AV} {st : List AV} {h : AM} {x : Int} : EV d 56 39 [l0, (2, x), l2] st h = EV d 56 40 [l0, (2, x), l2] ((2, x) :: st) h := G_aload_n (m56 dX6_readChild_39) rfl
theorem e56_40 {d : Nat} {L st : List AV} {h : AM} : EV d 56 40 L st h = EV d 56 42 L ((0, 8) :: st) h := G_bipush (m56 dX6_readChild_40) (by decide)
theorem e56_42 {d : Nat} {L st : List AV} {h : AM} : EV d 56 42 L st h = EV d 56 44 L ((0, 9) :: st) h := G_bipush (m56 dX6_readChild_42) (by decide)
theorem e56_44 {d : Nat} {L st : List AV} {h : AM} {p0 p1 p2 : Int} (hs : st.length ≤ 4) : EV (d + 1) 56 44 L ((0, p2) :: (0, p1) :: (2, p0) :: st) h = (EV d 58 0 [(2, p0), (0, p1), (0, p2)] [] h).bind (fun q => EV (d + 1) 56 47 L (psh q.1 st) q.2) := G_cs [(2, p0), (0, p1), (0, p2)] (m56 dX6_readChild_44) ow56 tr_6_135 (by decide) td58 np58 ml58 rfl rfl (Nat.le_of_ble_eq_true rfl) rfl hs
theorem pk_56_1_2 : pok 56 1 2 0 = true := by decide +kernel
theorem e56_47 {d : Nat} {L st : List AV} {h : AM} {r v : Int} (hk : isK h r 1) : EV d 56 47 L ((0, v) :: (2, r) :: st) h = EV d 56 50 L st (mwr h r 2 v) := G_put (m56 dX6_readChild_47) ow56 tf_6_178 pk_56_1_2 rfl hk
theorem e56_50 {d : Nat} {l0 l1 : AV} {st : List AV} {h : AM} {x : Int} : EV d 56 50 [l0, l1, (2, x)] st h = EV d 56 51 [l0, l1, (2, x)] ((2, x) :: st) h := G_aload_n (m56 dX6_readChild_50) rfl
theorem e56_51 {d : Nat} {l0 l2 : AV} {st : List AV} {h : AM} {x : Int} : EV d 56 51 [l0, (2, x), l2] st h = EV d 56 52 [l0, (2, x), l2] ((2, x) :: st) h := G_aload_n (m56 dX6_readChild_51) rfl
theorem e56_52 {d : Nat} {L st : List AV} {h : AM} : EV d 56 52 L st h = EV d 56 54 L ((0, 9) :: st) h := G_bipush (m56 dX6_readChild_52) (by decide)
theorem e56_54 {d : Nat} {L st : List AV} {h : AM} : EV d 56 54 L st h = EV d 56 57 L ((0, 999) :: st) h := G_sipush (m56 dX6_readChild_54) (by decide)
theorem e56_57 {d : Nat} {L st : List AV} {h : AM} {p0 p1 p2 : Int} (hs : st.length ≤ 4) : EV (d + 1) 56 57 L ((0, p2) :: (0, p1) :: (2, p0) :: st) h = (EV d 58 0 [(2, p0), (0, p1), (0, p2)] [] h).bind (fun q => EV (d + 1) 56 60 L (psh q.1 st) q.2) := G_cs [(2, p0), (0, p1), (0, p2)] (m56 dX6_readChild_57) ow56 tr_6_135 (by decide) td58 np58 ml58 rfl rfl (Nat.le_of_ble_eq_true rfl) rfl hs
theorem pk_56_1_3 : pok 56 1 3 0 = true := by decide +kernel
theorem e56_60 {d : Nat} {L st : List AV} {h : AM} {r v : Int} (hk : isK h r 1) : EV d 56 60 L ((0, v) :: (2, r) :: st) h = EV d 56 63 L st (mwr h r 3 v) := G_put (m56 dX6_readChild_60) ow56 tf_6_181 pk_56_1_3 rfl hk
theorem e56_63 {d : Nat} {l1 l2 : AV} {st : List AV} {h : AM} {x : Int} : EV d 56 63 [(2, x), l1, l2] st h = EV d 56 64 [(2, x), l1, l2] ((2, x) :: st) h := G_aload_n (m56 dX6_readChild_63) rfl
theorem e56_64 {d : Nat} {L st : List AV} {h : AM} {a : Int} : EV d 56 64 L ((2, a) :: st) h = EV d 56 65 L ((2, a) :: (2, a) :: st) h := G_dup2r (m56 dX6_readChild_64)
theorem e56_64i {d : Nat} {L st : List AV} {h : AM} {a : Int} : EV d 56 64 L ((0, a) :: st) h = EV d 56 65 L ((0, a) :: (0, a) :: st) h := G_dupi (m56 dX6_readChild_64)
theorem e56_65 {d : Nat} {L st : List AV} {h : AM} {r : Int} (hk : isK h r 6) : EV d 56 65 L ((2, r) :: st) h = EV d 56 68 L ((0, mrd h r 7) :: st) h := G_get (m56 dX6_readChild_65) ow56 tf_6_54 rfl rfl hk
theorem e56_68 {d : Nat} {L st : List AV} {h : AM} : EV d 56 68 L st h = EV d 56 69 L ((0, 1) :: st) h := G_iconst (m56 dX6_readChild_68) (by decide)
theorem e56_69 {d : Nat} {L st : List AV} {h : AM} {a b : Int} : EV d 56 69 L ((0, b) :: (0, a) :: st) h = EV d 56 70 L ((0, w32 (a + b)) :: st) h := E_iadd (m56 dX6_readChild_69)
theorem pk_56_6_7 : pok 56 6 7 0 = true := by decide +kernel
theorem e56_70 {d : Nat} {L st : List AV} {h : AM} {r v : Int} (hk : isK h r 6) : EV d 56 70 L ((0, v) :: (2, r) :: st) h = EV d 56 73 L st (mwr h r 7 v) := G_put (m56 dX6_readChild_70) ow56 tf_6_54 pk_56_6_7 rfl hk
theorem e56_73 {d : Nat} {L : List AV} {h : AM} : EV d 56 73 L [] h = some ((3, 0), h) := E_ret (m56 dX6_readChild_73) rt56
theorem e57_0 {d : Nat} {l1 : AV} {st : List AV} {h : AM} {x : Int} : EV d 57 0 [(2, x), l1] st h = EV d 57 1 [(2, x), l1] ((2, x) :: st) h := G_aload_n (m57 dX6_readSounds_0) rfl
theorem e57_1 {d : Nat} {L st : List AV} {h : AM} {r : Int} (hk : isK h r 6) : EV d 57 1 L ((2, r) :: st) h = EV d 57 4 L ((0, mrd h r 9) :: st) h := G_get (m57 dX6_readSounds_1) ow57 tf_6_66 rfl rfl hk
theorem e57_4 {d : Nat} {L st : List AV} {h : AM} {a : Int} : EV d 57 4 L ((0, a) :: st) h = if a = 0 then EV d 57 13 L st h else EV d 57 7 L st h := (E_if (m57 dX6_readSounds_4) (t := 13) rfl).trans cc_eq
theorem e57_7 {d : Nat} {l0 : AV} {st : List AV} {h : AM} {x : Int} : EV d 57 7 [l0, (2, x)] st h = EV d 57 8 [l0, (2, x)] ((2, x) :: st) h := G_aload_n (m57 dX6_readSounds_7) rfl
theorem e57_8 {d : Nat} {L st : List AV} {h : AM} : EV d 57 8 L st h = EV d 57 9 L ((0, 5) :: st) h := G_iconst (m57 dX6_readSounds_8) (by decide)
theorem e57_9 {d : Nat} {L st : List AV} {h : AM} {r p0 : Int} (hs : st.length ≤ 4) (hk : isK h r 5) : EV (d + 1) 57 9 L ((0, p0) :: (2, r) :: st) h = (EV d 39 0 [(2, r), (0, p0)] [] h).bind (fun q => EV (d + 1) 57 12 L (psh q.1 st) q.2) := G_cv [(0, p0)] (m57 dX6_readSounds_9) ow57 tr_6_103 (by decide) td39 np39 ml39 ow39 rfl rfl (Nat.le_of_ble_eq_true rfl) rfl hs hk
theorem e57_12 {d : Nat} {L : List AV} {h : AM} : EV d 57 12 L [] h = some ((3, 0), h) := E_ret (m57 dX6_readSounds_12) rt57
theorem e57_13 {d : Nat} {l0 : AV} {st : List AV} {h : AM} {x : Int} : EV d 57 13 [l0, (2, x)] st h = EV d 57 14 [l0, (2, x)] ((2, x) :: st) h := G_aload_n (m57 dX6_readSounds_13) rfl
theorem e57_14 {d : Nat} {L st : List AV} {h : AM} {r : Int} (hs : st.length ≤ 4) (hk : isK h r 5) : EV (d + 1) 57 14 L ((2, r) :: st) h = (EV d 35 0 [(2, r)] [] h).bind (fun q => EV (d + 1) 57 17 L (psh q.1 st) q.2) := G_cv [] (m57 dX6_readSounds_14) ow57 tr_6_107 (by decide) td35 np35 ml35 ow35 rfl rfl (Nat.le_of_ble_eq_true rfl) rfl hs hk
theorem e57_17 {d : Nat} {l1 : AV} {st : List AV} {h : AM} {x : Int} : EV d 57 17 [(2, x), l1] st h = EV d 57 18 [(2, x), l1] ((2, x) :: st) h := G_aload_n (m57 dX6_readSounds_17) rfl
theorem e57_18 {d : Nat} {l0 : AV} {st : List AV} {h : AM} {x : Int} : EV d 57 18 [l0, (2, x)] st h = EV d 57 19 [l0, (2, x)] ((2, x) :: st) h := G_aload_n (m57 dX6_readSounds_18) rfl
theorem e57_19 {d : Nat} {L st : List AV} {h : AM} : EV d 57 19 L st h = EV d 57 20 L ((0, 1) :: st) h := G_iconst (m57 dX6_readSounds_19) (by decide)
theorem e57_20 {d : Nat} {L st : List AV} {h : AM} : EV d 57 20 L st h = EV d 57 22 L ((0, 9) :: st) h := G_bipush (m57 dX6_readSounds_20) (by decide)
theorem e57_22 {d : Nat} {L st : List AV} {h : AM} {r p0 p1 : Int} (hs : st.length ≤ 4) (hk : isK h r 5) : EV (d + 1) 57 22 L ((0, p1) :: (0, p0) :: (2, r) :: st) h = (EV d 45 0 [(2, r), (0, p0), (0, p1), (3, 0)] [] h).bind (fun q => EV (d + 1) 57 25 L (psh q.1 st) q.2) := G_cv [(0, p0), (0, p1)] (m57 dX6_readSounds_22) ow57 tr_6_128 (by decide) td45 np45 ml45 ow45 rfl rfl (Nat.le_of_ble_eq_true rfl) rfl hs hk
theorem pk_57_6_8 : pok 57 6 8 0 = true := by decide +kernel
theorem e57_25 {d : Nat} {L st : List AV} {h : AM} {r v : Int} (hk : isK h r 6) : EV d 57 25 L ((0, v) :: (2, r) :: st) h = EV d 57 28 L st (mwr h r 8 v) := G_put (m57 dX6_readSounds_25) ow57 tf_6_41 pk_57_6_8 rfl hk
theorem e57_28 {d : Nat} {l1 : AV} {st : List AV} {h : AM} {x : Int} : EV d 57 28 [(2, x), l1] st h = EV d 57 29 [(2, x), l1] ((2, x) :: st) h := G_aload_n (m57 dX6_readSounds_28) rfl
theorem e57_29 {d : Nat} {L st : List AV} {h : AM} : EV d 57 29 L st h = EV d 57 30 L ((0, 1) :: st) h := G_iconst (m57 dX6_readSounds_29) (by decide)
theorem pz_57_6_9 : pokz 57 6 9 = true := by decide +kernel
theorem e57_30 {d : Nat} {L st : List AV} {h : AM} {r v : Int} (hk : isK h r 6) (hv : v = 0 ∨ v = 1) : EV d 57 30 L ((0, v) :: (2, r) :: st) h = EV d 57 33 L st (mwr h r 9 v) := G_putz (m57 dX6_readSounds_30) ow57 tf_6_66 pz_57_6_9 rfl hk hv
theorem e57_33 {d : Nat} {L : List AV} {h : AM} : EV d 57 33 L [] h = some ((3, 0), h) := E_ret (m57 dX6_readSounds_33) rt57
theorem e58_0 {d : Nat} {l1 l2 : AV} {st : List AV} {h : AM} {x : Int} : EV d 58 0 [(2, x), l1, l2] st h = EV d 58 1 [(2, x), l1, l2] ((2, x) :: st) h := G_aload_n (m58 dX6_readPerhaps_0) rfl
theorem e58_1 {d : Nat} {l0 l2 : AV} {st : List AV} {h : AM} {x : Int} : EV d 58 1 [l0, (0, x), l2] st h = EV d 58 2 [l0, (0, x), l2] ((0, x) :: st) h := G_iload_n (m58 dX6_readPerhaps_1) rfl
theorem e58_2 {d : Nat} {L st : List AV} {h : AM} {r p0 : Int} (hs : st.length ≤ 4) (hk : isK h r 5) : EV (d + 1) 58 2 L ((0, p0) :: (2, r) :: st) h = (EV d 41 0 [(2, r), (0, p0)] [] h).bind (fun q => EV (d + 1) 58 5 L (psh q.1 st) q.2) := G_cv [(0, p0)] (m58 dX6_readPerhaps_2) ow58 tr_6_79 (by decide) td41 np41 ml41 ow41 rfl rfl (Nat.le_of_ble_eq_true rfl) rfl hs hk
theorem e58_5 {d : Nat} {L st : List AV} {h : AM} {a : Int} : EV d 58 5 L ((0, a) :: st) h = if a = 0 then EV d 58 8 L st h else EV d 58 10 L st h := (E_if (m58 dX6_readPerhaps_5) (t := 10) rfl).trans cc_ne
theorem e58_8 {d : Nat} {L st : List AV} {h : AM} : EV d 58 8 L st h = EV d 58 9 L ((0, 0) :: st) h := G_iconst (m58 dX6_readPerhaps_8) (by decide)
theorem e58_9 {d : Nat} {L : List AV} {h : AM} {v : Int} : EV d 58 9 L [(0, v)] h = some ((0, v), h) := E_iret (m58 dX6_readPerhaps_9) (by rw [rt58]; rfl)
theorem e58_10 {d : Nat} {l1 l2 : AV} {st : List AV} {h : AM} {x : Int} : EV d 58 10 [(2, x), l1, l2] st h = EV d 58 11 [(2, x), l1, l2] ((2, x) :: st) h := G_aload_n (m58 dX6_readPerhaps_10) rfl
theorem e58_11 {d : Nat} {L st : List AV} {h : AM} {r : Int} (hs : st.length ≤ 4) (hk : isK h r 5) : EV (d + 1) 58 11 L ((2, r) :: st) h = (EV d 35 0 [(2, r)] [] h).bind (fun q => EV (d + 1) 58 14 L (psh q.1 st) q.2) := G_cv [] (m58 dX6_readPerhaps_11) ow58 tr_6_107 (by decide) td35 np35 ml35 ow35 rfl rfl (Nat.le_of_ble_eq_true rfl) rfl hs hk
theorem e58_14 {d : Nat} {l1 l2 : AV} {st : List AV} {h : AM} {x : Int} : EV d 58 14 [(2, x), l1, l2] st h = EV d 58 15 [(2, x), l1, l2] ((2, x) :: st) h := G_aload_n (m58 dX6_readPerhaps_14) rfl
theorem e58_15 {d : Nat} {L st : List AV} {h : AM} : EV d 58 15 L st h = EV d 58 16 L ((0, 0) :: st) h := G_iconst (m58 dX6_readPerhaps_15) (by decide)
theorem e58_16 {d : Nat} {l0 l1 : AV} {st : List AV} {h : AM} {x : Int} : EV d 58 16 [l0, l1, (0, x)] st h = EV d 58 17 [l0, l1, (0, x)] ((0, x) :: st) h := G_iload_n (m58 dX6_readPerhaps_16) rfl
theorem e58_17 {d : Nat} {L st : List AV} {h : AM} {r p0 p1 : Int} (hs : st.length ≤ 4) (hk : isK h r 5) : EV (d + 1) 58 17 L ((0, p1) :: (0, p0) :: (2, r) :: st) h = (EV d 45 0 [(2, r), (0, p0), (0, p1), (3, 0)] [] h).bind (fun q => EV (d + 1) 58 20 L (psh q.1 st) q.2) := G_cv [(0, p0), (0, p1)] (m58 dX6_readPerhaps_17) ow58 tr_6_128 (by decide) td45 np45 ml45 ow45 rfl rfl (Nat.le_of_ble_eq_true rfl) rfl hs hk
theorem e58_20 {d : Nat} {L : List AV} {h : AM} {v : Int} : EV d 58 20 L [(0, v)] h = some ((0, v), h) := E_iret (m58 dX6_readPerhaps_20) (by rw [rt58]; rfl)
theorem e59_0 {d : Nat} {l0 l2 l3 : AV} {st : List AV} {h : AM} {x : Int} : EV d 59 0 [l0, (2, x), l2, l3] st h = EV d 59 1 [l0, (2, x), l2, l3] ((2, x) :: st) h := G_aload_n (m59 dX6_readNewName_0) rfl
theorem e59_1 {d : Nat} {L st : List AV} {h : AM} {r : Int} (hs : st.length ≤ 4) (hk : isK h r 5) : EV (d + 1) 59 1 L ((2, r) :: st) h = (EV d 48 0 [(2, r)] [] h).bind (fun q => EV (d + 1) 59 4 L (psh q.1 st) q.2) := G_cv [] (m59 dX6_readNewName_1) ow59 tr_6_145 (by decide) td48 np48 ml48 ow48 rfl rfl (Nat.le_of_ble_eq_true rfl) rfl hs hk
theorem e59_4 {d : Nat} {l0 l1 l2 l3 : AV} {st : List AV} {h : AM} {x : Int} : EV d 59 4 [l0, l1, l2, l3] ((1, x) :: st) h = EV d 59 5 [l0, l1, (1, x), (3, 1)] st h := G_lstore_n (m59 dX6_readNewName_4) (Nat.le_of_ble_eq_true rfl) rfl
theorem e59_5 {d : Nat} {l0 l2 l3 : AV} {st : List AV} {h : AM} {x : Int} : EV d 59 5 [l0, (2, x), l2, l3] st h = EV d 59 6 [l0, (2, x), l2, l3] ((2, x) :: st) h := G_aload_n (m59 dX6_readNewName_5) rfl
theorem e59_6 {d : Nat} {L st : List AV} {h : AM} {r : Int} (hk : isK h r 5) : EV d 59 6 L ((2, r) :: st) h = EV d 59 9 L ((0, mrd h r 9) :: st) h := G_get (m59 dX6_readNewName_6) ow59 tf_6_164 rfl rfl hk
theorem e59_9 {d : Nat} {L st : List AV} {h : AM} {a : Int} : EV d 59 9 L ((0, a) :: st) h = if a = 0 then EV d 59 14 L st h else EV d 59 12 L st h := (E_if (m59 dX6_readNewName_9) (t := 14) rfl).trans cc_eq
theorem e59_12 {d : Nat} {l0 l1 : AV} {st : List AV} {h : AM} {x : Int} : EV d 59 12 [l0, l1, (1, x), (3, 1)] st h = EV d 59 13 [l0, l1, (1, x), (3, 1)] ((1, x) :: st) h := G_lload_n (m59 dX6_readNewName_12) rfl rfl
theorem e59_13 {d : Nat} {L : List AV} {h : AM} {v : Int} : EV d 59 13 L [(1, v)] h = some ((1, v), h) := E_lret (m59 dX6_readNewName_13) rt59
theorem e59_14 {d : Nat} {l1 l2 l3 : AV} {st : List AV} {h : AM} {x : Int} : EV d 59 14 [(2, x), l1, l2, l3] st h = EV d 59 15 [(2, x), l1, l2, l3] ((2, x) :: st) h := G_aload_n (m59 dX6_readNewName_14) rfl
theorem e59_15 {d : Nat} {l0 l1 : AV} {st : List AV} {h : AM} {x : Int} : EV d 59 15 [l0, l1, (1, x), (3, 1)] st h = EV d 59 16 [l0, l1, (1, x), (3, 1)] ((1, x) :: st) h := G_lload_n (m59 dX6_readNewName_15) rfl rfl
theorem e59_16 {d : Nat} {L st : List AV} {h : AM} {r p0 : Int} (hs : st.length ≤ 4) (hk : isK h r 6) : EV (d + 1) 59 16 L ((1, p0) :: (2, r) :: st) h = (EV d 60 0 [(2, r), (1, p0), (3, 1), (3, 0)] [] h).bind (fun q => EV (d + 1) 59 19 L (psh q.1 st) q.2) := G_cv [(1, p0)] (m59 dX6_readNewName_16) ow59 tr_6_149 (by decide) td60 np60 ml60 ow60 rfl rfl (Nat.le_of_ble_eq_true rfl) rfl hs hk
theorem e59_19 {d : Nat} {L st : List AV} {h : AM} : EV d 59 19 L st h = EV d 59 20 L ((0, -1) :: st) h := G_iconst (m59 dX6_readNewName_19) (by decide)
theorem e59_20 {d : Nat} {L st : List AV} {h : AM} {a b : Int} : EV d 59 20 L ((0, b) :: (0, a) :: st) h = if a = b then EV d 59 23 L st h else EV d 59 41 L st h := (E_ic (m59 dX6_readNewName_20) (t := 41) rfl).trans cc_ne
theorem e59_23 {d : Nat} {l1 l2 l3 : AV} {st : List AV} {h : AM} {x : Int} : EV d 59 23 [(2, x), l1, l2, l3] st h = EV d 59 24 [(2, x), l1, l2, l3] ((2, x) :: st) h := G_aload_n (m59 dX6_readNewName_23) rfl
theorem e59_24 {d : Nat} {l0 l1 : AV} {st : List AV} {h : AM} {x : Int} : EV d 59 24 [l0, l1, (1, x), (3, 1)] st h = EV d 59 25 [l0, l1, (1, x), (3, 1)] ((1, x) :: st) h := G_lload_n (m59 dX6_readNewName_24) rfl rfl
theorem e59_25 {d : Nat} {L st : List AV} {h : AM} {r p0 : Int} (hs : st.length ≤ 4) (hk : isK h r 6) : EV (d + 1) 59 25 L ((1, p0) :: (2, r) :: st) h = (EV d 61 0 [(2, r), (1, p0), (3, 1), (3, 0)] [] h).bind (fun q => EV (d + 1) 59 28 L (psh q.1 st) q.2) := G_cv [(1, p0)] (m59 dX6_readNewName_25) ow59 tr_6_167 (by decide) td61 np61 ml61 ow61 rfl rfl (Nat.le_of_ble_eq_true rfl) rfl hs hk
theorem e59_28 {d : Nat} {L st : List AV} {h : AM} : EV d 59 28 L st h = EV d 59 29 L ((0, -1) :: st) h := G_iconst (m59 dX6_readNewName_28) (by decide)
theorem e59_29 {d : Nat} {L st : List AV} {h : AM} {a b : Int} : EV d 59 29 L ((0, b) :: (0, a) :: st) h = if a = b then EV d 59 32 L st h else EV d 59 41 L st h := (E_ic (m59 dX6_readNewName_29) (t := 41) rfl).trans cc_ne
theorem e59_32 {d : Nat} {l1 l2 l3 : AV} {st : List AV} {h : AM} {x : Int} : EV d 59 32 [(2, x), l1, l2, l3] st h = EV d 59 33 [(2, x), l1, l2, l3] ((2, x) :: st) h := G_aload_n (m59 dX6_readNewName_32) rfl
theorem e59_33 {d : Nat} {l0 l1 : AV} {st : List AV} {h : AM} {x : Int} : EV d 59 33 [l0, l1, (1, x), (3, 1)] st h = EV d 59 34 [l0, l1, (1, x), (3, 1)] ((1, x) :: st) h := G_lload_n (m59 dX6_readNewName_33) rfl rfl
theorem e59_34 {d : Nat} {L st : List AV} {h : AM} {r p0 : Int} (hs : st.length ≤ 4) (hk : isK h r 6) : EV (d + 1) 59 34 L ((1, p0) :: (2, r) :: st) h = (EV d 62 0 [(2, r), (1, p0), (3, 1), (3, 0)] [] h).bind (fun q => EV (d + 1) 59 37 L (psh q.1 st) q.2) := G_cv [(1, p0)] (m59 dX6_readNewName_34) ow59 tr_6_184 (by decide) td62 np62 ml62 ow62 rfl rfl (Nat.le_of_ble_eq_true rfl) rfl hs hk
theorem e59_37 {d : Nat} {L st : List AV} {h : AM} : EV d 59 37 L st h = EV d 59 38 L ((0, -1) :: st) h := G_iconst (m59 dX6_readNewName_37) (by decide)
theorem e59_38 {d : Nat} {L st : List AV} {h : AM} {a b : Int} : EV d 59 38 L ((0, b) :: (0, a) :: st) h = if a = b then EV d 59 48 L st h else EV d 59 41 L st h := (E_ic (m59 dX6_readNewName_38) (t := 48) rfl).trans cc_eq
theorem e59_41 {d : Nat} {l0 l2 l3 : AV} {st : List AV} {h : AM} {x : Int} : EV d 59 41 [l0, (2, x), l2, l3] st h = EV d 59 42 [l0, (2, x), l2, l3] ((2, x) :: st) h := G_aload_n (m59 dX6_readNewName_41) rfl
theorem e59_42 {d : Nat} {L st : List AV} {h : AM} : EV d 59 42 L st h = EV d 59 43 L ((0, 3) :: st) h := G_iconst (m59 dX6_readNewName_42) (by decide)
theorem e59_43 {d : Nat} {L st : List AV} {h : AM} {r p0 : Int} (hs : st.length ≤ 4) (hk : isK h r 5) : EV (d + 1) 59 43 L ((0, p0) :: (2, r) :: st) h = (EV d 39 0 [(2, r), (0, p0)] [] h).bind (fun q => EV (d + 1) 59 46 L (psh q.1 st) q.2) := G_cv [(0, p0)] (m59 dX6_readNewName_43) ow59 tr_6_103 (by decide) td39 np39 ml39 ow39 rfl rfl (Nat.le_of_ble_eq_true rfl) rfl hs hk
theorem e59_46 {d : Nat} {l0 l1 : AV} {st : List AV} {h : AM} {x : Int} : EV d 59 46 [l0, l1, (1, x), (3, 1)] st h = EV d 59 47 [l0, l1, (1, x), (3, 1)] ((1, x) :: st) h := G_lload_n (m59 dX6_readNewName_46) rfl rfl
theorem e59_47 {d : Nat} {L : List AV} {h : AM} {v : Int} : EV d 59 47 L [(1, v)] h = some ((1, v), h) := E_lret (m59 dX6_readNewName_47) rt59
theorem e59_48 {d : Nat} {l0 l2 l3 : AV} {st : List AV} {h : AM} {x : Int} : EV d 59 48 [l0, (2, x), l2, l3] st h = EV d 59 49 [l0, (2, x), l2, l3] ((2, x) :: st) h := G_aload_n (m59 dX6_readNewName_48) rfl
theorem e59_49 {d : Nat} {L st : List AV} {h : AM} {r : Int} (hs : st.length ≤ 4) (hk : isK h r 5) : EV (d + 1) 59 49 L ((2, r) :: st) h = (EV d 35 0 [(2, r)] [] h).bind (fun q => EV (d + 1) 59 52 L (psh q.1 st) q.2) := G_cv [] (m59 dX6_readNewName_49) ow59 tr_6_107 (by decide) td35 np35 ml35 ow35 rfl rfl (Nat.le_of_ble_eq_true rfl) rfl hs hk
theorem e59_52 {d : Nat} {l0 l1 : AV} {st : List AV} {h : AM} {x : Int} : EV d 59 52 [l0, l1, (1, x), (3, 1)] st h = EV d 59 53 [l0, l1, (1, x), (3, 1)] ((1, x) :: st) h := G_lload_n (m59 dX6_readNewName_52) rfl rfl
theorem e59_53 {d : Nat} {L : List AV} {h : AM} {v : Int} : EV d 59 53 L [(1, v)] h = some ((1, v), h) := E_lret (m59 dX6_readNewName_53) rt59
theorem e60_0 {d : Nat} {L st : List AV} {h : AM} : EV d 60 0 L st h = EV d 60 1 L ((0, 0) :: st) h := G_iconst (m60 dX6_findMaster_0) (by decide)
theorem e60_1 {d : Nat} {l0 l1 l2 l3 : AV} {st : List AV} {h : AM} {x : Int} : EV d 60 1 [l0, l1, l2, l3] ((0, x) :: st) h = EV d 60 2 [l0, l1, l2, (0, x)] st h := G_istore_n (m60 dX6_findMaster_1) (Nat.le_of_ble_eq_true rfl) rfl
theorem e60_2 {d : Nat} {l0 l1 l2 : AV} {st : List AV} {h : AM} {x : Int} : EV d 60 2 [l0, l1, l2, (0, x)] st h = EV d 60 3 [l0, l1, l2, (0, x)] ((0, x) :: st) h := G_iload_n (m60 dX6_findMaster_2) rfl
theorem e60_3 {d : Nat} {l1 l2 l3 : AV} {st : List AV} {h : AM} {x : Int} : EV d 60 3 [(2, x), l1, l2, l3] st h = EV d 60 4 [(2, x), l1, l2, l3] ((2, x) :: st) h := G_aload_n (m60 dX6_findMaster_3) rfl
theorem e60_4 {d : Nat} {L st : List AV} {h : AM} {r : Int} (hk : isK h r 6) : EV d 60 4 L ((2, r) :: st) h = EV d 60 7 L ((0, mrd h r 5) :: st) h := G_get (m60 dX6_findMaster_4) ow60 tf_6_63 rfl rfl hk
theorem e60_7 {d : Nat} {L st : List AV} {h : AM} {a b : Int} : EV d 60 7 L ((0, b) :: (0, a) :: st) h = if a < b then EV d 60 10 L st h else EV d 60 29 L st h := (E_ic (m60 dX6_findMaster_7) (t := 29) rfl).trans cc_ge
theorem e60_10 {d : Nat} {l1 l2 l3 : AV} {st : List AV} {h : AM} {x : Int} : EV d 60 10 [(2, x), l1, l2, l3] st h = EV d 60 11 [(2, x), l1, l2, l3] ((2, x) :: st) h := G_aload_n (m60 dX6_findMaster_10) rfl
theorem e60_11 {d : Nat} {L st : List AV} {h : AM} {r : Int} (hk : isK h r 6) : EV d 60 11 L ((2, r) :: st) h = EV d 60 14 L ((2, mrd h r 0) :: st) h := G_get (m60 dX6_findMaster_11) ow60 tf_6_9 rfl rfl hk
theorem e60_14 {d : Nat} {l0 l1 l2 : AV} {st : List AV} {h : AM} {x : Int} : EV d 60 14 [l0, l1, l2, (0, x)] st h = EV d 60 15 [l0, l1, l2, (0, x)] ((0, x) :: st) h := G_iload_n (m60 dX6_findMaster_14) rfl
theorem e60_15 {d : Nat} {L st : List AV} {h : AM} {r j : Int} (hk : inA h r 19 j) : EV d 60 15 L ((0, j) :: (2, r) :: st) h = EV d 60 16 L ((1, mrd h r j) :: st) h := E_lald (m60 dX6_findMaster_15) hk
theorem e60_16 {d : Nat} {l0 l3 : AV} {st : List AV} {h : AM} {x : Int} : EV d 60 16 [l0, (1, x), (3, 1), l3] st h = EV d 60 17 [l0, (1, x), (3, 1), l3] ((1, x) :: st) h := G_lload_n (m60 dX6_findMaster_16) rfl rfl
theorem e60_17 {d : Nat} {L st : List AV} {h : AM} {a b : Int} : EV d 60 17 L ((1, b) :: (1, a) :: st) h = EV d 60 18 L ((0, cmp3 a b) :: st) h := G_lcmp (m60 dX6_findMaster_17)
theorem e60_18 {d : Nat} {L st : List AV} {h : AM} {a : Int} : EV d 60 18 L ((0, a) :: st) h = if a = 0 then EV d 60 21 L st h else EV d 60 23 L st h := (E_if (m60 dX6_findMaster_18) (t := 23) rfl).trans cc_ne
theorem e60_21 {d : Nat} {l0 l1 l2 : AV} {st : List AV} {h : AM} {x : Int} : EV d 60 21 [l0, l1, l2, (0, x)] st h = EV d 60 22 [l0, l1, l2, (0, x)] ((0, x) :: st) h := G_iload_n (m60 dX6_findMaster_21) rfl
theorem e60_22 {d : Nat} {L : List AV} {h : AM} {v : Int} : EV d 60 22 L [(0, v)] h = some ((0, v), h) := E_iret (m60 dX6_findMaster_22) (by rw [rt60]; rfl)
theorem e60_23 {d : Nat} {l0 l1 l2 : AV} {st : List AV} {h : AM} {x : Int} : EV d 60 23 [l0, l1, l2, (0, x)] st h = EV d 60 26 [l0, l1, l2, (0, w32 (x + 1))] st h := G_iinc (m60 dX6_findMaster_23) rfl rfl
theorem e60_26 {d : Nat} {L st : List AV} {h : AM} : EV d 60 26 L st h = EV d 60 2 L st h := G_goto (m60 dX6_findMaster_26) rfl
theorem e60_29 {d : Nat} {L st : List AV} {h : AM} : EV d 60 29 L st h = EV d 60 30 L ((0, -1) :: st) h := G_iconst (m60 dX6_findMaster_29) (by decide)
theorem e60_30 {d : Nat} {L : List AV} {h : AM} {v : Int} : EV d 60 30 L [(0, v)] h = some ((0, v), h) := E_iret (m60 dX6_findMaster_30) (by rw [rt60]; rfl)
theorem e61_0 {d : Nat} {L st : List AV} {h : AM} : EV d 61 0 L st h = EV d 61 1 L ((0, 0) :: st) h := G_iconst (m61 dX6_findLesson_0) (by decide)
theorem e61_1 {d : Nat} {l0 l1 l2 l3 : AV} {st : List AV} {h : AM} {x : Int} : EV d 61 1 [l0, l1, l2, l3] ((0, x) :: st) h = EV d 61 2 [l0, l1, l2, (0, x)] st h := G_istore_n (m61 dX6_findLesson_1) (Nat.le_of_ble_eq_true rfl) rfl
theorem e61_2 {d : Nat} {l0 l1 l2 : AV} {st : List AV} {h : AM} {x : Int} : EV d 61 2 [l0, l1, l2, (0, x)] st h = EV d 61 3 [l0, l1, l2, (0, x)] ((0, x) :: st) h := G_iload_n (m61 dX6_findLesson_2) rfl
theorem e61_3 {d : Nat} {l1 l2 l3 : AV} {st : List AV} {h : AM} {x : Int} : EV d 61 3 [(2, x), l1, l2, l3] st h = EV d 61 4 [(2, x), l1, l2, l3] ((2, x) :: st) h := G_aload_n (m61 dX6_findLesson_3) rfl
theorem e61_4 {d : Nat} {L st : List AV} {h : AM} {r : Int} (hk : isK h r 6) : EV d 61 4 L ((2, r) :: st) h = EV d 61 7 L ((0, mrd h r 6) :: st) h := G_get (m61 dX6_findLesson_4) ow61 tf_6_47 rfl rfl hk
theorem e61_7 {d : Nat} {L st : List AV} {h : AM} {a b : Int} : EV d 61 7 L ((0, b) :: (0, a) :: st) h = if a < b then EV d 61 10 L st h else EV d 61 32 L st h := (E_ic (m61 dX6_findLesson_7) (t := 32) rfl).trans cc_ge
theorem e61_10 {d : Nat} {l1 l2 l3 : AV} {st : List AV} {h : AM} {x : Int} : EV d 61 10 [(2, x), l1, l2, l3] st h = EV d 61 11 [(2, x), l1, l2, l3] ((2, x) :: st) h := G_aload_n (m61 dX6_findLesson_10) rfl
theorem e61_11 {d : Nat} {L st : List AV} {h : AM} {r : Int} (hk : isK h r 6) : EV d 61 11 L ((2, r) :: st) h = EV d 61 14 L ((2, mrd h r 1) :: st) h := G_get (m61 dX6_findLesson_11) ow61 tf_6_17 rfl rfl hk
theorem e61_14 {d : Nat} {l0 l1 l2 : AV} {st : List AV} {h : AM} {x : Int} : EV d 61 14 [l0, l1, l2, (0, x)] st h = EV d 61 15 [l0, l1, l2, (0, x)] ((0, x) :: st) h := G_iload_n (m61 dX6_findLesson_14) rfl
theorem e61_15 {d : Nat} {L st : List AV} {h : AM} {r j : Int} (hk : inR h r j) : EV d 61 15 L ((0, j) :: (2, r) :: st) h = EV d 61 16 L ((2, mrd h r j) :: st) h := G_aald (m61 dX6_findLesson_15) hk
theorem e61_16 {d : Nat} {L st : List AV} {h : AM} {r : Int} (hk : isK h r 2) : EV d 61 16 L ((2, r) :: st) h = EV d 61 19 L ((1, mrd h r 0) :: st) h := G_get (m61 dX6_findLesson_16) ow61 tf_6_114 rfl rfl hk
theorem e61_19 {d : Nat} {l0 l3 : AV} {st : List AV} {h : AM} {x : Int} : EV d 61 19 [l0, (1, x), (3, 1), l3] st h = EV d 61 20 [l0, (1, x), (3, 1), l3] ((1, x) :: st) h := G_lload_n (m61 dX6_findLesson_19) rfl rfl
theorem e61_20 {d : Nat} {L st : List AV} {h : AM} {a b : Int} : EV d 61 20 L ((1, b) :: (1, a) :: st) h = EV d 61 21 L ((0, cmp3 a b) :: st) h := G_lcmp (m61 dX6_findLesson_20)
theorem e61_21 {d : Nat} {L st : List AV} {h : AM} {a : Int} : EV d 61 21 L ((0, a) :: st) h = if a = 0 then EV d 61 24 L st h else EV d 61 26 L st h := (E_if (m61 dX6_findLesson_21) (t := 26) rfl).trans cc_ne
theorem e61_24 {d : Nat} {l0 l1 l2 : AV} {st : List AV} {h : AM} {x : Int} : EV d 61 24 [l0, l1, l2, (0, x)] st h = EV d 61 25 [l0, l1, l2, (0, x)] ((0, x) :: st) h := G_iload_n (m61 dX6_findLesson_24) rfl
theorem e61_25 {d : Nat} {L : List AV} {h : AM} {v : Int} : EV d 61 25 L [(0, v)] h = some ((0, v), h) := E_iret (m61 dX6_findLesson_25) (by rw [rt61]; rfl)
theorem e61_26 {d : Nat} {l0 l1 l2 : AV} {st : List AV} {h : AM} {x : Int} : EV d 61 26 [l0, l1, l2, (0, x)] st h = EV d 61 29 [l0, l1, l2, (0, w32 (x + 1))] st h := G_iinc (m61 dX6_findLesson_26) rfl rfl
theorem e61_29 {d : Nat} {L st : List AV} {h : AM} : EV d 61 29 L st h = EV d 61 2 L st h := G_goto (m61 dX6_findLesson_29) rfl
theorem e61_32 {d : Nat} {L st : List AV} {h : AM} : EV d 61 32 L st h = EV d 61 33 L ((0, -1) :: st) h := G_iconst (m61 dX6_findLesson_32) (by decide)
theorem e61_33 {d : Nat} {L : List AV} {h : AM} {v : Int} : EV d 61 33 L [(0, v)] h = some ((0, v), h) := E_iret (m61 dX6_findLesson_33) (by rw [rt61]; rfl)
theorem e62_0 {d : Nat} {L st : List AV} {h : AM} : EV d 62 0 L st h = EV d 62 1 L ((0, 0) :: st) h := G_iconst (m62 dX6_findChild_0) (by decide)
theorem e62_1 {d : Nat} {l0 l1 l2 l3 : AV} {st : List AV} {h : AM} {x : Int} : EV d 62 1 [l0, l1, l2, l3] ((0, x) :: st) h = EV d 62 2 [l0, l1, l2, (0, x)] st h := G_istore_n (m62 dX6_findChild_1) (Nat.le_of_ble_eq_true rfl) rfl
theorem e62_2 {d : Nat} {l0 l1 l2 : AV} {st : List AV} {h : AM} {x : Int} : EV d 62 2 [l0, l1, l2, (0, x)] st h = EV d 62 3 [l0, l1, l2, (0, x)] ((0, x) :: st) h := G_iload_n (m62 dX6_findChild_2) rfl
theorem e62_3 {d : Nat} {l1 l2 l3 : AV} {st : List AV} {h : AM} {x : Int} : EV d 62 3 [(2, x), l1, l2, l3] st h = EV d 62 4 [(2, x), l1, l2, l3] ((2, x) :: st) h := G_aload_n (m62 dX6_findChild_3) rfl
theorem e62_4 {d : Nat} {L st : List AV} {h : AM} {r : Int} (hk : isK h r 6) : EV d 62 4 L ((2, r) :: st) h = EV d 62 7 L ((0, mrd h r 7) :: st) h := G_get (m62 dX6_findChild_4) ow62 tf_6_54 rfl rfl hk
theorem e62_7 {d : Nat} {L st : List AV} {h : AM} {a b : Int} : EV d 62 7 L ((0, b) :: (0, a) :: st) h = if a < b then EV d 62 10 L st h else EV d 62 32 L st h := (E_ic (m62 dX6_findChild_7) (t := 32) rfl).trans cc_ge
theorem e62_10 {d : Nat} {l1 l2 l3 : AV} {st : List AV} {h : AM} {x : Int} : EV d 62 10 [(2, x), l1, l2, l3] st h = EV d 62 11 [(2, x), l1, l2, l3] ((2, x) :: st) h := G_aload_n (m62 dX6_findChild_10) rfl
theorem e62_11 {d : Nat} {L st : List AV} {h : AM} {r : Int} (hk : isK h r 6) : EV d 62 11 L ((2, r) :: st) h = EV d 62 14 L ((2, mrd h r 2) :: st) h := G_get (m62 dX6_findChild_11) ow62 tf_6_23 rfl rfl hk
theorem e62_14 {d : Nat} {l0 l1 l2 : AV} {st : List AV} {h : AM} {x : Int} : EV d 62 14 [l0, l1, l2, (0, x)] st h = EV d 62 15 [l0, l1, l2, (0, x)] ((0, x) :: st) h := G_iload_n (m62 dX6_findChild_14) rfl
theorem e62_15 {d : Nat} {L st : List AV} {h : AM} {r j : Int} (hk : inR h r j) : EV d 62 15 L ((0, j) :: (2, r) :: st) h = EV d 62 16 L ((2, mrd h r j) :: st) h := G_aald (m62 dX6_findChild_15) hk
theorem e62_16 {d : Nat} {L st : List AV} {h : AM} {r : Int} (hk : isK h r 1) : EV d 62 16 L ((2, r) :: st) h = EV d 62 19 L ((1, mrd h r 1) :: st) h := G_get (m62 dX6_findChild_16) ow62 tf_6_187 rfl rfl hk
theorem e62_19 {d : Nat} {l0 l3 : AV} {st : List AV} {h : AM} {x : Int} : EV d 62 19 [l0, (1, x), (3, 1), l3] st h = EV d 62 20 [l0, (1, x), (3, 1), l3] ((1, x) :: st) h := G_lload_n (m62 dX6_findChild_19) rfl rfl
theorem e62_20 {d : Nat} {L st : List AV} {h : AM} {a b : Int} : EV d 62 20 L ((1, b) :: (1, a) :: st) h = EV d 62 21 L ((0, cmp3 a b) :: st) h := G_lcmp (m62 dX6_findChild_20)
theorem e62_21 {d : Nat} {L st : List AV} {h : AM} {a : Int} : EV d 62 21 L ((0, a) :: st) h = if a = 0 then EV d 62 24 L st h else EV d 62 26 L st h := (E_if (m62 dX6_findChild_21) (t := 26) rfl).trans cc_ne
theorem e62_24 {d : Nat} {l0 l1 l2 : AV} {st : List AV} {h : AM} {x : Int} : EV d 62 24 [l0, l1, l2, (0, x)] st h = EV d 62 25 [l0, l1, l2, (0, x)] ((0, x) :: st) h := G_iload_n (m62 dX6_findChild_24) rfl
theorem e62_25 {d : Nat} {L : List AV} {h : AM} {v : Int} : EV d 62 25 L [(0, v)] h = some ((0, v), h) := E_iret (m62 dX6_findChild_25) (by rw [rt62]; rfl)
theorem e62_26 {d : Nat} {l0 l1 l2 : AV} {st : List AV} {h : AM} {x : Int} : EV d 62 26 [l0, l1, l2, (0, x)] st h = EV d 62 29 [l0, l1, l2, (0, w32 (x + 1))] st h := G_iinc (m62 dX6_findChild_26) rfl rfl
theorem e62_29 {d : Nat} {L st : List AV} {h : AM} : EV d 62 29 L st h = EV d 62 2 L st h := G_goto (m62 dX6_findChild_29) rfl
theorem e62_32 {d : Nat} {L st : List AV} {h : AM} : EV d 62 32 L st h = EV d 62 33 L ((0, -1) :: st) h := G_iconst (m62 dX6_findChild_32) (by decide)
theorem e62_33 {d : Nat} {L : List AV} {h : AM} {v : Int} : EV d 62 33 L [(0, v)] h = some ((0, v), h) := E_iret (m62 dX6_findChild_33) (by rw [rt62]; rfl)
theorem e63_0 {d : Nat} {l0 : AV} {st : List AV} {h : AM} {x : Int} : EV d 63 0 [l0, (0, x)] st h = EV d 63 1 [l0, (0, x)] ((0, x) :: st) h := G_iload_n (m63 dX6_hasMaster_0) rfl
theorem e63_1 {d : Nat} {L st : List AV} {h : AM} {a : Int} : EV d 63 1 L ((0, a) :: st) h = if a < 0 then EV d 63 16 L st h else EV d 63 4 L st h := (E_if (m63 dX6_hasMaster_1) (t := 16) rfl).trans cc_lt
theorem e63_4 {d : Nat} {l0 : AV} {st : List AV} {h : AM} {x : Int} : EV d 63 4 [l0, (0, x)] st h = EV d 63 5 [l0, (0, x)] ((0, x) :: st) h := G_iload_n (m63 dX6_hasMaster_4) rfl
theorem e63_5 {d : Nat} {l1 : AV} {st : List AV} {h : AM} {x : Int} : EV d 63 5 [(2, x), l1] st h = EV d 63 6 [(2, x), l1] ((2, x) :: st) h := G_aload_n (m63 dX6_hasMaster_5) rfl
theorem e63_6 {d : Nat} {L st : List AV} {h : AM} {r : Int} (hk : isK h r 6) : EV d 63 6 L ((2, r) :: st) h = EV d 63 9 L ((0, mrd h r 5) :: st) h := G_get (m63 dX6_hasMaster_6) ow63 tf_6_63 rfl rfl hk
theorem e63_9 {d : Nat} {L st : List AV} {h : AM} {a b : Int} : EV d 63 9 L ((0, b) :: (0, a) :: st) h = if a < b then EV d 63 12 L st h else EV d 63 16 L st h := (E_ic (m63 dX6_hasMaster_9) (t := 16) rfl).trans cc_ge
theorem e63_12 {d : Nat} {L st : List AV} {h : AM} : EV d 63 12 L st h = EV d 63 13 L ((0, 1) :: st) h := G_iconst (m63 dX6_hasMaster_12) (by decide)
theorem e63_13 {d : Nat} {L st : List AV} {h : AM} : EV d 63 13 L st h = EV d 63 17 L st h := G_goto (m63 dX6_hasMaster_13) rfl
theorem e63_16 {d : Nat} {L st : List AV} {h : AM} : EV d 63 16 L st h = EV d 63 17 L ((0, 0) :: st) h := G_iconst (m63 dX6_hasMaster_16) (by decide)
theorem e63_17 {d : Nat} {L : List AV} {h : AM} {v : Int} (hv : v = 0 ∨ v = 1) : EV d 63 17 L [(0, v)] h = some ((0, v), h) := E_iret (m63 dX6_hasMaster_17) (by rw [rt63]; rcases hv with rfl | rfl <;> rfl)
theorem e64_0 {d : Nat} {l0 : AV} {st : List AV} {h : AM} {x : Int} : EV d 64 0 [l0, (1, x), (3, 1)] st h = EV d 64 1 [l0, (1, x), (3, 1)] ((1, x) :: st) h := G_lload_n (m64 dX6_hasLesson_0) rfl rfl
theorem e64_1 {d : Nat} {L st : List AV} {h : AM} : EV d 64 1 L st h = EV d 64 2 L ((1, 0) :: st) h := G_lconst0 (m64 dX6_hasLesson_1)
theorem e64_2 {d : Nat} {L st : List AV} {h : AM} {a b : Int} : EV d 64 2 L ((1, b) :: (1, a) :: st) h = EV d 64 3 L ((0, cmp3 a b) :: st) h := G_lcmp (m64 dX6_hasLesson_2)
theorem e64_3 {d : Nat} {L st : List AV} {h : AM} {a : Int} : EV d 64 3 L ((0, a) :: st) h = if a < 0 then EV d 64 20 L st h else EV d 64 6 L st h := (E_if (m64 dX6_hasLesson_3) (t := 20) rfl).trans cc_lt
theorem e64_6 {d : Nat} {l0 : AV} {st : List AV} {h : AM} {x : Int} : EV d 64 6 [l0, (1, x), (3, 1)] st h = EV d 64 7 [l0, (1, x), (3, 1)] ((1, x) :: st) h := G_lload_n (m64 dX6_hasLesson_6) rfl rfl
theorem e64_7 {d : Nat} {l1 l2 : AV} {st : List AV} {h : AM} {x : Int} : EV d 64 7 [(2, x), l1, l2] st h = EV d 64 8 [(2, x), l1, l2] ((2, x) :: st) h := G_aload_n (m64 dX6_hasLesson_7) rfl
theorem e64_8 {d : Nat} {L st : List AV} {h : AM} {r : Int} (hk : isK h r 6) : EV d 64 8 L ((2, r) :: st) h = EV d 64 11 L ((0, mrd h r 6) :: st) h := G_get (m64 dX6_hasLesson_8) ow64 tf_6_47 rfl rfl hk
theorem e64_11 {d : Nat} {L st : List AV} {h : AM} {a : Int} : EV d 64 11 L ((0, a) :: st) h = EV d 64 12 L ((1, a) :: st) h := G_i2l (m64 dX6_hasLesson_11)
theorem e64_12 {d : Nat} {L st : List AV} {h : AM} {a b : Int} : EV d 64 12 L ((1, b) :: (1, a) :: st) h = EV d 64 13 L ((0, cmp3 a b) :: st) h := G_lcmp (m64 dX6_hasLesson_12)
theorem e64_13 {d : Nat} {L st : List AV} {h : AM} {a : Int} : EV d 64 13 L ((0, a) :: st) h = if a < 0 then EV d 64 16 L st h else EV d 64 20 L st h := (E_if (m64 dX6_hasLesson_13) (t := 20) rfl).trans cc_ge
theorem e64_16 {d : Nat} {L st : List AV} {h : AM} : EV d 64 16 L st h = EV d 64 17 L ((0, 1) :: st) h := G_iconst (m64 dX6_hasLesson_16) (by decide)
theorem e64_17 {d : Nat} {L st : List AV} {h : AM} : EV d 64 17 L st h = EV d 64 21 L st h := G_goto (m64 dX6_hasLesson_17) rfl
theorem e64_20 {d : Nat} {L st : List AV} {h : AM} : EV d 64 20 L st h = EV d 64 21 L ((0, 0) :: st) h := G_iconst (m64 dX6_hasLesson_20) (by decide)
theorem e64_21 {d : Nat} {L : List AV} {h : AM} {v : Int} (hv : v = 0 ∨ v = 1) : EV d 64 21 L [(0, v)] h = some ((0, v), h) := E_iret (m64 dX6_hasLesson_21) (by rw [rt64]; rcases hv with rfl | rfl <;> rfl)
theorem e65_0 {d : Nat} {l0 : AV} {st : List AV} {h : AM} {x : Int} : EV d 65 0 [l0, (0, x)] st h = EV d 65 1 [l0, (0, x)] ((0, x) :: st) h := G_iload_n (m65 dX6_hasChild_0) rfl
theorem e65_1 {d : Nat} {L st : List AV} {h : AM} {a : Int} : EV d 65 1 L ((0, a) :: st) h = if a < 0 then EV d 65 16 L st h else EV d 65 4 L st h := (E_if (m65 dX6_hasChild_1) (t := 16) rfl).trans cc_lt
theorem e65_4 {d : Nat} {l0 : AV} {st : List AV} {h : AM} {x : Int} : EV d 65 4 [l0, (0, x)] st h = EV d 65 5 [l0, (0, x)] ((0, x) :: st) h := G_iload_n (m65 dX6_hasChild_4) rfl
theorem e65_5 {d : Nat} {l1 : AV} {st : List AV} {h : AM} {x : Int} : EV d 65 5 [(2, x), l1] st h = EV d 65 6 [(2, x), l1] ((2, x) :: st) h := G_aload_n (m65 dX6_hasChild_5) rfl
theorem e65_6 {d : Nat} {L st : List AV} {h : AM} {r : Int} (hk : isK h r 6) : EV d 65 6 L ((2, r) :: st) h = EV d 65 9 L ((0, mrd h r 7) :: st) h := G_get (m65 dX6_hasChild_6) ow65 tf_6_54 rfl rfl hk
theorem e65_9 {d : Nat} {L st : List AV} {h : AM} {a b : Int} : EV d 65 9 L ((0, b) :: (0, a) :: st) h = if a < b then EV d 65 12 L st h else EV d 65 16 L st h := (E_ic (m65 dX6_hasChild_9) (t := 16) rfl).trans cc_ge
theorem e65_12 {d : Nat} {L st : List AV} {h : AM} : EV d 65 12 L st h = EV d 65 13 L ((0, 1) :: st) h := G_iconst (m65 dX6_hasChild_12) (by decide)
theorem e65_13 {d : Nat} {L st : List AV} {h : AM} : EV d 65 13 L st h = EV d 65 17 L st h := G_goto (m65 dX6_hasChild_13) rfl
theorem e65_16 {d : Nat} {L st : List AV} {h : AM} : EV d 65 16 L st h = EV d 65 17 L ((0, 0) :: st) h := G_iconst (m65 dX6_hasChild_16) (by decide)
theorem e65_17 {d : Nat} {L : List AV} {h : AM} {v : Int} (hv : v = 0 ∨ v = 1) : EV d 65 17 L [(0, v)] h = some ((0, v), h) := E_iret (m65 dX6_hasChild_17) (by rw [rt65]; rcases hv with rfl | rfl <;> rfl)
theorem e66_0 {d : Nat} {L st : List AV} {h : AM} : EV d 66 0 L st h = EV d 66 1 L ((0, 0) :: st) h := G_iconst (m66 dX6_hasAllLessons_0) (by decide)
theorem e66_1 {d : Nat} {l0 l1 l2 l3 : AV} {st : List AV} {h : AM} {x : Int} : EV d 66 1 [l0, l1, l2, l3] ((0, x) :: st) h = EV d 66 2 [l0, l1, l2, (0, x)] st h := G_istore_n (m66 dX6_hasAllLessons_1) (Nat.le_of_ble_eq_true rfl) rfl
theorem e66_2 {d : Nat} {l0 l1 l2 : AV} {st : List AV} {h : AM} {x : Int} : EV d 66 2 [l0, l1, l2, (0, x)] st h = EV d 66 3 [l0, l1, l2, (0, x)] ((0, x) :: st) h := G_iload_n (m66 dX6_hasAllLessons_2) rfl
theorem e66_3 {d : Nat} {l0 l1 l3 : AV} {st : List AV} {h : AM} {x : Int} : EV d 66 3 [l0, l1, (0, x), l3] st h = EV d 66 4 [l0, l1, (0, x), l3] ((0, x) :: st) h := G_iload_n (m66 dX6_hasAllLessons_3) rfl
theorem e66_4 {d : Nat} {L st : List AV} {h : AM} {a b : Int} : EV d 66 4 L ((0, b) :: (0, a) :: st) h = if a < b then EV d 66 7 L st h else EV d 66 28 L st h := (E_ic (m66 dX6_hasAllLessons_4) (t := 28) rfl).trans cc_ge
theorem e66_7 {d : Nat} {l1 l2 l3 : AV} {st : List AV} {h : AM} {x : Int} : EV d 66 7 [(2, x), l1, l2, l3] st h = EV d 66 8 [(2, x), l1, l2, l3] ((2, x) :: st) h := G_aload_n (m66 dX6_hasAllLessons_7) rfl
theorem e66_8 {d : Nat} {l0 l2 l3 : AV} {st : List AV} {h : AM} {x : Int} : EV d 66 8 [l0, (2, x), l2, l3] st h = EV d 66 9 [l0, (2, x), l2, l3] ((2, x) :: st) h := G_aload_n (m66 dX6_hasAllLessons_8) rfl
theorem e66_9 {d : Nat} {L st : List AV} {h : AM} {r : Int} (hk : isK h r 8) : EV d 66 9 L ((2, r) :: st) h = EV d 66 12 L ((2, mrd h r 0) :: st) h := G_get (m66 dX6_hasAllLessons_9) ow66 tf_6_188 rfl rfl hk
theorem e66_12 {d : Nat} {l0 l1 l2 : AV} {st : List AV} {h : AM} {x : Int} : EV d 66 12 [l0, l1, l2, (0, x)] st h = EV d 66 13 [l0, l1, l2, (0, x)] ((0, x) :: st) h := G_iload_n (m66 dX6_hasAllLessons_12) rfl
theorem e66_13 {d : Nat} {L st : List AV} {h : AM} {r j : Int} (hk : inA h r 19 j) : EV d 66 13 L ((0, j) :: (2, r) :: st) h = EV d 66 14 L ((1, mrd h r j) :: st) h := E_lald (m66 dX6_hasAllLessons_13) hk
theorem e66_14 {d : Nat} {L st : List AV} {h : AM} {r p0 : Int} (hs : st.length ≤ 4) (hk : isK h r 6) : EV (d + 1) 66 14 L ((1, p0) :: (2, r) :: st) h = (EV d 64 0 [(2, r), (1, p0), (3, 1)] [] h).bind (fun q => EV (d + 1) 66 17 L (psh q.1 st) q.2) := G_cv [(1, p0)] (m66 dX6_hasAllLessons_14) ow66 tr_6_193 (by decide) td64 np64 ml64 ow64 rfl rfl (Nat.le_of_ble_eq_true rfl) rfl hs hk
theorem e66_17 {d : Nat} {L st : List AV} {h : AM} {a : Int} : EV d 66 17 L ((0, a) :: st) h = if a = 0 then EV d 66 20 L st h else EV d 66 22 L st h := (E_if (m66 dX6_hasAllLessons_17) (t := 22) rfl).trans cc_ne
theorem e66_20 {d : Nat} {L st : List AV} {h : AM} : EV d 66 20 L st h = EV d 66 21 L ((0, 0) :: st) h := G_iconst (m66 dX6_hasAllLessons_20) (by decide)
theorem e66_21 {d : Nat} {L : List AV} {h : AM} {v : Int} (hv : v = 0 ∨ v = 1) : EV d 66 21 L [(0, v)] h = some ((0, v), h) := E_iret (m66 dX6_hasAllLessons_21) (by rw [rt66]; rcases hv with rfl | rfl <;> rfl)
theorem e66_22 {d : Nat} {l0 l1 l2 : AV} {st : List AV} {h : AM} {x : Int} : EV d 66 22 [l0, l1, l2, (0, x)] st h = EV d 66 25 [l0, l1, l2, (0, w32 (x + 1))] st h := G_iinc (m66 dX6_hasAllLessons_22) rfl rfl
theorem e66_25 {d : Nat} {L st : List AV} {h : AM} : EV d 66 25 L st h = EV d 66 2 L st h := G_goto (m66 dX6_hasAllLessons_25) rfl
theorem e66_28 {d : Nat} {L st : List AV} {h : AM} : EV d 66 28 L st h = EV d 66 29 L ((0, 1) :: st) h := G_iconst (m66 dX6_hasAllLessons_28) (by decide)
theorem e66_29 {d : Nat} {L : List AV} {h : AM} {v : Int} (hv : v = 0 ∨ v = 1) : EV d 66 29 L [(0, v)] h = some ((0, v), h) := E_iret (m66 dX6_hasAllLessons_29) (by rw [rt66]; rcases hv with rfl | rfl <;> rfl)
theorem e67_0 {d : Nat} {l1 l2 : AV} {st : List AV} {h : AM} {x : Int} : EV d 67 0 [(2, x), l1, l2] st h = EV d 67 1 [(2, x), l1, l2] ((2, x) :: st) h := G_aload_n (m67 dX6_letterAt_0) rfl
theorem e67_1 {d : Nat} {L st : List AV} {h : AM} {r : Int} (hk : isK h r 6) : EV d 67 1 L ((2, r) :: st) h = EV d 67 4 L ((2, mrd h r 1) :: st) h := G_get (m67 dX6_letterAt_1) ow67 tf_6_17 rfl rfl hk
theorem e67_4 {d : Nat} {l0 l2 : AV} {st : List AV} {h : AM} {x : Int} : EV d 67 4 [l0, (2, x), l2] st h = EV d 67 5 [l0, (2, x), l2] ((2, x) :: st) h := G_aload_n (m67 dX6_letterAt_4) rfl
theorem e67_5 {d : Nat} {L st : List AV} {h : AM} {r : Int} (hk : isK h r 1) : EV d 67 5 L ((2, r) :: st) h = EV d 67 8 L ((2, mrd h r 0) :: st) h := G_get (m67 dX6_letterAt_5) ow67 tf_6_197 rfl rfl hk
theorem e67_8 {d : Nat} {l0 l1 : AV} {st : List AV} {h : AM} {x : Int} : EV d 67 8 [l0, l1, (0, x)] st h = EV d 67 9 [l0, l1, (0, x)] ((0, x) :: st) h := G_iload_n (m67 dX6_letterAt_8) rfl
theorem e67_9 {d : Nat} {L st : List AV} {h : AM} {r j : Int} (hk : inA h r 16 j) : EV d 67 9 L ((0, j) :: (2, r) :: st) h = EV d 67 10 L ((0, mrd h r j) :: st) h := E_iald (m67 dX6_letterAt_9) hk
theorem e67_10 {d : Nat} {L st : List AV} {h : AM} {r j : Int} (hk : inR h r j) : EV d 67 10 L ((0, j) :: (2, r) :: st) h = EV d 67 11 L ((2, mrd h r j) :: st) h := G_aald (m67 dX6_letterAt_10) hk
theorem e67_11 {d : Nat} {L st : List AV} {h : AM} {r : Int} (hk : isK h r 2) : EV d 67 11 L ((2, r) :: st) h = EV d 67 14 L ((0, mrd h r 1) :: st) h := G_get (m67 dX6_letterAt_11) ow67 tf_6_201 rfl rfl hk
theorem e67_14 {d : Nat} {L : List AV} {h : AM} {v : Int} : EV d 67 14 L [(0, v)] h = some ((0, v), h) := E_iret (m67 dX6_letterAt_14) (by rw [rt67]; rfl)
theorem e68_0 {d : Nat} {l0 l2 : AV} {st : List AV} {h : AM} {x : Int} : EV d 68 0 [l0, (0, x), l2] st h = EV d 68 1 [l0, (0, x), l2] ((0, x) :: st) h := G_iload_n (m68 dX6_lets_0) rfl
theorem e68_1 {d : Nat} {L st : List AV} {h : AM} : EV d 68 1 L st h = EV d 68 2 L ((0, 1) :: st) h := G_iconst (m68 dX6_lets_1) (by decide)
theorem e68_2 {d : Nat} {l0 l1 : AV} {st : List AV} {h : AM} {x : Int} : EV d 68 2 [l0, l1, (0, x)] st h = EV d 68 3 [l0, l1, (0, x)] ((0, x) :: st) h := G_iload_n (m68 dX6_lets_2) rfl
theorem e68_3 {d : Nat} {L st : List AV} {h : AM} {a b : Int} : EV d 68 3 L ((0, b) :: (0, a) :: st) h = EV d 68 4 L ((0, i_shl a b) :: st) h := E_ishl (m68 dX6_lets_3)
theorem e68_4 {d : Nat} {L st : List AV} {h : AM} {a b : Int} : EV d 68 4 L ((0, b) :: (0, a) :: st) h = EV d 68 5 L ((0, i_and a b) :: st) h := E_iand (m68 dX6_lets_4)
theorem e68_5 {d : Nat} {L st : List AV} {h : AM} {a : Int} : EV d 68 5 L ((0, a) :: st) h = if a = 0 then EV d 68 8 L st h else EV d 68 28 L st h := (E_if (m68 dX6_lets_5) (t := 28) rfl).trans cc_ne
theorem e68_8 {d : Nat} {l1 l2 : AV} {st : List AV} {h : AM} {x : Int} : EV d 68 8 [(2, x), l1, l2] st h = EV d 68 9 [(2, x), l1, l2] ((2, x) :: st) h := G_aload_n (m68 dX6_lets_8) rfl
theorem e68_9 {d : Nat} {L st : List AV} {h : AM} {r : Int} (hk : isK h r 6) : EV d 68 9 L ((2, r) :: st) h = EV d 68 12 L ((2, mrd h r 1) :: st) h := G_get (m68 dX6_lets_9) ow68 tf_6_17 rfl rfl hk
theorem e68_12 {d : Nat} {l0 l1 : AV} {st : List AV} {h : AM} {x : Int} : EV d 68 12 [l0, l1, (0, x)] st h = EV d 68 13 [l0, l1, (0, x)] ((0, x) :: st) h := G_iload_n (m68 dX6_lets_12) rfl
theorem e68_13 {d : Nat} {L st : List AV} {h : AM} {r j : Int} (hk : inR h r j) : EV d 68 13 L ((0, j) :: (2, r) :: st) h = EV d 68 14 L ((2, mrd h r j) :: st) h := G_aald (m68 dX6_lets_13) hk
theorem e68_14 {d : Nat} {L st : List AV} {h : AM} {r : Int} (hk : isK h r 2) : EV d 68 14 L ((2, r) :: st) h = EV d 68 17 L ((0, mrd h r 6) :: st) h := G_get (m68 dX6_lets_14) ow68 tf_6_161 rfl rfl hk
theorem e68_17 {d : Nat} {l0 l2 : AV} {st : List AV} {h : AM} {x : Int} : EV d 68 17 [l0, (0, x), l2] st h = EV d 68 18 [l0, (0, x), l2] ((0, x) :: st) h := G_iload_n (m68 dX6_lets_17) rfl
theorem e68_18 {d : Nat} {L st : List AV} {h : AM} : EV d 68 18 L st h = EV d 68 19 L ((0, -1) :: st) h := G_iconst (m68 dX6_lets_18) (by decide)
theorem e68_19 {d : Nat} {L st : List AV} {h : AM} {a b : Int} : EV d 68 19 L ((0, b) :: (0, a) :: st) h = EV d 68 20 L ((0, i_xor a b) :: st) h := E_ixor (m68 dX6_lets_19)
theorem e68_20 {d : Nat} {L st : List AV} {h : AM} {a b : Int} : EV d 68 20 L ((0, b) :: (0, a) :: st) h = EV d 68 21 L ((0, i_and a b) :: st) h := E_iand (m68 dX6_lets_20)
theorem e68_21 {d : Nat} {L st : List AV} {h : AM} {a : Int} : EV d 68 21 L ((0, a) :: st) h = if a = 0 then EV d 68 24 L st h else EV d 68 28 L st h := (E_if (m68 dX6_lets_21) (t := 28) rfl).trans cc_ne
theorem e68_24 {d : Nat} {L st : List AV} {h : AM} : EV d 68 24 L st h = EV d 68 25 L ((0, 1) :: st) h := G_iconst (m68 dX6_lets_24) (by decide)
theorem e68_25 {d : Nat} {L st : List AV} {h : AM} : EV d 68 25 L st h = EV d 68 29 L st h := G_goto (m68 dX6_lets_25) rfl
theorem e68_28 {d : Nat} {L st : List AV} {h : AM} : EV d 68 28 L st h = EV d 68 29 L ((0, 0) :: st) h := G_iconst (m68 dX6_lets_28) (by decide)
theorem e68_29 {d : Nat} {L : List AV} {h : AM} {v : Int} (hv : v = 0 ∨ v = 1) : EV d 68 29 L [(0, v)] h = some ((0, v), h) := E_iret (m68 dX6_lets_29) (by rw [rt68]; rcases hv with rfl | rfl <;> rfl)
theorem e69_0 {d : Nat} {l0 l2 : AV} {st : List AV} {h : AM} {x : Int} : EV d 69 0 [l0, (2, x), l2] st h = EV d 69 1 [l0, (2, x), l2] ((2, x) :: st) h := G_aload_n (m69 dX6_canPay_0) rfl
theorem e69_1 {d : Nat} {L st : List AV} {h : AM} {r : Int} (hk : isK h r 1) : EV d 69 1 L ((2, r) :: st) h = EV d 69 4 L ((0, mrd h r 3) :: st) h := G_get (m69 dX6_canPay_1) ow69 tf_6_181 rfl rfl hk
theorem e69_4 {d : Nat} {l1 l2 : AV} {st : List AV} {h : AM} {x : Int} : EV d 69 4 [(2, x), l1, l2] st h = EV d 69 5 [(2, x), l1, l2] ((2, x) :: st) h := G_aload_n (m69 dX6_canPay_4) rfl
theorem e69_5 {d : Nat} {L st : List AV} {h : AM} {r : Int} (hk : isK h r 6) : EV d 69 5 L ((2, r) :: st) h = EV d 69 8 L ((2, mrd h r 1) :: st) h := G_get (m69 dX6_canPay_5) ow69 tf_6_17 rfl rfl hk
theorem e69_8 {d : Nat} {l0 l1 : AV} {st : List AV} {h : AM} {x : Int} : EV d 69 8 [l0, l1, (0, x)] st h = EV d 69 9 [l0, l1, (0, x)] ((0, x) :: st) h := G_iload_n (m69 dX6_canPay_8) rfl
theorem e69_9 {d : Nat} {L st : List AV} {h : AM} {r j : Int} (hk : inR h r j) : EV d 69 9 L ((0, j) :: (2, r) :: st) h = EV d 69 10 L ((2, mrd h r j) :: st) h := G_aald (m69 dX6_canPay_9) hk
theorem e69_10 {d : Nat} {L st : List AV} {h : AM} {r : Int} (hk : isK h r 2) : EV d 69 10 L ((2, r) :: st) h = EV d 69 13 L ((0, mrd h r 4) :: st) h := G_get (m69 dX6_canPay_10) ow69 tf_6_139 rfl rfl hk
theorem e69_13 {d : Nat} {L st : List AV} {h : AM} {a b : Int} : EV d 69 13 L ((0, b) :: (0, a) :: st) h = if a < b then EV d 69 20 L st h else EV d 69 16 L st h := (E_ic (m69 dX6_canPay_13) (t := 20) rfl).trans cc_lt
theorem e69_16 {d : Nat} {L st : List AV} {h : AM} : EV d 69 16 L st h = EV d 69 17 L ((0, 1) :: st) h := G_iconst (m69 dX6_canPay_16) (by decide)
theorem e69_17 {d : Nat} {L st : List AV} {h : AM} : EV d 69 17 L st h = EV d 69 21 L st h := G_goto (m69 dX6_canPay_17) rfl
theorem e69_20 {d : Nat} {L st : List AV} {h : AM} : EV d 69 20 L st h = EV d 69 21 L ((0, 0) :: st) h := G_iconst (m69 dX6_canPay_20) (by decide)
theorem e69_21 {d : Nat} {L : List AV} {h : AM} {v : Int} (hv : v = 0 ∨ v = 1) : EV d 69 21 L [(0, v)] h = some ((0, v), h) := E_iret (m69 dX6_canPay_21) (by rw [rt69]; rcases hv with rfl | rfl <;> rfl)
theorem e70_0 {d : Nat} {l1 l2 l3 : AV} {st : List AV} {h : AM} {x : Int} : EV d 70 0 [(2, x), l1, l2, l3] st h = EV d 70 1 [(2, x), l1, l2, l3] ((2, x) :: st) h := G_aload_n (m70 dX6_daysFor_0) rfl
theorem e70_1 {d : Nat} {L st : List AV} {h : AM} {r : Int} (hk : isK h r 6) : EV d 70 1 L ((2, r) :: st) h = EV d 70 4 L ((2, mrd h r 1) :: st) h := G_get (m70 dX6_daysFor_1) ow70 tf_6_17 rfl rfl hk
theorem e70_4 {d : Nat} {l0 l1 l3 : AV} {st : List AV} {h : AM} {x : Int} : EV d 70 4 [l0, l1, (0, x), l3] st h = EV d 70 5 [l0, l1, (0, x), l3] ((0, x) :: st) h := G_iload_n (m70 dX6_daysFor_4) rfl
theorem e70_5 {d : Nat} {L st : List AV} {h : AM} {r j : Int} (hk : inR h r j) : EV d 70 5 L ((0, j) :: (2, r) :: st) h = EV d 70 6 L ((2, mrd h r j) :: st) h := G_aald (m70 dX6_daysFor_5) hk
theorem e70_6 {d : Nat} {L st : List AV} {h : AM} {r : Int} (hk : isK h r 2) : EV d 70 6 L ((2, r) :: st) h = EV d 70 9 L ((0, mrd h r 3) :: st) h := G_get (m70 dX6_daysFor_6) ow70 tf_6_132 rfl rfl hk
theorem e70_9 {d : Nat} {l0 l2 l3 : AV} {st : List AV} {h : AM} {x : Int} : EV d 70 9 [l0, (2, x), l2, l3] st h = EV d 70 10 [l0, (2, x), l2, l3] ((2, x) :: st) h := G_aload_n (m70 dX6_daysFor_9) rfl
theorem e70_10 {d : Nat} {L st : List AV} {h : AM} {r : Int} (hk : isK h r 1) : EV d 70 10 L ((2, r) :: st) h = EV d 70 13 L ((0, mrd h r 2) :: st) h := G_get (m70 dX6_daysFor_10) ow70 tf_6_178 rfl rfl hk
theorem e70_13 {d : Nat} {L st : List AV} {h : AM} {a b : Int} : EV d 70 13 L ((0, b) :: (0, a) :: st) h = EV d 70 14 L ((0, w32 (a - b)) :: st) h := E_isub (m70 dX6_daysFor_13)
theorem e70_14 {d : Nat} {l0 l1 l2 l3 : AV} {st : List AV} {h : AM} {x : Int} : EV d 70 14 [l0, l1, l2, l3] ((0, x) :: st) h = EV d 70 15 [l0, l1, l2, (0, x)] st h := G_istore_n (m70 dX6_daysFor_14) (Nat.le_of_ble_eq_true rfl) rfl
theorem e70_15 {d : Nat} {l0 l1 l2 : AV} {st : List AV} {h : AM} {x : Int} : EV d 70 15 [l0, l1, l2, (0, x)] st h = EV d 70 16 [l0, l1, l2, (0, x)] ((0, x) :: st) h := G_iload_n (m70 dX6_daysFor_15) rfl
theorem e70_16 {d : Nat} {L st : List AV} {h : AM} : EV d 70 16 L st h = EV d 70 17 L ((0, 1) :: st) h := G_iconst (m70 dX6_daysFor_16) (by decide)
theorem e70_17 {d : Nat} {L st : List AV} {h : AM} {a b : Int} : EV d 70 17 L ((0, b) :: (0, a) :: st) h = if a < b then EV d 70 20 L st h else EV d 70 24 L st h := (E_ic (m70 dX6_daysFor_17) (t := 24) rfl).trans cc_ge
theorem e70_20 {d : Nat} {L st : List AV} {h : AM} : EV d 70 20 L st h = EV d 70 21 L ((0, 1) :: st) h := G_iconst (m70 dX6_daysFor_20) (by decide)
theorem e70_21 {d : Nat} {L st : List AV} {h : AM} : EV d 70 21 L st h = EV d 70 25 L st h := G_goto (m70 dX6_daysFor_21) rfl
theorem e70_24 {d : Nat} {l0 l1 l2 : AV} {st : List AV} {h : AM} {x : Int} : EV d 70 24 [l0, l1, l2, (0, x)] st h = EV d 70 25 [l0, l1, l2, (0, x)] ((0, x) :: st) h := G_iload_n (m70 dX6_daysFor_24) rfl
theorem e70_25 {d : Nat} {L : List AV} {h : AM} {v : Int} : EV d 70 25 L [(0, v)] h = some ((0, v), h) := E_iret (m70 dX6_daysFor_25) (by rw [rt70]; rfl)
theorem e71_0 {d : Nat} {L st : List AV} {h : AM} : EV d 71 0 L st h = EV d 71 1 L ((0, 0) :: st) h := G_iconst (m71 dX6_readySet_0) (by decide)
theorem e71_1 {d : Nat} {l0 l1 l2 l3 l4 : AV} {st : List AV} {h : AM} {x : Int} : EV d 71 1 [l0, l1, l2, l3, l4] ((0, x) :: st) h = EV d 71 2 [l0, l1, l2, (0, x), l4] st h := G_istore_n (m71 dX6_readySet_1) (Nat.le_of_ble_eq_true rfl) rfl
theorem e71_2 {d : Nat} {L st : List AV} {h : AM} : EV d 71 2 L st h = EV d 71 3 L ((0, 0) :: st) h := G_iconst (m71 dX6_readySet_2) (by decide)
theorem e71_3 {d : Nat} {l0 l1 l2 l3 l4 : AV} {st : List AV} {h : AM} {x : Int} : EV d 71 3 [l0, l1, l2, l3, l4] ((0, x) :: st) h = EV d 71 5 [l0, l1, l2, l3, (0, x)] st h := G_istore (m71 dX6_readySet_3) (Nat.le_of_ble_eq_true rfl) rfl
theorem e71_5 {d : Nat} {l0 l1 l2 l3 : AV} {st : List AV} {h : AM} {x : Int} : EV d 71 5 [l0, l1, l2, l3, (0, x)] st h = EV d 71 7 [l0, l1, l2, l3, (0, x)] ((0, x) :: st) h := G_iload (m71 dX6_readySet_5) rfl
theorem e71_7 {d : Nat} {l1 l2 l3 l4 : AV} {st : List AV} {h : AM} {x : Int} : EV d 71 7 [(2, x), l1, l2, l3, l4] st h = EV d 71 8 [(2, x), l1, l2, l3, l4] ((2, x) :: st) h := G_aload_n (m71 dX6_readySet_7) rfl
theorem e71_8 {d : Nat} {L st : List AV} {h : AM} {r : Int} (hk : isK h r 6) : EV d 71 8 L ((2, r) :: st) h = EV d 71 11 L ((0, mrd h r 6) :: st) h := G_get (m71 dX6_readySet_8) ow71 tf_6_47 rfl rfl hk
theorem e71_11 {d : Nat} {L st : List AV} {h : AM} {a b : Int} : EV d 71 11 L ((0, b) :: (0, a) :: st) h = if a < b then EV d 71 14 L st h else EV d 71 54 L st h := (E_ic (m71 dX6_readySet_11) (t := 54) rfl).trans cc_ge
theorem e71_14 {d : Nat} {l1 l2 l3 l4 : AV} {st : List AV} {h : AM} {x : Int} : EV d 71 14 [(2, x), l1, l2, l3, l4] st h = EV d 71 15 [(2, x), l1, l2, l3, l4] ((2, x) :: st) h := G_aload_n (m71 dX6_readySet_14) rfl
theorem e71_15 {d : Nat} {l0 l2 l3 l4 : AV} {st : List AV} {h : AM} {x : Int} : EV d 71 15 [l0, (2, x), l2, l3, l4] st h = EV d 71 16 [l0, (2, x), l2, l3, l4] ((2, x) :: st) h := G_aload_n (m71 dX6_readySet_15) rfl
theorem e71_16 {d : Nat} {L st : List AV} {h : AM} {r : Int} (hk : isK h r 1) : EV d 71 16 L ((2, r) :: st) h = EV d 71 19 L ((0, mrd h r 5) :: st) h := G_get (m71 dX6_readySet_16) ow71 tf_6_204 rfl rfl hk
theorem e71_19 {d : Nat} {l0 l1 l2 l3 : AV} {st : List AV} {h : AM} {x : Int} : EV d 71 19 [l0, l1, l2, l3, (0, x)] st h = EV d 71 21 [l0, l1, l2, l3, (0, x)] ((0, x) :: st) h := G_iload (m71 dX6_readySet_19) rfl
theorem e71_21 {d : Nat} {L st : List AV} {h : AM} {r p0 p1 : Int} (hs : st.length ≤ 4) (hk : isK h r 6) : EV (d + 1) 71 21 L ((0, p1) :: (0, p0) :: (2, r) :: st) h = (EV d 68 0 [(2, r), (0, p0), (0, p1)] [] h).bind (fun q => EV (d + 1) 71 24 L (psh q.1 st) q.2) := G_cv [(0, p0), (0, p1)] (m71 dX6_readySet_21) ow71 tr_6_207 (by decide) td68 np68 ml68 ow68 rfl rfl (Nat.le_of_ble_eq_true rfl) rfl hs hk
theorem e71_24 {d : Nat} {L st : List AV} {h : AM} {a : Int} : EV d 71 24 L ((0, a) :: st) h = if a = 0 then EV d 71 48 L st h else EV d 71 27 L st h := (E_if (m71 dX6_readySet_24) (t := 48) rfl).trans cc_eq
theorem e71_27 {d : Nat} {l0 l1 l3 l4 : AV} {st : List AV} {h : AM} {x : Int} : EV d 71 27 [l0, l1, (0, x), l3, l4] st h = EV d 71 28 [l0, l1, (0, x), l3, l4] ((0, x) :: st) h := G_iload_n (m71 dX6_readySet_27) rfl
theorem e71_28 {d : Nat} {L st : List AV} {h : AM} {a : Int} : EV d 71 28 L ((0, a) :: st) h = if a = 0 then EV d 71 41 L st h else EV d 71 31 L st h := (E_if (m71 dX6_readySet_28) (t := 41) rfl).trans cc_eq
theorem e71_31 {d : Nat} {l1 l2 l3 l4 : AV} {st : List AV} {h : AM} {x : Int} : EV d 71 31 [(2, x), l1, l2, l3, l4] st h = EV d 71 32 [(2, x), l1, l2, l3, l4] ((2, x) :: st) h := G_aload_n (m71 dX6_readySet_31) rfl
theorem e71_32 {d : Nat} {l0 l2 l3 l4 : AV} {st : List AV} {h : AM} {x : Int} : EV d 71 32 [l0, (2, x), l2, l3, l4] st h = EV d 71 33 [l0, (2, x), l2, l3, l4] ((2, x) :: st) h := G_aload_n (m71 dX6_readySet_32) rfl
theorem e71_33 {d : Nat} {l0 l1 l2 l3 : AV} {st : List AV} {h : AM} {x : Int} : EV d 71 33 [l0, l1, l2, l3, (0, x)] st h = EV d 71 35 [l0, l1, l2, l3, (0, x)] ((0, x) :: st) h := G_iload (m71 dX6_readySet_33) rfl
theorem e71_35 {d : Nat} {L st : List AV} {h : AM} {r p0 p1 : Int} (hs : st.length ≤ 4) (hk : isK h r 6) : EV (d + 1) 71 35 L ((0, p1) :: (2, p0) :: (2, r) :: st) h = (EV d 69 0 [(2, r), (2, p0), (0, p1)] [] h).bind (fun q => EV (d + 1) 71 38 L (psh q.1 st) q.2) := G_cv [(2, p0), (0, p1)] (m71 dX6_readySet_35) ow71 tr_6_211 (by decide) td69 np69 ml69 ow69 rfl rfl (Nat.le_of_ble_eq_true rfl) rfl hs hk
theorem e71_38 {d : Nat} {L st : List AV} {h : AM} {a : Int} : EV d 71 38 L ((0, a) :: st) h = if a = 0 then EV d 71 48 L st h else EV d 71 41 L st h := (E_if (m71 dX6_readySet_38) (t := 48) rfl).trans cc_eq
theorem e71_41 {d : Nat} {l0 l1 l2 l4 : AV} {st : List AV} {h : AM} {x : Int} : EV d 71 41 [l0, l1, l2, (0, x), l4] st h = EV d 71 42 [l0, l1, l2, (0, x), l4] ((0, x) :: st) h := G_iload_n (m71 dX6_readySet_41) rfl
theorem e71_42 {d : Nat} {L st : List AV} {h : AM} : EV d 71 42 L st h = EV d 71 43 L ((0, 1) :: st) h := G_iconst (m71 dX6_readySet_42) (by decide)
theorem e71_43 {d : Nat} {l0 l1 l2 l3 : AV} {st : List AV} {h : AM} {x : Int} : EV d 71 43 [l0, l1, l2, l3, (0, x)] st h = EV d 71 45 [l0, l1, l2, l3, (0, x)] ((0, x) :: st) h := G_iload (m71 dX6_readySet_43) rfl
theorem e71_45 {d : Nat} {L st : List AV} {h : AM} {a b : Int} : EV d 71 45 L ((0, b) :: (0, a) :: st) h = EV d 71 46 L ((0, i_shl a b) :: st) h := E_ishl (m71 dX6_readySet_45)
theorem e71_46 {d : Nat} {L st : List AV} {h : AM} {a b : Int} : EV d 71 46 L ((0, b) :: (0, a) :: st) h = EV d 71 47 L ((0, i_or a b) :: st) h := E_ior (m71 dX6_readySet_46)
theorem e71_47 {d : Nat} {l0 l1 l2 l3 l4 : AV} {st : List AV} {h : AM} {x : Int} : EV d 71 47 [l0, l1, l2, l3, l4] ((0, x) :: st) h = EV d 71 48 [l0, l1, l2, (0, x), l4] st h := G_istore_n (m71 dX6_readySet_47) (Nat.le_of_ble_eq_true rfl) rfl
theorem e71_48 {d : Nat} {l0 l1 l2 l3 : AV} {st : List AV} {h : AM} {x : Int} : EV d 71 48 [l0, l1, l2, l3, (0, x)] st h = EV d 71 51 [l0, l1, l2, l3, (0, w32 (x + 1))] st h := G_iinc (m71 dX6_readySet_48) rfl rfl
theorem e71_51 {d : Nat} {L st : List AV} {h : AM} : EV d 71 51 L st h = EV d 71 5 L st h := G_goto (m71 dX6_readySet_51) rfl
theorem e71_54 {d : Nat} {l0 l1 l2 l4 : AV} {st : List AV} {h : AM} {x : Int} : EV d 71 54 [l0, l1, l2, (0, x), l4] st h = EV d 71 55 [l0, l1, l2, (0, x), l4] ((0, x) :: st) h := G_iload_n (m71 dX6_readySet_54) rfl
theorem e71_55 {d : Nat} {L : List AV} {h : AM} {v : Int} : EV d 71 55 L [(0, v)] h = some ((0, v), h) := E_iret (m71 dX6_readySet_55) (by rw [rt71]; rfl)
theorem e72_0 {d : Nat} {l0 l2 : AV} {st : List AV} {h : AM} {x : Int} : EV d 72 0 [l0, (2, x), l2] st h = EV d 72 1 [l0, (2, x), l2] ((2, x) :: st) h := G_aload_n (m72 dX6_teach_0) rfl
theorem e72_1 {d : Nat} {L st : List AV} {h : AM} {r : Int} (hk : isK h r 1) : EV d 72 1 L ((2, r) :: st) h = EV d 72 4 L ((0, mrd h r 6) :: st) h := G_get (m72 dX6_teach_1) ow72 tf_6_215 rfl rfl hk
theorem e72_4 {d : Nat} {L st : List AV} {h : AM} : EV d 72 4 L st h = EV d 72 6 L ((0, 12) :: st) h := G_bipush (m72 dX6_teach_4) (by decide)
theorem e72_6 {d : Nat} {L st : List AV} {h : AM} {a b : Int} : EV d 72 6 L ((0, b) :: (0, a) :: st) h = if a < b then EV d 72 10 L st h else EV d 72 9 L st h := (E_ic (m72 dX6_teach_6) (t := 10) rfl).trans cc_lt
theorem e72_9 {d : Nat} {L : List AV} {h : AM} : EV d 72 9 L [] h = some ((3, 0), h) := E_ret (m72 dX6_teach_9) rt72
theorem e72_10 {d : Nat} {l0 l2 : AV} {st : List AV} {h : AM} {x : Int} : EV d 72 10 [l0, (2, x), l2] st h = EV d 72 11 [l0, (2, x), l2] ((2, x) :: st) h := G_aload_n (m72 dX6_teach_10) rfl
theorem e72_11 {d : Nat} {L st : List AV} {h : AM} {r : Int} (hk : isK h r 1) : EV d 72 11 L ((2, r) :: st) h = EV d 72 14 L ((2, mrd h r 0) :: st) h := G_get (m72 dX6_teach_11) ow72 tf_6_197 rfl rfl hk
theorem e72_14 {d : Nat} {l0 l2 : AV} {st : List AV} {h : AM} {x : Int} : EV d 72 14 [l0, (2, x), l2] st h = EV d 72 15 [l0, (2, x), l2] ((2, x) :: st) h := G_aload_n (m72 dX6_teach_14) rfl
theorem e72_15 {d : Nat} {L st : List AV} {h : AM} {r : Int} (hk : isK h r 1) : EV d 72 15 L ((2, r) :: st) h = EV d 72 18 L ((0, mrd h r 6) :: st) h := G_get (m72 dX6_teach_15) ow72 tf_6_215 rfl rfl hk
theorem e72_18 {d : Nat} {l0 l1 : AV} {st : List AV} {h : AM} {x : Int} : EV d 72 18 [l0, l1, (0, x)] st h = EV d 72 19 [l0, l1, (0, x)] ((0, x) :: st) h := G_iload_n (m72 dX6_teach_18) rfl
theorem e72_19 {d : Nat} {L st : List AV} {h : AM} {r j v : Int} (hk : inA h r 16 j) : EV d 72 19 L ((0, v) :: (0, j) :: (2, r) :: st) h = EV d 72 20 L st (mwr h r j v) := E_iast (m72 dX6_teach_19) hk
theorem e72_20 {d : Nat} {l0 l2 : AV} {st : List AV} {h : AM} {x : Int} : EV d 72 20 [l0, (2, x), l2] st h = EV d 72 21 [l0, (2, x), l2] ((2, x) :: st) h := G_aload_n (m72 dX6_teach_20) rfl
theorem e72_21 {d : Nat} {L st : List AV} {h : AM} {a : Int} : EV d 72 21 L ((2, a) :: st) h = EV d 72 22 L ((2, a) :: (2, a) :: st) h := G_dup2r (m72 dX6_teach_21)
theorem e72_21i {d : Nat} {L st : List AV} {h : AM} {a : Int} : EV d 72 21 L ((0, a) :: st) h = EV d 72 22 L ((0, a) :: (0, a) :: st) h := G_dupi (m72 dX6_teach_21)
theorem e72_22 {d : Nat} {L st : List AV} {h : AM} {r : Int} (hk : isK h r 1) : EV d 72 22 L ((2, r) :: st) h = EV d 72 25 L ((0, mrd h r 6) :: st) h := G_get (m72 dX6_teach_22) ow72 tf_6_215 rfl rfl hk
theorem e72_25 {d : Nat} {L st : List AV} {h : AM} : EV d 72 25 L st h = EV d 72 26 L ((0, 1) :: st) h := G_iconst (m72 dX6_teach_25) (by decide)
theorem e72_26 {d : Nat} {L st : List AV} {h : AM} {a b : Int} : EV d 72 26 L ((0, b) :: (0, a) :: st) h = EV d 72 27 L ((0, w32 (a + b)) :: st) h := E_iadd (m72 dX6_teach_26)
theorem pk_72_1_6 : pok 72 1 6 0 = true := by decide +kernel
theorem e72_27 {d : Nat} {L st : List AV} {h : AM} {r v : Int} (hk : isK h r 1) : EV d 72 27 L ((0, v) :: (2, r) :: st) h = EV d 72 30 L st (mwr h r 6 v) := G_put (m72 dX6_teach_27) ow72 tf_6_215 pk_72_1_6 rfl hk
theorem e72_30 {d : Nat} {l0 l2 : AV} {st : List AV} {h : AM} {x : Int} : EV d 72 30 [l0, (2, x), l2] st h = EV d 72 31 [l0, (2, x), l2] ((2, x) :: st) h := G_aload_n (m72 dX6_teach_30) rfl
theorem e72_31 {d : Nat} {L st : List AV} {h : AM} {a : Int} : EV d 72 31 L ((2, a) :: st) h = EV d 72 32 L ((2, a) :: (2, a) :: st) h := G_dup2r (m72 dX6_teach_31)
theorem e72_31i {d : Nat} {L st : List AV} {h : AM} {a : Int} : EV d 72 31 L ((0, a) :: st) h = EV d 72 32 L ((0, a) :: (0, a) :: st) h := G_dupi (m72 dX6_teach_31)
theorem e72_32 {d : Nat} {L st : List AV} {h : AM} {r : Int} (hk : isK h r 1) : EV d 72 32 L ((2, r) :: st) h = EV d 72 35 L ((0, mrd h r 5) :: st) h := G_get (m72 dX6_teach_32) ow72 tf_6_204 rfl rfl hk
theorem e72_35 {d : Nat} {L st : List AV} {h : AM} : EV d 72 35 L st h = EV d 72 36 L ((0, 1) :: st) h := G_iconst (m72 dX6_teach_35) (by decide)
theorem e72_36 {d : Nat} {l0 l1 : AV} {st : List AV} {h : AM} {x : Int} : EV d 72 36 [l0, l1, (0, x)] st h = EV d 72 37 [l0, l1, (0, x)] ((0, x) :: st) h := G_iload_n (m72 dX6_teach_36) rfl
theorem e72_37 {d : Nat} {L st : List AV} {h : AM} {a b : Int} : EV d 72 37 L ((0, b) :: (0, a) :: st) h = EV d 72 38 L ((0, i_shl a b) :: st) h := E_ishl (m72 dX6_teach_37)
theorem e72_38 {d : Nat} {L st : List AV} {h : AM} {a b : Int} : EV d 72 38 L ((0, b) :: (0, a) :: st) h = EV d 72 39 L ((0, i_or a b) :: st) h := E_ior (m72 dX6_teach_38)
theorem pk_72_1_5 : pok 72 1 5 0 = true := by decide +kernel
theorem e72_39 {d : Nat} {L st : List AV} {h : AM} {r v : Int} (hk : isK h r 1) : EV d 72 39 L ((0, v) :: (2, r) :: st) h = EV d 72 42 L st (mwr h r 5 v) := G_put (m72 dX6_teach_39) ow72 tf_6_204 pk_72_1_5 rfl hk
theorem e72_42 {d : Nat} {l0 l2 : AV} {st : List AV} {h : AM} {x : Int} : EV d 72 42 [l0, (2, x), l2] st h = EV d 72 43 [l0, (2, x), l2] ((2, x) :: st) h := G_aload_n (m72 dX6_teach_42) rfl
theorem e72_43 {d : Nat} {L st : List AV} {h : AM} {a : Int} : EV d 72 43 L ((2, a) :: st) h = EV d 72 44 L ((2, a) :: (2, a) :: st) h := G_dup2r (m72 dX6_teach_43)
theorem e72_43i {d : Nat} {L st : List AV} {h : AM} {a : Int} : EV d 72 43 L ((0, a) :: st) h = EV d 72 44 L ((0, a) :: (0, a) :: st) h := G_dupi (m72 dX6_teach_43)
theorem e72_44 {d : Nat} {L st : List AV} {h : AM} {r : Int} (hk : isK h r 1) : EV d 72 44 L ((2, r) :: st) h = EV d 72 47 L ((0, mrd h r 4) :: st) h := G_get (m72 dX6_teach_44) ow72 tf_6_218 rfl rfl hk
theorem e72_47 {d : Nat} {l1 l2 : AV} {st : List AV} {h : AM} {x : Int} : EV d 72 47 [(2, x), l1, l2] st h = EV d 72 48 [(2, x), l1, l2] ((2, x) :: st) h := G_aload_n (m72 dX6_teach_47) rfl
theorem e72_48 {d : Nat} {l0 l2 : AV} {st : List AV} {h : AM} {x : Int} : EV d 72 48 [l0, (2, x), l2] st h = EV d 72 49 [l0, (2, x), l2] ((2, x) :: st) h := G_aload_n (m72 dX6_teach_48) rfl
theorem e72_49 {d : Nat} {l0 l1 : AV} {st : List AV} {h : AM} {x : Int} : EV d 72 49 [l0, l1, (0, x)] st h = EV d 72 50 [l0, l1, (0, x)] ((0, x) :: st) h := G_iload_n (m72 dX6_teach_49) rfl
theorem e72_50 {d : Nat} {L st : List AV} {h : AM} {r p0 p1 : Int} (hs : st.length ≤ 4) (hk : isK h r 6) : EV (d + 1) 72 50 L ((0, p1) :: (2, p0) :: (2, r) :: st) h = (EV d 70 0 [(2, r), (2, p0), (0, p1), (3, 0)] [] h).bind (fun q => EV (d + 1) 72 53 L (psh q.1 st) q.2) := G_cv [(2, p0), (0, p1)] (m72 dX6_teach_50) ow72 tr_6_221 (by decide) td70 np70 ml70 ow70 rfl rfl (Nat.le_of_ble_eq_true rfl) rfl hs hk
theorem e72_53 {d : Nat} {L st : List AV} {h : AM} {a b : Int} : EV d 72 53 L ((0, b) :: (0, a) :: st) h = EV d 72 54 L ((0, w32 (a + b)) :: st) h := E_iadd (m72 dX6_teach_53)
theorem pk_72_1_4 : pok 72 1 4 0 = true := by decide +kernel
theorem e72_54 {d : Nat} {L st : List AV} {h : AM} {r v : Int} (hk : isK h r 1) : EV d 72 54 L ((0, v) :: (2, r) :: st) h = EV d 72 57 L st (mwr h r 4 v) := G_put (m72 dX6_teach_54) ow72 tf_6_218 pk_72_1_4 rfl hk
theorem e72_57 {d : Nat} {l0 l2 : AV} {st : List AV} {h : AM} {x : Int} : EV d 72 57 [l0, (2, x), l2] st h = EV d 72 58 [l0, (2, x), l2] ((2, x) :: st) h := G_aload_n (m72 dX6_teach_57) rfl
theorem e72_58 {d : Nat} {L st : List AV} {h : AM} {a : Int} : EV d 72 58 L ((2, a) :: st) h = EV d 72 59 L ((2, a) :: (2, a) :: st) h := G_dup2r (m72 dX6_teach_58)
theorem e72_58i {d : Nat} {L st : List AV} {h : AM} {a : Int} : EV d 72 58 L ((0, a) :: st) h = EV d 72 59 L ((0, a) :: (0, a) :: st) h := G_dupi (m72 dX6_teach_58)
theorem e72_59 {d : Nat} {L st : List AV} {h : AM} {r : Int} (hk : isK h r 1) : EV d 72 59 L ((2, r) :: st) h = EV d 72 62 L ((0, mrd h r 3) :: st) h := G_get (m72 dX6_teach_59) ow72 tf_6_181 rfl rfl hk
theorem e72_62 {d : Nat} {l1 l2 : AV} {st : List AV} {h : AM} {x : Int} : EV d 72 62 [(2, x), l1, l2] st h = EV d 72 63 [(2, x), l1, l2] ((2, x) :: st) h := G_aload_n (m72 dX6_teach_62) rfl
theorem e72_63 {d : Nat} {L st : List AV} {h : AM} {r : Int} (hk : isK h r 6) : EV d 72 63 L ((2, r) :: st) h = EV d 72 66 L ((2, mrd h r 1) :: st) h := G_get (m72 dX6_teach_63) ow72 tf_6_17 rfl rfl hk
theorem e72_66 {d : Nat} {l0 l1 : AV} {st : List AV} {h : AM} {x : Int} : EV d 72 66 [l0, l1, (0, x)] st h = EV d 72 67 [l0, l1, (0, x)] ((0, x) :: st) h := G_iload_n (m72 dX6_teach_66) rfl
theorem e72_67 {d : Nat} {L st : List AV} {h : AM} {r j : Int} (hk : inR h r j) : EV d 72 67 L ((0, j) :: (2, r) :: st) h = EV d 72 68 L ((2, mrd h r j) :: st) h := G_aald (m72 dX6_teach_67) hk
theorem e72_68 {d : Nat} {L st : List AV} {h : AM} {r : Int} (hk : isK h r 2) : EV d 72 68 L ((2, r) :: st) h = EV d 72 71 L ((0, mrd h r 4) :: st) h := G_get (m72 dX6_teach_68) ow72 tf_6_139 rfl rfl hk
theorem e72_71 {d : Nat} {L st : List AV} {h : AM} {a b : Int} : EV d 72 71 L ((0, b) :: (0, a) :: st) h = EV d 72 72 L ((0, w32 (a - b)) :: st) h := E_isub (m72 dX6_teach_71)
theorem pk_72_1_3 : pok 72 1 3 0 = true := by decide +kernel
theorem e72_72 {d : Nat} {L st : List AV} {h : AM} {r v : Int} (hk : isK h r 1) : EV d 72 72 L ((0, v) :: (2, r) :: st) h = EV d 72 75 L st (mwr h r 3 v) := G_put (m72 dX6_teach_72) ow72 tf_6_181 pk_72_1_3 rfl hk
theorem e72_75 {d : Nat} {L : List AV} {h : AM} : EV d 72 75 L [] h = some ((3, 0), h) := E_ret (m72 dX6_teach_75) rt72
theorem e73_0 {d : Nat} {L st : List AV} {h : AM} : EV d 73 0 L st h = EV d 73 1 L ((0, -1) :: st) h := G_iconst (m73 dX6_choose_0) (by decide)
theorem e73_1 {d : Nat} {l0 l1 l2 l3 l4 l5 l6 : AV} {st : List AV} {h : AM} {x : Int} : EV d 73 1 [l0, l1, l2, l3, l4, l5, l6] ((0, x) :: st) h = EV d 73 2 [l0, l1, (0, x), l3, l4, l5, l6] st h := G_istore_n (m73 dX6_choose_1) (Nat.le_of_ble_eq_true rfl) rfl
theorem e73_2 {d : Nat} {L st : List AV} {h : AM} : EV d 73 2 L st h = EV d 73 3 L ((0, 0) :: st) h := G_iconst (m73 dX6_choose_2) (by decide)
theorem e73_3 {d : Nat} {l0 l1 l2 l3 l4 l5 l6 : AV} {st : List AV} {h : AM} {x : Int} : EV d 73 3 [l0, l1, l2, l3, l4, l5, l6] ((0, x) :: st) h = EV d 73 4 [l0, l1, l2, (0, x), l4, l5, l6] st h := G_istore_n (m73 dX6_choose_3) (Nat.le_of_ble_eq_true rfl) rfl
theorem e73_4 {d : Nat} {L st : List AV} {h : AM} : EV d 73 4 L st h = EV d 73 5 L ((0, 0) :: st) h := G_iconst (m73 dX6_choose_4) (by decide)
theorem e73_5 {d : Nat} {l0 l1 l2 l3 l4 l5 l6 : AV} {st : List AV} {h : AM} {x : Int} : EV d 73 5 [l0, l1, l2, l3, l4, l5, l6] ((0, x) :: st) h = EV d 73 7 [l0, l1, l2, l3, (0, x), l5, l6] st h := G_istore (m73 dX6_choose_5) (Nat.le_of_ble_eq_true rfl) rfl
theorem e73_7 {d : Nat} {l0 l1 l2 l3 l5 l6 : AV} {st : List AV} {h : AM} {x : Int} : EV d 73 7 [l0, l1, l2, l3, (0, x), l5, l6] st h = EV d 73 9 [l0, l1, l2, l3, (0, x), l5, l6] ((0, x) :: st) h := G_iload (m73 dX6_choose_7) rfl
theorem e73_9 {d : Nat} {l1 l2 l3 l4 l5 l6 : AV} {st : List AV} {h : AM} {x : Int} : EV d 73 9 [(2, x), l1, l2, l3, l4, l5, l6] st h = EV d 73 10 [(2, x), l1, l2, l3, l4, l5, l6] ((2, x) :: st) h := G_aload_n (m73 dX6_choose_9) rfl
theorem e73_10 {d : Nat} {L st : List AV} {h : AM} {r : Int} (hk : isK h r 6) : EV d 73 10 L ((2, r) :: st) h = EV d 73 13 L ((0, mrd h r 6) :: st) h := G_get (m73 dX6_choose_10) ow73 tf_6_47 rfl rfl hk
theorem e73_13 {d : Nat} {L st : List AV} {h : AM} {a b : Int} : EV d 73 13 L ((0, b) :: (0, a) :: st) h = if a < b then EV d 73 16 L st h else EV d 73 151 L st h := (E_ic (m73 dX6_choose_13) (t := 151) rfl).trans cc_ge
theorem e73_16 {d : Nat} {l1 l2 l3 l4 l5 l6 : AV} {st : List AV} {h : AM} {x : Int} : EV d 73 16 [(2, x), l1, l2, l3, l4, l5, l6] st h = EV d 73 17 [(2, x), l1, l2, l3, l4, l5, l6] ((2, x) :: st) h := G_aload_n (m73 dX6_choose_16) rfl
theorem e73_17 {d : Nat} {l0 l2 l3 l4 l5 l6 : AV} {st : List AV} {h : AM} {x : Int} : EV d 73 17 [l0, (2, x), l2, l3, l4, l5, l6] st h = EV d 73 18 [l0, (2, x), l2, l3, l4, l5, l6] ((2, x) :: st) h := G_aload_n (m73 dX6_choose_17) rfl
theorem e73_18 {d : Nat} {L st : List AV} {h : AM} {r : Int} (hk : isK h r 1) : EV d 73 18 L ((2, r) :: st) h = EV d 73 21 L ((0, mrd h r 5) :: st) h := G_get (m73 dX6_choose_18) ow73 tf_6_204 rfl rfl hk
theorem e73_21 {d : Nat} {l0 l1 l2 l3 l5 l6 : AV} {st : List AV} {h : AM} {x : Int} : EV d 73 21 [l0, l1, l2, l3, (0, x), l5, l6] st h = EV d 73 23 [l0, l1, l2, l3, (0, x), l5, l6] ((0, x) :: st) h := G_iload (m73 dX6_choose_21) rfl
theorem e73_23 {d : Nat} {L st : List AV} {h : AM} {r p0 p1 : Int} (hs : st.length ≤ 4) (hk : isK h r 6) : EV (d + 1) 73 23 L ((0, p1) :: (0, p0) :: (2, r) :: st) h = (EV d 68 0 [(2, r), (0, p0), (0, p1)] [] h).bind (fun q => EV (d + 1) 73 26 L (psh q.1 st) q.2) := G_cv [(0, p0), (0, p1)] (m73 dX6_choose_23) ow73 tr_6_207 (by decide) td68 np68 ml68 ow68 rfl rfl (Nat.le_of_ble_eq_true rfl) rfl hs hk
theorem e73_26 {d : Nat} {L st : List AV} {h : AM} {a : Int} : EV d 73 26 L ((0, a) :: st) h = if a = 0 then EV d 73 145 L st h else EV d 73 29 L st h := (E_if (m73 dX6_choose_26) (t := 145) rfl).trans cc_eq
theorem e73_29 {d : Nat} {l1 l2 l3 l4 l5 l6 : AV} {st : List AV} {h : AM} {x : Int} : EV d 73 29 [(2, x), l1, l2, l3, l4, l5, l6] st h = EV d 73 30 [(2, x), l1, l2, l3, l4, l5, l6] ((2, x) :: st) h := G_aload_n (m73 dX6_choose_29) rfl
theorem e73_30 {d : Nat} {l0 l2 l3 l4 l5 l6 : AV} {st : List AV} {h : AM} {x : Int} : EV d 73 30 [l0, (2, x), l2, l3, l4, l5, l6] st h = EV d 73 31 [l0, (2, x), l2, l3, l4, l5, l6] ((2, x) :: st) h := G_aload_n (m73 dX6_choose_30) rfl
theorem e73_31 {d : Nat} {l0 l1 l2 l3 l5 l6 : AV} {st : List AV} {h : AM} {x : Int} : EV d 73 31 [l0, l1, l2, l3, (0, x), l5, l6] st h = EV d 73 33 [l0, l1, l2, l3, (0, x), l5, l6] ((0, x) :: st) h := G_iload (m73 dX6_choose_31) rfl
theorem e73_33 {d : Nat} {L st : List AV} {h : AM} {r p0 p1 : Int} (hs : st.length ≤ 4) (hk : isK h r 6) : EV (d + 1) 73 33 L ((0, p1) :: (2, p0) :: (2, r) :: st) h = (EV d 69 0 [(2, r), (2, p0), (0, p1)] [] h).bind (fun q => EV (d + 1) 73 36 L (psh q.1 st) q.2) := G_cv [(2, p0), (0, p1)] (m73 dX6_choose_33) ow73 tr_6_211 (by decide) td69 np69 ml69 ow69 rfl rfl (Nat.le_of_ble_eq_true rfl) rfl hs hk
theorem e73_36 {d : Nat} {L st : List AV} {h : AM} {a : Int} : EV d 73 36 L ((0, a) :: st) h = if a = 0 then EV d 73 39 L st h else EV d 73 42 L st h := (E_if (m73 dX6_choose_36) (t := 42) rfl).trans cc_ne
theorem e73_39 {d : Nat} {L st : List AV} {h : AM} : EV d 73 39 L st h = EV d 73 145 L st h := G_goto (m73 dX6_choose_39) rfl
theorem e73_42 {d : Nat} {l1 l2 l3 l4 l5 l6 : AV} {st : List AV} {h : AM} {x : Int} : EV d 73 42 [(2, x), l1, l2, l3, l4, l5, l6] st h = EV d 73 43 [(2, x), l1, l2, l3, l4, l5, l6] ((2, x) :: st) h := G_aload_n (m73 dX6_choose_42) rfl
theorem e73_43 {d : Nat} {L st : List AV} {h : AM} {r : Int} (hk : isK h r 6) : EV d 73 43 L ((2, r) :: st) h = EV d 73 46 L ((2, mrd h r 3) :: st) h := G_get (m73 dX6_choose_43) ow73 tf_6_30 rfl rfl hk
theorem e73_46 {d : Nat} {l1 l2 l3 l4 l5 l6 : AV} {st : List AV} {h : AM} {x : Int} : EV d 73 46 [(2, x), l1, l2, l3, l4, l5, l6] st h = EV d 73 47 [(2, x), l1, l2, l3, l4, l5, l6] ((2, x) :: st) h := G_aload_n (m73 dX6_choose_46) rfl
theorem e73_47 {d : Nat} {l0 l2 l3 l4 l5 l6 : AV} {st : List AV} {h : AM} {x : Int} : EV d 73 47 [l0, (2, x), l2, l3, l4, l5, l6] st h = EV d 73 48 [l0, (2, x), l2, l3, l4, l5, l6] ((2, x) :: st) h := G_aload_n (m73 dX6_choose_47) rfl
theorem e73_48 {d : Nat} {L st : List AV} {h : AM} : EV d 73 48 L st h = EV d 73 49 L ((0, -1) :: st) h := G_iconst (m73 dX6_choose_48) (by decide)
theorem e73_49 {d : Nat} {L st : List AV} {h : AM} {r p0 p1 p2 : Int} (hs : st.length ≤ 4) (hk : isK h r 9) : EV (d + 1) 73 49 L ((0, p2) :: (2, p1) :: (2, p0) :: (2, r) :: st) h = (EV d 99 0 [(2, r), (2, p0), (2, p1), (0, p2), (3, 0)] [] h).bind (fun q => EV (d + 1) 73 52 L (psh q.1 st) q.2) := G_cv [(2, p0), (2, p1), (0, p2)] (m73 dX6_choose_49) ow73 tr_6_225 (by decide) td99 np99 ml99 ow99 rfl rfl (Nat.le_of_ble_eq_true rfl) rfl hs hk
theorem e73_52 {d : Nat} {l1 l2 l3 l4 l5 l6 : AV} {st : List AV} {h : AM} {x : Int} : EV d 73 52 [(2, x), l1, l2, l3, l4, l5, l6] st h = EV d 73 53 [(2, x), l1, l2, l3, l4, l5, l6] ((2, x) :: st) h := G_aload_n (m73 dX6_choose_52) rfl
theorem e73_53 {d : Nat} {L st : List AV} {h : AM} {r : Int} (hk : isK h r 6) : EV d 73 53 L ((2, r) :: st) h = EV d 73 56 L ((2, mrd h r 3) :: st) h := G_get (m73 dX6_choose_53) ow73 tf_6_30 rfl rfl hk
theorem e73_56 {d : Nat} {l1 l2 l3 l4 l5 l6 : AV} {st : List AV} {h : AM} {x : Int} : EV d 73 56 [(2, x), l1, l2, l3, l4, l5, l6] st h = EV d 73 57 [(2, x), l1, l2, l3, l4, l5, l6] ((2, x) :: st) h := G_aload_n (m73 dX6_choose_56) rfl
theorem e73_57 {d : Nat} {L st : List AV} {h : AM} {r : Int} (hk : isK h r 6) : EV d 73 57 L ((2, r) :: st) h = EV d 73 60 L ((2, mrd h r 1) :: st) h := G_get (m73 dX6_choose_57) ow73 tf_6_17 rfl rfl hk
theorem e73_60 {d : Nat} {l0 l1 l2 l3 l5 l6 : AV} {st : List AV} {h : AM} {x : Int} : EV d 73 60 [l0, l1, l2, l3, (0, x), l5, l6] st h = EV d 73 62 [l0, l1, l2, l3, (0, x), l5, l6] ((0, x) :: st) h := G_iload (m73 dX6_choose_60) rfl
theorem e73_62 {d : Nat} {L st : List AV} {h : AM} {r j : Int} (hk : inR h r j) : EV d 73 62 L ((0, j) :: (2, r) :: st) h = EV d 73 63 L ((2, mrd h r j) :: st) h := G_aald (m73 dX6_choose_62) hk
theorem e73_63 {d : Nat} {L st : List AV} {h : AM} {r : Int} (hk : isK h r 2) : EV d 73 63 L ((2, r) :: st) h = EV d 73 66 L ((0, mrd h r 2) :: st) h := G_get (m73 dX6_choose_63) ow73 tf_6_229 rfl rfl hk
theorem e73_66 {d : Nat} {L st : List AV} {h : AM} {r p0 : Int} (hs : st.length ≤ 4) (hk : isK h r 9) : EV (d + 1) 73 66 L ((0, p0) :: (2, r) :: st) h = (EV d 100 0 [(2, r), (0, p0)] [] h).bind (fun q => EV (d + 1) 73 69 L (psh q.1 st) q.2) := G_cv [(0, p0)] (m73 dX6_choose_66) ow73 tr_6_232 (by decide) td100 np100 ml100 ow100 rfl rfl (Nat.le_of_ble_eq_true rfl) rfl hs hk
theorem e73_69 {d : Nat} {l1 l2 l3 l4 l5 l6 : AV} {st : List AV} {h : AM} {x : Int} : EV d 73 69 [(2, x), l1, l2, l3, l4, l5, l6] st h = EV d 73 70 [(2, x), l1, l2, l3, l4, l5, l6] ((2, x) :: st) h := G_aload_n (m73 dX6_choose_69) rfl
theorem e73_70 {d : Nat} {L st : List AV} {h : AM} {r : Int} (hk : isK h r 6) : EV d 73 70 L ((2, r) :: st) h = EV d 73 73 L ((2, mrd h r 3) :: st) h := G_get (m73 dX6_choose_70) ow73 tf_6_30 rfl rfl hk
theorem e73_73 {d : Nat} {l1 l2 l3 l4 l5 l6 : AV} {st : List AV} {h : AM} {x : Int} : EV d 73 73 [(2, x), l1, l2, l3, l4, l5, l6] st h = EV d 73 74 [(2, x), l1, l2, l3, l4, l5, l6] ((2, x) :: st) h := G_aload_n (m73 dX6_choose_73) rfl
theorem e73_74 {d : Nat} {L st : List AV} {h : AM} {r : Int} (hk : isK h r 6) : EV d 73 74 L ((2, r) :: st) h = EV d 73 77 L ((0, mrd h r 8) :: st) h := G_get (m73 dX6_choose_74) ow73 tf_6_41 rfl rfl hk
theorem e73_77 {d : Nat} {L st : List AV} {h : AM} {r p0 : Int} (hs : st.length ≤ 4) (hk : isK h r 9) : EV (d + 1) 73 77 L ((0, p0) :: (2, r) :: st) h = (EV d 101 0 [(2, r), (0, p0), (3, 0), (3, 0)] [] h).bind (fun q => EV (d + 1) 73 80 L (psh q.1 st) q.2) := G_cv [(0, p0)] (m73 dX6_choose_77) ow73 tr_6_236 (by decide) td101 np101 ml101 ow101 rfl rfl (Nat.le_of_ble_eq_true rfl) rfl hs hk
theorem e73_80 {d : Nat} {L st : List AV} {h : AM} : EV d 73 80 L st h = EV d 73 81 L ((0, -1) :: st) h := G_iconst (m73 dX6_choose_80) (by decide)
theorem e73_81 {d : Nat} {L st : List AV} {h : AM} {a b : Int} : EV d 73 81 L ((0, b) :: (0, a) :: st) h = if a = b then EV d 73 84 L st h else EV d 73 88 L st h := (E_ic (m73 dX6_choose_81) (t := 88) rfl).trans cc_ne
theorem e73_84 {d : Nat} {L st : List AV} {h : AM} : EV d 73 84 L st h = EV d 73 85 L ((0, 1) :: st) h := G_iconst (m73 dX6_choose_84) (by decide)
theorem e73_85 {d : Nat} {L st : List AV} {h : AM} : EV d 73 85 L st h = EV d 73 89 L st h := G_goto (m73 dX6_choose_85) rfl
theorem e73_88 {d : Nat} {L st : List AV} {h : AM} : EV d 73 88 L st h = EV d 73 89 L ((0, 0) :: st) h := G_iconst (m73 dX6_choose_88) (by decide)
theorem e73_89 {d : Nat} {l0 l1 l2 l3 l4 l5 l6 : AV} {st : List AV} {h : AM} {x : Int} : EV d 73 89 [l0, l1, l2, l3, l4, l5, l6] ((0, x) :: st) h = EV d 73 91 [l0, l1, l2, l3, l4, (0, x), l6] st h := G_istore (m73 dX6_choose_89) (Nat.le_of_ble_eq_true rfl) rfl
theorem e73_91 {d : Nat} {l0 l1 l3 l4 l5 l6 : AV} {st : List AV} {h : AM} {x : Int} : EV d 73 91 [l0, l1, (0, x), l3, l4, l5, l6] st h = EV d 73 92 [l0, l1, (0, x), l3, l4, l5, l6] ((0, x) :: st) h := G_iload_n (m73 dX6_choose_91) rfl
theorem e73_92 {d : Nat} {L st : List AV} {h : AM} : EV d 73 92 L st h = EV d 73 93 L ((0, -1) :: st) h := G_iconst (m73 dX6_choose_92) (by decide)
theorem e73_93 {d : Nat} {L st : List AV} {h : AM} {a b : Int} : EV d 73 93 L ((0, b) :: (0, a) :: st) h = if a = b then EV d 73 127 L st h else EV d 73 96 L st h := (E_ic (m73 dX6_choose_93) (t := 127) rfl).trans cc_eq
theorem e73_96 {d : Nat} {l0 l1 l2 l3 l4 l6 : AV} {st : List AV} {h : AM} {x : Int} : EV d 73 96 [l0, l1, l2, l3, l4, (0, x), l6] st h = EV d 73 98 [l0, l1, l2, l3, l4, (0, x), l6] ((0, x) :: st) h := G_iload (m73 dX6_choose_96) rfl
theorem e73_98 {d : Nat} {L st : List AV} {h : AM} {a : Int} : EV d 73 98 L ((0, a) :: st) h = if a = 0 then EV d 73 105 L st h else EV d 73 101 L st h := (E_if (m73 dX6_choose_98) (t := 105) rfl).trans cc_eq
theorem e73_101 {d : Nat} {l0 l1 l2 l4 l5 l6 : AV} {st : List AV} {h : AM} {x : Int} : EV d 73 101 [l0, l1, l2, (0, x), l4, l5, l6] st h = EV d 73 102 [l0, l1, l2, (0, x), l4, l5, l6] ((0, x) :: st) h := G_iload_n (m73 dX6_choose_101) rfl
theorem e73_102 {d : Nat} {L st : List AV} {h : AM} {a : Int} : EV d 73 102 L ((0, a) :: st) h = if a = 0 then EV d 73 127 L st h else EV d 73 105 L st h := (E_if (m73 dX6_choose_102) (t := 127) rfl).trans cc_eq
theorem e73_105 {d : Nat} {l0 l1 l2 l3 l4 l6 : AV} {st : List AV} {h : AM} {x : Int} : EV d 73 105 [l0, l1, l2, l3, l4, (0, x), l6] st h = EV d 73 107 [l0, l1, l2, l3, l4, (0, x), l6] ((0, x) :: st) h := G_iload (m73 dX6_choose_105) rfl
theorem e73_107 {d : Nat} {l0 l1 l2 l4 l5 l6 : AV} {st : List AV} {h : AM} {x : Int} : EV d 73 107 [l0, l1, l2, (0, x), l4, l5, l6] st h = EV d 73 108 [l0, l1, l2, (0, x), l4, l5, l6] ((0, x) :: st) h := G_iload_n (m73 dX6_choose_107) rfl
theorem e73_108 {d : Nat} {L st : List AV} {h : AM} {a b : Int} : EV d 73 108 L ((0, b) :: (0, a) :: st) h = if a = b then EV d 73 111 L st h else EV d 73 131 L st h := (E_ic (m73 dX6_choose_108) (t := 131) rfl).trans cc_ne
theorem e73_111 {d : Nat} {l1 l2 l3 l4 l5 l6 : AV} {st : List AV} {h : AM} {x : Int} : EV d 73 111 [(2, x), l1, l2, l3, l4, l5, l6] st h = EV d 73 112 [(2, x), l1, l2, l3, l4, l5, l6] ((2, x) :: st) h := G_aload_n (m73 dX6_choose_111) rfl
theorem e73_112 {d : Nat} {l0 l2 l3 l4 l5 l6 : AV} {st : List AV} {h : AM} {x : Int} : EV d 73 112 [l0, (2, x), l2, l3, l4, l5, l6] st h = EV d 73 113 [l0, (2, x), l2, l3, l4, l5, l6] ((2, x) :: st) h := G_aload_n (m73 dX6_choose_112) rfl
theorem e73_113 {d : Nat} {l0 l1 l2 l3 l5 l6 : AV} {st : List AV} {h : AM} {x : Int} : EV d 73 113 [l0, l1, l2, l3, (0, x), l5, l6] st h = EV d 73 115 [l0, l1, l2, l3, (0, x), l5, l6] ((0, x) :: st) h := G_iload (m73 dX6_choose_113) rfl
theorem e73_115 {d : Nat} {L st : List AV} {h : AM} {r p0 p1 : Int} (hs : st.length ≤ 4) (hk : isK h r 6) : EV (d + 1) 73 115 L ((0, p1) :: (2, p0) :: (2, r) :: st) h = (EV d 70 0 [(2, r), (2, p0), (0, p1), (3, 0)] [] h).bind (fun q => EV (d + 1) 73 118 L (psh q.1 st) q.2) := G_cv [(2, p0), (0, p1)] (m73 dX6_choose_115) ow73 tr_6_221 (by decide) td70 np70 ml70 ow70 rfl rfl (Nat.le_of_ble_eq_true rfl) rfl hs hk
theorem e73_118 {d : Nat} {l1 l2 l3 l4 l5 l6 : AV} {st : List AV} {h : AM} {x : Int} : EV d 73 118 [(2, x), l1, l2, l3, l4, l5, l6] st h = EV d 73 119 [(2, x), l1, l2, l3, l4, l5, l6] ((2, x) :: st) h := G_aload_n (m73 dX6_choose_118) rfl
theorem e73_119 {d : Nat} {l0 l2 l3 l4 l5 l6 : AV} {st : List AV} {h : AM} {x : Int} : EV d 73 119 [l0, (2, x), l2, l3, l4, l5, l6] st h = EV d 73 120 [l0, (2, x), l2, l3, l4, l5, l6] ((2, x) :: st) h := G_aload_n (m73 dX6_choose_119) rfl
theorem e73_120 {d : Nat} {l0 l1 l3 l4 l5 l6 : AV} {st : List AV} {h : AM} {x : Int} : EV d 73 120 [l0, l1, (0, x), l3, l4, l5, l6] st h = EV d 73 121 [l0, l1, (0, x), l3, l4, l5, l6] ((0, x) :: st) h := G_iload_n (m73 dX6_choose_120) rfl
theorem e73_121 {d : Nat} {L st : List AV} {h : AM} {r p0 p1 : Int} (hs : st.length ≤ 4) (hk : isK h r 6) : EV (d + 1) 73 121 L ((0, p1) :: (2, p0) :: (2, r) :: st) h = (EV d 70 0 [(2, r), (2, p0), (0, p1), (3, 0)] [] h).bind (fun q => EV (d + 1) 73 124 L (psh q.1 st) q.2) := G_cv [(2, p0), (0, p1)] (m73 dX6_choose_121) ow73 tr_6_221 (by decide) td70 np70 ml70 ow70 rfl rfl (Nat.le_of_ble_eq_true rfl) rfl hs hk
theorem e73_124 {d : Nat} {L st : List AV} {h : AM} {a b : Int} : EV d 73 124 L ((0, b) :: (0, a) :: st) h = if a < b then EV d 73 127 L st h else EV d 73 131 L st h := (E_ic (m73 dX6_choose_124) (t := 131) rfl).trans cc_ge
theorem e73_127 {d : Nat} {L st : List AV} {h : AM} : EV d 73 127 L st h = EV d 73 128 L ((0, 1) :: st) h := G_iconst (m73 dX6_choose_127) (by decide)
theorem e73_128 {d : Nat} {L st : List AV} {h : AM} : EV d 73 128 L st h = EV d 73 132 L st h := G_goto (m73 dX6_choose_128) rfl
theorem e73_131 {d : Nat} {L st : List AV} {h : AM} : EV d 73 131 L st h = EV d 73 132 L ((0, 0) :: st) h := G_iconst (m73 dX6_choose_131) (by decide)
theorem e73_132 {d : Nat} {l0 l1 l2 l3 l4 l5 l6 : AV} {st : List AV} {h : AM} {x : Int} : EV d 73 132 [l0, l1, l2, l3, l4, l5, l6] ((0, x) :: st) h = EV d 73 134 [l0, l1, l2, l3, l4, l5, (0, x)] st h := G_istore (m73 dX6_choose_132) (Nat.le_of_ble_eq_true rfl) rfl
theorem e73_134 {d : Nat} {l0 l1 l2 l3 l4 l5 : AV} {st : List AV} {h : AM} {x : Int} : EV d 73 134 [l0, l1, l2, l3, l4, l5, (0, x)] st h = EV d 73 136 [l0, l1, l2, l3, l4, l5, (0, x)] ((0, x) :: st) h := G_iload (m73 dX6_choose_134) rfl
theorem e73_136 {d : Nat} {L st : List AV} {h : AM} {a : Int} : EV d 73 136 L ((0, a) :: st) h = if a = 0 then EV d 73 145 L st h else EV d 73 139 L st h := (E_if (m73 dX6_choose_136) (t := 145) rfl).trans cc_eq
theorem e73_139 {d : Nat} {l0 l1 l2 l3 l5 l6 : AV} {st : List AV} {h : AM} {x : Int} : EV d 73 139 [l0, l1, l2, l3, (0, x), l5, l6] st h = EV d 73 141 [l0, l1, l2, l3, (0, x), l5, l6] ((0, x) :: st) h := G_iload (m73 dX6_choose_139) rfl
theorem e73_141 {d : Nat} {l0 l1 l2 l3 l4 l5 l6 : AV} {st : List AV} {h : AM} {x : Int} : EV d 73 141 [l0, l1, l2, l3, l4, l5, l6] ((0, x) :: st) h = EV d 73 142 [l0, l1, (0, x), l3, l4, l5, l6] st h := G_istore_n (m73 dX6_choose_141) (Nat.le_of_ble_eq_true rfl) rfl
theorem e73_142 {d : Nat} {l0 l1 l2 l3 l4 l6 : AV} {st : List AV} {h : AM} {x : Int} : EV d 73 142 [l0, l1, l2, l3, l4, (0, x), l6] st h = EV d 73 144 [l0, l1, l2, l3, l4, (0, x), l6] ((0, x) :: st) h := G_iload (m73 dX6_choose_142) rfl
theorem e73_144 {d : Nat} {l0 l1 l2 l3 l4 l5 l6 : AV} {st : List AV} {h : AM} {x : Int} : EV d 73 144 [l0, l1, l2, l3, l4, l5, l6] ((0, x) :: st) h = EV d 73 145 [l0, l1, l2, (0, x), l4, l5, l6] st h := G_istore_n (m73 dX6_choose_144) (Nat.le_of_ble_eq_true rfl) rfl
theorem e73_145 {d : Nat} {l0 l1 l2 l3 l5 l6 : AV} {st : List AV} {h : AM} {x : Int} : EV d 73 145 [l0, l1, l2, l3, (0, x), l5, l6] st h = EV d 73 148 [l0, l1, l2, l3, (0, w32 (x + 1)), l5, l6] st h := G_iinc (m73 dX6_choose_145) rfl rfl
theorem e73_148 {d : Nat} {L st : List AV} {h : AM} : EV d 73 148 L st h = EV d 73 7 L st h := G_goto (m73 dX6_choose_148) rfl
theorem e73_151 {d : Nat} {l0 l1 l3 l4 l5 l6 : AV} {st : List AV} {h : AM} {x : Int} : EV d 73 151 [l0, l1, (0, x), l3, l4, l5, l6] st h = EV d 73 152 [l0, l1, (0, x), l3, l4, l5, l6] ((0, x) :: st) h := G_iload_n (m73 dX6_choose_151) rfl
theorem e73_152 {d : Nat} {L : List AV} {h : AM} {v : Int} : EV d 73 152 L [(0, v)] h = some ((0, v), h) := E_iret (m73 dX6_choose_152) (by rw [rt73]; rfl)
theorem e74_0 {d : Nat} {l1 l2 : AV} {st : List AV} {h : AM} {x : Int} : EV d 74 0 [(2, x), l1, l2] st h = EV d 74 1 [(2, x), l1, l2] ((2, x) :: st) h := G_aload_n (m74 dX6_isSaid_0) rfl
theorem e74_1 {d : Nat} {L st : List AV} {h : AM} {r : Int} (hk : isK h r 6) : EV d 74 1 L ((2, r) :: st) h = EV d 74 4 L ((2, mrd h r 3) :: st) h := G_get (m74 dX6_isSaid_1) ow74 tf_6_30 rfl rfl hk
theorem e74_4 {d : Nat} {l1 l2 : AV} {st : List AV} {h : AM} {x : Int} : EV d 74 4 [(2, x), l1, l2] st h = EV d 74 5 [(2, x), l1, l2] ((2, x) :: st) h := G_aload_n (m74 dX6_isSaid_4) rfl
theorem e74_5 {d : Nat} {l0 l2 : AV} {st : List AV} {h : AM} {x : Int} : EV d 74 5 [l0, (2, x), l2] st h = EV d 74 6 [l0, (2, x), l2] ((2, x) :: st) h := G_aload_n (m74 dX6_isSaid_5) rfl
theorem e74_6 {d : Nat} {l0 l1 : AV} {st : List AV} {h : AM} {x : Int} : EV d 74 6 [l0, l1, (0, x)] st h = EV d 74 7 [l0, l1, (0, x)] ((0, x) :: st) h := G_iload_n (m74 dX6_isSaid_6) rfl
theorem e74_7 {d : Nat} {L st : List AV} {h : AM} {r p0 p1 p2 : Int} (hs : st.length ≤ 4) (hk : isK h r 9) : EV (d + 1) 74 7 L ((0, p2) :: (2, p1) :: (2, p0) :: (2, r) :: st) h = (EV d 99 0 [(2, r), (2, p0), (2, p1), (0, p2), (3, 0)] [] h).bind (fun q => EV (d + 1) 74 10 L (psh q.1 st) q.2) := G_cv [(2, p0), (2, p1), (0, p2)] (m74 dX6_isSaid_7) ow74 tr_6_225 (by decide) td99 np99 ml99 ow99 rfl rfl (Nat.le_of_ble_eq_true rfl) rfl hs hk
theorem e74_10 {d : Nat} {l1 l2 : AV} {st : List AV} {h : AM} {x : Int} : EV d 74 10 [(2, x), l1, l2] st h = EV d 74 11 [(2, x), l1, l2] ((2, x) :: st) h := G_aload_n (m74 dX6_isSaid_10) rfl
theorem e74_11 {d : Nat} {L st : List AV} {h : AM} {r : Int} (hk : isK h r 6) : EV d 74 11 L ((2, r) :: st) h = EV d 74 14 L ((2, mrd h r 3) :: st) h := G_get (m74 dX6_isSaid_11) ow74 tf_6_30 rfl rfl hk
theorem e74_14 {d : Nat} {L st : List AV} {h : AM} {r : Int} (hk : isK h r 9) : EV d 74 14 L ((2, r) :: st) h = EV d 74 17 L ((0, mrd h r 1) :: st) h := G_get (m74 dX6_isSaid_14) ow74 tf_6_239 rfl rfl hk
theorem e74_17 {d : Nat} {L st : List AV} {h : AM} {a : Int} : EV d 74 17 L ((0, a) :: st) h = if 0 < a then EV d 74 20 L st h else EV d 74 39 L st h := (E_if (m74 dX6_isSaid_17) (t := 39) rfl).trans cc_le
theorem e74_20 {d : Nat} {l1 l2 : AV} {st : List AV} {h : AM} {x : Int} : EV d 74 20 [(2, x), l1, l2] st h = EV d 74 21 [(2, x), l1, l2] ((2, x) :: st) h := G_aload_n (m74 dX6_isSaid_20) rfl
theorem e74_21 {d : Nat} {L st : List AV} {h : AM} {r : Int} (hk : isK h r 6) : EV d 74 21 L ((2, r) :: st) h = EV d 74 24 L ((2, mrd h r 3) :: st) h := G_get (m74 dX6_isSaid_21) ow74 tf_6_30 rfl rfl hk
theorem e74_24 {d : Nat} {l1 l2 : AV} {st : List AV} {h : AM} {x : Int} : EV d 74 24 [(2, x), l1, l2] st h = EV d 74 25 [(2, x), l1, l2] ((2, x) :: st) h := G_aload_n (m74 dX6_isSaid_24) rfl
theorem e74_25 {d : Nat} {L st : List AV} {h : AM} {r : Int} (hk : isK h r 6) : EV d 74 25 L ((2, r) :: st) h = EV d 74 28 L ((0, mrd h r 8) :: st) h := G_get (m74 dX6_isSaid_25) ow74 tf_6_41 rfl rfl hk
theorem e74_28 {d : Nat} {L st : List AV} {h : AM} {r p0 : Int} (hs : st.length ≤ 4) (hk : isK h r 9) : EV (d + 1) 74 28 L ((0, p0) :: (2, r) :: st) h = (EV d 101 0 [(2, r), (0, p0), (3, 0), (3, 0)] [] h).bind (fun q => EV (d + 1) 74 31 L (psh q.1 st) q.2) := G_cv [(0, p0)] (m74 dX6_isSaid_28) ow74 tr_6_236 (by decide) td101 np101 ml101 ow101 rfl rfl (Nat.le_of_ble_eq_true rfl) rfl hs hk
theorem e74_31 {d : Nat} {L st : List AV} {h : AM} : EV d 74 31 L st h = EV d 74 32 L ((0, -1) :: st) h := G_iconst (m74 dX6_isSaid_31) (by decide)
theorem e74_32 {d : Nat} {L st : List AV} {h : AM} {a b : Int} : EV d 74 32 L ((0, b) :: (0, a) :: st) h = if a = b then EV d 74 35 L st h else EV d 74 39 L st h := (E_ic (m74 dX6_isSaid_32) (t := 39) rfl).trans cc_ne
theorem e74_35 {d : Nat} {L st : List AV} {h : AM} : EV d 74 35 L st h = EV d 74 36 L ((0, 1) :: st) h := G_iconst (m74 dX6_isSaid_35) (by decide)
theorem e74_36 {d : Nat} {L st : List AV} {h : AM} : EV d 74 36 L st h = EV d 74 40 L st h := G_goto (m74 dX6_isSaid_36) rfl
theorem e74_39 {d : Nat} {L st : List AV} {h : AM} : EV d 74 39 L st h = EV d 74 40 L ((0, 0) :: st) h := G_iconst (m74 dX6_isSaid_39) (by decide)
theorem e74_40 {d : Nat} {L : List AV} {h : AM} {v : Int} (hv : v = 0 ∨ v = 1) : EV d 74 40 L [(0, v)] h = some ((0, v), h) := E_iret (m74 dX6_isSaid_40) (by rw [rt74]; rcases hv with rfl | rfl <;> rfl)
theorem e75_0 {d : Nat} {l1 l2 : AV} {st : List AV} {h : AM} {x : Int} : EV d 75 0 [(2, x), l1, l2] st h = EV d 75 1 [(2, x), l1, l2] ((2, x) :: st) h := G_aload_n (m75 dX6_weakPlace_0) rfl
theorem e75_1 {d : Nat} {l0 l2 : AV} {st : List AV} {h : AM} {x : Int} : EV d 75 1 [l0, (2, x), l2] st h = EV d 75 2 [l0, (2, x), l2] ((2, x) :: st) h := G_aload_n (m75 dX6_weakPlace_1) rfl
theorem e75_2 {d : Nat} {L st : List AV} {h : AM} : EV d 75 2 L st h = EV d 75 3 L ((0, -1) :: st) h := G_iconst (m75 dX6_weakPlace_2) (by decide)
theorem e75_3 {d : Nat} {L st : List AV} {h : AM} {r p0 p1 : Int} (hs : st.length ≤ 4) (hk : isK h r 6) : EV (d + 1) 75 3 L ((0, p1) :: (2, p0) :: (2, r) :: st) h = (EV d 74 0 [(2, r), (2, p0), (0, p1)] [] h).bind (fun q => EV (d + 1) 75 6 L (psh q.1 st) q.2) := G_cv [(2, p0), (0, p1)] (m75 dX6_weakPlace_3) ow75 tr_6_240 (by decide) td74 np74 ml74 ow74 rfl rfl (Nat.le_of_ble_eq_true rfl) rfl hs hk
theorem e75_6 {d : Nat} {L st : List AV} {h : AM} {a : Int} : EV d 75 6 L ((0, a) :: st) h = if a = 0 then EV d 75 9 L st h else EV d 75 11 L st h := (E_if (m75 dX6_weakPlace_6) (t := 11) rfl).trans cc_ne
theorem e75_9 {d : Nat} {L st : List AV} {h : AM} : EV d 75 9 L st h = EV d 75 10 L ((0, -1) :: st) h := G_iconst (m75 dX6_weakPlace_9) (by decide)
theorem e75_10 {d : Nat} {L : List AV} {h : AM} {v : Int} : EV d 75 10 L [(0, v)] h = some ((0, v), h) := E_iret (m75 dX6_weakPlace_10) (by rw [rt75]; rfl)
theorem e75_11 {d : Nat} {L st : List AV} {h : AM} : EV d 75 11 L st h = EV d 75 12 L ((0, 0) :: st) h := G_iconst (m75 dX6_weakPlace_11) (by decide)
theorem e75_12 {d : Nat} {l0 l1 l2 : AV} {st : List AV} {h : AM} {x : Int} : EV d 75 12 [l0, l1, l2] ((0, x) :: st) h = EV d 75 13 [l0, l1, (0, x)] st h := G_istore_n (m75 dX6_weakPlace_12) (Nat.le_of_ble_eq_true rfl) rfl
theorem e75_13 {d : Nat} {l0 l1 : AV} {st : List AV} {h : AM} {x : Int} : EV d 75 13 [l0, l1, (0, x)] st h = EV d 75 14 [l0, l1, (0, x)] ((0, x) :: st) h := G_iload_n (m75 dX6_weakPlace_13) rfl
theorem e75_14 {d : Nat} {l0 l2 : AV} {st : List AV} {h : AM} {x : Int} : EV d 75 14 [l0, (2, x), l2] st h = EV d 75 15 [l0, (2, x), l2] ((2, x) :: st) h := G_aload_n (m75 dX6_weakPlace_14) rfl
theorem e75_15 {d : Nat} {L st : List AV} {h : AM} {r : Int} (hk : isK h r 1) : EV d 75 15 L ((2, r) :: st) h = EV d 75 18 L ((0, mrd h r 6) :: st) h := G_get (m75 dX6_weakPlace_15) ow75 tf_6_215 rfl rfl hk
theorem e75_18 {d : Nat} {L st : List AV} {h : AM} {a b : Int} : EV d 75 18 L ((0, b) :: (0, a) :: st) h = if a < b then EV d 75 21 L st h else EV d 75 38 L st h := (E_ic (m75 dX6_weakPlace_18) (t := 38) rfl).trans cc_ge
theorem e75_21 {d : Nat} {l1 l2 : AV} {st : List AV} {h : AM} {x : Int} : EV d 75 21 [(2, x), l1, l2] st h = EV d 75 22 [(2, x), l1, l2] ((2, x) :: st) h := G_aload_n (m75 dX6_weakPlace_21) rfl
theorem e75_22 {d : Nat} {l0 l2 : AV} {st : List AV} {h : AM} {x : Int} : EV d 75 22 [l0, (2, x), l2] st h = EV d 75 23 [l0, (2, x), l2] ((2, x) :: st) h := G_aload_n (m75 dX6_weakPlace_22) rfl
theorem e75_23 {d : Nat} {l0 l1 : AV} {st : List AV} {h : AM} {x : Int} : EV d 75 23 [l0, l1, (0, x)] st h = EV d 75 24 [l0, l1, (0, x)] ((0, x) :: st) h := G_iload_n (m75 dX6_weakPlace_23) rfl
theorem e75_24 {d : Nat} {L st : List AV} {h : AM} {r p0 p1 : Int} (hs : st.length ≤ 4) (hk : isK h r 6) : EV (d + 1) 75 24 L ((0, p1) :: (2, p0) :: (2, r) :: st) h = (EV d 74 0 [(2, r), (2, p0), (0, p1)] [] h).bind (fun q => EV (d + 1) 75 27 L (psh q.1 st) q.2) := G_cv [(2, p0), (0, p1)] (m75 dX6_weakPlace_24) ow75 tr_6_240 (by decide) td74 np74 ml74 ow74 rfl rfl (Nat.le_of_ble_eq_true rfl) rfl hs hk
theorem e75_27 {d : Nat} {L st : List AV} {h : AM} {a : Int} : EV d 75 27 L ((0, a) :: st) h = if a = 0 then EV d 75 30 L st h else EV d 75 32 L st h := (E_if (m75 dX6_weakPlace_27) (t := 32) rfl).trans cc_ne
theorem e75_30 {d : Nat} {l0 l1 : AV} {st : List AV} {h : AM} {x : Int} : EV d 75 30 [l0, l1, (0, x)] st h = EV d 75 31 [l0, l1, (0, x)] ((0, x) :: st) h := G_iload_n (m75 dX6_weakPlace_30) rfl
theorem e75_31 {d : Nat} {L : List AV} {h : AM} {v : Int} : EV d 75 31 L [(0, v)] h = some ((0, v), h) := E_iret (m75 dX6_weakPlace_31) (by rw [rt75]; rfl)
theorem e75_32 {d : Nat} {l0 l1 : AV} {st : List AV} {h : AM} {x : Int} : EV d 75 32 [l0, l1, (0, x)] st h = EV d 75 35 [l0, l1, (0, w32 (x + 1))] st h := G_iinc (m75 dX6_weakPlace_32) rfl rfl
theorem e75_35 {d : Nat} {L st : List AV} {h : AM} : EV d 75 35 L st h = EV d 75 13 L st h := G_goto (m75 dX6_weakPlace_35) rfl
theorem e75_38 {d : Nat} {L st : List AV} {h : AM} : EV d 75 38 L st h = EV d 75 39 L ((0, -1) :: st) h := G_iconst (m75 dX6_weakPlace_38) (by decide)
theorem e75_39 {d : Nat} {L : List AV} {h : AM} {v : Int} : EV d 75 39 L [(0, v)] h = some ((0, v), h) := E_iret (m75 dX6_weakPlace_39) (by rw [rt75]; rfl)
theorem e76_0 {d : Nat} {l0 l2 l3 l4 : AV} {st : List AV} {h : AM} {x : Int} : EV d 76 0 [l0, (2, x), l2, l3, l4] st h = EV d 76 1 [l0, (2, x), l2, l3, l4] ((2, x) :: st) h := G_aload_n (m76 dX6_sameAtEnd_0) rfl
theorem e76_1 {d : Nat} {L st : List AV} {h : AM} {r : Int} (hk : isK h r 1) : EV d 76 1 L ((2, r) :: st) h = EV d 76 4 L ((0, mrd h r 6) :: st) h := G_get (m76 dX6_sameAtEnd_1) ow76 tf_6_215 rfl rfl hk
theorem e76_4 {d : Nat} {l0 l1 l3 l4 : AV} {st : List AV} {h : AM} {x : Int} : EV d 76 4 [l0, l1, (2, x), l3, l4] st h = EV d 76 5 [l0, l1, (2, x), l3, l4] ((2, x) :: st) h := G_aload_n (m76 dX6_sameAtEnd_4) rfl
theorem e76_5 {d : Nat} {L st : List AV} {h : AM} {r : Int} (hk : isK h r 1) : EV d 76 5 L ((2, r) :: st) h = EV d 76 8 L ((0, mrd h r 6) :: st) h := G_get (m76 dX6_sameAtEnd_5) ow76 tf_6_215 rfl rfl hk
theorem e76_8 {d : Nat} {L st : List AV} {h : AM} {a b : Int} (hs : st.length ≤ 2) : EV (d + 1) 76 8 L ((0, b) :: (0, a) :: st) h = EV (d + 1) 76 11 L ((0, if b < a then b else a) :: st) h := E_min (m76 dX6_sameAtEnd_8) (rr76 tr_6_243) hs
theorem e76_11 {d : Nat} {l0 l1 l2 l3 l4 : AV} {st : List AV} {h : AM} {x : Int} : EV d 76 11 [l0, l1, l2, l3, l4] ((0, x) :: st) h = EV d 76 12 [l0, l1, l2, (0, x), l4] st h := G_istore_n (m76 dX6_sameAtEnd_11) (Nat.le_of_ble_eq_true rfl) rfl
theorem e76_12 {d : Nat} {L st : List AV} {h : AM} : EV d 76 12 L st h = EV d 76 13 L ((0, 0) :: st) h := G_iconst (m76 dX6_sameAtEnd_12) (by decide)
theorem e76_13 {d : Nat} {l0 l1 l2 l3 l4 : AV} {st : List AV} {h : AM} {x : Int} : EV d 76 13 [l0, l1, l2, l3, l4] ((0, x) :: st) h = EV d 76 15 [l0, l1, l2, l3, (0, x)] st h := G_istore (m76 dX6_sameAtEnd_13) (Nat.le_of_ble_eq_true rfl) rfl
theorem e76_15 {d : Nat} {l0 l1 l2 l3 : AV} {st : List AV} {h : AM} {x : Int} : EV d 76 15 [l0, l1, l2, l3, (0, x)] st h = EV d 76 17 [l0, l1, l2, l3, (0, x)] ((0, x) :: st) h := G_iload (m76 dX6_sameAtEnd_15) rfl
theorem e76_17 {d : Nat} {l0 l1 l2 l4 : AV} {st : List AV} {h : AM} {x : Int} : EV d 76 17 [l0, l1, l2, (0, x), l4] st h = EV d 76 18 [l0, l1, l2, (0, x), l4] ((0, x) :: st) h := G_iload_n (m76 dX6_sameAtEnd_17) rfl
theorem e76_18 {d : Nat} {L st : List AV} {h : AM} {a b : Int} : EV d 76 18 L ((0, b) :: (0, a) :: st) h = if a < b then EV d 76 21 L st h else EV d 76 61 L st h := (E_ic (m76 dX6_sameAtEnd_18) (t := 61) rfl).trans cc_ge
theorem e76_21 {d : Nat} {l1 l2 l3 l4 : AV} {st : List AV} {h : AM} {x : Int} : EV d 76 21 [(2, x), l1, l2, l3, l4] st h = EV d 76 22 [(2, x), l1, l2, l3, l4] ((2, x) :: st) h := G_aload_n (m76 dX6_sameAtEnd_21) rfl
theorem e76_22 {d : Nat} {l0 l2 l3 l4 : AV} {st : List AV} {h : AM} {x : Int} : EV d 76 22 [l0, (2, x), l2, l3, l4] st h = EV d 76 23 [l0, (2, x), l2, l3, l4] ((2, x) :: st) h := G_aload_n (m76 dX6_sameAtEnd_22) rfl
theorem e76_23 {d : Nat} {l0 l2 l3 l4 : AV} {st : List AV} {h : AM} {x : Int} : EV d 76 23 [l0, (2, x), l2, l3, l4] st h = EV d 76 24 [l0, (2, x), l2, l3, l4] ((2, x) :: st) h := G_aload_n (m76 dX6_sameAtEnd_23) rfl
theorem e76_24 {d : Nat} {L st : List AV} {h : AM} {r : Int} (hk : isK h r 1) : EV d 76 24 L ((2, r) :: st) h = EV d 76 27 L ((0, mrd h r 6) :: st) h := G_get (m76 dX6_sameAtEnd_24) ow76 tf_6_215 rfl rfl hk
theorem e76_27 {d : Nat} {L st : List AV} {h : AM} : EV d 76 27 L st h = EV d 76 28 L ((0, 1) :: st) h := G_iconst (m76 dX6_sameAtEnd_27) (by decide)
theorem e76_28 {d : Nat} {L st : List AV} {h : AM} {a b : Int} : EV d 76 28 L ((0, b) :: (0, a) :: st) h = EV d 76 29 L ((0, w32 (a - b)) :: st) h := E_isub (m76 dX6_sameAtEnd_28)
theorem e76_29 {d : Nat} {l0 l1 l2 l3 : AV} {st : List AV} {h : AM} {x : Int} : EV d 76 29 [l0, l1, l2, l3, (0, x)] st h = EV d 76 31 [l0, l1, l2, l3, (0, x)] ((0, x) :: st) h := G_iload (m76 dX6_sameAtEnd_29) rfl
theorem e76_31 {d : Nat} {L st : List AV} {h : AM} {a b : Int} : EV d 76 31 L ((0, b) :: (0, a) :: st) h = EV d 76 32 L ((0, w32 (a - b)) :: st) h := E_isub (m76 dX6_sameAtEnd_31)
theorem e76_32 {d : Nat} {L st : List AV} {h : AM} {r p0 p1 : Int} (hs : st.length ≤ 4) (hk : isK h r 6) : EV (d + 1) 76 32 L ((0, p1) :: (2, p0) :: (2, r) :: st) h = (EV d 67 0 [(2, r), (2, p0), (0, p1)] [] h).bind (fun q => EV (d + 1) 76 35 L (psh q.1 st) q.2) := G_cv [(2, p0), (0, p1)] (m76 dX6_sameAtEnd_32) ow76 tr_6_248 (by decide) td67 np67 ml67 ow67 rfl rfl (Nat.le_of_ble_eq_true rfl) rfl hs hk
theorem e76_35 {d : Nat} {l1 l2 l3 l4 : AV} {st : List AV} {h : AM} {x : Int} : EV d 76 35 [(2, x), l1, l2, l3, l4] st h = EV d 76 36 [(2, x), l1, l2, l3, l4] ((2, x) :: st) h := G_aload_n (m76 dX6_sameAtEnd_35) rfl
theorem e76_36 {d : Nat} {l0 l1 l3 l4 : AV} {st : List AV} {h : AM} {x : Int} : EV d 76 36 [l0, l1, (2, x), l3, l4] st h = EV d 76 37 [l0, l1, (2, x), l3, l4] ((2, x) :: st) h := G_aload_n (m76 dX6_sameAtEnd_36) rfl
theorem e76_37 {d : Nat} {l0 l1 l3 l4 : AV} {st : List AV} {h : AM} {x : Int} : EV d 76 37 [l0, l1, (2, x), l3, l4] st h = EV d 76 38 [l0, l1, (2, x), l3, l4] ((2, x) :: st) h := G_aload_n (m76 dX6_sameAtEnd_37) rfl
theorem e76_38 {d : Nat} {L st : List AV} {h : AM} {r : Int} (hk : isK h r 1) : EV d 76 38 L ((2, r) :: st) h = EV d 76 41 L ((0, mrd h r 6) :: st) h := G_get (m76 dX6_sameAtEnd_38) ow76 tf_6_215 rfl rfl hk
theorem e76_41 {d : Nat} {L st : List AV} {h : AM} : EV d 76 41 L st h = EV d 76 42 L ((0, 1) :: st) h := G_iconst (m76 dX6_sameAtEnd_41) (by decide)
theorem e76_42 {d : Nat} {L st : List AV} {h : AM} {a b : Int} : EV d 76 42 L ((0, b) :: (0, a) :: st) h = EV d 76 43 L ((0, w32 (a - b)) :: st) h := E_isub (m76 dX6_sameAtEnd_42)
theorem e76_43 {d : Nat} {l0 l1 l2 l3 : AV} {st : List AV} {h : AM} {x : Int} : EV d 76 43 [l0, l1, l2, l3, (0, x)] st h = EV d 76 45 [l0, l1, l2, l3, (0, x)] ((0, x) :: st) h := G_iload (m76 dX6_sameAtEnd_43) rfl
theorem e76_45 {d : Nat} {L st : List AV} {h : AM} {a b : Int} : EV d 76 45 L ((0, b) :: (0, a) :: st) h = EV d 76 46 L ((0, w32 (a - b)) :: st) h := E_isub (m76 dX6_sameAtEnd_45)
theorem e76_46 {d : Nat} {L st : List AV} {h : AM} {r p0 p1 : Int} (hs : st.length ≤ 4) (hk : isK h r 6) : EV (d + 1) 76 46 L ((0, p1) :: (2, p0) :: (2, r) :: st) h = (EV d 67 0 [(2, r), (2, p0), (0, p1)] [] h).bind (fun q => EV (d + 1) 76 49 L (psh q.1 st) q.2) := G_cv [(2, p0), (0, p1)] (m76 dX6_sameAtEnd_46) ow76 tr_6_248 (by decide) td67 np67 ml67 ow67 rfl rfl (Nat.le_of_ble_eq_true rfl) rfl hs hk
theorem e76_49 {d : Nat} {L st : List AV} {h : AM} {a b : Int} : EV d 76 49 L ((0, b) :: (0, a) :: st) h = if a = b then EV d 76 55 L st h else EV d 76 52 L st h := (E_ic (m76 dX6_sameAtEnd_49) (t := 55) rfl).trans cc_eq
theorem e76_52 {d : Nat} {l0 l1 l2 l3 : AV} {st : List AV} {h : AM} {x : Int} : EV d 76 52 [l0, l1, l2, l3, (0, x)] st h = EV d 76 54 [l0, l1, l2, l3, (0, x)] ((0, x) :: st) h := G_iload (m76 dX6_sameAtEnd_52) rfl
theorem e76_54 {d : Nat} {L : List AV} {h : AM} {v : Int} : EV d 76 54 L [(0, v)] h = some ((0, v), h) := E_iret (m76 dX6_sameAtEnd_54) (by rw [rt76]; rfl)
theorem e76_55 {d : Nat} {l0 l1 l2 l3 : AV} {st : List AV} {h : AM} {x : Int} : EV d 76 55 [l0, l1, l2, l3, (0, x)] st h = EV d 76 58 [l0, l1, l2, l3, (0, w32 (x + 1))] st h := G_iinc (m76 dX6_sameAtEnd_55) rfl rfl
theorem e76_58 {d : Nat} {L st : List AV} {h : AM} : EV d 76 58 L st h = EV d 76 15 L st h := G_goto (m76 dX6_sameAtEnd_58) rfl
theorem e76_61 {d : Nat} {l0 l1 l2 l4 : AV} {st : List AV} {h : AM} {x : Int} : EV d 76 61 [l0, l1, l2, (0, x), l4] st h = EV d 76 62 [l0, l1, l2, (0, x), l4] ((0, x) :: st) h := G_iload_n (m76 dX6_sameAtEnd_61) rfl
theorem e76_62 {d : Nat} {L : List AV} {h : AM} {v : Int} : EV d 76 62 L [(0, v)] h = some ((0, v), h) := E_iret (m76 dX6_sameAtEnd_62) (by rw [rt76]; rfl)
theorem e77_0 {d : Nat} {l0 l2 l3 l4 : AV} {st : List AV} {h : AM} {x : Int} : EV d 77 0 [l0, (2, x), l2, l3, l4] st h = EV d 77 1 [l0, (2, x), l2, l3, l4] ((2, x) :: st) h := G_aload_n (m77 dX6_unlikePlace_0) rfl
theorem e77_1 {d : Nat} {L st : List AV} {h : AM} {r : Int} (hk : isK h r 1) : EV d 77 1 L ((2, r) :: st) h = EV d 77 4 L ((0, mrd h r 6) :: st) h := G_get (m77 dX6_unlikePlace_1) ow77 tf_6_215 rfl rfl hk
theorem e77_4 {d : Nat} {l0 l1 l3 l4 : AV} {st : List AV} {h : AM} {x : Int} : EV d 77 4 [l0, l1, (2, x), l3, l4] st h = EV d 77 5 [l0, l1, (2, x), l3, l4] ((2, x) :: st) h := G_aload_n (m77 dX6_unlikePlace_4) rfl
theorem e77_5 {d : Nat} {L st : List AV} {h : AM} {r : Int} (hk : isK h r 1) : EV d 77 5 L ((2, r) :: st) h = EV d 77 8 L ((0, mrd h r 6) :: st) h := G_get (m77 dX6_unlikePlace_5) ow77 tf_6_215 rfl rfl hk
theorem e77_8 {d : Nat} {L st : List AV} {h : AM} {a b : Int} (hs : st.length ≤ 2) : EV (d + 1) 77 8 L ((0, b) :: (0, a) :: st) h = EV (d + 1) 77 11 L ((0, if b < a then b else a) :: st) h := E_min (m77 dX6_unlikePlace_8) (rr77 tr_6_243) hs
theorem e77_11 {d : Nat} {l0 l1 l2 l3 l4 : AV} {st : List AV} {h : AM} {x : Int} : EV d 77 11 [l0, l1, l2, l3, l4] ((0, x) :: st) h = EV d 77 12 [l0, l1, l2, (0, x), l4] st h := G_istore_n (m77 dX6_unlikePlace_11) (Nat.le_of_ble_eq_true rfl) rfl
theorem e77_12 {d : Nat} {L st : List AV} {h : AM} : EV d 77 12 L st h = EV d 77 13 L ((0, 0) :: st) h := G_iconst (m77 dX6_unlikePlace_12) (by decide)
theorem e77_13 {d : Nat} {l0 l1 l2 l3 l4 : AV} {st : List AV} {h : AM} {x : Int} : EV d 77 13 [l0, l1, l2, l3, l4] ((0, x) :: st) h = EV d 77 15 [l0, l1, l2, l3, (0, x)] st h := G_istore (m77 dX6_unlikePlace_13) (Nat.le_of_ble_eq_true rfl) rfl
theorem e77_15 {d : Nat} {l0 l1 l2 l3 : AV} {st : List AV} {h : AM} {x : Int} : EV d 77 15 [l0, l1, l2, l3, (0, x)] st h = EV d 77 17 [l0, l1, l2, l3, (0, x)] ((0, x) :: st) h := G_iload (m77 dX6_unlikePlace_15) rfl
theorem e77_17 {d : Nat} {l0 l1 l2 l4 : AV} {st : List AV} {h : AM} {x : Int} : EV d 77 17 [l0, l1, l2, (0, x), l4] st h = EV d 77 18 [l0, l1, l2, (0, x), l4] ((0, x) :: st) h := G_iload_n (m77 dX6_unlikePlace_17) rfl
theorem e77_18 {d : Nat} {L st : List AV} {h : AM} {a b : Int} : EV d 77 18 L ((0, b) :: (0, a) :: st) h = if a < b then EV d 77 21 L st h else EV d 77 47 L st h := (E_ic (m77 dX6_unlikePlace_18) (t := 47) rfl).trans cc_ge
theorem e77_21 {d : Nat} {l1 l2 l3 l4 : AV} {st : List AV} {h : AM} {x : Int} : EV d 77 21 [(2, x), l1, l2, l3, l4] st h = EV d 77 22 [(2, x), l1, l2, l3, l4] ((2, x) :: st) h := G_aload_n (m77 dX6_unlikePlace_21) rfl
theorem e77_22 {d : Nat} {l0 l2 l3 l4 : AV} {st : List AV} {h : AM} {x : Int} : EV d 77 22 [l0, (2, x), l2, l3, l4] st h = EV d 77 23 [l0, (2, x), l2, l3, l4] ((2, x) :: st) h := G_aload_n (m77 dX6_unlikePlace_22) rfl
theorem e77_23 {d : Nat} {l0 l1 l2 l3 : AV} {st : List AV} {h : AM} {x : Int} : EV d 77 23 [l0, l1, l2, l3, (0, x)] st h = EV d 77 25 [l0, l1, l2, l3, (0, x)] ((0, x) :: st) h := G_iload (m77 dX6_unlikePlace_23) rfl
theorem e77_25 {d : Nat} {L st : List AV} {h : AM} {r p0 p1 : Int} (hs : st.length ≤ 4) (hk : isK h r 6) : EV (d + 1) 77 25 L ((0, p1) :: (2, p0) :: (2, r) :: st) h = (EV d 67 0 [(2, r), (2, p0), (0, p1)] [] h).bind (fun q => EV (d + 1) 77 28 L (psh q.1 st) q.2) := G_cv [(2, p0), (0, p1)] (m77 dX6_unlikePlace_25) ow77 tr_6_248 (by decide) td67 np67 ml67 ow67 rfl rfl (Nat.le_of_ble_eq_true rfl) rfl hs hk
theorem e77_28 {d : Nat} {l1 l2 l3 l4 : AV} {st : List AV} {h : AM} {x : Int} : EV d 77 28 [(2, x), l1, l2, l3, l4] st h = EV d 77 29 [(2, x), l1, l2, l3, l4] ((2, x) :: st) h := G_aload_n (m77 dX6_unlikePlace_28) rfl
theorem e77_29 {d : Nat} {l0 l1 l3 l4 : AV} {st : List AV} {h : AM} {x : Int} : EV d 77 29 [l0, l1, (2, x), l3, l4] st h = EV d 77 30 [l0, l1, (2, x), l3, l4] ((2, x) :: st) h := G_aload_n (m77 dX6_unlikePlace_29) rfl
theorem e77_30 {d : Nat} {l0 l1 l2 l3 : AV} {st : List AV} {h : AM} {x : Int} : EV d 77 30 [l0, l1, l2, l3, (0, x)] st h = EV d 77 32 [l0, l1, l2, l3, (0, x)] ((0, x) :: st) h := G_iload (m77 dX6_unlikePlace_30) rfl
theorem e77_32 {d : Nat} {L st : List AV} {h : AM} {r p0 p1 : Int} (hs : st.length ≤ 4) (hk : isK h r 6) : EV (d + 1) 77 32 L ((0, p1) :: (2, p0) :: (2, r) :: st) h = (EV d 67 0 [(2, r), (2, p0), (0, p1)] [] h).bind (fun q => EV (d + 1) 77 35 L (psh q.1 st) q.2) := G_cv [(2, p0), (0, p1)] (m77 dX6_unlikePlace_32) ow77 tr_6_248 (by decide) td67 np67 ml67 ow67 rfl rfl (Nat.le_of_ble_eq_true rfl) rfl hs hk
theorem e77_35 {d : Nat} {L st : List AV} {h : AM} {a b : Int} : EV d 77 35 L ((0, b) :: (0, a) :: st) h = if a = b then EV d 77 41 L st h else EV d 77 38 L st h := (E_ic (m77 dX6_unlikePlace_35) (t := 41) rfl).trans cc_eq
theorem e77_38 {d : Nat} {l0 l1 l2 l3 : AV} {st : List AV} {h : AM} {x : Int} : EV d 77 38 [l0, l1, l2, l3, (0, x)] st h = EV d 77 40 [l0, l1, l2, l3, (0, x)] ((0, x) :: st) h := G_iload (m77 dX6_unlikePlace_38) rfl
theorem e77_40 {d : Nat} {L : List AV} {h : AM} {v : Int} : EV d 77 40 L [(0, v)] h = some ((0, v), h) := E_iret (m77 dX6_unlikePlace_40) (by rw [rt77]; rfl)
theorem e77_41 {d : Nat} {l0 l1 l2 l3 : AV} {st : List AV} {h : AM} {x : Int} : EV d 77 41 [l0, l1, l2, l3, (0, x)] st h = EV d 77 44 [l0, l1, l2, l3, (0, w32 (x + 1))] st h := G_iinc (m77 dX6_unlikePlace_41) rfl rfl
theorem e77_44 {d : Nat} {L st : List AV} {h : AM} : EV d 77 44 L st h = EV d 77 15 L st h := G_goto (m77 dX6_unlikePlace_44) rfl
theorem e77_47 {d : Nat} {l0 l2 l3 l4 : AV} {st : List AV} {h : AM} {x : Int} : EV d 77 47 [l0, (2, x), l2, l3, l4] st h = EV d 77 48 [l0, (2, x), l2, l3, l4] ((2, x) :: st) h := G_aload_n (m77 dX6_unlikePlace_47) rfl
theorem e77_48 {d : Nat} {L st : List AV} {h : AM} {r : Int} (hk : isK h r 1) : EV d 77 48 L ((2, r) :: st) h = EV d 77 51 L ((0, mrd h r 6) :: st) h := G_get (m77 dX6_unlikePlace_48) ow77 tf_6_215 rfl rfl hk
theorem e77_51 {d : Nat} {l0 l1 l3 l4 : AV} {st : List AV} {h : AM} {x : Int} : EV d 77 51 [l0, l1, (2, x), l3, l4] st h = EV d 77 52 [l0, l1, (2, x), l3, l4] ((2, x) :: st) h := G_aload_n (m77 dX6_unlikePlace_51) rfl
theorem e77_52 {d : Nat} {L st : List AV} {h : AM} {r : Int} (hk : isK h r 1) : EV d 77 52 L ((2, r) :: st) h = EV d 77 55 L ((0, mrd h r 6) :: st) h := G_get (m77 dX6_unlikePlace_52) ow77 tf_6_215 rfl rfl hk
theorem e77_55 {d : Nat} {L st : List AV} {h : AM} {a b : Int} : EV d 77 55 L ((0, b) :: (0, a) :: st) h = if a = b then EV d 77 58 L st h else EV d 77 62 L st h := (E_ic (m77 dX6_unlikePlace_55) (t := 62) rfl).trans cc_ne
theorem e77_58 {d : Nat} {L st : List AV} {h : AM} : EV d 77 58 L st h = EV d 77 59 L ((0, -1) :: st) h := G_iconst (m77 dX6_unlikePlace_58) (by decide)
theorem e77_59 {d : Nat} {L st : List AV} {h : AM} : EV d 77 59 L st h = EV d 77 63 L st h := G_goto (m77 dX6_unlikePlace_59) rfl
theorem e77_62 {d : Nat} {l0 l1 l2 l4 : AV} {st : List AV} {h : AM} {x : Int} : EV d 77 62 [l0, l1, l2, (0, x), l4] st h = EV d 77 63 [l0, l1, l2, (0, x), l4] ((0, x) :: st) h := G_iload_n (m77 dX6_unlikePlace_62) rfl
theorem e77_63 {d : Nat} {L : List AV} {h : AM} {v : Int} : EV d 77 63 L [(0, v)] h = some ((0, v), h) := E_iret (m77 dX6_unlikePlace_63) (by rw [rt77]; rfl)
theorem e78_0 {d : Nat} {l0 l1 l2 l4 l5 l6 : AV} {st : List AV} {h : AM} {x : Int} : EV d 78 0 [l0, l1, l2, (0, x), l4, l5, l6] st h = EV d 78 1 [l0, l1, l2, (0, x), l4, l5, l6] ((0, x) :: st) h := G_iload_n (m78 dX6_stopOfLife_0) rfl
theorem e78_1 {d : Nat} {l0 l1 l2 l3 l4 l5 l6 : AV} {st : List AV} {h : AM} {x : Int} : EV d 78 1 [l0, l1, l2, l3, l4, l5, l6] ((0, x) :: st) h = EV d 78 3 [l0, l1, l2, l3, (0, x), l5, l6] st h := G_istore (m78 dX6_stopOfLife_1) (Nat.le_of_ble_eq_true rfl) rfl
theorem e78_3 {d : Nat} {L st : List AV} {h : AM} : EV d 78 3 L st h = EV d 78 4 L ((0, 0) :: st) h := G_iconst (m78 dX6_stopOfLife_3) (by decide)
theorem e78_4 {d : Nat} {l0 l1 l2 l3 l4 l5 l6 : AV} {st : List AV} {h : AM} {x : Int} : EV d 78 4 [l0, l1, l2, l3, l4, l5, l6] ((0, x) :: st) h = EV d 78 6 [l0, l1, l2, l3, l4, (0, x), l6] st h := G_istore (m78 dX6_stopOfLife_4) (Nat.le_of_ble_eq_true rfl) rfl
theorem e78_6 {d : Nat} {l0 l1 l2 l3 l4 l6 : AV} {st : List AV} {h : AM} {x : Int} : EV d 78 6 [l0, l1, l2, l3, l4, (0, x), l6] st h = EV d 78 8 [l0, l1, l2, l3, l4, (0, x), l6] ((0, x) :: st) h := G_iload (m78 dX6_stopOfLife_6) rfl
theorem e78_8 {d : Nat} {l0 l1 l3 l4 l5 l6 : AV} {st : List AV} {h : AM} {x : Int} : EV d 78 8 [l0, l1, (0, x), l3, l4, l5, l6] st h = EV d 78 9 [l0, l1, (0, x), l3, l4, l5, l6] ((0, x) :: st) h := G_iload_n (m78 dX6_stopOfLife_8) rfl
theorem e78_9 {d : Nat} {L st : List AV} {h : AM} {a b : Int} : EV d 78 9 L ((0, b) :: (0, a) :: st) h = if a < b then EV d 78 12 L st h else EV d 78 51 L st h := (E_ic (m78 dX6_stopOfLife_9) (t := 51) rfl).trans cc_ge
theorem e78_12 {d : Nat} {l0 l2 l3 l4 l5 l6 : AV} {st : List AV} {h : AM} {x : Int} : EV d 78 12 [l0, (2, x), l2, l3, l4, l5, l6] st h = EV d 78 13 [l0, (2, x), l2, l3, l4, l5, l6] ((2, x) :: st) h := G_aload_n (m78 dX6_stopOfLife_12) rfl
theorem e78_13 {d : Nat} {L st : List AV} {h : AM} {r : Int} (hk : isK h r 8) : EV d 78 13 L ((2, r) :: st) h = EV d 78 16 L ((2, mrd h r 0) :: st) h := G_get (m78 dX6_stopOfLife_13) ow78 tf_6_188 rfl rfl hk
theorem e78_16 {d : Nat} {l0 l1 l2 l3 l4 l6 : AV} {st : List AV} {h : AM} {x : Int} : EV d 78 16 [l0, l1, l2, l3, l4, (0, x), l6] st h = EV d 78 18 [l0, l1, l2, l3, l4, (0, x), l6] ((0, x) :: st) h := G_iload (m78 dX6_stopOfLife_16) rfl
theorem e78_18 {d : Nat} {L st : List AV} {h : AM} {r j : Int} (hk : inA h r 19 j) : EV d 78 18 L ((0, j) :: (2, r) :: st) h = EV d 78 19 L ((1, mrd h r j) :: st) h := E_lald (m78 dX6_stopOfLife_18) hk
theorem e78_19 {d : Nat} {L st : List AV} {h : AM} {a : Int} : EV d 78 19 L ((1, a) :: st) h = EV d 78 20 L ((0, w32 a) :: st) h := G_l2i (m78 dX6_stopOfLife_19)
theorem e78_20 {d : Nat} {l0 l1 l2 l3 l4 l5 l6 : AV} {st : List AV} {h : AM} {x : Int} : EV d 78 20 [l0, l1, l2, l3, l4, l5, l6] ((0, x) :: st) h = EV d 78 22 [l0, l1, l2, l3, l4, l5, (0, x)] st h := G_istore (m78 dX6_stopOfLife_20) (Nat.le_of_ble_eq_true rfl) rfl
theorem e78_22 {d : Nat} {l1 l2 l3 l4 l5 l6 : AV} {st : List AV} {h : AM} {x : Int} : EV d 78 22 [(2, x), l1, l2, l3, l4, l5, l6] st h = EV d 78 23 [(2, x), l1, l2, l3, l4, l5, l6] ((2, x) :: st) h := G_aload_n (m78 dX6_stopOfLife_22) rfl
theorem e78_23 {d : Nat} {l0 l1 l2 l3 l5 l6 : AV} {st : List AV} {h : AM} {x : Int} : EV d 78 23 [l0, l1, l2, l3, (0, x), l5, l6] st h = EV d 78 25 [l0, l1, l2, l3, (0, x), l5, l6] ((0, x) :: st) h := G_iload (m78 dX6_stopOfLife_23) rfl
theorem e78_25 {d : Nat} {l0 l1 l2 l3 l4 l5 : AV} {st : List AV} {h : AM} {x : Int} : EV d 78 25 [l0, l1, l2, l3, l4, l5, (0, x)] st h = EV d 78 27 [l0, l1, l2, l3, l4, l5, (0, x)] ((0, x) :: st) h := G_iload (m78 dX6_stopOfLife_25) rfl
theorem e78_27 {d : Nat} {L st : List AV} {h : AM} {r p0 p1 : Int} (hs : st.length ≤ 4) (hk : isK h r 6) : EV (d + 1) 78 27 L ((0, p1) :: (0, p0) :: (2, r) :: st) h = (EV d 68 0 [(2, r), (0, p0), (0, p1)] [] h).bind (fun q => EV (d + 1) 78 30 L (psh q.1 st) q.2) := G_cv [(0, p0), (0, p1)] (m78 dX6_stopOfLife_27) ow78 tr_6_207 (by decide) td68 np68 ml68 ow68 rfl rfl (Nat.le_of_ble_eq_true rfl) rfl hs hk
theorem e78_30 {d : Nat} {L st : List AV} {h : AM} {a : Int} : EV d 78 30 L ((0, a) :: st) h = if a = 0 then EV d 78 33 L st h else EV d 78 36 L st h := (E_if (m78 dX6_stopOfLife_30) (t := 36) rfl).trans cc_ne
theorem e78_33 {d : Nat} {l0 l1 l2 l3 l4 l6 : AV} {st : List AV} {h : AM} {x : Int} : EV d 78 33 [l0, l1, l2, l3, l4, (0, x), l6] st h = EV d 78 35 [l0, l1, l2, l3, l4, (0, x), l6] ((0, x) :: st) h := G_iload (m78 dX6_stopOfLife_33) rfl
theorem e78_35 {d : Nat} {L : List AV} {h : AM} {v : Int} : EV d 78 35 L [(0, v)] h = some ((0, v), h) := E_iret (m78 dX6_stopOfLife_35) (by rw [rt78]; rfl)
theorem e78_36 {d : Nat} {l0 l1 l2 l3 l5 l6 : AV} {st : List AV} {h : AM} {x : Int} : EV d 78 36 [l0, l1, l2, l3, (0, x), l5, l6] st h = EV d 78 38 [l0, l1, l2, l3, (0, x), l5, l6] ((0, x) :: st) h := G_iload (m78 dX6_stopOfLife_36) rfl
theorem e78_38 {d : Nat} {L st : List AV} {h : AM} : EV d 78 38 L st h = EV d 78 39 L ((0, 1) :: st) h := G_iconst (m78 dX6_stopOfLife_38) (by decide)
theorem e78_39 {d : Nat} {l0 l1 l2 l3 l4 l5 : AV} {st : List AV} {h : AM} {x : Int} : EV d 78 39 [l0, l1, l2, l3, l4, l5, (0, x)] st h = EV d 78 41 [l0, l1, l2, l3, l4, l5, (0, x)] ((0, x) :: st) h := G_iload (m78 dX6_stopOfLife_39) rfl
theorem e78_41 {d : Nat} {L st : List AV} {h : AM} {a b : Int} : EV d 78 41 L ((0, b) :: (0, a) :: st) h = EV d 78 42 L ((0, i_shl a b) :: st) h := E_ishl (m78 dX6_stopOfLife_41)
theorem e78_42 {d : Nat} {L st : List AV} {h : AM} {a b : Int} : EV d 78 42 L ((0, b) :: (0, a) :: st) h = EV d 78 43 L ((0, i_or a b) :: st) h := E_ior (m78 dX6_stopOfLife_42)
theorem e78_43 {d : Nat} {l0 l1 l2 l3 l4 l5 l6 : AV} {st : List AV} {h : AM} {x : Int} : EV d 78 43 [l0, l1, l2, l3, l4, l5, l6] ((0, x) :: st) h = EV d 78 45 [l0, l1, l2, l3, (0, x), l5, l6] st h := G_istore (m78 dX6_stopOfLife_43) (Nat.le_of_ble_eq_true rfl) rfl
theorem e78_45 {d : Nat} {l0 l1 l2 l3 l4 l6 : AV} {st : List AV} {h : AM} {x : Int} : EV d 78 45 [l0, l1, l2, l3, l4, (0, x), l6] st h = EV d 78 48 [l0, l1, l2, l3, l4, (0, w32 (x + 1)), l6] st h := G_iinc (m78 dX6_stopOfLife_45) rfl rfl
theorem e78_48 {d : Nat} {L st : List AV} {h : AM} : EV d 78 48 L st h = EV d 78 6 L st h := G_goto (m78 dX6_stopOfLife_48) rfl
theorem e78_51 {d : Nat} {L st : List AV} {h : AM} : EV d 78 51 L st h = EV d 78 52 L ((0, -1) :: st) h := G_iconst (m78 dX6_stopOfLife_51) (by decide)
theorem e78_52 {d : Nat} {L : List AV} {h : AM} {v : Int} : EV d 78 52 L [(0, v)] h = some ((0, v), h) := E_iret (m78 dX6_stopOfLife_52) (by rw [rt78]; rfl)
theorem e79_0 {d : Nat} {l1 l2 l3 : AV} {st : List AV} {h : AM} {x : Int} : EV d 79 0 [(2, x), l1, l2, l3] st h = EV d 79 1 [(2, x), l1, l2, l3] ((2, x) :: st) h := G_aload_n (m79 dX6_allNeeds_0) rfl
theorem e79_1 {d : Nat} {L st : List AV} {h : AM} {r : Int} (hk : isK h r 6) : EV d 79 1 L ((2, r) :: st) h = EV d 79 4 L ((2, mrd h r 1) :: st) h := G_get (m79 dX6_allNeeds_1) ow79 tf_6_17 rfl rfl hk
theorem e79_4 {d : Nat} {l0 l2 l3 : AV} {st : List AV} {h : AM} {x : Int} : EV d 79 4 [l0, (0, x), l2, l3] st h = EV d 79 5 [l0, (0, x), l2, l3] ((0, x) :: st) h := G_iload_n (m79 dX6_allNeeds_4) rfl
theorem e79_5 {d : Nat} {L st : List AV} {h : AM} {r j : Int} (hk : inR h r j) : EV d 79 5 L ((0, j) :: (2, r) :: st) h = EV d 79 6 L ((2, mrd h r j) :: st) h := G_aald (m79 dX6_allNeeds_5) hk
theorem e79_6 {d : Nat} {L st : List AV} {h : AM} {r : Int} (hk : isK h r 2) : EV d 79 6 L ((2, r) :: st) h = EV d 79 9 L ((0, mrd h r 6) :: st) h := G_get (m79 dX6_allNeeds_6) ow79 tf_6_161 rfl rfl hk
theorem e79_9 {d : Nat} {l0 l1 l2 l3 : AV} {st : List AV} {h : AM} {x : Int} : EV d 79 9 [l0, l1, l2, l3] ((0, x) :: st) h = EV d 79 10 [l0, l1, (0, x), l3] st h := G_istore_n (m79 dX6_allNeeds_9) (Nat.le_of_ble_eq_true rfl) rfl
theorem e79_10 {d : Nat} {l0 l2 l3 : AV} {st : List AV} {h : AM} {x : Int} : EV d 79 10 [l0, (0, x), l2, l3] st h = EV d 79 11 [l0, (0, x), l2, l3] ((0, x) :: st) h := G_iload_n (m79 dX6_allNeeds_10) rfl
theorem e79_11 {d : Nat} {L st : List AV} {h : AM} : EV d 79 11 L st h = EV d 79 12 L ((0, 1) :: st) h := G_iconst (m79 dX6_allNeeds_11) (by decide)
theorem e79_12 {d : Nat} {L st : List AV} {h : AM} {a b : Int} : EV d 79 12 L ((0, b) :: (0, a) :: st) h = EV d 79 13 L ((0, w32 (a - b)) :: st) h := E_isub (m79 dX6_allNeeds_12)
theorem e79_13 {d : Nat} {l0 l1 l2 l3 : AV} {st : List AV} {h : AM} {x : Int} : EV d 79 13 [l0, l1, l2, l3] ((0, x) :: st) h = EV d 79 14 [l0, l1, l2, (0, x)] st h := G_istore_n (m79 dX6_allNeeds_13) (Nat.le_of_ble_eq_true rfl) rfl
theorem e79_14 {d : Nat} {l0 l1 l2 : AV} {st : List AV} {h : AM} {x : Int} : EV d 79 14 [l0, l1, l2, (0, x)] st h = EV d 79 15 [l0, l1, l2, (0, x)] ((0, x) :: st) h := G_iload_n (m79 dX6_allNeeds_14) rfl
theorem e79_15 {d : Nat} {L st : List AV} {h : AM} {a : Int} : EV d 79 15 L ((0, a) :: st) h = if a < 0 then EV d 79 44 L st h else EV d 79 18 L st h := (E_if (m79 dX6_allNeeds_15) (t := 44) rfl).trans cc_lt
theorem e79_18 {d : Nat} {l0 l1 l3 : AV} {st : List AV} {h : AM} {x : Int} : EV d 79 18 [l0, l1, (0, x), l3] st h = EV d 79 19 [l0, l1, (0, x), l3] ((0, x) :: st) h := G_iload_n (m79 dX6_allNeeds_18) rfl
theorem e79_19 {d : Nat} {L st : List AV} {h : AM} : EV d 79 19 L st h = EV d 79 20 L ((0, 1) :: st) h := G_iconst (m79 dX6_allNeeds_19) (by decide)
theorem e79_20 {d : Nat} {l0 l1 l2 : AV} {st : List AV} {h : AM} {x : Int} : EV d 79 20 [l0, l1, l2, (0, x)] st h = EV d 79 21 [l0, l1, l2, (0, x)] ((0, x) :: st) h := G_iload_n (m79 dX6_allNeeds_20) rfl
theorem e79_21 {d : Nat} {L st : List AV} {h : AM} {a b : Int} : EV d 79 21 L ((0, b) :: (0, a) :: st) h = EV d 79 22 L ((0, i_shl a b) :: st) h := E_ishl (m79 dX6_allNeeds_21)
theorem e79_22 {d : Nat} {L st : List AV} {h : AM} {a b : Int} : EV d 79 22 L ((0, b) :: (0, a) :: st) h = EV d 79 23 L ((0, i_and a b) :: st) h := E_iand (m79 dX6_allNeeds_22)
theorem e79_23 {d : Nat} {L st : List AV} {h : AM} {a : Int} : EV d 79 23 L ((0, a) :: st) h = if a = 0 then EV d 79 38 L st h else EV d 79 26 L st h := (E_if (m79 dX6_allNeeds_23) (t := 38) rfl).trans cc_eq
theorem e79_26 {d : Nat} {l0 l1 l3 : AV} {st : List AV} {h : AM} {x : Int} : EV d 79 26 [l0, l1, (0, x), l3] st h = EV d 79 27 [l0, l1, (0, x), l3] ((0, x) :: st) h := G_iload_n (m79 dX6_allNeeds_26) rfl
theorem e79_27 {d : Nat} {l1 l2 l3 : AV} {st : List AV} {h : AM} {x : Int} : EV d 79 27 [(2, x), l1, l2, l3] st h = EV d 79 28 [(2, x), l1, l2, l3] ((2, x) :: st) h := G_aload_n (m79 dX6_allNeeds_27) rfl
theorem e79_28 {d : Nat} {L st : List AV} {h : AM} {r : Int} (hk : isK h r 6) : EV d 79 28 L ((2, r) :: st) h = EV d 79 31 L ((2, mrd h r 1) :: st) h := G_get (m79 dX6_allNeeds_28) ow79 tf_6_17 rfl rfl hk
theorem e79_31 {d : Nat} {l0 l1 l2 : AV} {st : List AV} {h : AM} {x : Int} : EV d 79 31 [l0, l1, l2, (0, x)] st h = EV d 79 32 [l0, l1, l2, (0, x)] ((0, x) :: st) h := G_iload_n (m79 dX6_allNeeds_31) rfl
theorem e79_32 {d : Nat} {L st : List AV} {h : AM} {r j : Int} (hk : inR h r j) : EV d 79 32 L ((0, j) :: (2, r) :: st) h = EV d 79 33 L ((2, mrd h r j) :: st) h := G_aald (m79 dX6_allNeeds_32) hk
theorem e79_33 {d : Nat} {L st : List AV} {h : AM} {r : Int} (hk : isK h r 2) : EV d 79 33 L ((2, r) :: st) h = EV d 79 36 L ((0, mrd h r 6) :: st) h := G_get (m79 dX6_allNeeds_33) ow79 tf_6_161 rfl rfl hk
theorem e79_36 {d : Nat} {L st : List AV} {h : AM} {a b : Int} : EV d 79 36 L ((0, b) :: (0, a) :: st) h = EV d 79 37 L ((0, i_or a b) :: st) h := E_ior (m79 dX6_allNeeds_36)
theorem e79_37 {d : Nat} {l0 l1 l2 l3 : AV} {st : List AV} {h : AM} {x : Int} : EV d 79 37 [l0, l1, l2, l3] ((0, x) :: st) h = EV d 79 38 [l0, l1, (0, x), l3] st h := G_istore_n (m79 dX6_allNeeds_37) (Nat.le_of_ble_eq_true rfl) rfl
theorem e79_38 {d : Nat} {l0 l1 l2 : AV} {st : List AV} {h : AM} {x : Int} : EV d 79 38 [l0, l1, l2, (0, x)] st h = EV d 79 41 [l0, l1, l2, (0, w32 (x + (-1)))] st h := G_iinc (m79 dX6_allNeeds_38) rfl rfl
theorem e79_41 {d : Nat} {L st : List AV} {h : AM} : EV d 79 41 L st h = EV d 79 14 L st h := G_goto (m79 dX6_allNeeds_41) rfl
theorem e79_44 {d : Nat} {l0 l1 l3 : AV} {st : List AV} {h : AM} {x : Int} : EV d 79 44 [l0, l1, (0, x), l3] st h = EV d 79 45 [l0, l1, (0, x), l3] ((0, x) :: st) h := G_iload_n (m79 dX6_allNeeds_44) rfl
theorem e79_45 {d : Nat} {L : List AV} {h : AM} {v : Int} : EV d 79 45 L [(0, v)] h = some ((0, v), h) := E_iret (m79 dX6_allNeeds_45) (by rw [rt79]; rfl)
theorem e80_0 {d : Nat} {L st : List AV} {h : AM} : EV d 80 0 L st h = EV d 80 1 L ((0, 0) :: st) h := G_iconst (m80 dX6_needing_0) (by decide)
theorem e80_1 {d : Nat} {l0 l1 l2 l3 : AV} {st : List AV} {h : AM} {x : Int} : EV d 80 1 [l0, l1, l2, l3] ((0, x) :: st) h = EV d 80 2 [l0, l1, (0, x), l3] st h := G_istore_n (m80 dX6_needing_1) (Nat.le_of_ble_eq_true rfl) rfl
theorem e80_2 {d : Nat} {L st : List AV} {h : AM} : EV d 80 2 L st h = EV d 80 3 L ((0, 0) :: st) h := G_iconst (m80 dX6_needing_2) (by decide)
theorem e80_3 {d : Nat} {l0 l1 l2 l3 : AV} {st : List AV} {h : AM} {x : Int} : EV d 80 3 [l0, l1, l2, l3] ((0, x) :: st) h = EV d 80 4 [l0, l1, l2, (0, x)] st h := G_istore_n (m80 dX6_needing_3) (Nat.le_of_ble_eq_true rfl) rfl
theorem e80_4 {d : Nat} {l0 l1 l2 : AV} {st : List AV} {h : AM} {x : Int} : EV d 80 4 [l0, l1, l2, (0, x)] st h = EV d 80 5 [l0, l1, l2, (0, x)] ((0, x) :: st) h := G_iload_n (m80 dX6_needing_4) rfl
theorem e80_5 {d : Nat} {l1 l2 l3 : AV} {st : List AV} {h : AM} {x : Int} : EV d 80 5 [(2, x), l1, l2, l3] st h = EV d 80 6 [(2, x), l1, l2, l3] ((2, x) :: st) h := G_aload_n (m80 dX6_needing_5) rfl
theorem e80_6 {d : Nat} {L st : List AV} {h : AM} {r : Int} (hk : isK h r 6) : EV d 80 6 L ((2, r) :: st) h = EV d 80 9 L ((0, mrd h r 6) :: st) h := G_get (m80 dX6_needing_6) ow80 tf_6_47 rfl rfl hk
theorem e80_9 {d : Nat} {L st : List AV} {h : AM} {a b : Int} : EV d 80 9 L ((0, b) :: (0, a) :: st) h = if a < b then EV d 80 12 L st h else EV d 80 33 L st h := (E_ic (m80 dX6_needing_9) (t := 33) rfl).trans cc_ge
theorem e80_12 {d : Nat} {l1 l2 l3 : AV} {st : List AV} {h : AM} {x : Int} : EV d 80 12 [(2, x), l1, l2, l3] st h = EV d 80 13 [(2, x), l1, l2, l3] ((2, x) :: st) h := G_aload_n (m80 dX6_needing_12) rfl
theorem e80_13 {d : Nat} {l0 l1 l2 : AV} {st : List AV} {h : AM} {x : Int} : EV d 80 13 [l0, l1, l2, (0, x)] st h = EV d 80 14 [l0, l1, l2, (0, x)] ((0, x) :: st) h := G_iload_n (m80 dX6_needing_13) rfl
theorem e80_14 {d : Nat} {L st : List AV} {h : AM} {r p0 : Int} (hs : st.length ≤ 4) (hk : isK h r 6) : EV (d + 1) 80 14 L ((0, p0) :: (2, r) :: st) h = (EV d 79 0 [(2, r), (0, p0), (3, 0), (3, 0)] [] h).bind (fun q => EV (d + 1) 80 17 L (psh q.1 st) q.2) := G_cv [(0, p0)] (m80 dX6_needing_14) ow80 tr_6_251 (by decide) td79 np79 ml79 ow79 rfl rfl (Nat.le_of_ble_eq_true rfl) rfl hs hk
theorem e80_17 {d : Nat} {L st : List AV} {h : AM} : EV d 80 17 L st h = EV d 80 18 L ((0, 1) :: st) h := G_iconst (m80 dX6_needing_17) (by decide)
theorem e80_18 {d : Nat} {l0 l2 l3 : AV} {st : List AV} {h : AM} {x : Int} : EV d 80 18 [l0, (0, x), l2, l3] st h = EV d 80 19 [l0, (0, x), l2, l3] ((0, x) :: st) h := G_iload_n (m80 dX6_needing_18) rfl
theorem e80_19 {d : Nat} {L st : List AV} {h : AM} {a b : Int} : EV d 80 19 L ((0, b) :: (0, a) :: st) h = EV d 80 20 L ((0, i_shl a b) :: st) h := E_ishl (m80 dX6_needing_19)
theorem e80_20 {d : Nat} {L st : List AV} {h : AM} {a b : Int} : EV d 80 20 L ((0, b) :: (0, a) :: st) h = EV d 80 21 L ((0, i_and a b) :: st) h := E_iand (m80 dX6_needing_20)
theorem e80_21 {d : Nat} {L st : List AV} {h : AM} {a : Int} : EV d 80 21 L ((0, a) :: st) h = if a = 0 then EV d 80 27 L st h else EV d 80 24 L st h := (E_if (m80 dX6_needing_21) (t := 27) rfl).trans cc_eq
theorem e80_24 {d : Nat} {l0 l1 l3 : AV} {st : List AV} {h : AM} {x : Int} : EV d 80 24 [l0, l1, (0, x), l3] st h = EV d 80 27 [l0, l1, (0, w32 (x + 1)), l3] st h := G_iinc (m80 dX6_needing_24) rfl rfl
theorem e80_27 {d : Nat} {l0 l1 l2 : AV} {st : List AV} {h : AM} {x : Int} : EV d 80 27 [l0, l1, l2, (0, x)] st h = EV d 80 30 [l0, l1, l2, (0, w32 (x + 1))] st h := G_iinc (m80 dX6_needing_27) rfl rfl
theorem e80_30 {d : Nat} {L st : List AV} {h : AM} : EV d 80 30 L st h = EV d 80 4 L st h := G_goto (m80 dX6_needing_30) rfl
theorem e80_33 {d : Nat} {l0 l1 l3 : AV} {st : List AV} {h : AM} {x : Int} : EV d 80 33 [l0, l1, (0, x), l3] st h = EV d 80 34 [l0, l1, (0, x), l3] ((0, x) :: st) h := G_iload_n (m80 dX6_needing_33) rfl
theorem e80_34 {d : Nat} {L : List AV} {h : AM} {v : Int} : EV d 80 34 L [(0, v)] h = some ((0, v), h) := E_iret (m80 dX6_needing_34) (by rw [rt80]; rfl)
