theorem e171_0 {d : Nat} {l1 : AV} {st : List AV} {h : AM} {x : Int} : EV d 171 0 [(2, x), l1] st h = EV d 171 1 [(2, x), l1] ((2, x) :: st) h := G_aload_n (m171 dX11_init_0) rfl
theorem e171_1 {d : Nat} {L st : List AV} {h : AM} {r : Int} (hs : st.length ≤ 4) (h0 : 0 ≤ r) : EV (d + 1) 171 1 L ((2, r) :: st) h = EV (d + 1) 171 4 L st h := E_oi (m171 dX11_init_1) (rr171 tr_11_1) hs h0
theorem e171_4 {d : Nat} {l1 : AV} {st : List AV} {h : AM} {x : Int} : EV d 171 4 [(2, x), l1] st h = EV d 171 5 [(2, x), l1] ((2, x) :: st) h := G_aload_n (m171 dX11_init_4) rfl
theorem e171_5 {d : Nat} {L st : List AV} {h : AM} : EV d 171 5 L st h = EV d 171 6 L ((1, 1) :: st) h := G_lconst1 (m171 dX11_init_5)
theorem pk_171_11_3 : pok 171 11 3 1 = true := by decide +kernel
theorem e171_6 {d : Nat} {L st : List AV} {h : AM} {r v : Int} (hk : isK h r 11) : EV d 171 6 L ((1, v) :: (2, r) :: st) h = EV d 171 9 L st (mwr h r 3 v) := G_put (m171 dX11_init_6) ow171 tf_11_7 pk_171_11_3 rfl hk
theorem e171_9 {d : Nat} {l1 : AV} {st : List AV} {h : AM} {x : Int} : EV d 171 9 [(2, x), l1] st h = EV d 171 10 [(2, x), l1] ((2, x) :: st) h := G_aload_n (m171 dX11_init_9) rfl
theorem e171_10 {d : Nat} {L st : List AV} {h : AM} : EV d 171 10 L st h = EV d 171 11 L ((0, 4) :: st) h := G_iconst (m171 dX11_init_10) (by decide)
theorem e171_11 {d : Nat} {L st : List AV} {h : AM} {n : Int} (h0 : 0 ≤ n) (h1 : n ≤ 1000000) : EV d 171 11 L ((0, n) :: st) h = EV d 171 13 L ((2, mnx h) :: st) (mal h 16 n (fun _ => 0)) := E_newi (m171 dX11_init_11) ⟨h0, h1⟩
theorem pk_171_11_4 : pok 171 11 4 2 = true := by decide +kernel
theorem e171_13 {d : Nat} {L st : List AV} {h : AM} {r v : Int} (hk : isK h r 11) : EV d 171 13 L ((2, v) :: (2, r) :: st) h = EV d 171 16 L st (mwr h r 4 v) := G_put (m171 dX11_init_13) ow171 tf_11_13 pk_171_11_4 rfl hk
theorem e171_16 {d : Nat} {l1 : AV} {st : List AV} {h : AM} {x : Int} : EV d 171 16 [(2, x), l1] st h = EV d 171 17 [(2, x), l1] ((2, x) :: st) h := G_aload_n (m171 dX11_init_16) rfl
theorem e171_17 {d : Nat} {L st : List AV} {h : AM} : EV d 171 17 L st h = EV d 171 18 L ((0, 4) :: st) h := G_iconst (m171 dX11_init_17) (by decide)
theorem e171_18 {d : Nat} {L st : List AV} {h : AM} {n : Int} (h0 : 0 ≤ n) (h1 : n ≤ 1000000) : EV d 171 18 L ((0, n) :: st) h = EV d 171 20 L ((2, mnx h) :: st) (mal h 16 n (fun _ => 0)) := E_newi (m171 dX11_init_18) ⟨h0, h1⟩
theorem pk_171_11_5 : pok 171 11 5 2 = true := by decide +kernel
theorem e171_20 {d : Nat} {L st : List AV} {h : AM} {r v : Int} (hk : isK h r 11) : EV d 171 20 L ((2, v) :: (2, r) :: st) h = EV d 171 23 L st (mwr h r 5 v) := G_put (m171 dX11_init_20) ow171 tf_11_17 pk_171_11_5 rfl hk
theorem e171_23 {d : Nat} {l1 : AV} {st : List AV} {h : AM} {x : Int} : EV d 171 23 [(2, x), l1] st h = EV d 171 24 [(2, x), l1] ((2, x) :: st) h := G_aload_n (m171 dX11_init_23) rfl
theorem e171_24 {d : Nat} {L st : List AV} {h : AM} : EV d 171 24 L st h = EV d 171 27 L ((0, 240) :: st) h := G_sipush (m171 dX11_init_24) (by decide)
theorem e171_27 {d : Nat} {L st : List AV} {h : AM} {n : Int} (h0 : 0 ≤ n) (h1 : n ≤ 1000000) : EV d 171 27 L ((0, n) :: st) h = EV d 171 29 L ((2, mnx h) :: st) (mal h 19 n (fun _ => 0)) := E_newl (m171 dX11_init_27) ⟨h0, h1⟩
theorem pk_171_11_6 : pok 171 11 6 2 = true := by decide +kernel
theorem e171_29 {d : Nat} {L st : List AV} {h : AM} {r v : Int} (hk : isK h r 11) : EV d 171 29 L ((2, v) :: (2, r) :: st) h = EV d 171 32 L st (mwr h r 6 v) := G_put (m171 dX11_init_29) ow171 tf_11_20 pk_171_11_6 rfl hk
theorem e171_32 {d : Nat} {l1 : AV} {st : List AV} {h : AM} {x : Int} : EV d 171 32 [(2, x), l1] st h = EV d 171 33 [(2, x), l1] ((2, x) :: st) h := G_aload_n (m171 dX11_init_32) rfl
theorem e171_33 {d : Nat} {L st : List AV} {h : AM} : EV d 171 33 L st h = EV d 171 36 L ((0, 900) :: st) h := G_sipush (m171 dX11_init_33) (by decide)
theorem e171_36 {d : Nat} {L st : List AV} {h : AM} {n : Int} (h0 : 0 ≤ n) (h1 : n ≤ 1000000) : EV d 171 36 L ((0, n) :: st) h = EV d 171 38 L ((2, mnx h) :: st) (mal h 17 n (fun _ => 0)) := E_newb (m171 dX11_init_36) ⟨h0, h1⟩
theorem pk_171_11_7 : pok 171 11 7 2 = true := by decide +kernel
theorem e171_38 {d : Nat} {L st : List AV} {h : AM} {r v : Int} (hk : isK h r 11) : EV d 171 38 L ((2, v) :: (2, r) :: st) h = EV d 171 41 L st (mwr h r 7 v) := G_put (m171 dX11_init_38) ow171 tf_11_24 pk_171_11_7 rfl hk
theorem e171_41 {d : Nat} {l1 : AV} {st : List AV} {h : AM} {x : Int} : EV d 171 41 [(2, x), l1] st h = EV d 171 42 [(2, x), l1] ((2, x) :: st) h := G_aload_n (m171 dX11_init_41) rfl
theorem e171_42 {d : Nat} {L st : List AV} {h : AM} : EV d 171 42 L st h = EV d 171 43 L ((0, -1) :: st) h := G_iconst (m171 dX11_init_42) (by decide)
theorem pk_171_11_10 : pok 171 11 10 0 = true := by decide +kernel
theorem e171_43 {d : Nat} {L st : List AV} {h : AM} {r v : Int} (hk : isK h r 11) : EV d 171 43 L ((0, v) :: (2, r) :: st) h = EV d 171 46 L st (mwr h r 10 v) := G_put (m171 dX11_init_43) ow171 tf_11_28 pk_171_11_10 rfl hk
theorem e171_46 {d : Nat} {l1 : AV} {st : List AV} {h : AM} {x : Int} : EV d 171 46 [(2, x), l1] st h = EV d 171 47 [(2, x), l1] ((2, x) :: st) h := G_aload_n (m171 dX11_init_46) rfl
theorem e171_47 {d : Nat} {L st : List AV} {h : AM} : EV d 171 47 L st h = EV d 171 48 L ((0, -1) :: st) h := G_iconst (m171 dX11_init_47) (by decide)
theorem pk_171_11_11 : pok 171 11 11 0 = true := by decide +kernel
theorem e171_48 {d : Nat} {L st : List AV} {h : AM} {r v : Int} (hk : isK h r 11) : EV d 171 48 L ((0, v) :: (2, r) :: st) h = EV d 171 51 L st (mwr h r 11 v) := G_put (m171 dX11_init_48) ow171 tf_11_32 pk_171_11_11 rfl hk
theorem e171_51 {d : Nat} {l1 : AV} {st : List AV} {h : AM} {x : Int} : EV d 171 51 [(2, x), l1] st h = EV d 171 52 [(2, x), l1] ((2, x) :: st) h := G_aload_n (m171 dX11_init_51) rfl
theorem e171_52 {d : Nat} {L st : List AV} {h : AM} : EV d 171 52 L st h = EV d 171 55 L ((0, 2050) :: st) h := G_sipush (m171 dX11_init_52) (by decide)
theorem e171_55 {d : Nat} {L st : List AV} {h : AM} {n : Int} (h0 : 0 ≤ n) (h1 : n ≤ 1000000) : EV d 171 55 L ((0, n) :: st) h = EV d 171 57 L ((2, mnx h) :: st) (mal h 16 n (fun _ => 0)) := E_newi (m171 dX11_init_55) ⟨h0, h1⟩
theorem pk_171_11_20 : pok 171 11 20 2 = true := by decide +kernel
theorem e171_57 {d : Nat} {L st : List AV} {h : AM} {r v : Int} (hk : isK h r 11) : EV d 171 57 L ((2, v) :: (2, r) :: st) h = EV d 171 60 L st (mwr h r 20 v) := G_put (m171 dX11_init_57) ow171 tf_11_35 pk_171_11_20 rfl hk
theorem e171_60 {d : Nat} {l1 : AV} {st : List AV} {h : AM} {x : Int} : EV d 171 60 [(2, x), l1] st h = EV d 171 61 [(2, x), l1] ((2, x) :: st) h := G_aload_n (m171 dX11_init_60) rfl
theorem e171_61 {d : Nat} {L st : List AV} {h : AM} : EV d 171 61 L st h = EV d 171 64 L ((0, 128) :: st) h := G_sipush (m171 dX11_init_61) (by decide)
theorem e171_64 {d : Nat} {L st : List AV} {h : AM} {n : Int} (h0 : 0 ≤ n) (h1 : n ≤ 1000000) : EV d 171 64 L ((0, n) :: st) h = EV d 171 66 L ((2, mnx h) :: st) (mal h 16 n (fun _ => 0)) := E_newi (m171 dX11_init_64) ⟨h0, h1⟩
theorem pk_171_11_21 : pok 171 11 21 2 = true := by decide +kernel
theorem e171_66 {d : Nat} {L st : List AV} {h : AM} {r v : Int} (hk : isK h r 11) : EV d 171 66 L ((2, v) :: (2, r) :: st) h = EV d 171 69 L st (mwr h r 21 v) := G_put (m171 dX11_init_66) ow171 tf_11_38 pk_171_11_21 rfl hk
theorem e171_69 {d : Nat} {l1 : AV} {st : List AV} {h : AM} {x : Int} : EV d 171 69 [(2, x), l1] st h = EV d 171 70 [(2, x), l1] ((2, x) :: st) h := G_aload_n (m171 dX11_init_69) rfl
theorem e171_70 {d : Nat} {L st : List AV} {h : AM} : EV d 171 70 L st h = EV d 171 72 L ((0, 100) :: st) h := G_bipush (m171 dX11_init_70) (by decide)
theorem e171_72 {d : Nat} {L st : List AV} {h : AM} {n : Int} (h0 : 0 ≤ n) (h1 : n ≤ 1000000) : EV d 171 72 L ((0, n) :: st) h = EV d 171 74 L ((2, mnx h) :: st) (mal h 19 n (fun _ => 0)) := E_newl (m171 dX11_init_72) ⟨h0, h1⟩
theorem pk_171_11_22 : pok 171 11 22 2 = true := by decide +kernel
theorem e171_74 {d : Nat} {L st : List AV} {h : AM} {r v : Int} (hk : isK h r 11) : EV d 171 74 L ((2, v) :: (2, r) :: st) h = EV d 171 77 L st (mwr h r 22 v) := G_put (m171 dX11_init_74) ow171 tf_11_41 pk_171_11_22 rfl hk
theorem e171_77 {d : Nat} {l1 : AV} {st : List AV} {h : AM} {x : Int} : EV d 171 77 [(2, x), l1] st h = EV d 171 78 [(2, x), l1] ((2, x) :: st) h := G_aload_n (m171 dX11_init_77) rfl
theorem e171_78 {d : Nat} {L st : List AV} {h : AM} : EV d 171 78 L st h = EV d 171 80 L ((0, 13) :: st) h := G_bipush (m171 dX11_init_78) (by decide)
theorem e171_80 {d : Nat} {L st : List AV} {h : AM} {n : Int} (h0 : 0 ≤ n) (h1 : n ≤ 1000000) : EV d 171 80 L ((0, n) :: st) h = EV d 171 82 L ((2, mnx h) :: st) (mal h 16 n (fun _ => 0)) := E_newi (m171 dX11_init_80) ⟨h0, h1⟩
theorem pk_171_11_26 : pok 171 11 26 2 = true := by decide +kernel
theorem e171_82 {d : Nat} {L st : List AV} {h : AM} {r v : Int} (hk : isK h r 11) : EV d 171 82 L ((2, v) :: (2, r) :: st) h = EV d 171 85 L st (mwr h r 26 v) := G_put (m171 dX11_init_82) ow171 tf_11_44 pk_171_11_26 rfl hk
theorem e171_85 {d : Nat} {l1 : AV} {st : List AV} {h : AM} {x : Int} : EV d 171 85 [(2, x), l1] st h = EV d 171 86 [(2, x), l1] ((2, x) :: st) h := G_aload_n (m171 dX11_init_85) rfl
theorem e171_86 {d : Nat} {L st : List AV} {h : AM} : EV d 171 86 L st h = EV d 171 89 L ((0, 4096) :: st) h := G_sipush (m171 dX11_init_86) (by decide)
theorem e171_89 {d : Nat} {L st : List AV} {h : AM} {n : Int} (h0 : 0 ≤ n) (h1 : n ≤ 1000000) : EV d 171 89 L ((0, n) :: st) h = EV d 171 91 L ((2, mnx h) :: st) (mal h 19 n (fun _ => 0)) := E_newl (m171 dX11_init_89) ⟨h0, h1⟩
theorem pk_171_11_28 : pok 171 11 28 2 = true := by decide +kernel
theorem e171_91 {d : Nat} {L st : List AV} {h : AM} {r v : Int} (hk : isK h r 11) : EV d 171 91 L ((2, v) :: (2, r) :: st) h = EV d 171 94 L st (mwr h r 28 v) := G_put (m171 dX11_init_91) ow171 tf_11_47 pk_171_11_28 rfl hk
theorem e171_94 {d : Nat} {l1 : AV} {st : List AV} {h : AM} {x : Int} : EV d 171 94 [(2, x), l1] st h = EV d 171 95 [(2, x), l1] ((2, x) :: st) h := G_aload_n (m171 dX11_init_94) rfl
theorem e171_95 {d : Nat} {L st : List AV} {h : AM} : EV d 171 95 L st h = EV d 171 98 L ((0, 4096) :: st) h := G_sipush (m171 dX11_init_95) (by decide)
theorem e171_98 {d : Nat} {L st : List AV} {h : AM} {n : Int} (h0 : 0 ≤ n) (h1 : n ≤ 1000000) : EV d 171 98 L ((0, n) :: st) h = EV d 171 100 L ((2, mnx h) :: st) (mal h 16 n (fun _ => 0)) := E_newi (m171 dX11_init_98) ⟨h0, h1⟩
theorem pk_171_11_29 : pok 171 11 29 2 = true := by decide +kernel
theorem e171_100 {d : Nat} {L st : List AV} {h : AM} {r v : Int} (hk : isK h r 11) : EV d 171 100 L ((2, v) :: (2, r) :: st) h = EV d 171 103 L st (mwr h r 29 v) := G_put (m171 dX11_init_100) ow171 tf_11_50 pk_171_11_29 rfl hk
theorem e171_103 {d : Nat} {l1 : AV} {st : List AV} {h : AM} {x : Int} : EV d 171 103 [(2, x), l1] st h = EV d 171 104 [(2, x), l1] ((2, x) :: st) h := G_aload_n (m171 dX11_init_103) rfl
theorem e171_104 {d : Nat} {L st : List AV} {h : AM} : EV d 171 104 L st h = EV d 171 107 L ((0, 4096) :: st) h := G_sipush (m171 dX11_init_104) (by decide)
theorem e171_107 {d : Nat} {L st : List AV} {h : AM} {n : Int} (h0 : 0 ≤ n) (h1 : n ≤ 1000000) : EV d 171 107 L ((0, n) :: st) h = EV d 171 109 L ((2, mnx h) :: st) (mal h 16 n (fun _ => 0)) := E_newi (m171 dX11_init_107) ⟨h0, h1⟩
theorem pk_171_11_30 : pok 171 11 30 2 = true := by decide +kernel
theorem e171_109 {d : Nat} {L st : List AV} {h : AM} {r v : Int} (hk : isK h r 11) : EV d 171 109 L ((2, v) :: (2, r) :: st) h = EV d 171 112 L st (mwr h r 30 v) := G_put (m171 dX11_init_109) ow171 tf_11_53 pk_171_11_30 rfl hk
theorem e171_112 {d : Nat} {l1 : AV} {st : List AV} {h : AM} {x : Int} : EV d 171 112 [(2, x), l1] st h = EV d 171 113 [(2, x), l1] ((2, x) :: st) h := G_aload_n (m171 dX11_init_112) rfl
theorem e171_113 {d : Nat} {L st : List AV} {h : AM} : EV d 171 113 L st h = EV d 171 115 L ((0, 12) :: st) h := G_bipush (m171 dX11_init_113) (by decide)
theorem e171_115 {d : Nat} {L st : List AV} {h : AM} {n : Int} (h0 : 0 ≤ n) (h1 : n ≤ 1000000) : EV d 171 115 L ((0, n) :: st) h = EV d 171 117 L ((2, mnx h) :: st) (mal h 16 n (fun _ => 0)) := E_newi (m171 dX11_init_115) ⟨h0, h1⟩
theorem pk_171_11_31 : pok 171 11 31 2 = true := by decide +kernel
theorem e171_117 {d : Nat} {L st : List AV} {h : AM} {r v : Int} (hk : isK h r 11) : EV d 171 117 L ((2, v) :: (2, r) :: st) h = EV d 171 120 L st (mwr h r 31 v) := G_put (m171 dX11_init_117) ow171 tf_11_56 pk_171_11_31 rfl hk
theorem e171_120 {d : Nat} {l1 : AV} {st : List AV} {h : AM} {x : Int} : EV d 171 120 [(2, x), l1] st h = EV d 171 121 [(2, x), l1] ((2, x) :: st) h := G_aload_n (m171 dX11_init_120) rfl
theorem e171_121 {d : Nat} {L st : List AV} {h : AM} : EV d 171 121 L st h = EV d 171 124 L ((0, 4096) :: st) h := G_sipush (m171 dX11_init_121) (by decide)
theorem e171_124 {d : Nat} {L st : List AV} {h : AM} {n : Int} (h0 : 0 ≤ n) (h1 : n ≤ 1000000) : EV d 171 124 L ((0, n) :: st) h = EV d 171 126 L ((2, mnx h) :: st) (mal h 18 n (fun _ => 0)) := E_newz (m171 dX11_init_124) ⟨h0, h1⟩
theorem pk_171_11_33 : pok 171 11 33 2 = true := by decide +kernel
theorem e171_126 {d : Nat} {L st : List AV} {h : AM} {r v : Int} (hk : isK h r 11) : EV d 171 126 L ((2, v) :: (2, r) :: st) h = EV d 171 129 L st (mwr h r 33 v) := G_put (m171 dX11_init_126) ow171 tf_11_59 pk_171_11_33 rfl hk
theorem e171_129 {d : Nat} {l1 : AV} {st : List AV} {h : AM} {x : Int} : EV d 171 129 [(2, x), l1] st h = EV d 171 130 [(2, x), l1] ((2, x) :: st) h := G_aload_n (m171 dX11_init_129) rfl
theorem e171_130 {d : Nat} {L st : List AV} {h : AM} : EV d 171 130 L st h = EV d 171 133 L ((0, 4096) :: st) h := G_sipush (m171 dX11_init_130) (by decide)
theorem e171_133 {d : Nat} {L st : List AV} {h : AM} {n : Int} (h0 : 0 ≤ n) (h1 : n ≤ 1000000) : EV d 171 133 L ((0, n) :: st) h = EV d 171 135 L ((2, mnx h) :: st) (mal h 19 n (fun _ => 0)) := E_newl (m171 dX11_init_133) ⟨h0, h1⟩
theorem pk_171_11_34 : pok 171 11 34 2 = true := by decide +kernel
theorem e171_135 {d : Nat} {L st : List AV} {h : AM} {r v : Int} (hk : isK h r 11) : EV d 171 135 L ((2, v) :: (2, r) :: st) h = EV d 171 138 L st (mwr h r 34 v) := G_put (m171 dX11_init_135) ow171 tf_11_63 pk_171_11_34 rfl hk
theorem e171_138 {d : Nat} {l1 : AV} {st : List AV} {h : AM} {x : Int} : EV d 171 138 [(2, x), l1] st h = EV d 171 139 [(2, x), l1] ((2, x) :: st) h := G_aload_n (m171 dX11_init_138) rfl
theorem e171_139 {d : Nat} {L st : List AV} {h : AM} : EV d 171 139 L st h = EV d 171 141 L ((0, 73728) :: st) h := G_ldc (m171 dX11_init_139) ow171 (by decide) tc_11_66 (by decide)
theorem e171_141 {d : Nat} {L st : List AV} {h : AM} {n : Int} (h0 : 0 ≤ n) (h1 : n ≤ 1000000) : EV d 171 141 L ((0, n) :: st) h = EV d 171 143 L ((2, mnx h) :: st) (mal h 19 n (fun _ => 0)) := E_newl (m171 dX11_init_141) ⟨h0, h1⟩
theorem pk_171_11_35 : pok 171 11 35 2 = true := by decide +kernel
theorem e171_143 {d : Nat} {L st : List AV} {h : AM} {r v : Int} (hk : isK h r 11) : EV d 171 143 L ((2, v) :: (2, r) :: st) h = EV d 171 146 L st (mwr h r 35 v) := G_put (m171 dX11_init_143) ow171 tf_11_67 pk_171_11_35 rfl hk
theorem e171_146 {d : Nat} {l1 : AV} {st : List AV} {h : AM} {x : Int} : EV d 171 146 [(2, x), l1] st h = EV d 171 147 [(2, x), l1] ((2, x) :: st) h := G_aload_n (m171 dX11_init_146) rfl
theorem e171_147 {d : Nat} {L st : List AV} {h : AM} : EV d 171 147 L st h = EV d 171 148 L ((0, 4) :: st) h := G_iconst (m171 dX11_init_147) (by decide)
theorem e171_148 {d : Nat} {L st : List AV} {h : AM} {n : Int} (h0 : 0 ≤ n) (h1 : n ≤ 1000000) : EV d 171 148 L ((0, n) :: st) h = EV d 171 150 L ((2, mnx h) :: st) (mal h 16 n (fun _ => 0)) := E_newi (m171 dX11_init_148) ⟨h0, h1⟩
theorem pk_171_11_36 : pok 171 11 36 2 = true := by decide +kernel
theorem e171_150 {d : Nat} {L st : List AV} {h : AM} {r v : Int} (hk : isK h r 11) : EV d 171 150 L ((2, v) :: (2, r) :: st) h = EV d 171 153 L st (mwr h r 36 v) := G_put (m171 dX11_init_150) ow171 tf_11_70 pk_171_11_36 rfl hk
theorem e171_153 {d : Nat} {l1 : AV} {st : List AV} {h : AM} {x : Int} : EV d 171 153 [(2, x), l1] st h = EV d 171 154 [(2, x), l1] ((2, x) :: st) h := G_aload_n (m171 dX11_init_153) rfl
theorem e171_154 {d : Nat} {L st : List AV} {h : AM} : EV d 171 154 L st h = EV d 171 155 L ((0, 4) :: st) h := G_iconst (m171 dX11_init_154) (by decide)
theorem e171_155 {d : Nat} {L st : List AV} {h : AM} {n : Int} (h0 : 0 ≤ n) (h1 : n ≤ 1000000) : EV d 171 155 L ((0, n) :: st) h = EV d 171 157 L ((2, mnx h) :: st) (mal h 16 n (fun _ => 0)) := E_newi (m171 dX11_init_155) ⟨h0, h1⟩
theorem pk_171_11_37 : pok 171 11 37 2 = true := by decide +kernel
theorem e171_157 {d : Nat} {L st : List AV} {h : AM} {r v : Int} (hk : isK h r 11) : EV d 171 157 L ((2, v) :: (2, r) :: st) h = EV d 171 160 L st (mwr h r 37 v) := G_put (m171 dX11_init_157) ow171 tf_11_73 pk_171_11_37 rfl hk
theorem e171_160 {d : Nat} {l1 : AV} {st : List AV} {h : AM} {x : Int} : EV d 171 160 [(2, x), l1] st h = EV d 171 161 [(2, x), l1] ((2, x) :: st) h := G_aload_n (m171 dX11_init_160) rfl
theorem e171_161 {d : Nat} {L st : List AV} {h : AM} : EV d 171 161 L st h = EV d 171 162 L ((0, 4) :: st) h := G_iconst (m171 dX11_init_161) (by decide)
theorem e171_162 {d : Nat} {L st : List AV} {h : AM} {n : Int} (h0 : 0 ≤ n) (h1 : n ≤ 1000000) : EV d 171 162 L ((0, n) :: st) h = EV d 171 164 L ((2, mnx h) :: st) (mal h 16 n (fun _ => 0)) := E_newi (m171 dX11_init_162) ⟨h0, h1⟩
theorem pk_171_11_38 : pok 171 11 38 2 = true := by decide +kernel
theorem e171_164 {d : Nat} {L st : List AV} {h : AM} {r v : Int} (hk : isK h r 11) : EV d 171 164 L ((2, v) :: (2, r) :: st) h = EV d 171 167 L st (mwr h r 38 v) := G_put (m171 dX11_init_164) ow171 tf_11_76 pk_171_11_38 rfl hk
theorem e171_167 {d : Nat} {l1 : AV} {st : List AV} {h : AM} {x : Int} : EV d 171 167 [(2, x), l1] st h = EV d 171 168 [(2, x), l1] ((2, x) :: st) h := G_aload_n (m171 dX11_init_167) rfl
theorem e171_168 {d : Nat} {L st : List AV} {h : AM} : EV d 171 168 L st h = EV d 171 170 L ((0, 48) :: st) h := G_bipush (m171 dX11_init_168) (by decide)
theorem e171_170 {d : Nat} {L st : List AV} {h : AM} {n : Int} (h0 : 0 ≤ n) (h1 : n ≤ 1000000) : EV d 171 170 L ((0, n) :: st) h = EV d 171 172 L ((2, mnx h) :: st) (mal h 16 n (fun _ => 0)) := E_newi (m171 dX11_init_170) ⟨h0, h1⟩
theorem pk_171_11_39 : pok 171 11 39 2 = true := by decide +kernel
theorem e171_172 {d : Nat} {L st : List AV} {h : AM} {r v : Int} (hk : isK h r 11) : EV d 171 172 L ((2, v) :: (2, r) :: st) h = EV d 171 175 L st (mwr h r 39 v) := G_put (m171 dX11_init_172) ow171 tf_11_79 pk_171_11_39 rfl hk
theorem e171_175 {d : Nat} {l1 : AV} {st : List AV} {h : AM} {x : Int} : EV d 171 175 [(2, x), l1] st h = EV d 171 176 [(2, x), l1] ((2, x) :: st) h := G_aload_n (m171 dX11_init_175) rfl
theorem e171_176 {d : Nat} {L st : List AV} {h : AM} : EV d 171 176 L st h = EV d 171 177 L ((0, 4) :: st) h := G_iconst (m171 dX11_init_176) (by decide)
theorem e171_177 {d : Nat} {L st : List AV} {h : AM} {n : Int} (h0 : 0 ≤ n) (h1 : n ≤ 1000000) : EV d 171 177 L ((0, n) :: st) h = EV d 171 179 L ((2, mnx h) :: st) (mal h 16 n (fun _ => 0)) := E_newi (m171 dX11_init_177) ⟨h0, h1⟩
theorem pk_171_11_40 : pok 171 11 40 2 = true := by decide +kernel
theorem e171_179 {d : Nat} {L st : List AV} {h : AM} {r v : Int} (hk : isK h r 11) : EV d 171 179 L ((2, v) :: (2, r) :: st) h = EV d 171 182 L st (mwr h r 40 v) := G_put (m171 dX11_init_179) ow171 tf_11_82 pk_171_11_40 rfl hk
theorem e171_182 {d : Nat} {l1 : AV} {st : List AV} {h : AM} {x : Int} : EV d 171 182 [(2, x), l1] st h = EV d 171 183 [(2, x), l1] ((2, x) :: st) h := G_aload_n (m171 dX11_init_182) rfl
theorem e171_183 {d : Nat} {L st : List AV} {h : AM} : EV d 171 183 L st h = EV d 171 184 L ((0, 4) :: st) h := G_iconst (m171 dX11_init_183) (by decide)
theorem e171_184 {d : Nat} {L st : List AV} {h : AM} {n : Int} (h0 : 0 ≤ n) (h1 : n ≤ 1000000) : EV d 171 184 L ((0, n) :: st) h = EV d 171 186 L ((2, mnx h) :: st) (mal h 16 n (fun _ => 0)) := E_newi (m171 dX11_init_184) ⟨h0, h1⟩
theorem pk_171_11_41 : pok 171 11 41 2 = true := by decide +kernel
theorem e171_186 {d : Nat} {L st : List AV} {h : AM} {r v : Int} (hk : isK h r 11) : EV d 171 186 L ((2, v) :: (2, r) :: st) h = EV d 171 189 L st (mwr h r 41 v) := G_put (m171 dX11_init_186) ow171 tf_11_85 pk_171_11_41 rfl hk
theorem e171_189 {d : Nat} {l1 : AV} {st : List AV} {h : AM} {x : Int} : EV d 171 189 [(2, x), l1] st h = EV d 171 190 [(2, x), l1] ((2, x) :: st) h := G_aload_n (m171 dX11_init_189) rfl
theorem e171_190 {d : Nat} {L st : List AV} {h : AM} : EV d 171 190 L st h = EV d 171 191 L ((0, -1) :: st) h := G_iconst (m171 dX11_init_190) (by decide)
theorem pk_171_11_42 : pok 171 11 42 0 = true := by decide +kernel
theorem e171_191 {d : Nat} {L st : List AV} {h : AM} {r v : Int} (hk : isK h r 11) : EV d 171 191 L ((0, v) :: (2, r) :: st) h = EV d 171 194 L st (mwr h r 42 v) := G_put (m171 dX11_init_191) ow171 tf_11_88 pk_171_11_42 rfl hk
theorem e171_194 {d : Nat} {l1 : AV} {st : List AV} {h : AM} {x : Int} : EV d 171 194 [(2, x), l1] st h = EV d 171 195 [(2, x), l1] ((2, x) :: st) h := G_aload_n (m171 dX11_init_194) rfl
theorem e171_195 {d : Nat} {L st : List AV} {h : AM} : EV d 171 195 L st h = EV d 171 196 L ((0, 4) :: st) h := G_iconst (m171 dX11_init_195) (by decide)
theorem e171_196 {d : Nat} {L st : List AV} {h : AM} {n : Int} (h0 : 0 ≤ n) (h1 : n ≤ 1000000) : EV d 171 196 L ((0, n) :: st) h = EV d 171 198 L ((2, mnx h) :: st) (mal h 16 n (fun _ => 0)) := E_newi (m171 dX11_init_196) ⟨h0, h1⟩
theorem pk_171_11_43 : pok 171 11 43 2 = true := by decide +kernel
theorem e171_198 {d : Nat} {L st : List AV} {h : AM} {r v : Int} (hk : isK h r 11) : EV d 171 198 L ((2, v) :: (2, r) :: st) h = EV d 171 201 L st (mwr h r 43 v) := G_put (m171 dX11_init_198) ow171 tf_11_91 pk_171_11_43 rfl hk
theorem e171_201 {d : Nat} {L st : List AV} {h : AM} : EV d 171 201 L st h = EV d 171 202 L ((0, 0) :: st) h := G_iconst (m171 dX11_init_201) (by decide)
theorem e171_202 {d : Nat} {l0 l1 : AV} {st : List AV} {h : AM} {x : Int} : EV d 171 202 [l0, l1] ((0, x) :: st) h = EV d 171 203 [l0, (0, x)] st h := G_istore_n (m171 dX11_init_202) (Nat.le_of_ble_eq_true rfl) rfl
theorem e171_203 {d : Nat} {l0 : AV} {st : List AV} {h : AM} {x : Int} : EV d 171 203 [l0, (0, x)] st h = EV d 171 204 [l0, (0, x)] ((0, x) :: st) h := G_iload_n (m171 dX11_init_203) rfl
theorem e171_204 {d : Nat} {L st : List AV} {h : AM} : EV d 171 204 L st h = EV d 171 205 L ((0, 4) :: st) h := G_iconst (m171 dX11_init_204) (by decide)
theorem e171_205 {d : Nat} {L st : List AV} {h : AM} {a b : Int} : EV d 171 205 L ((0, b) :: (0, a) :: st) h = if a < b then EV d 171 208 L st h else EV d 171 221 L st h := (E_ic (m171 dX11_init_205) (t := 221) rfl).trans cc_ge
theorem e171_208 {d : Nat} {l1 : AV} {st : List AV} {h : AM} {x : Int} : EV d 171 208 [(2, x), l1] st h = EV d 171 209 [(2, x), l1] ((2, x) :: st) h := G_aload_n (m171 dX11_init_208) rfl
theorem e171_209 {d : Nat} {L st : List AV} {h : AM} {r : Int} (hk : isK h r 11) : EV d 171 209 L ((2, r) :: st) h = EV d 171 212 L ((2, mrd h r 5) :: st) h := G_get (m171 dX11_init_209) ow171 tf_11_17 rfl rfl hk
theorem e171_212 {d : Nat} {l0 : AV} {st : List AV} {h : AM} {x : Int} : EV d 171 212 [l0, (0, x)] st h = EV d 171 213 [l0, (0, x)] ((0, x) :: st) h := G_iload_n (m171 dX11_init_212) rfl
theorem e171_213 {d : Nat} {L st : List AV} {h : AM} : EV d 171 213 L st h = EV d 171 214 L ((0, -1) :: st) h := G_iconst (m171 dX11_init_213) (by decide)
theorem e171_214 {d : Nat} {L st : List AV} {h : AM} {r j v : Int} (hk : inA h r 16 j) : EV d 171 214 L ((0, v) :: (0, j) :: (2, r) :: st) h = EV d 171 215 L st (mwr h r j v) := E_iast (m171 dX11_init_214) hk
theorem e171_215 {d : Nat} {l0 : AV} {st : List AV} {h : AM} {x : Int} : EV d 171 215 [l0, (0, x)] st h = EV d 171 218 [l0, (0, w32 (x + 1))] st h := G_iinc (m171 dX11_init_215) rfl rfl
theorem e171_218 {d : Nat} {L st : List AV} {h : AM} : EV d 171 218 L st h = EV d 171 203 L st h := G_goto (m171 dX11_init_218) rfl
theorem e171_221 {d : Nat} {l1 : AV} {st : List AV} {h : AM} {x : Int} : EV d 171 221 [(2, x), l1] st h = EV d 171 222 [(2, x), l1] ((2, x) :: st) h := G_aload_n (m171 dX11_init_221) rfl
theorem e171_222 {d : Nat} {L st : List AV} {h : AM} {r : Int} (hk : isK h r 11) : EV d 171 222 L ((2, r) :: st) h = EV d 171 225 L ((2, mrd h r 20) :: st) h := G_get (m171 dX11_init_222) ow171 tf_11_35 rfl rfl hk
theorem e171_225 {d : Nat} {L st : List AV} {h : AM} : EV d 171 225 L st h = EV d 171 226 L ((0, 3) :: st) h := G_iconst (m171 dX11_init_225) (by decide)
theorem e171_226 {d : Nat} {L st : List AV} {h : AM} : EV d 171 226 L st h = EV d 171 227 L ((0, 2) :: st) h := G_iconst (m171 dX11_init_226) (by decide)
theorem e171_227 {d : Nat} {L st : List AV} {h : AM} {r j v : Int} (hk : inA h r 16 j) : EV d 171 227 L ((0, v) :: (0, j) :: (2, r) :: st) h = EV d 171 228 L st (mwr h r j v) := E_iast (m171 dX11_init_227) hk
theorem e171_228 {d : Nat} {L : List AV} {h : AM} : EV d 171 228 L [] h = some ((3, 0), h) := E_ret (m171 dX11_init_228) rt171
theorem e172_0 {d : Nat} {st : List AV} {h : AM} {x : Int} : EV d 172 0 [(2, x)] st h = EV d 172 1 [(2, x)] ((2, x) :: st) h := G_aload_n (m172 dX11_status_0) rfl
theorem e172_1 {d : Nat} {L st : List AV} {h : AM} : EV d 172 1 L st h = EV d 172 2 L ((0, 0) :: st) h := G_iconst (m172 dX11_status_1) (by decide)
theorem pk_172_11_1 : pok 172 11 1 0 = true := by decide +kernel
theorem e172_2 {d : Nat} {L st : List AV} {h : AM} {r v : Int} (hk : isK h r 11) : EV d 172 2 L ((0, v) :: (2, r) :: st) h = EV d 172 5 L st (mwr h r 1 v) := G_put (m172 dX11_status_2) ow172 tf_11_94 pk_172_11_1 rfl hk
theorem e172_5 {d : Nat} {st : List AV} {h : AM} {x : Int} : EV d 172 5 [(2, x)] st h = EV d 172 6 [(2, x)] ((2, x) :: st) h := G_aload_n (m172 dX11_status_5) rfl
theorem e172_6 {d : Nat} {L st : List AV} {h : AM} {r : Int} (hk : isK h r 11) : EV d 172 6 L ((2, r) :: st) h = EV d 172 9 L ((0, mrd h r 0) :: st) h := G_get (m172 dX11_status_6) ow172 tf_11_97 rfl rfl hk
theorem e172_9 {d : Nat} {L : List AV} {h : AM} {v : Int} : EV d 172 9 L [(0, v)] h = some ((0, v), h) := E_iret (m172 dX11_status_9) (by rw [rt172]; rfl)
theorem e173_0 {d : Nat} {st : List AV} {h : AM} {x : Int} : EV d 173 0 [(2, x)] st h = EV d 173 1 [(2, x)] ((2, x) :: st) h := G_aload_n (m173 dX11_top_0) rfl
theorem e173_1 {d : Nat} {L st : List AV} {h : AM} : EV d 173 1 L st h = EV d 173 2 L ((0, 0) :: st) h := G_iconst (m173 dX11_top_1) (by decide)
theorem pk_173_11_1 : pok 173 11 1 0 = true := by decide +kernel
theorem e173_2 {d : Nat} {L st : List AV} {h : AM} {r v : Int} (hk : isK h r 11) : EV d 173 2 L ((0, v) :: (2, r) :: st) h = EV d 173 5 L st (mwr h r 1 v) := G_put (m173 dX11_top_2) ow173 tf_11_94 pk_173_11_1 rfl hk
theorem e173_5 {d : Nat} {st : List AV} {h : AM} {x : Int} : EV d 173 5 [(2, x)] st h = EV d 173 6 [(2, x)] ((2, x) :: st) h := G_aload_n (m173 dX11_top_5) rfl
theorem e173_6 {d : Nat} {L st : List AV} {h : AM} {r : Int} (hk : isK h r 11) : EV d 173 6 L ((2, r) :: st) h = EV d 173 9 L ((1, mrd h r 2) :: st) h := G_get (m173 dX11_top_6) ow173 tf_11_100 rfl rfl hk
theorem e173_9 {d : Nat} {L : List AV} {h : AM} {v : Int} : EV d 173 9 L [(1, v)] h = some ((1, v), h) := E_lret (m173 dX11_top_9) rt173
theorem e174_0 {d : Nat} {st : List AV} {h : AM} {x : Int} : EV d 174 0 [(2, x)] st h = EV d 174 1 [(2, x)] ((2, x) :: st) h := G_aload_n (m174 dX11_bottom_0) rfl
theorem e174_1 {d : Nat} {L st : List AV} {h : AM} : EV d 174 1 L st h = EV d 174 2 L ((0, 0) :: st) h := G_iconst (m174 dX11_bottom_1) (by decide)
theorem pk_174_11_1 : pok 174 11 1 0 = true := by decide +kernel
theorem e174_2 {d : Nat} {L st : List AV} {h : AM} {r v : Int} (hk : isK h r 11) : EV d 174 2 L ((0, v) :: (2, r) :: st) h = EV d 174 5 L st (mwr h r 1 v) := G_put (m174 dX11_bottom_2) ow174 tf_11_94 pk_174_11_1 rfl hk
theorem e174_5 {d : Nat} {st : List AV} {h : AM} {x : Int} : EV d 174 5 [(2, x)] st h = EV d 174 6 [(2, x)] ((2, x) :: st) h := G_aload_n (m174 dX11_bottom_5) rfl
theorem e174_6 {d : Nat} {L st : List AV} {h : AM} {r : Int} (hk : isK h r 11) : EV d 174 6 L ((2, r) :: st) h = EV d 174 9 L ((1, mrd h r 3) :: st) h := G_get (m174 dX11_bottom_6) ow174 tf_11_7 rfl rfl hk
theorem e174_9 {d : Nat} {L : List AV} {h : AM} {v : Int} : EV d 174 9 L [(1, v)] h = some ((1, v), h) := E_lret (m174 dX11_bottom_9) rt174
theorem e175_0 {d : Nat} {l1 : AV} {st : List AV} {h : AM} {x : Int} : EV d 175 0 [(2, x), l1] st h = EV d 175 1 [(2, x), l1] ((2, x) :: st) h := G_aload_n (m175 dX11_refuse_0) rfl
theorem e175_1 {d : Nat} {l0 : AV} {st : List AV} {h : AM} {x : Int} : EV d 175 1 [l0, (0, x)] st h = EV d 175 2 [l0, (0, x)] ((0, x) :: st) h := G_iload_n (m175 dX11_refuse_1) rfl
theorem pk_175_11_0 : pok 175 11 0 0 = true := by decide +kernel
theorem e175_2 {d : Nat} {L st : List AV} {h : AM} {r v : Int} (hk : isK h r 11) : EV d 175 2 L ((0, v) :: (2, r) :: st) h = EV d 175 5 L st (mwr h r 0 v) := G_put (m175 dX11_refuse_2) ow175 tf_11_97 pk_175_11_0 rfl hk
theorem e175_5 {d : Nat} {L st : List AV} {h : AM} : EV d 175 5 L st h = EV d 175 6 L ((0, -1) :: st) h := G_iconst (m175 dX11_refuse_5) (by decide)
theorem e175_6 {d : Nat} {L : List AV} {h : AM} {v : Int} : EV d 175 6 L [(0, v)] h = some ((0, v), h) := E_iret (m175 dX11_refuse_6) (by rw [rt175]; rfl)
theorem e176_0 {d : Nat} {l1 : AV} {st : List AV} {h : AM} {x : Int} : EV d 176 0 [(2, x), l1] st h = EV d 176 1 [(2, x), l1] ((2, x) :: st) h := G_aload_n (m176 dX11_no_0) rfl
theorem e176_1 {d : Nat} {l0 : AV} {st : List AV} {h : AM} {x : Int} : EV d 176 1 [l0, (0, x)] st h = EV d 176 2 [l0, (0, x)] ((0, x) :: st) h := G_iload_n (m176 dX11_no_1) rfl
theorem pk_176_11_0 : pok 176 11 0 0 = true := by decide +kernel
theorem e176_2 {d : Nat} {L st : List AV} {h : AM} {r v : Int} (hk : isK h r 11) : EV d 176 2 L ((0, v) :: (2, r) :: st) h = EV d 176 5 L st (mwr h r 0 v) := G_put (m176 dX11_no_2) ow176 tf_11_97 pk_176_11_0 rfl hk
theorem e176_5 {d : Nat} {L st : List AV} {h : AM} : EV d 176 5 L st h = EV d 176 6 L ((0, 0) :: st) h := G_iconst (m176 dX11_no_5) (by decide)
theorem e176_6 {d : Nat} {L : List AV} {h : AM} {v : Int} (hv : v = 0 ∨ v = 1) : EV d 176 6 L [(0, v)] h = some ((0, v), h) := E_iret (m176 dX11_no_6) (by rw [rt176]; rcases hv with rfl | rfl <;> rfl)
theorem e177_0 {d : Nat} {l2 l3 l4 l5 : AV} {st : List AV} {h : AM} {x : Int} : EV d 177 0 [(1, x), (3, 1), l2, l3, l4, l5] st h = EV d 177 1 [(1, x), (3, 1), l2, l3, l4, l5] ((1, x) :: st) h := G_lload_n (m177 dX11_isIn_0) rfl rfl
theorem e177_1 {d : Nat} {l0 l1 l4 l5 : AV} {st : List AV} {h : AM} {x : Int} : EV d 177 1 [l0, l1, (1, x), (3, 1), l4, l5] st h = EV d 177 2 [l0, l1, (1, x), (3, 1), l4, l5] ((1, x) :: st) h := G_lload_n (m177 dX11_isIn_1) rfl rfl
theorem e177_2 {d : Nat} {L st : List AV} {h : AM} {a b : Int} : EV d 177 2 L ((1, b) :: (1, a) :: st) h = EV d 177 3 L ((0, cmp3 a b) :: st) h := G_lcmp (m177 dX11_isIn_2)
theorem e177_3 {d : Nat} {L st : List AV} {h : AM} {a : Int} : EV d 177 3 L ((0, a) :: st) h = if a < 0 then EV d 177 17 L st h else EV d 177 6 L st h := (E_if (m177 dX11_isIn_3) (t := 17) rfl).trans cc_lt
theorem e177_6 {d : Nat} {l2 l3 l4 l5 : AV} {st : List AV} {h : AM} {x : Int} : EV d 177 6 [(1, x), (3, 1), l2, l3, l4, l5] st h = EV d 177 7 [(1, x), (3, 1), l2, l3, l4, l5] ((1, x) :: st) h := G_lload_n (m177 dX11_isIn_6) rfl rfl
theorem e177_7 {d : Nat} {l0 l1 l2 l3 : AV} {st : List AV} {h : AM} {x : Int} : EV d 177 7 [l0, l1, l2, l3, (1, x), (3, 1)] st h = EV d 177 9 [l0, l1, l2, l3, (1, x), (3, 1)] ((1, x) :: st) h := G_lload (m177 dX11_isIn_7) rfl rfl
theorem e177_9 {d : Nat} {L st : List AV} {h : AM} {a b : Int} : EV d 177 9 L ((1, b) :: (1, a) :: st) h = EV d 177 10 L ((0, cmp3 a b) :: st) h := G_lcmp (m177 dX11_isIn_9)
theorem e177_10 {d : Nat} {L st : List AV} {h : AM} {a : Int} : EV d 177 10 L ((0, a) :: st) h = if 0 < a then EV d 177 17 L st h else EV d 177 13 L st h := (E_if (m177 dX11_isIn_10) (t := 17) rfl).trans cc_gt
theorem e177_13 {d : Nat} {L st : List AV} {h : AM} : EV d 177 13 L st h = EV d 177 14 L ((0, 1) :: st) h := G_iconst (m177 dX11_isIn_13) (by decide)
theorem e177_14 {d : Nat} {L st : List AV} {h : AM} : EV d 177 14 L st h = EV d 177 18 L st h := G_goto (m177 dX11_isIn_14) rfl
theorem e177_17 {d : Nat} {L st : List AV} {h : AM} : EV d 177 17 L st h = EV d 177 18 L ((0, 0) :: st) h := G_iconst (m177 dX11_isIn_17) (by decide)
theorem e177_18 {d : Nat} {L : List AV} {h : AM} {v : Int} (hv : v = 0 ∨ v = 1) : EV d 177 18 L [(0, v)] h = some ((0, v), h) := E_iret (m177 dX11_isIn_18) (by rw [rt177]; rcases hv with rfl | rfl <;> rfl)
theorem e178_0 {d : Nat} {l0 l3 l4 l5 l6 l7 l8 l9 l10 : AV} {st : List AV} {h : AM} {x : Int} : EV d 178 0 [l0, (1, x), (3, 1), l3, l4, l5, l6, l7, l8, l9, l10] st h = EV d 178 1 [l0, (1, x), (3, 1), l3, l4, l5, l6, l7, l8, l9, l10] ((1, x) :: st) h := G_lload_n (m178 dX11_fraction_0) rfl rfl
theorem e178_1 {d : Nat} {L : List AV} {h : AM} {a : Int} : EV (d + 1) 178 1 L [(1, a)] h = EV (d + 1) 178 4 L [(1, if 0 < a then a else w64 (-a))] h := E_absl (m178 dX11_fraction_1) (rr178 tr_11_103)
theorem e178_4 {d : Nat} {l0 l1 l2 l3 l4 l5 l6 l7 l8 l9 l10 : AV} {st : List AV} {h : AM} {x : Int} : EV d 178 4 [l0, l1, l2, l3, l4, l5, l6, l7, l8, l9, l10] ((1, x) :: st) h = EV d 178 6 [l0, l1, l2, l3, l4, (1, x), (3, 1), l7, l8, l9, l10] st h := G_lstore (m178 dX11_fraction_4) (Nat.le_of_ble_eq_true rfl) rfl
theorem e178_6 {d : Nat} {l0 l1 l2 l5 l6 l7 l8 l9 l10 : AV} {st : List AV} {h : AM} {x : Int} : EV d 178 6 [l0, l1, l2, (1, x), (3, 1), l5, l6, l7, l8, l9, l10] st h = EV d 178 7 [l0, l1, l2, (1, x), (3, 1), l5, l6, l7, l8, l9, l10] ((1, x) :: st) h := G_lload_n (m178 dX11_fraction_6) rfl rfl
theorem e178_7 {d : Nat} {l0 l1 l2 l3 l4 l5 l6 l7 l8 l9 l10 : AV} {st : List AV} {h : AM} {x : Int} : EV d 178 7 [l0, l1, l2, l3, l4, l5, l6, l7, l8, l9, l10] ((1, x) :: st) h = EV d 178 9 [l0, l1, l2, l3, l4, l5, l6, (1, x), (3, 1), l9, l10] st h := G_lstore (m178 dX11_fraction_7) (Nat.le_of_ble_eq_true rfl) rfl
theorem e178_9 {d : Nat} {l0 l1 l2 l3 l4 l5 l6 l9 l10 : AV} {st : List AV} {h : AM} {x : Int} : EV d 178 9 [l0, l1, l2, l3, l4, l5, l6, (1, x), (3, 1), l9, l10] st h = EV d 178 11 [l0, l1, l2, l3, l4, l5, l6, (1, x), (3, 1), l9, l10] ((1, x) :: st) h := G_lload (m178 dX11_fraction_9) rfl rfl
theorem e178_11 {d : Nat} {L st : List AV} {h : AM} : EV d 178 11 L st h = EV d 178 12 L ((1, 0) :: st) h := G_lconst0 (m178 dX11_fraction_11)
theorem e178_12 {d : Nat} {L st : List AV} {h : AM} {a b : Int} : EV d 178 12 L ((1, b) :: (1, a) :: st) h = EV d 178 13 L ((0, cmp3 a b) :: st) h := G_lcmp (m178 dX11_fraction_12)
theorem e178_13 {d : Nat} {L st : List AV} {h : AM} {a : Int} : EV d 178 13 L ((0, a) :: st) h = if a = 0 then EV d 178 34 L st h else EV d 178 16 L st h := (E_if (m178 dX11_fraction_13) (t := 34) rfl).trans cc_eq
theorem e178_16 {d : Nat} {l0 l1 l2 l3 l4 l7 l8 l9 l10 : AV} {st : List AV} {h : AM} {x : Int} : EV d 178 16 [l0, l1, l2, l3, l4, (1, x), (3, 1), l7, l8, l9, l10] st h = EV d 178 18 [l0, l1, l2, l3, l4, (1, x), (3, 1), l7, l8, l9, l10] ((1, x) :: st) h := G_lload (m178 dX11_fraction_16) rfl rfl
theorem e178_18 {d : Nat} {l0 l1 l2 l3 l4 l5 l6 l9 l10 : AV} {st : List AV} {h : AM} {x : Int} : EV d 178 18 [l0, l1, l2, l3, l4, l5, l6, (1, x), (3, 1), l9, l10] st h = EV d 178 20 [l0, l1, l2, l3, l4, l5, l6, (1, x), (3, 1), l9, l10] ((1, x) :: st) h := G_lload (m178 dX11_fraction_18) rfl rfl
theorem e178_20 {d : Nat} {L st : List AV} {h : AM} {a b : Int} (hb : b ≠ 0) : EV d 178 20 L ((1, b) :: (1, a) :: st) h = EV d 178 21 L ((1, l_rem a b) :: st) h := E_lrem (m178 dX11_fraction_20) hb
theorem e178_21 {d : Nat} {l0 l1 l2 l3 l4 l5 l6 l7 l8 l9 l10 : AV} {st : List AV} {h : AM} {x : Int} : EV d 178 21 [l0, l1, l2, l3, l4, l5, l6, l7, l8, l9, l10] ((1, x) :: st) h = EV d 178 23 [l0, l1, l2, l3, l4, l5, l6, l7, l8, (1, x), (3, 1)] st h := G_lstore (m178 dX11_fraction_21) (Nat.le_of_ble_eq_true rfl) rfl
theorem e178_23 {d : Nat} {l0 l1 l2 l3 l4 l5 l6 l9 l10 : AV} {st : List AV} {h : AM} {x : Int} : EV d 178 23 [l0, l1, l2, l3, l4, l5, l6, (1, x), (3, 1), l9, l10] st h = EV d 178 25 [l0, l1, l2, l3, l4, l5, l6, (1, x), (3, 1), l9, l10] ((1, x) :: st) h := G_lload (m178 dX11_fraction_23) rfl rfl
theorem e178_25 {d : Nat} {l0 l1 l2 l3 l4 l5 l6 l7 l8 l9 l10 : AV} {st : List AV} {h : AM} {x : Int} : EV d 178 25 [l0, l1, l2, l3, l4, l5, l6, l7, l8, l9, l10] ((1, x) :: st) h = EV d 178 27 [l0, l1, l2, l3, l4, (1, x), (3, 1), l7, l8, l9, l10] st h := G_lstore (m178 dX11_fraction_25) (Nat.le_of_ble_eq_true rfl) rfl
theorem e178_27 {d : Nat} {l0 l1 l2 l3 l4 l5 l6 l7 l8 : AV} {st : List AV} {h : AM} {x : Int} : EV d 178 27 [l0, l1, l2, l3, l4, l5, l6, l7, l8, (1, x), (3, 1)] st h = EV d 178 29 [l0, l1, l2, l3, l4, l5, l6, l7, l8, (1, x), (3, 1)] ((1, x) :: st) h := G_lload (m178 dX11_fraction_27) rfl rfl
theorem e178_29 {d : Nat} {l0 l1 l2 l3 l4 l5 l6 l7 l8 l9 l10 : AV} {st : List AV} {h : AM} {x : Int} : EV d 178 29 [l0, l1, l2, l3, l4, l5, l6, l7, l8, l9, l10] ((1, x) :: st) h = EV d 178 31 [l0, l1, l2, l3, l4, l5, l6, (1, x), (3, 1), l9, l10] st h := G_lstore (m178 dX11_fraction_29) (Nat.le_of_ble_eq_true rfl) rfl
theorem e178_31 {d : Nat} {L st : List AV} {h : AM} : EV d 178 31 L st h = EV d 178 9 L st h := G_goto (m178 dX11_fraction_31) rfl
theorem e178_34 {d : Nat} {l1 l2 l3 l4 l5 l6 l7 l8 l9 l10 : AV} {st : List AV} {h : AM} {x : Int} : EV d 178 34 [(2, x), l1, l2, l3, l4, l5, l6, l7, l8, l9, l10] st h = EV d 178 35 [(2, x), l1, l2, l3, l4, l5, l6, l7, l8, l9, l10] ((2, x) :: st) h := G_aload_n (m178 dX11_fraction_34) rfl
theorem e178_35 {d : Nat} {l0 l3 l4 l5 l6 l7 l8 l9 l10 : AV} {st : List AV} {h : AM} {x : Int} : EV d 178 35 [l0, (1, x), (3, 1), l3, l4, l5, l6, l7, l8, l9, l10] st h = EV d 178 36 [l0, (1, x), (3, 1), l3, l4, l5, l6, l7, l8, l9, l10] ((1, x) :: st) h := G_lload_n (m178 dX11_fraction_35) rfl rfl
theorem e178_36 {d : Nat} {l0 l1 l2 l3 l4 l7 l8 l9 l10 : AV} {st : List AV} {h : AM} {x : Int} : EV d 178 36 [l0, l1, l2, l3, l4, (1, x), (3, 1), l7, l8, l9, l10] st h = EV d 178 38 [l0, l1, l2, l3, l4, (1, x), (3, 1), l7, l8, l9, l10] ((1, x) :: st) h := G_lload (m178 dX11_fraction_36) rfl rfl
theorem e178_38 {d : Nat} {L st : List AV} {h : AM} {a b : Int} (hb : b ≠ 0) : EV d 178 38 L ((1, b) :: (1, a) :: st) h = EV d 178 39 L ((1, l_div a b) :: st) h := E_ldiv (m178 dX11_fraction_38) hb
theorem pk_178_11_2 : pok 178 11 2 1 = true := by decide +kernel
theorem e178_39 {d : Nat} {L st : List AV} {h : AM} {r v : Int} (hk : isK h r 11) : EV d 178 39 L ((1, v) :: (2, r) :: st) h = EV d 178 42 L st (mwr h r 2 v) := G_put (m178 dX11_fraction_39) ow178 tf_11_100 pk_178_11_2 rfl hk
theorem e178_42 {d : Nat} {l1 l2 l3 l4 l5 l6 l7 l8 l9 l10 : AV} {st : List AV} {h : AM} {x : Int} : EV d 178 42 [(2, x), l1, l2, l3, l4, l5, l6, l7, l8, l9, l10] st h = EV d 178 43 [(2, x), l1, l2, l3, l4, l5, l6, l7, l8, l9, l10] ((2, x) :: st) h := G_aload_n (m178 dX11_fraction_42) rfl
theorem e178_43 {d : Nat} {l0 l1 l2 l5 l6 l7 l8 l9 l10 : AV} {st : List AV} {h : AM} {x : Int} : EV d 178 43 [l0, l1, l2, (1, x), (3, 1), l5, l6, l7, l8, l9, l10] st h = EV d 178 44 [l0, l1, l2, (1, x), (3, 1), l5, l6, l7, l8, l9, l10] ((1, x) :: st) h := G_lload_n (m178 dX11_fraction_43) rfl rfl
theorem e178_44 {d : Nat} {l0 l1 l2 l3 l4 l7 l8 l9 l10 : AV} {st : List AV} {h : AM} {x : Int} : EV d 178 44 [l0, l1, l2, l3, l4, (1, x), (3, 1), l7, l8, l9, l10] st h = EV d 178 46 [l0, l1, l2, l3, l4, (1, x), (3, 1), l7, l8, l9, l10] ((1, x) :: st) h := G_lload (m178 dX11_fraction_44) rfl rfl
theorem e178_46 {d : Nat} {L st : List AV} {h : AM} {a b : Int} (hb : b ≠ 0) : EV d 178 46 L ((1, b) :: (1, a) :: st) h = EV d 178 47 L ((1, l_div a b) :: st) h := E_ldiv (m178 dX11_fraction_46) hb
theorem pk_178_11_3 : pok 178 11 3 1 = true := by decide +kernel
theorem e178_47 {d : Nat} {L st : List AV} {h : AM} {r v : Int} (hk : isK h r 11) : EV d 178 47 L ((1, v) :: (2, r) :: st) h = EV d 178 50 L st (mwr h r 3 v) := G_put (m178 dX11_fraction_47) ow178 tf_11_7 pk_178_11_3 rfl hk
theorem e178_50 {d : Nat} {L st : List AV} {h : AM} : EV d 178 50 L st h = EV d 178 51 L ((0, 1) :: st) h := G_iconst (m178 dX11_fraction_50) (by decide)
theorem e178_51 {d : Nat} {L : List AV} {h : AM} {v : Int} (hv : v = 0 ∨ v = 1) : EV d 178 51 L [(0, v)] h = some ((0, v), h) := E_iret (m178 dX11_fraction_51) (by rw [rt178]; rcases hv with rfl | rfl <;> rfl)
theorem e179_0 {d : Nat} {l1 l2 : AV} {st : List AV} {h : AM} {x : Int} : EV d 179 0 [(0, x), l1, l2] st h = EV d 179 1 [(0, x), l1, l2] ((0, x) :: st) h := G_iload_n (m179 dX11_cut_0) rfl
theorem e179_1 {d : Nat} {L st : List AV} {h : AM} {a : Int} : EV d 179 1 L ((0, a) :: st) h = if a = 0 then EV d 179 4 L st h else EV d 179 11 L st h := (E_if (m179 dX11_cut_1) (t := 11) rfl).trans cc_ne
theorem e179_4 {d : Nat} {l0 : AV} {st : List AV} {h : AM} {x : Int} : EV d 179 4 [l0, (1, x), (3, 1)] st h = EV d 179 5 [l0, (1, x), (3, 1)] ((1, x) :: st) h := G_lload_n (m179 dX11_cut_4) rfl rfl
theorem e179_5 {d : Nat} {L st : List AV} {h : AM} {a : Int} : EV d 179 5 L ((1, a) :: st) h = EV d 179 6 L ((0, w32 a) :: st) h := G_l2i (m179 dX11_cut_5)
theorem e179_6 {d : Nat} {L st : List AV} {h : AM} {a : Int} : EV d 179 6 L ((0, a) :: st) h = EV d 179 7 L ((0, w8 a) :: st) h := G_i2b (m179 dX11_cut_6)
theorem e179_7 {d : Nat} {L st : List AV} {h : AM} {a : Int} : EV d 179 7 L ((0, a) :: st) h = EV d 179 8 L ((1, a) :: st) h := G_i2l (m179 dX11_cut_7)
theorem e179_8 {d : Nat} {L st : List AV} {h : AM} : EV d 179 8 L st h = EV d 179 35 L st h := G_goto (m179 dX11_cut_8) rfl
theorem e179_11 {d : Nat} {l1 l2 : AV} {st : List AV} {h : AM} {x : Int} : EV d 179 11 [(0, x), l1, l2] st h = EV d 179 12 [(0, x), l1, l2] ((0, x) :: st) h := G_iload_n (m179 dX11_cut_11) rfl
theorem e179_12 {d : Nat} {L st : List AV} {h : AM} : EV d 179 12 L st h = EV d 179 13 L ((0, 1) :: st) h := G_iconst (m179 dX11_cut_12) (by decide)
theorem e179_13 {d : Nat} {L st : List AV} {h : AM} {a b : Int} : EV d 179 13 L ((0, b) :: (0, a) :: st) h = if a = b then EV d 179 16 L st h else EV d 179 23 L st h := (E_ic (m179 dX11_cut_13) (t := 23) rfl).trans cc_ne
theorem e179_16 {d : Nat} {l0 : AV} {st : List AV} {h : AM} {x : Int} : EV d 179 16 [l0, (1, x), (3, 1)] st h = EV d 179 17 [l0, (1, x), (3, 1)] ((1, x) :: st) h := G_lload_n (m179 dX11_cut_16) rfl rfl
theorem e179_17 {d : Nat} {L st : List AV} {h : AM} {a : Int} : EV d 179 17 L ((1, a) :: st) h = EV d 179 18 L ((0, w32 a) :: st) h := G_l2i (m179 dX11_cut_17)
theorem e179_18 {d : Nat} {L st : List AV} {h : AM} {a : Int} : EV d 179 18 L ((0, a) :: st) h = EV d 179 19 L ((0, w16 a) :: st) h := G_i2s (m179 dX11_cut_18)
theorem e179_19 {d : Nat} {L st : List AV} {h : AM} {a : Int} : EV d 179 19 L ((0, a) :: st) h = EV d 179 20 L ((1, a) :: st) h := G_i2l (m179 dX11_cut_19)
theorem e179_20 {d : Nat} {L st : List AV} {h : AM} : EV d 179 20 L st h = EV d 179 35 L st h := G_goto (m179 dX11_cut_20) rfl
theorem e179_23 {d : Nat} {l1 l2 : AV} {st : List AV} {h : AM} {x : Int} : EV d 179 23 [(0, x), l1, l2] st h = EV d 179 24 [(0, x), l1, l2] ((0, x) :: st) h := G_iload_n (m179 dX11_cut_23) rfl
theorem e179_24 {d : Nat} {L st : List AV} {h : AM} : EV d 179 24 L st h = EV d 179 25 L ((0, 2) :: st) h := G_iconst (m179 dX11_cut_24) (by decide)
theorem e179_25 {d : Nat} {L st : List AV} {h : AM} {a b : Int} : EV d 179 25 L ((0, b) :: (0, a) :: st) h = if a = b then EV d 179 28 L st h else EV d 179 34 L st h := (E_ic (m179 dX11_cut_25) (t := 34) rfl).trans cc_ne
theorem e179_28 {d : Nat} {l0 : AV} {st : List AV} {h : AM} {x : Int} : EV d 179 28 [l0, (1, x), (3, 1)] st h = EV d 179 29 [l0, (1, x), (3, 1)] ((1, x) :: st) h := G_lload_n (m179 dX11_cut_28) rfl rfl
theorem e179_29 {d : Nat} {L st : List AV} {h : AM} {a : Int} : EV d 179 29 L ((1, a) :: st) h = EV d 179 30 L ((0, w32 a) :: st) h := G_l2i (m179 dX11_cut_29)
theorem e179_30 {d : Nat} {L st : List AV} {h : AM} {a : Int} : EV d 179 30 L ((0, a) :: st) h = EV d 179 31 L ((1, a) :: st) h := G_i2l (m179 dX11_cut_30)
theorem e179_31 {d : Nat} {L st : List AV} {h : AM} : EV d 179 31 L st h = EV d 179 35 L st h := G_goto (m179 dX11_cut_31) rfl
theorem e179_34 {d : Nat} {l0 : AV} {st : List AV} {h : AM} {x : Int} : EV d 179 34 [l0, (1, x), (3, 1)] st h = EV d 179 35 [l0, (1, x), (3, 1)] ((1, x) :: st) h := G_lload_n (m179 dX11_cut_34) rfl rfl
theorem e179_35 {d : Nat} {L : List AV} {h : AM} {v : Int} : EV d 179 35 L [(1, v)] h = some ((1, v), h) := E_lret (m179 dX11_cut_35) rt179
theorem e180_0 {d : Nat} {l1 l2 l3 l4 : AV} {st : List AV} {h : AM} {x : Int} : EV d 180 0 [(2, x), l1, l2, l3, l4] st h = EV d 180 1 [(2, x), l1, l2, l3, l4] ((2, x) :: st) h := G_aload_n (m180 dX11_tray_0) rfl
theorem e180_1 {d : Nat} {L st : List AV} {h : AM} : EV d 180 1 L st h = EV d 180 2 L ((0, 0) :: st) h := G_iconst (m180 dX11_tray_1) (by decide)
theorem pk_180_11_1 : pok 180 11 1 0 = true := by decide +kernel
theorem e180_2 {d : Nat} {L st : List AV} {h : AM} {r v : Int} (hk : isK h r 11) : EV d 180 2 L ((0, v) :: (2, r) :: st) h = EV d 180 5 L st (mwr h r 1 v) := G_put (m180 dX11_tray_2) ow180 tf_11_94 pk_180_11_1 rfl hk
theorem e180_5 {d : Nat} {l1 l2 l3 l4 : AV} {st : List AV} {h : AM} {x : Int} : EV d 180 5 [(2, x), l1, l2, l3, l4] st h = EV d 180 6 [(2, x), l1, l2, l3, l4] ((2, x) :: st) h := G_aload_n (m180 dX11_tray_5) rfl
theorem e180_6 {d : Nat} {L st : List AV} {h : AM} : EV d 180 6 L st h = EV d 180 7 L ((0, 0) :: st) h := G_iconst (m180 dX11_tray_6) (by decide)
theorem pk_180_11_0 : pok 180 11 0 0 = true := by decide +kernel
theorem e180_7 {d : Nat} {L st : List AV} {h : AM} {r v : Int} (hk : isK h r 11) : EV d 180 7 L ((0, v) :: (2, r) :: st) h = EV d 180 10 L st (mwr h r 0 v) := G_put (m180 dX11_tray_7) ow180 tf_11_97 pk_180_11_0 rfl hk
theorem e180_10 {d : Nat} {l0 l2 l3 l4 : AV} {st : List AV} {h : AM} {x : Int} : EV d 180 10 [l0, (0, x), l2, l3, l4] st h = EV d 180 11 [l0, (0, x), l2, l3, l4] ((0, x) :: st) h := G_iload_n (m180 dX11_tray_10) rfl
theorem e180_11 {d : Nat} {L st : List AV} {h : AM} {a : Int} : EV d 180 11 L ((0, a) :: st) h = if a < 0 then EV d 180 28 L st h else EV d 180 14 L st h := (E_if (m180 dX11_tray_11) (t := 28) rfl).trans cc_lt
theorem e180_14 {d : Nat} {l0 l2 l3 l4 : AV} {st : List AV} {h : AM} {x : Int} : EV d 180 14 [l0, (0, x), l2, l3, l4] st h = EV d 180 15 [l0, (0, x), l2, l3, l4] ((0, x) :: st) h := G_iload_n (m180 dX11_tray_14) rfl
theorem e180_15 {d : Nat} {L st : List AV} {h : AM} : EV d 180 15 L st h = EV d 180 16 L ((0, 4) :: st) h := G_iconst (m180 dX11_tray_15) (by decide)
theorem e180_16 {d : Nat} {L st : List AV} {h : AM} {a b : Int} : EV d 180 16 L ((0, b) :: (0, a) :: st) h = if a < b then EV d 180 19 L st h else EV d 180 28 L st h := (E_ic (m180 dX11_tray_16) (t := 28) rfl).trans cc_ge
theorem e180_19 {d : Nat} {l0 l1 l3 l4 : AV} {st : List AV} {h : AM} {x : Int} : EV d 180 19 [l0, l1, (0, x), l3, l4] st h = EV d 180 20 [l0, l1, (0, x), l3, l4] ((0, x) :: st) h := G_iload_n (m180 dX11_tray_19) rfl
theorem e180_20 {d : Nat} {L st : List AV} {h : AM} {a : Int} : EV d 180 20 L ((0, a) :: st) h = if a < 0 then EV d 180 28 L st h else EV d 180 23 L st h := (E_if (m180 dX11_tray_20) (t := 28) rfl).trans cc_lt
theorem e180_23 {d : Nat} {l0 l1 l3 l4 : AV} {st : List AV} {h : AM} {x : Int} : EV d 180 23 [l0, l1, (0, x), l3, l4] st h = EV d 180 24 [l0, l1, (0, x), l3, l4] ((0, x) :: st) h := G_iload_n (m180 dX11_tray_23) rfl
theorem e180_24 {d : Nat} {L st : List AV} {h : AM} : EV d 180 24 L st h = EV d 180 25 L ((0, 3) :: st) h := G_iconst (m180 dX11_tray_24) (by decide)
theorem e180_25 {d : Nat} {L st : List AV} {h : AM} {a b : Int} : EV d 180 25 L ((0, b) :: (0, a) :: st) h = if b < a then EV d 180 28 L st h else EV d 180 34 L st h := (E_ic (m180 dX11_tray_25) (t := 34) rfl).trans cc_le
theorem e180_28 {d : Nat} {l1 l2 l3 l4 : AV} {st : List AV} {h : AM} {x : Int} : EV d 180 28 [(2, x), l1, l2, l3, l4] st h = EV d 180 29 [(2, x), l1, l2, l3, l4] ((2, x) :: st) h := G_aload_n (m180 dX11_tray_28) rfl
theorem e180_29 {d : Nat} {L st : List AV} {h : AM} : EV d 180 29 L st h = EV d 180 30 L ((0, 1) :: st) h := G_iconst (m180 dX11_tray_29) (by decide)
theorem e180_30 {d : Nat} {L st : List AV} {h : AM} {r p0 : Int} (hs : st.length ≤ 4) (hk : isK h r 11) : EV (d + 1) 180 30 L ((0, p0) :: (2, r) :: st) h = (EV d 176 0 [(2, r), (0, p0)] [] h).bind (fun q => EV (d + 1) 180 33 L (psh q.1 st) q.2) := G_cv [(0, p0)] (m180 dX11_tray_30) ow180 tr_11_109 (by decide) td176 np176 ml176 ow176 rfl rfl (Nat.le_of_ble_eq_true rfl) rfl hs hk
theorem e180_33 {d : Nat} {L : List AV} {h : AM} {v : Int} (hv : v = 0 ∨ v = 1) : EV d 180 33 L [(0, v)] h = some ((0, v), h) := E_iret (m180 dX11_tray_33) (by rw [rt180]; rcases hv with rfl | rfl <;> rfl)
theorem e180_34 {d : Nat} {l0 l1 l2 l4 : AV} {st : List AV} {h : AM} {x : Int} : EV d 180 34 [l0, l1, l2, (0, x), l4] st h = EV d 180 35 [l0, l1, l2, (0, x), l4] ((0, x) :: st) h := G_iload_n (m180 dX11_tray_34) rfl
theorem e180_35 {d : Nat} {L st : List AV} {h : AM} : EV d 180 35 L st h = EV d 180 37 L ((0, 60) :: st) h := G_bipush (m180 dX11_tray_35) (by decide)
theorem e180_37 {d : Nat} {L st : List AV} {h : AM} {a b : Int} : EV d 180 37 L ((0, b) :: (0, a) :: st) h = if b < a then EV d 180 40 L st h else EV d 180 46 L st h := (E_ic (m180 dX11_tray_37) (t := 46) rfl).trans cc_le
theorem e180_40 {d : Nat} {l1 l2 l3 l4 : AV} {st : List AV} {h : AM} {x : Int} : EV d 180 40 [(2, x), l1, l2, l3, l4] st h = EV d 180 41 [(2, x), l1, l2, l3, l4] ((2, x) :: st) h := G_aload_n (m180 dX11_tray_40) rfl
theorem e180_41 {d : Nat} {L st : List AV} {h : AM} : EV d 180 41 L st h = EV d 180 42 L ((0, 5) :: st) h := G_iconst (m180 dX11_tray_41) (by decide)
theorem e180_42 {d : Nat} {L st : List AV} {h : AM} {r p0 : Int} (hs : st.length ≤ 4) (hk : isK h r 11) : EV (d + 1) 180 42 L ((0, p0) :: (2, r) :: st) h = (EV d 176 0 [(2, r), (0, p0)] [] h).bind (fun q => EV (d + 1) 180 45 L (psh q.1 st) q.2) := G_cv [(0, p0)] (m180 dX11_tray_42) ow180 tr_11_109 (by decide) td176 np176 ml176 ow176 rfl rfl (Nat.le_of_ble_eq_true rfl) rfl hs hk
theorem e180_45 {d : Nat} {L : List AV} {h : AM} {v : Int} (hv : v = 0 ∨ v = 1) : EV d 180 45 L [(0, v)] h = some ((0, v), h) := E_iret (m180 dX11_tray_45) (by rw [rt180]; rcases hv with rfl | rfl <;> rfl)
theorem e180_46 {d : Nat} {l0 l1 l2 l4 : AV} {st : List AV} {h : AM} {x : Int} : EV d 180 46 [l0, l1, l2, (0, x), l4] st h = EV d 180 47 [l0, l1, l2, (0, x), l4] ((0, x) :: st) h := G_iload_n (m180 dX11_tray_46) rfl
theorem e180_47 {d : Nat} {L st : List AV} {h : AM} {a : Int} : EV d 180 47 L ((0, a) :: st) h = if a < 0 then EV d 180 50 L st h else EV d 180 57 L st h := (E_if (m180 dX11_tray_47) (t := 57) rfl).trans cc_ge
theorem e180_50 {d : Nat} {l1 l2 l3 l4 : AV} {st : List AV} {h : AM} {x : Int} : EV d 180 50 [(2, x), l1, l2, l3, l4] st h = EV d 180 51 [(2, x), l1, l2, l3, l4] ((2, x) :: st) h := G_aload_n (m180 dX11_tray_50) rfl
theorem e180_51 {d : Nat} {L st : List AV} {h : AM} : EV d 180 51 L st h = EV d 180 53 L ((0, 6) :: st) h := G_bipush (m180 dX11_tray_51) (by decide)
theorem e180_53 {d : Nat} {L st : List AV} {h : AM} {r p0 : Int} (hs : st.length ≤ 4) (hk : isK h r 11) : EV (d + 1) 180 53 L ((0, p0) :: (2, r) :: st) h = (EV d 176 0 [(2, r), (0, p0)] [] h).bind (fun q => EV (d + 1) 180 56 L (psh q.1 st) q.2) := G_cv [(0, p0)] (m180 dX11_tray_53) ow180 tr_11_109 (by decide) td176 np176 ml176 ow176 rfl rfl (Nat.le_of_ble_eq_true rfl) rfl hs hk
theorem e180_56 {d : Nat} {L : List AV} {h : AM} {v : Int} (hv : v = 0 ∨ v = 1) : EV d 180 56 L [(0, v)] h = some ((0, v), h) := E_iret (m180 dX11_tray_56) (by rw [rt180]; rcases hv with rfl | rfl <;> rfl)
theorem e180_57 {d : Nat} {l1 l2 l3 l4 : AV} {st : List AV} {h : AM} {x : Int} : EV d 180 57 [(2, x), l1, l2, l3, l4] st h = EV d 180 58 [(2, x), l1, l2, l3, l4] ((2, x) :: st) h := G_aload_n (m180 dX11_tray_57) rfl
theorem e180_58 {d : Nat} {L st : List AV} {h : AM} {r : Int} (hk : isK h r 11) : EV d 180 58 L ((2, r) :: st) h = EV d 180 61 L ((2, mrd h r 4) :: st) h := G_get (m180 dX11_tray_58) ow180 tf_11_13 rfl rfl hk
theorem e180_61 {d : Nat} {l0 l2 l3 l4 : AV} {st : List AV} {h : AM} {x : Int} : EV d 180 61 [l0, (0, x), l2, l3, l4] st h = EV d 180 62 [l0, (0, x), l2, l3, l4] ((0, x) :: st) h := G_iload_n (m180 dX11_tray_61) rfl
theorem e180_62 {d : Nat} {l0 l1 l3 l4 : AV} {st : List AV} {h : AM} {x : Int} : EV d 180 62 [l0, l1, (0, x), l3, l4] st h = EV d 180 63 [l0, l1, (0, x), l3, l4] ((0, x) :: st) h := G_iload_n (m180 dX11_tray_62) rfl
theorem e180_63 {d : Nat} {L st : List AV} {h : AM} {r j v : Int} (hk : inA h r 16 j) : EV d 180 63 L ((0, v) :: (0, j) :: (2, r) :: st) h = EV d 180 64 L st (mwr h r j v) := E_iast (m180 dX11_tray_63) hk
theorem e180_64 {d : Nat} {l1 l2 l3 l4 : AV} {st : List AV} {h : AM} {x : Int} : EV d 180 64 [(2, x), l1, l2, l3, l4] st h = EV d 180 65 [(2, x), l1, l2, l3, l4] ((2, x) :: st) h := G_aload_n (m180 dX11_tray_64) rfl
theorem e180_65 {d : Nat} {L st : List AV} {h : AM} {r : Int} (hk : isK h r 11) : EV d 180 65 L ((2, r) :: st) h = EV d 180 68 L ((2, mrd h r 5) :: st) h := G_get (m180 dX11_tray_65) ow180 tf_11_17 rfl rfl hk
theorem e180_68 {d : Nat} {l0 l2 l3 l4 : AV} {st : List AV} {h : AM} {x : Int} : EV d 180 68 [l0, (0, x), l2, l3, l4] st h = EV d 180 69 [l0, (0, x), l2, l3, l4] ((0, x) :: st) h := G_iload_n (m180 dX11_tray_68) rfl
theorem e180_69 {d : Nat} {l0 l1 l2 l4 : AV} {st : List AV} {h : AM} {x : Int} : EV d 180 69 [l0, l1, l2, (0, x), l4] st h = EV d 180 70 [l0, l1, l2, (0, x), l4] ((0, x) :: st) h := G_iload_n (m180 dX11_tray_69) rfl
theorem e180_70 {d : Nat} {L st : List AV} {h : AM} {r j v : Int} (hk : inA h r 16 j) : EV d 180 70 L ((0, v) :: (0, j) :: (2, r) :: st) h = EV d 180 71 L st (mwr h r j v) := E_iast (m180 dX11_tray_70) hk
theorem e180_71 {d : Nat} {L st : List AV} {h : AM} : EV d 180 71 L st h = EV d 180 72 L ((0, 0) :: st) h := G_iconst (m180 dX11_tray_71) (by decide)
theorem e180_72 {d : Nat} {l0 l1 l2 l3 l4 : AV} {st : List AV} {h : AM} {x : Int} : EV d 180 72 [l0, l1, l2, l3, l4] ((0, x) :: st) h = EV d 180 74 [l0, l1, l2, l3, (0, x)] st h := G_istore (m180 dX11_tray_72) (Nat.le_of_ble_eq_true rfl) rfl
theorem e180_74 {d : Nat} {l0 l1 l2 l3 : AV} {st : List AV} {h : AM} {x : Int} : EV d 180 74 [l0, l1, l2, l3, (0, x)] st h = EV d 180 76 [l0, l1, l2, l3, (0, x)] ((0, x) :: st) h := G_iload (m180 dX11_tray_74) rfl
theorem e180_76 {d : Nat} {l0 l1 l2 l4 : AV} {st : List AV} {h : AM} {x : Int} : EV d 180 76 [l0, l1, l2, (0, x), l4] st h = EV d 180 77 [l0, l1, l2, (0, x), l4] ((0, x) :: st) h := G_iload_n (m180 dX11_tray_76) rfl
theorem e180_77 {d : Nat} {L st : List AV} {h : AM} {a b : Int} : EV d 180 77 L ((0, b) :: (0, a) :: st) h = if a < b then EV d 180 80 L st h else EV d 180 99 L st h := (E_ic (m180 dX11_tray_77) (t := 99) rfl).trans cc_ge
theorem e180_80 {d : Nat} {l1 l2 l3 l4 : AV} {st : List AV} {h : AM} {x : Int} : EV d 180 80 [(2, x), l1, l2, l3, l4] st h = EV d 180 81 [(2, x), l1, l2, l3, l4] ((2, x) :: st) h := G_aload_n (m180 dX11_tray_80) rfl
theorem e180_81 {d : Nat} {L st : List AV} {h : AM} {r : Int} (hk : isK h r 11) : EV d 180 81 L ((2, r) :: st) h = EV d 180 84 L ((2, mrd h r 6) :: st) h := G_get (m180 dX11_tray_81) ow180 tf_11_20 rfl rfl hk
theorem e180_84 {d : Nat} {L st : List AV} {h : AM} : EV d 180 84 L st h = EV d 180 86 L ((0, 60) :: st) h := G_bipush (m180 dX11_tray_84) (by decide)
theorem e180_86 {d : Nat} {l0 l2 l3 l4 : AV} {st : List AV} {h : AM} {x : Int} : EV d 180 86 [l0, (0, x), l2, l3, l4] st h = EV d 180 87 [l0, (0, x), l2, l3, l4] ((0, x) :: st) h := G_iload_n (m180 dX11_tray_86) rfl
theorem e180_87 {d : Nat} {L st : List AV} {h : AM} {a b : Int} : EV d 180 87 L ((0, b) :: (0, a) :: st) h = EV d 180 88 L ((0, w32 (a * b)) :: st) h := E_imul (m180 dX11_tray_87)
theorem e180_88 {d : Nat} {l0 l1 l2 l3 : AV} {st : List AV} {h : AM} {x : Int} : EV d 180 88 [l0, l1, l2, l3, (0, x)] st h = EV d 180 90 [l0, l1, l2, l3, (0, x)] ((0, x) :: st) h := G_iload (m180 dX11_tray_88) rfl
theorem e180_90 {d : Nat} {L st : List AV} {h : AM} {a b : Int} : EV d 180 90 L ((0, b) :: (0, a) :: st) h = EV d 180 91 L ((0, w32 (a + b)) :: st) h := E_iadd (m180 dX11_tray_90)
theorem e180_91 {d : Nat} {L st : List AV} {h : AM} : EV d 180 91 L st h = EV d 180 92 L ((1, 0) :: st) h := G_lconst0 (m180 dX11_tray_91)
theorem e180_92 {d : Nat} {L st : List AV} {h : AM} {r j v : Int} (hk : inA h r 19 j) : EV d 180 92 L ((1, v) :: (0, j) :: (2, r) :: st) h = EV d 180 93 L st (mwr h r j v) := E_last (m180 dX11_tray_92) hk
theorem e180_93 {d : Nat} {l0 l1 l2 l3 : AV} {st : List AV} {h : AM} {x : Int} : EV d 180 93 [l0, l1, l2, l3, (0, x)] st h = EV d 180 96 [l0, l1, l2, l3, (0, w32 (x + 1))] st h := G_iinc (m180 dX11_tray_93) rfl rfl
theorem e180_96 {d : Nat} {L st : List AV} {h : AM} : EV d 180 96 L st h = EV d 180 74 L st h := G_goto (m180 dX11_tray_96) rfl
theorem e180_99 {d : Nat} {L st : List AV} {h : AM} : EV d 180 99 L st h = EV d 180 100 L ((0, 1) :: st) h := G_iconst (m180 dX11_tray_99) (by decide)
theorem e180_100 {d : Nat} {L : List AV} {h : AM} {v : Int} (hv : v = 0 ∨ v = 1) : EV d 180 100 L [(0, v)] h = some ((0, v), h) := E_iret (m180 dX11_tray_100) (by rw [rt180]; rcases hv with rfl | rfl <;> rfl)
theorem e181_0 {d : Nat} {l0 : AV} {st : List AV} {h : AM} {x : Int} : EV d 181 0 [l0, (0, x)] st h = EV d 181 1 [l0, (0, x)] ((0, x) :: st) h := G_iload_n (m181 dX11_trayed_0) rfl
theorem e181_1 {d : Nat} {L st : List AV} {h : AM} {a : Int} : EV d 181 1 L ((0, a) :: st) h = if a < 0 then EV d 181 9 L st h else EV d 181 4 L st h := (E_if (m181 dX11_trayed_1) (t := 9) rfl).trans cc_lt
theorem e181_4 {d : Nat} {l0 : AV} {st : List AV} {h : AM} {x : Int} : EV d 181 4 [l0, (0, x)] st h = EV d 181 5 [l0, (0, x)] ((0, x) :: st) h := G_iload_n (m181 dX11_trayed_4) rfl
theorem e181_5 {d : Nat} {L st : List AV} {h : AM} : EV d 181 5 L st h = EV d 181 6 L ((0, 4) :: st) h := G_iconst (m181 dX11_trayed_5) (by decide)
theorem e181_6 {d : Nat} {L st : List AV} {h : AM} {a b : Int} : EV d 181 6 L ((0, b) :: (0, a) :: st) h = if a < b then EV d 181 13 L st h else EV d 181 9 L st h := (E_ic (m181 dX11_trayed_6) (t := 13) rfl).trans cc_lt
theorem e181_9 {d : Nat} {L st : List AV} {h : AM} : EV d 181 9 L st h = EV d 181 10 L ((0, 1) :: st) h := G_iconst (m181 dX11_trayed_9) (by decide)
theorem e181_10 {d : Nat} {L st : List AV} {h : AM} : EV d 181 10 L st h = EV d 181 27 L st h := G_goto (m181 dX11_trayed_10) rfl
theorem e181_13 {d : Nat} {l1 : AV} {st : List AV} {h : AM} {x : Int} : EV d 181 13 [(2, x), l1] st h = EV d 181 14 [(2, x), l1] ((2, x) :: st) h := G_aload_n (m181 dX11_trayed_13) rfl
theorem e181_14 {d : Nat} {L st : List AV} {h : AM} {r : Int} (hk : isK h r 11) : EV d 181 14 L ((2, r) :: st) h = EV d 181 17 L ((2, mrd h r 5) :: st) h := G_get (m181 dX11_trayed_14) ow181 tf_11_17 rfl rfl hk
theorem e181_17 {d : Nat} {l0 : AV} {st : List AV} {h : AM} {x : Int} : EV d 181 17 [l0, (0, x)] st h = EV d 181 18 [l0, (0, x)] ((0, x) :: st) h := G_iload_n (m181 dX11_trayed_17) rfl
theorem e181_18 {d : Nat} {L st : List AV} {h : AM} {r j : Int} (hk : inA h r 16 j) : EV d 181 18 L ((0, j) :: (2, r) :: st) h = EV d 181 19 L ((0, mrd h r j) :: st) h := E_iald (m181 dX11_trayed_18) hk
theorem e181_19 {d : Nat} {L st : List AV} {h : AM} {a : Int} : EV d 181 19 L ((0, a) :: st) h = if a < 0 then EV d 181 22 L st h else EV d 181 26 L st h := (E_if (m181 dX11_trayed_19) (t := 26) rfl).trans cc_ge
theorem e181_22 {d : Nat} {L st : List AV} {h : AM} : EV d 181 22 L st h = EV d 181 23 L ((0, 3) :: st) h := G_iconst (m181 dX11_trayed_22) (by decide)
theorem e181_23 {d : Nat} {L st : List AV} {h : AM} : EV d 181 23 L st h = EV d 181 27 L st h := G_goto (m181 dX11_trayed_23) rfl
theorem e181_26 {d : Nat} {L st : List AV} {h : AM} : EV d 181 26 L st h = EV d 181 27 L ((0, 0) :: st) h := G_iconst (m181 dX11_trayed_26) (by decide)
theorem e181_27 {d : Nat} {L : List AV} {h : AM} {v : Int} : EV d 181 27 L [(0, v)] h = some ((0, v), h) := E_iret (m181 dX11_trayed_27) (by rw [rt181]; rfl)
theorem e182_0 {d : Nat} {l1 l2 l3 : AV} {st : List AV} {h : AM} {x : Int} : EV d 182 0 [(2, x), l1, l2, l3] st h = EV d 182 1 [(2, x), l1, l2, l3] ((2, x) :: st) h := G_aload_n (m182 dX11_placed_0) rfl
theorem e182_1 {d : Nat} {l0 l2 l3 : AV} {st : List AV} {h : AM} {x : Int} : EV d 182 1 [l0, (0, x), l2, l3] st h = EV d 182 2 [l0, (0, x), l2, l3] ((0, x) :: st) h := G_iload_n (m182 dX11_placed_1) rfl
theorem e182_2 {d : Nat} {L st : List AV} {h : AM} {r p0 : Int} (hs : st.length ≤ 4) (hk : isK h r 11) : EV (d + 1) 182 2 L ((0, p0) :: (2, r) :: st) h = (EV d 181 0 [(2, r), (0, p0)] [] h).bind (fun q => EV (d + 1) 182 5 L (psh q.1 st) q.2) := G_cv [(0, p0)] (m182 dX11_placed_2) ow182 tr_11_113 (by decide) td181 np181 ml181 ow181 rfl rfl (Nat.le_of_ble_eq_true rfl) rfl hs hk
theorem e182_5 {d : Nat} {l0 l1 l2 l3 : AV} {st : List AV} {h : AM} {x : Int} : EV d 182 5 [l0, l1, l2, l3] ((0, x) :: st) h = EV d 182 6 [l0, l1, l2, (0, x)] st h := G_istore_n (m182 dX11_placed_5) (Nat.le_of_ble_eq_true rfl) rfl
theorem e182_6 {d : Nat} {l0 l1 l2 : AV} {st : List AV} {h : AM} {x : Int} : EV d 182 6 [l0, l1, l2, (0, x)] st h = EV d 182 7 [l0, l1, l2, (0, x)] ((0, x) :: st) h := G_iload_n (m182 dX11_placed_6) rfl
theorem e182_7 {d : Nat} {L st : List AV} {h : AM} {a : Int} : EV d 182 7 L ((0, a) :: st) h = if 0 < a then EV d 182 10 L st h else EV d 182 14 L st h := (E_if (m182 dX11_placed_7) (t := 14) rfl).trans cc_le
theorem e182_10 {d : Nat} {l0 l1 l2 : AV} {st : List AV} {h : AM} {x : Int} : EV d 182 10 [l0, l1, l2, (0, x)] st h = EV d 182 11 [l0, l1, l2, (0, x)] ((0, x) :: st) h := G_iload_n (m182 dX11_placed_10) rfl
theorem e182_11 {d : Nat} {L st : List AV} {h : AM} : EV d 182 11 L st h = EV d 182 33 L st h := G_goto (m182 dX11_placed_11) rfl
theorem e182_14 {d : Nat} {l0 l1 l3 : AV} {st : List AV} {h : AM} {x : Int} : EV d 182 14 [l0, l1, (0, x), l3] st h = EV d 182 15 [l0, l1, (0, x), l3] ((0, x) :: st) h := G_iload_n (m182 dX11_placed_14) rfl
theorem e182_15 {d : Nat} {L st : List AV} {h : AM} {a : Int} : EV d 182 15 L ((0, a) :: st) h = if a < 0 then EV d 182 28 L st h else EV d 182 18 L st h := (E_if (m182 dX11_placed_15) (t := 28) rfl).trans cc_lt
theorem e182_18 {d : Nat} {l0 l1 l3 : AV} {st : List AV} {h : AM} {x : Int} : EV d 182 18 [l0, l1, (0, x), l3] st h = EV d 182 19 [l0, l1, (0, x), l3] ((0, x) :: st) h := G_iload_n (m182 dX11_placed_18) rfl
theorem e182_19 {d : Nat} {l1 l2 l3 : AV} {st : List AV} {h : AM} {x : Int} : EV d 182 19 [(2, x), l1, l2, l3] st h = EV d 182 20 [(2, x), l1, l2, l3] ((2, x) :: st) h := G_aload_n (m182 dX11_placed_19) rfl
theorem e182_20 {d : Nat} {L st : List AV} {h : AM} {r : Int} (hk : isK h r 11) : EV d 182 20 L ((2, r) :: st) h = EV d 182 23 L ((2, mrd h r 5) :: st) h := G_get (m182 dX11_placed_20) ow182 tf_11_17 rfl rfl hk
theorem e182_23 {d : Nat} {l0 l2 l3 : AV} {st : List AV} {h : AM} {x : Int} : EV d 182 23 [l0, (0, x), l2, l3] st h = EV d 182 24 [l0, (0, x), l2, l3] ((0, x) :: st) h := G_iload_n (m182 dX11_placed_23) rfl
theorem e182_24 {d : Nat} {L st : List AV} {h : AM} {r j : Int} (hk : inA h r 16 j) : EV d 182 24 L ((0, j) :: (2, r) :: st) h = EV d 182 25 L ((0, mrd h r j) :: st) h := E_iald (m182 dX11_placed_24) hk
theorem e182_25 {d : Nat} {L st : List AV} {h : AM} {a b : Int} : EV d 182 25 L ((0, b) :: (0, a) :: st) h = if a < b then EV d 182 32 L st h else EV d 182 28 L st h := (E_ic (m182 dX11_placed_25) (t := 32) rfl).trans cc_lt
theorem e182_28 {d : Nat} {L st : List AV} {h : AM} : EV d 182 28 L st h = EV d 182 29 L ((0, 4) :: st) h := G_iconst (m182 dX11_placed_28) (by decide)
theorem e182_29 {d : Nat} {L st : List AV} {h : AM} : EV d 182 29 L st h = EV d 182 33 L st h := G_goto (m182 dX11_placed_29) rfl
theorem e182_32 {d : Nat} {L st : List AV} {h : AM} : EV d 182 32 L st h = EV d 182 33 L ((0, 0) :: st) h := G_iconst (m182 dX11_placed_32) (by decide)
theorem e182_33 {d : Nat} {L : List AV} {h : AM} {v : Int} : EV d 182 33 L [(0, v)] h = some ((0, v), h) := E_iret (m182 dX11_placed_33) (by rw [rt182]; rfl)
theorem e183_0 {d : Nat} {l1 l2 l3 l4 : AV} {st : List AV} {h : AM} {x : Int} : EV d 183 0 [(2, x), l1, l2, l3, l4] st h = EV d 183 1 [(2, x), l1, l2, l3, l4] ((2, x) :: st) h := G_aload_n (m183 dX11_write_0) rfl
theorem e183_1 {d : Nat} {L st : List AV} {h : AM} : EV d 183 1 L st h = EV d 183 2 L ((0, 0) :: st) h := G_iconst (m183 dX11_write_1) (by decide)
theorem pk_183_11_1 : pok 183 11 1 0 = true := by decide +kernel
theorem e183_2 {d : Nat} {L st : List AV} {h : AM} {r v : Int} (hk : isK h r 11) : EV d 183 2 L ((0, v) :: (2, r) :: st) h = EV d 183 5 L st (mwr h r 1 v) := G_put (m183 dX11_write_2) ow183 tf_11_94 pk_183_11_1 rfl hk
theorem e183_5 {d : Nat} {l1 l2 l3 l4 : AV} {st : List AV} {h : AM} {x : Int} : EV d 183 5 [(2, x), l1, l2, l3, l4] st h = EV d 183 6 [(2, x), l1, l2, l3, l4] ((2, x) :: st) h := G_aload_n (m183 dX11_write_5) rfl
theorem e183_6 {d : Nat} {l1 l2 l3 l4 : AV} {st : List AV} {h : AM} {x : Int} : EV d 183 6 [(2, x), l1, l2, l3, l4] st h = EV d 183 7 [(2, x), l1, l2, l3, l4] ((2, x) :: st) h := G_aload_n (m183 dX11_write_6) rfl
theorem e183_7 {d : Nat} {l0 l2 l3 l4 : AV} {st : List AV} {h : AM} {x : Int} : EV d 183 7 [l0, (0, x), l2, l3, l4] st h = EV d 183 8 [l0, (0, x), l2, l3, l4] ((0, x) :: st) h := G_iload_n (m183 dX11_write_7) rfl
theorem e183_8 {d : Nat} {l0 l1 l3 l4 : AV} {st : List AV} {h : AM} {x : Int} : EV d 183 8 [l0, l1, (0, x), l3, l4] st h = EV d 183 9 [l0, l1, (0, x), l3, l4] ((0, x) :: st) h := G_iload_n (m183 dX11_write_8) rfl
theorem e183_9 {d : Nat} {L st : List AV} {h : AM} {r p0 p1 : Int} (hs : st.length ≤ 4) (hk : isK h r 11) : EV (d + 1) 183 9 L ((0, p1) :: (0, p0) :: (2, r) :: st) h = (EV d 182 0 [(2, r), (0, p0), (0, p1), (3, 0)] [] h).bind (fun q => EV (d + 1) 183 12 L (psh q.1 st) q.2) := G_cv [(0, p0), (0, p1)] (m183 dX11_write_9) ow183 tr_11_117 (by decide) td182 np182 ml182 ow182 rfl rfl (Nat.le_of_ble_eq_true rfl) rfl hs hk
theorem pk_183_11_0 : pok 183 11 0 0 = true := by decide +kernel
theorem e183_12 {d : Nat} {L st : List AV} {h : AM} {r v : Int} (hk : isK h r 11) : EV d 183 12 L ((0, v) :: (2, r) :: st) h = EV d 183 15 L st (mwr h r 0 v) := G_put (m183 dX11_write_12) ow183 tf_11_97 pk_183_11_0 rfl hk
theorem e183_15 {d : Nat} {l1 l2 l3 l4 : AV} {st : List AV} {h : AM} {x : Int} : EV d 183 15 [(2, x), l1, l2, l3, l4] st h = EV d 183 16 [(2, x), l1, l2, l3, l4] ((2, x) :: st) h := G_aload_n (m183 dX11_write_15) rfl
theorem e183_16 {d : Nat} {L st : List AV} {h : AM} {r : Int} (hk : isK h r 11) : EV d 183 16 L ((2, r) :: st) h = EV d 183 19 L ((0, mrd h r 0) :: st) h := G_get (m183 dX11_write_16) ow183 tf_11_97 rfl rfl hk
theorem e183_19 {d : Nat} {L st : List AV} {h : AM} {a : Int} : EV d 183 19 L ((0, a) :: st) h = if 0 < a then EV d 183 22 L st h else EV d 183 24 L st h := (E_if (m183 dX11_write_19) (t := 24) rfl).trans cc_le
theorem e183_22 {d : Nat} {L st : List AV} {h : AM} : EV d 183 22 L st h = EV d 183 23 L ((0, 0) :: st) h := G_iconst (m183 dX11_write_22) (by decide)
theorem e183_23 {d : Nat} {L : List AV} {h : AM} {v : Int} (hv : v = 0 ∨ v = 1) : EV d 183 23 L [(0, v)] h = some ((0, v), h) := E_iret (m183 dX11_write_23) (by rw [rt183]; rcases hv with rfl | rfl <;> rfl)
theorem e183_24 {d : Nat} {l1 l2 l3 l4 : AV} {st : List AV} {h : AM} {x : Int} : EV d 183 24 [(2, x), l1, l2, l3, l4] st h = EV d 183 25 [(2, x), l1, l2, l3, l4] ((2, x) :: st) h := G_aload_n (m183 dX11_write_24) rfl
theorem e183_25 {d : Nat} {L st : List AV} {h : AM} {r : Int} (hk : isK h r 11) : EV d 183 25 L ((2, r) :: st) h = EV d 183 28 L ((2, mrd h r 6) :: st) h := G_get (m183 dX11_write_25) ow183 tf_11_20 rfl rfl hk
theorem e183_28 {d : Nat} {L st : List AV} {h : AM} : EV d 183 28 L st h = EV d 183 30 L ((0, 60) :: st) h := G_bipush (m183 dX11_write_28) (by decide)
theorem e183_30 {d : Nat} {l0 l2 l3 l4 : AV} {st : List AV} {h : AM} {x : Int} : EV d 183 30 [l0, (0, x), l2, l3, l4] st h = EV d 183 31 [l0, (0, x), l2, l3, l4] ((0, x) :: st) h := G_iload_n (m183 dX11_write_30) rfl
theorem e183_31 {d : Nat} {L st : List AV} {h : AM} {a b : Int} : EV d 183 31 L ((0, b) :: (0, a) :: st) h = EV d 183 32 L ((0, w32 (a * b)) :: st) h := E_imul (m183 dX11_write_31)
theorem e183_32 {d : Nat} {l0 l1 l3 l4 : AV} {st : List AV} {h : AM} {x : Int} : EV d 183 32 [l0, l1, (0, x), l3, l4] st h = EV d 183 33 [l0, l1, (0, x), l3, l4] ((0, x) :: st) h := G_iload_n (m183 dX11_write_32) rfl
theorem e183_33 {d : Nat} {L st : List AV} {h : AM} {a b : Int} : EV d 183 33 L ((0, b) :: (0, a) :: st) h = EV d 183 34 L ((0, w32 (a + b)) :: st) h := E_iadd (m183 dX11_write_33)
theorem e183_34 {d : Nat} {l1 l2 l3 l4 : AV} {st : List AV} {h : AM} {x : Int} : EV d 183 34 [(2, x), l1, l2, l3, l4] st h = EV d 183 35 [(2, x), l1, l2, l3, l4] ((2, x) :: st) h := G_aload_n (m183 dX11_write_34) rfl
theorem e183_35 {d : Nat} {L st : List AV} {h : AM} {r : Int} (hk : isK h r 11) : EV d 183 35 L ((2, r) :: st) h = EV d 183 38 L ((2, mrd h r 4) :: st) h := G_get (m183 dX11_write_35) ow183 tf_11_13 rfl rfl hk
theorem e183_38 {d : Nat} {l0 l2 l3 l4 : AV} {st : List AV} {h : AM} {x : Int} : EV d 183 38 [l0, (0, x), l2, l3, l4] st h = EV d 183 39 [l0, (0, x), l2, l3, l4] ((0, x) :: st) h := G_iload_n (m183 dX11_write_38) rfl
theorem e183_39 {d : Nat} {L st : List AV} {h : AM} {r j : Int} (hk : inA h r 16 j) : EV d 183 39 L ((0, j) :: (2, r) :: st) h = EV d 183 40 L ((0, mrd h r j) :: st) h := E_iald (m183 dX11_write_39) hk
theorem e183_40 {d : Nat} {l0 l1 l2 : AV} {st : List AV} {h : AM} {x : Int} : EV d 183 40 [l0, l1, l2, (1, x), (3, 1)] st h = EV d 183 41 [l0, l1, l2, (1, x), (3, 1)] ((1, x) :: st) h := G_lload_n (m183 dX11_write_40) rfl rfl
theorem e183_41 {d : Nat} {L st : List AV} {h : AM} {p0 p1 : Int} (hs : st.length ≤ 4) : EV (d + 1) 183 41 L ((1, p1) :: (0, p0) :: st) h = (EV d 179 0 [(0, p0), (1, p1), (3, 1)] [] h).bind (fun q => EV (d + 1) 183 44 L (psh q.1 st) q.2) := G_cs [(0, p0), (1, p1)] (m183 dX11_write_41) ow183 tr_11_121 (by decide) td179 np179 ml179 rfl rfl (Nat.le_of_ble_eq_true rfl) rfl hs
theorem e183_44 {d : Nat} {L st : List AV} {h : AM} {r j v : Int} (hk : inA h r 19 j) : EV d 183 44 L ((1, v) :: (0, j) :: (2, r) :: st) h = EV d 183 45 L st (mwr h r j v) := E_last (m183 dX11_write_44) hk
theorem e183_45 {d : Nat} {L st : List AV} {h : AM} : EV d 183 45 L st h = EV d 183 46 L ((0, 1) :: st) h := G_iconst (m183 dX11_write_45) (by decide)
theorem e183_46 {d : Nat} {L : List AV} {h : AM} {v : Int} (hv : v = 0 ∨ v = 1) : EV d 183 46 L [(0, v)] h = some ((0, v), h) := E_iret (m183 dX11_write_46) (by rw [rt183]; rcases hv with rfl | rfl <;> rfl)
theorem e184_0 {d : Nat} {l1 l2 : AV} {st : List AV} {h : AM} {x : Int} : EV d 184 0 [(2, x), l1, l2] st h = EV d 184 1 [(2, x), l1, l2] ((2, x) :: st) h := G_aload_n (m184 dX11_read_0) rfl
theorem e184_1 {d : Nat} {L st : List AV} {h : AM} : EV d 184 1 L st h = EV d 184 2 L ((0, 0) :: st) h := G_iconst (m184 dX11_read_1) (by decide)
theorem pk_184_11_1 : pok 184 11 1 0 = true := by decide +kernel
theorem e184_2 {d : Nat} {L st : List AV} {h : AM} {r v : Int} (hk : isK h r 11) : EV d 184 2 L ((0, v) :: (2, r) :: st) h = EV d 184 5 L st (mwr h r 1 v) := G_put (m184 dX11_read_2) ow184 tf_11_94 pk_184_11_1 rfl hk
theorem e184_5 {d : Nat} {l1 l2 : AV} {st : List AV} {h : AM} {x : Int} : EV d 184 5 [(2, x), l1, l2] st h = EV d 184 6 [(2, x), l1, l2] ((2, x) :: st) h := G_aload_n (m184 dX11_read_5) rfl
theorem e184_6 {d : Nat} {l1 l2 : AV} {st : List AV} {h : AM} {x : Int} : EV d 184 6 [(2, x), l1, l2] st h = EV d 184 7 [(2, x), l1, l2] ((2, x) :: st) h := G_aload_n (m184 dX11_read_6) rfl
theorem e184_7 {d : Nat} {l0 l2 : AV} {st : List AV} {h : AM} {x : Int} : EV d 184 7 [l0, (0, x), l2] st h = EV d 184 8 [l0, (0, x), l2] ((0, x) :: st) h := G_iload_n (m184 dX11_read_7) rfl
theorem e184_8 {d : Nat} {l0 l1 : AV} {st : List AV} {h : AM} {x : Int} : EV d 184 8 [l0, l1, (0, x)] st h = EV d 184 9 [l0, l1, (0, x)] ((0, x) :: st) h := G_iload_n (m184 dX11_read_8) rfl
theorem e184_9 {d : Nat} {L st : List AV} {h : AM} {r p0 p1 : Int} (hs : st.length ≤ 4) (hk : isK h r 11) : EV (d + 1) 184 9 L ((0, p1) :: (0, p0) :: (2, r) :: st) h = (EV d 182 0 [(2, r), (0, p0), (0, p1), (3, 0)] [] h).bind (fun q => EV (d + 1) 184 12 L (psh q.1 st) q.2) := G_cv [(0, p0), (0, p1)] (m184 dX11_read_9) ow184 tr_11_117 (by decide) td182 np182 ml182 ow182 rfl rfl (Nat.le_of_ble_eq_true rfl) rfl hs hk
theorem pk_184_11_0 : pok 184 11 0 0 = true := by decide +kernel
theorem e184_12 {d : Nat} {L st : List AV} {h : AM} {r v : Int} (hk : isK h r 11) : EV d 184 12 L ((0, v) :: (2, r) :: st) h = EV d 184 15 L st (mwr h r 0 v) := G_put (m184 dX11_read_12) ow184 tf_11_97 pk_184_11_0 rfl hk
theorem e184_15 {d : Nat} {l1 l2 : AV} {st : List AV} {h : AM} {x : Int} : EV d 184 15 [(2, x), l1, l2] st h = EV d 184 16 [(2, x), l1, l2] ((2, x) :: st) h := G_aload_n (m184 dX11_read_15) rfl
theorem e184_16 {d : Nat} {L st : List AV} {h : AM} {r : Int} (hk : isK h r 11) : EV d 184 16 L ((2, r) :: st) h = EV d 184 19 L ((0, mrd h r 0) :: st) h := G_get (m184 dX11_read_16) ow184 tf_11_97 rfl rfl hk
theorem e184_19 {d : Nat} {L st : List AV} {h : AM} {a : Int} : EV d 184 19 L ((0, a) :: st) h = if 0 < a then EV d 184 22 L st h else EV d 184 28 L st h := (E_if (m184 dX11_read_19) (t := 28) rfl).trans cc_le
theorem e184_22 {d : Nat} {L st : List AV} {h : AM} : EV d 184 22 L st h = EV d 184 25 L ((1, -1) :: st) h := G_ldc2 (m184 dX11_read_22) ow184 tl_11_125 (by decide)
theorem e184_25 {d : Nat} {L st : List AV} {h : AM} : EV d 184 25 L st h = EV d 184 39 L st h := G_goto (m184 dX11_read_25) rfl
theorem e184_28 {d : Nat} {l1 l2 : AV} {st : List AV} {h : AM} {x : Int} : EV d 184 28 [(2, x), l1, l2] st h = EV d 184 29 [(2, x), l1, l2] ((2, x) :: st) h := G_aload_n (m184 dX11_read_28) rfl
theorem e184_29 {d : Nat} {L st : List AV} {h : AM} {r : Int} (hk : isK h r 11) : EV d 184 29 L ((2, r) :: st) h = EV d 184 32 L ((2, mrd h r 6) :: st) h := G_get (m184 dX11_read_29) ow184 tf_11_20 rfl rfl hk
theorem e184_32 {d : Nat} {L st : List AV} {h : AM} : EV d 184 32 L st h = EV d 184 34 L ((0, 60) :: st) h := G_bipush (m184 dX11_read_32) (by decide)
theorem e184_34 {d : Nat} {l0 l2 : AV} {st : List AV} {h : AM} {x : Int} : EV d 184 34 [l0, (0, x), l2] st h = EV d 184 35 [l0, (0, x), l2] ((0, x) :: st) h := G_iload_n (m184 dX11_read_34) rfl
theorem e184_35 {d : Nat} {L st : List AV} {h : AM} {a b : Int} : EV d 184 35 L ((0, b) :: (0, a) :: st) h = EV d 184 36 L ((0, w32 (a * b)) :: st) h := E_imul (m184 dX11_read_35)
theorem e184_36 {d : Nat} {l0 l1 : AV} {st : List AV} {h : AM} {x : Int} : EV d 184 36 [l0, l1, (0, x)] st h = EV d 184 37 [l0, l1, (0, x)] ((0, x) :: st) h := G_iload_n (m184 dX11_read_36) rfl
theorem e184_37 {d : Nat} {L st : List AV} {h : AM} {a b : Int} : EV d 184 37 L ((0, b) :: (0, a) :: st) h = EV d 184 38 L ((0, w32 (a + b)) :: st) h := E_iadd (m184 dX11_read_37)
theorem e184_38 {d : Nat} {L st : List AV} {h : AM} {r j : Int} (hk : inA h r 19 j) : EV d 184 38 L ((0, j) :: (2, r) :: st) h = EV d 184 39 L ((1, mrd h r j) :: st) h := E_lald (m184 dX11_read_38) hk
theorem e184_39 {d : Nat} {L : List AV} {h : AM} {v : Int} : EV d 184 39 L [(1, v)] h = some ((1, v), h) := E_lret (m184 dX11_read_39) rt184
theorem e185_0 {d : Nat} {l1 l2 l3 l4 l5 l6 l7 l8 : AV} {st : List AV} {h : AM} {x : Int} : EV d 185 0 [(2, x), l1, l2, l3, l4, l5, l6, l7, l8] st h = EV d 185 1 [(2, x), l1, l2, l3, l4, l5, l6, l7, l8] ((2, x) :: st) h := G_aload_n (m185 dX11_pour_0) rfl
theorem e185_1 {d : Nat} {L st : List AV} {h : AM} : EV d 185 1 L st h = EV d 185 2 L ((0, 0) :: st) h := G_iconst (m185 dX11_pour_1) (by decide)
theorem pk_185_11_1 : pok 185 11 1 0 = true := by decide +kernel
theorem e185_2 {d : Nat} {L st : List AV} {h : AM} {r v : Int} (hk : isK h r 11) : EV d 185 2 L ((0, v) :: (2, r) :: st) h = EV d 185 5 L st (mwr h r 1 v) := G_put (m185 dX11_pour_2) ow185 tf_11_94 pk_185_11_1 rfl hk
theorem e185_5 {d : Nat} {l1 l2 l3 l4 l5 l6 l7 l8 : AV} {st : List AV} {h : AM} {x : Int} : EV d 185 5 [(2, x), l1, l2, l3, l4, l5, l6, l7, l8] st h = EV d 185 6 [(2, x), l1, l2, l3, l4, l5, l6, l7, l8] ((2, x) :: st) h := G_aload_n (m185 dX11_pour_5) rfl
theorem e185_6 {d : Nat} {L st : List AV} {h : AM} : EV d 185 6 L st h = EV d 185 7 L ((0, 0) :: st) h := G_iconst (m185 dX11_pour_6) (by decide)
theorem pk_185_11_0 : pok 185 11 0 0 = true := by decide +kernel
theorem e185_7 {d : Nat} {L st : List AV} {h : AM} {r v : Int} (hk : isK h r 11) : EV d 185 7 L ((0, v) :: (2, r) :: st) h = EV d 185 10 L st (mwr h r 0 v) := G_put (m185 dX11_pour_7) ow185 tf_11_97 pk_185_11_0 rfl hk
theorem e185_10 {d : Nat} {l0 l2 l3 l4 l5 l6 l7 l8 : AV} {st : List AV} {h : AM} {x : Int} : EV d 185 10 [l0, (0, x), l2, l3, l4, l5, l6, l7, l8] st h = EV d 185 11 [l0, (0, x), l2, l3, l4, l5, l6, l7, l8] ((0, x) :: st) h := G_iload_n (m185 dX11_pour_10) rfl
theorem e185_11 {d : Nat} {L st : List AV} {h : AM} {a : Int} : EV d 185 11 L ((0, a) :: st) h = if a < 0 then EV d 185 28 L st h else EV d 185 14 L st h := (E_if (m185 dX11_pour_11) (t := 28) rfl).trans cc_lt
theorem e185_14 {d : Nat} {l0 l2 l3 l4 l5 l6 l7 l8 : AV} {st : List AV} {h : AM} {x : Int} : EV d 185 14 [l0, (0, x), l2, l3, l4, l5, l6, l7, l8] st h = EV d 185 15 [l0, (0, x), l2, l3, l4, l5, l6, l7, l8] ((0, x) :: st) h := G_iload_n (m185 dX11_pour_14) rfl
theorem e185_15 {d : Nat} {L st : List AV} {h : AM} : EV d 185 15 L st h = EV d 185 16 L ((0, 4) :: st) h := G_iconst (m185 dX11_pour_15) (by decide)
theorem e185_16 {d : Nat} {L st : List AV} {h : AM} {a b : Int} : EV d 185 16 L ((0, b) :: (0, a) :: st) h = if a < b then EV d 185 19 L st h else EV d 185 28 L st h := (E_ic (m185 dX11_pour_16) (t := 28) rfl).trans cc_ge
theorem e185_19 {d : Nat} {l0 l1 l2 l4 l5 l6 l7 l8 : AV} {st : List AV} {h : AM} {x : Int} : EV d 185 19 [l0, l1, l2, (0, x), l4, l5, l6, l7, l8] st h = EV d 185 20 [l0, l1, l2, (0, x), l4, l5, l6, l7, l8] ((0, x) :: st) h := G_iload_n (m185 dX11_pour_19) rfl
theorem e185_20 {d : Nat} {L st : List AV} {h : AM} {a : Int} : EV d 185 20 L ((0, a) :: st) h = if a < 0 then EV d 185 28 L st h else EV d 185 23 L st h := (E_if (m185 dX11_pour_20) (t := 28) rfl).trans cc_lt
theorem e185_23 {d : Nat} {l0 l1 l2 l4 l5 l6 l7 l8 : AV} {st : List AV} {h : AM} {x : Int} : EV d 185 23 [l0, l1, l2, (0, x), l4, l5, l6, l7, l8] st h = EV d 185 24 [l0, l1, l2, (0, x), l4, l5, l6, l7, l8] ((0, x) :: st) h := G_iload_n (m185 dX11_pour_23) rfl
theorem e185_24 {d : Nat} {L st : List AV} {h : AM} : EV d 185 24 L st h = EV d 185 25 L ((0, 4) :: st) h := G_iconst (m185 dX11_pour_24) (by decide)
theorem e185_25 {d : Nat} {L st : List AV} {h : AM} {a b : Int} : EV d 185 25 L ((0, b) :: (0, a) :: st) h = if a < b then EV d 185 34 L st h else EV d 185 28 L st h := (E_ic (m185 dX11_pour_25) (t := 34) rfl).trans cc_lt
theorem e185_28 {d : Nat} {l1 l2 l3 l4 l5 l6 l7 l8 : AV} {st : List AV} {h : AM} {x : Int} : EV d 185 28 [(2, x), l1, l2, l3, l4, l5, l6, l7, l8] st h = EV d 185 29 [(2, x), l1, l2, l3, l4, l5, l6, l7, l8] ((2, x) :: st) h := G_aload_n (m185 dX11_pour_28) rfl
theorem e185_29 {d : Nat} {L st : List AV} {h : AM} : EV d 185 29 L st h = EV d 185 30 L ((0, 1) :: st) h := G_iconst (m185 dX11_pour_29) (by decide)
theorem e185_30 {d : Nat} {L st : List AV} {h : AM} {r p0 : Int} (hs : st.length ≤ 4) (hk : isK h r 11) : EV (d + 1) 185 30 L ((0, p0) :: (2, r) :: st) h = (EV d 176 0 [(2, r), (0, p0)] [] h).bind (fun q => EV (d + 1) 185 33 L (psh q.1 st) q.2) := G_cv [(0, p0)] (m185 dX11_pour_30) ow185 tr_11_109 (by decide) td176 np176 ml176 ow176 rfl rfl (Nat.le_of_ble_eq_true rfl) rfl hs hk
theorem e185_33 {d : Nat} {L : List AV} {h : AM} {v : Int} (hv : v = 0 ∨ v = 1) : EV d 185 33 L [(0, v)] h = some ((0, v), h) := E_iret (m185 dX11_pour_33) (by rw [rt185]; rcases hv with rfl | rfl <;> rfl)
theorem e185_34 {d : Nat} {l1 l2 l3 l4 l5 l6 l7 l8 : AV} {st : List AV} {h : AM} {x : Int} : EV d 185 34 [(2, x), l1, l2, l3, l4, l5, l6, l7, l8] st h = EV d 185 35 [(2, x), l1, l2, l3, l4, l5, l6, l7, l8] ((2, x) :: st) h := G_aload_n (m185 dX11_pour_34) rfl
theorem e185_35 {d : Nat} {L st : List AV} {h : AM} {r : Int} (hk : isK h r 11) : EV d 185 35 L ((2, r) :: st) h = EV d 185 38 L ((2, mrd h r 5) :: st) h := G_get (m185 dX11_pour_35) ow185 tf_11_17 rfl rfl hk
theorem e185_38 {d : Nat} {l0 l2 l3 l4 l5 l6 l7 l8 : AV} {st : List AV} {h : AM} {x : Int} : EV d 185 38 [l0, (0, x), l2, l3, l4, l5, l6, l7, l8] st h = EV d 185 39 [l0, (0, x), l2, l3, l4, l5, l6, l7, l8] ((0, x) :: st) h := G_iload_n (m185 dX11_pour_38) rfl
theorem e185_39 {d : Nat} {L st : List AV} {h : AM} {r j : Int} (hk : inA h r 16 j) : EV d 185 39 L ((0, j) :: (2, r) :: st) h = EV d 185 40 L ((0, mrd h r j) :: st) h := E_iald (m185 dX11_pour_39) hk
theorem e185_40 {d : Nat} {L st : List AV} {h : AM} {a : Int} : EV d 185 40 L ((0, a) :: st) h = if a < 0 then EV d 185 52 L st h else EV d 185 43 L st h := (E_if (m185 dX11_pour_40) (t := 52) rfl).trans cc_lt
theorem e185_43 {d : Nat} {l1 l2 l3 l4 l5 l6 l7 l8 : AV} {st : List AV} {h : AM} {x : Int} : EV d 185 43 [(2, x), l1, l2, l3, l4, l5, l6, l7, l8] st h = EV d 185 44 [(2, x), l1, l2, l3, l4, l5, l6, l7, l8] ((2, x) :: st) h := G_aload_n (m185 dX11_pour_43) rfl
theorem e185_44 {d : Nat} {L st : List AV} {h : AM} {r : Int} (hk : isK h r 11) : EV d 185 44 L ((2, r) :: st) h = EV d 185 47 L ((2, mrd h r 5) :: st) h := G_get (m185 dX11_pour_44) ow185 tf_11_17 rfl rfl hk
theorem e185_47 {d : Nat} {l0 l1 l2 l4 l5 l6 l7 l8 : AV} {st : List AV} {h : AM} {x : Int} : EV d 185 47 [l0, l1, l2, (0, x), l4, l5, l6, l7, l8] st h = EV d 185 48 [l0, l1, l2, (0, x), l4, l5, l6, l7, l8] ((0, x) :: st) h := G_iload_n (m185 dX11_pour_47) rfl
theorem e185_48 {d : Nat} {L st : List AV} {h : AM} {r j : Int} (hk : inA h r 16 j) : EV d 185 48 L ((0, j) :: (2, r) :: st) h = EV d 185 49 L ((0, mrd h r j) :: st) h := E_iald (m185 dX11_pour_48) hk
theorem e185_49 {d : Nat} {L st : List AV} {h : AM} {a : Int} : EV d 185 49 L ((0, a) :: st) h = if a < 0 then EV d 185 52 L st h else EV d 185 58 L st h := (E_if (m185 dX11_pour_49) (t := 58) rfl).trans cc_ge
theorem e185_52 {d : Nat} {l1 l2 l3 l4 l5 l6 l7 l8 : AV} {st : List AV} {h : AM} {x : Int} : EV d 185 52 [(2, x), l1, l2, l3, l4, l5, l6, l7, l8] st h = EV d 185 53 [(2, x), l1, l2, l3, l4, l5, l6, l7, l8] ((2, x) :: st) h := G_aload_n (m185 dX11_pour_52) rfl
theorem e185_53 {d : Nat} {L st : List AV} {h : AM} : EV d 185 53 L st h = EV d 185 54 L ((0, 3) :: st) h := G_iconst (m185 dX11_pour_53) (by decide)
theorem e185_54 {d : Nat} {L st : List AV} {h : AM} {r p0 : Int} (hs : st.length ≤ 4) (hk : isK h r 11) : EV (d + 1) 185 54 L ((0, p0) :: (2, r) :: st) h = (EV d 176 0 [(2, r), (0, p0)] [] h).bind (fun q => EV (d + 1) 185 57 L (psh q.1 st) q.2) := G_cv [(0, p0)] (m185 dX11_pour_54) ow185 tr_11_109 (by decide) td176 np176 ml176 ow176 rfl rfl (Nat.le_of_ble_eq_true rfl) rfl hs hk
theorem e185_57 {d : Nat} {L : List AV} {h : AM} {v : Int} (hv : v = 0 ∨ v = 1) : EV d 185 57 L [(0, v)] h = some ((0, v), h) := E_iret (m185 dX11_pour_57) (by rw [rt185]; rcases hv with rfl | rfl <;> rfl)
theorem e185_58 {d : Nat} {l1 l2 l3 l4 l5 l6 l7 l8 : AV} {st : List AV} {h : AM} {x : Int} : EV d 185 58 [(2, x), l1, l2, l3, l4, l5, l6, l7, l8] st h = EV d 185 59 [(2, x), l1, l2, l3, l4, l5, l6, l7, l8] ((2, x) :: st) h := G_aload_n (m185 dX11_pour_58) rfl
theorem e185_59 {d : Nat} {L st : List AV} {h : AM} {r : Int} (hk : isK h r 11) : EV d 185 59 L ((2, r) :: st) h = EV d 185 62 L ((2, mrd h r 4) :: st) h := G_get (m185 dX11_pour_59) ow185 tf_11_13 rfl rfl hk
theorem e185_62 {d : Nat} {l0 l2 l3 l4 l5 l6 l7 l8 : AV} {st : List AV} {h : AM} {x : Int} : EV d 185 62 [l0, (0, x), l2, l3, l4, l5, l6, l7, l8] st h = EV d 185 63 [l0, (0, x), l2, l3, l4, l5, l6, l7, l8] ((0, x) :: st) h := G_iload_n (m185 dX11_pour_62) rfl
theorem e185_63 {d : Nat} {L st : List AV} {h : AM} {r j : Int} (hk : inA h r 16 j) : EV d 185 63 L ((0, j) :: (2, r) :: st) h = EV d 185 64 L ((0, mrd h r j) :: st) h := E_iald (m185 dX11_pour_63) hk
theorem e185_64 {d : Nat} {l1 l2 l3 l4 l5 l6 l7 l8 : AV} {st : List AV} {h : AM} {x : Int} : EV d 185 64 [(2, x), l1, l2, l3, l4, l5, l6, l7, l8] st h = EV d 185 65 [(2, x), l1, l2, l3, l4, l5, l6, l7, l8] ((2, x) :: st) h := G_aload_n (m185 dX11_pour_64) rfl
theorem e185_65 {d : Nat} {L st : List AV} {h : AM} {r : Int} (hk : isK h r 11) : EV d 185 65 L ((2, r) :: st) h = EV d 185 68 L ((2, mrd h r 4) :: st) h := G_get (m185 dX11_pour_65) ow185 tf_11_13 rfl rfl hk
theorem e185_68 {d : Nat} {l0 l1 l2 l4 l5 l6 l7 l8 : AV} {st : List AV} {h : AM} {x : Int} : EV d 185 68 [l0, l1, l2, (0, x), l4, l5, l6, l7, l8] st h = EV d 185 69 [l0, l1, l2, (0, x), l4, l5, l6, l7, l8] ((0, x) :: st) h := G_iload_n (m185 dX11_pour_68) rfl
theorem e185_69 {d : Nat} {L st : List AV} {h : AM} {r j : Int} (hk : inA h r 16 j) : EV d 185 69 L ((0, j) :: (2, r) :: st) h = EV d 185 70 L ((0, mrd h r j) :: st) h := E_iald (m185 dX11_pour_69) hk
theorem e185_70 {d : Nat} {L st : List AV} {h : AM} {a b : Int} : EV d 185 70 L ((0, b) :: (0, a) :: st) h = if a = b then EV d 185 80 L st h else EV d 185 73 L st h := (E_ic (m185 dX11_pour_70) (t := 80) rfl).trans cc_eq
theorem e185_73 {d : Nat} {l1 l2 l3 l4 l5 l6 l7 l8 : AV} {st : List AV} {h : AM} {x : Int} : EV d 185 73 [(2, x), l1, l2, l3, l4, l5, l6, l7, l8] st h = EV d 185 74 [(2, x), l1, l2, l3, l4, l5, l6, l7, l8] ((2, x) :: st) h := G_aload_n (m185 dX11_pour_73) rfl
theorem e185_74 {d : Nat} {L st : List AV} {h : AM} : EV d 185 74 L st h = EV d 185 76 L ((0, 11) :: st) h := G_bipush (m185 dX11_pour_74) (by decide)
theorem e185_76 {d : Nat} {L st : List AV} {h : AM} {r p0 : Int} (hs : st.length ≤ 4) (hk : isK h r 11) : EV (d + 1) 185 76 L ((0, p0) :: (2, r) :: st) h = (EV d 176 0 [(2, r), (0, p0)] [] h).bind (fun q => EV (d + 1) 185 79 L (psh q.1 st) q.2) := G_cv [(0, p0)] (m185 dX11_pour_76) ow185 tr_11_109 (by decide) td176 np176 ml176 ow176 rfl rfl (Nat.le_of_ble_eq_true rfl) rfl hs hk
theorem e185_79 {d : Nat} {L : List AV} {h : AM} {v : Int} (hv : v = 0 ∨ v = 1) : EV d 185 79 L [(0, v)] h = some ((0, v), h) := E_iret (m185 dX11_pour_79) (by rw [rt185]; rcases hv with rfl | rfl <;> rfl)
theorem e185_80 {d : Nat} {l0 l1 l2 l3 l4 l6 l7 l8 : AV} {st : List AV} {h : AM} {x : Int} : EV d 185 80 [l0, l1, l2, l3, l4, (0, x), l6, l7, l8] st h = EV d 185 82 [l0, l1, l2, l3, l4, (0, x), l6, l7, l8] ((0, x) :: st) h := G_iload (m185 dX11_pour_80) rfl
theorem e185_82 {d : Nat} {L st : List AV} {h : AM} {a : Int} : EV d 185 82 L ((0, a) :: st) h = if a < 0 then EV d 185 85 L st h else EV d 185 92 L st h := (E_if (m185 dX11_pour_82) (t := 92) rfl).trans cc_ge
theorem e185_85 {d : Nat} {l1 l2 l3 l4 l5 l6 l7 l8 : AV} {st : List AV} {h : AM} {x : Int} : EV d 185 85 [(2, x), l1, l2, l3, l4, l5, l6, l7, l8] st h = EV d 185 86 [(2, x), l1, l2, l3, l4, l5, l6, l7, l8] ((2, x) :: st) h := G_aload_n (m185 dX11_pour_85) rfl
theorem e185_86 {d : Nat} {L st : List AV} {h : AM} : EV d 185 86 L st h = EV d 185 88 L ((0, 6) :: st) h := G_bipush (m185 dX11_pour_86) (by decide)
theorem e185_88 {d : Nat} {L st : List AV} {h : AM} {r p0 : Int} (hs : st.length ≤ 4) (hk : isK h r 11) : EV (d + 1) 185 88 L ((0, p0) :: (2, r) :: st) h = (EV d 176 0 [(2, r), (0, p0)] [] h).bind (fun q => EV (d + 1) 185 91 L (psh q.1 st) q.2) := G_cv [(0, p0)] (m185 dX11_pour_88) ow185 tr_11_109 (by decide) td176 np176 ml176 ow176 rfl rfl (Nat.le_of_ble_eq_true rfl) rfl hs hk
theorem e185_91 {d : Nat} {L : List AV} {h : AM} {v : Int} (hv : v = 0 ∨ v = 1) : EV d 185 91 L [(0, v)] h = some ((0, v), h) := E_iret (m185 dX11_pour_91) (by rw [rt185]; rcases hv with rfl | rfl <;> rfl)
theorem e185_92 {d : Nat} {l0 l1 l3 l4 l5 l6 l7 l8 : AV} {st : List AV} {h : AM} {x : Int} : EV d 185 92 [l0, l1, (0, x), l3, l4, l5, l6, l7, l8] st h = EV d 185 93 [l0, l1, (0, x), l3, l4, l5, l6, l7, l8] ((0, x) :: st) h := G_iload_n (m185 dX11_pour_92) rfl
theorem e185_93 {d : Nat} {L st : List AV} {h : AM} {a : Int} : EV d 185 93 L ((0, a) :: st) h = if a < 0 then EV d 185 136 L st h else EV d 185 96 L st h := (E_if (m185 dX11_pour_93) (t := 136) rfl).trans cc_lt
theorem e185_96 {d : Nat} {l0 l1 l2 l3 l5 l6 l7 l8 : AV} {st : List AV} {h : AM} {x : Int} : EV d 185 96 [l0, l1, l2, l3, (0, x), l5, l6, l7, l8] st h = EV d 185 98 [l0, l1, l2, l3, (0, x), l5, l6, l7, l8] ((0, x) :: st) h := G_iload (m185 dX11_pour_96) rfl
theorem e185_98 {d : Nat} {L st : List AV} {h : AM} {a : Int} : EV d 185 98 L ((0, a) :: st) h = if a < 0 then EV d 185 136 L st h else EV d 185 101 L st h := (E_if (m185 dX11_pour_98) (t := 136) rfl).trans cc_lt
theorem e185_101 {d : Nat} {l0 l1 l3 l4 l5 l6 l7 l8 : AV} {st : List AV} {h : AM} {x : Int} : EV d 185 101 [l0, l1, (0, x), l3, l4, l5, l6, l7, l8] st h = EV d 185 102 [l0, l1, (0, x), l3, l4, l5, l6, l7, l8] ((0, x) :: st) h := G_iload_n (m185 dX11_pour_101) rfl
theorem e185_102 {d : Nat} {L st : List AV} {h : AM} {a : Int} : EV d 185 102 L ((0, a) :: st) h = EV d 185 103 L ((1, a) :: st) h := G_i2l (m185 dX11_pour_102)
theorem e185_103 {d : Nat} {l0 l1 l2 l3 l4 l6 l7 l8 : AV} {st : List AV} {h : AM} {x : Int} : EV d 185 103 [l0, l1, l2, l3, l4, (0, x), l6, l7, l8] st h = EV d 185 105 [l0, l1, l2, l3, l4, (0, x), l6, l7, l8] ((0, x) :: st) h := G_iload (m185 dX11_pour_103) rfl
theorem e185_105 {d : Nat} {L st : List AV} {h : AM} {a : Int} : EV d 185 105 L ((0, a) :: st) h = EV d 185 106 L ((1, a) :: st) h := G_i2l (m185 dX11_pour_105)
theorem e185_106 {d : Nat} {L st : List AV} {h : AM} {a b : Int} : EV d 185 106 L ((1, b) :: (1, a) :: st) h = EV d 185 107 L ((1, w64 (a + b)) :: st) h := E_ladd (m185 dX11_pour_106)
theorem e185_107 {d : Nat} {l1 l2 l3 l4 l5 l6 l7 l8 : AV} {st : List AV} {h : AM} {x : Int} : EV d 185 107 [(2, x), l1, l2, l3, l4, l5, l6, l7, l8] st h = EV d 185 108 [(2, x), l1, l2, l3, l4, l5, l6, l7, l8] ((2, x) :: st) h := G_aload_n (m185 dX11_pour_107) rfl
theorem e185_108 {d : Nat} {L st : List AV} {h : AM} {r : Int} (hk : isK h r 11) : EV d 185 108 L ((2, r) :: st) h = EV d 185 111 L ((2, mrd h r 5) :: st) h := G_get (m185 dX11_pour_108) ow185 tf_11_17 rfl rfl hk
theorem e185_111 {d : Nat} {l0 l2 l3 l4 l5 l6 l7 l8 : AV} {st : List AV} {h : AM} {x : Int} : EV d 185 111 [l0, (0, x), l2, l3, l4, l5, l6, l7, l8] st h = EV d 185 112 [l0, (0, x), l2, l3, l4, l5, l6, l7, l8] ((0, x) :: st) h := G_iload_n (m185 dX11_pour_111) rfl
theorem e185_112 {d : Nat} {L st : List AV} {h : AM} {r j : Int} (hk : inA h r 16 j) : EV d 185 112 L ((0, j) :: (2, r) :: st) h = EV d 185 113 L ((0, mrd h r j) :: st) h := E_iald (m185 dX11_pour_112) hk
theorem e185_113 {d : Nat} {L st : List AV} {h : AM} {a : Int} : EV d 185 113 L ((0, a) :: st) h = EV d 185 114 L ((1, a) :: st) h := G_i2l (m185 dX11_pour_113)
theorem e185_114 {d : Nat} {L st : List AV} {h : AM} {a b : Int} : EV d 185 114 L ((1, b) :: (1, a) :: st) h = EV d 185 115 L ((0, cmp3 a b) :: st) h := G_lcmp (m185 dX11_pour_114)
theorem e185_115 {d : Nat} {L st : List AV} {h : AM} {a : Int} : EV d 185 115 L ((0, a) :: st) h = if 0 < a then EV d 185 136 L st h else EV d 185 118 L st h := (E_if (m185 dX11_pour_115) (t := 136) rfl).trans cc_gt
theorem e185_118 {d : Nat} {l0 l1 l2 l3 l5 l6 l7 l8 : AV} {st : List AV} {h : AM} {x : Int} : EV d 185 118 [l0, l1, l2, l3, (0, x), l5, l6, l7, l8] st h = EV d 185 120 [l0, l1, l2, l3, (0, x), l5, l6, l7, l8] ((0, x) :: st) h := G_iload (m185 dX11_pour_118) rfl
theorem e185_120 {d : Nat} {L st : List AV} {h : AM} {a : Int} : EV d 185 120 L ((0, a) :: st) h = EV d 185 121 L ((1, a) :: st) h := G_i2l (m185 dX11_pour_120)
theorem e185_121 {d : Nat} {l0 l1 l2 l3 l4 l6 l7 l8 : AV} {st : List AV} {h : AM} {x : Int} : EV d 185 121 [l0, l1, l2, l3, l4, (0, x), l6, l7, l8] st h = EV d 185 123 [l0, l1, l2, l3, l4, (0, x), l6, l7, l8] ((0, x) :: st) h := G_iload (m185 dX11_pour_121) rfl
theorem e185_123 {d : Nat} {L st : List AV} {h : AM} {a : Int} : EV d 185 123 L ((0, a) :: st) h = EV d 185 124 L ((1, a) :: st) h := G_i2l (m185 dX11_pour_123)
theorem e185_124 {d : Nat} {L st : List AV} {h : AM} {a b : Int} : EV d 185 124 L ((1, b) :: (1, a) :: st) h = EV d 185 125 L ((1, w64 (a + b)) :: st) h := E_ladd (m185 dX11_pour_124)
theorem e185_125 {d : Nat} {l1 l2 l3 l4 l5 l6 l7 l8 : AV} {st : List AV} {h : AM} {x : Int} : EV d 185 125 [(2, x), l1, l2, l3, l4, l5, l6, l7, l8] st h = EV d 185 126 [(2, x), l1, l2, l3, l4, l5, l6, l7, l8] ((2, x) :: st) h := G_aload_n (m185 dX11_pour_125) rfl
theorem e185_126 {d : Nat} {L st : List AV} {h : AM} {r : Int} (hk : isK h r 11) : EV d 185 126 L ((2, r) :: st) h = EV d 185 129 L ((2, mrd h r 5) :: st) h := G_get (m185 dX11_pour_126) ow185 tf_11_17 rfl rfl hk
theorem e185_129 {d : Nat} {l0 l1 l2 l4 l5 l6 l7 l8 : AV} {st : List AV} {h : AM} {x : Int} : EV d 185 129 [l0, l1, l2, (0, x), l4, l5, l6, l7, l8] st h = EV d 185 130 [l0, l1, l2, (0, x), l4, l5, l6, l7, l8] ((0, x) :: st) h := G_iload_n (m185 dX11_pour_129) rfl
theorem e185_130 {d : Nat} {L st : List AV} {h : AM} {r j : Int} (hk : inA h r 16 j) : EV d 185 130 L ((0, j) :: (2, r) :: st) h = EV d 185 131 L ((0, mrd h r j) :: st) h := E_iald (m185 dX11_pour_130) hk
theorem e185_131 {d : Nat} {L st : List AV} {h : AM} {a : Int} : EV d 185 131 L ((0, a) :: st) h = EV d 185 132 L ((1, a) :: st) h := G_i2l (m185 dX11_pour_131)
theorem e185_132 {d : Nat} {L st : List AV} {h : AM} {a b : Int} : EV d 185 132 L ((1, b) :: (1, a) :: st) h = EV d 185 133 L ((0, cmp3 a b) :: st) h := G_lcmp (m185 dX11_pour_132)
theorem e185_133 {d : Nat} {L st : List AV} {h : AM} {a : Int} : EV d 185 133 L ((0, a) :: st) h = if 0 < a then EV d 185 136 L st h else EV d 185 142 L st h := (E_if (m185 dX11_pour_133) (t := 142) rfl).trans cc_le
theorem e185_136 {d : Nat} {l1 l2 l3 l4 l5 l6 l7 l8 : AV} {st : List AV} {h : AM} {x : Int} : EV d 185 136 [(2, x), l1, l2, l3, l4, l5, l6, l7, l8] st h = EV d 185 137 [(2, x), l1, l2, l3, l4, l5, l6, l7, l8] ((2, x) :: st) h := G_aload_n (m185 dX11_pour_136) rfl
theorem e185_137 {d : Nat} {L st : List AV} {h : AM} : EV d 185 137 L st h = EV d 185 138 L ((0, 4) :: st) h := G_iconst (m185 dX11_pour_137) (by decide)
theorem e185_138 {d : Nat} {L st : List AV} {h : AM} {r p0 : Int} (hs : st.length ≤ 4) (hk : isK h r 11) : EV (d + 1) 185 138 L ((0, p0) :: (2, r) :: st) h = (EV d 176 0 [(2, r), (0, p0)] [] h).bind (fun q => EV (d + 1) 185 141 L (psh q.1 st) q.2) := G_cv [(0, p0)] (m185 dX11_pour_138) ow185 tr_11_109 (by decide) td176 np176 ml176 ow176 rfl rfl (Nat.le_of_ble_eq_true rfl) rfl hs hk
theorem e185_141 {d : Nat} {L : List AV} {h : AM} {v : Int} (hv : v = 0 ∨ v = 1) : EV d 185 141 L [(0, v)] h = some ((0, v), h) := E_iret (m185 dX11_pour_141) (by rw [rt185]; rcases hv with rfl | rfl <;> rfl)
theorem e185_142 {d : Nat} {l0 l1 l3 l4 l5 l6 l7 l8 : AV} {st : List AV} {h : AM} {x : Int} : EV d 185 142 [l0, l1, (0, x), l3, l4, l5, l6, l7, l8] st h = EV d 185 143 [l0, l1, (0, x), l3, l4, l5, l6, l7, l8] ((0, x) :: st) h := G_iload_n (m185 dX11_pour_142) rfl
theorem e185_143 {d : Nat} {l0 l1 l2 l3 l5 l6 l7 l8 : AV} {st : List AV} {h : AM} {x : Int} : EV d 185 143 [l0, l1, l2, l3, (0, x), l5, l6, l7, l8] st h = EV d 185 145 [l0, l1, l2, l3, (0, x), l5, l6, l7, l8] ((0, x) :: st) h := G_iload (m185 dX11_pour_143) rfl
theorem e185_145 {d : Nat} {L st : List AV} {h : AM} {a b : Int} : EV d 185 145 L ((0, b) :: (0, a) :: st) h = if a < b then EV d 185 148 L st h else EV d 185 152 L st h := (E_ic (m185 dX11_pour_145) (t := 152) rfl).trans cc_ge
theorem e185_148 {d : Nat} {L st : List AV} {h : AM} : EV d 185 148 L st h = EV d 185 149 L ((0, 1) :: st) h := G_iconst (m185 dX11_pour_148) (by decide)
theorem e185_149 {d : Nat} {L st : List AV} {h : AM} : EV d 185 149 L st h = EV d 185 153 L st h := G_goto (m185 dX11_pour_149) rfl
theorem e185_152 {d : Nat} {L st : List AV} {h : AM} : EV d 185 152 L st h = EV d 185 153 L ((0, 0) :: st) h := G_iconst (m185 dX11_pour_152) (by decide)
theorem e185_153 {d : Nat} {l0 l1 l2 l3 l4 l5 l6 l7 l8 : AV} {st : List AV} {h : AM} {x : Int} : EV d 185 153 [l0, l1, l2, l3, l4, l5, l6, l7, l8] ((0, x) :: st) h = EV d 185 155 [l0, l1, l2, l3, l4, l5, (0, x), l7, l8] st h := G_istore (m185 dX11_pour_153) (Nat.le_of_ble_eq_true rfl) rfl
theorem e185_155 {d : Nat} {L st : List AV} {h : AM} : EV d 185 155 L st h = EV d 185 156 L ((0, 0) :: st) h := G_iconst (m185 dX11_pour_155) (by decide)
theorem e185_156 {d : Nat} {l0 l1 l2 l3 l4 l5 l6 l7 l8 : AV} {st : List AV} {h : AM} {x : Int} : EV d 185 156 [l0, l1, l2, l3, l4, l5, l6, l7, l8] ((0, x) :: st) h = EV d 185 158 [l0, l1, l2, l3, l4, l5, l6, (0, x), l8] st h := G_istore (m185 dX11_pour_156) (Nat.le_of_ble_eq_true rfl) rfl
theorem e185_158 {d : Nat} {l0 l1 l2 l3 l4 l5 l6 l8 : AV} {st : List AV} {h : AM} {x : Int} : EV d 185 158 [l0, l1, l2, l3, l4, l5, l6, (0, x), l8] st h = EV d 185 160 [l0, l1, l2, l3, l4, l5, l6, (0, x), l8] ((0, x) :: st) h := G_iload (m185 dX11_pour_158) rfl
theorem e185_160 {d : Nat} {l0 l1 l2 l3 l4 l6 l7 l8 : AV} {st : List AV} {h : AM} {x : Int} : EV d 185 160 [l0, l1, l2, l3, l4, (0, x), l6, l7, l8] st h = EV d 185 162 [l0, l1, l2, l3, l4, (0, x), l6, l7, l8] ((0, x) :: st) h := G_iload (m185 dX11_pour_160) rfl
theorem e185_162 {d : Nat} {L st : List AV} {h : AM} {a b : Int} : EV d 185 162 L ((0, b) :: (0, a) :: st) h = if a < b then EV d 185 165 L st h else EV d 185 219 L st h := (E_ic (m185 dX11_pour_162) (t := 219) rfl).trans cc_ge
theorem e185_165 {d : Nat} {l0 l1 l2 l3 l4 l5 l7 l8 : AV} {st : List AV} {h : AM} {x : Int} : EV d 185 165 [l0, l1, l2, l3, l4, l5, (0, x), l7, l8] st h = EV d 185 167 [l0, l1, l2, l3, l4, l5, (0, x), l7, l8] ((0, x) :: st) h := G_iload (m185 dX11_pour_165) rfl
theorem e185_167 {d : Nat} {L st : List AV} {h : AM} {a : Int} : EV d 185 167 L ((0, a) :: st) h = if a = 0 then EV d 185 180 L st h else EV d 185 170 L st h := (E_if (m185 dX11_pour_167) (t := 180) rfl).trans cc_eq
theorem e185_170 {d : Nat} {l0 l1 l2 l3 l4 l6 l7 l8 : AV} {st : List AV} {h : AM} {x : Int} : EV d 185 170 [l0, l1, l2, l3, l4, (0, x), l6, l7, l8] st h = EV d 185 172 [l0, l1, l2, l3, l4, (0, x), l6, l7, l8] ((0, x) :: st) h := G_iload (m185 dX11_pour_170) rfl
theorem e185_172 {d : Nat} {L st : List AV} {h : AM} : EV d 185 172 L st h = EV d 185 173 L ((0, 1) :: st) h := G_iconst (m185 dX11_pour_172) (by decide)
theorem e185_173 {d : Nat} {L st : List AV} {h : AM} {a b : Int} : EV d 185 173 L ((0, b) :: (0, a) :: st) h = EV d 185 174 L ((0, w32 (a - b)) :: st) h := E_isub (m185 dX11_pour_173)
theorem e185_174 {d : Nat} {l0 l1 l2 l3 l4 l5 l6 l8 : AV} {st : List AV} {h : AM} {x : Int} : EV d 185 174 [l0, l1, l2, l3, l4, l5, l6, (0, x), l8] st h = EV d 185 176 [l0, l1, l2, l3, l4, l5, l6, (0, x), l8] ((0, x) :: st) h := G_iload (m185 dX11_pour_174) rfl
theorem e185_176 {d : Nat} {L st : List AV} {h : AM} {a b : Int} : EV d 185 176 L ((0, b) :: (0, a) :: st) h = EV d 185 177 L ((0, w32 (a - b)) :: st) h := E_isub (m185 dX11_pour_176)
theorem e185_177 {d : Nat} {L st : List AV} {h : AM} : EV d 185 177 L st h = EV d 185 182 L st h := G_goto (m185 dX11_pour_177) rfl
theorem e185_180 {d : Nat} {l0 l1 l2 l3 l4 l5 l6 l8 : AV} {st : List AV} {h : AM} {x : Int} : EV d 185 180 [l0, l1, l2, l3, l4, l5, l6, (0, x), l8] st h = EV d 185 182 [l0, l1, l2, l3, l4, l5, l6, (0, x), l8] ((0, x) :: st) h := G_iload (m185 dX11_pour_180) rfl
theorem e185_182 {d : Nat} {l0 l1 l2 l3 l4 l5 l6 l7 l8 : AV} {st : List AV} {h : AM} {x : Int} : EV d 185 182 [l0, l1, l2, l3, l4, l5, l6, l7, l8] ((0, x) :: st) h = EV d 185 184 [l0, l1, l2, l3, l4, l5, l6, l7, (0, x)] st h := G_istore (m185 dX11_pour_182) (Nat.le_of_ble_eq_true rfl) rfl
theorem e185_184 {d : Nat} {l1 l2 l3 l4 l5 l6 l7 l8 : AV} {st : List AV} {h : AM} {x : Int} : EV d 185 184 [(2, x), l1, l2, l3, l4, l5, l6, l7, l8] st h = EV d 185 185 [(2, x), l1, l2, l3, l4, l5, l6, l7, l8] ((2, x) :: st) h := G_aload_n (m185 dX11_pour_184) rfl
theorem e185_185 {d : Nat} {L st : List AV} {h : AM} {r : Int} (hk : isK h r 11) : EV d 185 185 L ((2, r) :: st) h = EV d 185 188 L ((2, mrd h r 6) :: st) h := G_get (m185 dX11_pour_185) ow185 tf_11_20 rfl rfl hk
theorem e185_188 {d : Nat} {L st : List AV} {h : AM} : EV d 185 188 L st h = EV d 185 190 L ((0, 60) :: st) h := G_bipush (m185 dX11_pour_188) (by decide)
theorem e185_190 {d : Nat} {l0 l1 l2 l4 l5 l6 l7 l8 : AV} {st : List AV} {h : AM} {x : Int} : EV d 185 190 [l0, l1, l2, (0, x), l4, l5, l6, l7, l8] st h = EV d 185 191 [l0, l1, l2, (0, x), l4, l5, l6, l7, l8] ((0, x) :: st) h := G_iload_n (m185 dX11_pour_190) rfl
theorem e185_191 {d : Nat} {L st : List AV} {h : AM} {a b : Int} : EV d 185 191 L ((0, b) :: (0, a) :: st) h = EV d 185 192 L ((0, w32 (a * b)) :: st) h := E_imul (m185 dX11_pour_191)
theorem e185_192 {d : Nat} {l0 l1 l2 l3 l5 l6 l7 l8 : AV} {st : List AV} {h : AM} {x : Int} : EV d 185 192 [l0, l1, l2, l3, (0, x), l5, l6, l7, l8] st h = EV d 185 194 [l0, l1, l2, l3, (0, x), l5, l6, l7, l8] ((0, x) :: st) h := G_iload (m185 dX11_pour_192) rfl
theorem e185_194 {d : Nat} {L st : List AV} {h : AM} {a b : Int} : EV d 185 194 L ((0, b) :: (0, a) :: st) h = EV d 185 195 L ((0, w32 (a + b)) :: st) h := E_iadd (m185 dX11_pour_194)
theorem e185_195 {d : Nat} {l0 l1 l2 l3 l4 l5 l6 l7 : AV} {st : List AV} {h : AM} {x : Int} : EV d 185 195 [l0, l1, l2, l3, l4, l5, l6, l7, (0, x)] st h = EV d 185 197 [l0, l1, l2, l3, l4, l5, l6, l7, (0, x)] ((0, x) :: st) h := G_iload (m185 dX11_pour_195) rfl
theorem e185_197 {d : Nat} {L st : List AV} {h : AM} {a b : Int} : EV d 185 197 L ((0, b) :: (0, a) :: st) h = EV d 185 198 L ((0, w32 (a + b)) :: st) h := E_iadd (m185 dX11_pour_197)
theorem e185_198 {d : Nat} {l1 l2 l3 l4 l5 l6 l7 l8 : AV} {st : List AV} {h : AM} {x : Int} : EV d 185 198 [(2, x), l1, l2, l3, l4, l5, l6, l7, l8] st h = EV d 185 199 [(2, x), l1, l2, l3, l4, l5, l6, l7, l8] ((2, x) :: st) h := G_aload_n (m185 dX11_pour_198) rfl
theorem e185_199 {d : Nat} {L st : List AV} {h : AM} {r : Int} (hk : isK h r 11) : EV d 185 199 L ((2, r) :: st) h = EV d 185 202 L ((2, mrd h r 6) :: st) h := G_get (m185 dX11_pour_199) ow185 tf_11_20 rfl rfl hk
theorem e185_202 {d : Nat} {L st : List AV} {h : AM} : EV d 185 202 L st h = EV d 185 204 L ((0, 60) :: st) h := G_bipush (m185 dX11_pour_202) (by decide)
theorem e185_204 {d : Nat} {l0 l2 l3 l4 l5 l6 l7 l8 : AV} {st : List AV} {h : AM} {x : Int} : EV d 185 204 [l0, (0, x), l2, l3, l4, l5, l6, l7, l8] st h = EV d 185 205 [l0, (0, x), l2, l3, l4, l5, l6, l7, l8] ((0, x) :: st) h := G_iload_n (m185 dX11_pour_204) rfl
theorem e185_205 {d : Nat} {L st : List AV} {h : AM} {a b : Int} : EV d 185 205 L ((0, b) :: (0, a) :: st) h = EV d 185 206 L ((0, w32 (a * b)) :: st) h := E_imul (m185 dX11_pour_205)
theorem e185_206 {d : Nat} {l0 l1 l3 l4 l5 l6 l7 l8 : AV} {st : List AV} {h : AM} {x : Int} : EV d 185 206 [l0, l1, (0, x), l3, l4, l5, l6, l7, l8] st h = EV d 185 207 [l0, l1, (0, x), l3, l4, l5, l6, l7, l8] ((0, x) :: st) h := G_iload_n (m185 dX11_pour_206) rfl
theorem e185_207 {d : Nat} {L st : List AV} {h : AM} {a b : Int} : EV d 185 207 L ((0, b) :: (0, a) :: st) h = EV d 185 208 L ((0, w32 (a + b)) :: st) h := E_iadd (m185 dX11_pour_207)
theorem e185_208 {d : Nat} {l0 l1 l2 l3 l4 l5 l6 l7 : AV} {st : List AV} {h : AM} {x : Int} : EV d 185 208 [l0, l1, l2, l3, l4, l5, l6, l7, (0, x)] st h = EV d 185 210 [l0, l1, l2, l3, l4, l5, l6, l7, (0, x)] ((0, x) :: st) h := G_iload (m185 dX11_pour_208) rfl
theorem e185_210 {d : Nat} {L st : List AV} {h : AM} {a b : Int} : EV d 185 210 L ((0, b) :: (0, a) :: st) h = EV d 185 211 L ((0, w32 (a + b)) :: st) h := E_iadd (m185 dX11_pour_210)
theorem e185_211 {d : Nat} {L st : List AV} {h : AM} {r j : Int} (hk : inA h r 19 j) : EV d 185 211 L ((0, j) :: (2, r) :: st) h = EV d 185 212 L ((1, mrd h r j) :: st) h := E_lald (m185 dX11_pour_211) hk
theorem e185_212 {d : Nat} {L st : List AV} {h : AM} {r j v : Int} (hk : inA h r 19 j) : EV d 185 212 L ((1, v) :: (0, j) :: (2, r) :: st) h = EV d 185 213 L st (mwr h r j v) := E_last (m185 dX11_pour_212) hk
theorem e185_213 {d : Nat} {l0 l1 l2 l3 l4 l5 l6 l8 : AV} {st : List AV} {h : AM} {x : Int} : EV d 185 213 [l0, l1, l2, l3, l4, l5, l6, (0, x), l8] st h = EV d 185 216 [l0, l1, l2, l3, l4, l5, l6, (0, w32 (x + 1)), l8] st h := G_iinc (m185 dX11_pour_213) rfl rfl
theorem e185_216 {d : Nat} {L st : List AV} {h : AM} : EV d 185 216 L st h = EV d 185 158 L st h := G_goto (m185 dX11_pour_216) rfl
theorem e185_219 {d : Nat} {L st : List AV} {h : AM} : EV d 185 219 L st h = EV d 185 220 L ((0, 1) :: st) h := G_iconst (m185 dX11_pour_219) (by decide)
theorem e185_220 {d : Nat} {L : List AV} {h : AM} {v : Int} (hv : v = 0 ∨ v = 1) : EV d 185 220 L [(0, v)] h = some ((0, v), h) := E_iret (m185 dX11_pour_220) (by rw [rt185]; rcases hv with rfl | rfl <;> rfl)
theorem e186_0 {d : Nat} {l1 l2 : AV} {st : List AV} {h : AM} {x : Int} : EV d 186 0 [(2, x), l1, l2] st h = EV d 186 1 [(2, x), l1, l2] ((2, x) :: st) h := G_aload_n (m186 dX11_numberOf_0) rfl
theorem e186_1 {d : Nat} {L st : List AV} {h : AM} {r : Int} (hk : isK h r 11) : EV d 186 1 L ((2, r) :: st) h = EV d 186 4 L ((2, mrd h r 6) :: st) h := G_get (m186 dX11_numberOf_1) ow186 tf_11_20 rfl rfl hk
theorem e186_4 {d : Nat} {L st : List AV} {h : AM} : EV d 186 4 L st h = EV d 186 6 L ((0, 60) :: st) h := G_bipush (m186 dX11_numberOf_4) (by decide)
theorem e186_6 {d : Nat} {l0 l2 : AV} {st : List AV} {h : AM} {x : Int} : EV d 186 6 [l0, (0, x), l2] st h = EV d 186 7 [l0, (0, x), l2] ((0, x) :: st) h := G_iload_n (m186 dX11_numberOf_6) rfl
theorem e186_7 {d : Nat} {L st : List AV} {h : AM} {a b : Int} : EV d 186 7 L ((0, b) :: (0, a) :: st) h = EV d 186 8 L ((0, w32 (a * b)) :: st) h := E_imul (m186 dX11_numberOf_7)
theorem e186_8 {d : Nat} {l0 l1 : AV} {st : List AV} {h : AM} {x : Int} : EV d 186 8 [l0, l1, (0, x)] st h = EV d 186 9 [l0, l1, (0, x)] ((0, x) :: st) h := G_iload_n (m186 dX11_numberOf_8) rfl
theorem e186_9 {d : Nat} {L st : List AV} {h : AM} {a b : Int} : EV d 186 9 L ((0, b) :: (0, a) :: st) h = EV d 186 10 L ((0, w32 (a + b)) :: st) h := E_iadd (m186 dX11_numberOf_9)
theorem e186_10 {d : Nat} {L st : List AV} {h : AM} {r j : Int} (hk : inA h r 19 j) : EV d 186 10 L ((0, j) :: (2, r) :: st) h = EV d 186 11 L ((1, mrd h r j) :: st) h := E_lald (m186 dX11_numberOf_10) hk
theorem e186_11 {d : Nat} {L : List AV} {h : AM} {v : Int} : EV d 186 11 L [(1, v)] h = some ((1, v), h) := E_lret (m186 dX11_numberOf_11) rt186
theorem e187_0 {d : Nat} {l0 : AV} {st : List AV} {h : AM} {x : Int} : EV d 187 0 [l0, (0, x)] st h = EV d 187 1 [l0, (0, x)] ((0, x) :: st) h := G_iload_n (m187 dX11_isTray_0) rfl
theorem e187_1 {d : Nat} {L st : List AV} {h : AM} {a : Int} : EV d 187 1 L ((0, a) :: st) h = EV d 187 2 L ((1, a) :: st) h := G_i2l (m187 dX11_isTray_1)
theorem e187_2 {d : Nat} {L st : List AV} {h : AM} : EV d 187 2 L st h = EV d 187 3 L ((1, 0) :: st) h := G_lconst0 (m187 dX11_isTray_2)
theorem e187_3 {d : Nat} {L st : List AV} {h : AM} : EV d 187 3 L st h = EV d 187 6 L ((1, 3) :: st) h := G_ldc2 (m187 dX11_isTray_3) ow187 tl_11_127 (by decide)
theorem e187_6 {d : Nat} {L st : List AV} {h : AM} {p0 p1 p2 : Int} (hs : st.length ≤ 4) : EV (d + 1) 187 6 L ((1, p2) :: (1, p1) :: (1, p0) :: st) h = (EV d 177 0 [(1, p0), (3, 1), (1, p1), (3, 1), (1, p2), (3, 1)] [] h).bind (fun q => EV (d + 1) 187 9 L (psh q.1 st) q.2) := G_cs [(1, p0), (1, p1), (1, p2)] (m187 dX11_isTray_6) ow187 tr_11_129 (by decide) td177 np177 ml177 rfl rfl (Nat.le_of_ble_eq_true rfl) rfl hs
theorem e187_9 {d : Nat} {L : List AV} {h : AM} {v : Int} (hv : v = 0 ∨ v = 1) : EV d 187 9 L [(0, v)] h = some ((0, v), h) := E_iret (m187 dX11_isTray_9) (by rw [rt187]; rcases hv with rfl | rfl <;> rfl)
theorem e188_0 {d : Nat} {l1 : AV} {st : List AV} {h : AM} {x : Int} : EV d 188 0 [(0, x), l1] st h = EV d 188 1 [(0, x), l1] ((0, x) :: st) h := G_iload_n (m188 dX11_has_0) rfl
theorem e188_1 {d : Nat} {l0 : AV} {st : List AV} {h : AM} {x : Int} : EV d 188 1 [l0, (0, x)] st h = EV d 188 2 [l0, (0, x)] ((0, x) :: st) h := G_iload_n (m188 dX11_has_1) rfl
theorem e188_2 {d : Nat} {L st : List AV} {h : AM} {a b : Int} : EV d 188 2 L ((0, b) :: (0, a) :: st) h = EV d 188 3 L ((0, i_shr a b) :: st) h := E_ishr (m188 dX11_has_2)
theorem e188_3 {d : Nat} {L st : List AV} {h : AM} : EV d 188 3 L st h = EV d 188 4 L ((0, 1) :: st) h := G_iconst (m188 dX11_has_3) (by decide)
theorem e188_4 {d : Nat} {L st : List AV} {h : AM} {a b : Int} : EV d 188 4 L ((0, b) :: (0, a) :: st) h = EV d 188 5 L ((0, i_and a b) :: st) h := E_iand (m188 dX11_has_4)
theorem e188_5 {d : Nat} {L st : List AV} {h : AM} : EV d 188 5 L st h = EV d 188 6 L ((0, 1) :: st) h := G_iconst (m188 dX11_has_5) (by decide)
theorem e188_6 {d : Nat} {L st : List AV} {h : AM} {a b : Int} : EV d 188 6 L ((0, b) :: (0, a) :: st) h = if a = b then EV d 188 9 L st h else EV d 188 13 L st h := (E_ic (m188 dX11_has_6) (t := 13) rfl).trans cc_ne
theorem e188_9 {d : Nat} {L st : List AV} {h : AM} : EV d 188 9 L st h = EV d 188 10 L ((0, 1) :: st) h := G_iconst (m188 dX11_has_9) (by decide)
theorem e188_10 {d : Nat} {L st : List AV} {h : AM} : EV d 188 10 L st h = EV d 188 14 L st h := G_goto (m188 dX11_has_10) rfl
theorem e188_13 {d : Nat} {L st : List AV} {h : AM} : EV d 188 13 L st h = EV d 188 14 L ((0, 0) :: st) h := G_iconst (m188 dX11_has_13) (by decide)
theorem e188_14 {d : Nat} {L : List AV} {h : AM} {v : Int} (hv : v = 0 ∨ v = 1) : EV d 188 14 L [(0, v)] h = some ((0, v), h) := E_iret (m188 dX11_has_14) (by rw [rt188]; rcases hv with rfl | rfl <;> rfl)
theorem e189_0 {d : Nat} {l0 : AV} {st : List AV} {h : AM} {x : Int} : EV d 189 0 [l0, (0, x)] st h = EV d 189 1 [l0, (0, x)] ((0, x) :: st) h := G_iload_n (m189 dX11_look2_0) rfl
theorem e189_1 {d : Nat} {l1 : AV} {st : List AV} {h : AM} {x : Int} : EV d 189 1 [(2, x), l1] st h = EV d 189 2 [(2, x), l1] ((2, x) :: st) h := G_aload_n (m189 dX11_look2_1) rfl
theorem e189_2 {d : Nat} {L st : List AV} {h : AM} {r : Int} (hk : isK h r 11) : EV d 189 2 L ((2, r) :: st) h = EV d 189 5 L ((0, mrd h r 9) :: st) h := G_get (m189 dX11_look2_2) ow189 tf_11_133 rfl rfl hk
theorem e189_5 {d : Nat} {L st : List AV} {h : AM} {a b : Int} : EV d 189 5 L ((0, b) :: (0, a) :: st) h = if a < b then EV d 189 8 L st h else EV d 189 21 L st h := (E_ic (m189 dX11_look2_5) (t := 21) rfl).trans cc_ge
theorem e189_8 {d : Nat} {l1 : AV} {st : List AV} {h : AM} {x : Int} : EV d 189 8 [(2, x), l1] st h = EV d 189 9 [(2, x), l1] ((2, x) :: st) h := G_aload_n (m189 dX11_look2_8) rfl
theorem e189_9 {d : Nat} {L st : List AV} {h : AM} {r : Int} (hk : isK h r 11) : EV d 189 9 L ((2, r) :: st) h = EV d 189 12 L ((2, mrd h r 7) :: st) h := G_get (m189 dX11_look2_9) ow189 tf_11_24 rfl rfl hk
theorem e189_12 {d : Nat} {l0 : AV} {st : List AV} {h : AM} {x : Int} : EV d 189 12 [l0, (0, x)] st h = EV d 189 13 [l0, (0, x)] ((0, x) :: st) h := G_iload_n (m189 dX11_look2_12) rfl
theorem e189_13 {d : Nat} {L st : List AV} {h : AM} {r j : Int} (hk : inA h r 17 j) : EV d 189 13 L ((0, j) :: (2, r) :: st) h = EV d 189 14 L ((0, mrd h r j) :: st) h := E_bald (m189 dX11_look2_13) hk
theorem e189_13z {d : Nat} {L st : List AV} {h : AM} {r j : Int} (hk : inA h r 18 j) : EV d 189 13 L ((0, j) :: (2, r) :: st) h = EV d 189 14 L ((0, mrd h r j) :: st) h := E_zald (m189 dX11_look2_13) hk
theorem e189_14 {d : Nat} {L st : List AV} {h : AM} : EV d 189 14 L st h = EV d 189 17 L ((0, 255) :: st) h := G_sipush (m189 dX11_look2_14) (by decide)
theorem e189_17 {d : Nat} {L st : List AV} {h : AM} {a b : Int} : EV d 189 17 L ((0, b) :: (0, a) :: st) h = EV d 189 18 L ((0, i_and a b) :: st) h := E_iand (m189 dX11_look2_17)
theorem e189_18 {d : Nat} {L st : List AV} {h : AM} : EV d 189 18 L st h = EV d 189 22 L st h := G_goto (m189 dX11_look2_18) rfl
theorem e189_21 {d : Nat} {L st : List AV} {h : AM} : EV d 189 21 L st h = EV d 189 22 L ((0, 0) :: st) h := G_iconst (m189 dX11_look2_21) (by decide)
theorem e189_22 {d : Nat} {L : List AV} {h : AM} {v : Int} : EV d 189 22 L [(0, v)] h = some ((0, v), h) := E_iret (m189 dX11_look2_22) (by rw [rt189]; rfl)
theorem e190_0 {d : Nat} {st : List AV} {h : AM} {x : Int} : EV d 190 0 [(0, x)] st h = EV d 190 1 [(0, x)] ((0, x) :: st) h := G_iload_n (m190 dX11_isLetter_0) rfl
theorem e190_1 {d : Nat} {L st : List AV} {h : AM} : EV d 190 1 L st h = EV d 190 3 L ((0, 97) :: st) h := G_bipush (m190 dX11_isLetter_1) (by decide)
theorem e190_3 {d : Nat} {L st : List AV} {h : AM} {a b : Int} : EV d 190 3 L ((0, b) :: (0, a) :: st) h = if a < b then EV d 190 16 L st h else EV d 190 6 L st h := (E_ic (m190 dX11_isLetter_3) (t := 16) rfl).trans cc_lt
theorem e190_6 {d : Nat} {st : List AV} {h : AM} {x : Int} : EV d 190 6 [(0, x)] st h = EV d 190 7 [(0, x)] ((0, x) :: st) h := G_iload_n (m190 dX11_isLetter_6) rfl
theorem e190_7 {d : Nat} {L st : List AV} {h : AM} : EV d 190 7 L st h = EV d 190 9 L ((0, 122) :: st) h := G_bipush (m190 dX11_isLetter_7) (by decide)
theorem e190_9 {d : Nat} {L st : List AV} {h : AM} {a b : Int} : EV d 190 9 L ((0, b) :: (0, a) :: st) h = if b < a then EV d 190 16 L st h else EV d 190 12 L st h := (E_ic (m190 dX11_isLetter_9) (t := 16) rfl).trans cc_gt
theorem e190_12 {d : Nat} {L st : List AV} {h : AM} : EV d 190 12 L st h = EV d 190 13 L ((0, 1) :: st) h := G_iconst (m190 dX11_isLetter_12) (by decide)
theorem e190_13 {d : Nat} {L st : List AV} {h : AM} : EV d 190 13 L st h = EV d 190 17 L st h := G_goto (m190 dX11_isLetter_13) rfl
theorem e190_16 {d : Nat} {L st : List AV} {h : AM} : EV d 190 16 L st h = EV d 190 17 L ((0, 0) :: st) h := G_iconst (m190 dX11_isLetter_16) (by decide)
theorem e190_17 {d : Nat} {L : List AV} {h : AM} {v : Int} (hv : v = 0 ∨ v = 1) : EV d 190 17 L [(0, v)] h = some ((0, v), h) := E_iret (m190 dX11_isLetter_17) (by rw [rt190]; rcases hv with rfl | rfl <;> rfl)
theorem e191_0 {d : Nat} {st : List AV} {h : AM} {x : Int} : EV d 191 0 [(0, x)] st h = EV d 191 1 [(0, x)] ((0, x) :: st) h := G_iload_n (m191 dX11_isDigit_0) rfl
theorem e191_1 {d : Nat} {L st : List AV} {h : AM} : EV d 191 1 L st h = EV d 191 3 L ((0, 48) :: st) h := G_bipush (m191 dX11_isDigit_1) (by decide)
theorem e191_3 {d : Nat} {L st : List AV} {h : AM} {a b : Int} : EV d 191 3 L ((0, b) :: (0, a) :: st) h = if a < b then EV d 191 16 L st h else EV d 191 6 L st h := (E_ic (m191 dX11_isDigit_3) (t := 16) rfl).trans cc_lt
theorem e191_6 {d : Nat} {st : List AV} {h : AM} {x : Int} : EV d 191 6 [(0, x)] st h = EV d 191 7 [(0, x)] ((0, x) :: st) h := G_iload_n (m191 dX11_isDigit_6) rfl
theorem e191_7 {d : Nat} {L st : List AV} {h : AM} : EV d 191 7 L st h = EV d 191 9 L ((0, 57) :: st) h := G_bipush (m191 dX11_isDigit_7) (by decide)
theorem e191_9 {d : Nat} {L st : List AV} {h : AM} {a b : Int} : EV d 191 9 L ((0, b) :: (0, a) :: st) h = if b < a then EV d 191 16 L st h else EV d 191 12 L st h := (E_ic (m191 dX11_isDigit_9) (t := 16) rfl).trans cc_gt
theorem e191_12 {d : Nat} {L st : List AV} {h : AM} : EV d 191 12 L st h = EV d 191 13 L ((0, 1) :: st) h := G_iconst (m191 dX11_isDigit_12) (by decide)
theorem e191_13 {d : Nat} {L st : List AV} {h : AM} : EV d 191 13 L st h = EV d 191 17 L st h := G_goto (m191 dX11_isDigit_13) rfl
theorem e191_16 {d : Nat} {L st : List AV} {h : AM} : EV d 191 16 L st h = EV d 191 17 L ((0, 0) :: st) h := G_iconst (m191 dX11_isDigit_16) (by decide)
theorem e191_17 {d : Nat} {L : List AV} {h : AM} {v : Int} (hv : v = 0 ∨ v = 1) : EV d 191 17 L [(0, v)] h = some ((0, v), h) := E_iret (m191 dX11_isDigit_17) (by rw [rt191]; rcases hv with rfl | rfl <;> rfl)
theorem e192_0 {d : Nat} {l0 : AV} {st : List AV} {h : AM} {x : Int} : EV d 192 0 [l0, (0, x)] st h = EV d 192 1 [l0, (0, x)] ((0, x) :: st) h := G_iload_n (m192 dX11_isSignByte_0) rfl
theorem e192_1 {d : Nat} {L st : List AV} {h : AM} : EV d 192 1 L st h = EV d 192 3 L ((0, 59) :: st) h := G_bipush (m192 dX11_isSignByte_1) (by decide)
theorem e192_3 {d : Nat} {L st : List AV} {h : AM} {a b : Int} : EV d 192 3 L ((0, b) :: (0, a) :: st) h = if a = b then EV d 192 24 L st h else EV d 192 6 L st h := (E_ic (m192 dX11_isSignByte_3) (t := 24) rfl).trans cc_eq
theorem e192_6 {d : Nat} {l0 : AV} {st : List AV} {h : AM} {x : Int} : EV d 192 6 [l0, (0, x)] st h = EV d 192 7 [l0, (0, x)] ((0, x) :: st) h := G_iload_n (m192 dX11_isSignByte_6) rfl
theorem e192_7 {d : Nat} {L st : List AV} {h : AM} : EV d 192 7 L st h = EV d 192 9 L ((0, 60) :: st) h := G_bipush (m192 dX11_isSignByte_7) (by decide)
theorem e192_9 {d : Nat} {L st : List AV} {h : AM} {a b : Int} : EV d 192 9 L ((0, b) :: (0, a) :: st) h = if a = b then EV d 192 24 L st h else EV d 192 12 L st h := (E_ic (m192 dX11_isSignByte_9) (t := 24) rfl).trans cc_eq
theorem e192_12 {d : Nat} {l0 : AV} {st : List AV} {h : AM} {x : Int} : EV d 192 12 [l0, (0, x)] st h = EV d 192 13 [l0, (0, x)] ((0, x) :: st) h := G_iload_n (m192 dX11_isSignByte_12) rfl
theorem e192_13 {d : Nat} {L st : List AV} {h : AM} : EV d 192 13 L st h = EV d 192 15 L ((0, 62) :: st) h := G_bipush (m192 dX11_isSignByte_13) (by decide)
theorem e192_15 {d : Nat} {L st : List AV} {h : AM} {a b : Int} : EV d 192 15 L ((0, b) :: (0, a) :: st) h = if a = b then EV d 192 24 L st h else EV d 192 18 L st h := (E_ic (m192 dX11_isSignByte_15) (t := 24) rfl).trans cc_eq
theorem e192_18 {d : Nat} {l0 : AV} {st : List AV} {h : AM} {x : Int} : EV d 192 18 [l0, (0, x)] st h = EV d 192 19 [l0, (0, x)] ((0, x) :: st) h := G_iload_n (m192 dX11_isSignByte_18) rfl
theorem e192_19 {d : Nat} {L st : List AV} {h : AM} : EV d 192 19 L st h = EV d 192 21 L ((0, 61) :: st) h := G_bipush (m192 dX11_isSignByte_19) (by decide)
theorem e192_21 {d : Nat} {L st : List AV} {h : AM} {a b : Int} : EV d 192 21 L ((0, b) :: (0, a) :: st) h = if a = b then EV d 192 24 L st h else EV d 192 28 L st h := (E_ic (m192 dX11_isSignByte_21) (t := 28) rfl).trans cc_ne
theorem e192_24 {d : Nat} {L st : List AV} {h : AM} : EV d 192 24 L st h = EV d 192 25 L ((0, 1) :: st) h := G_iconst (m192 dX11_isSignByte_24) (by decide)
theorem e192_25 {d : Nat} {L st : List AV} {h : AM} : EV d 192 25 L st h = EV d 192 29 L st h := G_goto (m192 dX11_isSignByte_25) rfl
theorem e192_28 {d : Nat} {L st : List AV} {h : AM} : EV d 192 28 L st h = EV d 192 29 L ((0, 0) :: st) h := G_iconst (m192 dX11_isSignByte_28) (by decide)
theorem e192_29 {d : Nat} {L : List AV} {h : AM} {v : Int} (hv : v = 0 ∨ v = 1) : EV d 192 29 L [(0, v)] h = some ((0, v), h) := E_iret (m192 dX11_isSignByte_29) (by rw [rt192]; rcases hv with rfl | rfl <;> rfl)
theorem e193_0 {d : Nat} {l1 : AV} {st : List AV} {h : AM} {x : Int} : EV d 193 0 [(2, x), l1] st h = EV d 193 1 [(2, x), l1] ((2, x) :: st) h := G_aload_n (m193 dX11_next_0) rfl
theorem e193_1 {d : Nat} {l1 : AV} {st : List AV} {h : AM} {x : Int} : EV d 193 1 [(2, x), l1] st h = EV d 193 2 [(2, x), l1] ((2, x) :: st) h := G_aload_n (m193 dX11_next_1) rfl
theorem e193_2 {d : Nat} {L st : List AV} {h : AM} {r : Int} (hk : isK h r 11) : EV d 193 2 L ((2, r) :: st) h = EV d 193 5 L ((0, mrd h r 16) :: st) h := G_get (m193 dX11_next_2) ow193 tf_11_136 rfl rfl hk
theorem pk_193_11_15 : pok 193 11 15 0 = true := by decide +kernel
theorem e193_5 {d : Nat} {L st : List AV} {h : AM} {r v : Int} (hk : isK h r 11) : EV d 193 5 L ((0, v) :: (2, r) :: st) h = EV d 193 8 L st (mwr h r 15 v) := G_put (m193 dX11_next_5) ow193 tf_11_139 pk_193_11_15 rfl hk
theorem e193_8 {d : Nat} {l1 : AV} {st : List AV} {h : AM} {x : Int} : EV d 193 8 [(2, x), l1] st h = EV d 193 9 [(2, x), l1] ((2, x) :: st) h := G_aload_n (m193 dX11_next_8) rfl
theorem e193_9 {d : Nat} {L st : List AV} {h : AM} {r : Int} (hk : isK h r 11) : EV d 193 9 L ((2, r) :: st) h = EV d 193 12 L ((0, mrd h r 15) :: st) h := G_get (m193 dX11_next_9) ow193 tf_11_139 rfl rfl hk
theorem e193_12 {d : Nat} {l1 : AV} {st : List AV} {h : AM} {x : Int} : EV d 193 12 [(2, x), l1] st h = EV d 193 13 [(2, x), l1] ((2, x) :: st) h := G_aload_n (m193 dX11_next_12) rfl
theorem e193_13 {d : Nat} {L st : List AV} {h : AM} {r : Int} (hk : isK h r 11) : EV d 193 13 L ((2, r) :: st) h = EV d 193 16 L ((0, mrd h r 9) :: st) h := G_get (m193 dX11_next_13) ow193 tf_11_133 rfl rfl hk
theorem e193_16 {d : Nat} {L st : List AV} {h : AM} {a b : Int} : EV d 193 16 L ((0, b) :: (0, a) :: st) h = if a < b then EV d 193 19 L st h else EV d 193 58 L st h := (E_ic (m193 dX11_next_16) (t := 58) rfl).trans cc_ge
theorem e193_19 {d : Nat} {l1 : AV} {st : List AV} {h : AM} {x : Int} : EV d 193 19 [(2, x), l1] st h = EV d 193 20 [(2, x), l1] ((2, x) :: st) h := G_aload_n (m193 dX11_next_19) rfl
theorem e193_20 {d : Nat} {l1 : AV} {st : List AV} {h : AM} {x : Int} : EV d 193 20 [(2, x), l1] st h = EV d 193 21 [(2, x), l1] ((2, x) :: st) h := G_aload_n (m193 dX11_next_20) rfl
theorem e193_21 {d : Nat} {L st : List AV} {h : AM} {r : Int} (hk : isK h r 11) : EV d 193 21 L ((2, r) :: st) h = EV d 193 24 L ((0, mrd h r 15) :: st) h := G_get (m193 dX11_next_21) ow193 tf_11_139 rfl rfl hk
theorem e193_24 {d : Nat} {L st : List AV} {h : AM} {r p0 : Int} (hs : st.length ≤ 4) (hk : isK h r 11) : EV (d + 1) 193 24 L ((0, p0) :: (2, r) :: st) h = (EV d 189 0 [(2, r), (0, p0)] [] h).bind (fun q => EV (d + 1) 193 27 L (psh q.1 st) q.2) := G_cv [(0, p0)] (m193 dX11_next_24) ow193 tr_11_142 (by decide) td189 np189 ml189 ow189 rfl rfl (Nat.le_of_ble_eq_true rfl) rfl hs hk
theorem e193_27 {d : Nat} {L st : List AV} {h : AM} : EV d 193 27 L st h = EV d 193 29 L ((0, 10) :: st) h := G_bipush (m193 dX11_next_27) (by decide)
theorem e193_29 {d : Nat} {L st : List AV} {h : AM} {a b : Int} : EV d 193 29 L ((0, b) :: (0, a) :: st) h = if a = b then EV d 193 45 L st h else EV d 193 32 L st h := (E_ic (m193 dX11_next_29) (t := 45) rfl).trans cc_eq
theorem e193_32 {d : Nat} {l1 : AV} {st : List AV} {h : AM} {x : Int} : EV d 193 32 [(2, x), l1] st h = EV d 193 33 [(2, x), l1] ((2, x) :: st) h := G_aload_n (m193 dX11_next_32) rfl
theorem e193_33 {d : Nat} {l1 : AV} {st : List AV} {h : AM} {x : Int} : EV d 193 33 [(2, x), l1] st h = EV d 193 34 [(2, x), l1] ((2, x) :: st) h := G_aload_n (m193 dX11_next_33) rfl
theorem e193_34 {d : Nat} {L st : List AV} {h : AM} {r : Int} (hk : isK h r 11) : EV d 193 34 L ((2, r) :: st) h = EV d 193 37 L ((0, mrd h r 15) :: st) h := G_get (m193 dX11_next_34) ow193 tf_11_139 rfl rfl hk
theorem e193_37 {d : Nat} {L st : List AV} {h : AM} {r p0 : Int} (hs : st.length ≤ 4) (hk : isK h r 11) : EV (d + 1) 193 37 L ((0, p0) :: (2, r) :: st) h = (EV d 189 0 [(2, r), (0, p0)] [] h).bind (fun q => EV (d + 1) 193 40 L (psh q.1 st) q.2) := G_cv [(0, p0)] (m193 dX11_next_37) ow193 tr_11_142 (by decide) td189 np189 ml189 ow189 rfl rfl (Nat.le_of_ble_eq_true rfl) rfl hs hk
theorem e193_40 {d : Nat} {L st : List AV} {h : AM} : EV d 193 40 L st h = EV d 193 42 L ((0, 32) :: st) h := G_bipush (m193 dX11_next_40) (by decide)
theorem e193_42 {d : Nat} {L st : List AV} {h : AM} {a b : Int} : EV d 193 42 L ((0, b) :: (0, a) :: st) h = if a = b then EV d 193 45 L st h else EV d 193 58 L st h := (E_ic (m193 dX11_next_42) (t := 58) rfl).trans cc_ne
theorem e193_45 {d : Nat} {l1 : AV} {st : List AV} {h : AM} {x : Int} : EV d 193 45 [(2, x), l1] st h = EV d 193 46 [(2, x), l1] ((2, x) :: st) h := G_aload_n (m193 dX11_next_45) rfl
theorem e193_46 {d : Nat} {L st : List AV} {h : AM} {a : Int} : EV d 193 46 L ((2, a) :: st) h = EV d 193 47 L ((2, a) :: (2, a) :: st) h := G_dup2r (m193 dX11_next_46)
theorem e193_46i {d : Nat} {L st : List AV} {h : AM} {a : Int} : EV d 193 46 L ((0, a) :: st) h = EV d 193 47 L ((0, a) :: (0, a) :: st) h := G_dupi (m193 dX11_next_46)
theorem e193_47 {d : Nat} {L st : List AV} {h : AM} {r : Int} (hk : isK h r 11) : EV d 193 47 L ((2, r) :: st) h = EV d 193 50 L ((0, mrd h r 15) :: st) h := G_get (m193 dX11_next_47) ow193 tf_11_139 rfl rfl hk
theorem e193_50 {d : Nat} {L st : List AV} {h : AM} : EV d 193 50 L st h = EV d 193 51 L ((0, 1) :: st) h := G_iconst (m193 dX11_next_50) (by decide)
theorem e193_51 {d : Nat} {L st : List AV} {h : AM} {a b : Int} : EV d 193 51 L ((0, b) :: (0, a) :: st) h = EV d 193 52 L ((0, w32 (a + b)) :: st) h := E_iadd (m193 dX11_next_51)
theorem e193_52 {d : Nat} {L st : List AV} {h : AM} {r v : Int} (hk : isK h r 11) : EV d 193 52 L ((0, v) :: (2, r) :: st) h = EV d 193 55 L st (mwr h r 15 v) := G_put (m193 dX11_next_52) ow193 tf_11_139 pk_193_11_15 rfl hk
theorem e193_55 {d : Nat} {L st : List AV} {h : AM} : EV d 193 55 L st h = EV d 193 8 L st h := G_goto (m193 dX11_next_55) rfl
theorem e193_58 {d : Nat} {l1 : AV} {st : List AV} {h : AM} {x : Int} : EV d 193 58 [(2, x), l1] st h = EV d 193 59 [(2, x), l1] ((2, x) :: st) h := G_aload_n (m193 dX11_next_58) rfl
theorem e193_59 {d : Nat} {l1 : AV} {st : List AV} {h : AM} {x : Int} : EV d 193 59 [(2, x), l1] st h = EV d 193 60 [(2, x), l1] ((2, x) :: st) h := G_aload_n (m193 dX11_next_59) rfl
theorem e193_60 {d : Nat} {L st : List AV} {h : AM} {r : Int} (hk : isK h r 11) : EV d 193 60 L ((2, r) :: st) h = EV d 193 63 L ((0, mrd h r 15) :: st) h := G_get (m193 dX11_next_60) ow193 tf_11_139 rfl rfl hk
theorem pk_193_11_16 : pok 193 11 16 0 = true := by decide +kernel
theorem e193_63 {d : Nat} {L st : List AV} {h : AM} {r v : Int} (hk : isK h r 11) : EV d 193 63 L ((0, v) :: (2, r) :: st) h = EV d 193 66 L st (mwr h r 16 v) := G_put (m193 dX11_next_63) ow193 tf_11_136 pk_193_11_16 rfl hk
theorem e193_66 {d : Nat} {l1 : AV} {st : List AV} {h : AM} {x : Int} : EV d 193 66 [(2, x), l1] st h = EV d 193 67 [(2, x), l1] ((2, x) :: st) h := G_aload_n (m193 dX11_next_66) rfl
theorem e193_67 {d : Nat} {L st : List AV} {h : AM} {r : Int} (hk : isK h r 11) : EV d 193 67 L ((2, r) :: st) h = EV d 193 70 L ((0, mrd h r 15) :: st) h := G_get (m193 dX11_next_67) ow193 tf_11_139 rfl rfl hk
theorem e193_70 {d : Nat} {l1 : AV} {st : List AV} {h : AM} {x : Int} : EV d 193 70 [(2, x), l1] st h = EV d 193 71 [(2, x), l1] ((2, x) :: st) h := G_aload_n (m193 dX11_next_70) rfl
theorem e193_71 {d : Nat} {L st : List AV} {h : AM} {r : Int} (hk : isK h r 11) : EV d 193 71 L ((2, r) :: st) h = EV d 193 74 L ((0, mrd h r 9) :: st) h := G_get (m193 dX11_next_71) ow193 tf_11_133 rfl rfl hk
theorem e193_74 {d : Nat} {L st : List AV} {h : AM} {a b : Int} : EV d 193 74 L ((0, b) :: (0, a) :: st) h = if a < b then EV d 193 83 L st h else EV d 193 77 L st h := (E_ic (m193 dX11_next_74) (t := 83) rfl).trans cc_lt
theorem e193_77 {d : Nat} {l1 : AV} {st : List AV} {h : AM} {x : Int} : EV d 193 77 [(2, x), l1] st h = EV d 193 78 [(2, x), l1] ((2, x) :: st) h := G_aload_n (m193 dX11_next_77) rfl
theorem e193_78 {d : Nat} {L st : List AV} {h : AM} : EV d 193 78 L st h = EV d 193 79 L ((0, 0) :: st) h := G_iconst (m193 dX11_next_78) (by decide)
theorem pk_193_11_14 : pok 193 11 14 0 = true := by decide +kernel
theorem e193_79 {d : Nat} {L st : List AV} {h : AM} {r v : Int} (hk : isK h r 11) : EV d 193 79 L ((0, v) :: (2, r) :: st) h = EV d 193 82 L st (mwr h r 14 v) := G_put (m193 dX11_next_79) ow193 tf_11_145 pk_193_11_14 rfl hk
theorem e193_82 {d : Nat} {L : List AV} {h : AM} : EV d 193 82 L [] h = some ((3, 0), h) := E_ret (m193 dX11_next_82) rt193
theorem e193_83 {d : Nat} {l1 : AV} {st : List AV} {h : AM} {x : Int} : EV d 193 83 [(2, x), l1] st h = EV d 193 84 [(2, x), l1] ((2, x) :: st) h := G_aload_n (m193 dX11_next_83) rfl
theorem e193_84 {d : Nat} {l1 : AV} {st : List AV} {h : AM} {x : Int} : EV d 193 84 [(2, x), l1] st h = EV d 193 85 [(2, x), l1] ((2, x) :: st) h := G_aload_n (m193 dX11_next_84) rfl
theorem e193_85 {d : Nat} {L st : List AV} {h : AM} {r : Int} (hk : isK h r 11) : EV d 193 85 L ((2, r) :: st) h = EV d 193 88 L ((0, mrd h r 15) :: st) h := G_get (m193 dX11_next_85) ow193 tf_11_139 rfl rfl hk
theorem e193_88 {d : Nat} {L st : List AV} {h : AM} {r p0 : Int} (hs : st.length ≤ 4) (hk : isK h r 11) : EV (d + 1) 193 88 L ((0, p0) :: (2, r) :: st) h = (EV d 189 0 [(2, r), (0, p0)] [] h).bind (fun q => EV (d + 1) 193 91 L (psh q.1 st) q.2) := G_cv [(0, p0)] (m193 dX11_next_88) ow193 tr_11_142 (by decide) td189 np189 ml189 ow189 rfl rfl (Nat.le_of_ble_eq_true rfl) rfl hs hk
theorem e193_91 {d : Nat} {l0 l1 : AV} {st : List AV} {h : AM} {x : Int} : EV d 193 91 [l0, l1] ((0, x) :: st) h = EV d 193 92 [l0, (0, x)] st h := G_istore_n (m193 dX11_next_91) (Nat.le_of_ble_eq_true rfl) rfl
theorem e193_92 {d : Nat} {l0 : AV} {st : List AV} {h : AM} {x : Int} : EV d 193 92 [l0, (0, x)] st h = EV d 193 93 [l0, (0, x)] ((0, x) :: st) h := G_iload_n (m193 dX11_next_92) rfl
theorem e193_93 {d : Nat} {L st : List AV} {h : AM} {p0 : Int} (hs : st.length ≤ 4) : EV (d + 1) 193 93 L ((0, p0) :: st) h = (EV d 190 0 [(0, p0)] [] h).bind (fun q => EV (d + 1) 193 96 L (psh q.1 st) q.2) := G_cs [(0, p0)] (m193 dX11_next_93) ow193 tr_11_148 (by decide) td190 np190 ml190 rfl rfl (Nat.le_of_ble_eq_true rfl) rfl hs
theorem e193_96 {d : Nat} {L st : List AV} {h : AM} {a : Int} : EV d 193 96 L ((0, a) :: st) h = if a = 0 then EV d 193 198 L st h else EV d 193 99 L st h := (E_if (m193 dX11_next_96) (t := 198) rfl).trans cc_eq
theorem e193_99 {d : Nat} {l1 : AV} {st : List AV} {h : AM} {x : Int} : EV d 193 99 [(2, x), l1] st h = EV d 193 100 [(2, x), l1] ((2, x) :: st) h := G_aload_n (m193 dX11_next_99) rfl
theorem e193_100 {d : Nat} {L st : List AV} {h : AM} : EV d 193 100 L st h = EV d 193 101 L ((0, 1) :: st) h := G_iconst (m193 dX11_next_100) (by decide)
theorem e193_101 {d : Nat} {L st : List AV} {h : AM} {r v : Int} (hk : isK h r 11) : EV d 193 101 L ((0, v) :: (2, r) :: st) h = EV d 193 104 L st (mwr h r 14 v) := G_put (m193 dX11_next_101) ow193 tf_11_145 pk_193_11_14 rfl hk
theorem e193_104 {d : Nat} {l1 : AV} {st : List AV} {h : AM} {x : Int} : EV d 193 104 [(2, x), l1] st h = EV d 193 105 [(2, x), l1] ((2, x) :: st) h := G_aload_n (m193 dX11_next_104) rfl
theorem e193_105 {d : Nat} {L st : List AV} {h : AM} : EV d 193 105 L st h = EV d 193 106 L ((1, 0) :: st) h := G_lconst0 (m193 dX11_next_105)
theorem pk_193_11_19 : pok 193 11 19 1 = true := by decide +kernel
theorem e193_106 {d : Nat} {L st : List AV} {h : AM} {r v : Int} (hk : isK h r 11) : EV d 193 106 L ((1, v) :: (2, r) :: st) h = EV d 193 109 L st (mwr h r 19 v) := G_put (m193 dX11_next_106) ow193 tf_11_151 pk_193_11_19 rfl hk
theorem e193_109 {d : Nat} {l1 : AV} {st : List AV} {h : AM} {x : Int} : EV d 193 109 [(2, x), l1] st h = EV d 193 110 [(2, x), l1] ((2, x) :: st) h := G_aload_n (m193 dX11_next_109) rfl
theorem e193_110 {d : Nat} {l1 : AV} {st : List AV} {h : AM} {x : Int} : EV d 193 110 [(2, x), l1] st h = EV d 193 111 [(2, x), l1] ((2, x) :: st) h := G_aload_n (m193 dX11_next_110) rfl
theorem e193_111 {d : Nat} {L st : List AV} {h : AM} {r : Int} (hk : isK h r 11) : EV d 193 111 L ((2, r) :: st) h = EV d 193 114 L ((0, mrd h r 16) :: st) h := G_get (m193 dX11_next_111) ow193 tf_11_136 rfl rfl hk
theorem e193_114 {d : Nat} {L st : List AV} {h : AM} {r p0 : Int} (hs : st.length ≤ 4) (hk : isK h r 11) : EV (d + 1) 193 114 L ((0, p0) :: (2, r) :: st) h = (EV d 189 0 [(2, r), (0, p0)] [] h).bind (fun q => EV (d + 1) 193 117 L (psh q.1 st) q.2) := G_cv [(0, p0)] (m193 dX11_next_114) ow193 tr_11_142 (by decide) td189 np189 ml189 ow189 rfl rfl (Nat.le_of_ble_eq_true rfl) rfl hs hk
theorem e193_117 {d : Nat} {L st : List AV} {h : AM} {p0 : Int} (hs : st.length ≤ 4) : EV (d + 1) 193 117 L ((0, p0) :: st) h = (EV d 190 0 [(0, p0)] [] h).bind (fun q => EV (d + 1) 193 120 L (psh q.1 st) q.2) := G_cs [(0, p0)] (m193 dX11_next_117) ow193 tr_11_148 (by decide) td190 np190 ml190 rfl rfl (Nat.le_of_ble_eq_true rfl) rfl hs
theorem e193_120 {d : Nat} {L st : List AV} {h : AM} {a : Int} : EV d 193 120 L ((0, a) :: st) h = if a = 0 then EV d 193 182 L st h else EV d 193 123 L st h := (E_if (m193 dX11_next_120) (t := 182) rfl).trans cc_eq
theorem e193_123 {d : Nat} {l1 : AV} {st : List AV} {h : AM} {x : Int} : EV d 193 123 [(2, x), l1] st h = EV d 193 124 [(2, x), l1] ((2, x) :: st) h := G_aload_n (m193 dX11_next_123) rfl
theorem e193_124 {d : Nat} {l1 : AV} {st : List AV} {h : AM} {x : Int} : EV d 193 124 [(2, x), l1] st h = EV d 193 125 [(2, x), l1] ((2, x) :: st) h := G_aload_n (m193 dX11_next_124) rfl
theorem e193_125 {d : Nat} {L st : List AV} {h : AM} {r : Int} (hk : isK h r 11) : EV d 193 125 L ((2, r) :: st) h = EV d 193 128 L ((0, mrd h r 16) :: st) h := G_get (m193 dX11_next_125) ow193 tf_11_136 rfl rfl hk
theorem e193_128 {d : Nat} {l1 : AV} {st : List AV} {h : AM} {x : Int} : EV d 193 128 [(2, x), l1] st h = EV d 193 129 [(2, x), l1] ((2, x) :: st) h := G_aload_n (m193 dX11_next_128) rfl
theorem e193_129 {d : Nat} {L st : List AV} {h : AM} {r : Int} (hk : isK h r 11) : EV d 193 129 L ((2, r) :: st) h = EV d 193 132 L ((0, mrd h r 15) :: st) h := G_get (m193 dX11_next_129) ow193 tf_11_139 rfl rfl hk
theorem e193_132 {d : Nat} {L st : List AV} {h : AM} {a b : Int} : EV d 193 132 L ((0, b) :: (0, a) :: st) h = EV d 193 133 L ((0, w32 (a - b)) :: st) h := E_isub (m193 dX11_next_132)
theorem e193_133 {d : Nat} {L st : List AV} {h : AM} : EV d 193 133 L st h = EV d 193 135 L ((0, 8) :: st) h := G_bipush (m193 dX11_next_133) (by decide)
theorem e193_135 {d : Nat} {L st : List AV} {h : AM} {a b : Int} : EV d 193 135 L ((0, b) :: (0, a) :: st) h = if a < b then EV d 193 138 L st h else EV d 193 163 L st h := (E_ic (m193 dX11_next_135) (t := 163) rfl).trans cc_ge
theorem e193_138 {d : Nat} {l1 : AV} {st : List AV} {h : AM} {x : Int} : EV d 193 138 [(2, x), l1] st h = EV d 193 139 [(2, x), l1] ((2, x) :: st) h := G_aload_n (m193 dX11_next_138) rfl
theorem e193_139 {d : Nat} {L st : List AV} {h : AM} {r : Int} (hk : isK h r 11) : EV d 193 139 L ((2, r) :: st) h = EV d 193 142 L ((1, mrd h r 19) :: st) h := G_get (m193 dX11_next_139) ow193 tf_11_151 rfl rfl hk
theorem e193_142 {d : Nat} {L st : List AV} {h : AM} : EV d 193 142 L st h = EV d 193 145 L ((1, 32) :: st) h := G_ldc2 (m193 dX11_next_142) ow193 tl_11_154 (by decide)
theorem e193_145 {d : Nat} {L st : List AV} {h : AM} {a b : Int} : EV d 193 145 L ((1, b) :: (1, a) :: st) h = EV d 193 146 L ((1, w64 (a * b)) :: st) h := E_lmul (m193 dX11_next_145)
theorem e193_146 {d : Nat} {l1 : AV} {st : List AV} {h : AM} {x : Int} : EV d 193 146 [(2, x), l1] st h = EV d 193 147 [(2, x), l1] ((2, x) :: st) h := G_aload_n (m193 dX11_next_146) rfl
theorem e193_147 {d : Nat} {l1 : AV} {st : List AV} {h : AM} {x : Int} : EV d 193 147 [(2, x), l1] st h = EV d 193 148 [(2, x), l1] ((2, x) :: st) h := G_aload_n (m193 dX11_next_147) rfl
theorem e193_148 {d : Nat} {L st : List AV} {h : AM} {r : Int} (hk : isK h r 11) : EV d 193 148 L ((2, r) :: st) h = EV d 193 151 L ((0, mrd h r 16) :: st) h := G_get (m193 dX11_next_148) ow193 tf_11_136 rfl rfl hk
theorem e193_151 {d : Nat} {L st : List AV} {h : AM} {r p0 : Int} (hs : st.length ≤ 4) (hk : isK h r 11) : EV (d + 1) 193 151 L ((0, p0) :: (2, r) :: st) h = (EV d 189 0 [(2, r), (0, p0)] [] h).bind (fun q => EV (d + 1) 193 154 L (psh q.1 st) q.2) := G_cv [(0, p0)] (m193 dX11_next_151) ow193 tr_11_142 (by decide) td189 np189 ml189 ow189 rfl rfl (Nat.le_of_ble_eq_true rfl) rfl hs hk
theorem e193_154 {d : Nat} {L st : List AV} {h : AM} {a : Int} : EV d 193 154 L ((0, a) :: st) h = EV d 193 155 L ((1, a) :: st) h := G_i2l (m193 dX11_next_154)
theorem e193_155 {d : Nat} {L st : List AV} {h : AM} {a b : Int} : EV d 193 155 L ((1, b) :: (1, a) :: st) h = EV d 193 156 L ((1, w64 (a + b)) :: st) h := E_ladd (m193 dX11_next_155)
theorem e193_156 {d : Nat} {L st : List AV} {h : AM} : EV d 193 156 L st h = EV d 193 159 L ((1, 96) :: st) h := G_ldc2 (m193 dX11_next_156) ow193 tl_11_156 (by decide)
theorem e193_159 {d : Nat} {L st : List AV} {h : AM} {a b : Int} : EV d 193 159 L ((1, b) :: (1, a) :: st) h = EV d 193 160 L ((1, w64 (a - b)) :: st) h := E_lsub (m193 dX11_next_159)
theorem e193_160 {d : Nat} {L st : List AV} {h : AM} : EV d 193 160 L st h = EV d 193 166 L st h := G_goto (m193 dX11_next_160) rfl
theorem e193_163 {d : Nat} {L st : List AV} {h : AM} : EV d 193 163 L st h = EV d 193 166 L ((1, -1) :: st) h := G_ldc2 (m193 dX11_next_163) ow193 tl_11_125 (by decide)
theorem e193_166 {d : Nat} {L st : List AV} {h : AM} {r v : Int} (hk : isK h r 11) : EV d 193 166 L ((1, v) :: (2, r) :: st) h = EV d 193 169 L st (mwr h r 19 v) := G_put (m193 dX11_next_166) ow193 tf_11_151 pk_193_11_19 rfl hk
theorem e193_169 {d : Nat} {l1 : AV} {st : List AV} {h : AM} {x : Int} : EV d 193 169 [(2, x), l1] st h = EV d 193 170 [(2, x), l1] ((2, x) :: st) h := G_aload_n (m193 dX11_next_169) rfl
theorem e193_170 {d : Nat} {L st : List AV} {h : AM} {a : Int} : EV d 193 170 L ((2, a) :: st) h = EV d 193 171 L ((2, a) :: (2, a) :: st) h := G_dup2r (m193 dX11_next_170)
theorem e193_170i {d : Nat} {L st : List AV} {h : AM} {a : Int} : EV d 193 170 L ((0, a) :: st) h = EV d 193 171 L ((0, a) :: (0, a) :: st) h := G_dupi (m193 dX11_next_170)
theorem e193_171 {d : Nat} {L st : List AV} {h : AM} {r : Int} (hk : isK h r 11) : EV d 193 171 L ((2, r) :: st) h = EV d 193 174 L ((0, mrd h r 16) :: st) h := G_get (m193 dX11_next_171) ow193 tf_11_136 rfl rfl hk
theorem e193_174 {d : Nat} {L st : List AV} {h : AM} : EV d 193 174 L st h = EV d 193 175 L ((0, 1) :: st) h := G_iconst (m193 dX11_next_174) (by decide)
theorem e193_175 {d : Nat} {L st : List AV} {h : AM} {a b : Int} : EV d 193 175 L ((0, b) :: (0, a) :: st) h = EV d 193 176 L ((0, w32 (a + b)) :: st) h := E_iadd (m193 dX11_next_175)
theorem e193_176 {d : Nat} {L st : List AV} {h : AM} {r v : Int} (hk : isK h r 11) : EV d 193 176 L ((0, v) :: (2, r) :: st) h = EV d 193 179 L st (mwr h r 16 v) := G_put (m193 dX11_next_176) ow193 tf_11_136 pk_193_11_16 rfl hk
theorem e193_179 {d : Nat} {L st : List AV} {h : AM} : EV d 193 179 L st h = EV d 193 109 L st h := G_goto (m193 dX11_next_179) rfl
theorem e193_182 {d : Nat} {l1 : AV} {st : List AV} {h : AM} {x : Int} : EV d 193 182 [(2, x), l1] st h = EV d 193 183 [(2, x), l1] ((2, x) :: st) h := G_aload_n (m193 dX11_next_182) rfl
theorem e193_183 {d : Nat} {l1 : AV} {st : List AV} {h : AM} {x : Int} : EV d 193 183 [(2, x), l1] st h = EV d 193 184 [(2, x), l1] ((2, x) :: st) h := G_aload_n (m193 dX11_next_183) rfl
theorem e193_184 {d : Nat} {L st : List AV} {h : AM} {r : Int} (hk : isK h r 11) : EV d 193 184 L ((2, r) :: st) h = EV d 193 187 L ((0, mrd h r 16) :: st) h := G_get (m193 dX11_next_184) ow193 tf_11_136 rfl rfl hk
theorem e193_187 {d : Nat} {l1 : AV} {st : List AV} {h : AM} {x : Int} : EV d 193 187 [(2, x), l1] st h = EV d 193 188 [(2, x), l1] ((2, x) :: st) h := G_aload_n (m193 dX11_next_187) rfl
theorem e193_188 {d : Nat} {L st : List AV} {h : AM} {r : Int} (hk : isK h r 11) : EV d 193 188 L ((2, r) :: st) h = EV d 193 191 L ((0, mrd h r 15) :: st) h := G_get (m193 dX11_next_188) ow193 tf_11_139 rfl rfl hk
theorem e193_191 {d : Nat} {L st : List AV} {h : AM} {a b : Int} : EV d 193 191 L ((0, b) :: (0, a) :: st) h = EV d 193 192 L ((0, w32 (a - b)) :: st) h := E_isub (m193 dX11_next_191)
theorem pk_193_11_18 : pok 193 11 18 0 = true := by decide +kernel
theorem e193_192 {d : Nat} {L st : List AV} {h : AM} {r v : Int} (hk : isK h r 11) : EV d 193 192 L ((0, v) :: (2, r) :: st) h = EV d 193 195 L st (mwr h r 18 v) := G_put (m193 dX11_next_192) ow193 tf_11_158 pk_193_11_18 rfl hk
theorem e193_195 {d : Nat} {L st : List AV} {h : AM} : EV d 193 195 L st h = EV d 193 330 L st h := G_goto (m193 dX11_next_195) rfl
theorem e193_198 {d : Nat} {l0 : AV} {st : List AV} {h : AM} {x : Int} : EV d 193 198 [l0, (0, x)] st h = EV d 193 199 [l0, (0, x)] ((0, x) :: st) h := G_iload_n (m193 dX11_next_198) rfl
theorem e193_199 {d : Nat} {L st : List AV} {h : AM} {p0 : Int} (hs : st.length ≤ 4) : EV (d + 1) 193 199 L ((0, p0) :: st) h = (EV d 191 0 [(0, p0)] [] h).bind (fun q => EV (d + 1) 193 202 L (psh q.1 st) q.2) := G_cs [(0, p0)] (m193 dX11_next_199) ow193 tr_11_161 (by decide) td191 np191 ml191 rfl rfl (Nat.le_of_ble_eq_true rfl) rfl hs
theorem e193_202 {d : Nat} {L st : List AV} {h : AM} {a : Int} : EV d 193 202 L ((0, a) :: st) h = if a = 0 then EV d 193 298 L st h else EV d 193 205 L st h := (E_if (m193 dX11_next_202) (t := 298) rfl).trans cc_eq
theorem e193_205 {d : Nat} {l1 : AV} {st : List AV} {h : AM} {x : Int} : EV d 193 205 [(2, x), l1] st h = EV d 193 206 [(2, x), l1] ((2, x) :: st) h := G_aload_n (m193 dX11_next_205) rfl
theorem e193_206 {d : Nat} {L st : List AV} {h : AM} : EV d 193 206 L st h = EV d 193 207 L ((0, 0) :: st) h := G_iconst (m193 dX11_next_206) (by decide)
theorem pk_193_11_17 : pok 193 11 17 0 = true := by decide +kernel
theorem e193_207 {d : Nat} {L st : List AV} {h : AM} {r v : Int} (hk : isK h r 11) : EV d 193 207 L ((0, v) :: (2, r) :: st) h = EV d 193 210 L st (mwr h r 17 v) := G_put (m193 dX11_next_207) ow193 tf_11_164 pk_193_11_17 rfl hk
theorem e193_210 {d : Nat} {l1 : AV} {st : List AV} {h : AM} {x : Int} : EV d 193 210 [(2, x), l1] st h = EV d 193 211 [(2, x), l1] ((2, x) :: st) h := G_aload_n (m193 dX11_next_210) rfl
theorem e193_211 {d : Nat} {l1 : AV} {st : List AV} {h : AM} {x : Int} : EV d 193 211 [(2, x), l1] st h = EV d 193 212 [(2, x), l1] ((2, x) :: st) h := G_aload_n (m193 dX11_next_211) rfl
theorem e193_212 {d : Nat} {L st : List AV} {h : AM} {r : Int} (hk : isK h r 11) : EV d 193 212 L ((2, r) :: st) h = EV d 193 215 L ((0, mrd h r 16) :: st) h := G_get (m193 dX11_next_212) ow193 tf_11_136 rfl rfl hk
theorem e193_215 {d : Nat} {L st : List AV} {h : AM} {r p0 : Int} (hs : st.length ≤ 4) (hk : isK h r 11) : EV (d + 1) 193 215 L ((0, p0) :: (2, r) :: st) h = (EV d 189 0 [(2, r), (0, p0)] [] h).bind (fun q => EV (d + 1) 193 218 L (psh q.1 st) q.2) := G_cv [(0, p0)] (m193 dX11_next_215) ow193 tr_11_142 (by decide) td189 np189 ml189 ow189 rfl rfl (Nat.le_of_ble_eq_true rfl) rfl hs hk
theorem e193_218 {d : Nat} {L st : List AV} {h : AM} {p0 : Int} (hs : st.length ≤ 4) : EV (d + 1) 193 218 L ((0, p0) :: st) h = (EV d 191 0 [(0, p0)] [] h).bind (fun q => EV (d + 1) 193 221 L (psh q.1 st) q.2) := G_cs [(0, p0)] (m193 dX11_next_218) ow193 tr_11_161 (by decide) td191 np191 ml191 rfl rfl (Nat.le_of_ble_eq_true rfl) rfl hs
theorem e193_221 {d : Nat} {L st : List AV} {h : AM} {a : Int} : EV d 193 221 L ((0, a) :: st) h = if a = 0 then EV d 193 273 L st h else EV d 193 224 L st h := (E_if (m193 dX11_next_221) (t := 273) rfl).trans cc_eq
theorem e193_224 {d : Nat} {l1 : AV} {st : List AV} {h : AM} {x : Int} : EV d 193 224 [(2, x), l1] st h = EV d 193 225 [(2, x), l1] ((2, x) :: st) h := G_aload_n (m193 dX11_next_224) rfl
theorem e193_225 {d : Nat} {L st : List AV} {h : AM} {r : Int} (hk : isK h r 11) : EV d 193 225 L ((2, r) :: st) h = EV d 193 228 L ((0, mrd h r 16) :: st) h := G_get (m193 dX11_next_225) ow193 tf_11_136 rfl rfl hk
theorem e193_228 {d : Nat} {l1 : AV} {st : List AV} {h : AM} {x : Int} : EV d 193 228 [(2, x), l1] st h = EV d 193 229 [(2, x), l1] ((2, x) :: st) h := G_aload_n (m193 dX11_next_228) rfl
theorem e193_229 {d : Nat} {L st : List AV} {h : AM} {r : Int} (hk : isK h r 11) : EV d 193 229 L ((2, r) :: st) h = EV d 193 232 L ((0, mrd h r 15) :: st) h := G_get (m193 dX11_next_229) ow193 tf_11_139 rfl rfl hk
theorem e193_232 {d : Nat} {L st : List AV} {h : AM} {a b : Int} : EV d 193 232 L ((0, b) :: (0, a) :: st) h = EV d 193 233 L ((0, w32 (a - b)) :: st) h := E_isub (m193 dX11_next_232)
theorem e193_233 {d : Nat} {L st : List AV} {h : AM} : EV d 193 233 L st h = EV d 193 234 L ((0, 4) :: st) h := G_iconst (m193 dX11_next_233) (by decide)
theorem e193_234 {d : Nat} {L st : List AV} {h : AM} {a b : Int} : EV d 193 234 L ((0, b) :: (0, a) :: st) h = if a < b then EV d 193 237 L st h else EV d 193 260 L st h := (E_ic (m193 dX11_next_234) (t := 260) rfl).trans cc_ge
theorem e193_237 {d : Nat} {l1 : AV} {st : List AV} {h : AM} {x : Int} : EV d 193 237 [(2, x), l1] st h = EV d 193 238 [(2, x), l1] ((2, x) :: st) h := G_aload_n (m193 dX11_next_237) rfl
theorem e193_238 {d : Nat} {L st : List AV} {h : AM} : EV d 193 238 L st h = EV d 193 240 L ((0, 10) :: st) h := G_bipush (m193 dX11_next_238) (by decide)
theorem e193_240 {d : Nat} {l1 : AV} {st : List AV} {h : AM} {x : Int} : EV d 193 240 [(2, x), l1] st h = EV d 193 241 [(2, x), l1] ((2, x) :: st) h := G_aload_n (m193 dX11_next_240) rfl
theorem e193_241 {d : Nat} {L st : List AV} {h : AM} {r : Int} (hk : isK h r 11) : EV d 193 241 L ((2, r) :: st) h = EV d 193 244 L ((0, mrd h r 17) :: st) h := G_get (m193 dX11_next_241) ow193 tf_11_164 rfl rfl hk
theorem e193_244 {d : Nat} {L st : List AV} {h : AM} {a b : Int} : EV d 193 244 L ((0, b) :: (0, a) :: st) h = EV d 193 245 L ((0, w32 (a * b)) :: st) h := E_imul (m193 dX11_next_244)
theorem e193_245 {d : Nat} {l1 : AV} {st : List AV} {h : AM} {x : Int} : EV d 193 245 [(2, x), l1] st h = EV d 193 246 [(2, x), l1] ((2, x) :: st) h := G_aload_n (m193 dX11_next_245) rfl
theorem e193_246 {d : Nat} {l1 : AV} {st : List AV} {h : AM} {x : Int} : EV d 193 246 [(2, x), l1] st h = EV d 193 247 [(2, x), l1] ((2, x) :: st) h := G_aload_n (m193 dX11_next_246) rfl
theorem e193_247 {d : Nat} {L st : List AV} {h : AM} {r : Int} (hk : isK h r 11) : EV d 193 247 L ((2, r) :: st) h = EV d 193 250 L ((0, mrd h r 16) :: st) h := G_get (m193 dX11_next_247) ow193 tf_11_136 rfl rfl hk
theorem e193_250 {d : Nat} {L st : List AV} {h : AM} {r p0 : Int} (hs : st.length ≤ 4) (hk : isK h r 11) : EV (d + 1) 193 250 L ((0, p0) :: (2, r) :: st) h = (EV d 189 0 [(2, r), (0, p0)] [] h).bind (fun q => EV (d + 1) 193 253 L (psh q.1 st) q.2) := G_cv [(0, p0)] (m193 dX11_next_250) ow193 tr_11_142 (by decide) td189 np189 ml189 ow189 rfl rfl (Nat.le_of_ble_eq_true rfl) rfl hs hk
theorem e193_253 {d : Nat} {L st : List AV} {h : AM} {a b : Int} : EV d 193 253 L ((0, b) :: (0, a) :: st) h = EV d 193 254 L ((0, w32 (a + b)) :: st) h := E_iadd (m193 dX11_next_253)
theorem e193_254 {d : Nat} {L st : List AV} {h : AM} : EV d 193 254 L st h = EV d 193 256 L ((0, 48) :: st) h := G_bipush (m193 dX11_next_254) (by decide)
theorem e193_256 {d : Nat} {L st : List AV} {h : AM} {a b : Int} : EV d 193 256 L ((0, b) :: (0, a) :: st) h = EV d 193 257 L ((0, w32 (a - b)) :: st) h := E_isub (m193 dX11_next_256)
theorem e193_257 {d : Nat} {L st : List AV} {h : AM} {r v : Int} (hk : isK h r 11) : EV d 193 257 L ((0, v) :: (2, r) :: st) h = EV d 193 260 L st (mwr h r 17 v) := G_put (m193 dX11_next_257) ow193 tf_11_164 pk_193_11_17 rfl hk
theorem e193_260 {d : Nat} {l1 : AV} {st : List AV} {h : AM} {x : Int} : EV d 193 260 [(2, x), l1] st h = EV d 193 261 [(2, x), l1] ((2, x) :: st) h := G_aload_n (m193 dX11_next_260) rfl
theorem e193_261 {d : Nat} {L st : List AV} {h : AM} {a : Int} : EV d 193 261 L ((2, a) :: st) h = EV d 193 262 L ((2, a) :: (2, a) :: st) h := G_dup2r (m193 dX11_next_261)
theorem e193_261i {d : Nat} {L st : List AV} {h : AM} {a : Int} : EV d 193 261 L ((0, a) :: st) h = EV d 193 262 L ((0, a) :: (0, a) :: st) h := G_dupi (m193 dX11_next_261)
theorem e193_262 {d : Nat} {L st : List AV} {h : AM} {r : Int} (hk : isK h r 11) : EV d 193 262 L ((2, r) :: st) h = EV d 193 265 L ((0, mrd h r 16) :: st) h := G_get (m193 dX11_next_262) ow193 tf_11_136 rfl rfl hk
theorem e193_265 {d : Nat} {L st : List AV} {h : AM} : EV d 193 265 L st h = EV d 193 266 L ((0, 1) :: st) h := G_iconst (m193 dX11_next_265) (by decide)
theorem e193_266 {d : Nat} {L st : List AV} {h : AM} {a b : Int} : EV d 193 266 L ((0, b) :: (0, a) :: st) h = EV d 193 267 L ((0, w32 (a + b)) :: st) h := E_iadd (m193 dX11_next_266)
theorem e193_267 {d : Nat} {L st : List AV} {h : AM} {r v : Int} (hk : isK h r 11) : EV d 193 267 L ((0, v) :: (2, r) :: st) h = EV d 193 270 L st (mwr h r 16 v) := G_put (m193 dX11_next_267) ow193 tf_11_136 pk_193_11_16 rfl hk
theorem e193_270 {d : Nat} {L st : List AV} {h : AM} : EV d 193 270 L st h = EV d 193 210 L st h := G_goto (m193 dX11_next_270) rfl
theorem e193_273 {d : Nat} {l1 : AV} {st : List AV} {h : AM} {x : Int} : EV d 193 273 [(2, x), l1] st h = EV d 193 274 [(2, x), l1] ((2, x) :: st) h := G_aload_n (m193 dX11_next_273) rfl
theorem e193_274 {d : Nat} {l1 : AV} {st : List AV} {h : AM} {x : Int} : EV d 193 274 [(2, x), l1] st h = EV d 193 275 [(2, x), l1] ((2, x) :: st) h := G_aload_n (m193 dX11_next_274) rfl
theorem e193_275 {d : Nat} {L st : List AV} {h : AM} {r : Int} (hk : isK h r 11) : EV d 193 275 L ((2, r) :: st) h = EV d 193 278 L ((0, mrd h r 16) :: st) h := G_get (m193 dX11_next_275) ow193 tf_11_136 rfl rfl hk
theorem e193_278 {d : Nat} {l1 : AV} {st : List AV} {h : AM} {x : Int} : EV d 193 278 [(2, x), l1] st h = EV d 193 279 [(2, x), l1] ((2, x) :: st) h := G_aload_n (m193 dX11_next_278) rfl
theorem e193_279 {d : Nat} {L st : List AV} {h : AM} {r : Int} (hk : isK h r 11) : EV d 193 279 L ((2, r) :: st) h = EV d 193 282 L ((0, mrd h r 15) :: st) h := G_get (m193 dX11_next_279) ow193 tf_11_139 rfl rfl hk
theorem e193_282 {d : Nat} {L st : List AV} {h : AM} {a b : Int} : EV d 193 282 L ((0, b) :: (0, a) :: st) h = EV d 193 283 L ((0, w32 (a - b)) :: st) h := E_isub (m193 dX11_next_282)
theorem e193_283 {d : Nat} {L st : List AV} {h : AM} : EV d 193 283 L st h = EV d 193 284 L ((0, 4) :: st) h := G_iconst (m193 dX11_next_283) (by decide)
theorem e193_284 {d : Nat} {L st : List AV} {h : AM} {a b : Int} : EV d 193 284 L ((0, b) :: (0, a) :: st) h = if b < a then EV d 193 287 L st h else EV d 193 291 L st h := (E_ic (m193 dX11_next_284) (t := 291) rfl).trans cc_le
theorem e193_287 {d : Nat} {L st : List AV} {h : AM} : EV d 193 287 L st h = EV d 193 288 L ((0, 4) :: st) h := G_iconst (m193 dX11_next_287) (by decide)
theorem e193_288 {d : Nat} {L st : List AV} {h : AM} : EV d 193 288 L st h = EV d 193 292 L st h := G_goto (m193 dX11_next_288) rfl
theorem e193_291 {d : Nat} {L st : List AV} {h : AM} : EV d 193 291 L st h = EV d 193 292 L ((0, 2) :: st) h := G_iconst (m193 dX11_next_291) (by decide)
theorem e193_292 {d : Nat} {L st : List AV} {h : AM} {r v : Int} (hk : isK h r 11) : EV d 193 292 L ((0, v) :: (2, r) :: st) h = EV d 193 295 L st (mwr h r 14 v) := G_put (m193 dX11_next_292) ow193 tf_11_145 pk_193_11_14 rfl hk
theorem e193_295 {d : Nat} {L st : List AV} {h : AM} : EV d 193 295 L st h = EV d 193 330 L st h := G_goto (m193 dX11_next_295) rfl
theorem e193_298 {d : Nat} {l1 : AV} {st : List AV} {h : AM} {x : Int} : EV d 193 298 [(2, x), l1] st h = EV d 193 299 [(2, x), l1] ((2, x) :: st) h := G_aload_n (m193 dX11_next_298) rfl
theorem e193_299 {d : Nat} {l1 : AV} {st : List AV} {h : AM} {x : Int} : EV d 193 299 [(2, x), l1] st h = EV d 193 300 [(2, x), l1] ((2, x) :: st) h := G_aload_n (m193 dX11_next_299) rfl
theorem e193_300 {d : Nat} {L st : List AV} {h : AM} {r : Int} (hk : isK h r 11) : EV d 193 300 L ((2, r) :: st) h = EV d 193 303 L ((0, mrd h r 15) :: st) h := G_get (m193 dX11_next_300) ow193 tf_11_139 rfl rfl hk
theorem e193_303 {d : Nat} {L st : List AV} {h : AM} : EV d 193 303 L st h = EV d 193 304 L ((0, 1) :: st) h := G_iconst (m193 dX11_next_303) (by decide)
theorem e193_304 {d : Nat} {L st : List AV} {h : AM} {a b : Int} : EV d 193 304 L ((0, b) :: (0, a) :: st) h = EV d 193 305 L ((0, w32 (a + b)) :: st) h := E_iadd (m193 dX11_next_304)
theorem e193_305 {d : Nat} {L st : List AV} {h : AM} {r v : Int} (hk : isK h r 11) : EV d 193 305 L ((0, v) :: (2, r) :: st) h = EV d 193 308 L st (mwr h r 16 v) := G_put (m193 dX11_next_305) ow193 tf_11_136 pk_193_11_16 rfl hk
theorem e193_308 {d : Nat} {l1 : AV} {st : List AV} {h : AM} {x : Int} : EV d 193 308 [(2, x), l1] st h = EV d 193 309 [(2, x), l1] ((2, x) :: st) h := G_aload_n (m193 dX11_next_308) rfl
theorem e193_309 {d : Nat} {l0 : AV} {st : List AV} {h : AM} {x : Int} : EV d 193 309 [l0, (0, x)] st h = EV d 193 310 [l0, (0, x)] ((0, x) :: st) h := G_iload_n (m193 dX11_next_309) rfl
theorem e193_310 {d : Nat} {L st : List AV} {h : AM} {r v : Int} (hk : isK h r 11) : EV d 193 310 L ((0, v) :: (2, r) :: st) h = EV d 193 313 L st (mwr h r 17 v) := G_put (m193 dX11_next_310) ow193 tf_11_164 pk_193_11_17 rfl hk
theorem e193_313 {d : Nat} {l1 : AV} {st : List AV} {h : AM} {x : Int} : EV d 193 313 [(2, x), l1] st h = EV d 193 314 [(2, x), l1] ((2, x) :: st) h := G_aload_n (m193 dX11_next_313) rfl
theorem e193_314 {d : Nat} {l1 : AV} {st : List AV} {h : AM} {x : Int} : EV d 193 314 [(2, x), l1] st h = EV d 193 315 [(2, x), l1] ((2, x) :: st) h := G_aload_n (m193 dX11_next_314) rfl
theorem e193_315 {d : Nat} {l0 : AV} {st : List AV} {h : AM} {x : Int} : EV d 193 315 [l0, (0, x)] st h = EV d 193 316 [l0, (0, x)] ((0, x) :: st) h := G_iload_n (m193 dX11_next_315) rfl
theorem e193_316 {d : Nat} {L st : List AV} {h : AM} {r p0 : Int} (hs : st.length ≤ 4) (hk : isK h r 11) : EV (d + 1) 193 316 L ((0, p0) :: (2, r) :: st) h = (EV d 192 0 [(2, r), (0, p0)] [] h).bind (fun q => EV (d + 1) 193 319 L (psh q.1 st) q.2) := G_cv [(0, p0)] (m193 dX11_next_316) ow193 tr_11_167 (by decide) td192 np192 ml192 ow192 rfl rfl (Nat.le_of_ble_eq_true rfl) rfl hs hk
theorem e193_319 {d : Nat} {L st : List AV} {h : AM} {a : Int} : EV d 193 319 L ((0, a) :: st) h = if a = 0 then EV d 193 326 L st h else EV d 193 322 L st h := (E_if (m193 dX11_next_319) (t := 326) rfl).trans cc_eq
theorem e193_322 {d : Nat} {L st : List AV} {h : AM} : EV d 193 322 L st h = EV d 193 323 L ((0, 3) :: st) h := G_iconst (m193 dX11_next_322) (by decide)
theorem e193_323 {d : Nat} {L st : List AV} {h : AM} : EV d 193 323 L st h = EV d 193 327 L st h := G_goto (m193 dX11_next_323) rfl
theorem e193_326 {d : Nat} {L st : List AV} {h : AM} : EV d 193 326 L st h = EV d 193 327 L ((0, 4) :: st) h := G_iconst (m193 dX11_next_326) (by decide)
theorem e193_327 {d : Nat} {L st : List AV} {h : AM} {r v : Int} (hk : isK h r 11) : EV d 193 327 L ((0, v) :: (2, r) :: st) h = EV d 193 330 L st (mwr h r 14 v) := G_put (m193 dX11_next_327) ow193 tf_11_145 pk_193_11_14 rfl hk
theorem e193_330 {d : Nat} {L : List AV} {h : AM} : EV d 193 330 L [] h = some ((3, 0), h) := E_ret (m193 dX11_next_330) rt193
theorem e194_0 {d : Nat} {l1 : AV} {st : List AV} {h : AM} {x : Int} : EV d 194 0 [(2, x), l1] st h = EV d 194 1 [(2, x), l1] ((2, x) :: st) h := G_aload_n (m194 dX11_isSign_0) rfl
theorem e194_1 {d : Nat} {L st : List AV} {h : AM} {r : Int} (hk : isK h r 11) : EV d 194 1 L ((2, r) :: st) h = EV d 194 4 L ((0, mrd h r 14) :: st) h := G_get (m194 dX11_isSign_1) ow194 tf_11_145 rfl rfl hk
theorem e194_4 {d : Nat} {L st : List AV} {h : AM} : EV d 194 4 L st h = EV d 194 5 L ((0, 3) :: st) h := G_iconst (m194 dX11_isSign_4) (by decide)
theorem e194_5 {d : Nat} {L st : List AV} {h : AM} {a b : Int} : EV d 194 5 L ((0, b) :: (0, a) :: st) h = if a = b then EV d 194 8 L st h else EV d 194 20 L st h := (E_ic (m194 dX11_isSign_5) (t := 20) rfl).trans cc_ne
theorem e194_8 {d : Nat} {l1 : AV} {st : List AV} {h : AM} {x : Int} : EV d 194 8 [(2, x), l1] st h = EV d 194 9 [(2, x), l1] ((2, x) :: st) h := G_aload_n (m194 dX11_isSign_8) rfl
theorem e194_9 {d : Nat} {L st : List AV} {h : AM} {r : Int} (hk : isK h r 11) : EV d 194 9 L ((2, r) :: st) h = EV d 194 12 L ((0, mrd h r 17) :: st) h := G_get (m194 dX11_isSign_9) ow194 tf_11_164 rfl rfl hk
theorem e194_12 {d : Nat} {l0 : AV} {st : List AV} {h : AM} {x : Int} : EV d 194 12 [l0, (0, x)] st h = EV d 194 13 [l0, (0, x)] ((0, x) :: st) h := G_iload_n (m194 dX11_isSign_12) rfl
theorem e194_13 {d : Nat} {L st : List AV} {h : AM} {a b : Int} : EV d 194 13 L ((0, b) :: (0, a) :: st) h = if a = b then EV d 194 16 L st h else EV d 194 20 L st h := (E_ic (m194 dX11_isSign_13) (t := 20) rfl).trans cc_ne
theorem e194_16 {d : Nat} {L st : List AV} {h : AM} : EV d 194 16 L st h = EV d 194 17 L ((0, 1) :: st) h := G_iconst (m194 dX11_isSign_16) (by decide)
theorem e194_17 {d : Nat} {L st : List AV} {h : AM} : EV d 194 17 L st h = EV d 194 21 L st h := G_goto (m194 dX11_isSign_17) rfl
theorem e194_20 {d : Nat} {L st : List AV} {h : AM} : EV d 194 20 L st h = EV d 194 21 L ((0, 0) :: st) h := G_iconst (m194 dX11_isSign_20) (by decide)
theorem e194_21 {d : Nat} {L : List AV} {h : AM} {v : Int} (hv : v = 0 ∨ v = 1) : EV d 194 21 L [(0, v)] h = some ((0, v), h) := E_iret (m194 dX11_isSign_21) (by rw [rt194]; rcases hv with rfl | rfl <;> rfl)
theorem e195_0 {d : Nat} {l1 l2 l3 l4 l5 l6 l7 : AV} {st : List AV} {h : AM} {x : Int} : EV d 195 0 [(0, x), l1, l2, l3, l4, l5, l6, l7] st h = EV d 195 1 [(0, x), l1, l2, l3, l4, l5, l6, l7] ((0, x) :: st) h := G_iload_n (m195 dX11_spelled_0) rfl
theorem e195_1 {d : Nat} {L st : List AV} {h : AM} {a : Int} : EV d 195 1 L ((0, a) :: st) h = EV d 195 2 L ((1, a) :: st) h := G_i2l (m195 dX11_spelled_1)
theorem e195_2 {d : Nat} {L st : List AV} {h : AM} : EV d 195 2 L st h = EV d 195 5 L ((1, 96) :: st) h := G_ldc2 (m195 dX11_spelled_2) ow195 tl_11_156 (by decide)
theorem e195_5 {d : Nat} {L st : List AV} {h : AM} {a b : Int} : EV d 195 5 L ((1, b) :: (1, a) :: st) h = EV d 195 6 L ((1, w64 (a - b)) :: st) h := E_lsub (m195 dX11_spelled_5)
theorem e195_6 {d : Nat} {L st : List AV} {h : AM} : EV d 195 6 L st h = EV d 195 9 L ((1, 32) :: st) h := G_ldc2 (m195 dX11_spelled_6) ow195 tl_11_154 (by decide)
theorem e195_9 {d : Nat} {L st : List AV} {h : AM} {a b : Int} : EV d 195 9 L ((1, b) :: (1, a) :: st) h = EV d 195 10 L ((1, w64 (a * b)) :: st) h := E_lmul (m195 dX11_spelled_9)
theorem e195_10 {d : Nat} {l0 l2 l3 l4 l5 l6 l7 : AV} {st : List AV} {h : AM} {x : Int} : EV d 195 10 [l0, (0, x), l2, l3, l4, l5, l6, l7] st h = EV d 195 11 [l0, (0, x), l2, l3, l4, l5, l6, l7] ((0, x) :: st) h := G_iload_n (m195 dX11_spelled_10) rfl
theorem e195_11 {d : Nat} {L st : List AV} {h : AM} {a : Int} : EV d 195 11 L ((0, a) :: st) h = EV d 195 12 L ((1, a) :: st) h := G_i2l (m195 dX11_spelled_11)
theorem e195_12 {d : Nat} {L st : List AV} {h : AM} {a b : Int} : EV d 195 12 L ((1, b) :: (1, a) :: st) h = EV d 195 13 L ((1, w64 (a + b)) :: st) h := E_ladd (m195 dX11_spelled_12)
theorem e195_13 {d : Nat} {L st : List AV} {h : AM} : EV d 195 13 L st h = EV d 195 16 L ((1, 96) :: st) h := G_ldc2 (m195 dX11_spelled_13) ow195 tl_11_156 (by decide)
theorem e195_16 {d : Nat} {L st : List AV} {h : AM} {a b : Int} : EV d 195 16 L ((1, b) :: (1, a) :: st) h = EV d 195 17 L ((1, w64 (a - b)) :: st) h := E_lsub (m195 dX11_spelled_16)
theorem e195_17 {d : Nat} {l0 l1 l2 l3 l4 l5 l6 l7 : AV} {st : List AV} {h : AM} {x : Int} : EV d 195 17 [l0, l1, l2, l3, l4, l5, l6, l7] ((1, x) :: st) h = EV d 195 19 [l0, l1, l2, l3, l4, l5, (1, x), (3, 1)] st h := G_lstore (m195 dX11_spelled_17) (Nat.le_of_ble_eq_true rfl) rfl
theorem e195_19 {d : Nat} {l0 l1 l3 l4 l5 l6 l7 : AV} {st : List AV} {h : AM} {x : Int} : EV d 195 19 [l0, l1, (0, x), l3, l4, l5, l6, l7] st h = EV d 195 20 [l0, l1, (0, x), l3, l4, l5, l6, l7] ((0, x) :: st) h := G_iload_n (m195 dX11_spelled_19) rfl
theorem e195_20 {d : Nat} {L st : List AV} {h : AM} {a : Int} : EV d 195 20 L ((0, a) :: st) h = if 0 < a then EV d 195 23 L st h else EV d 195 39 L st h := (E_if (m195 dX11_spelled_20) (t := 39) rfl).trans cc_le
theorem e195_23 {d : Nat} {l0 l1 l2 l3 l4 l5 : AV} {st : List AV} {h : AM} {x : Int} : EV d 195 23 [l0, l1, l2, l3, l4, l5, (1, x), (3, 1)] st h = EV d 195 25 [l0, l1, l2, l3, l4, l5, (1, x), (3, 1)] ((1, x) :: st) h := G_lload (m195 dX11_spelled_23) rfl rfl
theorem e195_25 {d : Nat} {L st : List AV} {h : AM} : EV d 195 25 L st h = EV d 195 28 L ((1, 32) :: st) h := G_ldc2 (m195 dX11_spelled_25) ow195 tl_11_154 (by decide)
theorem e195_28 {d : Nat} {L st : List AV} {h : AM} {a b : Int} : EV d 195 28 L ((1, b) :: (1, a) :: st) h = EV d 195 29 L ((1, w64 (a * b)) :: st) h := E_lmul (m195 dX11_spelled_28)
theorem e195_29 {d : Nat} {l0 l1 l3 l4 l5 l6 l7 : AV} {st : List AV} {h : AM} {x : Int} : EV d 195 29 [l0, l1, (0, x), l3, l4, l5, l6, l7] st h = EV d 195 30 [l0, l1, (0, x), l3, l4, l5, l6, l7] ((0, x) :: st) h := G_iload_n (m195 dX11_spelled_29) rfl
theorem e195_30 {d : Nat} {L st : List AV} {h : AM} {a : Int} : EV d 195 30 L ((0, a) :: st) h = EV d 195 31 L ((1, a) :: st) h := G_i2l (m195 dX11_spelled_30)
theorem e195_31 {d : Nat} {L st : List AV} {h : AM} {a b : Int} : EV d 195 31 L ((1, b) :: (1, a) :: st) h = EV d 195 32 L ((1, w64 (a + b)) :: st) h := E_ladd (m195 dX11_spelled_31)
theorem e195_32 {d : Nat} {L st : List AV} {h : AM} : EV d 195 32 L st h = EV d 195 35 L ((1, 96) :: st) h := G_ldc2 (m195 dX11_spelled_32) ow195 tl_11_156 (by decide)
theorem e195_35 {d : Nat} {L st : List AV} {h : AM} {a b : Int} : EV d 195 35 L ((1, b) :: (1, a) :: st) h = EV d 195 36 L ((1, w64 (a - b)) :: st) h := E_lsub (m195 dX11_spelled_35)
theorem e195_36 {d : Nat} {L st : List AV} {h : AM} : EV d 195 36 L st h = EV d 195 41 L st h := G_goto (m195 dX11_spelled_36) rfl
theorem e195_39 {d : Nat} {l0 l1 l2 l3 l4 l5 : AV} {st : List AV} {h : AM} {x : Int} : EV d 195 39 [l0, l1, l2, l3, l4, l5, (1, x), (3, 1)] st h = EV d 195 41 [l0, l1, l2, l3, l4, l5, (1, x), (3, 1)] ((1, x) :: st) h := G_lload (m195 dX11_spelled_39) rfl rfl
theorem e195_41 {d : Nat} {l0 l1 l2 l3 l4 l5 l6 l7 : AV} {st : List AV} {h : AM} {x : Int} : EV d 195 41 [l0, l1, l2, l3, l4, l5, l6, l7] ((1, x) :: st) h = EV d 195 43 [l0, l1, l2, l3, l4, l5, (1, x), (3, 1)] st h := G_lstore (m195 dX11_spelled_41) (Nat.le_of_ble_eq_true rfl) rfl
theorem e195_43 {d : Nat} {l0 l1 l2 l4 l5 l6 l7 : AV} {st : List AV} {h : AM} {x : Int} : EV d 195 43 [l0, l1, l2, (0, x), l4, l5, l6, l7] st h = EV d 195 44 [l0, l1, l2, (0, x), l4, l5, l6, l7] ((0, x) :: st) h := G_iload_n (m195 dX11_spelled_43) rfl
theorem e195_44 {d : Nat} {L st : List AV} {h : AM} {a : Int} : EV d 195 44 L ((0, a) :: st) h = if 0 < a then EV d 195 47 L st h else EV d 195 63 L st h := (E_if (m195 dX11_spelled_44) (t := 63) rfl).trans cc_le
theorem e195_47 {d : Nat} {l0 l1 l2 l3 l4 l5 : AV} {st : List AV} {h : AM} {x : Int} : EV d 195 47 [l0, l1, l2, l3, l4, l5, (1, x), (3, 1)] st h = EV d 195 49 [l0, l1, l2, l3, l4, l5, (1, x), (3, 1)] ((1, x) :: st) h := G_lload (m195 dX11_spelled_47) rfl rfl
theorem e195_49 {d : Nat} {L st : List AV} {h : AM} : EV d 195 49 L st h = EV d 195 52 L ((1, 32) :: st) h := G_ldc2 (m195 dX11_spelled_49) ow195 tl_11_154 (by decide)
theorem e195_52 {d : Nat} {L st : List AV} {h : AM} {a b : Int} : EV d 195 52 L ((1, b) :: (1, a) :: st) h = EV d 195 53 L ((1, w64 (a * b)) :: st) h := E_lmul (m195 dX11_spelled_52)
theorem e195_53 {d : Nat} {l0 l1 l2 l4 l5 l6 l7 : AV} {st : List AV} {h : AM} {x : Int} : EV d 195 53 [l0, l1, l2, (0, x), l4, l5, l6, l7] st h = EV d 195 54 [l0, l1, l2, (0, x), l4, l5, l6, l7] ((0, x) :: st) h := G_iload_n (m195 dX11_spelled_53) rfl
theorem e195_54 {d : Nat} {L st : List AV} {h : AM} {a : Int} : EV d 195 54 L ((0, a) :: st) h = EV d 195 55 L ((1, a) :: st) h := G_i2l (m195 dX11_spelled_54)
theorem e195_55 {d : Nat} {L st : List AV} {h : AM} {a b : Int} : EV d 195 55 L ((1, b) :: (1, a) :: st) h = EV d 195 56 L ((1, w64 (a + b)) :: st) h := E_ladd (m195 dX11_spelled_55)
theorem e195_56 {d : Nat} {L st : List AV} {h : AM} : EV d 195 56 L st h = EV d 195 59 L ((1, 96) :: st) h := G_ldc2 (m195 dX11_spelled_56) ow195 tl_11_156 (by decide)
theorem e195_59 {d : Nat} {L st : List AV} {h : AM} {a b : Int} : EV d 195 59 L ((1, b) :: (1, a) :: st) h = EV d 195 60 L ((1, w64 (a - b)) :: st) h := E_lsub (m195 dX11_spelled_59)
theorem e195_60 {d : Nat} {L st : List AV} {h : AM} : EV d 195 60 L st h = EV d 195 65 L st h := G_goto (m195 dX11_spelled_60) rfl
theorem e195_63 {d : Nat} {l0 l1 l2 l3 l4 l5 : AV} {st : List AV} {h : AM} {x : Int} : EV d 195 63 [l0, l1, l2, l3, l4, l5, (1, x), (3, 1)] st h = EV d 195 65 [l0, l1, l2, l3, l4, l5, (1, x), (3, 1)] ((1, x) :: st) h := G_lload (m195 dX11_spelled_63) rfl rfl
theorem e195_65 {d : Nat} {l0 l1 l2 l3 l4 l5 l6 l7 : AV} {st : List AV} {h : AM} {x : Int} : EV d 195 65 [l0, l1, l2, l3, l4, l5, l6, l7] ((1, x) :: st) h = EV d 195 67 [l0, l1, l2, l3, l4, l5, (1, x), (3, 1)] st h := G_lstore (m195 dX11_spelled_65) (Nat.le_of_ble_eq_true rfl) rfl
theorem e195_67 {d : Nat} {l0 l1 l2 l3 l5 l6 l7 : AV} {st : List AV} {h : AM} {x : Int} : EV d 195 67 [l0, l1, l2, l3, (0, x), l5, l6, l7] st h = EV d 195 69 [l0, l1, l2, l3, (0, x), l5, l6, l7] ((0, x) :: st) h := G_iload (m195 dX11_spelled_67) rfl
theorem e195_69 {d : Nat} {L st : List AV} {h : AM} {a : Int} : EV d 195 69 L ((0, a) :: st) h = if 0 < a then EV d 195 72 L st h else EV d 195 89 L st h := (E_if (m195 dX11_spelled_69) (t := 89) rfl).trans cc_le
theorem e195_72 {d : Nat} {l0 l1 l2 l3 l4 l5 : AV} {st : List AV} {h : AM} {x : Int} : EV d 195 72 [l0, l1, l2, l3, l4, l5, (1, x), (3, 1)] st h = EV d 195 74 [l0, l1, l2, l3, l4, l5, (1, x), (3, 1)] ((1, x) :: st) h := G_lload (m195 dX11_spelled_72) rfl rfl
theorem e195_74 {d : Nat} {L st : List AV} {h : AM} : EV d 195 74 L st h = EV d 195 77 L ((1, 32) :: st) h := G_ldc2 (m195 dX11_spelled_74) ow195 tl_11_154 (by decide)
theorem e195_77 {d : Nat} {L st : List AV} {h : AM} {a b : Int} : EV d 195 77 L ((1, b) :: (1, a) :: st) h = EV d 195 78 L ((1, w64 (a * b)) :: st) h := E_lmul (m195 dX11_spelled_77)
theorem e195_78 {d : Nat} {l0 l1 l2 l3 l5 l6 l7 : AV} {st : List AV} {h : AM} {x : Int} : EV d 195 78 [l0, l1, l2, l3, (0, x), l5, l6, l7] st h = EV d 195 80 [l0, l1, l2, l3, (0, x), l5, l6, l7] ((0, x) :: st) h := G_iload (m195 dX11_spelled_78) rfl
theorem e195_80 {d : Nat} {L st : List AV} {h : AM} {a : Int} : EV d 195 80 L ((0, a) :: st) h = EV d 195 81 L ((1, a) :: st) h := G_i2l (m195 dX11_spelled_80)
theorem e195_81 {d : Nat} {L st : List AV} {h : AM} {a b : Int} : EV d 195 81 L ((1, b) :: (1, a) :: st) h = EV d 195 82 L ((1, w64 (a + b)) :: st) h := E_ladd (m195 dX11_spelled_81)
theorem e195_82 {d : Nat} {L st : List AV} {h : AM} : EV d 195 82 L st h = EV d 195 85 L ((1, 96) :: st) h := G_ldc2 (m195 dX11_spelled_82) ow195 tl_11_156 (by decide)
theorem e195_85 {d : Nat} {L st : List AV} {h : AM} {a b : Int} : EV d 195 85 L ((1, b) :: (1, a) :: st) h = EV d 195 86 L ((1, w64 (a - b)) :: st) h := E_lsub (m195 dX11_spelled_85)
theorem e195_86 {d : Nat} {L st : List AV} {h : AM} : EV d 195 86 L st h = EV d 195 91 L st h := G_goto (m195 dX11_spelled_86) rfl
theorem e195_89 {d : Nat} {l0 l1 l2 l3 l4 l5 : AV} {st : List AV} {h : AM} {x : Int} : EV d 195 89 [l0, l1, l2, l3, l4, l5, (1, x), (3, 1)] st h = EV d 195 91 [l0, l1, l2, l3, l4, l5, (1, x), (3, 1)] ((1, x) :: st) h := G_lload (m195 dX11_spelled_89) rfl rfl
theorem e195_91 {d : Nat} {l0 l1 l2 l3 l4 l5 l6 l7 : AV} {st : List AV} {h : AM} {x : Int} : EV d 195 91 [l0, l1, l2, l3, l4, l5, l6, l7] ((1, x) :: st) h = EV d 195 93 [l0, l1, l2, l3, l4, l5, (1, x), (3, 1)] st h := G_lstore (m195 dX11_spelled_91) (Nat.le_of_ble_eq_true rfl) rfl
theorem e195_93 {d : Nat} {l0 l1 l2 l3 l4 l6 l7 : AV} {st : List AV} {h : AM} {x : Int} : EV d 195 93 [l0, l1, l2, l3, l4, (0, x), l6, l7] st h = EV d 195 95 [l0, l1, l2, l3, l4, (0, x), l6, l7] ((0, x) :: st) h := G_iload (m195 dX11_spelled_93) rfl
theorem e195_95 {d : Nat} {L st : List AV} {h : AM} {a : Int} : EV d 195 95 L ((0, a) :: st) h = if 0 < a then EV d 195 98 L st h else EV d 195 115 L st h := (E_if (m195 dX11_spelled_95) (t := 115) rfl).trans cc_le
theorem e195_98 {d : Nat} {l0 l1 l2 l3 l4 l5 : AV} {st : List AV} {h : AM} {x : Int} : EV d 195 98 [l0, l1, l2, l3, l4, l5, (1, x), (3, 1)] st h = EV d 195 100 [l0, l1, l2, l3, l4, l5, (1, x), (3, 1)] ((1, x) :: st) h := G_lload (m195 dX11_spelled_98) rfl rfl
theorem e195_100 {d : Nat} {L st : List AV} {h : AM} : EV d 195 100 L st h = EV d 195 103 L ((1, 32) :: st) h := G_ldc2 (m195 dX11_spelled_100) ow195 tl_11_154 (by decide)
theorem e195_103 {d : Nat} {L st : List AV} {h : AM} {a b : Int} : EV d 195 103 L ((1, b) :: (1, a) :: st) h = EV d 195 104 L ((1, w64 (a * b)) :: st) h := E_lmul (m195 dX11_spelled_103)
theorem e195_104 {d : Nat} {l0 l1 l2 l3 l4 l6 l7 : AV} {st : List AV} {h : AM} {x : Int} : EV d 195 104 [l0, l1, l2, l3, l4, (0, x), l6, l7] st h = EV d 195 106 [l0, l1, l2, l3, l4, (0, x), l6, l7] ((0, x) :: st) h := G_iload (m195 dX11_spelled_104) rfl
theorem e195_106 {d : Nat} {L st : List AV} {h : AM} {a : Int} : EV d 195 106 L ((0, a) :: st) h = EV d 195 107 L ((1, a) :: st) h := G_i2l (m195 dX11_spelled_106)
theorem e195_107 {d : Nat} {L st : List AV} {h : AM} {a b : Int} : EV d 195 107 L ((1, b) :: (1, a) :: st) h = EV d 195 108 L ((1, w64 (a + b)) :: st) h := E_ladd (m195 dX11_spelled_107)
theorem e195_108 {d : Nat} {L st : List AV} {h : AM} : EV d 195 108 L st h = EV d 195 111 L ((1, 96) :: st) h := G_ldc2 (m195 dX11_spelled_108) ow195 tl_11_156 (by decide)
theorem e195_111 {d : Nat} {L st : List AV} {h : AM} {a b : Int} : EV d 195 111 L ((1, b) :: (1, a) :: st) h = EV d 195 112 L ((1, w64 (a - b)) :: st) h := E_lsub (m195 dX11_spelled_111)
theorem e195_112 {d : Nat} {L st : List AV} {h : AM} : EV d 195 112 L st h = EV d 195 117 L st h := G_goto (m195 dX11_spelled_112) rfl
theorem e195_115 {d : Nat} {l0 l1 l2 l3 l4 l5 : AV} {st : List AV} {h : AM} {x : Int} : EV d 195 115 [l0, l1, l2, l3, l4, l5, (1, x), (3, 1)] st h = EV d 195 117 [l0, l1, l2, l3, l4, l5, (1, x), (3, 1)] ((1, x) :: st) h := G_lload (m195 dX11_spelled_115) rfl rfl
theorem e195_117 {d : Nat} {L : List AV} {h : AM} {v : Int} : EV d 195 117 L [(1, v)] h = some ((1, v), h) := E_lret (m195 dX11_spelled_117) rt195
theorem e196_0 {d : Nat} {l1 l2 : AV} {st : List AV} {h : AM} {x : Int} : EV d 196 0 [(2, x), l1, l2] st h = EV d 196 1 [(2, x), l1, l2] ((2, x) :: st) h := G_aload_n (m196 dX11_isWord_0) rfl
theorem e196_1 {d : Nat} {L st : List AV} {h : AM} {r : Int} (hk : isK h r 11) : EV d 196 1 L ((2, r) :: st) h = EV d 196 4 L ((0, mrd h r 14) :: st) h := G_get (m196 dX11_isWord_1) ow196 tf_11_145 rfl rfl hk
theorem e196_4 {d : Nat} {L st : List AV} {h : AM} : EV d 196 4 L st h = EV d 196 5 L ((0, 1) :: st) h := G_iconst (m196 dX11_isWord_4) (by decide)
theorem e196_5 {d : Nat} {L st : List AV} {h : AM} {a b : Int} : EV d 196 5 L ((0, b) :: (0, a) :: st) h = if a = b then EV d 196 8 L st h else EV d 196 21 L st h := (E_ic (m196 dX11_isWord_5) (t := 21) rfl).trans cc_ne
theorem e196_8 {d : Nat} {l1 l2 : AV} {st : List AV} {h : AM} {x : Int} : EV d 196 8 [(2, x), l1, l2] st h = EV d 196 9 [(2, x), l1, l2] ((2, x) :: st) h := G_aload_n (m196 dX11_isWord_8) rfl
theorem e196_9 {d : Nat} {L st : List AV} {h : AM} {r : Int} (hk : isK h r 11) : EV d 196 9 L ((2, r) :: st) h = EV d 196 12 L ((1, mrd h r 19) :: st) h := G_get (m196 dX11_isWord_9) ow196 tf_11_151 rfl rfl hk
theorem e196_12 {d : Nat} {l0 : AV} {st : List AV} {h : AM} {x : Int} : EV d 196 12 [l0, (1, x), (3, 1)] st h = EV d 196 13 [l0, (1, x), (3, 1)] ((1, x) :: st) h := G_lload_n (m196 dX11_isWord_12) rfl rfl
theorem e196_13 {d : Nat} {L st : List AV} {h : AM} {a b : Int} : EV d 196 13 L ((1, b) :: (1, a) :: st) h = EV d 196 14 L ((0, cmp3 a b) :: st) h := G_lcmp (m196 dX11_isWord_13)
theorem e196_14 {d : Nat} {L st : List AV} {h : AM} {a : Int} : EV d 196 14 L ((0, a) :: st) h = if a = 0 then EV d 196 17 L st h else EV d 196 21 L st h := (E_if (m196 dX11_isWord_14) (t := 21) rfl).trans cc_ne
theorem e196_17 {d : Nat} {L st : List AV} {h : AM} : EV d 196 17 L st h = EV d 196 18 L ((0, 1) :: st) h := G_iconst (m196 dX11_isWord_17) (by decide)
theorem e196_18 {d : Nat} {L st : List AV} {h : AM} : EV d 196 18 L st h = EV d 196 22 L st h := G_goto (m196 dX11_isWord_18) rfl
theorem e196_21 {d : Nat} {L st : List AV} {h : AM} : EV d 196 21 L st h = EV d 196 22 L ((0, 0) :: st) h := G_iconst (m196 dX11_isWord_21) (by decide)
theorem e196_22 {d : Nat} {L : List AV} {h : AM} {v : Int} (hv : v = 0 ∨ v = 1) : EV d 196 22 L [(0, v)] h = some ((0, v), h) := E_iret (m196 dX11_isWord_22) (by rw [rt196]; rcases hv with rfl | rfl <;> rfl)
theorem e197_0 {d : Nat} {st : List AV} {h : AM} {x : Int} : EV d 197 0 [(2, x)] st h = EV d 197 1 [(2, x)] ((2, x) :: st) h := G_aload_n (m197 dX11_isMaster_0) rfl
theorem e197_1 {d : Nat} {L st : List AV} {h : AM} : EV d 197 1 L st h = EV d 197 3 L ((0, 109) :: st) h := G_bipush (m197 dX11_isMaster_1) (by decide)
theorem e197_3 {d : Nat} {L st : List AV} {h : AM} : EV d 197 3 L st h = EV d 197 5 L ((0, 97) :: st) h := G_bipush (m197 dX11_isMaster_3) (by decide)
theorem e197_5 {d : Nat} {L st : List AV} {h : AM} : EV d 197 5 L st h = EV d 197 7 L ((0, 115) :: st) h := G_bipush (m197 dX11_isMaster_5) (by decide)
theorem e197_7 {d : Nat} {L st : List AV} {h : AM} : EV d 197 7 L st h = EV d 197 9 L ((0, 116) :: st) h := G_bipush (m197 dX11_isMaster_7) (by decide)
theorem e197_9 {d : Nat} {L st : List AV} {h : AM} : EV d 197 9 L st h = EV d 197 11 L ((0, 101) :: st) h := G_bipush (m197 dX11_isMaster_9) (by decide)
theorem e197_11 {d : Nat} {L st : List AV} {h : AM} : EV d 197 11 L st h = EV d 197 13 L ((0, 114) :: st) h := G_bipush (m197 dX11_isMaster_11) (by decide)
theorem e197_13 {d : Nat} {L st : List AV} {h : AM} {p0 p1 p2 p3 p4 p5 : Int} (hs : st.length ≤ 4) : EV (d + 1) 197 13 L ((0, p5) :: (0, p4) :: (0, p3) :: (0, p2) :: (0, p1) :: (0, p0) :: st) h = (EV d 195 0 [(0, p0), (0, p1), (0, p2), (0, p3), (0, p4), (0, p5), (3, 0), (3, 0)] [] h).bind (fun q => EV (d + 1) 197 16 L (psh q.1 st) q.2) := G_cs [(0, p0), (0, p1), (0, p2), (0, p3), (0, p4), (0, p5)] (m197 dX11_isMaster_13) ow197 tr_11_170 (by decide) td195 np195 ml195 rfl rfl (Nat.le_of_ble_eq_true rfl) rfl hs
theorem e197_16 {d : Nat} {L st : List AV} {h : AM} {r p0 : Int} (hs : st.length ≤ 4) (hk : isK h r 11) : EV (d + 1) 197 16 L ((1, p0) :: (2, r) :: st) h = (EV d 196 0 [(2, r), (1, p0), (3, 1)] [] h).bind (fun q => EV (d + 1) 197 19 L (psh q.1 st) q.2) := G_cv [(1, p0)] (m197 dX11_isMaster_16) ow197 tr_11_174 (by decide) td196 np196 ml196 ow196 rfl rfl (Nat.le_of_ble_eq_true rfl) rfl hs hk
theorem e197_19 {d : Nat} {L : List AV} {h : AM} {v : Int} (hv : v = 0 ∨ v = 1) : EV d 197 19 L [(0, v)] h = some ((0, v), h) := E_iret (m197 dX11_isMaster_19) (by rw [rt197]; rcases hv with rfl | rfl <;> rfl)
theorem e198_0 {d : Nat} {st : List AV} {h : AM} {x : Int} : EV d 198 0 [(2, x)] st h = EV d 198 1 [(2, x)] ((2, x) :: st) h := G_aload_n (m198 dX11_isLesson_0) rfl
theorem e198_1 {d : Nat} {L st : List AV} {h : AM} : EV d 198 1 L st h = EV d 198 3 L ((0, 108) :: st) h := G_bipush (m198 dX11_isLesson_1) (by decide)
theorem e198_3 {d : Nat} {L st : List AV} {h : AM} : EV d 198 3 L st h = EV d 198 5 L ((0, 101) :: st) h := G_bipush (m198 dX11_isLesson_3) (by decide)
theorem e198_5 {d : Nat} {L st : List AV} {h : AM} : EV d 198 5 L st h = EV d 198 7 L ((0, 115) :: st) h := G_bipush (m198 dX11_isLesson_5) (by decide)
theorem e198_7 {d : Nat} {L st : List AV} {h : AM} : EV d 198 7 L st h = EV d 198 9 L ((0, 115) :: st) h := G_bipush (m198 dX11_isLesson_7) (by decide)
theorem e198_9 {d : Nat} {L st : List AV} {h : AM} : EV d 198 9 L st h = EV d 198 11 L ((0, 111) :: st) h := G_bipush (m198 dX11_isLesson_9) (by decide)
theorem e198_11 {d : Nat} {L st : List AV} {h : AM} : EV d 198 11 L st h = EV d 198 13 L ((0, 110) :: st) h := G_bipush (m198 dX11_isLesson_11) (by decide)
theorem e198_13 {d : Nat} {L st : List AV} {h : AM} {p0 p1 p2 p3 p4 p5 : Int} (hs : st.length ≤ 4) : EV (d + 1) 198 13 L ((0, p5) :: (0, p4) :: (0, p3) :: (0, p2) :: (0, p1) :: (0, p0) :: st) h = (EV d 195 0 [(0, p0), (0, p1), (0, p2), (0, p3), (0, p4), (0, p5), (3, 0), (3, 0)] [] h).bind (fun q => EV (d + 1) 198 16 L (psh q.1 st) q.2) := G_cs [(0, p0), (0, p1), (0, p2), (0, p3), (0, p4), (0, p5)] (m198 dX11_isLesson_13) ow198 tr_11_170 (by decide) td195 np195 ml195 rfl rfl (Nat.le_of_ble_eq_true rfl) rfl hs
theorem e198_16 {d : Nat} {L st : List AV} {h : AM} {r p0 : Int} (hs : st.length ≤ 4) (hk : isK h r 11) : EV (d + 1) 198 16 L ((1, p0) :: (2, r) :: st) h = (EV d 196 0 [(2, r), (1, p0), (3, 1)] [] h).bind (fun q => EV (d + 1) 198 19 L (psh q.1 st) q.2) := G_cv [(1, p0)] (m198 dX11_isLesson_16) ow198 tr_11_174 (by decide) td196 np196 ml196 ow196 rfl rfl (Nat.le_of_ble_eq_true rfl) rfl hs hk
theorem e198_19 {d : Nat} {L : List AV} {h : AM} {v : Int} (hv : v = 0 ∨ v = 1) : EV d 198 19 L [(0, v)] h = some ((0, v), h) := E_iret (m198 dX11_isLesson_19) (by rw [rt198]; rcases hv with rfl | rfl <;> rfl)
theorem e199_0 {d : Nat} {st : List AV} {h : AM} {x : Int} : EV d 199 0 [(2, x)] st h = EV d 199 1 [(2, x)] ((2, x) :: st) h := G_aload_n (m199 dX11_isGives_0) rfl
theorem e199_1 {d : Nat} {L st : List AV} {h : AM} : EV d 199 1 L st h = EV d 199 3 L ((0, 103) :: st) h := G_bipush (m199 dX11_isGives_1) (by decide)
theorem e199_3 {d : Nat} {L st : List AV} {h : AM} : EV d 199 3 L st h = EV d 199 5 L ((0, 105) :: st) h := G_bipush (m199 dX11_isGives_3) (by decide)
theorem e199_5 {d : Nat} {L st : List AV} {h : AM} : EV d 199 5 L st h = EV d 199 7 L ((0, 118) :: st) h := G_bipush (m199 dX11_isGives_5) (by decide)
theorem e199_7 {d : Nat} {L st : List AV} {h : AM} : EV d 199 7 L st h = EV d 199 9 L ((0, 101) :: st) h := G_bipush (m199 dX11_isGives_7) (by decide)
theorem e199_9 {d : Nat} {L st : List AV} {h : AM} : EV d 199 9 L st h = EV d 199 11 L ((0, 115) :: st) h := G_bipush (m199 dX11_isGives_9) (by decide)
theorem e199_11 {d : Nat} {L st : List AV} {h : AM} : EV d 199 11 L st h = EV d 199 12 L ((0, 0) :: st) h := G_iconst (m199 dX11_isGives_11) (by decide)
theorem e199_12 {d : Nat} {L st : List AV} {h : AM} {p0 p1 p2 p3 p4 p5 : Int} (hs : st.length ≤ 4) : EV (d + 1) 199 12 L ((0, p5) :: (0, p4) :: (0, p3) :: (0, p2) :: (0, p1) :: (0, p0) :: st) h = (EV d 195 0 [(0, p0), (0, p1), (0, p2), (0, p3), (0, p4), (0, p5), (3, 0), (3, 0)] [] h).bind (fun q => EV (d + 1) 199 15 L (psh q.1 st) q.2) := G_cs [(0, p0), (0, p1), (0, p2), (0, p3), (0, p4), (0, p5)] (m199 dX11_isGives_12) ow199 tr_11_170 (by decide) td195 np195 ml195 rfl rfl (Nat.le_of_ble_eq_true rfl) rfl hs
theorem e199_15 {d : Nat} {L st : List AV} {h : AM} {r p0 : Int} (hs : st.length ≤ 4) (hk : isK h r 11) : EV (d + 1) 199 15 L ((1, p0) :: (2, r) :: st) h = (EV d 196 0 [(2, r), (1, p0), (3, 1)] [] h).bind (fun q => EV (d + 1) 199 18 L (psh q.1 st) q.2) := G_cv [(1, p0)] (m199 dX11_isGives_15) ow199 tr_11_174 (by decide) td196 np196 ml196 ow196 rfl rfl (Nat.le_of_ble_eq_true rfl) rfl hs hk
theorem e199_18 {d : Nat} {L : List AV} {h : AM} {v : Int} (hv : v = 0 ∨ v = 1) : EV d 199 18 L [(0, v)] h = some ((0, v), h) := E_iret (m199 dX11_isGives_18) (by rw [rt199]; rcases hv with rfl | rfl <;> rfl)
theorem e200_0 {d : Nat} {st : List AV} {h : AM} {x : Int} : EV d 200 0 [(2, x)] st h = EV d 200 1 [(2, x)] ((2, x) :: st) h := G_aload_n (m200 dX11_isTakes_0) rfl
theorem e200_1 {d : Nat} {L st : List AV} {h : AM} : EV d 200 1 L st h = EV d 200 3 L ((0, 116) :: st) h := G_bipush (m200 dX11_isTakes_1) (by decide)
theorem e200_3 {d : Nat} {L st : List AV} {h : AM} : EV d 200 3 L st h = EV d 200 5 L ((0, 97) :: st) h := G_bipush (m200 dX11_isTakes_3) (by decide)
theorem e200_5 {d : Nat} {L st : List AV} {h : AM} : EV d 200 5 L st h = EV d 200 7 L ((0, 107) :: st) h := G_bipush (m200 dX11_isTakes_5) (by decide)
theorem e200_7 {d : Nat} {L st : List AV} {h : AM} : EV d 200 7 L st h = EV d 200 9 L ((0, 101) :: st) h := G_bipush (m200 dX11_isTakes_7) (by decide)
theorem e200_9 {d : Nat} {L st : List AV} {h : AM} : EV d 200 9 L st h = EV d 200 11 L ((0, 115) :: st) h := G_bipush (m200 dX11_isTakes_9) (by decide)
theorem e200_11 {d : Nat} {L st : List AV} {h : AM} : EV d 200 11 L st h = EV d 200 12 L ((0, 0) :: st) h := G_iconst (m200 dX11_isTakes_11) (by decide)
theorem e200_12 {d : Nat} {L st : List AV} {h : AM} {p0 p1 p2 p3 p4 p5 : Int} (hs : st.length ≤ 4) : EV (d + 1) 200 12 L ((0, p5) :: (0, p4) :: (0, p3) :: (0, p2) :: (0, p1) :: (0, p0) :: st) h = (EV d 195 0 [(0, p0), (0, p1), (0, p2), (0, p3), (0, p4), (0, p5), (3, 0), (3, 0)] [] h).bind (fun q => EV (d + 1) 200 15 L (psh q.1 st) q.2) := G_cs [(0, p0), (0, p1), (0, p2), (0, p3), (0, p4), (0, p5)] (m200 dX11_isTakes_12) ow200 tr_11_170 (by decide) td195 np195 ml195 rfl rfl (Nat.le_of_ble_eq_true rfl) rfl hs
theorem e200_15 {d : Nat} {L st : List AV} {h : AM} {r p0 : Int} (hs : st.length ≤ 4) (hk : isK h r 11) : EV (d + 1) 200 15 L ((1, p0) :: (2, r) :: st) h = (EV d 196 0 [(2, r), (1, p0), (3, 1)] [] h).bind (fun q => EV (d + 1) 200 18 L (psh q.1 st) q.2) := G_cv [(1, p0)] (m200 dX11_isTakes_15) ow200 tr_11_174 (by decide) td196 np196 ml196 ow196 rfl rfl (Nat.le_of_ble_eq_true rfl) rfl hs hk
theorem e200_18 {d : Nat} {L : List AV} {h : AM} {v : Int} (hv : v = 0 ∨ v = 1) : EV d 200 18 L [(0, v)] h = some ((0, v), h) := E_iret (m200 dX11_isTakes_18) (by rw [rt200]; rcases hv with rfl | rfl <;> rfl)
theorem e201_0 {d : Nat} {st : List AV} {h : AM} {x : Int} : EV d 201 0 [(2, x)] st h = EV d 201 1 [(2, x)] ((2, x) :: st) h := G_aload_n (m201 dX11_isCosts_0) rfl
theorem e201_1 {d : Nat} {L st : List AV} {h : AM} : EV d 201 1 L st h = EV d 201 3 L ((0, 99) :: st) h := G_bipush (m201 dX11_isCosts_1) (by decide)
theorem e201_3 {d : Nat} {L st : List AV} {h : AM} : EV d 201 3 L st h = EV d 201 5 L ((0, 111) :: st) h := G_bipush (m201 dX11_isCosts_3) (by decide)
theorem e201_5 {d : Nat} {L st : List AV} {h : AM} : EV d 201 5 L st h = EV d 201 7 L ((0, 115) :: st) h := G_bipush (m201 dX11_isCosts_5) (by decide)
theorem e201_7 {d : Nat} {L st : List AV} {h : AM} : EV d 201 7 L st h = EV d 201 9 L ((0, 116) :: st) h := G_bipush (m201 dX11_isCosts_7) (by decide)
theorem e201_9 {d : Nat} {L st : List AV} {h : AM} : EV d 201 9 L st h = EV d 201 11 L ((0, 115) :: st) h := G_bipush (m201 dX11_isCosts_9) (by decide)
theorem e201_11 {d : Nat} {L st : List AV} {h : AM} : EV d 201 11 L st h = EV d 201 12 L ((0, 0) :: st) h := G_iconst (m201 dX11_isCosts_11) (by decide)
theorem e201_12 {d : Nat} {L st : List AV} {h : AM} {p0 p1 p2 p3 p4 p5 : Int} (hs : st.length ≤ 4) : EV (d + 1) 201 12 L ((0, p5) :: (0, p4) :: (0, p3) :: (0, p2) :: (0, p1) :: (0, p0) :: st) h = (EV d 195 0 [(0, p0), (0, p1), (0, p2), (0, p3), (0, p4), (0, p5), (3, 0), (3, 0)] [] h).bind (fun q => EV (d + 1) 201 15 L (psh q.1 st) q.2) := G_cs [(0, p0), (0, p1), (0, p2), (0, p3), (0, p4), (0, p5)] (m201 dX11_isCosts_12) ow201 tr_11_170 (by decide) td195 np195 ml195 rfl rfl (Nat.le_of_ble_eq_true rfl) rfl hs
theorem e201_15 {d : Nat} {L st : List AV} {h : AM} {r p0 : Int} (hs : st.length ≤ 4) (hk : isK h r 11) : EV (d + 1) 201 15 L ((1, p0) :: (2, r) :: st) h = (EV d 196 0 [(2, r), (1, p0), (3, 1)] [] h).bind (fun q => EV (d + 1) 201 18 L (psh q.1 st) q.2) := G_cv [(1, p0)] (m201 dX11_isCosts_15) ow201 tr_11_174 (by decide) td196 np196 ml196 ow196 rfl rfl (Nat.le_of_ble_eq_true rfl) rfl hs hk
theorem e201_18 {d : Nat} {L : List AV} {h : AM} {v : Int} (hv : v = 0 ∨ v = 1) : EV d 201 18 L [(0, v)] h = some ((0, v), h) := E_iret (m201 dX11_isCosts_18) (by rw [rt201]; rcases hv with rfl | rfl <;> rfl)
theorem e202_0 {d : Nat} {st : List AV} {h : AM} {x : Int} : EV d 202 0 [(2, x)] st h = EV d 202 1 [(2, x)] ((2, x) :: st) h := G_aload_n (m202 dX11_isBy_0) rfl
theorem e202_1 {d : Nat} {L st : List AV} {h : AM} : EV d 202 1 L st h = EV d 202 3 L ((0, 98) :: st) h := G_bipush (m202 dX11_isBy_1) (by decide)
theorem e202_3 {d : Nat} {L st : List AV} {h : AM} : EV d 202 3 L st h = EV d 202 5 L ((0, 121) :: st) h := G_bipush (m202 dX11_isBy_3) (by decide)
theorem e202_5 {d : Nat} {L st : List AV} {h : AM} : EV d 202 5 L st h = EV d 202 6 L ((0, 0) :: st) h := G_iconst (m202 dX11_isBy_5) (by decide)
theorem e202_6 {d : Nat} {L st : List AV} {h : AM} : EV d 202 6 L st h = EV d 202 7 L ((0, 0) :: st) h := G_iconst (m202 dX11_isBy_6) (by decide)
theorem e202_7 {d : Nat} {L st : List AV} {h : AM} : EV d 202 7 L st h = EV d 202 8 L ((0, 0) :: st) h := G_iconst (m202 dX11_isBy_7) (by decide)
theorem e202_8 {d : Nat} {L st : List AV} {h : AM} : EV d 202 8 L st h = EV d 202 9 L ((0, 0) :: st) h := G_iconst (m202 dX11_isBy_8) (by decide)
theorem e202_9 {d : Nat} {L st : List AV} {h : AM} {p0 p1 p2 p3 p4 p5 : Int} (hs : st.length ≤ 4) : EV (d + 1) 202 9 L ((0, p5) :: (0, p4) :: (0, p3) :: (0, p2) :: (0, p1) :: (0, p0) :: st) h = (EV d 195 0 [(0, p0), (0, p1), (0, p2), (0, p3), (0, p4), (0, p5), (3, 0), (3, 0)] [] h).bind (fun q => EV (d + 1) 202 12 L (psh q.1 st) q.2) := G_cs [(0, p0), (0, p1), (0, p2), (0, p3), (0, p4), (0, p5)] (m202 dX11_isBy_9) ow202 tr_11_170 (by decide) td195 np195 ml195 rfl rfl (Nat.le_of_ble_eq_true rfl) rfl hs
theorem e202_12 {d : Nat} {L st : List AV} {h : AM} {r p0 : Int} (hs : st.length ≤ 4) (hk : isK h r 11) : EV (d + 1) 202 12 L ((1, p0) :: (2, r) :: st) h = (EV d 196 0 [(2, r), (1, p0), (3, 1)] [] h).bind (fun q => EV (d + 1) 202 15 L (psh q.1 st) q.2) := G_cv [(1, p0)] (m202 dX11_isBy_12) ow202 tr_11_174 (by decide) td196 np196 ml196 ow196 rfl rfl (Nat.le_of_ble_eq_true rfl) rfl hs hk
theorem e202_15 {d : Nat} {L : List AV} {h : AM} {v : Int} (hv : v = 0 ∨ v = 1) : EV d 202 15 L [(0, v)] h = some ((0, v), h) := E_iret (m202 dX11_isBy_15) (by rw [rt202]; rcases hv with rfl | rfl <;> rfl)
theorem e203_0 {d : Nat} {st : List AV} {h : AM} {x : Int} : EV d 203 0 [(2, x)] st h = EV d 203 1 [(2, x)] ((2, x) :: st) h := G_aload_n (m203 dX11_isNeeds_0) rfl
theorem e203_1 {d : Nat} {L st : List AV} {h : AM} : EV d 203 1 L st h = EV d 203 3 L ((0, 110) :: st) h := G_bipush (m203 dX11_isNeeds_1) (by decide)
theorem e203_3 {d : Nat} {L st : List AV} {h : AM} : EV d 203 3 L st h = EV d 203 5 L ((0, 101) :: st) h := G_bipush (m203 dX11_isNeeds_3) (by decide)
theorem e203_5 {d : Nat} {L st : List AV} {h : AM} : EV d 203 5 L st h = EV d 203 7 L ((0, 101) :: st) h := G_bipush (m203 dX11_isNeeds_5) (by decide)
theorem e203_7 {d : Nat} {L st : List AV} {h : AM} : EV d 203 7 L st h = EV d 203 9 L ((0, 100) :: st) h := G_bipush (m203 dX11_isNeeds_7) (by decide)
theorem e203_9 {d : Nat} {L st : List AV} {h : AM} : EV d 203 9 L st h = EV d 203 11 L ((0, 115) :: st) h := G_bipush (m203 dX11_isNeeds_9) (by decide)
theorem e203_11 {d : Nat} {L st : List AV} {h : AM} : EV d 203 11 L st h = EV d 203 12 L ((0, 0) :: st) h := G_iconst (m203 dX11_isNeeds_11) (by decide)
theorem e203_12 {d : Nat} {L st : List AV} {h : AM} {p0 p1 p2 p3 p4 p5 : Int} (hs : st.length ≤ 4) : EV (d + 1) 203 12 L ((0, p5) :: (0, p4) :: (0, p3) :: (0, p2) :: (0, p1) :: (0, p0) :: st) h = (EV d 195 0 [(0, p0), (0, p1), (0, p2), (0, p3), (0, p4), (0, p5), (3, 0), (3, 0)] [] h).bind (fun q => EV (d + 1) 203 15 L (psh q.1 st) q.2) := G_cs [(0, p0), (0, p1), (0, p2), (0, p3), (0, p4), (0, p5)] (m203 dX11_isNeeds_12) ow203 tr_11_170 (by decide) td195 np195 ml195 rfl rfl (Nat.le_of_ble_eq_true rfl) rfl hs
theorem e203_15 {d : Nat} {L st : List AV} {h : AM} {r p0 : Int} (hs : st.length ≤ 4) (hk : isK h r 11) : EV (d + 1) 203 15 L ((1, p0) :: (2, r) :: st) h = (EV d 196 0 [(2, r), (1, p0), (3, 1)] [] h).bind (fun q => EV (d + 1) 203 18 L (psh q.1 st) q.2) := G_cv [(1, p0)] (m203 dX11_isNeeds_15) ow203 tr_11_174 (by decide) td196 np196 ml196 ow196 rfl rfl (Nat.le_of_ble_eq_true rfl) rfl hs hk
theorem e203_18 {d : Nat} {L : List AV} {h : AM} {v : Int} (hv : v = 0 ∨ v = 1) : EV d 203 18 L [(0, v)] h = some ((0, v), h) := E_iret (m203 dX11_isNeeds_18) (by rw [rt203]; rcases hv with rfl | rfl <;> rfl)
theorem e204_0 {d : Nat} {st : List AV} {h : AM} {x : Int} : EV d 204 0 [(2, x)] st h = EV d 204 1 [(2, x)] ((2, x) :: st) h := G_aload_n (m204 dX11_isChild_0) rfl
theorem e204_1 {d : Nat} {L st : List AV} {h : AM} : EV d 204 1 L st h = EV d 204 3 L ((0, 99) :: st) h := G_bipush (m204 dX11_isChild_1) (by decide)
theorem e204_3 {d : Nat} {L st : List AV} {h : AM} : EV d 204 3 L st h = EV d 204 5 L ((0, 104) :: st) h := G_bipush (m204 dX11_isChild_3) (by decide)
theorem e204_5 {d : Nat} {L st : List AV} {h : AM} : EV d 204 5 L st h = EV d 204 7 L ((0, 105) :: st) h := G_bipush (m204 dX11_isChild_5) (by decide)
theorem e204_7 {d : Nat} {L st : List AV} {h : AM} : EV d 204 7 L st h = EV d 204 9 L ((0, 108) :: st) h := G_bipush (m204 dX11_isChild_7) (by decide)
theorem e204_9 {d : Nat} {L st : List AV} {h : AM} : EV d 204 9 L st h = EV d 204 11 L ((0, 100) :: st) h := G_bipush (m204 dX11_isChild_9) (by decide)
theorem e204_11 {d : Nat} {L st : List AV} {h : AM} : EV d 204 11 L st h = EV d 204 12 L ((0, 0) :: st) h := G_iconst (m204 dX11_isChild_11) (by decide)
theorem e204_12 {d : Nat} {L st : List AV} {h : AM} {p0 p1 p2 p3 p4 p5 : Int} (hs : st.length ≤ 4) : EV (d + 1) 204 12 L ((0, p5) :: (0, p4) :: (0, p3) :: (0, p2) :: (0, p1) :: (0, p0) :: st) h = (EV d 195 0 [(0, p0), (0, p1), (0, p2), (0, p3), (0, p4), (0, p5), (3, 0), (3, 0)] [] h).bind (fun q => EV (d + 1) 204 15 L (psh q.1 st) q.2) := G_cs [(0, p0), (0, p1), (0, p2), (0, p3), (0, p4), (0, p5)] (m204 dX11_isChild_12) ow204 tr_11_170 (by decide) td195 np195 ml195 rfl rfl (Nat.le_of_ble_eq_true rfl) rfl hs
theorem e204_15 {d : Nat} {L st : List AV} {h : AM} {r p0 : Int} (hs : st.length ≤ 4) (hk : isK h r 11) : EV (d + 1) 204 15 L ((1, p0) :: (2, r) :: st) h = (EV d 196 0 [(2, r), (1, p0), (3, 1)] [] h).bind (fun q => EV (d + 1) 204 18 L (psh q.1 st) q.2) := G_cv [(1, p0)] (m204 dX11_isChild_15) ow204 tr_11_174 (by decide) td196 np196 ml196 ow196 rfl rfl (Nat.le_of_ble_eq_true rfl) rfl hs hk
theorem e204_18 {d : Nat} {L : List AV} {h : AM} {v : Int} (hv : v = 0 ∨ v = 1) : EV d 204 18 L [(0, v)] h = some ((0, v), h) := E_iret (m204 dX11_isChild_18) (by rw [rt204]; rcases hv with rfl | rfl <;> rfl)
theorem e205_0 {d : Nat} {st : List AV} {h : AM} {x : Int} : EV d 205 0 [(2, x)] st h = EV d 205 1 [(2, x)] ((2, x) :: st) h := G_aload_n (m205 dX11_isGift_0) rfl
theorem e205_1 {d : Nat} {L st : List AV} {h : AM} : EV d 205 1 L st h = EV d 205 3 L ((0, 103) :: st) h := G_bipush (m205 dX11_isGift_1) (by decide)
theorem e205_3 {d : Nat} {L st : List AV} {h : AM} : EV d 205 3 L st h = EV d 205 5 L ((0, 105) :: st) h := G_bipush (m205 dX11_isGift_3) (by decide)
theorem e205_5 {d : Nat} {L st : List AV} {h : AM} : EV d 205 5 L st h = EV d 205 7 L ((0, 102) :: st) h := G_bipush (m205 dX11_isGift_5) (by decide)
theorem e205_7 {d : Nat} {L st : List AV} {h : AM} : EV d 205 7 L st h = EV d 205 9 L ((0, 116) :: st) h := G_bipush (m205 dX11_isGift_7) (by decide)
theorem e205_9 {d : Nat} {L st : List AV} {h : AM} : EV d 205 9 L st h = EV d 205 10 L ((0, 0) :: st) h := G_iconst (m205 dX11_isGift_9) (by decide)
theorem e205_10 {d : Nat} {L st : List AV} {h : AM} : EV d 205 10 L st h = EV d 205 11 L ((0, 0) :: st) h := G_iconst (m205 dX11_isGift_10) (by decide)
theorem e205_11 {d : Nat} {L st : List AV} {h : AM} {p0 p1 p2 p3 p4 p5 : Int} (hs : st.length ≤ 4) : EV (d + 1) 205 11 L ((0, p5) :: (0, p4) :: (0, p3) :: (0, p2) :: (0, p1) :: (0, p0) :: st) h = (EV d 195 0 [(0, p0), (0, p1), (0, p2), (0, p3), (0, p4), (0, p5), (3, 0), (3, 0)] [] h).bind (fun q => EV (d + 1) 205 14 L (psh q.1 st) q.2) := G_cs [(0, p0), (0, p1), (0, p2), (0, p3), (0, p4), (0, p5)] (m205 dX11_isGift_11) ow205 tr_11_170 (by decide) td195 np195 ml195 rfl rfl (Nat.le_of_ble_eq_true rfl) rfl hs
theorem e205_14 {d : Nat} {L st : List AV} {h : AM} {r p0 : Int} (hs : st.length ≤ 4) (hk : isK h r 11) : EV (d + 1) 205 14 L ((1, p0) :: (2, r) :: st) h = (EV d 196 0 [(2, r), (1, p0), (3, 1)] [] h).bind (fun q => EV (d + 1) 205 17 L (psh q.1 st) q.2) := G_cv [(1, p0)] (m205 dX11_isGift_14) ow205 tr_11_174 (by decide) td196 np196 ml196 ow196 rfl rfl (Nat.le_of_ble_eq_true rfl) rfl hs hk
theorem e205_17 {d : Nat} {L : List AV} {h : AM} {v : Int} (hv : v = 0 ∨ v = 1) : EV d 205 17 L [(0, v)] h = some ((0, v), h) := E_iret (m205 dX11_isGift_17) (by rw [rt205]; rcases hv with rfl | rfl <;> rfl)
theorem e206_0 {d : Nat} {st : List AV} {h : AM} {x : Int} : EV d 206 0 [(2, x)] st h = EV d 206 1 [(2, x)] ((2, x) :: st) h := G_aload_n (m206 dX11_isPurse_0) rfl
theorem e206_1 {d : Nat} {L st : List AV} {h : AM} : EV d 206 1 L st h = EV d 206 3 L ((0, 112) :: st) h := G_bipush (m206 dX11_isPurse_1) (by decide)
theorem e206_3 {d : Nat} {L st : List AV} {h : AM} : EV d 206 3 L st h = EV d 206 5 L ((0, 117) :: st) h := G_bipush (m206 dX11_isPurse_3) (by decide)
theorem e206_5 {d : Nat} {L st : List AV} {h : AM} : EV d 206 5 L st h = EV d 206 7 L ((0, 114) :: st) h := G_bipush (m206 dX11_isPurse_5) (by decide)
theorem e206_7 {d : Nat} {L st : List AV} {h : AM} : EV d 206 7 L st h = EV d 206 9 L ((0, 115) :: st) h := G_bipush (m206 dX11_isPurse_7) (by decide)
theorem e206_9 {d : Nat} {L st : List AV} {h : AM} : EV d 206 9 L st h = EV d 206 11 L ((0, 101) :: st) h := G_bipush (m206 dX11_isPurse_9) (by decide)
theorem e206_11 {d : Nat} {L st : List AV} {h : AM} : EV d 206 11 L st h = EV d 206 12 L ((0, 0) :: st) h := G_iconst (m206 dX11_isPurse_11) (by decide)
theorem e206_12 {d : Nat} {L st : List AV} {h : AM} {p0 p1 p2 p3 p4 p5 : Int} (hs : st.length ≤ 4) : EV (d + 1) 206 12 L ((0, p5) :: (0, p4) :: (0, p3) :: (0, p2) :: (0, p1) :: (0, p0) :: st) h = (EV d 195 0 [(0, p0), (0, p1), (0, p2), (0, p3), (0, p4), (0, p5), (3, 0), (3, 0)] [] h).bind (fun q => EV (d + 1) 206 15 L (psh q.1 st) q.2) := G_cs [(0, p0), (0, p1), (0, p2), (0, p3), (0, p4), (0, p5)] (m206 dX11_isPurse_12) ow206 tr_11_170 (by decide) td195 np195 ml195 rfl rfl (Nat.le_of_ble_eq_true rfl) rfl hs
theorem e206_15 {d : Nat} {L st : List AV} {h : AM} {r p0 : Int} (hs : st.length ≤ 4) (hk : isK h r 11) : EV (d + 1) 206 15 L ((1, p0) :: (2, r) :: st) h = (EV d 196 0 [(2, r), (1, p0), (3, 1)] [] h).bind (fun q => EV (d + 1) 206 18 L (psh q.1 st) q.2) := G_cv [(1, p0)] (m206 dX11_isPurse_15) ow206 tr_11_174 (by decide) td196 np196 ml196 ow196 rfl rfl (Nat.le_of_ble_eq_true rfl) rfl hs hk
theorem e206_18 {d : Nat} {L : List AV} {h : AM} {v : Int} (hv : v = 0 ∨ v = 1) : EV d 206 18 L [(0, v)] h = some ((0, v), h) := E_iret (m206 dX11_isPurse_18) (by rw [rt206]; rcases hv with rfl | rfl <;> rfl)
theorem e207_0 {d : Nat} {st : List AV} {h : AM} {x : Int} : EV d 207 0 [(2, x)] st h = EV d 207 1 [(2, x)] ((2, x) :: st) h := G_aload_n (m207 dX11_isSounds_0) rfl
theorem e207_1 {d : Nat} {L st : List AV} {h : AM} : EV d 207 1 L st h = EV d 207 3 L ((0, 115) :: st) h := G_bipush (m207 dX11_isSounds_1) (by decide)
theorem e207_3 {d : Nat} {L st : List AV} {h : AM} : EV d 207 3 L st h = EV d 207 5 L ((0, 111) :: st) h := G_bipush (m207 dX11_isSounds_3) (by decide)
theorem e207_5 {d : Nat} {L st : List AV} {h : AM} : EV d 207 5 L st h = EV d 207 7 L ((0, 117) :: st) h := G_bipush (m207 dX11_isSounds_5) (by decide)
theorem e207_7 {d : Nat} {L st : List AV} {h : AM} : EV d 207 7 L st h = EV d 207 9 L ((0, 110) :: st) h := G_bipush (m207 dX11_isSounds_7) (by decide)
theorem e207_9 {d : Nat} {L st : List AV} {h : AM} : EV d 207 9 L st h = EV d 207 11 L ((0, 100) :: st) h := G_bipush (m207 dX11_isSounds_9) (by decide)
theorem e207_11 {d : Nat} {L st : List AV} {h : AM} : EV d 207 11 L st h = EV d 207 13 L ((0, 115) :: st) h := G_bipush (m207 dX11_isSounds_11) (by decide)
theorem e207_13 {d : Nat} {L st : List AV} {h : AM} {p0 p1 p2 p3 p4 p5 : Int} (hs : st.length ≤ 4) : EV (d + 1) 207 13 L ((0, p5) :: (0, p4) :: (0, p3) :: (0, p2) :: (0, p1) :: (0, p0) :: st) h = (EV d 195 0 [(0, p0), (0, p1), (0, p2), (0, p3), (0, p4), (0, p5), (3, 0), (3, 0)] [] h).bind (fun q => EV (d + 1) 207 16 L (psh q.1 st) q.2) := G_cs [(0, p0), (0, p1), (0, p2), (0, p3), (0, p4), (0, p5)] (m207 dX11_isSounds_13) ow207 tr_11_170 (by decide) td195 np195 ml195 rfl rfl (Nat.le_of_ble_eq_true rfl) rfl hs
theorem e207_16 {d : Nat} {L st : List AV} {h : AM} {r p0 : Int} (hs : st.length ≤ 4) (hk : isK h r 11) : EV (d + 1) 207 16 L ((1, p0) :: (2, r) :: st) h = (EV d 196 0 [(2, r), (1, p0), (3, 1)] [] h).bind (fun q => EV (d + 1) 207 19 L (psh q.1 st) q.2) := G_cv [(1, p0)] (m207 dX11_isSounds_16) ow207 tr_11_174 (by decide) td196 np196 ml196 ow196 rfl rfl (Nat.le_of_ble_eq_true rfl) rfl hs hk
theorem e207_19 {d : Nat} {L : List AV} {h : AM} {v : Int} (hv : v = 0 ∨ v = 1) : EV d 207 19 L [(0, v)] h = some ((0, v), h) := E_iret (m207 dX11_isSounds_19) (by rw [rt207]; rcases hv with rfl | rfl <;> rfl)
theorem e208_0 {d : Nat} {st : List AV} {h : AM} {x : Int} : EV d 208 0 [(2, x)] st h = EV d 208 1 [(2, x)] ((2, x) :: st) h := G_aload_n (m208 dX11_stepWord_0) rfl
theorem e208_1 {d : Nat} {L st : List AV} {h : AM} : EV d 208 1 L st h = EV d 208 3 L ((0, 108) :: st) h := G_bipush (m208 dX11_stepWord_1) (by decide)
theorem e208_3 {d : Nat} {L st : List AV} {h : AM} : EV d 208 3 L st h = EV d 208 5 L ((0, 101) :: st) h := G_bipush (m208 dX11_stepWord_3) (by decide)
theorem e208_5 {d : Nat} {L st : List AV} {h : AM} : EV d 208 5 L st h = EV d 208 7 L ((0, 97) :: st) h := G_bipush (m208 dX11_stepWord_5) (by decide)
theorem e208_7 {d : Nat} {L st : List AV} {h : AM} : EV d 208 7 L st h = EV d 208 9 L ((0, 114) :: st) h := G_bipush (m208 dX11_stepWord_7) (by decide)
theorem e208_9 {d : Nat} {L st : List AV} {h : AM} : EV d 208 9 L st h = EV d 208 11 L ((0, 110) :: st) h := G_bipush (m208 dX11_stepWord_9) (by decide)
theorem e208_11 {d : Nat} {L st : List AV} {h : AM} : EV d 208 11 L st h = EV d 208 12 L ((0, 0) :: st) h := G_iconst (m208 dX11_stepWord_11) (by decide)
theorem e208_12 {d : Nat} {L st : List AV} {h : AM} {p0 p1 p2 p3 p4 p5 : Int} (hs : st.length ≤ 4) : EV (d + 1) 208 12 L ((0, p5) :: (0, p4) :: (0, p3) :: (0, p2) :: (0, p1) :: (0, p0) :: st) h = (EV d 195 0 [(0, p0), (0, p1), (0, p2), (0, p3), (0, p4), (0, p5), (3, 0), (3, 0)] [] h).bind (fun q => EV (d + 1) 208 15 L (psh q.1 st) q.2) := G_cs [(0, p0), (0, p1), (0, p2), (0, p3), (0, p4), (0, p5)] (m208 dX11_stepWord_12) ow208 tr_11_170 (by decide) td195 np195 ml195 rfl rfl (Nat.le_of_ble_eq_true rfl) rfl hs
theorem e208_15 {d : Nat} {L st : List AV} {h : AM} {r p0 : Int} (hs : st.length ≤ 4) (hk : isK h r 11) : EV (d + 1) 208 15 L ((1, p0) :: (2, r) :: st) h = (EV d 196 0 [(2, r), (1, p0), (3, 1)] [] h).bind (fun q => EV (d + 1) 208 18 L (psh q.1 st) q.2) := G_cv [(1, p0)] (m208 dX11_stepWord_15) ow208 tr_11_174 (by decide) td196 np196 ml196 ow196 rfl rfl (Nat.le_of_ble_eq_true rfl) rfl hs hk
theorem e208_18 {d : Nat} {L st : List AV} {h : AM} {a : Int} : EV d 208 18 L ((0, a) :: st) h = if a = 0 then EV d 208 23 L st h else EV d 208 21 L st h := (E_if (m208 dX11_stepWord_18) (t := 23) rfl).trans cc_eq
theorem e208_21 {d : Nat} {L st : List AV} {h : AM} : EV d 208 21 L st h = EV d 208 22 L ((0, 0) :: st) h := G_iconst (m208 dX11_stepWord_21) (by decide)
theorem e208_22 {d : Nat} {L : List AV} {h : AM} {v : Int} : EV d 208 22 L [(0, v)] h = some ((0, v), h) := E_iret (m208 dX11_stepWord_22) (by rw [rt208]; rfl)
theorem e208_23 {d : Nat} {st : List AV} {h : AM} {x : Int} : EV d 208 23 [(2, x)] st h = EV d 208 24 [(2, x)] ((2, x) :: st) h := G_aload_n (m208 dX11_stepWord_23) rfl
theorem e208_24 {d : Nat} {L st : List AV} {h : AM} : EV d 208 24 L st h = EV d 208 26 L ((0, 108) :: st) h := G_bipush (m208 dX11_stepWord_24) (by decide)
theorem e208_26 {d : Nat} {L st : List AV} {h : AM} : EV d 208 26 L st h = EV d 208 28 L ((0, 111) :: st) h := G_bipush (m208 dX11_stepWord_26) (by decide)
theorem e208_28 {d : Nat} {L st : List AV} {h : AM} : EV d 208 28 L st h = EV d 208 30 L ((0, 115) :: st) h := G_bipush (m208 dX11_stepWord_28) (by decide)
theorem e208_30 {d : Nat} {L st : List AV} {h : AM} : EV d 208 30 L st h = EV d 208 32 L ((0, 101) :: st) h := G_bipush (m208 dX11_stepWord_30) (by decide)
theorem e208_32 {d : Nat} {L st : List AV} {h : AM} : EV d 208 32 L st h = EV d 208 33 L ((0, 0) :: st) h := G_iconst (m208 dX11_stepWord_32) (by decide)
theorem e208_33 {d : Nat} {L st : List AV} {h : AM} : EV d 208 33 L st h = EV d 208 34 L ((0, 0) :: st) h := G_iconst (m208 dX11_stepWord_33) (by decide)
theorem e208_34 {d : Nat} {L st : List AV} {h : AM} {p0 p1 p2 p3 p4 p5 : Int} (hs : st.length ≤ 4) : EV (d + 1) 208 34 L ((0, p5) :: (0, p4) :: (0, p3) :: (0, p2) :: (0, p1) :: (0, p0) :: st) h = (EV d 195 0 [(0, p0), (0, p1), (0, p2), (0, p3), (0, p4), (0, p5), (3, 0), (3, 0)] [] h).bind (fun q => EV (d + 1) 208 37 L (psh q.1 st) q.2) := G_cs [(0, p0), (0, p1), (0, p2), (0, p3), (0, p4), (0, p5)] (m208 dX11_stepWord_34) ow208 tr_11_170 (by decide) td195 np195 ml195 rfl rfl (Nat.le_of_ble_eq_true rfl) rfl hs
theorem e208_37 {d : Nat} {L st : List AV} {h : AM} {r p0 : Int} (hs : st.length ≤ 4) (hk : isK h r 11) : EV (d + 1) 208 37 L ((1, p0) :: (2, r) :: st) h = (EV d 196 0 [(2, r), (1, p0), (3, 1)] [] h).bind (fun q => EV (d + 1) 208 40 L (psh q.1 st) q.2) := G_cv [(1, p0)] (m208 dX11_stepWord_37) ow208 tr_11_174 (by decide) td196 np196 ml196 ow196 rfl rfl (Nat.le_of_ble_eq_true rfl) rfl hs hk
theorem e208_40 {d : Nat} {L st : List AV} {h : AM} {a : Int} : EV d 208 40 L ((0, a) :: st) h = if a = 0 then EV d 208 45 L st h else EV d 208 43 L st h := (E_if (m208 dX11_stepWord_40) (t := 45) rfl).trans cc_eq
theorem e208_43 {d : Nat} {L st : List AV} {h : AM} : EV d 208 43 L st h = EV d 208 44 L ((0, 1) :: st) h := G_iconst (m208 dX11_stepWord_43) (by decide)
theorem e208_44 {d : Nat} {L : List AV} {h : AM} {v : Int} : EV d 208 44 L [(0, v)] h = some ((0, v), h) := E_iret (m208 dX11_stepWord_44) (by rw [rt208]; rfl)
theorem e208_45 {d : Nat} {st : List AV} {h : AM} {x : Int} : EV d 208 45 [(2, x)] st h = EV d 208 46 [(2, x)] ((2, x) :: st) h := G_aload_n (m208 dX11_stepWord_45) rfl
theorem e208_46 {d : Nat} {L st : List AV} {h : AM} : EV d 208 46 L st h = EV d 208 48 L ((0, 102) :: st) h := G_bipush (m208 dX11_stepWord_46) (by decide)
theorem e208_48 {d : Nat} {L st : List AV} {h : AM} : EV d 208 48 L st h = EV d 208 50 L ((0, 97) :: st) h := G_bipush (m208 dX11_stepWord_48) (by decide)
theorem e208_50 {d : Nat} {L st : List AV} {h : AM} : EV d 208 50 L st h = EV d 208 52 L ((0, 116) :: st) h := G_bipush (m208 dX11_stepWord_50) (by decide)
theorem e208_52 {d : Nat} {L st : List AV} {h : AM} : EV d 208 52 L st h = EV d 208 54 L ((0, 101) :: st) h := G_bipush (m208 dX11_stepWord_52) (by decide)
theorem e208_54 {d : Nat} {L st : List AV} {h : AM} : EV d 208 54 L st h = EV d 208 55 L ((0, 0) :: st) h := G_iconst (m208 dX11_stepWord_54) (by decide)
theorem e208_55 {d : Nat} {L st : List AV} {h : AM} : EV d 208 55 L st h = EV d 208 56 L ((0, 0) :: st) h := G_iconst (m208 dX11_stepWord_55) (by decide)
theorem e208_56 {d : Nat} {L st : List AV} {h : AM} {p0 p1 p2 p3 p4 p5 : Int} (hs : st.length ≤ 4) : EV (d + 1) 208 56 L ((0, p5) :: (0, p4) :: (0, p3) :: (0, p2) :: (0, p1) :: (0, p0) :: st) h = (EV d 195 0 [(0, p0), (0, p1), (0, p2), (0, p3), (0, p4), (0, p5), (3, 0), (3, 0)] [] h).bind (fun q => EV (d + 1) 208 59 L (psh q.1 st) q.2) := G_cs [(0, p0), (0, p1), (0, p2), (0, p3), (0, p4), (0, p5)] (m208 dX11_stepWord_56) ow208 tr_11_170 (by decide) td195 np195 ml195 rfl rfl (Nat.le_of_ble_eq_true rfl) rfl hs
theorem e208_59 {d : Nat} {L st : List AV} {h : AM} {r p0 : Int} (hs : st.length ≤ 4) (hk : isK h r 11) : EV (d + 1) 208 59 L ((1, p0) :: (2, r) :: st) h = (EV d 196 0 [(2, r), (1, p0), (3, 1)] [] h).bind (fun q => EV (d + 1) 208 62 L (psh q.1 st) q.2) := G_cv [(1, p0)] (m208 dX11_stepWord_59) ow208 tr_11_174 (by decide) td196 np196 ml196 ow196 rfl rfl (Nat.le_of_ble_eq_true rfl) rfl hs hk
theorem e208_62 {d : Nat} {L st : List AV} {h : AM} {a : Int} : EV d 208 62 L ((0, a) :: st) h = if a = 0 then EV d 208 67 L st h else EV d 208 65 L st h := (E_if (m208 dX11_stepWord_62) (t := 67) rfl).trans cc_eq
theorem e208_65 {d : Nat} {L st : List AV} {h : AM} : EV d 208 65 L st h = EV d 208 66 L ((0, 2) :: st) h := G_iconst (m208 dX11_stepWord_65) (by decide)
theorem e208_66 {d : Nat} {L : List AV} {h : AM} {v : Int} : EV d 208 66 L [(0, v)] h = some ((0, v), h) := E_iret (m208 dX11_stepWord_66) (by rw [rt208]; rfl)
theorem e208_67 {d : Nat} {st : List AV} {h : AM} {x : Int} : EV d 208 67 [(2, x)] st h = EV d 208 68 [(2, x)] ((2, x) :: st) h := G_aload_n (m208 dX11_stepWord_67) rfl
theorem e208_68 {d : Nat} {L st : List AV} {h : AM} : EV d 208 68 L st h = EV d 208 70 L ((0, 114) :: st) h := G_bipush (m208 dX11_stepWord_68) (by decide)
theorem e208_70 {d : Nat} {L st : List AV} {h : AM} : EV d 208 70 L st h = EV d 208 72 L ((0, 101) :: st) h := G_bipush (m208 dX11_stepWord_70) (by decide)
theorem e208_72 {d : Nat} {L st : List AV} {h : AM} : EV d 208 72 L st h = EV d 208 74 L ((0, 115) :: st) h := G_bipush (m208 dX11_stepWord_72) (by decide)
theorem e208_74 {d : Nat} {L st : List AV} {h : AM} : EV d 208 74 L st h = EV d 208 76 L ((0, 116) :: st) h := G_bipush (m208 dX11_stepWord_74) (by decide)
theorem e208_76 {d : Nat} {L st : List AV} {h : AM} : EV d 208 76 L st h = EV d 208 77 L ((0, 0) :: st) h := G_iconst (m208 dX11_stepWord_76) (by decide)
theorem e208_77 {d : Nat} {L st : List AV} {h : AM} : EV d 208 77 L st h = EV d 208 78 L ((0, 0) :: st) h := G_iconst (m208 dX11_stepWord_77) (by decide)
theorem e208_78 {d : Nat} {L st : List AV} {h : AM} {p0 p1 p2 p3 p4 p5 : Int} (hs : st.length ≤ 4) : EV (d + 1) 208 78 L ((0, p5) :: (0, p4) :: (0, p3) :: (0, p2) :: (0, p1) :: (0, p0) :: st) h = (EV d 195 0 [(0, p0), (0, p1), (0, p2), (0, p3), (0, p4), (0, p5), (3, 0), (3, 0)] [] h).bind (fun q => EV (d + 1) 208 81 L (psh q.1 st) q.2) := G_cs [(0, p0), (0, p1), (0, p2), (0, p3), (0, p4), (0, p5)] (m208 dX11_stepWord_78) ow208 tr_11_170 (by decide) td195 np195 ml195 rfl rfl (Nat.le_of_ble_eq_true rfl) rfl hs
theorem e208_81 {d : Nat} {L st : List AV} {h : AM} {r p0 : Int} (hs : st.length ≤ 4) (hk : isK h r 11) : EV (d + 1) 208 81 L ((1, p0) :: (2, r) :: st) h = (EV d 196 0 [(2, r), (1, p0), (3, 1)] [] h).bind (fun q => EV (d + 1) 208 84 L (psh q.1 st) q.2) := G_cv [(1, p0)] (m208 dX11_stepWord_81) ow208 tr_11_174 (by decide) td196 np196 ml196 ow196 rfl rfl (Nat.le_of_ble_eq_true rfl) rfl hs hk
theorem e208_84 {d : Nat} {L st : List AV} {h : AM} {a : Int} : EV d 208 84 L ((0, a) :: st) h = if a = 0 then EV d 208 89 L st h else EV d 208 87 L st h := (E_if (m208 dX11_stepWord_84) (t := 89) rfl).trans cc_eq
theorem e208_87 {d : Nat} {L st : List AV} {h : AM} : EV d 208 87 L st h = EV d 208 88 L ((0, 3) :: st) h := G_iconst (m208 dX11_stepWord_87) (by decide)
theorem e208_88 {d : Nat} {L : List AV} {h : AM} {v : Int} : EV d 208 88 L [(0, v)] h = some ((0, v), h) := E_iret (m208 dX11_stepWord_88) (by rw [rt208]; rfl)
theorem e208_89 {d : Nat} {st : List AV} {h : AM} {x : Int} : EV d 208 89 [(2, x)] st h = EV d 208 90 [(2, x)] ((2, x) :: st) h := G_aload_n (m208 dX11_stepWord_89) rfl
theorem e208_90 {d : Nat} {L st : List AV} {h : AM} : EV d 208 90 L st h = EV d 208 92 L ((0, 112) :: st) h := G_bipush (m208 dX11_stepWord_90) (by decide)
theorem e208_92 {d : Nat} {L st : List AV} {h : AM} : EV d 208 92 L st h = EV d 208 94 L ((0, 97) :: st) h := G_bipush (m208 dX11_stepWord_92) (by decide)
theorem e208_94 {d : Nat} {L st : List AV} {h : AM} : EV d 208 94 L st h = EV d 208 96 L ((0, 121) :: st) h := G_bipush (m208 dX11_stepWord_94) (by decide)
theorem e208_96 {d : Nat} {L st : List AV} {h : AM} : EV d 208 96 L st h = EV d 208 97 L ((0, 0) :: st) h := G_iconst (m208 dX11_stepWord_96) (by decide)
theorem e208_97 {d : Nat} {L st : List AV} {h : AM} : EV d 208 97 L st h = EV d 208 98 L ((0, 0) :: st) h := G_iconst (m208 dX11_stepWord_97) (by decide)
theorem e208_98 {d : Nat} {L st : List AV} {h : AM} : EV d 208 98 L st h = EV d 208 99 L ((0, 0) :: st) h := G_iconst (m208 dX11_stepWord_98) (by decide)
theorem e208_99 {d : Nat} {L st : List AV} {h : AM} {p0 p1 p2 p3 p4 p5 : Int} (hs : st.length ≤ 4) : EV (d + 1) 208 99 L ((0, p5) :: (0, p4) :: (0, p3) :: (0, p2) :: (0, p1) :: (0, p0) :: st) h = (EV d 195 0 [(0, p0), (0, p1), (0, p2), (0, p3), (0, p4), (0, p5), (3, 0), (3, 0)] [] h).bind (fun q => EV (d + 1) 208 102 L (psh q.1 st) q.2) := G_cs [(0, p0), (0, p1), (0, p2), (0, p3), (0, p4), (0, p5)] (m208 dX11_stepWord_99) ow208 tr_11_170 (by decide) td195 np195 ml195 rfl rfl (Nat.le_of_ble_eq_true rfl) rfl hs
theorem e208_102 {d : Nat} {L st : List AV} {h : AM} {r p0 : Int} (hs : st.length ≤ 4) (hk : isK h r 11) : EV (d + 1) 208 102 L ((1, p0) :: (2, r) :: st) h = (EV d 196 0 [(2, r), (1, p0), (3, 1)] [] h).bind (fun q => EV (d + 1) 208 105 L (psh q.1 st) q.2) := G_cv [(1, p0)] (m208 dX11_stepWord_102) ow208 tr_11_174 (by decide) td196 np196 ml196 ow196 rfl rfl (Nat.le_of_ble_eq_true rfl) rfl hs hk
theorem e208_105 {d : Nat} {L st : List AV} {h : AM} {a : Int} : EV d 208 105 L ((0, a) :: st) h = if a = 0 then EV d 208 110 L st h else EV d 208 108 L st h := (E_if (m208 dX11_stepWord_105) (t := 110) rfl).trans cc_eq
theorem e208_108 {d : Nat} {L st : List AV} {h : AM} : EV d 208 108 L st h = EV d 208 109 L ((0, 4) :: st) h := G_iconst (m208 dX11_stepWord_108) (by decide)
theorem e208_109 {d : Nat} {L : List AV} {h : AM} {v : Int} : EV d 208 109 L [(0, v)] h = some ((0, v), h) := E_iret (m208 dX11_stepWord_109) (by rw [rt208]; rfl)
theorem e208_110 {d : Nat} {st : List AV} {h : AM} {x : Int} : EV d 208 110 [(2, x)] st h = EV d 208 111 [(2, x)] ((2, x) :: st) h := G_aload_n (m208 dX11_stepWord_110) rfl
theorem e208_111 {d : Nat} {L st : List AV} {h : AM} : EV d 208 111 L st h = EV d 208 113 L ((0, 119) :: st) h := G_bipush (m208 dX11_stepWord_111) (by decide)
theorem e208_113 {d : Nat} {L st : List AV} {h : AM} : EV d 208 113 L st h = EV d 208 115 L ((0, 104) :: st) h := G_bipush (m208 dX11_stepWord_113) (by decide)
theorem e208_115 {d : Nat} {L st : List AV} {h : AM} : EV d 208 115 L st h = EV d 208 117 L ((0, 101) :: st) h := G_bipush (m208 dX11_stepWord_115) (by decide)
theorem e208_117 {d : Nat} {L st : List AV} {h : AM} : EV d 208 117 L st h = EV d 208 119 L ((0, 110) :: st) h := G_bipush (m208 dX11_stepWord_117) (by decide)
theorem e208_119 {d : Nat} {L st : List AV} {h : AM} : EV d 208 119 L st h = EV d 208 120 L ((0, 0) :: st) h := G_iconst (m208 dX11_stepWord_119) (by decide)
theorem e208_120 {d : Nat} {L st : List AV} {h : AM} : EV d 208 120 L st h = EV d 208 121 L ((0, 0) :: st) h := G_iconst (m208 dX11_stepWord_120) (by decide)
theorem e208_121 {d : Nat} {L st : List AV} {h : AM} {p0 p1 p2 p3 p4 p5 : Int} (hs : st.length ≤ 4) : EV (d + 1) 208 121 L ((0, p5) :: (0, p4) :: (0, p3) :: (0, p2) :: (0, p1) :: (0, p0) :: st) h = (EV d 195 0 [(0, p0), (0, p1), (0, p2), (0, p3), (0, p4), (0, p5), (3, 0), (3, 0)] [] h).bind (fun q => EV (d + 1) 208 124 L (psh q.1 st) q.2) := G_cs [(0, p0), (0, p1), (0, p2), (0, p3), (0, p4), (0, p5)] (m208 dX11_stepWord_121) ow208 tr_11_170 (by decide) td195 np195 ml195 rfl rfl (Nat.le_of_ble_eq_true rfl) rfl hs
theorem e208_124 {d : Nat} {L st : List AV} {h : AM} {r p0 : Int} (hs : st.length ≤ 4) (hk : isK h r 11) : EV (d + 1) 208 124 L ((1, p0) :: (2, r) :: st) h = (EV d 196 0 [(2, r), (1, p0), (3, 1)] [] h).bind (fun q => EV (d + 1) 208 127 L (psh q.1 st) q.2) := G_cv [(1, p0)] (m208 dX11_stepWord_124) ow208 tr_11_174 (by decide) td196 np196 ml196 ow196 rfl rfl (Nat.le_of_ble_eq_true rfl) rfl hs hk
theorem e208_127 {d : Nat} {L st : List AV} {h : AM} {a : Int} : EV d 208 127 L ((0, a) :: st) h = if a = 0 then EV d 208 132 L st h else EV d 208 130 L st h := (E_if (m208 dX11_stepWord_127) (t := 132) rfl).trans cc_eq
theorem e208_130 {d : Nat} {L st : List AV} {h : AM} : EV d 208 130 L st h = EV d 208 131 L ((0, 5) :: st) h := G_iconst (m208 dX11_stepWord_130) (by decide)
theorem e208_131 {d : Nat} {L : List AV} {h : AM} {v : Int} : EV d 208 131 L [(0, v)] h = some ((0, v), h) := E_iret (m208 dX11_stepWord_131) (by rw [rt208]; rfl)
theorem e208_132 {d : Nat} {st : List AV} {h : AM} {x : Int} : EV d 208 132 [(2, x)] st h = EV d 208 133 [(2, x)] ((2, x) :: st) h := G_aload_n (m208 dX11_stepWord_132) rfl
theorem e208_133 {d : Nat} {L st : List AV} {h : AM} : EV d 208 133 L st h = EV d 208 135 L ((0, 108) :: st) h := G_bipush (m208 dX11_stepWord_133) (by decide)
theorem e208_135 {d : Nat} {L st : List AV} {h : AM} : EV d 208 135 L st h = EV d 208 137 L ((0, 111) :: st) h := G_bipush (m208 dX11_stepWord_135) (by decide)
theorem e208_137 {d : Nat} {L st : List AV} {h : AM} : EV d 208 137 L st h = EV d 208 139 L ((0, 111) :: st) h := G_bipush (m208 dX11_stepWord_137) (by decide)
theorem e208_139 {d : Nat} {L st : List AV} {h : AM} : EV d 208 139 L st h = EV d 208 141 L ((0, 112) :: st) h := G_bipush (m208 dX11_stepWord_139) (by decide)
theorem e208_141 {d : Nat} {L st : List AV} {h : AM} : EV d 208 141 L st h = EV d 208 142 L ((0, 0) :: st) h := G_iconst (m208 dX11_stepWord_141) (by decide)
theorem e208_142 {d : Nat} {L st : List AV} {h : AM} : EV d 208 142 L st h = EV d 208 143 L ((0, 0) :: st) h := G_iconst (m208 dX11_stepWord_142) (by decide)
theorem e208_143 {d : Nat} {L st : List AV} {h : AM} {p0 p1 p2 p3 p4 p5 : Int} (hs : st.length ≤ 4) : EV (d + 1) 208 143 L ((0, p5) :: (0, p4) :: (0, p3) :: (0, p2) :: (0, p1) :: (0, p0) :: st) h = (EV d 195 0 [(0, p0), (0, p1), (0, p2), (0, p3), (0, p4), (0, p5), (3, 0), (3, 0)] [] h).bind (fun q => EV (d + 1) 208 146 L (psh q.1 st) q.2) := G_cs [(0, p0), (0, p1), (0, p2), (0, p3), (0, p4), (0, p5)] (m208 dX11_stepWord_143) ow208 tr_11_170 (by decide) td195 np195 ml195 rfl rfl (Nat.le_of_ble_eq_true rfl) rfl hs
theorem e208_146 {d : Nat} {L st : List AV} {h : AM} {r p0 : Int} (hs : st.length ≤ 4) (hk : isK h r 11) : EV (d + 1) 208 146 L ((1, p0) :: (2, r) :: st) h = (EV d 196 0 [(2, r), (1, p0), (3, 1)] [] h).bind (fun q => EV (d + 1) 208 149 L (psh q.1 st) q.2) := G_cv [(1, p0)] (m208 dX11_stepWord_146) ow208 tr_11_174 (by decide) td196 np196 ml196 ow196 rfl rfl (Nat.le_of_ble_eq_true rfl) rfl hs hk
theorem e208_149 {d : Nat} {L st : List AV} {h : AM} {a : Int} : EV d 208 149 L ((0, a) :: st) h = if a = 0 then EV d 208 155 L st h else EV d 208 152 L st h := (E_if (m208 dX11_stepWord_149) (t := 155) rfl).trans cc_eq
theorem e208_152 {d : Nat} {L st : List AV} {h : AM} : EV d 208 152 L st h = EV d 208 154 L ((0, 6) :: st) h := G_bipush (m208 dX11_stepWord_152) (by decide)
theorem e208_154 {d : Nat} {L : List AV} {h : AM} {v : Int} : EV d 208 154 L [(0, v)] h = some ((0, v), h) := E_iret (m208 dX11_stepWord_154) (by rw [rt208]; rfl)
theorem e208_155 {d : Nat} {st : List AV} {h : AM} {x : Int} : EV d 208 155 [(2, x)] st h = EV d 208 156 [(2, x)] ((2, x) :: st) h := G_aload_n (m208 dX11_stepWord_155) rfl
theorem e208_156 {d : Nat} {L st : List AV} {h : AM} : EV d 208 156 L st h = EV d 208 158 L ((0, 115) :: st) h := G_bipush (m208 dX11_stepWord_156) (by decide)
theorem e208_158 {d : Nat} {L st : List AV} {h : AM} : EV d 208 158 L st h = EV d 208 160 L ((0, 116) :: st) h := G_bipush (m208 dX11_stepWord_158) (by decide)
theorem e208_160 {d : Nat} {L st : List AV} {h : AM} : EV d 208 160 L st h = EV d 208 162 L ((0, 111) :: st) h := G_bipush (m208 dX11_stepWord_160) (by decide)
theorem e208_162 {d : Nat} {L st : List AV} {h : AM} : EV d 208 162 L st h = EV d 208 164 L ((0, 112) :: st) h := G_bipush (m208 dX11_stepWord_162) (by decide)
theorem e208_164 {d : Nat} {L st : List AV} {h : AM} : EV d 208 164 L st h = EV d 208 165 L ((0, 0) :: st) h := G_iconst (m208 dX11_stepWord_164) (by decide)
theorem e208_165 {d : Nat} {L st : List AV} {h : AM} : EV d 208 165 L st h = EV d 208 166 L ((0, 0) :: st) h := G_iconst (m208 dX11_stepWord_165) (by decide)
theorem e208_166 {d : Nat} {L st : List AV} {h : AM} {p0 p1 p2 p3 p4 p5 : Int} (hs : st.length ≤ 4) : EV (d + 1) 208 166 L ((0, p5) :: (0, p4) :: (0, p3) :: (0, p2) :: (0, p1) :: (0, p0) :: st) h = (EV d 195 0 [(0, p0), (0, p1), (0, p2), (0, p3), (0, p4), (0, p5), (3, 0), (3, 0)] [] h).bind (fun q => EV (d + 1) 208 169 L (psh q.1 st) q.2) := G_cs [(0, p0), (0, p1), (0, p2), (0, p3), (0, p4), (0, p5)] (m208 dX11_stepWord_166) ow208 tr_11_170 (by decide) td195 np195 ml195 rfl rfl (Nat.le_of_ble_eq_true rfl) rfl hs
theorem e208_169 {d : Nat} {L st : List AV} {h : AM} {r p0 : Int} (hs : st.length ≤ 4) (hk : isK h r 11) : EV (d + 1) 208 169 L ((1, p0) :: (2, r) :: st) h = (EV d 196 0 [(2, r), (1, p0), (3, 1)] [] h).bind (fun q => EV (d + 1) 208 172 L (psh q.1 st) q.2) := G_cv [(1, p0)] (m208 dX11_stepWord_169) ow208 tr_11_174 (by decide) td196 np196 ml196 ow196 rfl rfl (Nat.le_of_ble_eq_true rfl) rfl hs hk
theorem e208_172 {d : Nat} {L st : List AV} {h : AM} {a : Int} : EV d 208 172 L ((0, a) :: st) h = if a = 0 then EV d 208 180 L st h else EV d 208 175 L st h := (E_if (m208 dX11_stepWord_172) (t := 180) rfl).trans cc_eq
theorem e208_175 {d : Nat} {L st : List AV} {h : AM} : EV d 208 175 L st h = EV d 208 177 L ((0, 7) :: st) h := G_bipush (m208 dX11_stepWord_175) (by decide)
theorem e208_177 {d : Nat} {L st : List AV} {h : AM} : EV d 208 177 L st h = EV d 208 181 L st h := G_goto (m208 dX11_stepWord_177) rfl
theorem e208_180 {d : Nat} {L st : List AV} {h : AM} : EV d 208 180 L st h = EV d 208 181 L ((0, -1) :: st) h := G_iconst (m208 dX11_stepWord_180) (by decide)
theorem e208_181 {d : Nat} {L : List AV} {h : AM} {v : Int} : EV d 208 181 L [(0, v)] h = some ((0, v), h) := E_iret (m208 dX11_stepWord_181) (by rw [rt208]; rfl)
theorem e209_0 {d : Nat} {st : List AV} {h : AM} {x : Int} : EV d 209 0 [(2, x)] st h = EV d 209 1 [(2, x)] ((2, x) :: st) h := G_aload_n (m209 dX11_testWord_0) rfl
theorem e209_1 {d : Nat} {L st : List AV} {h : AM} : EV d 209 1 L st h = EV d 209 3 L ((0, 108) :: st) h := G_bipush (m209 dX11_testWord_1) (by decide)
theorem e209_3 {d : Nat} {L st : List AV} {h : AM} : EV d 209 3 L st h = EV d 209 5 L ((0, 111) :: st) h := G_bipush (m209 dX11_testWord_3) (by decide)
theorem e209_5 {d : Nat} {L st : List AV} {h : AM} : EV d 209 5 L st h = EV d 209 7 L ((0, 110) :: st) h := G_bipush (m209 dX11_testWord_5) (by decide)
theorem e209_7 {d : Nat} {L st : List AV} {h : AM} : EV d 209 7 L st h = EV d 209 9 L ((0, 103) :: st) h := G_bipush (m209 dX11_testWord_7) (by decide)
theorem e209_9 {d : Nat} {L st : List AV} {h : AM} : EV d 209 9 L st h = EV d 209 10 L ((0, 0) :: st) h := G_iconst (m209 dX11_testWord_9) (by decide)
theorem e209_10 {d : Nat} {L st : List AV} {h : AM} : EV d 209 10 L st h = EV d 209 11 L ((0, 0) :: st) h := G_iconst (m209 dX11_testWord_10) (by decide)
theorem e209_11 {d : Nat} {L st : List AV} {h : AM} {p0 p1 p2 p3 p4 p5 : Int} (hs : st.length ≤ 4) : EV (d + 1) 209 11 L ((0, p5) :: (0, p4) :: (0, p3) :: (0, p2) :: (0, p1) :: (0, p0) :: st) h = (EV d 195 0 [(0, p0), (0, p1), (0, p2), (0, p3), (0, p4), (0, p5), (3, 0), (3, 0)] [] h).bind (fun q => EV (d + 1) 209 14 L (psh q.1 st) q.2) := G_cs [(0, p0), (0, p1), (0, p2), (0, p3), (0, p4), (0, p5)] (m209 dX11_testWord_11) ow209 tr_11_170 (by decide) td195 np195 ml195 rfl rfl (Nat.le_of_ble_eq_true rfl) rfl hs
theorem e209_14 {d : Nat} {L st : List AV} {h : AM} {r p0 : Int} (hs : st.length ≤ 4) (hk : isK h r 11) : EV (d + 1) 209 14 L ((1, p0) :: (2, r) :: st) h = (EV d 196 0 [(2, r), (1, p0), (3, 1)] [] h).bind (fun q => EV (d + 1) 209 17 L (psh q.1 st) q.2) := G_cv [(1, p0)] (m209 dX11_testWord_14) ow209 tr_11_174 (by decide) td196 np196 ml196 ow196 rfl rfl (Nat.le_of_ble_eq_true rfl) rfl hs hk
theorem e209_17 {d : Nat} {L st : List AV} {h : AM} {a : Int} : EV d 209 17 L ((0, a) :: st) h = if a = 0 then EV d 209 22 L st h else EV d 209 20 L st h := (E_if (m209 dX11_testWord_17) (t := 22) rfl).trans cc_eq
theorem e209_20 {d : Nat} {L st : List AV} {h : AM} : EV d 209 20 L st h = EV d 209 21 L ((0, 0) :: st) h := G_iconst (m209 dX11_testWord_20) (by decide)
theorem e209_21 {d : Nat} {L : List AV} {h : AM} {v : Int} : EV d 209 21 L [(0, v)] h = some ((0, v), h) := E_iret (m209 dX11_testWord_21) (by rw [rt209]; rfl)
theorem e209_22 {d : Nat} {st : List AV} {h : AM} {x : Int} : EV d 209 22 [(2, x)] st h = EV d 209 23 [(2, x)] ((2, x) :: st) h := G_aload_n (m209 dX11_testWord_22) rfl
theorem e209_23 {d : Nat} {L st : List AV} {h : AM} : EV d 209 23 L st h = EV d 209 25 L ((0, 115) :: st) h := G_bipush (m209 dX11_testWord_23) (by decide)
theorem e209_25 {d : Nat} {L st : List AV} {h : AM} : EV d 209 25 L st h = EV d 209 27 L ((0, 97) :: st) h := G_bipush (m209 dX11_testWord_25) (by decide)
theorem e209_27 {d : Nat} {L st : List AV} {h : AM} : EV d 209 27 L st h = EV d 209 29 L ((0, 121) :: st) h := G_bipush (m209 dX11_testWord_27) (by decide)
theorem e209_29 {d : Nat} {L st : List AV} {h : AM} : EV d 209 29 L st h = EV d 209 31 L ((0, 115) :: st) h := G_bipush (m209 dX11_testWord_29) (by decide)
theorem e209_31 {d : Nat} {L st : List AV} {h : AM} : EV d 209 31 L st h = EV d 209 32 L ((0, 0) :: st) h := G_iconst (m209 dX11_testWord_31) (by decide)
theorem e209_32 {d : Nat} {L st : List AV} {h : AM} : EV d 209 32 L st h = EV d 209 33 L ((0, 0) :: st) h := G_iconst (m209 dX11_testWord_32) (by decide)
theorem e209_33 {d : Nat} {L st : List AV} {h : AM} {p0 p1 p2 p3 p4 p5 : Int} (hs : st.length ≤ 4) : EV (d + 1) 209 33 L ((0, p5) :: (0, p4) :: (0, p3) :: (0, p2) :: (0, p1) :: (0, p0) :: st) h = (EV d 195 0 [(0, p0), (0, p1), (0, p2), (0, p3), (0, p4), (0, p5), (3, 0), (3, 0)] [] h).bind (fun q => EV (d + 1) 209 36 L (psh q.1 st) q.2) := G_cs [(0, p0), (0, p1), (0, p2), (0, p3), (0, p4), (0, p5)] (m209 dX11_testWord_33) ow209 tr_11_170 (by decide) td195 np195 ml195 rfl rfl (Nat.le_of_ble_eq_true rfl) rfl hs
theorem e209_36 {d : Nat} {L st : List AV} {h : AM} {r p0 : Int} (hs : st.length ≤ 4) (hk : isK h r 11) : EV (d + 1) 209 36 L ((1, p0) :: (2, r) :: st) h = (EV d 196 0 [(2, r), (1, p0), (3, 1)] [] h).bind (fun q => EV (d + 1) 209 39 L (psh q.1 st) q.2) := G_cv [(1, p0)] (m209 dX11_testWord_36) ow209 tr_11_174 (by decide) td196 np196 ml196 ow196 rfl rfl (Nat.le_of_ble_eq_true rfl) rfl hs hk
theorem e209_39 {d : Nat} {L st : List AV} {h : AM} {a : Int} : EV d 209 39 L ((0, a) :: st) h = if a = 0 then EV d 209 44 L st h else EV d 209 42 L st h := (E_if (m209 dX11_testWord_39) (t := 44) rfl).trans cc_eq
theorem e209_42 {d : Nat} {L st : List AV} {h : AM} : EV d 209 42 L st h = EV d 209 43 L ((0, 1) :: st) h := G_iconst (m209 dX11_testWord_42) (by decide)
theorem e209_43 {d : Nat} {L : List AV} {h : AM} {v : Int} : EV d 209 43 L [(0, v)] h = some ((0, v), h) := E_iret (m209 dX11_testWord_43) (by rw [rt209]; rfl)
theorem e209_44 {d : Nat} {st : List AV} {h : AM} {x : Int} : EV d 209 44 [(2, x)] st h = EV d 209 45 [(2, x)] ((2, x) :: st) h := G_aload_n (m209 dX11_testWord_44) rfl
theorem e209_45 {d : Nat} {L st : List AV} {h : AM} : EV d 209 45 L st h = EV d 209 47 L ((0, 107) :: st) h := G_bipush (m209 dX11_testWord_45) (by decide)
theorem e209_47 {d : Nat} {L st : List AV} {h : AM} : EV d 209 47 L st h = EV d 209 49 L ((0, 110) :: st) h := G_bipush (m209 dX11_testWord_47) (by decide)
theorem e209_49 {d : Nat} {L st : List AV} {h : AM} : EV d 209 49 L st h = EV d 209 51 L ((0, 111) :: st) h := G_bipush (m209 dX11_testWord_49) (by decide)
theorem e209_51 {d : Nat} {L st : List AV} {h : AM} : EV d 209 51 L st h = EV d 209 53 L ((0, 119) :: st) h := G_bipush (m209 dX11_testWord_51) (by decide)
theorem e209_53 {d : Nat} {L st : List AV} {h : AM} : EV d 209 53 L st h = EV d 209 55 L ((0, 115) :: st) h := G_bipush (m209 dX11_testWord_53) (by decide)
theorem e209_55 {d : Nat} {L st : List AV} {h : AM} : EV d 209 55 L st h = EV d 209 56 L ((0, 0) :: st) h := G_iconst (m209 dX11_testWord_55) (by decide)
theorem e209_56 {d : Nat} {L st : List AV} {h : AM} {p0 p1 p2 p3 p4 p5 : Int} (hs : st.length ≤ 4) : EV (d + 1) 209 56 L ((0, p5) :: (0, p4) :: (0, p3) :: (0, p2) :: (0, p1) :: (0, p0) :: st) h = (EV d 195 0 [(0, p0), (0, p1), (0, p2), (0, p3), (0, p4), (0, p5), (3, 0), (3, 0)] [] h).bind (fun q => EV (d + 1) 209 59 L (psh q.1 st) q.2) := G_cs [(0, p0), (0, p1), (0, p2), (0, p3), (0, p4), (0, p5)] (m209 dX11_testWord_56) ow209 tr_11_170 (by decide) td195 np195 ml195 rfl rfl (Nat.le_of_ble_eq_true rfl) rfl hs
theorem e209_59 {d : Nat} {L st : List AV} {h : AM} {r p0 : Int} (hs : st.length ≤ 4) (hk : isK h r 11) : EV (d + 1) 209 59 L ((1, p0) :: (2, r) :: st) h = (EV d 196 0 [(2, r), (1, p0), (3, 1)] [] h).bind (fun q => EV (d + 1) 209 62 L (psh q.1 st) q.2) := G_cv [(1, p0)] (m209 dX11_testWord_59) ow209 tr_11_174 (by decide) td196 np196 ml196 ow196 rfl rfl (Nat.le_of_ble_eq_true rfl) rfl hs hk
theorem e209_62 {d : Nat} {L st : List AV} {h : AM} {a : Int} : EV d 209 62 L ((0, a) :: st) h = if a = 0 then EV d 209 69 L st h else EV d 209 65 L st h := (E_if (m209 dX11_testWord_62) (t := 69) rfl).trans cc_eq
theorem e209_65 {d : Nat} {L st : List AV} {h : AM} : EV d 209 65 L st h = EV d 209 66 L ((0, 2) :: st) h := G_iconst (m209 dX11_testWord_65) (by decide)
theorem e209_66 {d : Nat} {L st : List AV} {h : AM} : EV d 209 66 L st h = EV d 209 70 L st h := G_goto (m209 dX11_testWord_66) rfl
theorem e209_69 {d : Nat} {L st : List AV} {h : AM} : EV d 209 69 L st h = EV d 209 70 L ((0, -1) :: st) h := G_iconst (m209 dX11_testWord_69) (by decide)
theorem e209_70 {d : Nat} {L : List AV} {h : AM} {v : Int} : EV d 209 70 L [(0, v)] h = some ((0, v), h) := E_iret (m209 dX11_testWord_70) (by rw [rt209]; rfl)
theorem e210_0 {d : Nat} {st : List AV} {h : AM} {x : Int} : EV d 210 0 [(2, x)] st h = EV d 210 1 [(2, x)] ((2, x) :: st) h := G_aload_n (m210 dX11_isEnd_0) rfl
theorem e210_1 {d : Nat} {L st : List AV} {h : AM} : EV d 210 1 L st h = EV d 210 3 L ((0, 101) :: st) h := G_bipush (m210 dX11_isEnd_1) (by decide)
theorem e210_3 {d : Nat} {L st : List AV} {h : AM} : EV d 210 3 L st h = EV d 210 5 L ((0, 110) :: st) h := G_bipush (m210 dX11_isEnd_3) (by decide)
theorem e210_5 {d : Nat} {L st : List AV} {h : AM} : EV d 210 5 L st h = EV d 210 7 L ((0, 100) :: st) h := G_bipush (m210 dX11_isEnd_5) (by decide)
theorem e210_7 {d : Nat} {L st : List AV} {h : AM} : EV d 210 7 L st h = EV d 210 8 L ((0, 0) :: st) h := G_iconst (m210 dX11_isEnd_7) (by decide)
theorem e210_8 {d : Nat} {L st : List AV} {h : AM} : EV d 210 8 L st h = EV d 210 9 L ((0, 0) :: st) h := G_iconst (m210 dX11_isEnd_8) (by decide)
theorem e210_9 {d : Nat} {L st : List AV} {h : AM} : EV d 210 9 L st h = EV d 210 10 L ((0, 0) :: st) h := G_iconst (m210 dX11_isEnd_9) (by decide)
theorem e210_10 {d : Nat} {L st : List AV} {h : AM} {p0 p1 p2 p3 p4 p5 : Int} (hs : st.length ≤ 4) : EV (d + 1) 210 10 L ((0, p5) :: (0, p4) :: (0, p3) :: (0, p2) :: (0, p1) :: (0, p0) :: st) h = (EV d 195 0 [(0, p0), (0, p1), (0, p2), (0, p3), (0, p4), (0, p5), (3, 0), (3, 0)] [] h).bind (fun q => EV (d + 1) 210 13 L (psh q.1 st) q.2) := G_cs [(0, p0), (0, p1), (0, p2), (0, p3), (0, p4), (0, p5)] (m210 dX11_isEnd_10) ow210 tr_11_170 (by decide) td195 np195 ml195 rfl rfl (Nat.le_of_ble_eq_true rfl) rfl hs
theorem e210_13 {d : Nat} {L st : List AV} {h : AM} {r p0 : Int} (hs : st.length ≤ 4) (hk : isK h r 11) : EV (d + 1) 210 13 L ((1, p0) :: (2, r) :: st) h = (EV d 196 0 [(2, r), (1, p0), (3, 1)] [] h).bind (fun q => EV (d + 1) 210 16 L (psh q.1 st) q.2) := G_cv [(1, p0)] (m210 dX11_isEnd_13) ow210 tr_11_174 (by decide) td196 np196 ml196 ow196 rfl rfl (Nat.le_of_ble_eq_true rfl) rfl hs hk
theorem e210_16 {d : Nat} {L : List AV} {h : AM} {v : Int} (hv : v = 0 ∨ v = 1) : EV d 210 16 L [(0, v)] h = some ((0, v), h) := E_iret (m210 dX11_isEnd_16) (by rw [rt210]; rcases hv with rfl | rfl <;> rfl)
theorem e211_0 {d : Nat} {st : List AV} {h : AM} {x : Int} : EV d 211 0 [(2, x)] st h = EV d 211 1 [(2, x)] ((2, x) :: st) h := G_aload_n (m211 dX11_isKept_0) rfl
theorem e211_1 {d : Nat} {L st : List AV} {h : AM} {r : Int} (hs : st.length ≤ 4) (hk : isK h r 11) : EV (d + 1) 211 1 L ((2, r) :: st) h = (EV d 197 0 [(2, r)] [] h).bind (fun q => EV (d + 1) 211 4 L (psh q.1 st) q.2) := G_cv [] (m211 dX11_isKept_1) ow211 tr_11_178 (by decide) td197 np197 ml197 ow197 rfl rfl (Nat.le_of_ble_eq_true rfl) rfl hs hk
theorem e211_4 {d : Nat} {L st : List AV} {h : AM} {a : Int} : EV d 211 4 L ((0, a) :: st) h = if a = 0 then EV d 211 7 L st h else EV d 211 77 L st h := (E_if (m211 dX11_isKept_4) (t := 77) rfl).trans cc_ne
theorem e211_7 {d : Nat} {st : List AV} {h : AM} {x : Int} : EV d 211 7 [(2, x)] st h = EV d 211 8 [(2, x)] ((2, x) :: st) h := G_aload_n (m211 dX11_isKept_7) rfl
theorem e211_8 {d : Nat} {L st : List AV} {h : AM} {r : Int} (hs : st.length ≤ 4) (hk : isK h r 11) : EV (d + 1) 211 8 L ((2, r) :: st) h = (EV d 198 0 [(2, r)] [] h).bind (fun q => EV (d + 1) 211 11 L (psh q.1 st) q.2) := G_cv [] (m211 dX11_isKept_8) ow211 tr_11_182 (by decide) td198 np198 ml198 ow198 rfl rfl (Nat.le_of_ble_eq_true rfl) rfl hs hk
theorem e211_11 {d : Nat} {L st : List AV} {h : AM} {a : Int} : EV d 211 11 L ((0, a) :: st) h = if a = 0 then EV d 211 14 L st h else EV d 211 77 L st h := (E_if (m211 dX11_isKept_11) (t := 77) rfl).trans cc_ne
theorem e211_14 {d : Nat} {st : List AV} {h : AM} {x : Int} : EV d 211 14 [(2, x)] st h = EV d 211 15 [(2, x)] ((2, x) :: st) h := G_aload_n (m211 dX11_isKept_14) rfl
theorem e211_15 {d : Nat} {L st : List AV} {h : AM} {r : Int} (hs : st.length ≤ 4) (hk : isK h r 11) : EV (d + 1) 211 15 L ((2, r) :: st) h = (EV d 199 0 [(2, r)] [] h).bind (fun q => EV (d + 1) 211 18 L (psh q.1 st) q.2) := G_cv [] (m211 dX11_isKept_15) ow211 tr_11_185 (by decide) td199 np199 ml199 ow199 rfl rfl (Nat.le_of_ble_eq_true rfl) rfl hs hk
theorem e211_18 {d : Nat} {L st : List AV} {h : AM} {a : Int} : EV d 211 18 L ((0, a) :: st) h = if a = 0 then EV d 211 21 L st h else EV d 211 77 L st h := (E_if (m211 dX11_isKept_18) (t := 77) rfl).trans cc_ne
theorem e211_21 {d : Nat} {st : List AV} {h : AM} {x : Int} : EV d 211 21 [(2, x)] st h = EV d 211 22 [(2, x)] ((2, x) :: st) h := G_aload_n (m211 dX11_isKept_21) rfl
theorem e211_22 {d : Nat} {L st : List AV} {h : AM} {r : Int} (hs : st.length ≤ 4) (hk : isK h r 11) : EV (d + 1) 211 22 L ((2, r) :: st) h = (EV d 200 0 [(2, r)] [] h).bind (fun q => EV (d + 1) 211 25 L (psh q.1 st) q.2) := G_cv [] (m211 dX11_isKept_22) ow211 tr_11_188 (by decide) td200 np200 ml200 ow200 rfl rfl (Nat.le_of_ble_eq_true rfl) rfl hs hk
theorem e211_25 {d : Nat} {L st : List AV} {h : AM} {a : Int} : EV d 211 25 L ((0, a) :: st) h = if a = 0 then EV d 211 28 L st h else EV d 211 77 L st h := (E_if (m211 dX11_isKept_25) (t := 77) rfl).trans cc_ne
theorem e211_28 {d : Nat} {st : List AV} {h : AM} {x : Int} : EV d 211 28 [(2, x)] st h = EV d 211 29 [(2, x)] ((2, x) :: st) h := G_aload_n (m211 dX11_isKept_28) rfl
theorem e211_29 {d : Nat} {L st : List AV} {h : AM} {r : Int} (hs : st.length ≤ 4) (hk : isK h r 11) : EV (d + 1) 211 29 L ((2, r) :: st) h = (EV d 201 0 [(2, r)] [] h).bind (fun q => EV (d + 1) 211 32 L (psh q.1 st) q.2) := G_cv [] (m211 dX11_isKept_29) ow211 tr_11_191 (by decide) td201 np201 ml201 ow201 rfl rfl (Nat.le_of_ble_eq_true rfl) rfl hs hk
theorem e211_32 {d : Nat} {L st : List AV} {h : AM} {a : Int} : EV d 211 32 L ((0, a) :: st) h = if a = 0 then EV d 211 35 L st h else EV d 211 77 L st h := (E_if (m211 dX11_isKept_32) (t := 77) rfl).trans cc_ne
theorem e211_35 {d : Nat} {st : List AV} {h : AM} {x : Int} : EV d 211 35 [(2, x)] st h = EV d 211 36 [(2, x)] ((2, x) :: st) h := G_aload_n (m211 dX11_isKept_35) rfl
theorem e211_36 {d : Nat} {L st : List AV} {h : AM} {r : Int} (hs : st.length ≤ 4) (hk : isK h r 11) : EV (d + 1) 211 36 L ((2, r) :: st) h = (EV d 202 0 [(2, r)] [] h).bind (fun q => EV (d + 1) 211 39 L (psh q.1 st) q.2) := G_cv [] (m211 dX11_isKept_36) ow211 tr_11_194 (by decide) td202 np202 ml202 ow202 rfl rfl (Nat.le_of_ble_eq_true rfl) rfl hs hk
theorem e211_39 {d : Nat} {L st : List AV} {h : AM} {a : Int} : EV d 211 39 L ((0, a) :: st) h = if a = 0 then EV d 211 42 L st h else EV d 211 77 L st h := (E_if (m211 dX11_isKept_39) (t := 77) rfl).trans cc_ne
theorem e211_42 {d : Nat} {st : List AV} {h : AM} {x : Int} : EV d 211 42 [(2, x)] st h = EV d 211 43 [(2, x)] ((2, x) :: st) h := G_aload_n (m211 dX11_isKept_42) rfl
theorem e211_43 {d : Nat} {L st : List AV} {h : AM} {r : Int} (hs : st.length ≤ 4) (hk : isK h r 11) : EV (d + 1) 211 43 L ((2, r) :: st) h = (EV d 203 0 [(2, r)] [] h).bind (fun q => EV (d + 1) 211 46 L (psh q.1 st) q.2) := G_cv [] (m211 dX11_isKept_43) ow211 tr_11_197 (by decide) td203 np203 ml203 ow203 rfl rfl (Nat.le_of_ble_eq_true rfl) rfl hs hk
theorem e211_46 {d : Nat} {L st : List AV} {h : AM} {a : Int} : EV d 211 46 L ((0, a) :: st) h = if a = 0 then EV d 211 49 L st h else EV d 211 77 L st h := (E_if (m211 dX11_isKept_46) (t := 77) rfl).trans cc_ne
theorem e211_49 {d : Nat} {st : List AV} {h : AM} {x : Int} : EV d 211 49 [(2, x)] st h = EV d 211 50 [(2, x)] ((2, x) :: st) h := G_aload_n (m211 dX11_isKept_49) rfl
theorem e211_50 {d : Nat} {L st : List AV} {h : AM} {r : Int} (hs : st.length ≤ 4) (hk : isK h r 11) : EV (d + 1) 211 50 L ((2, r) :: st) h = (EV d 204 0 [(2, r)] [] h).bind (fun q => EV (d + 1) 211 53 L (psh q.1 st) q.2) := G_cv [] (m211 dX11_isKept_50) ow211 tr_11_200 (by decide) td204 np204 ml204 ow204 rfl rfl (Nat.le_of_ble_eq_true rfl) rfl hs hk
theorem e211_53 {d : Nat} {L st : List AV} {h : AM} {a : Int} : EV d 211 53 L ((0, a) :: st) h = if a = 0 then EV d 211 56 L st h else EV d 211 77 L st h := (E_if (m211 dX11_isKept_53) (t := 77) rfl).trans cc_ne
theorem e211_56 {d : Nat} {st : List AV} {h : AM} {x : Int} : EV d 211 56 [(2, x)] st h = EV d 211 57 [(2, x)] ((2, x) :: st) h := G_aload_n (m211 dX11_isKept_56) rfl
theorem e211_57 {d : Nat} {L st : List AV} {h : AM} {r : Int} (hs : st.length ≤ 4) (hk : isK h r 11) : EV (d + 1) 211 57 L ((2, r) :: st) h = (EV d 205 0 [(2, r)] [] h).bind (fun q => EV (d + 1) 211 60 L (psh q.1 st) q.2) := G_cv [] (m211 dX11_isKept_57) ow211 tr_11_203 (by decide) td205 np205 ml205 ow205 rfl rfl (Nat.le_of_ble_eq_true rfl) rfl hs hk
theorem e211_60 {d : Nat} {L st : List AV} {h : AM} {a : Int} : EV d 211 60 L ((0, a) :: st) h = if a = 0 then EV d 211 63 L st h else EV d 211 77 L st h := (E_if (m211 dX11_isKept_60) (t := 77) rfl).trans cc_ne
theorem e211_63 {d : Nat} {st : List AV} {h : AM} {x : Int} : EV d 211 63 [(2, x)] st h = EV d 211 64 [(2, x)] ((2, x) :: st) h := G_aload_n (m211 dX11_isKept_63) rfl
theorem e211_64 {d : Nat} {L st : List AV} {h : AM} {r : Int} (hs : st.length ≤ 4) (hk : isK h r 11) : EV (d + 1) 211 64 L ((2, r) :: st) h = (EV d 206 0 [(2, r)] [] h).bind (fun q => EV (d + 1) 211 67 L (psh q.1 st) q.2) := G_cv [] (m211 dX11_isKept_64) ow211 tr_11_206 (by decide) td206 np206 ml206 ow206 rfl rfl (Nat.le_of_ble_eq_true rfl) rfl hs hk
theorem e211_67 {d : Nat} {L st : List AV} {h : AM} {a : Int} : EV d 211 67 L ((0, a) :: st) h = if a = 0 then EV d 211 70 L st h else EV d 211 77 L st h := (E_if (m211 dX11_isKept_67) (t := 77) rfl).trans cc_ne
theorem e211_70 {d : Nat} {st : List AV} {h : AM} {x : Int} : EV d 211 70 [(2, x)] st h = EV d 211 71 [(2, x)] ((2, x) :: st) h := G_aload_n (m211 dX11_isKept_70) rfl
theorem e211_71 {d : Nat} {L st : List AV} {h : AM} {r : Int} (hs : st.length ≤ 4) (hk : isK h r 11) : EV (d + 1) 211 71 L ((2, r) :: st) h = (EV d 207 0 [(2, r)] [] h).bind (fun q => EV (d + 1) 211 74 L (psh q.1 st) q.2) := G_cv [] (m211 dX11_isKept_71) ow211 tr_11_209 (by decide) td207 np207 ml207 ow207 rfl rfl (Nat.le_of_ble_eq_true rfl) rfl hs hk
theorem e211_74 {d : Nat} {L st : List AV} {h : AM} {a : Int} : EV d 211 74 L ((0, a) :: st) h = if a = 0 then EV d 211 79 L st h else EV d 211 77 L st h := (E_if (m211 dX11_isKept_74) (t := 79) rfl).trans cc_eq
theorem e211_77 {d : Nat} {L st : List AV} {h : AM} : EV d 211 77 L st h = EV d 211 78 L ((0, 1) :: st) h := G_iconst (m211 dX11_isKept_77) (by decide)
theorem e211_78 {d : Nat} {L : List AV} {h : AM} {v : Int} (hv : v = 0 ∨ v = 1) : EV d 211 78 L [(0, v)] h = some ((0, v), h) := E_iret (m211 dX11_isKept_78) (by rw [rt211]; rcases hv with rfl | rfl <;> rfl)
theorem e211_79 {d : Nat} {st : List AV} {h : AM} {x : Int} : EV d 211 79 [(2, x)] st h = EV d 211 80 [(2, x)] ((2, x) :: st) h := G_aload_n (m211 dX11_isKept_79) rfl
theorem e211_80 {d : Nat} {L st : List AV} {h : AM} {r : Int} (hs : st.length ≤ 4) (hk : isK h r 11) : EV (d + 1) 211 80 L ((2, r) :: st) h = (EV d 208 0 [(2, r)] [] h).bind (fun q => EV (d + 1) 211 83 L (psh q.1 st) q.2) := G_cv [] (m211 dX11_isKept_80) ow211 tr_11_212 (by decide) td208 np208 ml208 ow208 rfl rfl (Nat.le_of_ble_eq_true rfl) rfl hs hk
theorem e211_83 {d : Nat} {L st : List AV} {h : AM} {a : Int} : EV d 211 83 L ((0, a) :: st) h = if a < 0 then EV d 211 86 L st h else EV d 211 100 L st h := (E_if (m211 dX11_isKept_83) (t := 100) rfl).trans cc_ge
theorem e211_86 {d : Nat} {st : List AV} {h : AM} {x : Int} : EV d 211 86 [(2, x)] st h = EV d 211 87 [(2, x)] ((2, x) :: st) h := G_aload_n (m211 dX11_isKept_86) rfl
theorem e211_87 {d : Nat} {L st : List AV} {h : AM} {r : Int} (hs : st.length ≤ 4) (hk : isK h r 11) : EV (d + 1) 211 87 L ((2, r) :: st) h = (EV d 209 0 [(2, r)] [] h).bind (fun q => EV (d + 1) 211 90 L (psh q.1 st) q.2) := G_cv [] (m211 dX11_isKept_87) ow211 tr_11_216 (by decide) td209 np209 ml209 ow209 rfl rfl (Nat.le_of_ble_eq_true rfl) rfl hs hk
theorem e211_90 {d : Nat} {L st : List AV} {h : AM} {a : Int} : EV d 211 90 L ((0, a) :: st) h = if a < 0 then EV d 211 93 L st h else EV d 211 100 L st h := (E_if (m211 dX11_isKept_90) (t := 100) rfl).trans cc_ge
theorem e211_93 {d : Nat} {st : List AV} {h : AM} {x : Int} : EV d 211 93 [(2, x)] st h = EV d 211 94 [(2, x)] ((2, x) :: st) h := G_aload_n (m211 dX11_isKept_93) rfl
theorem e211_94 {d : Nat} {L st : List AV} {h : AM} {r : Int} (hs : st.length ≤ 4) (hk : isK h r 11) : EV (d + 1) 211 94 L ((2, r) :: st) h = (EV d 210 0 [(2, r)] [] h).bind (fun q => EV (d + 1) 211 97 L (psh q.1 st) q.2) := G_cv [] (m211 dX11_isKept_94) ow211 tr_11_219 (by decide) td210 np210 ml210 ow210 rfl rfl (Nat.le_of_ble_eq_true rfl) rfl hs hk
theorem e211_97 {d : Nat} {L st : List AV} {h : AM} {a : Int} : EV d 211 97 L ((0, a) :: st) h = if a = 0 then EV d 211 104 L st h else EV d 211 100 L st h := (E_if (m211 dX11_isKept_97) (t := 104) rfl).trans cc_eq
theorem e211_100 {d : Nat} {L st : List AV} {h : AM} : EV d 211 100 L st h = EV d 211 101 L ((0, 1) :: st) h := G_iconst (m211 dX11_isKept_100) (by decide)
theorem e211_101 {d : Nat} {L st : List AV} {h : AM} : EV d 211 101 L st h = EV d 211 105 L st h := G_goto (m211 dX11_isKept_101) rfl
theorem e211_104 {d : Nat} {L st : List AV} {h : AM} : EV d 211 104 L st h = EV d 211 105 L ((0, 0) :: st) h := G_iconst (m211 dX11_isKept_104) (by decide)
theorem e211_105 {d : Nat} {L : List AV} {h : AM} {v : Int} (hv : v = 0 ∨ v = 1) : EV d 211 105 L [(0, v)] h = some ((0, v), h) := E_iret (m211 dX11_isKept_105) (by rw [rt211]; rcases hv with rfl | rfl <;> rfl)
theorem e212_0 {d : Nat} {st : List AV} {h : AM} {x : Int} : EV d 212 0 [(2, x)] st h = EV d 212 1 [(2, x)] ((2, x) :: st) h := G_aload_n (m212 dX11_isName_0) rfl
theorem e212_1 {d : Nat} {L st : List AV} {h : AM} {r : Int} (hk : isK h r 11) : EV d 212 1 L ((2, r) :: st) h = EV d 212 4 L ((0, mrd h r 14) :: st) h := G_get (m212 dX11_isName_1) ow212 tf_11_145 rfl rfl hk
theorem e212_4 {d : Nat} {L st : List AV} {h : AM} : EV d 212 4 L st h = EV d 212 5 L ((0, 1) :: st) h := G_iconst (m212 dX11_isName_4) (by decide)
theorem e212_5 {d : Nat} {L st : List AV} {h : AM} {a b : Int} : EV d 212 5 L ((0, b) :: (0, a) :: st) h = if a = b then EV d 212 8 L st h else EV d 212 28 L st h := (E_ic (m212 dX11_isName_5) (t := 28) rfl).trans cc_ne
theorem e212_8 {d : Nat} {st : List AV} {h : AM} {x : Int} : EV d 212 8 [(2, x)] st h = EV d 212 9 [(2, x)] ((2, x) :: st) h := G_aload_n (m212 dX11_isName_8) rfl
theorem e212_9 {d : Nat} {L st : List AV} {h : AM} {r : Int} (hk : isK h r 11) : EV d 212 9 L ((2, r) :: st) h = EV d 212 12 L ((0, mrd h r 18) :: st) h := G_get (m212 dX11_isName_9) ow212 tf_11_158 rfl rfl hk
theorem e212_12 {d : Nat} {L st : List AV} {h : AM} : EV d 212 12 L st h = EV d 212 14 L ((0, 8) :: st) h := G_bipush (m212 dX11_isName_12) (by decide)
theorem e212_14 {d : Nat} {L st : List AV} {h : AM} {a b : Int} : EV d 212 14 L ((0, b) :: (0, a) :: st) h = if b < a then EV d 212 28 L st h else EV d 212 17 L st h := (E_ic (m212 dX11_isName_14) (t := 28) rfl).trans cc_gt
theorem e212_17 {d : Nat} {st : List AV} {h : AM} {x : Int} : EV d 212 17 [(2, x)] st h = EV d 212 18 [(2, x)] ((2, x) :: st) h := G_aload_n (m212 dX11_isName_17) rfl
theorem e212_18 {d : Nat} {L st : List AV} {h : AM} {r : Int} (hs : st.length ≤ 4) (hk : isK h r 11) : EV (d + 1) 212 18 L ((2, r) :: st) h = (EV d 211 0 [(2, r)] [] h).bind (fun q => EV (d + 1) 212 21 L (psh q.1 st) q.2) := G_cv [] (m212 dX11_isName_18) ow212 tr_11_222 (by decide) td211 np211 ml211 ow211 rfl rfl (Nat.le_of_ble_eq_true rfl) rfl hs hk
theorem e212_21 {d : Nat} {L st : List AV} {h : AM} {a : Int} : EV d 212 21 L ((0, a) :: st) h = if a = 0 then EV d 212 24 L st h else EV d 212 28 L st h := (E_if (m212 dX11_isName_21) (t := 28) rfl).trans cc_ne
theorem e212_24 {d : Nat} {L st : List AV} {h : AM} : EV d 212 24 L st h = EV d 212 25 L ((0, 1) :: st) h := G_iconst (m212 dX11_isName_24) (by decide)
theorem e212_25 {d : Nat} {L st : List AV} {h : AM} : EV d 212 25 L st h = EV d 212 29 L st h := G_goto (m212 dX11_isName_25) rfl
theorem e212_28 {d : Nat} {L st : List AV} {h : AM} : EV d 212 28 L st h = EV d 212 29 L ((0, 0) :: st) h := G_iconst (m212 dX11_isName_28) (by decide)
theorem e212_29 {d : Nat} {L : List AV} {h : AM} {v : Int} (hv : v = 0 ∨ v = 1) : EV d 212 29 L [(0, v)] h = some ((0, v), h) := E_iret (m212 dX11_isName_29) (by rw [rt212]; rcases hv with rfl | rfl <;> rfl)
theorem e213_0 {d : Nat} {l1 l2 : AV} {st : List AV} {h : AM} {x : Int} : EV d 213 0 [(2, x), l1, l2] st h = EV d 213 1 [(2, x), l1, l2] ((2, x) :: st) h := G_aload_n (m213 dX11_fail_0) rfl
theorem e213_1 {d : Nat} {L st : List AV} {h : AM} {r : Int} (hk : isK h r 11) : EV d 213 1 L ((2, r) :: st) h = EV d 213 4 L ((0, mrd h r 12) :: st) h := G_get (m213 dX11_fail_1) ow213 tf_11_225 rfl rfl hk
theorem e213_4 {d : Nat} {L st : List AV} {h : AM} {a : Int} : EV d 213 4 L ((0, a) :: st) h = if 0 < a then EV d 213 7 L st h else EV d 213 8 L st h := (E_if (m213 dX11_fail_4) (t := 8) rfl).trans cc_le
theorem e213_7 {d : Nat} {L : List AV} {h : AM} : EV d 213 7 L [] h = some ((3, 0), h) := E_ret (m213 dX11_fail_7) rt213
theorem e213_8 {d : Nat} {l1 l2 : AV} {st : List AV} {h : AM} {x : Int} : EV d 213 8 [(2, x), l1, l2] st h = EV d 213 9 [(2, x), l1, l2] ((2, x) :: st) h := G_aload_n (m213 dX11_fail_8) rfl
theorem e213_9 {d : Nat} {l0 l2 : AV} {st : List AV} {h : AM} {x : Int} : EV d 213 9 [l0, (0, x), l2] st h = EV d 213 10 [l0, (0, x), l2] ((0, x) :: st) h := G_iload_n (m213 dX11_fail_9) rfl
theorem pk_213_11_12 : pok 213 11 12 0 = true := by decide +kernel
theorem e213_10 {d : Nat} {L st : List AV} {h : AM} {r v : Int} (hk : isK h r 11) : EV d 213 10 L ((0, v) :: (2, r) :: st) h = EV d 213 13 L st (mwr h r 12 v) := G_put (m213 dX11_fail_10) ow213 tf_11_225 pk_213_11_12 rfl hk
theorem e213_13 {d : Nat} {l1 l2 : AV} {st : List AV} {h : AM} {x : Int} : EV d 213 13 [(2, x), l1, l2] st h = EV d 213 14 [(2, x), l1, l2] ((2, x) :: st) h := G_aload_n (m213 dX11_fail_13) rfl
theorem e213_14 {d : Nat} {l0 l1 : AV} {st : List AV} {h : AM} {x : Int} : EV d 213 14 [l0, l1, (0, x)] st h = EV d 213 15 [l0, l1, (0, x)] ((0, x) :: st) h := G_iload_n (m213 dX11_fail_14) rfl
theorem pk_213_11_13 : pok 213 11 13 0 = true := by decide +kernel
theorem e213_15 {d : Nat} {L st : List AV} {h : AM} {r v : Int} (hk : isK h r 11) : EV d 213 15 L ((0, v) :: (2, r) :: st) h = EV d 213 18 L st (mwr h r 13 v) := G_put (m213 dX11_fail_15) ow213 tf_11_228 pk_213_11_13 rfl hk
theorem e213_18 {d : Nat} {L : List AV} {h : AM} : EV d 213 18 L [] h = some ((3, 0), h) := E_ret (m213 dX11_fail_18) rt213
theorem e214_0 {d : Nat} {st : List AV} {h : AM} {x : Int} : EV d 214 0 [(2, x)] st h = EV d 214 1 [(2, x)] ((2, x) :: st) h := G_aload_n (m214 dX11_wrong_0) rfl
theorem e214_1 {d : Nat} {st : List AV} {h : AM} {x : Int} : EV d 214 1 [(2, x)] st h = EV d 214 2 [(2, x)] ((2, x) :: st) h := G_aload_n (m214 dX11_wrong_1) rfl
theorem e214_2 {d : Nat} {L st : List AV} {h : AM} {r : Int} (hk : isK h r 11) : EV d 214 2 L ((2, r) :: st) h = EV d 214 5 L ((0, mrd h r 14) :: st) h := G_get (m214 dX11_wrong_2) ow214 tf_11_145 rfl rfl hk
theorem e214_5 {d : Nat} {L st : List AV} {h : AM} : EV d 214 5 L st h = EV d 214 6 L ((0, 4) :: st) h := G_iconst (m214 dX11_wrong_5) (by decide)
theorem e214_6 {d : Nat} {L st : List AV} {h : AM} {a b : Int} : EV d 214 6 L ((0, b) :: (0, a) :: st) h = if a = b then EV d 214 9 L st h else EV d 214 13 L st h := (E_ic (m214 dX11_wrong_6) (t := 13) rfl).trans cc_ne
theorem e214_9 {d : Nat} {L st : List AV} {h : AM} : EV d 214 9 L st h = EV d 214 10 L ((0, 1) :: st) h := G_iconst (m214 dX11_wrong_9) (by decide)
theorem e214_10 {d : Nat} {L st : List AV} {h : AM} : EV d 214 10 L st h = EV d 214 14 L st h := G_goto (m214 dX11_wrong_10) rfl
theorem e214_13 {d : Nat} {L st : List AV} {h : AM} : EV d 214 13 L st h = EV d 214 14 L ((0, 2) :: st) h := G_iconst (m214 dX11_wrong_13) (by decide)
theorem e214_14 {d : Nat} {st : List AV} {h : AM} {x : Int} : EV d 214 14 [(2, x)] st h = EV d 214 15 [(2, x)] ((2, x) :: st) h := G_aload_n (m214 dX11_wrong_14) rfl
theorem e214_15 {d : Nat} {L st : List AV} {h : AM} {r : Int} (hk : isK h r 11) : EV d 214 15 L ((2, r) :: st) h = EV d 214 18 L ((0, mrd h r 15) :: st) h := G_get (m214 dX11_wrong_15) ow214 tf_11_139 rfl rfl hk
theorem e214_18 {d : Nat} {L st : List AV} {h : AM} {r p0 p1 : Int} (hs : st.length ≤ 4) (hk : isK h r 11) : EV (d + 1) 214 18 L ((0, p1) :: (0, p0) :: (2, r) :: st) h = (EV d 213 0 [(2, r), (0, p0), (0, p1)] [] h).bind (fun q => EV (d + 1) 214 21 L (psh q.1 st) q.2) := G_cv [(0, p0), (0, p1)] (m214 dX11_wrong_18) ow214 tr_11_231 (by decide) td213 np213 ml213 ow213 rfl rfl (Nat.le_of_ble_eq_true rfl) rfl hs hk
theorem e214_21 {d : Nat} {L : List AV} {h : AM} : EV d 214 21 L [] h = some ((3, 0), h) := E_ret (m214 dX11_wrong_21) rt214
theorem e215_0 {d : Nat} {l1 : AV} {st : List AV} {h : AM} {x : Int} : EV d 215 0 [(2, x), l1] st h = EV d 215 1 [(2, x), l1] ((2, x) :: st) h := G_aload_n (m215 dX11_must_0) rfl
theorem e215_1 {d : Nat} {L st : List AV} {h : AM} {r : Int} (hk : isK h r 11) : EV d 215 1 L ((2, r) :: st) h = EV d 215 4 L ((0, mrd h r 12) :: st) h := G_get (m215 dX11_must_1) ow215 tf_11_225 rfl rfl hk
theorem e215_4 {d : Nat} {L st : List AV} {h : AM} {a : Int} : EV d 215 4 L ((0, a) :: st) h = if 0 < a then EV d 215 7 L st h else EV d 215 8 L st h := (E_if (m215 dX11_must_4) (t := 8) rfl).trans cc_le
theorem e215_7 {d : Nat} {L : List AV} {h : AM} : EV d 215 7 L [] h = some ((3, 0), h) := E_ret (m215 dX11_must_7) rt215
theorem e215_8 {d : Nat} {l0 : AV} {st : List AV} {h : AM} {x : Int} : EV d 215 8 [l0, (0, x)] st h = EV d 215 9 [l0, (0, x)] ((0, x) :: st) h := G_iload_n (m215 dX11_must_8) rfl
theorem e215_9 {d : Nat} {L st : List AV} {h : AM} {a : Int} : EV d 215 9 L ((0, a) :: st) h = if a = 0 then EV d 215 19 L st h else EV d 215 12 L st h := (E_if (m215 dX11_must_9) (t := 19) rfl).trans cc_eq
theorem e215_12 {d : Nat} {l1 : AV} {st : List AV} {h : AM} {x : Int} : EV d 215 12 [(2, x), l1] st h = EV d 215 13 [(2, x), l1] ((2, x) :: st) h := G_aload_n (m215 dX11_must_12) rfl
theorem e215_13 {d : Nat} {L st : List AV} {h : AM} {r : Int} (hs : st.length ≤ 4) (hk : isK h r 11) : EV (d + 1) 215 13 L ((2, r) :: st) h = (EV d 193 0 [(2, r), (3, 0)] [] h).bind (fun q => EV (d + 1) 215 16 L (psh q.1 st) q.2) := G_cv [] (m215 dX11_must_13) ow215 tr_11_235 (by decide) td193 np193 ml193 ow193 rfl rfl (Nat.le_of_ble_eq_true rfl) rfl hs hk
theorem e215_16 {d : Nat} {L st : List AV} {h : AM} : EV d 215 16 L st h = EV d 215 23 L st h := G_goto (m215 dX11_must_16) rfl
theorem e215_19 {d : Nat} {l1 : AV} {st : List AV} {h : AM} {x : Int} : EV d 215 19 [(2, x), l1] st h = EV d 215 20 [(2, x), l1] ((2, x) :: st) h := G_aload_n (m215 dX11_must_19) rfl
theorem e215_20 {d : Nat} {L st : List AV} {h : AM} {r : Int} (hs : st.length ≤ 4) (hk : isK h r 11) : EV (d + 1) 215 20 L ((2, r) :: st) h = (EV d 214 0 [(2, r)] [] h).bind (fun q => EV (d + 1) 215 23 L (psh q.1 st) q.2) := G_cv [] (m215 dX11_must_20) ow215 tr_11_238 (by decide) td214 np214 ml214 ow214 rfl rfl (Nat.le_of_ble_eq_true rfl) rfl hs hk
theorem e215_23 {d : Nat} {L : List AV} {h : AM} : EV d 215 23 L [] h = some ((3, 0), h) := E_ret (m215 dX11_must_23) rt215
theorem e216_0 {d : Nat} {l1 l2 l3 : AV} {st : List AV} {h : AM} {x : Int} : EV d 216 0 [(2, x), l1, l2, l3] st h = EV d 216 1 [(2, x), l1, l2, l3] ((2, x) :: st) h := G_aload_n (m216 dX11_count_0) rfl
theorem e216_1 {d : Nat} {L st : List AV} {h : AM} {r : Int} (hk : isK h r 11) : EV d 216 1 L ((2, r) :: st) h = EV d 216 4 L ((0, mrd h r 12) :: st) h := G_get (m216 dX11_count_1) ow216 tf_11_225 rfl rfl hk
theorem e216_4 {d : Nat} {L st : List AV} {h : AM} {a : Int} : EV d 216 4 L ((0, a) :: st) h = if a = 0 then EV d 216 7 L st h else EV d 216 19 L st h := (E_if (m216 dX11_count_4) (t := 19) rfl).trans cc_ne
theorem e216_7 {d : Nat} {l1 l2 l3 : AV} {st : List AV} {h : AM} {x : Int} : EV d 216 7 [(2, x), l1, l2, l3] st h = EV d 216 8 [(2, x), l1, l2, l3] ((2, x) :: st) h := G_aload_n (m216 dX11_count_7) rfl
theorem e216_8 {d : Nat} {L st : List AV} {h : AM} {r : Int} (hk : isK h r 11) : EV d 216 8 L ((2, r) :: st) h = EV d 216 11 L ((0, mrd h r 14) :: st) h := G_get (m216 dX11_count_8) ow216 tf_11_145 rfl rfl hk
theorem e216_11 {d : Nat} {L st : List AV} {h : AM} : EV d 216 11 L st h = EV d 216 12 L ((0, 2) :: st) h := G_iconst (m216 dX11_count_11) (by decide)
theorem e216_12 {d : Nat} {L st : List AV} {h : AM} {a b : Int} : EV d 216 12 L ((0, b) :: (0, a) :: st) h = if a = b then EV d 216 19 L st h else EV d 216 15 L st h := (E_ic (m216 dX11_count_12) (t := 19) rfl).trans cc_eq
theorem e216_15 {d : Nat} {l1 l2 l3 : AV} {st : List AV} {h : AM} {x : Int} : EV d 216 15 [(2, x), l1, l2, l3] st h = EV d 216 16 [(2, x), l1, l2, l3] ((2, x) :: st) h := G_aload_n (m216 dX11_count_15) rfl
theorem e216_16 {d : Nat} {L st : List AV} {h : AM} {r : Int} (hs : st.length ≤ 4) (hk : isK h r 11) : EV (d + 1) 216 16 L ((2, r) :: st) h = (EV d 214 0 [(2, r)] [] h).bind (fun q => EV (d + 1) 216 19 L (psh q.1 st) q.2) := G_cv [] (m216 dX11_count_16) ow216 tr_11_238 (by decide) td214 np214 ml214 ow214 rfl rfl (Nat.le_of_ble_eq_true rfl) rfl hs hk
theorem e216_19 {d : Nat} {l1 l2 l3 : AV} {st : List AV} {h : AM} {x : Int} : EV d 216 19 [(2, x), l1, l2, l3] st h = EV d 216 20 [(2, x), l1, l2, l3] ((2, x) :: st) h := G_aload_n (m216 dX11_count_19) rfl
theorem e216_20 {d : Nat} {L st : List AV} {h : AM} {r : Int} (hk : isK h r 11) : EV d 216 20 L ((2, r) :: st) h = EV d 216 23 L ((0, mrd h r 12) :: st) h := G_get (m216 dX11_count_20) ow216 tf_11_225 rfl rfl hk
theorem e216_23 {d : Nat} {L st : List AV} {h : AM} {a : Int} : EV d 216 23 L ((0, a) :: st) h = if a = 0 then EV d 216 26 L st h else EV d 216 50 L st h := (E_if (m216 dX11_count_23) (t := 50) rfl).trans cc_ne
theorem e216_26 {d : Nat} {l1 l2 l3 : AV} {st : List AV} {h : AM} {x : Int} : EV d 216 26 [(2, x), l1, l2, l3] st h = EV d 216 27 [(2, x), l1, l2, l3] ((2, x) :: st) h := G_aload_n (m216 dX11_count_26) rfl
theorem e216_27 {d : Nat} {L st : List AV} {h : AM} {r : Int} (hk : isK h r 11) : EV d 216 27 L ((2, r) :: st) h = EV d 216 30 L ((0, mrd h r 17) :: st) h := G_get (m216 dX11_count_27) ow216 tf_11_164 rfl rfl hk
theorem e216_30 {d : Nat} {L st : List AV} {h : AM} {a : Int} : EV d 216 30 L ((0, a) :: st) h = EV d 216 31 L ((1, a) :: st) h := G_i2l (m216 dX11_count_30)
theorem e216_31 {d : Nat} {l0 l2 l3 : AV} {st : List AV} {h : AM} {x : Int} : EV d 216 31 [l0, (0, x), l2, l3] st h = EV d 216 32 [l0, (0, x), l2, l3] ((0, x) :: st) h := G_iload_n (m216 dX11_count_31) rfl
theorem e216_32 {d : Nat} {L st : List AV} {h : AM} {a : Int} : EV d 216 32 L ((0, a) :: st) h = EV d 216 33 L ((1, a) :: st) h := G_i2l (m216 dX11_count_32)
theorem e216_33 {d : Nat} {l0 l1 l3 : AV} {st : List AV} {h : AM} {x : Int} : EV d 216 33 [l0, l1, (0, x), l3] st h = EV d 216 34 [l0, l1, (0, x), l3] ((0, x) :: st) h := G_iload_n (m216 dX11_count_33) rfl
theorem e216_34 {d : Nat} {L st : List AV} {h : AM} {a : Int} : EV d 216 34 L ((0, a) :: st) h = EV d 216 35 L ((1, a) :: st) h := G_i2l (m216 dX11_count_34)
theorem e216_35 {d : Nat} {L st : List AV} {h : AM} {p0 p1 p2 : Int} (hs : st.length ≤ 4) : EV (d + 1) 216 35 L ((1, p2) :: (1, p1) :: (1, p0) :: st) h = (EV d 177 0 [(1, p0), (3, 1), (1, p1), (3, 1), (1, p2), (3, 1)] [] h).bind (fun q => EV (d + 1) 216 38 L (psh q.1 st) q.2) := G_cs [(1, p0), (1, p1), (1, p2)] (m216 dX11_count_35) ow216 tr_11_129 (by decide) td177 np177 ml177 rfl rfl (Nat.le_of_ble_eq_true rfl) rfl hs
theorem e216_38 {d : Nat} {L st : List AV} {h : AM} {a : Int} : EV d 216 38 L ((0, a) :: st) h = if a = 0 then EV d 216 41 L st h else EV d 216 50 L st h := (E_if (m216 dX11_count_38) (t := 50) rfl).trans cc_ne
theorem e216_41 {d : Nat} {l1 l2 l3 : AV} {st : List AV} {h : AM} {x : Int} : EV d 216 41 [(2, x), l1, l2, l3] st h = EV d 216 42 [(2, x), l1, l2, l3] ((2, x) :: st) h := G_aload_n (m216 dX11_count_41) rfl
theorem e216_42 {d : Nat} {L st : List AV} {h : AM} : EV d 216 42 L st h = EV d 216 43 L ((0, 4) :: st) h := G_iconst (m216 dX11_count_42) (by decide)
theorem e216_43 {d : Nat} {l1 l2 l3 : AV} {st : List AV} {h : AM} {x : Int} : EV d 216 43 [(2, x), l1, l2, l3] st h = EV d 216 44 [(2, x), l1, l2, l3] ((2, x) :: st) h := G_aload_n (m216 dX11_count_43) rfl
theorem e216_44 {d : Nat} {L st : List AV} {h : AM} {r : Int} (hk : isK h r 11) : EV d 216 44 L ((2, r) :: st) h = EV d 216 47 L ((0, mrd h r 15) :: st) h := G_get (m216 dX11_count_44) ow216 tf_11_139 rfl rfl hk
theorem e216_47 {d : Nat} {L st : List AV} {h : AM} {r p0 p1 : Int} (hs : st.length ≤ 4) (hk : isK h r 11) : EV (d + 1) 216 47 L ((0, p1) :: (0, p0) :: (2, r) :: st) h = (EV d 213 0 [(2, r), (0, p0), (0, p1)] [] h).bind (fun q => EV (d + 1) 216 50 L (psh q.1 st) q.2) := G_cv [(0, p0), (0, p1)] (m216 dX11_count_47) ow216 tr_11_231 (by decide) td213 np213 ml213 ow213 rfl rfl (Nat.le_of_ble_eq_true rfl) rfl hs hk
theorem e216_50 {d : Nat} {l1 l2 l3 : AV} {st : List AV} {h : AM} {x : Int} : EV d 216 50 [(2, x), l1, l2, l3] st h = EV d 216 51 [(2, x), l1, l2, l3] ((2, x) :: st) h := G_aload_n (m216 dX11_count_50) rfl
theorem e216_51 {d : Nat} {L st : List AV} {h : AM} {r : Int} (hk : isK h r 11) : EV d 216 51 L ((2, r) :: st) h = EV d 216 54 L ((0, mrd h r 12) :: st) h := G_get (m216 dX11_count_51) ow216 tf_11_225 rfl rfl hk
theorem e216_54 {d : Nat} {L st : List AV} {h : AM} {a : Int} : EV d 216 54 L ((0, a) :: st) h = if 0 < a then EV d 216 57 L st h else EV d 216 59 L st h := (E_if (m216 dX11_count_54) (t := 59) rfl).trans cc_le
theorem e216_57 {d : Nat} {L st : List AV} {h : AM} : EV d 216 57 L st h = EV d 216 58 L ((0, 0) :: st) h := G_iconst (m216 dX11_count_57) (by decide)
theorem e216_58 {d : Nat} {L : List AV} {h : AM} {v : Int} : EV d 216 58 L [(0, v)] h = some ((0, v), h) := E_iret (m216 dX11_count_58) (by rw [rt216]; rfl)
theorem e216_59 {d : Nat} {l1 l2 l3 : AV} {st : List AV} {h : AM} {x : Int} : EV d 216 59 [(2, x), l1, l2, l3] st h = EV d 216 60 [(2, x), l1, l2, l3] ((2, x) :: st) h := G_aload_n (m216 dX11_count_59) rfl
theorem e216_60 {d : Nat} {L st : List AV} {h : AM} {r : Int} (hk : isK h r 11) : EV d 216 60 L ((2, r) :: st) h = EV d 216 63 L ((0, mrd h r 17) :: st) h := G_get (m216 dX11_count_60) ow216 tf_11_164 rfl rfl hk
theorem e216_63 {d : Nat} {l0 l1 l2 l3 : AV} {st : List AV} {h : AM} {x : Int} : EV d 216 63 [l0, l1, l2, l3] ((0, x) :: st) h = EV d 216 64 [l0, l1, l2, (0, x)] st h := G_istore_n (m216 dX11_count_63) (Nat.le_of_ble_eq_true rfl) rfl
theorem e216_64 {d : Nat} {l1 l2 l3 : AV} {st : List AV} {h : AM} {x : Int} : EV d 216 64 [(2, x), l1, l2, l3] st h = EV d 216 65 [(2, x), l1, l2, l3] ((2, x) :: st) h := G_aload_n (m216 dX11_count_64) rfl
theorem e216_65 {d : Nat} {L st : List AV} {h : AM} {r : Int} (hs : st.length ≤ 4) (hk : isK h r 11) : EV (d + 1) 216 65 L ((2, r) :: st) h = (EV d 193 0 [(2, r), (3, 0)] [] h).bind (fun q => EV (d + 1) 216 68 L (psh q.1 st) q.2) := G_cv [] (m216 dX11_count_65) ow216 tr_11_235 (by decide) td193 np193 ml193 ow193 rfl rfl (Nat.le_of_ble_eq_true rfl) rfl hs hk
theorem e216_68 {d : Nat} {l0 l1 l2 : AV} {st : List AV} {h : AM} {x : Int} : EV d 216 68 [l0, l1, l2, (0, x)] st h = EV d 216 69 [l0, l1, l2, (0, x)] ((0, x) :: st) h := G_iload_n (m216 dX11_count_68) rfl
theorem e216_69 {d : Nat} {L : List AV} {h : AM} {v : Int} : EV d 216 69 L [(0, v)] h = some ((0, v), h) := E_iret (m216 dX11_count_69) (by rw [rt216]; rfl)
theorem e217_0 {d : Nat} {l1 l2 l3 l4 l5 : AV} {st : List AV} {h : AM} {x : Int} : EV d 217 0 [(2, x), l1, l2, l3, l4, l5] st h = EV d 217 1 [(2, x), l1, l2, l3, l4, l5] ((2, x) :: st) h := G_aload_n (m217 dX11_feed_0) rfl
theorem e217_1 {d : Nat} {L st : List AV} {h : AM} : EV d 217 1 L st h = EV d 217 2 L ((0, 0) :: st) h := G_iconst (m217 dX11_feed_1) (by decide)
theorem pk_217_11_1 : pok 217 11 1 0 = true := by decide +kernel
theorem e217_2 {d : Nat} {L st : List AV} {h : AM} {r v : Int} (hk : isK h r 11) : EV d 217 2 L ((0, v) :: (2, r) :: st) h = EV d 217 5 L st (mwr h r 1 v) := G_put (m217 dX11_feed_2) ow217 tf_11_94 pk_217_11_1 rfl hk
theorem e217_5 {d : Nat} {l1 l2 l3 l4 l5 : AV} {st : List AV} {h : AM} {x : Int} : EV d 217 5 [(2, x), l1, l2, l3, l4, l5] st h = EV d 217 6 [(2, x), l1, l2, l3, l4, l5] ((2, x) :: st) h := G_aload_n (m217 dX11_feed_5) rfl
theorem e217_6 {d : Nat} {L st : List AV} {h : AM} {r : Int} (hk : isK h r 11) : EV d 217 6 L ((2, r) :: st) h = EV d 217 9 L ((0, mrd h r 8) :: st) h := G_get (m217 dX11_feed_6) ow217 tf_11_241 rfl rfl hk
theorem e217_9 {d : Nat} {L st : List AV} {h : AM} : EV d 217 9 L st h = EV d 217 11 L ((0, 20) :: st) h := G_bipush (m217 dX11_feed_9) (by decide)
theorem e217_11 {d : Nat} {L st : List AV} {h : AM} {a b : Int} : EV d 217 11 L ((0, b) :: (0, a) :: st) h = EV d 217 12 L ((0, w32 (a + b)) :: st) h := E_iadd (m217 dX11_feed_11)
theorem e217_12 {d : Nat} {L st : List AV} {h : AM} : EV d 217 12 L st h = EV d 217 15 L ((0, 900) :: st) h := G_sipush (m217 dX11_feed_12) (by decide)
theorem e217_15 {d : Nat} {L st : List AV} {h : AM} {a b : Int} : EV d 217 15 L ((0, b) :: (0, a) :: st) h = if b < a then EV d 217 18 L st h else EV d 217 20 L st h := (E_ic (m217 dX11_feed_15) (t := 20) rfl).trans cc_le
theorem e217_18 {d : Nat} {L st : List AV} {h : AM} : EV d 217 18 L st h = EV d 217 19 L ((0, -1) :: st) h := G_iconst (m217 dX11_feed_18) (by decide)
theorem e217_19 {d : Nat} {L : List AV} {h : AM} {v : Int} : EV d 217 19 L [(0, v)] h = some ((0, v), h) := E_iret (m217 dX11_feed_19) (by rw [rt217]; rfl)
theorem e217_20 {d : Nat} {l1 l2 l3 l4 l5 : AV} {st : List AV} {h : AM} {x : Int} : EV d 217 20 [(2, x), l1, l2, l3, l4, l5] st h = EV d 217 21 [(2, x), l1, l2, l3, l4, l5] ((2, x) :: st) h := G_aload_n (m217 dX11_feed_20) rfl
theorem e217_21 {d : Nat} {l0 l2 l3 l4 l5 : AV} {st : List AV} {h : AM} {x : Int} : EV d 217 21 [l0, (0, x), l2, l3, l4, l5] st h = EV d 217 22 [l0, (0, x), l2, l3, l4, l5] ((0, x) :: st) h := G_iload_n (m217 dX11_feed_21) rfl
theorem e217_22 {d : Nat} {L st : List AV} {h : AM} {r p0 : Int} (hs : st.length ≤ 4) (hk : isK h r 11) : EV (d + 1) 217 22 L ((0, p0) :: (2, r) :: st) h = (EV d 218 0 [(2, r), (0, p0), (3, 0)] [] h).bind (fun q => EV (d + 1) 217 25 L (psh q.1 st) q.2) := G_cv [(0, p0)] (m217 dX11_feed_22) ow217 tr_11_244 (by decide) td218 np218 ml218 ow218 rfl rfl (Nat.le_of_ble_eq_true rfl) rfl hs hk
theorem e217_25 {d : Nat} {l1 l2 l3 l4 l5 : AV} {st : List AV} {h : AM} {x : Int} : EV d 217 25 [(2, x), l1, l2, l3, l4, l5] st h = EV d 217 26 [(2, x), l1, l2, l3, l4, l5] ((2, x) :: st) h := G_aload_n (m217 dX11_feed_25) rfl
theorem e217_26 {d : Nat} {l0 l1 l3 l4 l5 : AV} {st : List AV} {h : AM} {x : Int} : EV d 217 26 [l0, l1, (0, x), l3, l4, l5] st h = EV d 217 27 [l0, l1, (0, x), l3, l4, l5] ((0, x) :: st) h := G_iload_n (m217 dX11_feed_26) rfl
theorem e217_27 {d : Nat} {L st : List AV} {h : AM} {r p0 : Int} (hs : st.length ≤ 4) (hk : isK h r 11) : EV (d + 1) 217 27 L ((0, p0) :: (2, r) :: st) h = (EV d 218 0 [(2, r), (0, p0), (3, 0)] [] h).bind (fun q => EV (d + 1) 217 30 L (psh q.1 st) q.2) := G_cv [(0, p0)] (m217 dX11_feed_27) ow217 tr_11_244 (by decide) td218 np218 ml218 ow218 rfl rfl (Nat.le_of_ble_eq_true rfl) rfl hs hk
theorem e217_30 {d : Nat} {l1 l2 l3 l4 l5 : AV} {st : List AV} {h : AM} {x : Int} : EV d 217 30 [(2, x), l1, l2, l3, l4, l5] st h = EV d 217 31 [(2, x), l1, l2, l3, l4, l5] ((2, x) :: st) h := G_aload_n (m217 dX11_feed_30) rfl
theorem e217_31 {d : Nat} {l0 l1 l2 l4 l5 : AV} {st : List AV} {h : AM} {x : Int} : EV d 217 31 [l0, l1, l2, (0, x), l4, l5] st h = EV d 217 32 [l0, l1, l2, (0, x), l4, l5] ((0, x) :: st) h := G_iload_n (m217 dX11_feed_31) rfl
theorem e217_32 {d : Nat} {L st : List AV} {h : AM} {r p0 : Int} (hs : st.length ≤ 4) (hk : isK h r 11) : EV (d + 1) 217 32 L ((0, p0) :: (2, r) :: st) h = (EV d 218 0 [(2, r), (0, p0), (3, 0)] [] h).bind (fun q => EV (d + 1) 217 35 L (psh q.1 st) q.2) := G_cv [(0, p0)] (m217 dX11_feed_32) ow217 tr_11_244 (by decide) td218 np218 ml218 ow218 rfl rfl (Nat.le_of_ble_eq_true rfl) rfl hs hk
theorem e217_35 {d : Nat} {l1 l2 l3 l4 l5 : AV} {st : List AV} {h : AM} {x : Int} : EV d 217 35 [(2, x), l1, l2, l3, l4, l5] st h = EV d 217 36 [(2, x), l1, l2, l3, l4, l5] ((2, x) :: st) h := G_aload_n (m217 dX11_feed_35) rfl
theorem e217_36 {d : Nat} {l0 l1 l2 l3 l5 : AV} {st : List AV} {h : AM} {x : Int} : EV d 217 36 [l0, l1, l2, l3, (0, x), l5] st h = EV d 217 38 [l0, l1, l2, l3, (0, x), l5] ((0, x) :: st) h := G_iload (m217 dX11_feed_36) rfl
theorem e217_38 {d : Nat} {L st : List AV} {h : AM} {r p0 : Int} (hs : st.length ≤ 4) (hk : isK h r 11) : EV (d + 1) 217 38 L ((0, p0) :: (2, r) :: st) h = (EV d 218 0 [(2, r), (0, p0), (3, 0)] [] h).bind (fun q => EV (d + 1) 217 41 L (psh q.1 st) q.2) := G_cv [(0, p0)] (m217 dX11_feed_38) ow217 tr_11_244 (by decide) td218 np218 ml218 ow218 rfl rfl (Nat.le_of_ble_eq_true rfl) rfl hs hk
theorem e217_41 {d : Nat} {l1 l2 l3 l4 l5 : AV} {st : List AV} {h : AM} {x : Int} : EV d 217 41 [(2, x), l1, l2, l3, l4, l5] st h = EV d 217 42 [(2, x), l1, l2, l3, l4, l5] ((2, x) :: st) h := G_aload_n (m217 dX11_feed_41) rfl
theorem e217_42 {d : Nat} {l0 l1 l2 l3 l4 : AV} {st : List AV} {h : AM} {x : Int} : EV d 217 42 [l0, l1, l2, l3, l4, (0, x)] st h = EV d 217 44 [l0, l1, l2, l3, l4, (0, x)] ((0, x) :: st) h := G_iload (m217 dX11_feed_42) rfl
theorem e217_44 {d : Nat} {L st : List AV} {h : AM} {r p0 : Int} (hs : st.length ≤ 4) (hk : isK h r 11) : EV (d + 1) 217 44 L ((0, p0) :: (2, r) :: st) h = (EV d 218 0 [(2, r), (0, p0), (3, 0)] [] h).bind (fun q => EV (d + 1) 217 47 L (psh q.1 st) q.2) := G_cv [(0, p0)] (m217 dX11_feed_44) ow217 tr_11_244 (by decide) td218 np218 ml218 ow218 rfl rfl (Nat.le_of_ble_eq_true rfl) rfl hs hk
theorem e217_47 {d : Nat} {l1 l2 l3 l4 l5 : AV} {st : List AV} {h : AM} {x : Int} : EV d 217 47 [(2, x), l1, l2, l3, l4, l5] st h = EV d 217 48 [(2, x), l1, l2, l3, l4, l5] ((2, x) :: st) h := G_aload_n (m217 dX11_feed_47) rfl
theorem e217_48 {d : Nat} {L st : List AV} {h : AM} {r : Int} (hk : isK h r 11) : EV d 217 48 L ((2, r) :: st) h = EV d 217 51 L ((0, mrd h r 8) :: st) h := G_get (m217 dX11_feed_48) ow217 tf_11_241 rfl rfl hk
theorem e217_51 {d : Nat} {L : List AV} {h : AM} {v : Int} : EV d 217 51 L [(0, v)] h = some ((0, v), h) := E_iret (m217 dX11_feed_51) (by rw [rt217]; rfl)
theorem e218_0 {d : Nat} {L st : List AV} {h : AM} : EV d 218 0 L st h = EV d 218 1 L ((0, 3) :: st) h := G_iconst (m218 dX11_lay_0) (by decide)
theorem e218_1 {d : Nat} {l0 l1 l2 : AV} {st : List AV} {h : AM} {x : Int} : EV d 218 1 [l0, l1, l2] ((0, x) :: st) h = EV d 218 2 [l0, l1, (0, x)] st h := G_istore_n (m218 dX11_lay_1) (Nat.le_of_ble_eq_true rfl) rfl
theorem e218_2 {d : Nat} {l0 l1 : AV} {st : List AV} {h : AM} {x : Int} : EV d 218 2 [l0, l1, (0, x)] st h = EV d 218 3 [l0, l1, (0, x)] ((0, x) :: st) h := G_iload_n (m218 dX11_lay_2) rfl
theorem e218_3 {d : Nat} {L st : List AV} {h : AM} {a : Int} : EV d 218 3 L ((0, a) :: st) h = if a < 0 then EV d 218 38 L st h else EV d 218 6 L st h := (E_if (m218 dX11_lay_3) (t := 38) rfl).trans cc_lt
theorem e218_6 {d : Nat} {l1 l2 : AV} {st : List AV} {h : AM} {x : Int} : EV d 218 6 [(2, x), l1, l2] st h = EV d 218 7 [(2, x), l1, l2] ((2, x) :: st) h := G_aload_n (m218 dX11_lay_6) rfl
theorem e218_7 {d : Nat} {L st : List AV} {h : AM} {r : Int} (hk : isK h r 11) : EV d 218 7 L ((2, r) :: st) h = EV d 218 10 L ((2, mrd h r 7) :: st) h := G_get (m218 dX11_lay_7) ow218 tf_11_24 rfl rfl hk
theorem e218_10 {d : Nat} {l1 l2 : AV} {st : List AV} {h : AM} {x : Int} : EV d 218 10 [(2, x), l1, l2] st h = EV d 218 11 [(2, x), l1, l2] ((2, x) :: st) h := G_aload_n (m218 dX11_lay_10) rfl
theorem e218_11 {d : Nat} {L st : List AV} {h : AM} {r : Int} (hk : isK h r 11) : EV d 218 11 L ((2, r) :: st) h = EV d 218 14 L ((0, mrd h r 8) :: st) h := G_get (m218 dX11_lay_11) ow218 tf_11_241 rfl rfl hk
theorem e218_14 {d : Nat} {l0 l2 : AV} {st : List AV} {h : AM} {x : Int} : EV d 218 14 [l0, (0, x), l2] st h = EV d 218 15 [l0, (0, x), l2] ((0, x) :: st) h := G_iload_n (m218 dX11_lay_14) rfl
theorem e218_15 {d : Nat} {L st : List AV} {h : AM} : EV d 218 15 L st h = EV d 218 17 L ((0, 8) :: st) h := G_bipush (m218 dX11_lay_15) (by decide)
theorem e218_17 {d : Nat} {l0 l1 : AV} {st : List AV} {h : AM} {x : Int} : EV d 218 17 [l0, l1, (0, x)] st h = EV d 218 18 [l0, l1, (0, x)] ((0, x) :: st) h := G_iload_n (m218 dX11_lay_17) rfl
theorem e218_18 {d : Nat} {L st : List AV} {h : AM} {a b : Int} : EV d 218 18 L ((0, b) :: (0, a) :: st) h = EV d 218 19 L ((0, w32 (a * b)) :: st) h := E_imul (m218 dX11_lay_18)
theorem e218_19 {d : Nat} {L st : List AV} {h : AM} {a b : Int} : EV d 218 19 L ((0, b) :: (0, a) :: st) h = EV d 218 20 L ((0, i_shr a b) :: st) h := E_ishr (m218 dX11_lay_19)
theorem e218_20 {d : Nat} {L st : List AV} {h : AM} {a : Int} : EV d 218 20 L ((0, a) :: st) h = EV d 218 21 L ((0, w8 a) :: st) h := G_i2b (m218 dX11_lay_20)
theorem e218_21 {d : Nat} {L st : List AV} {h : AM} {r j v : Int} (hk : inA h r 17 j) : EV d 218 21 L ((0, v) :: (0, j) :: (2, r) :: st) h = EV d 218 22 L st (mwr h r j (w8 v)) := E_bast (m218 dX11_lay_21) hk
theorem e218_21z {d : Nat} {L st : List AV} {h : AM} {r j v : Int} (hk : inA h r 18 j) (hv : v = 0 ∨ v = 1) : EV d 218 21 L ((0, v) :: (0, j) :: (2, r) :: st) h = EV d 218 22 L st (mwr h r j v) := E_zast (m218 dX11_lay_21) hk hv
theorem e218_22 {d : Nat} {l1 l2 : AV} {st : List AV} {h : AM} {x : Int} : EV d 218 22 [(2, x), l1, l2] st h = EV d 218 23 [(2, x), l1, l2] ((2, x) :: st) h := G_aload_n (m218 dX11_lay_22) rfl
theorem e218_23 {d : Nat} {L st : List AV} {h : AM} {a : Int} : EV d 218 23 L ((2, a) :: st) h = EV d 218 24 L ((2, a) :: (2, a) :: st) h := G_dup2r (m218 dX11_lay_23)
theorem e218_23i {d : Nat} {L st : List AV} {h : AM} {a : Int} : EV d 218 23 L ((0, a) :: st) h = EV d 218 24 L ((0, a) :: (0, a) :: st) h := G_dupi (m218 dX11_lay_23)
theorem e218_24 {d : Nat} {L st : List AV} {h : AM} {r : Int} (hk : isK h r 11) : EV d 218 24 L ((2, r) :: st) h = EV d 218 27 L ((0, mrd h r 8) :: st) h := G_get (m218 dX11_lay_24) ow218 tf_11_241 rfl rfl hk
theorem e218_27 {d : Nat} {L st : List AV} {h : AM} : EV d 218 27 L st h = EV d 218 28 L ((0, 1) :: st) h := G_iconst (m218 dX11_lay_27) (by decide)
theorem e218_28 {d : Nat} {L st : List AV} {h : AM} {a b : Int} : EV d 218 28 L ((0, b) :: (0, a) :: st) h = EV d 218 29 L ((0, w32 (a + b)) :: st) h := E_iadd (m218 dX11_lay_28)
theorem pk_218_11_8 : pok 218 11 8 0 = true := by decide +kernel
theorem e218_29 {d : Nat} {L st : List AV} {h : AM} {r v : Int} (hk : isK h r 11) : EV d 218 29 L ((0, v) :: (2, r) :: st) h = EV d 218 32 L st (mwr h r 8 v) := G_put (m218 dX11_lay_29) ow218 tf_11_241 pk_218_11_8 rfl hk
theorem e218_32 {d : Nat} {l0 l1 : AV} {st : List AV} {h : AM} {x : Int} : EV d 218 32 [l0, l1, (0, x)] st h = EV d 218 35 [l0, l1, (0, w32 (x + (-1)))] st h := G_iinc (m218 dX11_lay_32) rfl rfl
theorem e218_35 {d : Nat} {L st : List AV} {h : AM} : EV d 218 35 L st h = EV d 218 2 L st h := G_goto (m218 dX11_lay_35) rfl
theorem e218_38 {d : Nat} {L : List AV} {h : AM} : EV d 218 38 L [] h = some ((3, 0), h) := E_ret (m218 dX11_lay_38) rt218
theorem e219_0 {d : Nat} {l0 l2 : AV} {st : List AV} {h : AM} {x : Int} : EV d 219 0 [l0, (0, x), l2] st h = EV d 219 1 [l0, (0, x), l2] ((0, x) :: st) h := G_iload_n (m219 dX11_starts_0) rfl
theorem e219_1 {d : Nat} {L st : List AV} {h : AM} {a : Int} : EV d 219 1 L ((0, a) :: st) h = if a < 0 then EV d 219 17 L st h else EV d 219 4 L st h := (E_if (m219 dX11_starts_1) (t := 17) rfl).trans cc_lt
theorem e219_4 {d : Nat} {l0 l2 : AV} {st : List AV} {h : AM} {x : Int} : EV d 219 4 [l0, (0, x), l2] st h = EV d 219 5 [l0, (0, x), l2] ((0, x) :: st) h := G_iload_n (m219 dX11_starts_4) rfl
theorem e219_5 {d : Nat} {l1 l2 : AV} {st : List AV} {h : AM} {x : Int} : EV d 219 5 [(2, x), l1, l2] st h = EV d 219 6 [(2, x), l1, l2] ((2, x) :: st) h := G_aload_n (m219 dX11_starts_5) rfl
theorem e219_6 {d : Nat} {L st : List AV} {h : AM} {r : Int} (hk : isK h r 11) : EV d 219 6 L ((2, r) :: st) h = EV d 219 9 L ((0, mrd h r 8) :: st) h := G_get (m219 dX11_starts_6) ow219 tf_11_241 rfl rfl hk
theorem e219_9 {d : Nat} {L st : List AV} {h : AM} {a b : Int} : EV d 219 9 L ((0, b) :: (0, a) :: st) h = if b < a then EV d 219 17 L st h else EV d 219 12 L st h := (E_ic (m219 dX11_starts_9) (t := 17) rfl).trans cc_gt
theorem e219_12 {d : Nat} {l0 l2 : AV} {st : List AV} {h : AM} {x : Int} : EV d 219 12 [l0, (0, x), l2] st h = EV d 219 13 [l0, (0, x), l2] ((0, x) :: st) h := G_iload_n (m219 dX11_starts_12) rfl
theorem e219_13 {d : Nat} {l0 l1 : AV} {st : List AV} {h : AM} {x : Int} : EV d 219 13 [l0, l1, (0, x)] st h = EV d 219 14 [l0, l1, (0, x)] ((0, x) :: st) h := G_iload_n (m219 dX11_starts_13) rfl
theorem e219_14 {d : Nat} {L st : List AV} {h : AM} {a b : Int} : EV d 219 14 L ((0, b) :: (0, a) :: st) h = if b < a then EV d 219 17 L st h else EV d 219 23 L st h := (E_ic (m219 dX11_starts_14) (t := 23) rfl).trans cc_le
theorem e219_17 {d : Nat} {l1 l2 : AV} {st : List AV} {h : AM} {x : Int} : EV d 219 17 [(2, x), l1, l2] st h = EV d 219 18 [(2, x), l1, l2] ((2, x) :: st) h := G_aload_n (m219 dX11_starts_17) rfl
theorem e219_18 {d : Nat} {L st : List AV} {h : AM} : EV d 219 18 L st h = EV d 219 19 L ((0, 5) :: st) h := G_iconst (m219 dX11_starts_18) (by decide)
theorem e219_19 {d : Nat} {L st : List AV} {h : AM} {r p0 : Int} (hs : st.length ≤ 4) (hk : isK h r 11) : EV (d + 1) 219 19 L ((0, p0) :: (2, r) :: st) h = (EV d 176 0 [(2, r), (0, p0)] [] h).bind (fun q => EV (d + 1) 219 22 L (psh q.1 st) q.2) := G_cv [(0, p0)] (m219 dX11_starts_19) ow219 tr_11_109 (by decide) td176 np176 ml176 ow176 rfl rfl (Nat.le_of_ble_eq_true rfl) rfl hs hk
theorem e219_22 {d : Nat} {L : List AV} {h : AM} {v : Int} (hv : v = 0 ∨ v = 1) : EV d 219 22 L [(0, v)] h = some ((0, v), h) := E_iret (m219 dX11_starts_22) (by rw [rt219]; rcases hv with rfl | rfl <;> rfl)
theorem e219_23 {d : Nat} {l1 l2 : AV} {st : List AV} {h : AM} {x : Int} : EV d 219 23 [(2, x), l1, l2] st h = EV d 219 24 [(2, x), l1, l2] ((2, x) :: st) h := G_aload_n (m219 dX11_starts_23) rfl
theorem e219_24 {d : Nat} {l0 l2 : AV} {st : List AV} {h : AM} {x : Int} : EV d 219 24 [l0, (0, x), l2] st h = EV d 219 25 [l0, (0, x), l2] ((0, x) :: st) h := G_iload_n (m219 dX11_starts_24) rfl
theorem pk_219_11_9 : pok 219 11 9 0 = true := by decide +kernel
theorem e219_25 {d : Nat} {L st : List AV} {h : AM} {r v : Int} (hk : isK h r 11) : EV d 219 25 L ((0, v) :: (2, r) :: st) h = EV d 219 28 L st (mwr h r 9 v) := G_put (m219 dX11_starts_25) ow219 tf_11_133 pk_219_11_9 rfl hk
theorem e219_28 {d : Nat} {l1 l2 : AV} {st : List AV} {h : AM} {x : Int} : EV d 219 28 [(2, x), l1, l2] st h = EV d 219 29 [(2, x), l1, l2] ((2, x) :: st) h := G_aload_n (m219 dX11_starts_28) rfl
theorem e219_29 {d : Nat} {L st : List AV} {h : AM} : EV d 219 29 L st h = EV d 219 30 L ((0, 0) :: st) h := G_iconst (m219 dX11_starts_29) (by decide)
theorem pk_219_11_8 : pok 219 11 8 0 = true := by decide +kernel
theorem e219_30 {d : Nat} {L st : List AV} {h : AM} {r v : Int} (hk : isK h r 11) : EV d 219 30 L ((0, v) :: (2, r) :: st) h = EV d 219 33 L st (mwr h r 8 v) := G_put (m219 dX11_starts_30) ow219 tf_11_241 pk_219_11_8 rfl hk
theorem e219_33 {d : Nat} {l1 l2 : AV} {st : List AV} {h : AM} {x : Int} : EV d 219 33 [(2, x), l1, l2] st h = EV d 219 34 [(2, x), l1, l2] ((2, x) :: st) h := G_aload_n (m219 dX11_starts_33) rfl
theorem e219_34 {d : Nat} {L st : List AV} {h : AM} : EV d 219 34 L st h = EV d 219 35 L ((0, 0) :: st) h := G_iconst (m219 dX11_starts_34) (by decide)
theorem pk_219_11_16 : pok 219 11 16 0 = true := by decide +kernel
theorem e219_35 {d : Nat} {L st : List AV} {h : AM} {r v : Int} (hk : isK h r 11) : EV d 219 35 L ((0, v) :: (2, r) :: st) h = EV d 219 38 L st (mwr h r 16 v) := G_put (m219 dX11_starts_35) ow219 tf_11_136 pk_219_11_16 rfl hk
theorem e219_38 {d : Nat} {l1 l2 : AV} {st : List AV} {h : AM} {x : Int} : EV d 219 38 [(2, x), l1, l2] st h = EV d 219 39 [(2, x), l1, l2] ((2, x) :: st) h := G_aload_n (m219 dX11_starts_38) rfl
theorem e219_39 {d : Nat} {L st : List AV} {h : AM} : EV d 219 39 L st h = EV d 219 40 L ((0, 0) :: st) h := G_iconst (m219 dX11_starts_39) (by decide)
theorem pk_219_11_12 : pok 219 11 12 0 = true := by decide +kernel
theorem e219_40 {d : Nat} {L st : List AV} {h : AM} {r v : Int} (hk : isK h r 11) : EV d 219 40 L ((0, v) :: (2, r) :: st) h = EV d 219 43 L st (mwr h r 12 v) := G_put (m219 dX11_starts_40) ow219 tf_11_225 pk_219_11_12 rfl hk
theorem e219_43 {d : Nat} {l1 l2 : AV} {st : List AV} {h : AM} {x : Int} : EV d 219 43 [(2, x), l1, l2] st h = EV d 219 44 [(2, x), l1, l2] ((2, x) :: st) h := G_aload_n (m219 dX11_starts_43) rfl
theorem e219_44 {d : Nat} {L st : List AV} {h : AM} {r : Int} (hs : st.length ≤ 4) (hk : isK h r 11) : EV (d + 1) 219 44 L ((2, r) :: st) h = (EV d 193 0 [(2, r), (3, 0)] [] h).bind (fun q => EV (d + 1) 219 47 L (psh q.1 st) q.2) := G_cv [] (m219 dX11_starts_44) ow219 tr_11_235 (by decide) td193 np193 ml193 ow193 rfl rfl (Nat.le_of_ble_eq_true rfl) rfl hs hk
theorem e219_47 {d : Nat} {L st : List AV} {h : AM} : EV d 219 47 L st h = EV d 219 48 L ((0, 1) :: st) h := G_iconst (m219 dX11_starts_47) (by decide)
theorem e219_48 {d : Nat} {L : List AV} {h : AM} {v : Int} (hv : v = 0 ∨ v = 1) : EV d 219 48 L [(0, v)] h = some ((0, v), h) := E_iret (m219 dX11_starts_48) (by rw [rt219]; rcases hv with rfl | rfl <;> rfl)
theorem e220_0 {d : Nat} {st : List AV} {h : AM} {x : Int} : EV d 220 0 [(2, x)] st h = EV d 220 1 [(2, x)] ((2, x) :: st) h := G_aload_n (m220 dX11_isWell_0) rfl
theorem e220_1 {d : Nat} {st : List AV} {h : AM} {x : Int} : EV d 220 1 [(2, x)] st h = EV d 220 2 [(2, x)] ((2, x) :: st) h := G_aload_n (m220 dX11_isWell_1) rfl
theorem e220_2 {d : Nat} {L st : List AV} {h : AM} {r : Int} (hk : isK h r 11) : EV d 220 2 L ((2, r) :: st) h = EV d 220 5 L ((0, mrd h r 12) :: st) h := G_get (m220 dX11_isWell_2) ow220 tf_11_225 rfl rfl hk
theorem pk_220_11_10 : pok 220 11 10 0 = true := by decide +kernel
theorem e220_5 {d : Nat} {L st : List AV} {h : AM} {r v : Int} (hk : isK h r 11) : EV d 220 5 L ((0, v) :: (2, r) :: st) h = EV d 220 8 L st (mwr h r 10 v) := G_put (m220 dX11_isWell_5) ow220 tf_11_28 pk_220_11_10 rfl hk
theorem e220_8 {d : Nat} {st : List AV} {h : AM} {x : Int} : EV d 220 8 [(2, x)] st h = EV d 220 9 [(2, x)] ((2, x) :: st) h := G_aload_n (m220 dX11_isWell_8) rfl
theorem e220_9 {d : Nat} {st : List AV} {h : AM} {x : Int} : EV d 220 9 [(2, x)] st h = EV d 220 10 [(2, x)] ((2, x) :: st) h := G_aload_n (m220 dX11_isWell_9) rfl
theorem e220_10 {d : Nat} {L st : List AV} {h : AM} {r : Int} (hk : isK h r 11) : EV d 220 10 L ((2, r) :: st) h = EV d 220 13 L ((0, mrd h r 12) :: st) h := G_get (m220 dX11_isWell_10) ow220 tf_11_225 rfl rfl hk
theorem e220_13 {d : Nat} {L st : List AV} {h : AM} {a : Int} : EV d 220 13 L ((0, a) :: st) h = if a = 0 then EV d 220 16 L st h else EV d 220 20 L st h := (E_if (m220 dX11_isWell_13) (t := 20) rfl).trans cc_ne
theorem e220_16 {d : Nat} {L st : List AV} {h : AM} : EV d 220 16 L st h = EV d 220 17 L ((0, -1) :: st) h := G_iconst (m220 dX11_isWell_16) (by decide)
theorem e220_17 {d : Nat} {L st : List AV} {h : AM} : EV d 220 17 L st h = EV d 220 24 L st h := G_goto (m220 dX11_isWell_17) rfl
theorem e220_20 {d : Nat} {st : List AV} {h : AM} {x : Int} : EV d 220 20 [(2, x)] st h = EV d 220 21 [(2, x)] ((2, x) :: st) h := G_aload_n (m220 dX11_isWell_20) rfl
theorem e220_21 {d : Nat} {L st : List AV} {h : AM} {r : Int} (hk : isK h r 11) : EV d 220 21 L ((2, r) :: st) h = EV d 220 24 L ((0, mrd h r 13) :: st) h := G_get (m220 dX11_isWell_21) ow220 tf_11_228 rfl rfl hk
theorem pk_220_11_11 : pok 220 11 11 0 = true := by decide +kernel
theorem e220_24 {d : Nat} {L st : List AV} {h : AM} {r v : Int} (hk : isK h r 11) : EV d 220 24 L ((0, v) :: (2, r) :: st) h = EV d 220 27 L st (mwr h r 11 v) := G_put (m220 dX11_isWell_24) ow220 tf_11_32 pk_220_11_11 rfl hk
theorem e220_27 {d : Nat} {st : List AV} {h : AM} {x : Int} : EV d 220 27 [(2, x)] st h = EV d 220 28 [(2, x)] ((2, x) :: st) h := G_aload_n (m220 dX11_isWell_27) rfl
theorem e220_28 {d : Nat} {L st : List AV} {h : AM} {r : Int} (hk : isK h r 11) : EV d 220 28 L ((2, r) :: st) h = EV d 220 31 L ((0, mrd h r 12) :: st) h := G_get (m220 dX11_isWell_28) ow220 tf_11_225 rfl rfl hk
theorem e220_31 {d : Nat} {L st : List AV} {h : AM} {a : Int} : EV d 220 31 L ((0, a) :: st) h = if a = 0 then EV d 220 43 L st h else EV d 220 34 L st h := (E_if (m220 dX11_isWell_31) (t := 43) rfl).trans cc_eq
theorem e220_34 {d : Nat} {st : List AV} {h : AM} {x : Int} : EV d 220 34 [(2, x)] st h = EV d 220 35 [(2, x)] ((2, x) :: st) h := G_aload_n (m220 dX11_isWell_34) rfl
theorem e220_35 {d : Nat} {L st : List AV} {h : AM} : EV d 220 35 L st h = EV d 220 37 L ((0, 10) :: st) h := G_bipush (m220 dX11_isWell_35) (by decide)
theorem e220_37 {d : Nat} {L st : List AV} {h : AM} {r p0 : Int} (hs : st.length ≤ 4) (hk : isK h r 11) : EV (d + 1) 220 37 L ((0, p0) :: (2, r) :: st) h = (EV d 176 0 [(2, r), (0, p0)] [] h).bind (fun q => EV (d + 1) 220 40 L (psh q.1 st) q.2) := G_cv [(0, p0)] (m220 dX11_isWell_37) ow220 tr_11_109 (by decide) td176 np176 ml176 ow176 rfl rfl (Nat.le_of_ble_eq_true rfl) rfl hs hk
theorem e220_40 {d : Nat} {L st : List AV} {h : AM} {a : Int} : EV d 220 40 L ((0, a) :: st) h = if a = 0 then EV d 220 47 L st h else EV d 220 43 L st h := (E_if (m220 dX11_isWell_40) (t := 47) rfl).trans cc_eq
theorem e220_43 {d : Nat} {L st : List AV} {h : AM} : EV d 220 43 L st h = EV d 220 44 L ((0, 1) :: st) h := G_iconst (m220 dX11_isWell_43) (by decide)
theorem e220_44 {d : Nat} {L st : List AV} {h : AM} : EV d 220 44 L st h = EV d 220 48 L st h := G_goto (m220 dX11_isWell_44) rfl
theorem e220_47 {d : Nat} {L st : List AV} {h : AM} : EV d 220 47 L st h = EV d 220 48 L ((0, 0) :: st) h := G_iconst (m220 dX11_isWell_47) (by decide)
theorem e220_48 {d : Nat} {L : List AV} {h : AM} {v : Int} (hv : v = 0 ∨ v = 1) : EV d 220 48 L [(0, v)] h = some ((0, v), h) := E_iret (m220 dX11_isWell_48) (by rw [rt220]; rcases hv with rfl | rfl <;> rfl)
