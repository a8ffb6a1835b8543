theorem lk_mem {α : Type} {l : List (Nat × α)} {a : Nat} {b : α} (h : l.lookup a = some b) : (a, b) ∈ l := by
  induction l with
  | nil => simp at h
  | cons x xs ih =>
    obtain ⟨x1, x2⟩ := x
    simp only [List.lookup] at h
    split at h
    · rename_i he
      have : a = x1 := by simpa using he
      subst this
      cases h
      exact List.mem_cons_self
    · exact List.mem_cons_of_mem _ (ih h)
theorem gd_all {α : Type} {P : Nat → List α → Prop} {L : List (List α)} (h0 : ∀ o, P o []) (h : ∀ o x, L[o]? = some x → P o x) (o : Nat) : P o (L.getD o []) := by
  rw [List.getD_eq_getElem?_getD]
  cases hx : L[o]? with
  | none => exact h0 o
  | some x => exact h o x hx
def okf (o : Nat) (q : Nat × Nat × Nat) : Prop := q.2.1 < 12 ∧ q.2.2 < cNF q.2.1 ∧ Cond.fieldLink (cname o) q.1 (cT q.2.1 q.2.2).1 (cT q.2.1 q.2.2).2.1 (cT q.2.1 q.2.2).2.2.1 ∈ lw_tbl
theorem fk_0_75 : okf 0 (75, 5, 8) := ⟨by decide, by decide +kernel, List.mem_append_right _ (List.mem_of_getElem? (i := 336) (by decide +kernel))⟩
theorem fk_0_78 : okf 0 (78, 5, 5) := ⟨by decide, by decide +kernel, List.mem_append_right _ (List.mem_of_getElem? (i := 332) (by decide +kernel))⟩
theorem fk_0_44 : okf 0 (44, 0, 8) := ⟨by decide, by decide +kernel, List.mem_append_right _ (List.mem_of_getElem? (i := 109) (by decide +kernel))⟩
theorem fk_0_40 : okf 0 (40, 0, 7) := ⟨by decide, by decide +kernel, List.mem_append_right _ (List.mem_of_getElem? (i := 107) (by decide +kernel))⟩
theorem fk_0_36 : okf 0 (36, 0, 6) := ⟨by decide, by decide +kernel, List.mem_append_right _ (List.mem_of_getElem? (i := 103) (by decide +kernel))⟩
theorem fk_0_27 : okf 0 (27, 0, 5) := ⟨by decide, by decide +kernel, List.mem_append_right _ (List.mem_of_getElem? (i := 102) (by decide +kernel))⟩
theorem fk_0_24 : okf 0 (24, 0, 4) := ⟨by decide, by decide +kernel, List.mem_append_right _ (List.mem_of_getElem? (i := 100) (by decide +kernel))⟩
theorem fk_0_21 : okf 0 (21, 0, 3) := ⟨by decide, by decide +kernel, List.mem_append_right _ (List.mem_of_getElem? (i := 98) (by decide +kernel))⟩
theorem fk_0_18 : okf 0 (18, 0, 2) := ⟨by decide, by decide +kernel, List.mem_append_right _ (List.mem_of_getElem? (i := 96) (by decide +kernel))⟩
theorem fk_0_15 : okf 0 (15, 0, 1) := ⟨by decide, by decide +kernel, List.mem_append_right _ (List.mem_of_getElem? (i := 94) (by decide +kernel))⟩
theorem fk_0_9 : okf 0 (9, 0, 0) := ⟨by decide, by decide +kernel, List.mem_append_right _ (List.mem_of_getElem? (i := 92) (by decide +kernel))⟩
theorem fk_0 : ∀ q ∈ tb_f_0, okf 0 q := List.forall_mem_cons.mpr ⟨fk_0_9, List.forall_mem_cons.mpr ⟨fk_0_15, List.forall_mem_cons.mpr ⟨fk_0_18, List.forall_mem_cons.mpr ⟨fk_0_21, List.forall_mem_cons.mpr ⟨fk_0_24, List.forall_mem_cons.mpr ⟨fk_0_27, List.forall_mem_cons.mpr ⟨fk_0_36, List.forall_mem_cons.mpr ⟨fk_0_40, List.forall_mem_cons.mpr ⟨fk_0_44, List.forall_mem_cons.mpr ⟨fk_0_78, List.forall_mem_cons.mpr ⟨fk_0_75, fun _ h => absurd h List.not_mem_nil⟩⟩⟩⟩⟩⟩⟩⟩⟩⟩⟩
theorem fk_1_26 : okf 1 (26, 1, 6) := ⟨by decide, by decide +kernel, List.mem_append_right _ (List.mem_of_getElem? (i := 201) (by decide +kernel))⟩
theorem fk_1_23 : okf 1 (23, 1, 5) := ⟨by decide, by decide +kernel, List.mem_append_right _ (List.mem_of_getElem? (i := 196) (by decide +kernel))⟩
theorem fk_1_19 : okf 1 (19, 1, 4) := ⟨by decide, by decide +kernel, List.mem_append_right _ (List.mem_of_getElem? (i := 192) (by decide +kernel))⟩
theorem fk_1_32 : okf 1 (32, 1, 3) := ⟨by decide, by decide +kernel, List.mem_append_right _ (List.mem_of_getElem? (i := 189) (by decide +kernel))⟩
theorem fk_1_29 : okf 1 (29, 1, 2) := ⟨by decide, by decide +kernel, List.mem_append_right _ (List.mem_of_getElem? (i := 186) (by decide +kernel))⟩
theorem fk_1_15 : okf 1 (15, 1, 1) := ⟨by decide, by decide +kernel, List.mem_append_right _ (List.mem_of_getElem? (i := 184) (by decide +kernel))⟩
theorem fk_1_9 : okf 1 (9, 1, 0) := ⟨by decide, by decide +kernel, List.mem_append_right _ (List.mem_of_getElem? (i := 180) (by decide +kernel))⟩
theorem fk_1 : ∀ q ∈ tb_f_1, okf 1 q := List.forall_mem_cons.mpr ⟨fk_1_9, List.forall_mem_cons.mpr ⟨fk_1_15, List.forall_mem_cons.mpr ⟨fk_1_29, List.forall_mem_cons.mpr ⟨fk_1_32, List.forall_mem_cons.mpr ⟨fk_1_19, List.forall_mem_cons.mpr ⟨fk_1_23, List.forall_mem_cons.mpr ⟨fk_1_26, fun _ h => absurd h List.not_mem_nil⟩⟩⟩⟩⟩⟩⟩
theorem fk_2_30 : okf 2 (30, 2, 6) := ⟨by decide, by decide +kernel, List.mem_append_right _ (List.mem_of_getElem? (i := 157) (by decide +kernel))⟩
theorem fk_2_27 : okf 2 (27, 2, 5) := ⟨by decide, by decide +kernel, List.mem_append_right _ (List.mem_of_getElem? (i := 153) (by decide +kernel))⟩
theorem fk_2_24 : okf 2 (24, 2, 4) := ⟨by decide, by decide +kernel, List.mem_append_right _ (List.mem_of_getElem? (i := 149) (by decide +kernel))⟩
theorem fk_2_21 : okf 2 (21, 2, 3) := ⟨by decide, by decide +kernel, List.mem_append_right _ (List.mem_of_getElem? (i := 145) (by decide +kernel))⟩
theorem fk_2_13 : okf 2 (13, 2, 2) := ⟨by decide, by decide +kernel, List.mem_append_right _ (List.mem_of_getElem? (i := 142) (by decide +kernel))⟩
theorem fk_2_7 : okf 2 (7, 2, 1) := ⟨by decide, by decide +kernel, List.mem_append_right _ (List.mem_of_getElem? (i := 137) (by decide +kernel))⟩
theorem fk_2_17 : okf 2 (17, 2, 0) := ⟨by decide, by decide +kernel, List.mem_append_right _ (List.mem_of_getElem? (i := 135) (by decide +kernel))⟩
theorem fk_2 : ∀ q ∈ tb_f_2, okf 2 q := List.forall_mem_cons.mpr ⟨fk_2_17, List.forall_mem_cons.mpr ⟨fk_2_7, List.forall_mem_cons.mpr ⟨fk_2_13, List.forall_mem_cons.mpr ⟨fk_2_21, List.forall_mem_cons.mpr ⟨fk_2_24, List.forall_mem_cons.mpr ⟨fk_2_27, List.forall_mem_cons.mpr ⟨fk_2_30, fun _ h => absurd h List.not_mem_nil⟩⟩⟩⟩⟩⟩⟩
theorem fk_3_34 : okf 3 (34, 3, 7) := ⟨by decide, by decide +kernel, List.mem_append_right _ (List.mem_of_getElem? (i := 385) (by decide +kernel))⟩
theorem fk_3_31 : okf 3 (31, 3, 6) := ⟨by decide, by decide +kernel, List.mem_append_right _ (List.mem_of_getElem? (i := 384) (by decide +kernel))⟩
theorem fk_3_28 : okf 3 (28, 3, 5) := ⟨by decide, by decide +kernel, List.mem_append_right _ (List.mem_of_getElem? (i := 382) (by decide +kernel))⟩
theorem fk_3_25 : okf 3 (25, 3, 4) := ⟨by decide, by decide +kernel, List.mem_append_right _ (List.mem_of_getElem? (i := 380) (by decide +kernel))⟩
theorem fk_3_22 : okf 3 (22, 3, 3) := ⟨by decide, by decide +kernel, List.mem_append_right _ (List.mem_of_getElem? (i := 378) (by decide +kernel))⟩
theorem fk_3_19 : okf 3 (19, 3, 2) := ⟨by decide, by decide +kernel, List.mem_append_right _ (List.mem_of_getElem? (i := 376) (by decide +kernel))⟩
theorem fk_3_15 : okf 3 (15, 3, 1) := ⟨by decide, by decide +kernel, List.mem_append_right _ (List.mem_of_getElem? (i := 374) (by decide +kernel))⟩
theorem fk_3_9 : okf 3 (9, 3, 0) := ⟨by decide, by decide +kernel, List.mem_append_right _ (List.mem_of_getElem? (i := 372) (by decide +kernel))⟩
theorem fk_3_37 : okf 3 (37, 6, 4) := ⟨by decide, by decide +kernel, List.mem_append_right _ (List.mem_of_getElem? (i := 234) (by decide +kernel))⟩
theorem fk_3_60 : okf 3 (60, 6, 2) := ⟨by decide, by decide +kernel, List.mem_append_right _ (List.mem_of_getElem? (i := 228) (by decide +kernel))⟩
theorem fk_3_98 : okf 3 (98, 1, 6) := ⟨by decide, by decide +kernel, List.mem_append_right _ (List.mem_of_getElem? (i := 203) (by decide +kernel))⟩
theorem fk_3_112 : okf 3 (112, 1, 5) := ⟨by decide, by decide +kernel, List.mem_append_right _ (List.mem_of_getElem? (i := 197) (by decide +kernel))⟩
theorem fk_3_85 : okf 3 (85, 1, 4) := ⟨by decide, by decide +kernel, List.mem_append_right _ (List.mem_of_getElem? (i := 193) (by decide +kernel))⟩
theorem fk_3_43 : okf 3 (43, 0, 7) := ⟨by decide, by decide +kernel, List.mem_append_right _ (List.mem_of_getElem? (i := 106) (by decide +kernel))⟩
theorem fk_3_56 : okf 3 (56, 0, 4) := ⟨by decide, by decide +kernel, List.mem_append_right _ (List.mem_of_getElem? (i := 101) (by decide +kernel))⟩
theorem fk_3_101 : okf 3 (101, 0, 3) := ⟨by decide, by decide +kernel, List.mem_append_right _ (List.mem_of_getElem? (i := 99) (by decide +kernel))⟩
theorem fk_3_67 : okf 3 (67, 0, 2) := ⟨by decide, by decide +kernel, List.mem_append_right _ (List.mem_of_getElem? (i := 97) (by decide +kernel))⟩
theorem fk_3_64 : okf 3 (64, 0, 1) := ⟨by decide, by decide +kernel, List.mem_append_right _ (List.mem_of_getElem? (i := 95) (by decide +kernel))⟩
theorem fk_3_70 : okf 3 (70, 0, 0) := ⟨by decide, by decide +kernel, List.mem_append_right _ (List.mem_of_getElem? (i := 93) (by decide +kernel))⟩
theorem fk_3 : ∀ q ∈ tb_f_3, okf 3 q := List.forall_mem_cons.mpr ⟨fk_3_70, List.forall_mem_cons.mpr ⟨fk_3_64, List.forall_mem_cons.mpr ⟨fk_3_67, List.forall_mem_cons.mpr ⟨fk_3_101, List.forall_mem_cons.mpr ⟨fk_3_56, List.forall_mem_cons.mpr ⟨fk_3_43, List.forall_mem_cons.mpr ⟨fk_3_85, List.forall_mem_cons.mpr ⟨fk_3_112, List.forall_mem_cons.mpr ⟨fk_3_98, List.forall_mem_cons.mpr ⟨fk_3_60, List.forall_mem_cons.mpr ⟨fk_3_37, List.forall_mem_cons.mpr ⟨fk_3_9, List.forall_mem_cons.mpr ⟨fk_3_15, List.forall_mem_cons.mpr ⟨fk_3_19, List.forall_mem_cons.mpr ⟨fk_3_22, List.forall_mem_cons.mpr ⟨fk_3_25, List.forall_mem_cons.mpr ⟨fk_3_28, List.forall_mem_cons.mpr ⟨fk_3_31, List.forall_mem_cons.mpr ⟨fk_3_34, fun _ h => absurd h List.not_mem_nil⟩⟩⟩⟩⟩⟩⟩⟩⟩⟩⟩⟩⟩⟩⟩⟩⟩⟩⟩
theorem fk_4_29 : okf 4 (29, 4, 6) := ⟨by decide, by decide +kernel, List.mem_append_right _ (List.mem_of_getElem? (i := 449) (by decide +kernel))⟩
theorem fk_4_26 : okf 4 (26, 4, 5) := ⟨by decide, by decide +kernel, List.mem_append_right _ (List.mem_of_getElem? (i := 448) (by decide +kernel))⟩
theorem fk_4_23 : okf 4 (23, 4, 4) := ⟨by decide, by decide +kernel, List.mem_append_right _ (List.mem_of_getElem? (i := 447) (by decide +kernel))⟩
theorem fk_4_36 : okf 4 (36, 4, 3) := ⟨by decide, by decide +kernel, List.mem_append_right _ (List.mem_of_getElem? (i := 445) (by decide +kernel))⟩
theorem fk_4_20 : okf 4 (20, 4, 2) := ⟨by decide, by decide +kernel, List.mem_append_right _ (List.mem_of_getElem? (i := 443) (by decide +kernel))⟩
theorem fk_4_15 : okf 4 (15, 4, 1) := ⟨by decide, by decide +kernel, List.mem_append_right _ (List.mem_of_getElem? (i := 441) (by decide +kernel))⟩
theorem fk_4_9 : okf 4 (9, 4, 0) := ⟨by decide, by decide +kernel, List.mem_append_right _ (List.mem_of_getElem? (i := 439) (by decide +kernel))⟩
theorem fk_4_33 : okf 4 (33, 6, 7) := ⟨by decide, by decide +kernel, List.mem_append_right _ (List.mem_of_getElem? (i := 242) (by decide +kernel))⟩
theorem fk_4_65 : okf 4 (65, 6, 2) := ⟨by decide, by decide +kernel, List.mem_append_right _ (List.mem_of_getElem? (i := 229) (by decide +kernel))⟩
theorem fk_4_56 : okf 4 (56, 6, 1) := ⟨by decide, by decide +kernel, List.mem_append_right _ (List.mem_of_getElem? (i := 224) (by decide +kernel))⟩
theorem fk_4_60 : okf 4 (60, 2, 5) := ⟨by decide, by decide +kernel, List.mem_append_right _ (List.mem_of_getElem? (i := 154) (by decide +kernel))⟩
theorem fk_4_45 : okf 4 (45, 8, 3) := ⟨by decide, by decide +kernel, List.mem_append_right _ (List.mem_of_getElem? (i := 46) (by decide +kernel))⟩
theorem fk_4_39 : okf 4 (39, 8, 1) := ⟨by decide, by decide +kernel, List.mem_append_right _ (List.mem_of_getElem? (i := 41) (by decide +kernel))⟩
theorem fk_4_48 : okf 4 (48, 8, 0) := ⟨by decide, by decide +kernel, List.mem_append_right _ (List.mem_of_getElem? (i := 37) (by decide +kernel))⟩
theorem fk_4 : ∀ q ∈ tb_f_4, okf 4 q := List.forall_mem_cons.mpr ⟨fk_4_48, List.forall_mem_cons.mpr ⟨fk_4_39, List.forall_mem_cons.mpr ⟨fk_4_45, List.forall_mem_cons.mpr ⟨fk_4_60, List.forall_mem_cons.mpr ⟨fk_4_56, List.forall_mem_cons.mpr ⟨fk_4_65, List.forall_mem_cons.mpr ⟨fk_4_33, List.forall_mem_cons.mpr ⟨fk_4_9, List.forall_mem_cons.mpr ⟨fk_4_15, List.forall_mem_cons.mpr ⟨fk_4_20, List.forall_mem_cons.mpr ⟨fk_4_36, List.forall_mem_cons.mpr ⟨fk_4_23, List.forall_mem_cons.mpr ⟨fk_4_26, List.forall_mem_cons.mpr ⟨fk_4_29, fun _ h => absurd h List.not_mem_nil⟩⟩⟩⟩⟩⟩⟩⟩⟩⟩⟩⟩⟩⟩
theorem fk_5_46 : okf 5 (46, 5, 10) := ⟨by decide, by decide +kernel, List.mem_append_right _ (List.mem_of_getElem? (i := 340) (by decide +kernel))⟩
theorem fk_5_43 : okf 5 (43, 5, 9) := ⟨by decide, by decide +kernel, List.mem_append_right _ (List.mem_of_getElem? (i := 337) (by decide +kernel))⟩
theorem fk_5_59 : okf 5 (59, 5, 8) := ⟨by decide, by decide +kernel, List.mem_append_right _ (List.mem_of_getElem? (i := 335) (by decide +kernel))⟩
theorem fk_5_55 : okf 5 (55, 5, 7) := ⟨by decide, by decide +kernel, List.mem_append_right _ (List.mem_of_getElem? (i := 334) (by decide +kernel))⟩
theorem fk_5_52 : okf 5 (52, 5, 6) := ⟨by decide, by decide +kernel, List.mem_append_right _ (List.mem_of_getElem? (i := 333) (by decide +kernel))⟩
theorem fk_5_62 : okf 5 (62, 5, 5) := ⟨by decide, by decide +kernel, List.mem_append_right _ (List.mem_of_getElem? (i := 331) (by decide +kernel))⟩
theorem fk_5_40 : okf 5 (40, 5, 4) := ⟨by decide, by decide +kernel, List.mem_append_right _ (List.mem_of_getElem? (i := 330) (by decide +kernel))⟩
theorem fk_5_37 : okf 5 (37, 5, 3) := ⟨by decide, by decide +kernel, List.mem_append_right _ (List.mem_of_getElem? (i := 329) (by decide +kernel))⟩
theorem fk_5_33 : okf 5 (33, 5, 2) := ⟨by decide, by decide +kernel, List.mem_append_right _ (List.mem_of_getElem? (i := 327) (by decide +kernel))⟩
theorem fk_5_15 : okf 5 (15, 5, 1) := ⟨by decide, by decide +kernel, List.mem_append_right _ (List.mem_of_getElem? (i := 326) (by decide +kernel))⟩
theorem fk_5_9 : okf 5 (9, 5, 0) := ⟨by decide, by decide +kernel, List.mem_append_right _ (List.mem_of_getElem? (i := 325) (by decide +kernel))⟩
theorem fk_5 : ∀ q ∈ tb_f_5, okf 5 q := List.forall_mem_cons.mpr ⟨fk_5_9, List.forall_mem_cons.mpr ⟨fk_5_15, List.forall_mem_cons.mpr ⟨fk_5_33, List.forall_mem_cons.mpr ⟨fk_5_37, List.forall_mem_cons.mpr ⟨fk_5_40, List.forall_mem_cons.mpr ⟨fk_5_62, List.forall_mem_cons.mpr ⟨fk_5_52, List.forall_mem_cons.mpr ⟨fk_5_55, List.forall_mem_cons.mpr ⟨fk_5_59, List.forall_mem_cons.mpr ⟨fk_5_43, List.forall_mem_cons.mpr ⟨fk_5_46, fun _ h => absurd h List.not_mem_nil⟩⟩⟩⟩⟩⟩⟩⟩⟩⟩⟩
theorem fk_6_164 : okf 6 (164, 5, 9) := ⟨by decide, by decide +kernel, List.mem_append_right _ (List.mem_of_getElem? (i := 338) (by decide +kernel))⟩
theorem fk_6_66 : okf 6 (66, 6, 9) := ⟨by decide, by decide +kernel, List.mem_append_right _ (List.mem_of_getElem? (i := 247) (by decide +kernel))⟩
theorem fk_6_41 : okf 6 (41, 6, 8) := ⟨by decide, by decide +kernel, List.mem_append_right _ (List.mem_of_getElem? (i := 244) (by decide +kernel))⟩
theorem fk_6_54 : okf 6 (54, 6, 7) := ⟨by decide, by decide +kernel, List.mem_append_right _ (List.mem_of_getElem? (i := 241) (by decide +kernel))⟩
theorem fk_6_47 : okf 6 (47, 6, 6) := ⟨by decide, by decide +kernel, List.mem_append_right _ (List.mem_of_getElem? (i := 238) (by decide +kernel))⟩
theorem fk_6_63 : okf 6 (63, 6, 5) := ⟨by decide, by decide +kernel, List.mem_append_right _ (List.mem_of_getElem? (i := 236) (by decide +kernel))⟩
theorem fk_6_37 : okf 6 (37, 6, 4) := ⟨by decide, by decide +kernel, List.mem_append_right _ (List.mem_of_getElem? (i := 233) (by decide +kernel))⟩
theorem fk_6_30 : okf 6 (30, 6, 3) := ⟨by decide, by decide +kernel, List.mem_append_right _ (List.mem_of_getElem? (i := 231) (by decide +kernel))⟩
theorem fk_6_23 : okf 6 (23, 6, 2) := ⟨by decide, by decide +kernel, List.mem_append_right _ (List.mem_of_getElem? (i := 227) (by decide +kernel))⟩
theorem fk_6_17 : okf 6 (17, 6, 1) := ⟨by decide, by decide +kernel, List.mem_append_right _ (List.mem_of_getElem? (i := 222) (by decide +kernel))⟩
theorem fk_6_9 : okf 6 (9, 6, 0) := ⟨by decide, by decide +kernel, List.mem_append_right _ (List.mem_of_getElem? (i := 221) (by decide +kernel))⟩
theorem fk_6_215 : okf 6 (215, 1, 6) := ⟨by decide, by decide +kernel, List.mem_append_right _ (List.mem_of_getElem? (i := 205) (by decide +kernel))⟩
theorem fk_6_204 : okf 6 (204, 1, 5) := ⟨by decide, by decide +kernel, List.mem_append_right _ (List.mem_of_getElem? (i := 199) (by decide +kernel))⟩
theorem fk_6_218 : okf 6 (218, 1, 4) := ⟨by decide, by decide +kernel, List.mem_append_right _ (List.mem_of_getElem? (i := 195) (by decide +kernel))⟩
theorem fk_6_181 : okf 6 (181, 1, 3) := ⟨by decide, by decide +kernel, List.mem_append_right _ (List.mem_of_getElem? (i := 190) (by decide +kernel))⟩
theorem fk_6_178 : okf 6 (178, 1, 2) := ⟨by decide, by decide +kernel, List.mem_append_right _ (List.mem_of_getElem? (i := 187) (by decide +kernel))⟩
theorem fk_6_187 : okf 6 (187, 1, 1) := ⟨by decide, by decide +kernel, List.mem_append_right _ (List.mem_of_getElem? (i := 185) (by decide +kernel))⟩
theorem fk_6_197 : okf 6 (197, 1, 0) := ⟨by decide, by decide +kernel, List.mem_append_right _ (List.mem_of_getElem? (i := 183) (by decide +kernel))⟩
theorem fk_6_161 : okf 6 (161, 2, 6) := ⟨by decide, by decide +kernel, List.mem_append_right _ (List.mem_of_getElem? (i := 158) (by decide +kernel))⟩
theorem fk_6_142 : okf 6 (142, 2, 5) := ⟨by decide, by decide +kernel, List.mem_append_right _ (List.mem_of_getElem? (i := 155) (by decide +kernel))⟩
theorem fk_6_139 : okf 6 (139, 2, 4) := ⟨by decide, by decide +kernel, List.mem_append_right _ (List.mem_of_getElem? (i := 150) (by decide +kernel))⟩
theorem fk_6_132 : okf 6 (132, 2, 3) := ⟨by decide, by decide +kernel, List.mem_append_right _ (List.mem_of_getElem? (i := 146) (by decide +kernel))⟩
theorem fk_6_229 : okf 6 (229, 2, 2) := ⟨by decide, by decide +kernel, List.mem_append_right _ (List.mem_of_getElem? (i := 144) (by decide +kernel))⟩
theorem fk_6_201 : okf 6 (201, 2, 1) := ⟨by decide, by decide +kernel, List.mem_append_right _ (List.mem_of_getElem? (i := 140) (by decide +kernel))⟩
theorem fk_6_114 : okf 6 (114, 2, 0) := ⟨by decide, by decide +kernel, List.mem_append_right _ (List.mem_of_getElem? (i := 136) (by decide +kernel))⟩
theorem fk_6_70 : okf 6 (70, 0, 6) := ⟨by decide, by decide +kernel, List.mem_append_right _ (List.mem_of_getElem? (i := 104) (by decide +kernel))⟩
theorem fk_6_239 : okf 6 (239, 9, 1) := ⟨by decide, by decide +kernel, List.mem_append_right _ (List.mem_of_getElem? (i := 78) (by decide +kernel))⟩
theorem fk_6_188 : okf 6 (188, 8, 0) := ⟨by decide, by decide +kernel, List.mem_append_right _ (List.mem_of_getElem? (i := 39) (by decide +kernel))⟩
theorem fk_6 : ∀ q ∈ tb_f_6, okf 6 q := List.forall_mem_cons.mpr ⟨fk_6_188, List.forall_mem_cons.mpr ⟨fk_6_239, List.forall_mem_cons.mpr ⟨fk_6_70, List.forall_mem_cons.mpr ⟨fk_6_114, List.forall_mem_cons.mpr ⟨fk_6_201, List.forall_mem_cons.mpr ⟨fk_6_229, List.forall_mem_cons.mpr ⟨fk_6_132, List.forall_mem_cons.mpr ⟨fk_6_139, List.forall_mem_cons.mpr ⟨fk_6_142, List.forall_mem_cons.mpr ⟨fk_6_161, List.forall_mem_cons.mpr ⟨fk_6_197, List.forall_mem_cons.mpr ⟨fk_6_187, List.forall_mem_cons.mpr ⟨fk_6_178, List.forall_mem_cons.mpr ⟨fk_6_181, List.forall_mem_cons.mpr ⟨fk_6_218, List.forall_mem_cons.mpr ⟨fk_6_204, List.forall_mem_cons.mpr ⟨fk_6_215, List.forall_mem_cons.mpr ⟨fk_6_9, List.forall_mem_cons.mpr ⟨fk_6_17, List.forall_mem_cons.mpr ⟨fk_6_23, List.forall_mem_cons.mpr ⟨fk_6_30, List.forall_mem_cons.mpr ⟨fk_6_37, List.forall_mem_cons.mpr ⟨fk_6_63, List.forall_mem_cons.mpr ⟨fk_6_47, List.forall_mem_cons.mpr ⟨fk_6_54, List.forall_mem_cons.mpr ⟨fk_6_41, List.forall_mem_cons.mpr ⟨fk_6_66, List.forall_mem_cons.mpr ⟨fk_6_164, fun _ h => absurd h List.not_mem_nil⟩⟩⟩⟩⟩⟩⟩⟩⟩⟩⟩⟩⟩⟩⟩⟩⟩⟩⟩⟩⟩⟩⟩⟩⟩⟩⟩⟩
theorem fk_7_18 : okf 7 (18, 7, 5) := ⟨by decide, by decide +kernel, List.mem_append_right _ (List.mem_of_getElem? (i := 417) (by decide +kernel))⟩
theorem fk_7_68 : okf 7 (68, 7, 4) := ⟨by decide, by decide +kernel, List.mem_append_right _ (List.mem_of_getElem? (i := 415) (by decide +kernel))⟩
theorem fk_7_100 : okf 7 (100, 7, 3) := ⟨by decide, by decide +kernel, List.mem_append_right _ (List.mem_of_getElem? (i := 413) (by decide +kernel))⟩
theorem fk_7_29 : okf 7 (29, 7, 2) := ⟨by decide, by decide +kernel, List.mem_append_right _ (List.mem_of_getElem? (i := 412) (by decide +kernel))⟩
theorem fk_7_15 : okf 7 (15, 7, 1) := ⟨by decide, by decide +kernel, List.mem_append_right _ (List.mem_of_getElem? (i := 410) (by decide +kernel))⟩
theorem fk_7_9 : okf 7 (9, 7, 0) := ⟨by decide, by decide +kernel, List.mem_append_right _ (List.mem_of_getElem? (i := 409) (by decide +kernel))⟩
theorem fk_7_103 : okf 7 (103, 6, 8) := ⟨by decide, by decide +kernel, List.mem_append_right _ (List.mem_of_getElem? (i := 245) (by decide +kernel))⟩
theorem fk_7_61 : okf 7 (61, 6, 6) := ⟨by decide, by decide +kernel, List.mem_append_right _ (List.mem_of_getElem? (i := 239) (by decide +kernel))⟩
theorem fk_7_52 : okf 7 (52, 6, 1) := ⟨by decide, by decide +kernel, List.mem_append_right _ (List.mem_of_getElem? (i := 225) (by decide +kernel))⟩
theorem fk_7_33 : okf 7 (33, 1, 6) := ⟨by decide, by decide +kernel, List.mem_append_right _ (List.mem_of_getElem? (i := 202) (by decide +kernel))⟩
theorem fk_7_87 : okf 7 (87, 2, 4) := ⟨by decide, by decide +kernel, List.mem_append_right _ (List.mem_of_getElem? (i := 151) (by decide +kernel))⟩
theorem fk_7_90 : okf 7 (90, 2, 3) := ⟨by decide, by decide +kernel, List.mem_append_right _ (List.mem_of_getElem? (i := 147) (by decide +kernel))⟩
theorem fk_7_108 : okf 7 (108, 2, 2) := ⟨by decide, by decide +kernel, List.mem_append_right _ (List.mem_of_getElem? (i := 143) (by decide +kernel))⟩
theorem fk_7_56 : okf 7 (56, 2, 1) := ⟨by decide, by decide +kernel, List.mem_append_right _ (List.mem_of_getElem? (i := 138) (by decide +kernel))⟩
theorem fk_7_22 : okf 7 (22, 8, 0) := ⟨by decide, by decide +kernel, List.mem_append_right _ (List.mem_of_getElem? (i := 36) (by decide +kernel))⟩
theorem fk_7 : ∀ q ∈ tb_f_7, okf 7 q := List.forall_mem_cons.mpr ⟨fk_7_22, List.forall_mem_cons.mpr ⟨fk_7_56, List.forall_mem_cons.mpr ⟨fk_7_108, List.forall_mem_cons.mpr ⟨fk_7_90, List.forall_mem_cons.mpr ⟨fk_7_87, List.forall_mem_cons.mpr ⟨fk_7_33, List.forall_mem_cons.mpr ⟨fk_7_52, List.forall_mem_cons.mpr ⟨fk_7_61, List.forall_mem_cons.mpr ⟨fk_7_103, List.forall_mem_cons.mpr ⟨fk_7_9, List.forall_mem_cons.mpr ⟨fk_7_15, List.forall_mem_cons.mpr ⟨fk_7_29, List.forall_mem_cons.mpr ⟨fk_7_100, List.forall_mem_cons.mpr ⟨fk_7_68, List.forall_mem_cons.mpr ⟨fk_7_18, fun _ h => absurd h List.not_mem_nil⟩⟩⟩⟩⟩⟩⟩⟩⟩⟩⟩⟩⟩⟩⟩
theorem fk_8_23 : okf 8 (23, 8, 3) := ⟨by decide, by decide +kernel, List.mem_append_right _ (List.mem_of_getElem? (i := 45) (by decide +kernel))⟩
theorem fk_8_19 : okf 8 (19, 8, 2) := ⟨by decide, by decide +kernel, List.mem_append_right _ (List.mem_of_getElem? (i := 43) (by decide +kernel))⟩
theorem fk_8_15 : okf 8 (15, 8, 1) := ⟨by decide, by decide +kernel, List.mem_append_right _ (List.mem_of_getElem? (i := 40) (by decide +kernel))⟩
theorem fk_8_9 : okf 8 (9, 8, 0) := ⟨by decide, by decide +kernel, List.mem_append_right _ (List.mem_of_getElem? (i := 35) (by decide +kernel))⟩
theorem fk_8 : ∀ q ∈ tb_f_8, okf 8 q := List.forall_mem_cons.mpr ⟨fk_8_9, List.forall_mem_cons.mpr ⟨fk_8_15, List.forall_mem_cons.mpr ⟨fk_8_19, List.forall_mem_cons.mpr ⟨fk_8_23, fun _ h => absurd h List.not_mem_nil⟩⟩⟩⟩
theorem fk_9_22 : okf 9 (22, 6, 1) := ⟨by decide, by decide +kernel, List.mem_append_right _ (List.mem_of_getElem? (i := 223) (by decide +kernel))⟩
theorem fk_9_19 : okf 9 (19, 1, 6) := ⟨by decide, by decide +kernel, List.mem_append_right _ (List.mem_of_getElem? (i := 200) (by decide +kernel))⟩
theorem fk_9_28 : okf 9 (28, 1, 0) := ⟨by decide, by decide +kernel, List.mem_append_right _ (List.mem_of_getElem? (i := 181) (by decide +kernel))⟩
theorem fk_9_32 : okf 9 (32, 2, 2) := ⟨by decide, by decide +kernel, List.mem_append_right _ (List.mem_of_getElem? (i := 141) (by decide +kernel))⟩
theorem fk_9_15 : okf 9 (15, 9, 1) := ⟨by decide, by decide +kernel, List.mem_append_right _ (List.mem_of_getElem? (i := 77) (by decide +kernel))⟩
theorem fk_9_9 : okf 9 (9, 9, 0) := ⟨by decide, by decide +kernel, List.mem_append_right _ (List.mem_of_getElem? (i := 75) (by decide +kernel))⟩
theorem fk_9 : ∀ q ∈ tb_f_9, okf 9 q := List.forall_mem_cons.mpr ⟨fk_9_9, List.forall_mem_cons.mpr ⟨fk_9_15, List.forall_mem_cons.mpr ⟨fk_9_32, List.forall_mem_cons.mpr ⟨fk_9_28, List.forall_mem_cons.mpr ⟨fk_9_19, List.forall_mem_cons.mpr ⟨fk_9_22, fun _ h => absurd h List.not_mem_nil⟩⟩⟩⟩⟩⟩
theorem fk_10_413 : okf 10 (413, 10, 16) := ⟨by decide, by decide +kernel, List.mem_append_right _ (List.mem_of_getElem? (i := 483) (by decide +kernel))⟩
theorem fk_10_79 : okf 10 (79, 10, 15) := ⟨by decide, by decide +kernel, List.mem_append_right _ (List.mem_of_getElem? (i := 482) (by decide +kernel))⟩
theorem fk_10_75 : okf 10 (75, 10, 14) := ⟨by decide, by decide +kernel, List.mem_append_right _ (List.mem_of_getElem? (i := 481) (by decide +kernel))⟩
theorem fk_10_71 : okf 10 (71, 10, 13) := ⟨by decide, by decide +kernel, List.mem_append_right _ (List.mem_of_getElem? (i := 480) (by decide +kernel))⟩
theorem fk_10_85 : okf 10 (85, 10, 12) := ⟨by decide, by decide +kernel, List.mem_append_right _ (List.mem_of_getElem? (i := 479) (by decide +kernel))⟩
theorem fk_10_82 : okf 10 (82, 10, 11) := ⟨by decide, by decide +kernel, List.mem_append_right _ (List.mem_of_getElem? (i := 478) (by decide +kernel))⟩
theorem fk_10_67 : okf 10 (67, 10, 10) := ⟨by decide, by decide +kernel, List.mem_append_right _ (List.mem_of_getElem? (i := 477) (by decide +kernel))⟩
theorem fk_10_61 : okf 10 (61, 10, 9) := ⟨by decide, by decide +kernel, List.mem_append_right _ (List.mem_of_getElem? (i := 476) (by decide +kernel))⟩
theorem fk_10_58 : okf 10 (58, 10, 8) := ⟨by decide, by decide +kernel, List.mem_append_right _ (List.mem_of_getElem? (i := 475) (by decide +kernel))⟩
theorem fk_10_54 : okf 10 (54, 10, 7) := ⟨by decide, by decide +kernel, List.mem_append_right _ (List.mem_of_getElem? (i := 474) (by decide +kernel))⟩
theorem fk_10_47 : okf 10 (47, 10, 6) := ⟨by decide, by decide +kernel, List.mem_append_right _ (List.mem_of_getElem? (i := 473) (by decide +kernel))⟩
theorem fk_10_41 : okf 10 (41, 10, 5) := ⟨by decide, by decide +kernel, List.mem_append_right _ (List.mem_of_getElem? (i := 472) (by decide +kernel))⟩
theorem fk_10_37 : okf 10 (37, 10, 4) := ⟨by decide, by decide +kernel, List.mem_append_right _ (List.mem_of_getElem? (i := 471) (by decide +kernel))⟩
theorem fk_10_30 : okf 10 (30, 10, 3) := ⟨by decide, by decide +kernel, List.mem_append_right _ (List.mem_of_getElem? (i := 470) (by decide +kernel))⟩
theorem fk_10_18 : okf 10 (18, 10, 2) := ⟨by decide, by decide +kernel, List.mem_append_right _ (List.mem_of_getElem? (i := 469) (by decide +kernel))⟩
theorem fk_10_26 : okf 10 (26, 10, 1) := ⟨by decide, by decide +kernel, List.mem_append_right _ (List.mem_of_getElem? (i := 468) (by decide +kernel))⟩
theorem fk_10_11 : okf 10 (11, 10, 0) := ⟨by decide, by decide +kernel, List.mem_append_right _ (List.mem_of_getElem? (i := 467) (by decide +kernel))⟩
theorem fk_10_378 : okf 10 (378, 4, 3) := ⟨by decide, by decide +kernel, List.mem_append_right _ (List.mem_of_getElem? (i := 446) (by decide +kernel))⟩
theorem fk_10_388 : okf 10 (388, 4, 2) := ⟨by decide, by decide +kernel, List.mem_append_right _ (List.mem_of_getElem? (i := 444) (by decide +kernel))⟩
theorem fk_10_382 : okf 10 (382, 4, 1) := ⟨by decide, by decide +kernel, List.mem_append_right _ (List.mem_of_getElem? (i := 442) (by decide +kernel))⟩
theorem fk_10_385 : okf 10 (385, 4, 0) := ⟨by decide, by decide +kernel, List.mem_append_right _ (List.mem_of_getElem? (i := 440) (by decide +kernel))⟩
theorem fk_10_342 : okf 10 (342, 7, 4) := ⟨by decide, by decide +kernel, List.mem_append_right _ (List.mem_of_getElem? (i := 416) (by decide +kernel))⟩
theorem fk_10_336 : okf 10 (336, 7, 3) := ⟨by decide, by decide +kernel, List.mem_append_right _ (List.mem_of_getElem? (i := 414) (by decide +kernel))⟩
theorem fk_10_339 : okf 10 (339, 7, 1) := ⟨by decide, by decide +kernel, List.mem_append_right _ (List.mem_of_getElem? (i := 411) (by decide +kernel))⟩
theorem fk_10_406 : okf 10 (406, 3, 5) := ⟨by decide, by decide +kernel, List.mem_append_right _ (List.mem_of_getElem? (i := 383) (by decide +kernel))⟩
theorem fk_10_403 : okf 10 (403, 3, 4) := ⟨by decide, by decide +kernel, List.mem_append_right _ (List.mem_of_getElem? (i := 381) (by decide +kernel))⟩
theorem fk_10_401 : okf 10 (401, 3, 3) := ⟨by decide, by decide +kernel, List.mem_append_right _ (List.mem_of_getElem? (i := 379) (by decide +kernel))⟩
theorem fk_10_398 : okf 10 (398, 3, 2) := ⟨by decide, by decide +kernel, List.mem_append_right _ (List.mem_of_getElem? (i := 377) (by decide +kernel))⟩
theorem fk_10_396 : okf 10 (396, 3, 1) := ⟨by decide, by decide +kernel, List.mem_append_right _ (List.mem_of_getElem? (i := 375) (by decide +kernel))⟩
theorem fk_10_397 : okf 10 (397, 3, 0) := ⟨by decide, by decide +kernel, List.mem_append_right _ (List.mem_of_getElem? (i := 373) (by decide +kernel))⟩
theorem fk_10_419 : okf 10 (419, 5, 10) := ⟨by decide, by decide +kernel, List.mem_append_right _ (List.mem_of_getElem? (i := 341) (by decide +kernel))⟩
theorem fk_10_416 : okf 10 (416, 5, 9) := ⟨by decide, by decide +kernel, List.mem_append_right _ (List.mem_of_getElem? (i := 339) (by decide +kernel))⟩
theorem fk_10_136 : okf 10 (136, 5, 2) := ⟨by decide, by decide +kernel, List.mem_append_right _ (List.mem_of_getElem? (i := 328) (by decide +kernel))⟩
theorem fk_10_174 : okf 10 (174, 6, 8) := ⟨by decide, by decide +kernel, List.mem_append_right _ (List.mem_of_getElem? (i := 246) (by decide +kernel))⟩
theorem fk_10_171 : okf 10 (171, 6, 7) := ⟨by decide, by decide +kernel, List.mem_append_right _ (List.mem_of_getElem? (i := 243) (by decide +kernel))⟩
theorem fk_10_153 : okf 10 (153, 6, 6) := ⟨by decide, by decide +kernel, List.mem_append_right _ (List.mem_of_getElem? (i := 240) (by decide +kernel))⟩
theorem fk_10_168 : okf 10 (168, 6, 5) := ⟨by decide, by decide +kernel, List.mem_append_right _ (List.mem_of_getElem? (i := 237) (by decide +kernel))⟩
theorem fk_10_162 : okf 10 (162, 6, 4) := ⟨by decide, by decide +kernel, List.mem_append_right _ (List.mem_of_getElem? (i := 235) (by decide +kernel))⟩
theorem fk_10_275 : okf 10 (275, 6, 3) := ⟨by decide, by decide +kernel, List.mem_append_right _ (List.mem_of_getElem? (i := 232) (by decide +kernel))⟩
theorem fk_10_208 : okf 10 (208, 6, 2) := ⟨by decide, by decide +kernel, List.mem_append_right _ (List.mem_of_getElem? (i := 230) (by decide +kernel))⟩
theorem fk_10_181 : okf 10 (181, 6, 1) := ⟨by decide, by decide +kernel, List.mem_append_right _ (List.mem_of_getElem? (i := 226) (by decide +kernel))⟩
theorem fk_10_223 : okf 10 (223, 1, 6) := ⟨by decide, by decide +kernel, List.mem_append_right _ (List.mem_of_getElem? (i := 204) (by decide +kernel))⟩
theorem fk_10_226 : okf 10 (226, 1, 5) := ⟨by decide, by decide +kernel, List.mem_append_right _ (List.mem_of_getElem? (i := 198) (by decide +kernel))⟩
theorem fk_10_220 : okf 10 (220, 1, 4) := ⟨by decide, by decide +kernel, List.mem_append_right _ (List.mem_of_getElem? (i := 194) (by decide +kernel))⟩
theorem fk_10_217 : okf 10 (217, 1, 3) := ⟨by decide, by decide +kernel, List.mem_append_right _ (List.mem_of_getElem? (i := 191) (by decide +kernel))⟩
theorem fk_10_212 : okf 10 (212, 1, 2) := ⟨by decide, by decide +kernel, List.mem_append_right _ (List.mem_of_getElem? (i := 188) (by decide +kernel))⟩
theorem fk_10_236 : okf 10 (236, 1, 0) := ⟨by decide, by decide +kernel, List.mem_append_right _ (List.mem_of_getElem? (i := 182) (by decide +kernel))⟩
theorem fk_10_202 : okf 10 (202, 2, 6) := ⟨by decide, by decide +kernel, List.mem_append_right _ (List.mem_of_getElem? (i := 159) (by decide +kernel))⟩
theorem fk_10_196 : okf 10 (196, 2, 5) := ⟨by decide, by decide +kernel, List.mem_append_right _ (List.mem_of_getElem? (i := 156) (by decide +kernel))⟩
theorem fk_10_193 : okf 10 (193, 2, 4) := ⟨by decide, by decide +kernel, List.mem_append_right _ (List.mem_of_getElem? (i := 152) (by decide +kernel))⟩
theorem fk_10_190 : okf 10 (190, 2, 3) := ⟨by decide, by decide +kernel, List.mem_append_right _ (List.mem_of_getElem? (i := 148) (by decide +kernel))⟩
theorem fk_10_185 : okf 10 (185, 2, 1) := ⟨by decide, by decide +kernel, List.mem_append_right _ (List.mem_of_getElem? (i := 139) (by decide +kernel))⟩
theorem fk_10_165 : okf 10 (165, 0, 7) := ⟨by decide, by decide +kernel, List.mem_append_right _ (List.mem_of_getElem? (i := 108) (by decide +kernel))⟩
theorem fk_10_391 : okf 10 (391, 0, 6) := ⟨by decide, by decide +kernel, List.mem_append_right _ (List.mem_of_getElem? (i := 105) (by decide +kernel))⟩
theorem fk_10_294 : okf 10 (294, 9, 1) := ⟨by decide, by decide +kernel, List.mem_append_right _ (List.mem_of_getElem? (i := 79) (by decide +kernel))⟩
theorem fk_10_295 : okf 10 (295, 9, 0) := ⟨by decide, by decide +kernel, List.mem_append_right _ (List.mem_of_getElem? (i := 76) (by decide +kernel))⟩
theorem fk_10_243 : okf 10 (243, 8, 3) := ⟨by decide, by decide +kernel, List.mem_append_right _ (List.mem_of_getElem? (i := 47) (by decide +kernel))⟩
theorem fk_10_123 : okf 10 (123, 8, 2) := ⟨by decide, by decide +kernel, List.mem_append_right _ (List.mem_of_getElem? (i := 44) (by decide +kernel))⟩
theorem fk_10_119 : okf 10 (119, 8, 1) := ⟨by decide, by decide +kernel, List.mem_append_right _ (List.mem_of_getElem? (i := 42) (by decide +kernel))⟩
theorem fk_10_115 : okf 10 (115, 8, 0) := ⟨by decide, by decide +kernel, List.mem_append_right _ (List.mem_of_getElem? (i := 38) (by decide +kernel))⟩
theorem fk_10 : ∀ q ∈ tb_f_10, okf 10 q := List.forall_mem_cons.mpr ⟨fk_10_115, List.forall_mem_cons.mpr ⟨fk_10_119, List.forall_mem_cons.mpr ⟨fk_10_123, List.forall_mem_cons.mpr ⟨fk_10_243, List.forall_mem_cons.mpr ⟨fk_10_295, List.forall_mem_cons.mpr ⟨fk_10_294, List.forall_mem_cons.mpr ⟨fk_10_391, List.forall_mem_cons.mpr ⟨fk_10_165, List.forall_mem_cons.mpr ⟨fk_10_185, List.forall_mem_cons.mpr ⟨fk_10_190, List.forall_mem_cons.mpr ⟨fk_10_193, List.forall_mem_cons.mpr ⟨fk_10_196, List.forall_mem_cons.mpr ⟨fk_10_202, List.forall_mem_cons.mpr ⟨fk_10_236, List.forall_mem_cons.mpr ⟨fk_10_212, List.forall_mem_cons.mpr ⟨fk_10_217, List.forall_mem_cons.mpr ⟨fk_10_220, List.forall_mem_cons.mpr ⟨fk_10_226, List.forall_mem_cons.mpr ⟨fk_10_223, List.forall_mem_cons.mpr ⟨fk_10_181, List.forall_mem_cons.mpr ⟨fk_10_208, List.forall_mem_cons.mpr ⟨fk_10_275, List.forall_mem_cons.mpr ⟨fk_10_162, List.forall_mem_cons.mpr ⟨fk_10_168, List.forall_mem_cons.mpr ⟨fk_10_153, List.forall_mem_cons.mpr ⟨fk_10_171, List.forall_mem_cons.mpr ⟨fk_10_174, List.forall_mem_cons.mpr ⟨fk_10_136, List.forall_mem_cons.mpr ⟨fk_10_416, List.forall_mem_cons.mpr ⟨fk_10_419, List.forall_mem_cons.mpr ⟨fk_10_397, List.forall_mem_cons.mpr ⟨fk_10_396, List.forall_mem_cons.mpr ⟨fk_10_398, List.forall_mem_cons.mpr ⟨fk_10_401, List.forall_mem_cons.mpr ⟨fk_10_403, List.forall_mem_cons.mpr ⟨fk_10_406, List.forall_mem_cons.mpr ⟨fk_10_339, List.forall_mem_cons.mpr ⟨fk_10_336, List.forall_mem_cons.mpr ⟨fk_10_342, List.forall_mem_cons.mpr ⟨fk_10_385, List.forall_mem_cons.mpr ⟨fk_10_382, List.forall_mem_cons.mpr ⟨fk_10_388, List.forall_mem_cons.mpr ⟨fk_10_378, List.forall_mem_cons.mpr ⟨fk_10_11, List.forall_mem_cons.mpr ⟨fk_10_26, List.forall_mem_cons.mpr ⟨fk_10_18, List.forall_mem_cons.mpr ⟨fk_10_30, List.forall_mem_cons.mpr ⟨fk_10_37, List.forall_mem_cons.mpr ⟨fk_10_41, List.forall_mem_cons.mpr ⟨fk_10_47, List.forall_mem_cons.mpr ⟨fk_10_54, List.forall_mem_cons.mpr ⟨fk_10_58, List.forall_mem_cons.mpr ⟨fk_10_61, List.forall_mem_cons.mpr ⟨fk_10_67, List.forall_mem_cons.mpr ⟨fk_10_82, List.forall_mem_cons.mpr ⟨fk_10_85, List.forall_mem_cons.mpr ⟨fk_10_71, List.forall_mem_cons.mpr ⟨fk_10_75, List.forall_mem_cons.mpr ⟨fk_10_79, List.forall_mem_cons.mpr ⟨fk_10_413, fun _ h => absurd h List.not_mem_nil⟩⟩⟩⟩⟩⟩⟩⟩⟩⟩⟩⟩⟩⟩⟩⟩⟩⟩⟩⟩⟩⟩⟩⟩⟩⟩⟩⟩⟩⟩⟩⟩⟩⟩⟩⟩⟩⟩⟩⟩⟩⟩⟩⟩⟩⟩⟩⟩⟩⟩⟩⟩⟩⟩⟩⟩⟩⟩⟩⟩
theorem fk_11_496 : okf 11 (496, 11, 51) := ⟨by decide, by decide +kernel, List.mem_append_right _ (List.mem_of_getElem? (i := 1276) (by decide +kernel))⟩
theorem fk_11_475 : okf 11 (475, 11, 50) := ⟨by decide, by decide +kernel, List.mem_append_right _ (List.mem_of_getElem? (i := 1275) (by decide +kernel))⟩
theorem fk_11_472 : okf 11 (472, 11, 49) := ⟨by decide, by decide +kernel, List.mem_append_right _ (List.mem_of_getElem? (i := 1274) (by decide +kernel))⟩
theorem fk_11_499 : okf 11 (499, 11, 48) := ⟨by decide, by decide +kernel, List.mem_append_right _ (List.mem_of_getElem? (i := 1273) (by decide +kernel))⟩
theorem fk_11_490 : okf 11 (490, 11, 47) := ⟨by decide, by decide +kernel, List.mem_append_right _ (List.mem_of_getElem? (i := 1272) (by decide +kernel))⟩
theorem fk_11_468 : okf 11 (468, 11, 46) := ⟨by decide, by decide +kernel, List.mem_append_right _ (List.mem_of_getElem? (i := 1271) (by decide +kernel))⟩
theorem fk_11_493 : okf 11 (493, 11, 45) := ⟨by decide, by decide +kernel, List.mem_append_right _ (List.mem_of_getElem? (i := 1270) (by decide +kernel))⟩
theorem fk_11_519 : okf 11 (519, 11, 44) := ⟨by decide, by decide +kernel, List.mem_append_right _ (List.mem_of_getElem? (i := 1269) (by decide +kernel))⟩
theorem fk_11_91 : okf 11 (91, 11, 43) := ⟨by decide, by decide +kernel, List.mem_append_right _ (List.mem_of_getElem? (i := 1268) (by decide +kernel))⟩
theorem fk_11_88 : okf 11 (88, 11, 42) := ⟨by decide, by decide +kernel, List.mem_append_right _ (List.mem_of_getElem? (i := 1267) (by decide +kernel))⟩
theorem fk_11_85 : okf 11 (85, 11, 41) := ⟨by decide, by decide +kernel, List.mem_append_right _ (List.mem_of_getElem? (i := 1266) (by decide +kernel))⟩
theorem fk_11_82 : okf 11 (82, 11, 40) := ⟨by decide, by decide +kernel, List.mem_append_right _ (List.mem_of_getElem? (i := 1265) (by decide +kernel))⟩
theorem fk_11_79 : okf 11 (79, 11, 39) := ⟨by decide, by decide +kernel, List.mem_append_right _ (List.mem_of_getElem? (i := 1264) (by decide +kernel))⟩
theorem fk_11_76 : okf 11 (76, 11, 38) := ⟨by decide, by decide +kernel, List.mem_append_right _ (List.mem_of_getElem? (i := 1263) (by decide +kernel))⟩
theorem fk_11_73 : okf 11 (73, 11, 37) := ⟨by decide, by decide +kernel, List.mem_append_right _ (List.mem_of_getElem? (i := 1262) (by decide +kernel))⟩
theorem fk_11_70 : okf 11 (70, 11, 36) := ⟨by decide, by decide +kernel, List.mem_append_right _ (List.mem_of_getElem? (i := 1261) (by decide +kernel))⟩
theorem fk_11_67 : okf 11 (67, 11, 35) := ⟨by decide, by decide +kernel, List.mem_append_right _ (List.mem_of_getElem? (i := 1260) (by decide +kernel))⟩
theorem fk_11_63 : okf 11 (63, 11, 34) := ⟨by decide, by decide +kernel, List.mem_append_right _ (List.mem_of_getElem? (i := 1259) (by decide +kernel))⟩
theorem fk_11_59 : okf 11 (59, 11, 33) := ⟨by decide, by decide +kernel, List.mem_append_right _ (List.mem_of_getElem? (i := 1258) (by decide +kernel))⟩
theorem fk_11_440 : okf 11 (440, 11, 32) := ⟨by decide, by decide +kernel, List.mem_append_right _ (List.mem_of_getElem? (i := 1257) (by decide +kernel))⟩
theorem fk_11_56 : okf 11 (56, 11, 31) := ⟨by decide, by decide +kernel, List.mem_append_right _ (List.mem_of_getElem? (i := 1256) (by decide +kernel))⟩
theorem fk_11_53 : okf 11 (53, 11, 30) := ⟨by decide, by decide +kernel, List.mem_append_right _ (List.mem_of_getElem? (i := 1255) (by decide +kernel))⟩
theorem fk_11_50 : okf 11 (50, 11, 29) := ⟨by decide, by decide +kernel, List.mem_append_right _ (List.mem_of_getElem? (i := 1254) (by decide +kernel))⟩
theorem fk_11_47 : okf 11 (47, 11, 28) := ⟨by decide, by decide +kernel, List.mem_append_right _ (List.mem_of_getElem? (i := 1253) (by decide +kernel))⟩
theorem fk_11_384 : okf 11 (384, 11, 27) := ⟨by decide, by decide +kernel, List.mem_append_right _ (List.mem_of_getElem? (i := 1252) (by decide +kernel))⟩
theorem fk_11_44 : okf 11 (44, 11, 26) := ⟨by decide, by decide +kernel, List.mem_append_right _ (List.mem_of_getElem? (i := 1251) (by decide +kernel))⟩
theorem fk_11_321 : okf 11 (321, 11, 25) := ⟨by decide, by decide +kernel, List.mem_append_right _ (List.mem_of_getElem? (i := 1250) (by decide +kernel))⟩
theorem fk_11_290 : okf 11 (290, 11, 24) := ⟨by decide, by decide +kernel, List.mem_append_right _ (List.mem_of_getElem? (i := 1249) (by decide +kernel))⟩
theorem fk_11_524 : okf 11 (524, 11, 23) := ⟨by decide, by decide +kernel, List.mem_append_right _ (List.mem_of_getElem? (i := 1248) (by decide +kernel))⟩
theorem fk_11_41 : okf 11 (41, 11, 22) := ⟨by decide, by decide +kernel, List.mem_append_right _ (List.mem_of_getElem? (i := 1247) (by decide +kernel))⟩
theorem fk_11_38 : okf 11 (38, 11, 21) := ⟨by decide, by decide +kernel, List.mem_append_right _ (List.mem_of_getElem? (i := 1246) (by decide +kernel))⟩
theorem fk_11_35 : okf 11 (35, 11, 20) := ⟨by decide, by decide +kernel, List.mem_append_right _ (List.mem_of_getElem? (i := 1245) (by decide +kernel))⟩
theorem fk_11_151 : okf 11 (151, 11, 19) := ⟨by decide, by decide +kernel, List.mem_append_right _ (List.mem_of_getElem? (i := 1244) (by decide +kernel))⟩
theorem fk_11_158 : okf 11 (158, 11, 18) := ⟨by decide, by decide +kernel, List.mem_append_right _ (List.mem_of_getElem? (i := 1243) (by decide +kernel))⟩
theorem fk_11_164 : okf 11 (164, 11, 17) := ⟨by decide, by decide +kernel, List.mem_append_right _ (List.mem_of_getElem? (i := 1242) (by decide +kernel))⟩
theorem fk_11_136 : okf 11 (136, 11, 16) := ⟨by decide, by decide +kernel, List.mem_append_right _ (List.mem_of_getElem? (i := 1241) (by decide +kernel))⟩
theorem fk_11_139 : okf 11 (139, 11, 15) := ⟨by decide, by decide +kernel, List.mem_append_right _ (List.mem_of_getElem? (i := 1240) (by decide +kernel))⟩
theorem fk_11_145 : okf 11 (145, 11, 14) := ⟨by decide, by decide +kernel, List.mem_append_right _ (List.mem_of_getElem? (i := 1239) (by decide +kernel))⟩
theorem fk_11_228 : okf 11 (228, 11, 13) := ⟨by decide, by decide +kernel, List.mem_append_right _ (List.mem_of_getElem? (i := 1238) (by decide +kernel))⟩
theorem fk_11_225 : okf 11 (225, 11, 12) := ⟨by decide, by decide +kernel, List.mem_append_right _ (List.mem_of_getElem? (i := 1237) (by decide +kernel))⟩
theorem fk_11_32 : okf 11 (32, 11, 11) := ⟨by decide, by decide +kernel, List.mem_append_right _ (List.mem_of_getElem? (i := 1236) (by decide +kernel))⟩
theorem fk_11_28 : okf 11 (28, 11, 10) := ⟨by decide, by decide +kernel, List.mem_append_right _ (List.mem_of_getElem? (i := 1235) (by decide +kernel))⟩
theorem fk_11_133 : okf 11 (133, 11, 9) := ⟨by decide, by decide +kernel, List.mem_append_right _ (List.mem_of_getElem? (i := 1234) (by decide +kernel))⟩
theorem fk_11_241 : okf 11 (241, 11, 8) := ⟨by decide, by decide +kernel, List.mem_append_right _ (List.mem_of_getElem? (i := 1233) (by decide +kernel))⟩
theorem fk_11_24 : okf 11 (24, 11, 7) := ⟨by decide, by decide +kernel, List.mem_append_right _ (List.mem_of_getElem? (i := 1232) (by decide +kernel))⟩
theorem fk_11_20 : okf 11 (20, 11, 6) := ⟨by decide, by decide +kernel, List.mem_append_right _ (List.mem_of_getElem? (i := 1231) (by decide +kernel))⟩
theorem fk_11_17 : okf 11 (17, 11, 5) := ⟨by decide, by decide +kernel, List.mem_append_right _ (List.mem_of_getElem? (i := 1230) (by decide +kernel))⟩
theorem fk_11_13 : okf 11 (13, 11, 4) := ⟨by decide, by decide +kernel, List.mem_append_right _ (List.mem_of_getElem? (i := 1229) (by decide +kernel))⟩
theorem fk_11_7 : okf 11 (7, 11, 3) := ⟨by decide, by decide +kernel, List.mem_append_right _ (List.mem_of_getElem? (i := 1228) (by decide +kernel))⟩
theorem fk_11_100 : okf 11 (100, 11, 2) := ⟨by decide, by decide +kernel, List.mem_append_right _ (List.mem_of_getElem? (i := 1227) (by decide +kernel))⟩
theorem fk_11_94 : okf 11 (94, 11, 1) := ⟨by decide, by decide +kernel, List.mem_append_right _ (List.mem_of_getElem? (i := 1226) (by decide +kernel))⟩
theorem fk_11_97 : okf 11 (97, 11, 0) := ⟨by decide, by decide +kernel, List.mem_append_right _ (List.mem_of_getElem? (i := 1225) (by decide +kernel))⟩
theorem fk_11 : ∀ q ∈ tb_f_11, okf 11 q := List.forall_mem_cons.mpr ⟨fk_11_97, List.forall_mem_cons.mpr ⟨fk_11_94, List.forall_mem_cons.mpr ⟨fk_11_100, List.forall_mem_cons.mpr ⟨fk_11_7, List.forall_mem_cons.mpr ⟨fk_11_13, List.forall_mem_cons.mpr ⟨fk_11_17, List.forall_mem_cons.mpr ⟨fk_11_20, List.forall_mem_cons.mpr ⟨fk_11_24, List.forall_mem_cons.mpr ⟨fk_11_241, List.forall_mem_cons.mpr ⟨fk_11_133, List.forall_mem_cons.mpr ⟨fk_11_28, List.forall_mem_cons.mpr ⟨fk_11_32, List.forall_mem_cons.mpr ⟨fk_11_225, List.forall_mem_cons.mpr ⟨fk_11_228, List.forall_mem_cons.mpr ⟨fk_11_145, List.forall_mem_cons.mpr ⟨fk_11_139, List.forall_mem_cons.mpr ⟨fk_11_136, List.forall_mem_cons.mpr ⟨fk_11_164, List.forall_mem_cons.mpr ⟨fk_11_158, List.forall_mem_cons.mpr ⟨fk_11_151, List.forall_mem_cons.mpr ⟨fk_11_35, List.forall_mem_cons.mpr ⟨fk_11_38, List.forall_mem_cons.mpr ⟨fk_11_41, List.forall_mem_cons.mpr ⟨fk_11_524, List.forall_mem_cons.mpr ⟨fk_11_290, List.forall_mem_cons.mpr ⟨fk_11_321, List.forall_mem_cons.mpr ⟨fk_11_44, List.forall_mem_cons.mpr ⟨fk_11_384, List.forall_mem_cons.mpr ⟨fk_11_47, List.forall_mem_cons.mpr ⟨fk_11_50, List.forall_mem_cons.mpr ⟨fk_11_53, List.forall_mem_cons.mpr ⟨fk_11_56, List.forall_mem_cons.mpr ⟨fk_11_440, List.forall_mem_cons.mpr ⟨fk_11_59, List.forall_mem_cons.mpr ⟨fk_11_63, List.forall_mem_cons.mpr ⟨fk_11_67, List.forall_mem_cons.mpr ⟨fk_11_70, List.forall_mem_cons.mpr ⟨fk_11_73, List.forall_mem_cons.mpr ⟨fk_11_76, List.forall_mem_cons.mpr ⟨fk_11_79, List.forall_mem_cons.mpr ⟨fk_11_82, List.forall_mem_cons.mpr ⟨fk_11_85, List.forall_mem_cons.mpr ⟨fk_11_88, List.forall_mem_cons.mpr ⟨fk_11_91, List.forall_mem_cons.mpr ⟨fk_11_519, List.forall_mem_cons.mpr ⟨fk_11_493, List.forall_mem_cons.mpr ⟨fk_11_468, List.forall_mem_cons.mpr ⟨fk_11_490, List.forall_mem_cons.mpr ⟨fk_11_499, List.forall_mem_cons.mpr ⟨fk_11_472, List.forall_mem_cons.mpr ⟨fk_11_475, List.forall_mem_cons.mpr ⟨fk_11_496, fun _ h => absurd h List.not_mem_nil⟩⟩⟩⟩⟩⟩⟩⟩⟩⟩⟩⟩⟩⟩⟩⟩⟩⟩⟩⟩⟩⟩⟩⟩⟩⟩⟩⟩⟩⟩⟩⟩⟩⟩⟩⟩⟩⟩⟩⟩⟩⟩⟩⟩⟩⟩⟩⟩⟩⟩⟩⟩
theorem fk_12 : ∀ q ∈ tb_f_12, okf 12 q := fun _ h => absurd h List.not_mem_nil
theorem fk_13 : ∀ q ∈ tb_f_13, okf 13 q := fun _ h => absurd h List.not_mem_nil
theorem fk_14 : ∀ q ∈ tb_f_14, okf 14 q := fun _ h => absurd h List.not_mem_nil
theorem fk_all (o : Nat) : ∀ q ∈ tb_f o, okf o q := by
  refine gd_all (P := fun o l => ∀ q ∈ l, okf o q) (fun _ _ h => absurd h List.not_mem_nil) ?_ o
  intro o x hx
  match o, hx with
  | 0, hx => cases hx; exact fk_0
  | 1, hx => cases hx; exact fk_1
  | 2, hx => cases hx; exact fk_2
  | 3, hx => cases hx; exact fk_3
  | 4, hx => cases hx; exact fk_4
  | 5, hx => cases hx; exact fk_5
  | 6, hx => cases hx; exact fk_6
  | 7, hx => cases hx; exact fk_7
  | 8, hx => cases hx; exact fk_8
  | 9, hx => cases hx; exact fk_9
  | 10, hx => cases hx; exact fk_10
  | 11, hx => cases hx; exact fk_11
  | 12, hx => cases hx; exact fk_12
  | 13, hx => cases hx; exact fk_13
  | 14, hx => cases hx; exact fk_14
  | o + 15, hx => simp at hx
