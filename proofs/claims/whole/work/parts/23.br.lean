/-! jumps -/
theorem tgt_inv {pc : Nat} {off : Int} {t : Nat} (h : tgt pc off = some t) : (pc : Int) + off = (t : Int) := by
  unfold tgt at h
  split at h
  · cases h
    omega
  · cases h
section BR
variable {p : Program} {l : Launch} {e : Env} {R : Room} {s : State} {m : MethodId} {args : Array Value} {below : List Frame} {meth : Method} {c : Code} {H : Heap} {locs : List Loc} {cells slots : Nat} {Q : State → Prop}
variable {pc len k : Nat} {LS : Array Slot} {G : Nat × Nat × Nat}
set_option maxHeartbeats 4000000 in
theorem br_W (hx : p.tables.exec = Jvm.exec) (hb : c.code = mcode k) {i : Instr} (hd : decode (mcode k) pc = .ok (i, len)) (hlen : lenok i len = true) {st st' : List AV} {pc' : Nat} (hp : br_ i pc st = some (pc', st')) (hw : oks st)
    (kk : oks st' → W p l e R s m args below meth c H locs cells slots Q (F0 m pc' LS (st'.map (cv G)))) : W p l e R s m args below meth c H locs cells slots Q (F0 m pc LS (st.map (cv G))) := by
  cases i with
  | goto off =>
    obtain rfl := lnok (n := 2) hlen rfl
    simp only [br_, Option.map_eq_some_iff] at hp
    obtain ⟨t, ht, he⟩ := hp
    cases he
    exact lv_goto hx hb hd (tgt_inv ht) (kk hw)
  | ifCond cn off =>
    obtain rfl := lnok (n := 2) hlen rfl
    simp only [br_] at hp
    split at hp
    · rename_i a st
      obtain ⟨h0, hw⟩ := oks_cons.mp hw
      have h0 := okv_i.mp h0
      obtain ⟨t, ht, he⟩ := Option.map_eq_some_iff.mp hp
      have kk := fun h => kk h
      have z0 : in32 0 := ⟨by decide, by decide⟩
      cases he
      have kk := kk hw
      have e1 := of32_eq h0 z0
      have e2 := of32_lt h0 z0
      have e3 := of32_lt z0 h0
      have e4 := of32_le h0 z0
      have e5 := of32_le z0 h0
      cases cn with
      | eq => exact lv_if_eq hx hb hd (tgt_inv ht) (fun q => by rw [show ccmp .eq a 0 = true from decide_eq_true (e1.mp q)] at kk; exact kk) (fun q => by rw [show ccmp .eq a 0 = false from decide_eq_false (fun z => q (e1.mpr z))] at kk; exact kk)
      | ne => exact lv_if_ne hx hb hd (tgt_inv ht) (fun q => by rw [show ccmp .ne a 0 = true by simp [ccmp]; exact fun z => q (e1.mpr z)] at kk; exact kk) (fun q => by rw [show ccmp .ne a 0 = false by simp [ccmp]; exact e1.mp q] at kk; exact kk)
      | lt => exact lv_if_lt hx hb hd (tgt_inv ht) (fun q => by rw [show ccmp .lt a 0 = true from decide_eq_true (e2.mp q)] at kk; exact kk) (fun q => by rw [show ccmp .lt a 0 = false from decide_eq_false (fun z => q (e2.mpr z))] at kk; exact kk)
      | ge => exact lv_if_ge hx hb hd (tgt_inv ht) (fun q => by rw [show ccmp .ge a 0 = true from decide_eq_true (e5.mp q)] at kk; exact kk) (fun q => by rw [show ccmp .ge a 0 = false from decide_eq_false (fun z => q (e5.mpr z))] at kk; exact kk)
      | gt => exact lv_if_gt hx hb hd (tgt_inv ht) (fun q => by rw [show ccmp .gt a 0 = true from decide_eq_true (e3.mp q)] at kk; exact kk) (fun q => by rw [show ccmp .gt a 0 = false from decide_eq_false (fun z => q (e3.mpr z))] at kk; exact kk)
      | le => exact lv_if_le hx hb hd (tgt_inv ht) (fun q => by rw [show ccmp .le a 0 = true from decide_eq_true (e4.mp q)] at kk; exact kk) (fun q => by rw [show ccmp .le a 0 = false from decide_eq_false (fun z => q (e4.mpr z))] at kk; exact kk)
    · cases hp
  | if_icmp cn off =>
    obtain rfl := lnok (n := 2) hlen rfl
    simp only [br_] at hp
    split at hp
    · rename_i b a st
      obtain ⟨h1, hw⟩ := oks_cons.mp hw
      obtain ⟨h0, hw⟩ := oks_cons.mp hw
      have h0 := okv_i.mp h0
      have h1 := okv_i.mp h1
      obtain ⟨t, ht, he⟩ := Option.map_eq_some_iff.mp hp
      cases he
      have kk := kk hw
      have e1 := of32_eq h0 h1
      have e2 := of32_lt h0 h1
      have e3 := of32_lt h1 h0
      have e4 := of32_le h0 h1
      have e5 := of32_le h1 h0
      cases cn with
      | eq => exact lv_icmp_eq hx hb hd (tgt_inv ht) (fun q => by rw [show ccmp .eq a b = true from decide_eq_true (e1.mp q)] at kk; exact kk) (fun q => by rw [show ccmp .eq a b = false from decide_eq_false (fun z => q (e1.mpr z))] at kk; exact kk)
      | ne => exact lv_icmp_ne hx hb hd (tgt_inv ht) (fun q => by rw [show ccmp .ne a b = true by simp [ccmp]; exact fun z => q (e1.mpr z)] at kk; exact kk) (fun q => by rw [show ccmp .ne a b = false by simp [ccmp]; exact e1.mp q] at kk; exact kk)
      | lt => exact lv_icmp_lt hx hb hd (tgt_inv ht) (fun q => by rw [show ccmp .lt a b = true from decide_eq_true (e2.mp q)] at kk; exact kk) (fun q => by rw [show ccmp .lt a b = false from decide_eq_false (fun z => q (e2.mpr z))] at kk; exact kk)
      | ge => exact lv_icmp_ge hx hb hd (tgt_inv ht) (fun q => by rw [show ccmp .ge a b = true from decide_eq_true (e5.mp q)] at kk; exact kk) (fun q => by rw [show ccmp .ge a b = false from decide_eq_false (fun z => q (e5.mpr z))] at kk; exact kk)
      | gt => exact lv_icmp_gt hx hb hd (tgt_inv ht) (fun q => by rw [show ccmp .gt a b = true from decide_eq_true (e3.mp q)] at kk; exact kk) (fun q => by rw [show ccmp .gt a b = false from decide_eq_false (fun z => q (e3.mpr z))] at kk; exact kk)
      | le => exact lv_icmp_le hx hb hd (tgt_inv ht) (fun q => by rw [show ccmp .le a b = true from decide_eq_true (e4.mp q)] at kk; exact kk) (fun q => by rw [show ccmp .le a b = false from decide_eq_false (fun z => q (e4.mpr z))] at kk; exact kk)
    · cases hp
  | tableswitch df lo hi offs =>
    simp only [br_] at hp
    split at hp
    · rename_i a st
      obtain ⟨h0, hw⟩ := oks_cons.mp hw
      have ha := in32_of (okv_i.mp h0)
      split at hp
      · rename_i hc
        obtain ⟨t, ht, he⟩ := Option.map_eq_some_iff.mp hp
        cases he
        exact lv_tableOut hx hb hd (by rw [ha]; exact hc) (tgt_inv ht) (kk hw)
      · rename_i hc
        split at hp
        · rename_i off ho
          obtain ⟨t, ht, he⟩ := Option.map_eq_some_iff.mp hp
          cases he
          exact lv_tableIn hx hb hd (by rw [ha]; omega) (by rw [ha]; omega) (by rw [ha]; exact ho) (tgt_inv ht) (kk hw)
        · cases hp
    · cases hp
  | lookupswitch df ps =>
    simp only [br_] at hp
    split at hp
    · rename_i a st
      obtain ⟨h0, hw⟩ := oks_cons.mp hw
      have ha := in32_of (okv_i.mp h0)
      split at hp
      · rename_i hc
        obtain ⟨t, ht, he⟩ := Option.map_eq_some_iff.mp hp
        cases he
        exact lv_lookup hx hb hd hc (by rw [ha]) (tgt_inv ht) (kk hw)
      · cases hp
    · cases hp
  | _ => simp [br_] at hp
end BR
