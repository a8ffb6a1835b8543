/-! the plain machine is sound: all steps -/
section EX2
variable {l : Launch} {G : Nat × Nat × Nat} {Hz : Heap} {Sx : State → Prop}
set_option maxHeartbeats 4000000 in
theorem me_mna {p : Program} {e : Env} {R : Room} {s : State} {m : MethodId} {args : Array Value} {below : List Frame} {meth : Method} {c : Code} {H : Heap} {locs : List Loc} {cells slots : Nat} {Q : State → Prop} {pc k d sb : Nat} {LS : Array Slot} {D : va_G} {ca : Nat → ClassId} {sx : (Int → Int) × Int} {h : AM} {st : List AV} (C : Cx k d p R s m args meth c D G ca Hz sx Sx) (hw : Wo D G ca Hz sx s.heap.size sb h H locs cells slots) (ho : own k = 4) (hd : decode (mcode k) pc = .ok (.multianewarray 18 2, 4)) (hok : oks st)
    {h' : AM} (hh : h' = mal (mal (mal (mal (mal h 24 4 (fun j => mnx h + 1 + j)) 16 12 (fun _ => 0)) 16 12 (fun _ => 0)) 16 12 (fun _ => 0)) 16 12 (fun _ => 0)) (hbc : G.1 + (mnx h').toNat ≤ s.heap.size + R.cells) (hbs : msl h' ≤ sb + R.slots)
    (kk : ∀ (H1 : Heap) (locs1 : List Loc) (n1 n2 : Nat), oks ((2, mnx h) :: st) → Wo D G ca Hz sx s.heap.size sb h' H1 locs1 n1 n2 → W p l e R s m args below meth c H1 locs1 n1 n2 Q (F0 m (pc + 4) LS (((2, mnx h) :: st).map (cv G)))) : W p l e R s m args below meth c H locs cells slots Q (F0 m pc LS (((0, 12) :: (0, 4) :: st).map (cv G))) := by
  sorry
theorem ca_ok {k : Nat} {i : Instr} {st : List AV} {h : AM} {k' : Nat} {as st' : List AV} (hca : ca_ k i st h = some (k', as, st')) (h3 : ∀ v ∈ st, v.1 < 3) : (∀ v ∈ as, v.1 < 3) ∧ ∀ v ∈ st', v.1 < 3 := by
  have ht : ∀ N : Nat, ∀ v ∈ (st.take N).reverse, v.1 < 3 := fun N v hv => h3 v (List.mem_of_mem_take (List.mem_reverse.mp hv))
  have hdr : ∀ N : Nat, ∀ v ∈ st.drop N, v.1 < 3 := fun N v hv => h3 v (List.mem_of_mem_drop hv)
  unfold ca_ at hca
  split at hca
  · split at hca
    · split at hca
      · rename_i hdrop
        obtain ⟨-, he⟩ := bif_some hca
        cases he
        refine ⟨fun v hv => ?_, fun v hv => hdr _ v (by rw [hdrop]; exact List.mem_cons_of_mem _ hv)⟩
        rcases List.mem_cons.mp hv with rfl | hv
        · show 2 < 3
          omega
        · exact ht _ v hv
      · cases hca
    · cases hca
  · split at hca
    · obtain ⟨-, he⟩ := bif_some hca
      cases he
      exact ⟨ht _, hdr _⟩
    · cases hca
  · split at hca
    · split at hca
      · rename_i hdrop
        obtain ⟨-, he⟩ := bif_some hca
        cases he
        refine ⟨fun v hv => ?_, fun v hv => hdr _ v (by rw [hdrop]; exact List.mem_cons_of_mem _ hv)⟩
        rcases List.mem_cons.mp hv with rfl | hv
        · show 2 < 3
          omega
        · exact ht _ v hv
      · cases hca
    · cases hca
  · cases hca
end EX2
