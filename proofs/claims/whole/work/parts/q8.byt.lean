/-! bytes stay bytes -/
def Byt (h : AM) : Prop := ∀ a i, a < mnx h → mkn h a = 17 → -128 ≤ mrd h a i ∧ mrd h a i ≤ 127
section
variable {h : AM} {r j v : Int}
theorem byt_ne (hB : Byt h) (hk : mkn h r ≠ 17) : Byt (mwr h r j v) := fun a i ha hk2 => by
  have e : a ≠ r := fun z => hk (by rw [← z]; exact hk2)
  rw [rdn1 e]; exact hB a i ha hk2
theorem byt_v (hB : Byt h) (hv : -128 ≤ v ∧ v ≤ 127) : Byt (mwr h r j v) := fun a i ha hk2 => by
  rw [rd_wr]
  split
  · exact hv
  · exact hB a i ha hk2
theorem i8_rng (v : Int) : -128 ≤ i1 (fun x => x.toInt8.toInt32) v ∧ i1 (fun x => x.toInt8.toInt32) v ≤ 127 := by
  unfold i1
  rw [Int8.toInt_toInt32]
  exact ⟨Int8.le_toInt _, by have := Int8.toInt_lt (Int32.ofInt v).toInt8; omega⟩
theorem byt_al {k : Nat} {n : Int} {dv : Int → Int} (hB : Byt h) (hk : k ≠ 17 ∨ ∀ i, dv i = 0) : Byt (mal h k n dv) := fun a i ha hk2 => by
  show -128 ≤ (if a = h.2.2.1 then dv i else h.1 a i) ∧ (if a = h.2.2.1 then dv i else h.1 a i) ≤ 127
  by_cases c : a = h.2.2.1
  · rw [if_pos c]
    have : k = 17 := by
      have e : (if a = h.2.2.1 then (k, n) else h.2.1 a).1 = 17 := hk2
      rw [if_pos c] at e; exact e
    rcases hk with z | z
    · exact absurd this z
    · rw [z i]; decide
  · rw [if_neg c]
    have e : (if a = h.2.2.1 then (k, n) else h.2.1 a).1 = 17 := hk2
    rw [if_neg c] at e
    have l : a < h.2.2.1 + 1 := ha
    exact hB a i (show a < h.2.2.1 by omega) e
theorem byt_cp {a i b n : Int} (hB : Byt h) (hk : mkn h b ≠ 17) : Byt (mcp h a i b j n) := fun c q hc hk2 => by
  have e : c ≠ b := fun z => hk (by rw [← z]; exact hk2)
  show -128 ≤ (if c = b ∧ j ≤ q ∧ q < j + n then h.1 a (i + (q - j)) else h.1 c q) ∧ (if c = b ∧ j ≤ q ∧ q < j + n then h.1 a (i + (q - j)) else h.1 c q) ≤ 127
  rw [if_neg (fun z => e z.1)]
  exact hB c q hc hk2
end
