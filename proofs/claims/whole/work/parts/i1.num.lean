/-! TOP and BOTTOM change -/
def nuC : List (Int × Int) := [(0, 12), (0, 13), (235, 2), (235, 3)]
theorem Rel_num {m m' : Int → Int → Int} (hf : FrE [] nuC 0 0 m m') (h : Rel m) (hn : RNum m') : Rel m' := by
  obtain ⟨h1, h2, h3, h4, h5, h6, h7, h8, h9, h10⟩ := h
  exact Rel_mk (RRef_E hf (by decide +kernel) h1) hn (RTrys_E hf (by decide +kernel) h3) (RTap_E hf (by decide +kernel) h4) (RPln_E hf (by decide +kernel) h5) (RLiv_E hf (by decide +kernel) h6) (RFst_E hf (by decide +kernel) h7) (RPtr_E hf (by decide +kernel) h8) (RCur_E hf (by decide +kernel) (by decide) (by decide) h8 h9) (RMrk_E hf (by decide +kernel) (by decide) (by decide) h10)
/-- a row's sum, the class's and the reference's, for sets no larger than the name -/
theorem say_eq {h : AM} {s n : Int} {N m sn : Nat} {ok : Nat → Nat → Bool} {vw : Nat → Bool} (N12 : N ≤ 12) (hn : 1 ≤ n) (m1 : 1 ≤ m) (hms : m ≤ sn) (s9 : sn ≤ 9) (hm : m = sn ∨ n ≤ (m : Int)) (hok : ∀ T l, l < N → ok T l = okT h n (fun _ => 0) T l) (hvw : ∀ l, l < N → vw l = vwM h l) : alF (rS ok vw m N) n (2 ^ N) = alF (rR h sn N) n (2 ^ N) := by
  have hp := pow_13 N12
  refine alF_congr2 _ (fun u hu hcu => ?_)
  rw [rS_congr hok hvw, rS_RV m1 (by omega)]
  unfold rR
  refine sm_congr 18 (fun c hc => ?_)
  rw [show c = 9 * (c / 9) + c % 9 by omega]
  refine RV_lim N12 hms s9 (fun U l hU hl hcU => ?_) hm u (by omega) (by omega) (c / 9) (c % 9) (by omega) (by omega)
  unfold okT okF okO
  rw [decide_eq_true hcU, Bool.true_and, decide_eq_true rfl, Bool.true_or, Bool.and_true]
