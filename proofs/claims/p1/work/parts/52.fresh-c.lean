theorem num_lo {p3 : Int32} {gr : Nat → Int32} (hgr : gr = va_cpy fW (fun _ => 0) (0 : Int32).toNatClampNeg (0 : Int32).toNatClampNeg (13 : Int32).toNatClampNeg) {Post : Int32 → Unit → Prop} (h0 : ¬ p3 < 0) (h5 : ¬ 5 < p3) (h : Post (fW p3.toNatClampNeg) ()) : wp_X0_number (-1) p3 gr Post := by
  obtain ⟨j, hj, rfl⟩ := nI_of2 (M := 5) (n := 5) rfl h0 (Int32.not_lt.mp h5)
  rw [nI_clamp (by omega)] at h
  refine number0 j (by omega) ?_ ?_
  · rw [show ((-1 : Int32) + 1) * 13 = 0 from by decide, Int32.zero_add]
  · rw [hgr, pk_cpy_in (show (0 : Int32).toNatClampNeg ≤ j from Nat.zero_le j) (show j < (0 : Int32).toNatClampNeg + (13 : Int32).toNatClampNeg from (by omega : j < 0 + 13))]
    exact (show fW (0 + (j - 0)) = fW j by rw [Nat.zero_add, Nat.sub_zero]) ▸ h
theorem num_hi {p3 : Int32} {gr : Nat → Int32} (hgr : gr = va_cpy fW (fun _ => 0) (0 : Int32).toNatClampNeg (0 : Int32).toNatClampNeg (13 : Int32).toNatClampNeg) {Post : Int32 → Unit → Prop} (h0 : ¬ p3 < 10) (h5 : ¬ 17 ≤ p3) (h : Post 1 ()) : wp_X0_number (-1) ((6 + p3) - 10) gr Post := by
  have h1 : ¬ p3 < 0 := fun c => h0 (Int32.lt_trans c (by decide))
  obtain ⟨j, hj, rfl⟩ := nI_of h1
  have h2 : 10 ≤ j := Nat.le_of_not_lt (fun c => h0 ((nI_ltI (b := 10) hj (by omega)).mpr c))
  have h3 : j < 17 := Nat.lt_of_not_le (fun c => h5 ((nI_leI (a := 17) (by omega) hj).mpr c))
  rw [hgr]
  rcases (show j = 10 ∨ j = 11 ∨ j = 12 ∨ j = 13 ∨ j = 14 ∨ j = 15 ∨ j = 16 by omega) with rfl | rfl | rfl | rfl | rfl | rfl | rfl
  · exact number0 6 (by decide) (by decide) h
  · exact number0 7 (by decide) (by decide) h
  · exact number0 8 (by decide) (by decide) h
  · exact number0 9 (by decide) (by decide) h
  · exact number0 10 (by decide) (by decide) h
  · exact number0 11 (by decide) (by decide) h
  · exact number0 12 (by decide) (by decide) h
theorem f_X7_holds (p1 : Int32) (p2 : Int32) (p3 : Int32) (gr : Nat → Int32) (hgr : gr = va_cpy fW (fun _ => 0) (0 : Int32).toNatClampNeg (0 : Int32).toNatClampNeg (13 : Int32).toNatClampNeg) (gu : Nat → Int32) (hgu : ∀ j, j < 10 → gu j = 400) : wp_X7_holds p1 p2 p3 0 gr (fun _ => 0) (fun _ => 0) gu (fun r _ => r = (if p1 < 0 then -1 else if p1 < 400 then (if p2 < 0 then -1 else if p2 < 400 then (if p3 < 0 then -1 else if p3 ≤ 5 then fW p3.toNatClampNeg else if p3 < 10 then -1 else if p3 < 17 then 1 else -1) else -1) else -1)) := by
  simp only [wp_X7_holds, wp_X7_isDay]
  repeat' first
    | (delta vp_in; decide)
    | (refine inForce0 ?_)
    | (refine num_lo hgr (by assumption) (by assumption) ?_)
    | (refine num_hi hgr (by assumption) (by assumption) ?_)
    | (refine And.intro ?_ ?_)
    | (intro c; exact absurd c (by decide))
    | (intro c; exact absurd rfl c)
    | intro c
  all_goals (try dsimp only)
  all_goals (try rfl)
  all_goals (try contradiction)
  all_goals (repeat' split)
  all_goals (try rfl)
  all_goals (try contradiction)
  all_goals (try assumption)
  all_goals (exfalso; simp only [Int32.lt_iff_toInt_lt, Int32.le_iff_toInt_le, ← Int32.toInt_inj, Int32.reduceToInt, show (-1 : Int32).toInt = -1 from by decide] at *; omega)
