theorem wo_lo {p3 : Int32} {Post : Int32 → Unit → Prop} (h0 : ¬ p3 < 0) (h5 : ¬ 5 < p3) (h : Post (fW p3.toNatClampNeg) ()) : wp_X8_without p3 Post := by
  obtain ⟨j, hj, rfl⟩ := nI_of2 (M := 5) (n := 5) rfl h0 (Int32.not_lt.mp h5)
  clear h0 h5
  rcases (show j = 0 ∨ j = 1 ∨ j = 2 ∨ j = 3 ∨ j = 4 ∨ j = 5 by omega) with rfl | rfl | rfl | rfl | rfl | rfl
  all_goals simp only [wp_X8_without]
  repeat' first
    | (delta vp_in; decide)
    | (refine And.intro ?_ ?_)
    | (intro c; exact absurd c (by decide))
    | (intro c; exact absurd rfl c)
    | intro c
  all_goals exact h
theorem wo_hi {p3 : Int32} {Post : Int32 → Unit → Prop} (h0 : ¬ p3 < 10) (h5 : ¬ 16 < p3) (h : Post 1 ()) : wp_X8_without ((6 + p3) - 10) Post := by
  have h1 : ¬ p3 < 0 := fun c => h0 (Int32.lt_trans c (by decide))
  obtain ⟨j, hj, rfl⟩ := nI_of2 (M := 16) (n := 16) rfl h1 (Int32.not_lt.mp h5)
  have h2 : 10 ≤ j := Nat.le_of_not_lt (fun c => h0 ((nI_ltI (b := 10) (by omega) (by omega)).mpr c))
  clear h0 h5 h1
  rcases (show j = 10 ∨ j = 11 ∨ j = 12 ∨ j = 13 ∨ j = 14 ∨ j = 15 ∨ j = 16 by omega) with rfl | rfl | rfl | rfl | rfl | rfl | rfl
  all_goals simp only [wp_X8_without]
  repeat' first
    | (delta vp_in; decide)
    | (refine And.intro ?_ ?_)
    | (intro c; exact absurd c (by decide))
    | (intro c; exact absurd rfl c)
    | intro c
  all_goals exact h
theorem f_X8_holds (p1 : Int32) (p2 : Int32) (p3 : Int32) : wp_X8_holds p1 p2 p3 0 (fun _ => 0) (fun _ => 0) (fun _ => 0) (fun _ => 0) (fun r _ => r = (if p1 < 0 then -1 else if p1 < 400 then (if p2 < 0 then -1 else if p2 < 400 then (if p3 < 0 then -1 else if p3 ≤ 5 then fW p3.toNatClampNeg else if p3 < 10 then -1 else if p3 < 17 then 1 else -1) else -1) else -1)) := by
  simp only [wp_X8_holds, wp_X8_isDay, wp_X8_in, wp_X8_numberAt]
  repeat' first
    | (delta vp_in; decide)
    | (refine actAt0 ?_)
    | (refine wo_lo (by assumption) (by assumption) ?_)
    | (refine wo_hi (by assumption) (by assumption) ?_)
    | (refine And.intro ?_ ?_)
    | (intro c; exact absurd c (by decide))
    | (intro c; exact absurd rfl c)
    | intro c
  all_goals (try dsimp only)
  all_goals (try rfl)
  all_goals (try contradiction)
  all_goals (repeat' split)
  all_goals (try rfl)
  all_goals (try contradiction)
  all_goals (try assumption)
  all_goals (exfalso; simp only [Int32.lt_iff_toInt_lt, Int32.le_iff_toInt_le, ← Int32.toInt_inj, Int32.reduceToInt, show (-1 : Int32).toInt = -1 from by decide] at *; omega)
