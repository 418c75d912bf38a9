theorem in400a {p : Int32} (h0 : ¬ p < 0) (h : ¬ 399 < p) : vp_in p 400 := by
  rw [vp_in_iff]
  simp only [Int32.lt_iff_toInt_lt, Int32.reduceToInt] at *
  omega
theorem in400b {p : Int32} (h0 : ¬ p < 0) (h : ¬ 400 ≤ p) : vp_in p 400 := by
  rw [vp_in_iff]
  simp only [Int32.lt_iff_toInt_lt, Int32.le_iff_toInt_le, Int32.reduceToInt] at *
  omega
theorem lt400 {p : Int32} (h0 : ¬ p < 0) (h : ¬ 400 ≤ p) : p.toNatClampNeg < 400 := Nat.not_le.mp fun q => in400b h0 h (Or.inr q)
theorem f_X7_box (p1 : Int32) (p2 : Int32) (gc : Nat → Int32) (hgc : ∀ j, j < 400 → gc j = -1) : wp_X7_box p1 p2 gc 0 (fun r _ => r = (if p1 < 0 then 0 else if p1 < 400 then (if p2 < 0 then 0 else if p2 ≤ 100000 then 1 else 0) else 0)) := by
  simp only [wp_X7_box, wp_X7_isDay, wp_X4_fill]
  repeat' first
    | (delta vp_in; decide)
    | (exact in400a (by assumption) (by assumption))
    | (exact in400b (by assumption) (by assumption))
    | (refine And.intro ?_ ?_)
    | (intro c; exact absurd c (by decide))
    | (intro c; exact absurd rfl c)
    | intro c
  all_goals (try (exfalso; exact absurd (hgc p1.toNatClampNeg (lt400 (by assumption) (by assumption))) (by assumption)))
  all_goals (try dsimp only)
  all_goals (try rfl)
  all_goals (try contradiction)
  all_goals (repeat' split)
  all_goals (try rfl)
  all_goals (try contradiction)
  all_goals (try assumption)
  all_goals (exfalso; simp only [Int32.lt_iff_toInt_lt, Int32.le_iff_toInt_le, ← Int32.toInt_inj, Int32.reduceToInt, show (-1 : Int32).toInt = -1 from by decide] at *; omega)
theorem f_X8_box (p1 : Int32) (p2 : Int32) : wp_X8_box p1 p2 0 (fun _ => 0) (fun _ => 0) (fun r _ => r = (if p1 < 0 then 0 else if p1 < 400 then (if p2 < 0 then 0 else if p2 ≤ 100000 then 1 else 0) else 0)) := by
  simp only [wp_X8_box, wp_X8_in]
  repeat' first
    | (delta vp_in; decide)
    | (exact in400a (by assumption) (by assumption))
    | (exact in400b (by assumption) (by assumption))
    | (refine And.intro ?_ ?_)
    | (intro c; exact absurd c (by decide))
    | (intro c; exact absurd rfl c)
    | intro c
  all_goals (try dsimp only)
  all_goals (try rfl)
  all_goals (try contradiction)
  all_goals (repeat' split)
  all_goals (try rfl)
  all_goals (try contradiction)
  all_goals (try assumption)
  all_goals (exfalso; simp only [Int32.lt_iff_toInt_lt, Int32.le_iff_toInt_le, ← Int32.toInt_inj, Int32.reduceToInt, show (-1 : Int32).toInt = -1 from by decide] at *; omega)
