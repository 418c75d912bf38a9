theorem f_X8_canon  : wp_X8_canon 0 0 (fun _ => 0) (fun _ => 0) (fun r _ => r = 0) := by
  simp only [wp_X8_canon]
  repeat' first
    | (delta vp_in; decide)
    | (refine And.intro ?_ ?_)
    | (intro c; exact absurd c (by decide))
    | (intro c; exact absurd rfl c)
    | intro c
  all_goals (try dsimp only)
  all_goals (try rfl)
  all_goals (try contradiction)
  all_goals (repeat' split)
  all_goals (try rfl)
  all_goals (try contradiction)
  all_goals (try assumption)
  all_goals (exfalso; simp only [Int32.lt_iff_toInt_lt, Int32.le_iff_toInt_le, ← Int32.toInt_inj, Int32.reduceToInt, show (-1 : Int32).toInt = -1 from by decide] at *; omega)
theorem f_X8_wish (p1 : Int32) (p2 : Int32) (p3 : Int32) : wp_X8_wish p1 p2 p3 0 0 0 (fun _ => 0) (fun r _ => r = 0) := by
  simp only [wp_X8_wish, wp_X8_isCanon, wp_X8_in, show ((0 : Int32) - 1) = -1 from by decide]
  repeat' first
    | (delta vp_in; decide)
    | (refine And.intro ?_ ?_)
    | (intro c; exact absurd c (by decide))
    | (intro c; exact absurd rfl c)
    | intro c
  all_goals (try dsimp only)
  all_goals (try rfl)
  all_goals (try contradiction)
  all_goals (repeat' split)
  all_goals (try rfl)
  all_goals (try contradiction)
  all_goals (try assumption)
  all_goals (exfalso; simp only [Int32.lt_iff_toInt_lt, Int32.le_iff_toInt_le, ← Int32.toInt_inj, Int32.reduceToInt, show (-1 : Int32).toInt = -1 from by decide] at *; omega)
theorem f_X8_takes (p1 : Int32) (p2 : Int32) : wp_X8_takes p1 p2 0 0 (fun _ => 0) 0 (fun _ => 0) (fun _ => 0) (fun r _ => r = 0) := by
  simp only [wp_X8_takes, wp_X8_isCanon, wp_X8_in, show ((0 : Int32) - 1) = -1 from by decide]
  repeat' first
    | (delta vp_in; decide)
    | (refine And.intro ?_ ?_)
    | (intro c; exact absurd c (by decide))
    | (intro c; exact absurd rfl c)
    | intro c
  all_goals (try dsimp only)
  all_goals (try rfl)
  all_goals (try contradiction)
  all_goals (repeat' split)
  all_goals (try rfl)
  all_goals (try contradiction)
  all_goals (try assumption)
  all_goals (exfalso; simp only [Int32.lt_iff_toInt_lt, Int32.le_iff_toInt_le, ← Int32.toInt_inj, Int32.reduceToInt, show (-1 : Int32).toInt = -1 from by decide] at *; omega)
theorem f_X8_moved (p1 : Int32) (p2 : Int32) : wp_X8_moved p1 p2 0 (fun _ => 0) (fun _ => 0) (fun _ => 0) (fun r _ => r = (-1)) := by
  simp only [wp_X8_moved, wp_X8_in, show ((0 : Int32) - 1) = -1 from by decide]
  repeat' first
    | (delta vp_in; decide)
    | (refine And.intro ?_ ?_)
    | (intro c; exact absurd c (by decide))
    | (intro c; exact absurd rfl c)
    | intro c
  all_goals (try dsimp only)
  all_goals (try rfl)
  all_goals (try contradiction)
  all_goals (repeat' split)
  all_goals (try rfl)
  all_goals (try contradiction)
  all_goals (try assumption)
  all_goals (exfalso; simp only [Int32.lt_iff_toInt_lt, Int32.le_iff_toInt_le, ← Int32.toInt_inj, Int32.reduceToInt, show (-1 : Int32).toInt = -1 from by decide] at *; omega)
theorem f_X8_mark (p1 : Int32) (p2 : Int32) (p3 : Int32) (p4 : Int32) : wp_X8_mark p1 p2 p3 p4 0 0 0 (fun _ => 0) (fun _ => 0) (fun _ => 0) (fun _ => 0) (fun _ => 0) (fun r _ => r = (-1)) := by
  simp only [wp_X8_mark, wp_X8_isCanon, wp_X8_in, show ((0 : Int32) - 1) = -1 from by decide]
  repeat' first
    | (delta vp_in; decide)
    | (refine And.intro ?_ ?_)
    | (intro c; exact absurd c (by decide))
    | (intro c; exact absurd rfl c)
    | intro c
  all_goals (try dsimp only)
  all_goals (try rfl)
  all_goals (try contradiction)
  all_goals (repeat' split)
  all_goals (try rfl)
  all_goals (try contradiction)
  all_goals (try assumption)
  all_goals (exfalso; simp only [Int32.lt_iff_toInt_lt, Int32.le_iff_toInt_le, ← Int32.toInt_inj, Int32.reduceToInt, show (-1 : Int32).toInt = -1 from by decide] at *; omega)
theorem f_X8_paid (p1 : Int32) (p2 : Int32) : wp_X8_paid p1 p2 0 0 (fun _ => 0) (fun r _ => r = (-1)) := by
  simp only [wp_X8_paid, wp_X8_isCanon, wp_X8_in, show ((0 : Int32) - 1) = -1 from by decide]
  repeat' first
    | (delta vp_in; decide)
    | (refine And.intro ?_ ?_)
    | (intro c; exact absurd c (by decide))
    | (intro c; exact absurd rfl c)
    | intro c
  all_goals (try dsimp only)
  all_goals (try rfl)
  all_goals (try contradiction)
  all_goals (repeat' split)
  all_goals (try rfl)
  all_goals (try contradiction)
  all_goals (try assumption)
  all_goals (exfalso; simp only [Int32.lt_iff_toInt_lt, Int32.le_iff_toInt_le, ← Int32.toInt_inj, Int32.reduceToInt, show (-1 : Int32).toInt = -1 from by decide] at *; omega)
theorem f_X8_end (p1 : Int32) : wp_X8_end p1 0 (fun r _ => r = (if p1 = 0 then 0 else -1)) := by
  simp only [wp_X8_end]
  repeat' first
    | (delta vp_in; decide)
    | (refine And.intro ?_ ?_)
    | (intro c; exact absurd c (by decide))
    | (intro c; exact absurd rfl c)
    | intro c
  all_goals (try dsimp only)
  all_goals (try rfl)
  all_goals (try contradiction)
  all_goals (repeat' split)
  all_goals (try rfl)
  all_goals (try contradiction)
  all_goals (try assumption)
  all_goals (exfalso; simp only [Int32.lt_iff_toInt_lt, Int32.le_iff_toInt_le, ← Int32.toInt_inj, Int32.reduceToInt, show (-1 : Int32).toInt = -1 from by decide] at *; omega)
theorem f_X8_votes (p1 : Int32) (p2 : Int32) : wp_X8_votes p1 p2 0 0 (fun _ => 0) 0 (fun _ => 0) (fun _ => 0) (fun r _ => r = 0) := by
  simp only [wp_X8_votes, wp_X8_mayVote]
  repeat' first
    | (delta vp_in; decide)
    | (refine And.intro ?_ ?_)
    | (intro c; exact absurd c (by decide))
    | (intro c; exact absurd rfl c)
    | intro c
  all_goals (try dsimp only)
  all_goals (try rfl)
  all_goals (try contradiction)
  all_goals (repeat' split)
  all_goals (try rfl)
  all_goals (try contradiction)
  all_goals (try assumption)
  all_goals (exfalso; simp only [Int32.lt_iff_toInt_lt, Int32.le_iff_toInt_le, ← Int32.toInt_inj, Int32.reduceToInt, show (-1 : Int32).toInt = -1 from by decide] at *; omega)
theorem f_X8_undo (p1 : Int32) : wp_X8_undo p1 0 0 (fun _ => 0) (fun r _ => r = 0) := by
  simp only [wp_X8_undo, wp_X8_in, show ((0 : Int32) - 1) = -1 from by decide]
  repeat' first
    | (delta vp_in; decide)
    | (refine And.intro ?_ ?_)
    | (intro c; exact absurd c (by decide))
    | (intro c; exact absurd rfl c)
    | intro c
  all_goals (try dsimp only)
  all_goals (try rfl)
  all_goals (try contradiction)
  all_goals (repeat' split)
  all_goals (try rfl)
  all_goals (try contradiction)
  all_goals (try assumption)
  all_goals (exfalso; simp only [Int32.lt_iff_toInt_lt, Int32.le_iff_toInt_le, ← Int32.toInt_inj, Int32.reduceToInt, show (-1 : Int32).toInt = -1 from by decide] at *; omega)
theorem f_X8_about (p1 : Int32) (p2 : Int32) : wp_X8_about p1 p2 0 (fun _ => 0) (fun _ => 0) (fun _ => 0) (fun _ => 0) (fun r _ => r = (-1)) := by
  simp only [wp_X8_about, wp_X8_isCanon, wp_X8_in, show ((0 : Int32) - 1) = -1 from by decide]
  repeat' first
    | (delta vp_in; decide)
    | (refine And.intro ?_ ?_)
    | (intro c; exact absurd c (by decide))
    | (intro c; exact absurd rfl c)
    | intro c
  all_goals (try dsimp only)
  all_goals (try rfl)
  all_goals (try contradiction)
  all_goals (repeat' split)
  all_goals (try rfl)
  all_goals (try contradiction)
  all_goals (try assumption)
  all_goals (exfalso; simp only [Int32.lt_iff_toInt_lt, Int32.le_iff_toInt_le, ← Int32.toInt_inj, Int32.reduceToInt, show (-1 : Int32).toInt = -1 from by decide] at *; omega)
theorem f_X8_leaves (p1 : Int32) : wp_X8_leaves p1 0 (fun _ => 0) (fun _ => 0) 0 (fun _ => 0) (fun _ => 0) (fun _ => 0) 0 (fun _ => 0) (fun _ => 0) (fun _ => 0) (fun _ => 0) 0 (fun _ => 0) (fun _ => 0) (fun r _ => r = (-1)) := by
  simp only [wp_X8_leaves, wp_X8_isCanon, wp_X8_in, show ((0 : Int32) - 1) = -1 from by decide]
  repeat' first
    | (delta vp_in; decide)
    | (refine And.intro ?_ ?_)
    | (intro c; exact absurd c (by decide))
    | (intro c; exact absurd rfl c)
    | intro c
  all_goals (try dsimp only)
  all_goals (try rfl)
  all_goals (try contradiction)
  all_goals (repeat' split)
  all_goals (try rfl)
  all_goals (try contradiction)
  all_goals (try assumption)
  all_goals (exfalso; simp only [Int32.lt_iff_toInt_lt, Int32.le_iff_toInt_le, ← Int32.toInt_inj, Int32.reduceToInt, show (-1 : Int32).toInt = -1 from by decide] at *; omega)
theorem f_X8_marked (p1 : Int32) (p2 : Int32) (p3 : Int32) (p4 : Int32) : wp_X8_marked p1 p2 p3 p4 0 0 (fun _ => 0) (fun _ => 0) (fun _ => 0) (fun _ => 0) (fun _ => 0) (fun r _ => r = (-1)) := by
  simp only [wp_X8_marked, wp_X8_isCanon, wp_X8_in, show ((0 : Int32) - 1) = -1 from by decide]
  repeat' first
    | (delta vp_in; decide)
    | (refine And.intro ?_ ?_)
    | (intro c; exact absurd c (by decide))
    | (intro c; exact absurd rfl c)
    | intro c
  all_goals (try dsimp only)
  all_goals (try rfl)
  all_goals (try contradiction)
  all_goals (repeat' split)
  all_goals (try rfl)
  all_goals (try contradiction)
  all_goals (try assumption)
  all_goals (exfalso; simp only [Int32.lt_iff_toInt_lt, Int32.le_iff_toInt_le, ← Int32.toInt_inj, Int32.reduceToInt, show (-1 : Int32).toInt = -1 from by decide] at *; omega)
theorem f_X8_points (p1 : Int32) (p2 : Int32) (p3 : Int32) : wp_X8_points p1 p2 p3 0 0 (fun _ => 0) (fun _ => 0) (fun _ => 0) (fun _ => 0) (fun _ => 0) 0 (fun _ => 0) (fun _ => 0) (fun _ => 0) (fun _ => 0) (fun _ => 0) (fun _ => 0) 0 (fun r _ => r = (-1)) := by
  simp only [wp_X8_points, wp_X8_isCanon, wp_X8_in, show ((0 : Int32) - 1) = -1 from by decide]
  repeat' first
    | (delta vp_in; decide)
    | (refine And.intro ?_ ?_)
    | (intro c; exact absurd c (by decide))
    | (intro c; exact absurd rfl c)
    | intro c
  all_goals (try dsimp only)
  all_goals (try rfl)
  all_goals (try contradiction)
  all_goals (repeat' split)
  all_goals (try rfl)
  all_goals (try contradiction)
  all_goals (try assumption)
  all_goals (exfalso; simp only [Int32.lt_iff_toInt_lt, Int32.le_iff_toInt_le, ← Int32.toInt_inj, Int32.reduceToInt, show (-1 : Int32).toInt = -1 from by decide] at *; omega)
theorem f_X8_share (p1 : Int32) (p2 : Int32) (p3 : Int32) : wp_X8_share p1 p2 p3 0 0 (fun _ => 0) (fun _ => 0) (fun _ => 0) (fun _ => 0) (fun _ => 0) (fun _ => 0) 0 (fun _ => 0) (fun _ => 0) (fun _ => 0) (fun _ => 0) (fun _ => 0) (fun _ => 0) (fun _ => 0) 0 (fun r _ => r = (-1)) := by
  simp only [wp_X8_share, wp_X8_isCanon, wp_X8_in, show ((0 : Int32) - 1) = -1 from by decide]
  repeat' first
    | (delta vp_in; decide)
    | (refine And.intro ?_ ?_)
    | (intro c; exact absurd c (by decide))
    | (intro c; exact absurd rfl c)
    | intro c
  all_goals (try dsimp only)
  all_goals (try rfl)
  all_goals (try contradiction)
  all_goals (repeat' split)
  all_goals (try rfl)
  all_goals (try contradiction)
  all_goals (try assumption)
  all_goals (exfalso; simp only [Int32.lt_iff_toInt_lt, Int32.le_iff_toInt_le, ← Int32.toInt_inj, Int32.reduceToInt, show (-1 : Int32).toInt = -1 from by decide] at *; omega)
theorem f_X8_back (p1 : Int32) : wp_X8_back p1 0 0 0 (fun _ => 0) (fun _ => 0) (fun _ => 0) (fun _ => 0) (fun _ => 0) (fun _ => 0) (fun _ => 0) 0 (fun _ => 0) (fun _ => 0) (fun _ => 0) (fun _ => 0) (fun _ => 0) (fun _ => 0) (fun _ => 0) 0 (fun r _ => r = 0) := by
  simp only [wp_X8_back, wp_X8_isCanon, wp_X8_in, show ((0 : Int32) - 1) = -1 from by decide]
  repeat' first
    | (delta vp_in; decide)
    | (refine And.intro ?_ ?_)
    | (intro c; exact absurd c (by decide))
    | (intro c; exact absurd rfl c)
    | intro c
  all_goals (try dsimp only)
  all_goals (try rfl)
  all_goals (try contradiction)
  all_goals (repeat' split)
  all_goals (try rfl)
  all_goals (try contradiction)
  all_goals (try assumption)
  all_goals (exfalso; simp only [Int32.lt_iff_toInt_lt, Int32.le_iff_toInt_le, ← Int32.toInt_inj, Int32.reduceToInt, show (-1 : Int32).toInt = -1 from by decide] at *; omega)
theorem f_X8_gives (p1 : Int32) (p2 : Int32) : wp_X8_gives p1 p2 0 0 (fun _ => 0) 0 (fun _ => 0) (fun _ => 0) (fun _ => 0) (fun _ => 0) 0 (fun _ => 0) (fun _ => 0) (fun r _ => r = 0) := by
  simp only [wp_X8_gives, wp_X8_mayVote]
  repeat' first
    | (delta vp_in; decide)
    | (refine And.intro ?_ ?_)
    | (intro c; exact absurd c (by decide))
    | (intro c; exact absurd rfl c)
    | intro c
  all_goals (try dsimp only)
  all_goals (try rfl)
  all_goals (try contradiction)
  all_goals (repeat' split)
  all_goals (try rfl)
  all_goals (try contradiction)
  all_goals (try assumption)
  all_goals (exfalso; simp only [Int32.lt_iff_toInt_lt, Int32.le_iff_toInt_le, ← Int32.toInt_inj, Int32.reduceToInt, show (-1 : Int32).toInt = -1 from by decide] at *; omega)
theorem f_X8_close (p1 : Int32) : wp_X8_close p1 0 0 (fun _ => 0) 0 (fun _ => 0) (fun _ => 0) (fun _ => 0) (fun _ => 0) 0 (fun _ => 0) (fun _ => 0) (fun _ => 0) 0 0 0 (fun r _ => r = (-1)) := by
  simp only [wp_X8_close]
  repeat' first
    | (delta vp_in; decide)
    | (refine And.intro ?_ ?_)
    | (intro c; exact absurd c (by decide))
    | (intro c; exact absurd rfl c)
    | intro c
  all_goals (try dsimp only)
  all_goals (try rfl)
  all_goals (try contradiction)
  all_goals (repeat' split)
  all_goals (try rfl)
  all_goals (try contradiction)
  all_goals (try assumption)
  all_goals (exfalso; simp only [Int32.lt_iff_toInt_lt, Int32.le_iff_toInt_le, ← Int32.toInt_inj, Int32.reduceToInt, show (-1 : Int32).toInt = -1 from by decide] at *; omega)
theorem f_X8_vote (p1 : Int32) : wp_X8_vote p1 0 (fun _ => 0) 0 0 (fun _ => 0) (fun _ => 0) 0 0 0 (fun r _ => r = (-1)) := by
  simp only [wp_X8_vote]
  repeat' first
    | (delta vp_in; decide)
    | (refine And.intro ?_ ?_)
    | (intro c; exact absurd c (by decide))
    | (intro c; exact absurd rfl c)
    | intro c
  all_goals (try dsimp only)
  all_goals (try rfl)
  all_goals (try contradiction)
  all_goals (repeat' split)
  all_goals (try rfl)
  all_goals (try contradiction)
  all_goals (try assumption)
  all_goals (exfalso; simp only [Int32.lt_iff_toInt_lt, Int32.le_iff_toInt_le, ← Int32.toInt_inj, Int32.reduceToInt, show (-1 : Int32).toInt = -1 from by decide] at *; omega)
