theorem f_X7_wish (p1 : Int32) (p2 : Int32) (p3 : Int32) : wp_X7_wish p1 p2 p3 0 0 (fun _ => 0) 0 (fun r _ => r = 0) := by
  simp only [wp_X7_wish, wp_X7_isOver, wp_X2_hasCanon]
  repeat' first
    | (delta vp_in; decide)
    | (refine And.intro ?_ ?_)
    | (intro c; exact absurd c (by decide))
    | (intro c; exact absurd rfl c)
    | intro c
  all_goals (try dsimp only)
  all_goals (try rfl)
  all_goals (try contradiction)
  all_goals (repeat' split)
  all_goals (try rfl)
  all_goals (try contradiction)
  all_goals (try assumption)
  all_goals (exfalso; simp only [Int32.lt_iff_toInt_lt, Int32.le_iff_toInt_le, ← Int32.toInt_inj, Int32.reduceToInt, show (-1 : Int32).toInt = -1 from by decide] at *; omega)
theorem f_X7_takes (p1 : Int32) (p2 : Int32) : wp_X7_takes p1 p2 0 0 (fun _ => 0) (fun _ => 0) (fun _ => 0) 0 (fun r _ => r = 0) := by
  simp only [wp_X7_takes, wp_X7_isOver, wp_X2_isThere, wp_X2_hasCanon]
  repeat' first
    | (delta vp_in; decide)
    | (refine And.intro ?_ ?_)
    | (intro c; exact absurd c (by decide))
    | (intro c; exact absurd rfl c)
    | intro c
  all_goals (try dsimp only)
  all_goals (try rfl)
  all_goals (try contradiction)
  all_goals (repeat' split)
  all_goals (try rfl)
  all_goals (try contradiction)
  all_goals (try assumption)
  all_goals (exfalso; simp only [Int32.lt_iff_toInt_lt, Int32.le_iff_toInt_le, ← Int32.toInt_inj, Int32.reduceToInt, show (-1 : Int32).toInt = -1 from by decide] at *; omega)
theorem f_X7_mark (p1 : Int32) (p2 : Int32) (p3 : Int32) (p4 : Int32) (gn : Nat → Int32) (hgn : ∀ j, j < 400 → gn j = -1) : wp_X7_mark p1 p2 p3 p4 0 0 gn (fun _ => 0) (fun _ => 0) (fun _ => 0) (fun _ => 0) (fun _ => 0) 0 (fun r _ => r = (-1)) := by
  simp only [wp_X7_mark, wp_X7_isOver, wp_X2_hasCanon]
  repeat' first
    | (delta vp_in; decide)
    | (refine And.intro ?_ ?_)
    | (intro c; exact absurd c (by decide))
    | (intro c; exact absurd rfl c)
    | intro c
  all_goals (try dsimp only)
  all_goals (try rfl)
  all_goals (try contradiction)
  all_goals (repeat' split)
  all_goals (try rfl)
  all_goals (try contradiction)
  all_goals (try assumption)
  all_goals (exfalso; simp only [Int32.lt_iff_toInt_lt, Int32.le_iff_toInt_le, ← Int32.toInt_inj, Int32.reduceToInt, show (-1 : Int32).toInt = -1 from by decide] at *; omega)
theorem f_X7_votes (p1 : Int32) (p2 : Int32) : wp_X7_votes p1 p2 0 (fun _ => 0) (fun _ => 0) 0 (fun _ => 0) 0 (fun r _ => r = 0) := by
  simp only [wp_X7_votes, wp_X7_isOver]
  repeat' first
    | (delta vp_in; decide)
    | (refine And.intro ?_ ?_)
    | (intro c; exact absurd c (by decide))
    | (intro c; exact absurd rfl c)
    | intro c
  all_goals (try dsimp only)
  all_goals (try rfl)
  all_goals (try contradiction)
  all_goals (repeat' split)
  all_goals (try rfl)
  all_goals (try contradiction)
  all_goals (try assumption)
  all_goals (exfalso; simp only [Int32.lt_iff_toInt_lt, Int32.le_iff_toInt_le, ← Int32.toInt_inj, Int32.reduceToInt, show (-1 : Int32).toInt = -1 from by decide] at *; omega)
theorem f_X7_canon  : wp_X7_canon 0 0 (fun _ => 0) (fun _ => 0) 0 (fun r _ => r = 0) := by
  simp only [wp_X7_canon, wp_X7_isOver, wp_X2_addCanon]
  repeat' first
    | (delta vp_in; decide)
    | (refine And.intro ?_ ?_)
    | (intro c; exact absurd c (by decide))
    | (intro c; exact absurd rfl c)
    | intro c
  all_goals (try dsimp only)
  all_goals (try rfl)
  all_goals (try contradiction)
  all_goals (repeat' split)
  all_goals (try rfl)
  all_goals (try contradiction)
  all_goals (try assumption)
  all_goals (exfalso; simp only [Int32.lt_iff_toInt_lt, Int32.le_iff_toInt_le, ← Int32.toInt_inj, Int32.reduceToInt, show (-1 : Int32).toInt = -1 from by decide] at *; omega)
theorem f_X7_moved (p1 : Int32) (p2 : Int32) : wp_X7_moved p1 p2 0 (fun _ => 0) (fun _ => 0) (fun _ => 0) (fun r _ => r = (-1)) := by
  simp only [wp_X7_moved, wp_X2_tellMove]
  repeat' first
    | (delta vp_in; decide)
    | (refine And.intro ?_ ?_)
    | (intro c; exact absurd c (by decide))
    | (intro c; exact absurd rfl c)
    | intro c
  all_goals (try dsimp only)
  all_goals (try rfl)
  all_goals (try contradiction)
  all_goals (repeat' split)
  all_goals (try rfl)
  all_goals (try contradiction)
  all_goals (try assumption)
  all_goals (exfalso; simp only [Int32.lt_iff_toInt_lt, Int32.le_iff_toInt_le, ← Int32.toInt_inj, Int32.reduceToInt, show (-1 : Int32).toInt = -1 from by decide] at *; omega)
theorem f_X7_end (p1 : Int32) : wp_X7_end p1 0 (fun r _ => r = (if p1 = 0 then 0 else -1)) := by
  simp only [wp_X7_end, wp_X6_cutTo]
  repeat' first
    | (delta vp_in; decide)
    | (refine And.intro ?_ ?_)
    | (intro c; exact absurd c (by decide))
    | (intro c; exact absurd rfl c)
    | intro c
  all_goals (try dsimp only)
  all_goals (try rfl)
  all_goals (try contradiction)
  all_goals (repeat' split)
  all_goals (try rfl)
  all_goals (try contradiction)
  all_goals (try assumption)
  all_goals (exfalso; simp only [Int32.lt_iff_toInt_lt, Int32.le_iff_toInt_le, ← Int32.toInt_inj, Int32.reduceToInt, show (-1 : Int32).toInt = -1 from by decide] at *; omega)
theorem f_X7_undo (p1 : Int32) (gu : Nat → Int32) (hgu : ∀ j, j < 10 → gu j = 400) : wp_X7_undo p1 0 gu 0 (fun r _ => r = 0) := by
  simp only [wp_X7_undo, wp_X7_isOver, wp_X0_strike]
  repeat' first
    | (delta vp_in; decide)
    | (refine And.intro ?_ ?_)
    | (intro c; exact absurd c (by decide))
    | (intro c; exact absurd rfl c)
    | intro c
  all_goals (try dsimp only)
  all_goals (try rfl)
  all_goals (try contradiction)
  all_goals (repeat' split)
  all_goals (try rfl)
  all_goals (try contradiction)
  all_goals (try assumption)
  all_goals (exfalso; simp only [Int32.lt_iff_toInt_lt, Int32.le_iff_toInt_le, ← Int32.toInt_inj, Int32.reduceToInt, show (-1 : Int32).toInt = -1 from by decide] at *; omega)
theorem f_X7_about (p1 : Int32) (p2 : Int32) : wp_X7_about p1 p2 0 (fun _ => 0) (fun _ => 0) (fun _ => 0) (fun _ => 0) (fun r _ => r = (-1)) := by
  simp only [wp_X7_about, wp_X2_hasCanon]
  repeat' first
    | (delta vp_in; decide)
    | (refine And.intro ?_ ?_)
    | (intro c; exact absurd c (by decide))
    | (intro c; exact absurd rfl c)
    | intro c
  all_goals (try dsimp only)
  all_goals (try rfl)
  all_goals (try contradiction)
  all_goals (repeat' split)
  all_goals (try rfl)
  all_goals (try contradiction)
  all_goals (try assumption)
  all_goals (exfalso; simp only [Int32.lt_iff_toInt_lt, Int32.le_iff_toInt_le, ← Int32.toInt_inj, Int32.reduceToInt, show (-1 : Int32).toInt = -1 from by decide] at *; omega)
theorem f_X7_leaves (p1 : Int32) : wp_X7_leaves p1 (fun _ => 0) (fun _ => 0) 0 0 (fun _ => 0) (fun _ => 0) (fun _ => 0) (fun _ => 0) (fun _ => 0) 0 (fun _ => 0) (fun _ => 0) (fun _ => 0) 0 (fun r _ => r = (-1)) := by
  simp only [wp_X7_leaves, wp_X7_isOver, wp_X2_isThere, wp_X2_hasCanon]
  repeat' first
    | (delta vp_in; decide)
    | (refine And.intro ?_ ?_)
    | (intro c; exact absurd c (by decide))
    | (intro c; exact absurd rfl c)
    | intro c
  all_goals (try dsimp only)
  all_goals (try rfl)
  all_goals (try contradiction)
  all_goals (repeat' split)
  all_goals (try rfl)
  all_goals (try contradiction)
  all_goals (try assumption)
  all_goals (exfalso; simp only [Int32.lt_iff_toInt_lt, Int32.le_iff_toInt_le, ← Int32.toInt_inj, Int32.reduceToInt, show (-1 : Int32).toInt = -1 from by decide] at *; omega)
theorem f_X7_marked (p1 : Int32) (p2 : Int32) (p3 : Int32) (p4 : Int32) (gn : Nat → Int32) (hgn : ∀ j, j < 400 → gn j = -1) : wp_X7_marked p1 p2 p3 p4 0 gn (fun _ => 0) (fun _ => 0) (fun _ => 0) (fun _ => 0) (fun _ => 0) (fun r _ => r = (-1)) := by
  simp only [wp_X7_marked, wp_X7_isAsked, wp_X2_hasCanon]
  repeat' first
    | (delta vp_in; decide)
    | (refine And.intro ?_ ?_)
    | (intro c; exact absurd c (by decide))
    | (intro c; exact absurd rfl c)
    | intro c
  all_goals (try dsimp only)
  all_goals (try rfl)
  all_goals (try contradiction)
  all_goals (repeat' split)
  all_goals (try rfl)
  all_goals (try contradiction)
  all_goals (try assumption)
  all_goals (exfalso; simp only [Int32.lt_iff_toInt_lt, Int32.le_iff_toInt_le, ← Int32.toInt_inj, Int32.reduceToInt, show (-1 : Int32).toInt = -1 from by decide] at *; omega)
theorem f_X7_points (p1 : Int32) (p2 : Int32) (p3 : Int32) (gn : Nat → Int32) (hgn : ∀ j, j < 400 → gn j = -1) (gr : Nat → Int32) (hgr : gr = va_cpy fW (fun _ => 0) (0 : Int32).toNatClampNeg (0 : Int32).toNatClampNeg (13 : Int32).toNatClampNeg) (gu : Nat → Int32) (hgu : ∀ j, j < 10 → gu j = 400) : wp_X7_points p1 p2 p3 0 gr (fun _ => 0) (fun _ => 0) gu 0 gn (fun _ => 0) (fun _ => 0) (fun _ => 0) (fun _ => 0) (fun _ => 0) (fun _ => 0) (fun _ => 0) (fun r _ => r = (-1)) := by
  simp only [wp_X7_points, wp_X7_isAsked, wp_X2_hasCanon]
  repeat' first
    | (delta vp_in; decide)
    | (refine And.intro ?_ ?_)
    | (intro c; exact absurd c (by decide))
    | (intro c; exact absurd rfl c)
    | intro c
  all_goals (try dsimp only)
  all_goals (try rfl)
  all_goals (try contradiction)
  all_goals (repeat' split)
  all_goals (try rfl)
  all_goals (try contradiction)
  all_goals (try assumption)
  all_goals (exfalso; simp only [Int32.lt_iff_toInt_lt, Int32.le_iff_toInt_le, ← Int32.toInt_inj, Int32.reduceToInt, show (-1 : Int32).toInt = -1 from by decide] at *; omega)
theorem f_X7_share (p1 : Int32) (p2 : Int32) (p3 : Int32) (gc : Nat → Int32) (hgc : ∀ j, j < 400 → gc j = -1) (gn : Nat → Int32) (hgn : ∀ j, j < 400 → gn j = -1) (gr : Nat → Int32) (hgr : gr = va_cpy fW (fun _ => 0) (0 : Int32).toNatClampNeg (0 : Int32).toNatClampNeg (13 : Int32).toNatClampNeg) (gu : Nat → Int32) (hgu : ∀ j, j < 10 → gu j = 400) : wp_X7_share p1 p2 p3 0 gr (fun _ => 0) (fun _ => 0) gu 0 gn (fun _ => 0) (fun _ => 0) (fun _ => 0) (fun _ => 0) (fun _ => 0) (fun _ => 0) (fun _ => 0) gc (fun _ => 0) (fun r _ => r = (-1)) := by
  simp only [wp_X7_share, wp_X7_isAsked, wp_X2_hasCanon]
  repeat' first
    | (delta vp_in; decide)
    | (refine And.intro ?_ ?_)
    | (intro c; exact absurd c (by decide))
    | (intro c; exact absurd rfl c)
    | intro c
  all_goals (try dsimp only)
  all_goals (try rfl)
  all_goals (try contradiction)
  all_goals (repeat' split)
  all_goals (try rfl)
  all_goals (try contradiction)
  all_goals (try assumption)
  all_goals (exfalso; simp only [Int32.lt_iff_toInt_lt, Int32.le_iff_toInt_le, ← Int32.toInt_inj, Int32.reduceToInt, show (-1 : Int32).toInt = -1 from by decide] at *; omega)
theorem f_X7_paid (p1 : Int32) (p2 : Int32) (gc : Nat → Int32) (hgc : ∀ j, j < 400 → gc j = -1) (gn : Nat → Int32) (hgn : ∀ j, j < 400 → gn j = -1) (gr : Nat → Int32) (hgr : gr = va_cpy fW (fun _ => 0) (0 : Int32).toNatClampNeg (0 : Int32).toNatClampNeg (13 : Int32).toNatClampNeg) (gu : Nat → Int32) (hgu : ∀ j, j < 10 → gu j = 400) : wp_X7_paid p1 p2 0 gr (fun _ => 0) (fun _ => 0) gu 0 gn (fun _ => 0) (fun _ => 0) (fun _ => 0) (fun _ => 0) (fun _ => 0) (fun _ => 0) (fun _ => 0) gc (fun _ => 0) 0 (fun r _ => r = (-1)) := by
  simp only [wp_X7_paid, wp_X2_hasCanon]
  repeat' first
    | (delta vp_in; decide)
    | (refine And.intro ?_ ?_)
    | (intro c; exact absurd c (by decide))
    | (intro c; exact absurd rfl c)
    | intro c
  all_goals (try dsimp only)
  all_goals (try rfl)
  all_goals (try contradiction)
  all_goals (repeat' split)
  all_goals (try rfl)
  all_goals (try contradiction)
  all_goals (try assumption)
  all_goals (exfalso; simp only [Int32.lt_iff_toInt_lt, Int32.le_iff_toInt_le, ← Int32.toInt_inj, Int32.reduceToInt, show (-1 : Int32).toInt = -1 from by decide] at *; omega)
theorem f_X7_back (p1 : Int32) (gc : Nat → Int32) (hgc : ∀ j, j < 400 → gc j = -1) (gn : Nat → Int32) (hgn : ∀ j, j < 400 → gn j = -1) (gr : Nat → Int32) (hgr : gr = va_cpy fW (fun _ => 0) (0 : Int32).toNatClampNeg (0 : Int32).toNatClampNeg (13 : Int32).toNatClampNeg) (gu : Nat → Int32) (hgu : ∀ j, j < 10 → gu j = 400) : wp_X7_back p1 0 gr (fun _ => 0) (fun _ => 0) gu 0 gn (fun _ => 0) (fun _ => 0) (fun _ => 0) (fun _ => 0) (fun _ => 0) (fun _ => 0) (fun _ => 0) gc (fun _ => 0) (fun _ => 0) 0 (fun r _ => r = 0) := by
  simp only [wp_X7_back, wp_X2_hasCanon]
  repeat' first
    | (delta vp_in; decide)
    | (refine And.intro ?_ ?_)
    | (intro c; exact absurd c (by decide))
    | (intro c; exact absurd rfl c)
    | intro c
  all_goals (try dsimp only)
  all_goals (try rfl)
  all_goals (try contradiction)
  all_goals (repeat' split)
  all_goals (try rfl)
  all_goals (try contradiction)
  all_goals (try assumption)
  all_goals (exfalso; simp only [Int32.lt_iff_toInt_lt, Int32.le_iff_toInt_le, ← Int32.toInt_inj, Int32.reduceToInt, show (-1 : Int32).toInt = -1 from by decide] at *; omega)
theorem f_X7_gives (p1 : Int32) (p2 : Int32) (gr : Nat → Int32) (hgr : gr = va_cpy fW (fun _ => 0) (0 : Int32).toNatClampNeg (0 : Int32).toNatClampNeg (13 : Int32).toNatClampNeg) (gu : Nat → Int32) (hgu : ∀ j, j < 10 → gu j = 400) : wp_X7_gives p1 p2 0 gr (fun _ => 0) (fun _ => 0) gu 0 (fun _ => 0) (fun _ => 0) 0 (fun _ => 0) 0 (fun r _ => r = 0) := by
  simp only [wp_X7_gives, wp_X7_isOver]
  repeat' first
    | (delta vp_in; decide)
    | (refine And.intro ?_ ?_)
    | (intro c; exact absurd c (by decide))
    | (intro c; exact absurd rfl c)
    | intro c
  all_goals (try dsimp only)
  all_goals (try rfl)
  all_goals (try contradiction)
  all_goals (repeat' split)
  all_goals (try rfl)
  all_goals (try contradiction)
  all_goals (try assumption)
  all_goals (exfalso; simp only [Int32.lt_iff_toInt_lt, Int32.le_iff_toInt_le, ← Int32.toInt_inj, Int32.reduceToInt, show (-1 : Int32).toInt = -1 from by decide] at *; omega)
theorem f_X7_close (p1 : Int32) (gr : Nat → Int32) (hgr : gr = va_cpy fW (fun _ => 0) (0 : Int32).toNatClampNeg (0 : Int32).toNatClampNeg (13 : Int32).toNatClampNeg) (gu : Nat → Int32) (hgu : ∀ j, j < 10 → gu j = 400) : wp_X7_close p1 0 gr (fun _ => 0) (fun _ => 0) gu 0 (fun _ => 0) (fun _ => 0) 0 0 0 0 0 (fun _ => 0) (fun _ => 0) 0 (fun r _ => r = (-1)) := by
  simp only [wp_X7_close, wp_X7_isOver]
  repeat' first
    | (delta vp_in; decide)
    | (refine And.intro ?_ ?_)
    | (intro c; exact absurd c (by decide))
    | (intro c; exact absurd rfl c)
    | intro c
  all_goals (try dsimp only)
  all_goals (try rfl)
  all_goals (try contradiction)
  all_goals (repeat' split)
  all_goals (try rfl)
  all_goals (try contradiction)
  all_goals (try assumption)
  all_goals (exfalso; simp only [Int32.lt_iff_toInt_lt, Int32.le_iff_toInt_le, ← Int32.toInt_inj, Int32.reduceToInt, show (-1 : Int32).toInt = -1 from by decide] at *; omega)
theorem f_X7_vote (p1 : Int32) : wp_X7_vote p1 0 0 (fun _ => 0) (fun _ => 0) 0 0 0 0 (fun _ => 0) (fun r _ => r = (-1)) := by
  simp only [wp_X7_vote, wp_X1_tell]
  repeat' first
    | (delta vp_in; decide)
    | (refine And.intro ?_ ?_)
    | (intro c; exact absurd c (by decide))
    | (intro c; exact absurd rfl c)
    | intro c
  all_goals (try dsimp only)
  all_goals (try rfl)
  all_goals (try contradiction)
  all_goals (repeat' split)
  all_goals (try rfl)
  all_goals (try contradiction)
  all_goals (try assumption)
  all_goals (exfalso; simp only [Int32.lt_iff_toInt_lt, Int32.le_iff_toInt_le, ← Int32.toInt_inj, Int32.reduceToInt, show (-1 : Int32).toInt = -1 from by decide] at *; omega)
theorem f_X7_count (p1 : Int32) : wp_X7_count p1 0 0 0 0 (fun _ => 0) 0 0 0 0 (fun r _ => r = (if p1 < 0 then -1 else if p1 ≤ 7 then 0 else -1)) := by
  simp only [wp_X7_count, wp_X2_holderOf, wp_X2_hasStall]
  repeat' first
    | (delta vp_in; decide)
    | (refine And.intro ?_ ?_)
    | (intro c; exact absurd c (by decide))
    | (intro c; exact absurd rfl c)
    | intro c
  all_goals (try dsimp only)
  all_goals (try rfl)
  all_goals (try contradiction)
  all_goals (repeat' split)
  all_goals (try rfl)
  all_goals (try contradiction)
  all_goals (try assumption)
  all_goals (exfalso; simp only [Int32.lt_iff_toInt_lt, Int32.le_iff_toInt_le, ← Int32.toInt_inj, Int32.reduceToInt, show (-1 : Int32).toInt = -1 from by decide] at *; omega)
theorem f_X7_feed (p1 : Int32) (p2 : Int32) (p3 : Int32) (p4 : Int32) (p5 : Int32) : wp_X7_feed p1 p2 p3 p4 p5 0 (fun _ => 0) (fun r _ => r = 20) := by
  simp only [wp_X7_feed, wp_X6_hasRoom, wp_X6_append]
  repeat' first
    | (delta vp_in; decide)
    | (refine And.intro ?_ ?_)
    | (intro c; exact absurd c (by decide))
    | (intro c; exact absurd rfl c)
    | intro c
  all_goals (try dsimp only)
  all_goals (try rfl)
  all_goals (try contradiction)
  all_goals (repeat' split)
  all_goals (try rfl)
  all_goals (try contradiction)
  all_goals (try assumption)
  all_goals (exfalso; simp only [Int32.lt_iff_toInt_lt, Int32.le_iff_toInt_le, ← Int32.toInt_inj, Int32.reduceToInt, show (-1 : Int32).toInt = -1 from by decide] at *; omega)
