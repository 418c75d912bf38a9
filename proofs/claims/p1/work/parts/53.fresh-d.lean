theorem actAt0 {d k : Int32} {f1 f2 f3 : Nat → Int32} {Post : Int32 → Unit → Prop} (h : Post (-1) ()) : wp_X8_actAt d k 0 f1 f2 f3 Post := by
  delta wp_X8_actAt
  refine ⟨1, ?_⟩
  rw [lp_X8_actAt_5]
  exact ⟨fun _ => h, fun c => absurd (by decide) c⟩
theorem falls7_lp {k1 : Int32} {f1 f2 : Nat → Int32} {v1 : Int32} {f3 f4 f5 : Nat → Int32} {v2 : Int32} {f6 f7 f8 : Nat → Int32} {Post : (Nat → Int32) × (Nat → Int32) × Int32 × (Nat → Int32) × (Nat → Int32) × (Nat → Int32) × (Nat → Int32) → Prop} {K : Int32 → (Nat → Int32) → Prop} (hK : ∀ x g, K x g) : ∀ (n i : Nat) (g : Nat → Int32), i ≤ 20 → 20 < i + n → lp_X8_falls_7 k1 f1 f2 v1 f3 f4 f5 v2 f6 f7 f8 Post K n (nI i) g := by
  intro n
  induction n with
  | zero => intro i g h1 h2; omega
  | succ n ih =>
    intro i g h1 h2
    rw [lp_X8_falls_7]
    refine ⟨fun _ => hK _ _, fun c => ?_⟩
    have hi : i < 20 := Nat.lt_of_not_le (fun h => c ((nI_leI (a := 20) (by omega) (by omega)).mpr h))
    refine ⟨vp_in_nI hi (by omega), fun x hx => ?_⟩
    rw [hx, nI_1]
    exact ih (i + 1) _ (by omega) (by omega)
theorem falls0 {p1 : Int32} (hp : ¬ p1 < 0) {f1 f2 f3 f4 f5 f6 f7 f8 f9 : Nat → Int32} {v : Int32} {Post : (Nat → Int32) × (Nat → Int32) × Int32 × (Nat → Int32) × (Nat → Int32) × (Nat → Int32) × (Nat → Int32) → Prop} (h : ∀ u, Post u) : wp_X8_falls p1 f1 f2 0 f3 f4 f5 v f6 f7 f8 f9 Post := by
  delta wp_X8_falls
  refine ⟨1000, falls7_lp (fun x g => ⟨1, ?_⟩) 1000 0 _ (by decide) (by decide)⟩
  rw [lp_X8_falls_28]
  refine ⟨fun c => absurd c hp, fun _ y hy => ⟨1, ?_⟩⟩
  rw [hy, lp_X8_falls_42]
  refine ⟨fun _ => ⟨fun c => absurd c (by decide), fun _ => h _⟩, fun c => absurd (by decide) c⟩
theorem pts2_lp {k1 k2 v1 v2 : Int32} {f1 f2 f3 f4 f5 : Nat → Int32} {v3 : Int32} {f6 f7 f8 f9 f10 : Nat → Int32} {v4 : Int32} {Post : (Nat → Int32) × (Nat → Int32) × Int32 → Prop} {K : Int32 → (Nat → Int32) → Prop} (hK : ∀ x g, K x g) : ∀ (n i : Nat) (g : Nat → Int32), i ≤ 140 → 140 < i + n → lp_X8_pointsAt_2 k1 k2 v1 v2 f1 f2 f3 f4 f5 v3 f6 f7 f8 f9 f10 v4 Post K n (nI i) g := by
  intro n
  induction n with
  | zero => intro i g h1 h2; omega
  | succ n ih =>
    intro i g h1 h2
    rw [lp_X8_pointsAt_2]
    refine ⟨fun _ => hK _ _, fun c => ?_⟩
    have hi : i < 140 := Nat.lt_of_not_le (fun h => c ((nI_leI (a := 140) (by omega) (by omega)).mpr h))
    refine ⟨vp_in_nI hi (by omega), fun x hx => ?_⟩
    rw [hx, nI_1]
    exact ih (i + 1) _ (by omega) (by omega)
theorem pts0 {p1 p2 v4 : Int32} {f1 f2 f3 f4 f5 f6 f7 f8 f9 f10 f11 : Nat → Int32} {Post : (Nat → Int32) × (Nat → Int32) × Int32 → Prop} (h : ∀ g q, Post (g, q, 0)) : wp_X8_pointsAt p1 p2 0 0 f1 f2 f3 f4 f5 0 f6 f7 f8 f9 f10 f11 v4 Post := by
  delta wp_X8_pointsAt
  refine ⟨1000, pts2_lp (fun x g => ⟨1, ?_⟩) 1000 0 _ (by decide) (by decide)⟩
  rw [lp_X8_pointsAt_24]
  refine ⟨fun _ => actAt0 ⟨1, ?_⟩, fun c => absurd (by decide) c⟩
  rw [lp_X8_pointsAt_100]
  exact ⟨fun _ => h _ _, fun c => absurd (by decide) c⟩
theorem four0 {p1 : Int32} {f : Nat → Int32} (t : Nat) (ht : t + 4 ≤ 200) {Post : (Nat → Int32) × Int32 → Prop} (h : ∀ g, Post (g, nI (t + 4))) : wp_X8_four p1 f (nI t) Post := by
  delta wp_X8_four
  refine ⟨5, ?_⟩
  rw [lp_X8_four_3]
  refine ⟨fun c => absurd c (by decide), fun _ => ⟨vp_in_nI (by omega) (by omega), fun x hx => ?_⟩⟩
  rw [hx, nI_1, show (24 : Int32) + (-8) = 16 from by decide, lp_X8_four_3]
  refine ⟨fun c => absurd c (by decide), fun _ => ⟨vp_in_nI (by omega) (by omega), fun x hx => ?_⟩⟩
  rw [hx, nI_1, show (16 : Int32) + (-8) = 8 from by decide, lp_X8_four_3]
  refine ⟨fun c => absurd c (by decide), fun _ => ⟨vp_in_nI (by omega) (by omega), fun x hx => ?_⟩⟩
  rw [hx, nI_1, show (8 : Int32) + (-8) = 0 from by decide, lp_X8_four_3]
  refine ⟨fun c => absurd c (by decide), fun _ => ⟨vp_in_nI (by omega) (by omega), fun x hx => ?_⟩⟩
  rw [hx, nI_1, show (0 : Int32) + (-8) = -8 from by decide, lp_X8_four_3]
  exact ⟨fun _ => h _, fun c => absurd (by decide) c⟩
theorem see0 {f : Nat → Int32} {Post : Int32 → Int32 → Prop} (h : Post (-1) 0) : wp_X8_see f 0 0 Post := by
  delta wp_X8_see
  refine ⟨1, ?_⟩
  rw [lp_X8_see_0]
  exact ⟨fun _ => ⟨fun _ => h, fun c => absurd (by decide) c⟩, fun c => absurd (by decide) c⟩
theorem without_any {p : Int32} {Post : Int32 → Unit → Prop} (h : ∀ r, Post r ()) : wp_X8_without p Post := by
  simp only [wp_X8_without]
  repeat' first
    | (refine And.intro ?_ ?_)
    | intro c
  all_goals exact h _
theorem op45_lp {v1 v2 : Int32} {f1 : Nat → Int32} {v3 v4 v5 v6 v7 : Int32} {f2 : Nat → Int32} {v8 v9 v10 : Int32} {f3 f4 f5 : Nat → Int32} {Post : Int32 → Int32 × Int32 × Int32 × Int32 × Int32 × (Nat → Int32) × Int32 × Int32 × Int32 × (Nat → Int32) × (Nat → Int32) × (Nat → Int32) → Prop} {K : Int32 → (Nat → Int32) → Prop} (hK : ∀ x g, K x g) : ∀ (n i : Nat) (g : Nat → Int32), i ≤ 13 → 13 < i + n → lp_X8_open_45 v1 v2 f1 v3 v4 v5 v6 v7 f2 v8 v9 v10 f3 f4 f5 Post K n (nI i) g := by
  intro n
  induction n with
  | zero => intro i g h1 h2; omega
  | succ n ih =>
    intro i g h1 h2
    rw [lp_X8_open_45]
    refine ⟨fun _ => hK _ _, fun c => without_any (fun r => ?_)⟩
    have hi : i < 13 := Nat.lt_of_not_le (fun h => c ((nI_leI (a := 13) (by omega) (by omega)).mpr h))
    refine ⟨vp_in_nI hi (by omega), fun x hx => ?_⟩
    rw [hx, nI_1]
    exact ih (i + 1) _ (by omega) (by omega)
theorem op173_lp {k1 k2 v1 v2 : Int32} {f1 : Nat → Int32} {v3 v4 v5 v6 v7 : Int32} {f2 f3 : Nat → Int32} {v8 v9 v10 : Int32} {f4 f5 : Nat → Int32} {Post : Int32 → Int32 × Int32 × Int32 × Int32 × Int32 × (Nat → Int32) × Int32 × Int32 × Int32 × (Nat → Int32) × (Nat → Int32) × (Nat → Int32) → Prop} {K : Int32 → (Nat → Int32) → Prop} (hK : ∀ x g, K x g) : ∀ (n i : Nat) (g : Nat → Int32), i ≤ 13 → 13 < i + n → lp_X8_open_173 k1 k2 v1 v2 f1 v3 v4 v5 v6 v7 f2 f3 v8 v9 v10 f4 f5 Post K n (nI i) g := by
  intro n
  induction n with
  | zero => intro i g h1 h2; omega
  | succ n ih =>
    intro i g h1 h2
    rw [lp_X8_open_173]
    refine ⟨fun _ => hK _ _, fun c => ?_⟩
    have hi : i < 13 := Nat.lt_of_not_le (fun h => c ((nI_leI (a := 13) (by omega) (by omega)).mpr h))
    refine ⟨vp_in_nI hi (by omega), vp_in_nI hi (by omega), fun x hx => ?_⟩
    rw [hx, nI_1]
    exact ih (i + 1) _ (by omega) (by omega)
theorem op209_lp {k1 k2 v1 v2 : Int32} {f1 : Nat → Int32} {v3 v4 v5 v6 v7 : Int32} {f2 f3 : Nat → Int32} {v8 v9 v10 : Int32} {f4 : Nat → Int32} {Post : Int32 → Int32 × Int32 × Int32 × Int32 × Int32 × (Nat → Int32) × Int32 × Int32 × Int32 × (Nat → Int32) × (Nat → Int32) × (Nat → Int32) → Prop} {K : Int32 → (Nat → Int32) → (Nat → Int32) → Prop} (hK : ∀ x g q, K x g q) : ∀ (n i : Nat) (g q : Nat → Int32), i ≤ 20 → 20 < i + n → lp_X8_open_209 k1 k2 v1 v2 f1 v3 v4 v5 v6 v7 f2 f3 v8 v9 v10 f4 Post K n (nI i) g q := by
  intro n
  induction n with
  | zero => intro i g q h1 h2; omega
  | succ n ih =>
    intro i g q h1 h2
    rw [lp_X8_open_209]
    refine ⟨fun _ => hK _ _ _, fun c => ?_⟩
    have hi : i < 20 := Nat.lt_of_not_le (fun h => c ((nI_leI (a := 20) (by omega) (by omega)).mpr h))
    refine ⟨vp_in_nI hi (by omega), vp_in_nI hi (by omega), fun x hx => ?_⟩
    rw [hx, nI_1]
    exact ih (i + 1) _ _ (by omega) (by omega)
theorem there0 {f : Nat → Int32} {Post : Int32 → Unit → Prop} (h : Post 0 ()) : wp_X8_thereMany 0 f Post := by
  delta wp_X8_thereMany
  refine ⟨1, ?_⟩
  rw [lp_X8_thereMany_4]
  exact ⟨fun _ => h, fun c => absurd (by decide) c⟩
theorem f_X8_stall (p1 : Int32) : wp_X8_stall p1 0 0 (fun _ => 0) (fun _ => 0) 0 (fun _ => 0) (fun _ => 0) (fun _ => 0) 0 (fun _ => 0) (fun _ => 0) (fun _ => 0) (fun _ => 0) (fun r _ => r = (if p1 < 0 then -1 else if p1 ≤ 1000 then 0 else -1)) := by
  simp only [wp_X8_stall, wp_X8_in]
  refine ⟨fun c => absurd c (by decide), fun _ => ⟨fun c => absurd c (by decide), fun _ => ?_⟩⟩
  repeat' first
    | (delta vp_in; decide)
    | (refine And.intro ?_ ?_)
    | (intro c; exact absurd c (by decide))
    | (intro c; exact absurd rfl c)
    | intro c
  all_goals (try (refine falls0 (by decide) (fun u => ?_)))
  all_goals (try dsimp only)
  all_goals (try rfl)
  all_goals (try contradiction)
  all_goals (repeat' split)
  all_goals (try rfl)
  all_goals (try contradiction)
  all_goals (try assumption)
  all_goals (exfalso; simp only [Int32.lt_iff_toInt_lt, Int32.le_iff_toInt_le, ← Int32.toInt_inj, Int32.reduceToInt, show (-1 : Int32).toInt = -1 from by decide] at *; omega)
theorem f_X8_night  : wp_X8_night 0 (fun _ => 0) 0 (fun _ => 0) (fun _ => 0) (fun _ => 0) 0 0 (fun _ => 0) (fun _ => 0) (fun _ => 0) (fun _ => 0) (fun _ => 0) (fun _ => 0) (fun _ => 0) 0 (fun _ => 0) (fun _ => 0) (fun _ => 0) (fun _ => 0) (fun _ => 0) (fun _ => 0) (fun _ => 0) 0 (fun r _ => r = 1) := by
  simp only [wp_X8_night, wp_X8_sharesAt]
  refine ⟨fun _ => pts0 (fun g q => ⟨by delta vp_in; decide, fun x hx => ⟨1, ?_⟩⟩), fun c => absurd c (by decide)⟩
  rw [lp_X8_sharesAt_16]
  refine ⟨fun _ => ⟨fun c => absurd (rfl : (0 : Int32) = 0) c, fun _ => ⟨1, ?_⟩⟩, fun c => absurd (by decide) c⟩
  rw [lp_X8_night_35]
  exact ⟨fun _ => by first | trivial | rfl, fun c => absurd (by decide) c⟩
theorem f_X8_feed (p1 : Int32) (p2 : Int32) (p3 : Int32) (p4 : Int32) (p5 : Int32) : wp_X8_feed p1 p2 p3 p4 p5 (fun _ => 0) 0 (fun r _ => r = 20) := by
  simp only [wp_X8_feed]
  refine ⟨fun _ => ?_, fun c => absurd (by decide) c⟩
  exact four0 0 (by decide) (fun g1 => four0 4 (by decide) (fun g2 => four0 8 (by decide) (fun g3 => four0 12 (by decide) (fun g4 => four0 16 (by decide) (fun g5 => by first | trivial | rfl)))))
theorem f_X8_open (gw : Nat → Int32)  : wp_X8_open 0 0 (fun _ => 0) 0 0 0 0 0 (fun _ => 0) gw 0 0 0 (fun _ => 0) (fun _ => 0) (fun _ => 0) (fun r _ => r = 0) := by
  simp only [wp_X8_open]
  refine ⟨fun c => absurd c (by decide), fun _ => ⟨fun c => absurd c (by decide), fun _ => ⟨fun _ => ⟨1000, op45_lp (fun x g => see0 ⟨fun _ => ⟨1, ?_⟩, fun c => absurd c (by decide)⟩) 1000 0 _ (by decide) (by decide)⟩, fun c => absurd c (by decide)⟩⟩⟩
  rw [lp_X8_open_83]
  refine ⟨fun c => absurd c (by decide), fun _ => ⟨fun _ => ⟨fun _ => ⟨1000, op173_lp (fun x g => ⟨1000, op209_lp (fun x g q => by first | trivial | rfl) 1000 0 _ _ (by decide) (by decide)⟩) 1000 0 _ (by decide) (by decide)⟩, fun c => absurd c (by decide)⟩, fun c => absurd c (by decide)⟩⟩
theorem f_X8_count (p1 : Int32) : wp_X8_count p1 0 0 (fun _ => 0) 0 (fun _ => 0) 0 0 0 0 (fun r _ => r = (if p1 < 0 then -1 else if p1 ≤ 7 then 0 else -1)) := by
  simp only [wp_X8_count, wp_X8_in, show (19 : Int32) + 0 = 19 from by decide]
  repeat' first
    | (delta vp_in; decide)
    | (refine And.intro ?_ ?_)
    | (intro c; exact absurd c (by decide))
    | (intro c; exact absurd rfl c)
    | intro c
  all_goals (try (refine there0 ?_))
  all_goals (try dsimp only)
  all_goals (try rfl)
  all_goals (try contradiction)
  all_goals (repeat' split)
  all_goals (try rfl)
  all_goals (try contradiction)
  all_goals (try assumption)
  all_goals (exfalso; simp only [Int32.lt_iff_toInt_lt, Int32.le_iff_toInt_le, ← Int32.toInt_inj, Int32.reduceToInt, show (-1 : Int32).toInt = -1 from by decide] at *; omega)
