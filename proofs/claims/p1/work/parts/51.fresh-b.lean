theorem fill_lq (v : Int32) (N : Nat) (hN : N < 1000) (P Q : (Nat → Int32) → Prop) (hQ : ∀ g, (∀ j, j < N → g j = v) → Q g) : ∀ (n i : Nat) (f : Nat → Int32), i ≤ N → N < i + n → (∀ j, j < i → f j = v) → lp_J7_fill_53178_5 v (nI N) N P (fun _ g => Q g) n (nI i) f := by
  intro n
  induction n with
  | zero => intro i f h1 h2; omega
  | succ n ih =>
    intro i f h1 h2 h3
    rw [lp_J7_fill_53178_5]
    refine ⟨fun c => ?_, fun c => ⟨?_, fun x hx => ?_⟩⟩
    · have hi : N ≤ i := (nI_leI (by omega) (by omega)).mp c
      exact hQ f (fun j hj => h3 j (by omega))
    · have hi : i < N := Nat.lt_of_not_le (fun h => c ((nI_leI (by omega) (by omega)).mpr h))
      exact vp_in_nI hi (by omega)
    · have hi : i < N := Nat.lt_of_not_le (fun h => c ((nI_leI (by omega) (by omega)).mpr h))
      rw [hx, nI_1, nI_clamp (by omega)]
      refine ih (i + 1) _ (by omega) (by omega) (fun j hj => ?_)
      by_cases hji : j = i
      · rw [hji]; exact pk_us
      · rw [pk_un hji]; exact h3 j (by omega)
theorem fill_any {v : Int32} {N : Nat} {f : Nat → Int32} {P : (Nat → Int32) → Prop} (hN : N < 1000) (hQ : ∀ g, (∀ j, j < N → g j = v) → P g) : wp_J7_fill_53178 v N f P := by
  delta wp_J7_fill_53178
  intro x hx
  rw [hx]
  exact ⟨1000, fill_lq v N hN _ P hQ 1000 0 f (by omega) (by omega) (fun j hj => by omega)⟩
theorem fo0 {p1 : Int32} {f1 f2 f3 f4 : Nat → Int32} {Post : Int32 → Unit → Prop} (h : Post (-1) ()) : wp_X2_firstOptant p1 0 f1 f2 f3 f4 Post := by
  delta wp_X2_firstOptant
  refine ⟨1, ?_⟩
  rw [lp_X2_firstOptant_2]
  exact ⟨fun _ => h, fun c => absurd (by decide) c⟩
theorem fall0 {f1 f2 f3 f4 f5 f6 f7 f8 : Nat → Int32} {v : Int32} {Post : (Nat → Int32) × (Nat → Int32) × Int32 × (Nat → Int32) × (Nat → Int32) × (Nat → Int32) → Prop} (h : ∀ u, Post u) : wp_X2_fall 0 0 f1 f2 f3 f4 f5 v f6 f7 f8 Post := by
  delta wp_X2_fall
  refine ⟨2, ?_⟩
  rw [lp_X2_fall_9]
  refine ⟨fun c => absurd c (by decide), fun _ => ⟨fun c => absurd c (by decide), fun _ => ?_⟩⟩
  refine fo0 ⟨fun c => absurd rfl c, fun _ x hx => ?_⟩
  rw [hx, lp_X2_fall_9]
  exact ⟨fun c => absurd c (by decide), fun _ => ⟨fun _ => h _, fun c => absurd rfl c⟩⟩
theorem inForce0 {d k : Int32} {f1 f2 f3 : Nat → Int32} {Post : Int32 → Unit → Prop} (h : Post (-1) ()) : wp_X0_inForce d k 0 f1 f2 f3 Post := by
  delta wp_X0_inForce
  refine ⟨1, ?_⟩
  rw [lp_X0_inForce_5]
  exact ⟨fun _ => h, fun c => absurd (by decide) c⟩
theorem payWorth0 {f1 f2 f3 : Nat → Int32} {Post : (Nat → Int32) → Prop} (h : ∀ u, Post u) : wp_X4_payWorth 0 f1 f2 f3 Post := by
  delta wp_X4_payWorth
  refine ⟨1, ?_⟩
  rw [lp_X4_payWorth_2]
  exact ⟨fun _ => h _, fun c => absurd (by decide) c⟩
theorem payShares_lp {k1 v0 : Int32} {f1 f2 f3 f4 f5 f6 f7 f8 f9 f10 f11 f12 f13 f14 : Nat → Int32} {v4 : Int32} {Post : (Nat → Int32) × (Nat → Int32) × (Nat → Int32) × (Nat → Int32) × Int32 → Prop} {K : Int32 → (Nat → Int32) → Prop} (hK : ∀ x g, K x g) : ∀ (n i : Nat) (g : Nat → Int32), i ≤ 20 → 20 < i + n → lp_X4_payShares_17 k1 v0 f1 f2 f3 f4 f5 f6 f7 f8 f9 f10 f11 f12 f13 f14 v4 Post K n (nI i) g := by
  intro n
  induction n with
  | zero => intro i g h1 h2; omega
  | succ n ih =>
    intro i g h1 h2
    rw [lp_X4_payShares_17]
    refine ⟨fun _ => hK _ _, fun c => ?_⟩
    have hi : i < 20 := Nat.lt_of_not_le (fun h => c ((nI_leI (a := 20) (by omega) (by omega)).mpr h))
    have hv : vp_in (nI i) 20 := vp_in_nI hi (by omega)
    refine ⟨hv, hv, hv, fun x hx => ?_⟩
    rw [hx, nI_1]
    exact ih (i + 1) _ (by omega) (by omega)
theorem skip0 {f : Nat → Int32} {Post : Int32 → Prop} (h : Post 0) : wp_X5_skipBlanks 0 0 f Post := by
  delta wp_X5_skipBlanks
  refine ⟨1, ?_⟩
  rw [lp_X5_skipBlanks_0]
  exact ⟨fun _ => h, fun c => absurd (by decide) c⟩
theorem number0 {a b : Int32} {f : Nat → Int32} {Post : Int32 → Unit → Prop} (j : Nat) (hj : j < 143) (he : ((a + 1) * 13) + b = nI j) (h : Post (f j) ()) : wp_X0_number a b f Post := by
  delta wp_X0_number
  rw [he, nI_clamp (by omega)]
  exact ⟨vp_in_nI hj (by omega), h⟩
theorem f_X7_stall (p1 : Int32) : wp_X7_stall p1 0 0 (fun _ => 0) (fun _ => 0) (fun _ => 0) (fun _ => 0) (fun _ => 0) 0 (fun _ => 0) (fun _ => 0) (fun _ => 0) 0 (fun r _ => r = (if p1 < 0 then -1 else if p1 ≤ 1000 then 0 else -1)) := by
  simp only [wp_X7_stall, wp_X7_isOver, wp_X2_addStall]
  refine ⟨fun _ => ⟨fun c => absurd c (by decide), fun _ => ⟨fun c => (if_pos c).symm, fun c1 => ⟨fun c2 => ⟨fun _ => ⟨by delta vp_in; decide, by delta vp_in; decide, fall0 (fun u => ?_)⟩, fun c => absurd c (by decide)⟩, fun c2 => ?_⟩⟩⟩, fun c => absurd (by decide) c⟩
  · rw [if_neg c1, if_pos c2]
  · rw [if_neg c1, if_neg c2]
theorem f_X7_night (gc : Nat → Int32) (hgc : ∀ j, j < 400 → gc j = -1) (gn : Nat → Int32) (hgn : ∀ j, j < 400 → gn j = -1) (gr : Nat → Int32) (hgr : gr = va_cpy fW (fun _ => 0) (0 : Int32).toNatClampNeg (0 : Int32).toNatClampNeg (13 : Int32).toNatClampNeg) (gu : Nat → Int32) (hgu : ∀ j, j < 10 → gu j = 400) : wp_X7_night 0 gr (fun _ => 0) (fun _ => 0) gu 0 (fun _ => 0) (fun _ => 0) gn (fun _ => 0) (fun _ => 0) (fun _ => 0) (fun _ => 0) (fun _ => 0) (fun _ => 0) (fun _ => 0) gc (fun _ => 0) (fun _ => 0) (fun _ => 0) 0 0 (fun r _ => r = 1) := by
  simp only [wp_X7_night, wp_X7_isOver, wp_X4_payShares, wp_X4_partBox]
  refine ⟨fun _ => ⟨fun _ => ?_, fun c => absurd c (by decide)⟩, fun c => absurd (by decide) c⟩
  refine fill_any (by decide) (fun g hg => ⟨by delta vp_in; decide, fun x hx => ?_⟩)
  have hx0 : x = 0 := by
    rw [hx, show (0 : Int32).toNatClampNeg = 0 from rfl, hgc 0 (by decide)]
    decide
  refine ⟨fun c => absurd hx0 c, fun _ => ⟨1000, payShares_lp (fun x g => payWorth0 (fun u => by first | trivial | rfl)) 1000 0 _ (by decide) (by decide)⟩⟩
theorem f_X7_open  : wp_X7_open 0 0 0 (fun _ => 0) (fun _ => 0) (fun _ => 0) 0 0 0 0 (fun _ => 0) 0 (fun r _ => r = 0) := by
  simp only [wp_X7_open, wp_X7_isOver, wp_X5_read]
  refine ⟨fun _ => ⟨fun c => absurd c (by decide), fun _ => ⟨fun c => absurd c (by decide), fun _ => ⟨fun _ => skip0 ?_, fun c => absurd c (by decide)⟩⟩⟩, fun c => absurd (by decide) c⟩
  simp only [wp_X6_at]
  refine ⟨fun c => absurd c (by decide), fun _ => ⟨fun _ => ⟨fun _ => ⟨1, ?_⟩, fun c => absurd c (by decide)⟩, fun c => absurd (by decide) c⟩⟩
  rw [lp_X5_read_56]
  refine ⟨fun c => absurd c (by decide), fun _ => ⟨fun _ => ?_, fun c => absurd c (by decide)⟩⟩
  simp only [wp_X6_cutTo, wp_X1_begin]
  refine ⟨fun c => absurd c (by decide), fun _ => ⟨fun _ => ⟨fun _ => ?_, fun c => absurd c (by decide)⟩, fun c => absurd (by decide) c⟩⟩
  exact fill_any (by decide) (fun g hg => fill_any (by decide) (fun g2 hg2 => by first | trivial | rfl))
