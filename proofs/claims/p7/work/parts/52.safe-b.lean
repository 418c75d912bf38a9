theorem s_X3_addMark (p1 : Int32) (p2 : Int32) (p3 : Int32) (p4 : Int32) (p5 : Int32) (v3told : Int32) (f3newest : Nat → Int32) (f3older : Nat → Int32) (f3whose : Nat → Int32) (f3hourOf : Nat → Int32) (f3kind : Nat → Int32) (f3knownFrom : Nat → Int32) (Post : Int32 → Int32 × (Nat → Int32) × (Nat → Int32) × (Nat → Int32) × (Nat → Int32) × (Nat → Int32) × (Nat → Int32) → Prop) (g0 : (0 ≤ p1 ∧ p1 < 20)) (g1 : (0 ≤ p2 ∧ p2 < 400)) (g2 : (0 ≤ p3 ∧ p3 < 7)) (g3 : (0 ≤ p4 ∧ p4 < 5)) (g4 : (0 ≤ v3told ∧ v3told < 401)) (g5 : al f3newest (-1) 400) (g6 : al f3older (-1) 400) (g7 : al f3whose 0 20) (g8 : al f3hourOf 0 7) (g9 : al f3kind 0 5) (h : ∀ r u, (al u.2.1 (-1) 400 ∧ al u.2.2.1 (-1) 400 ∧ al u.2.2.2.1 0 20 ∧ al u.2.2.2.2.1 0 7 ∧ al u.2.2.2.2.2.1 0 5 ∧ ((r = -1 ∧ v3told = 400 ∧ u.1 = v3told) ∨ (r = v3told + 1 ∧ v3told < 400 ∧ u.1 = v3told + 1))) → Post r u) : wp_X3_addMark p1 p2 p3 p4 p5 v3told f3newest f3older f3whose f3hourOf f3kind f3knownFrom Post := by
  delta wp_X3_addMark
  repeat' first
    | (with_reducible refine And.intro ?_ ?_)
    | (with_reducible intro _)
  all_goals (try dsimp only at *)
  all_goals grind [al, al_upd, fil20, fil400, vin10, vin12, vin13, vin20, vin56, vin130, vin140, vin143, vin200, vin240, vin400, vin8000]
theorem s_X3_hasMarks (p1 : Int32) (f3newest : Nat → Int32) (Post : Int32 → Unit → Prop) (g0 : (0 ≤ p1 ∧ p1 < 400)) (h : ∀ r u, True → Post r u) : wp_X3_hasMarks p1 f3newest Post := by
  delta wp_X3_hasMarks
  repeat' first
    | (with_reducible refine And.intro ?_ ?_)
    | (with_reducible intro _)
  all_goals (try dsimp only at *)
  all_goals grind [al, al_upd, fil20, fil400, vin10, vin12, vin13, vin20, vin56, vin130, vin140, vin143, vin200, vin240, vin400, vin8000]
theorem l_X3_lastMark_11  (k1 : Int32) (k2 : Int32) (k3 : Int32) (k4 : Int32) (f3newest : Nat → Int32) (f3older : Nat → Int32) (f3whose : Nat → Int32) (f3hourOf : Nat → Int32) (f3kind : Nat → Int32) (f3knownFrom : Nat → Int32) (Post : Int32 → Unit → Prop) (K : Int32 → Int32 → Prop) (g0 : al f3older (-1) 400) (h : ∀ r u, True → Post r u) (hK : ∀ (y5 : Int32) (y6 : Int32), (0 ≤ y6 ∧ y6 ≤ 400 ∧ -1 ≤ y5 ∧ y5 < 400) → K y5 y6) : ∀ (n : Nat) (y5 : Int32) (y6 : Int32), (0 ≤ y6 ∧ y6 ≤ 400 ∧ -1 ≤ y5 ∧ y5 < 400) → tn (400 - y6) < n → lp_X3_lastMark_11 k1 k2 k3 k4 f3newest f3older f3whose f3hourOf f3kind f3knownFrom Post K n y5 y6 := by
  intro n
  induction n with
  | zero => intro y5 y6 _ hm; exact absurd hm (Nat.not_lt_zero _)
  | succ n ih =>
    intro y5 y6 hI hm
    rw [lp_X3_lastMark_11]
    repeat' first
      | (with_reducible refine And.intro ?_ ?_)
      | (with_reducible refine ih _ _ ?_ (mz ?_ ?_ hm))
      | (with_reducible intro _)
    all_goals (try dsimp only at *)
    all_goals grind [al, al_upd, fil20, fil400, vin10, vin12, vin13, vin20, vin56, vin130, vin140, vin143, vin200, vin240, vin400, vin8000]
theorem s_X3_lastMark (p1 : Int32) (p2 : Int32) (p3 : Int32) (p4 : Int32) (f3newest : Nat → Int32) (f3older : Nat → Int32) (f3whose : Nat → Int32) (f3hourOf : Nat → Int32) (f3kind : Nat → Int32) (f3knownFrom : Nat → Int32) (Post : Int32 → Unit → Prop) (g0 : (0 ≤ p2 ∧ p2 < 400)) (g1 : al f3newest (-1) 400) (g2 : al f3older (-1) 400) (h : ∀ r u, True → Post r u) : wp_X3_lastMark p1 p2 p3 p4 f3newest f3older f3whose f3hourOf f3kind f3knownFrom Post := by
  delta wp_X3_lastMark
  repeat' first
    | (with_reducible refine And.intro ?_ ?_)
    | (with_reducible refine ⟨_, l_X3_lastMark_11 _ _ _ _ _ _ _ _ _ _ _ _ ?_ ?_ ?_ _ _ _ ?_ (Nat.lt_succ_self _)⟩)
    | (with_reducible intro _)
  all_goals (try dsimp only at *)
  all_goals grind [al, al_upd, fil20, fil400, vin10, vin12, vin13, vin20, vin56, vin130, vin140, vin143, vin200, vin240, vin400, vin8000]
theorem s_X3_isFirstSeen (p1 : Int32) (f3whose : Nat → Int32) (f3hourOf : Nat → Int32) (f3hoursSeen : Nat → Int32) (Post : Int32 → (Nat → Int32) → Prop) (g0 : (0 ≤ p1 ∧ p1 < 400)) (g1 : al f3whose 0 20) (h : ∀ r u, True → Post r u) : wp_X3_isFirstSeen p1 f3whose f3hourOf f3hoursSeen Post := by
  delta wp_X3_isFirstSeen
  repeat' first
    | (with_reducible refine And.intro ?_ ?_)
    | (with_reducible intro _)
  all_goals (try dsimp only at *)
  all_goals grind [al, al_upd, fil20, fil400, vin10, vin12, vin13, vin20, vin56, vin130, vin140, vin143, vin200, vin240, vin400, vin8000]
theorem l_X3_tallyUp_38  (k1 : Int32) (k2 : Int32) (k4 : Int32) (v0made : Int32) (f0rules : Nat → Int32) (f0from : Nat → Int32) (f0knownFrom : Nat → Int32) (f0undoneFrom : Nat → Int32) (f3newest : Nat → Int32) (f3older : Nat → Int32) (f3whose : Nat → Int32) (f3hourOf : Nat → Int32) (f3kind : Nat → Int32) (f3knownFrom : Nat → Int32) (Post : Int32 → (Nat → Int32) × (Nat → Int32) → Prop) (K : Int32 → Int32 → Int32 → (Nat → Int32) → (Nat → Int32) → Prop) (g0 : (-1 ≤ k4 ∧ k4 < 10)) (g1 : al f3newest (-1) 400) (g2 : al f3older (-1) 400) (g3 : al f3whose 0 20) (g4 : al f3hourOf 0 7) (g5 : al f3kind 0 5) (hK : ∀ (y5 : Int32) (y6 : Int32) (y7 : Int32) (f3tally : Nat → Int32) (f3hoursSeen : Nat → Int32), (0 ≤ y7 ∧ y7 ≤ 400 ∧ -1 ≤ y6 ∧ y6 < 400) → K y5 y6 y7 f3tally f3hoursSeen) : ∀ (n : Nat) (y5 : Int32) (y6 : Int32) (y7 : Int32) (f3tally : Nat → Int32) (f3hoursSeen : Nat → Int32), (0 ≤ y7 ∧ y7 ≤ 400 ∧ -1 ≤ y6 ∧ y6 < 400) → tn (400 - y7) < n → lp_X3_tallyUp_38 k1 k2 k4 v0made f0rules f0from f0knownFrom f0undoneFrom f3newest f3older f3whose f3hourOf f3kind f3knownFrom Post K n y5 y6 y7 f3tally f3hoursSeen := by
  intro n
  induction n with
  | zero => intro y5 y6 y7 f3tally f3hoursSeen _ hm; exact absurd hm (Nat.not_lt_zero _)
  | succ n ih =>
    intro y5 y6 y7 f3tally f3hoursSeen hI hm
    rw [lp_X3_tallyUp_38]
    repeat' first
      | (with_reducible refine And.intro ?_ ?_)
      | (with_reducible refine s_X0_pointsFor _ _ _ _ _ ?_ ?_ ?_ ?_)
      | (with_reducible refine s_X3_isFirstSeen _ _ _ _ _ ?_ ?_ ?_)
      | (with_reducible refine ih _ _ _ _ _ ?_ (mz ?_ ?_ hm))
      | (with_reducible intro _)
    all_goals (try dsimp only at *)
    all_goals grind [al, al_upd, fil20, fil400, vin10, vin12, vin13, vin20, vin56, vin130, vin140, vin143, vin200, vin240, vin400, vin8000]
theorem s_X3_tallyUp (p1 : Int32) (p2 : Int32) (v0made : Int32) (f0rules : Nat → Int32) (f0from : Nat → Int32) (f0knownFrom : Nat → Int32) (f0undoneFrom : Nat → Int32) (f3newest : Nat → Int32) (f3older : Nat → Int32) (f3whose : Nat → Int32) (f3hourOf : Nat → Int32) (f3kind : Nat → Int32) (f3knownFrom : Nat → Int32) (f3tally : Nat → Int32) (f3hoursSeen : Nat → Int32) (Post : Int32 → (Nat → Int32) × (Nat → Int32) → Prop) (g0 : (0 ≤ p1 ∧ p1 < 400)) (g1 : (0 ≤ v0made ∧ v0made < 11)) (g2 : al f3newest (-1) 400) (g3 : al f3older (-1) 400) (g4 : al f3whose 0 20) (g5 : al f3hourOf 0 7) (g6 : al f3kind 0 5) (h : ∀ r u, True → Post r u) : wp_X3_tallyUp p1 p2 v0made f0rules f0from f0knownFrom f0undoneFrom f3newest f3older f3whose f3hourOf f3kind f3knownFrom f3tally f3hoursSeen Post := by
  delta wp_X3_tallyUp
  repeat' first
    | (with_reducible refine And.intro ?_ ?_)
    | (with_reducible refine s_J7_fill_53178 _ _ _ _ ?_ ?_ ?_)
    | (with_reducible refine s_X0_inForce _ _ _ _ _ _ _ ?_ ?_)
    | (with_reducible refine ⟨_, l_X3_tallyUp_38 _ _ _ _ _ _ _ _ _ _ _ _ _ _ _ _ ?_ ?_ ?_ ?_ ?_ ?_ ?_ _ _ _ _ _ _ ?_ (Nat.lt_succ_self _)⟩)
    | (with_reducible intro _)
  all_goals (try dsimp only at *)
  all_goals grind [al, al_upd, fil20, fil400, vin10, vin12, vin13, vin20, vin56, vin130, vin140, vin143, vin200, vin240, vin400, vin8000]
theorem s_X4_fill (p1 : Int32) (p2 : Int32) (f4coins : Nat → Int32) (Post : Int32 → (Nat → Int32) → Prop) (g0 : (0 ≤ p1 ∧ p1 < 400)) (h : ∀ r u, ((r = 0 ∧ ¬ f4coins p1.toNatClampNeg = -1 ∧ (∀ j, u j = f4coins j)) ∨ (r = 1 ∧ f4coins p1.toNatClampNeg = -1 ∧ (∀ j, u j = if j = p1.toNatClampNeg then p2 else f4coins j))) → Post r u) : wp_X4_fill p1 p2 f4coins Post := by
  delta wp_X4_fill
  repeat' first
    | (with_reducible refine And.intro ?_ ?_)
    | (with_reducible intro _)
  all_goals (try dsimp only at *)
  all_goals grind [al, al_upd, fil20, fil400, vin10, vin12, vin13, vin20, vin56, vin130, vin140, vin143, vin200, vin240, vin400, vin8000, upd]
theorem s_X4_pointsOf (p1 : Int32) (p2 : Int32) (p3 : Int32) (v0made : Int32) (f0rules : Nat → Int32) (f0from : Nat → Int32) (f0knownFrom : Nat → Int32) (f0undoneFrom : Nat → Int32) (f3newest : Nat → Int32) (f3older : Nat → Int32) (f3whose : Nat → Int32) (f3hourOf : Nat → Int32) (f3kind : Nat → Int32) (f3knownFrom : Nat → Int32) (f3tally : Nat → Int32) (f3hoursSeen : Nat → Int32) (Post : Int32 → (Nat → Int32) × (Nat → Int32) → Prop) (g0 : (0 ≤ p1 ∧ p1 < 20)) (g1 : (0 ≤ p2 ∧ p2 < 400)) (g2 : (0 ≤ v0made ∧ v0made < 11)) (g3 : al f3newest (-1) 400) (g4 : al f3older (-1) 400) (g5 : al f3whose 0 20) (g6 : al f3hourOf 0 7) (g7 : al f3kind 0 5) (h : ∀ r u, True → Post r u) : wp_X4_pointsOf p1 p2 p3 v0made f0rules f0from f0knownFrom f0undoneFrom f3newest f3older f3whose f3hourOf f3kind f3knownFrom f3tally f3hoursSeen Post := by
  delta wp_X4_pointsOf
  repeat' first
    | (with_reducible refine And.intro ?_ ?_)
    | (with_reducible refine s_X3_tallyUp _ _ _ _ _ _ _ _ _ _ _ _ _ _ _ _ ?_ ?_ ?_ ?_ ?_ ?_ ?_ ?_)
    | (with_reducible intro _)
  all_goals (try dsimp only at *)
  all_goals grind [al, al_upd, fil20, fil400, vin10, vin12, vin13, vin20, vin56, vin130, vin140, vin143, vin200, vin240, vin400, vin8000]
theorem l_X4_spreadRest_4  (k1 : Int32) (f3tally : Nat → Int32) (Post : (Nat → Int32) → Prop) (K : Int32 → Int32 → (Nat → Int32) → Prop)  (hK : ∀ (y2 : Int32) (y3 : Int32) (f4parts : Nat → Int32), (0 ≤ y3 ∧ y3 ≤ 20) → K y2 y3 f4parts) : ∀ (n : Nat) (y2 : Int32) (y3 : Int32) (f4parts : Nat → Int32), (0 ≤ y3 ∧ y3 ≤ 20) → tn (20 - y3) < n → lp_X4_spreadRest_4 k1 f3tally Post K n y2 y3 f4parts := by
  intro n
  induction n with
  | zero => intro y2 y3 f4parts _ hm; exact absurd hm (Nat.not_lt_zero _)
  | succ n ih =>
    intro y2 y3 f4parts hI hm
    rw [lp_X4_spreadRest_4]
    repeat' first
      | (with_reducible refine And.intro ?_ ?_)
      | (with_reducible refine ih _ _ _ ?_ (mz ?_ ?_ hm))
      | (with_reducible intro _)
    all_goals (try dsimp only at *)
    all_goals grind [al, al_upd, fil20, fil400, vin10, vin12, vin13, vin20, vin56, vin130, vin140, vin143, vin200, vin240, vin400, vin8000]
theorem s_X4_spreadRest (p1 : Int32) (f3tally : Nat → Int32) (f4parts : Nat → Int32) (Post : (Nat → Int32) → Prop)  (h : ∀ u, True → Post u) : wp_X4_spreadRest p1 f3tally f4parts Post := by
  delta wp_X4_spreadRest
  repeat' first
    | (with_reducible refine And.intro ?_ ?_)
    | (with_reducible refine ⟨_, l_X4_spreadRest_4 _ _ _ _ ?_ _ _ _ _ ?_ (Nat.lt_succ_self _)⟩)
    | (with_reducible intro _)
  all_goals (try dsimp only at *)
  all_goals grind [al, al_upd, fil20, fil400, vin10, vin12, vin13, vin20, vin56, vin130, vin140, vin143, vin200, vin240, vin400, vin8000]
theorem l_X4_partBox_55  (k1 : Int32) (k2 : Int32) (k3 : Int32) (k4 : Int32) (v0made : Int32) (f0rules : Nat → Int32) (f0from : Nat → Int32) (f0knownFrom : Nat → Int32) (f0undoneFrom : Nat → Int32) (f3newest : Nat → Int32) (f3older : Nat → Int32) (f3whose : Nat → Int32) (f3hourOf : Nat → Int32) (f3kind : Nat → Int32) (f3knownFrom : Nat → Int32) (f3tally : Nat → Int32) (f3hoursSeen : Nat → Int32) (f4coins : Nat → Int32) (Post : Int32 → (Nat → Int32) × (Nat → Int32) × (Nat → Int32) → Prop) (K : Int32 → Int32 → (Nat → Int32) → Prop) (g0 : ¬ k4 = 0) (hK : ∀ (y5 : Int32) (y6 : Int32) (f4parts : Nat → Int32), (0 ≤ y6 ∧ y6 ≤ 20) → K y5 y6 f4parts) : ∀ (n : Nat) (y5 : Int32) (y6 : Int32) (f4parts : Nat → Int32), (0 ≤ y6 ∧ y6 ≤ 20) → tn (20 - y6) < n → lp_X4_partBox_55 k1 k2 k3 k4 v0made f0rules f0from f0knownFrom f0undoneFrom f3newest f3older f3whose f3hourOf f3kind f3knownFrom f3tally f3hoursSeen f4coins Post K n y5 y6 f4parts := by
  intro n
  induction n with
  | zero => intro y5 y6 f4parts _ hm; exact absurd hm (Nat.not_lt_zero _)
  | succ n ih =>
    intro y5 y6 f4parts hI hm
    rw [lp_X4_partBox_55]
    repeat' first
      | (with_reducible refine And.intro ?_ ?_)
      | (with_reducible refine ih _ _ _ ?_ (mz ?_ ?_ hm))
      | (with_reducible intro _)
    all_goals (try dsimp only at *)
    all_goals grind [al, al_upd, fil20, fil400, vin10, vin12, vin13, vin20, vin56, vin130, vin140, vin143, vin200, vin240, vin400, vin8000]
theorem s_X4_partBox (p1 : Int32) (p2 : Int32) (v0made : Int32) (f0rules : Nat → Int32) (f0from : Nat → Int32) (f0knownFrom : Nat → Int32) (f0undoneFrom : Nat → Int32) (f3newest : Nat → Int32) (f3older : Nat → Int32) (f3whose : Nat → Int32) (f3hourOf : Nat → Int32) (f3kind : Nat → Int32) (f3knownFrom : Nat → Int32) (f3tally : Nat → Int32) (f3hoursSeen : Nat → Int32) (f4coins : Nat → Int32) (f4parts : Nat → Int32) (Post : Int32 → (Nat → Int32) × (Nat → Int32) × (Nat → Int32) → Prop) (g0 : (0 ≤ p1 ∧ p1 < 400)) (g1 : (0 ≤ v0made ∧ v0made < 11)) (g2 : al f3newest (-1) 400) (g3 : al f3older (-1) 400) (g4 : al f3whose 0 20) (g5 : al f3hourOf 0 7) (g6 : al f3kind 0 5) (h : ∀ r u, True → Post r u) : wp_X4_partBox p1 p2 v0made f0rules f0from f0knownFrom f0undoneFrom f3newest f3older f3whose f3hourOf f3kind f3knownFrom f3tally f3hoursSeen f4coins f4parts Post := by
  delta wp_X4_partBox
  repeat' first
    | (with_reducible refine And.intro ?_ ?_)
    | (with_reducible refine s_J7_fill_53178 _ _ _ _ ?_ ?_ ?_)
    | (with_reducible refine s_X3_tallyUp _ _ _ _ _ _ _ _ _ _ _ _ _ _ _ _ ?_ ?_ ?_ ?_ ?_ ?_ ?_ ?_)
    | (with_reducible refine s_X4_spreadRest _ _ _ _ ?_)
    | (with_reducible refine ⟨_, l_X4_partBox_55 _ _ _ _ _ _ _ _ _ _ _ _ _ _ _ _ _ _ _ _ ?_ ?_ _ _ _ _ ?_ (Nat.lt_succ_self _)⟩)
    | (with_reducible intro _)
  all_goals (try dsimp only at *)
  all_goals grind [al, al_upd, fil20, fil400, vin10, vin12, vin13, vin20, vin56, vin130, vin140, vin143, vin200, vin240, vin400, vin8000]
theorem s_X4_shareOf (p1 : Int32) (p2 : Int32) (p3 : Int32) (v0made : Int32) (f0rules : Nat → Int32) (f0from : Nat → Int32) (f0knownFrom : Nat → Int32) (f0undoneFrom : Nat → Int32) (f3newest : Nat → Int32) (f3older : Nat → Int32) (f3whose : Nat → Int32) (f3hourOf : Nat → Int32) (f3kind : Nat → Int32) (f3knownFrom : Nat → Int32) (f3tally : Nat → Int32) (f3hoursSeen : Nat → Int32) (f4coins : Nat → Int32) (f4parts : Nat → Int32) (Post : Int32 → (Nat → Int32) × (Nat → Int32) × (Nat → Int32) → Prop) (g0 : (0 ≤ p1 ∧ p1 < 20)) (g1 : (0 ≤ p2 ∧ p2 < 400)) (g2 : (0 ≤ v0made ∧ v0made < 11)) (g3 : al f3newest (-1) 400) (g4 : al f3older (-1) 400) (g5 : al f3whose 0 20) (g6 : al f3hourOf 0 7) (g7 : al f3kind 0 5) (h : ∀ r u, True → Post r u) : wp_X4_shareOf p1 p2 p3 v0made f0rules f0from f0knownFrom f0undoneFrom f3newest f3older f3whose f3hourOf f3kind f3knownFrom f3tally f3hoursSeen f4coins f4parts Post := by
  delta wp_X4_shareOf
  repeat' first
    | (with_reducible refine And.intro ?_ ?_)
    | (with_reducible refine s_X4_partBox _ _ _ _ _ _ _ _ _ _ _ _ _ _ _ _ _ _ ?_ ?_ ?_ ?_ ?_ ?_ ?_ ?_)
    | (with_reducible intro _)
  all_goals (try dsimp only at *)
  all_goals grind [al, al_upd, fil20, fil400, vin10, vin12, vin13, vin20, vin56, vin130, vin140, vin143, vin200, vin240, vin400, vin8000]
theorem s_X4_paidShareOf (p1 : Int32) (p2 : Int32) (v0made : Int32) (f0rules : Nat → Int32) (f0from : Nat → Int32) (f0knownFrom : Nat → Int32) (f0undoneFrom : Nat → Int32) (f3newest : Nat → Int32) (f3older : Nat → Int32) (f3whose : Nat → Int32) (f3hourOf : Nat → Int32) (f3kind : Nat → Int32) (f3knownFrom : Nat → Int32) (f3tally : Nat → Int32) (f3hoursSeen : Nat → Int32) (f4coins : Nat → Int32) (f4parts : Nat → Int32) (Post : Int32 → (Nat → Int32) × (Nat → Int32) × (Nat → Int32) → Prop) (g0 : (0 ≤ p1 ∧ p1 < 20)) (g1 : (0 ≤ p2 ∧ p2 < 400)) (g2 : (0 ≤ v0made ∧ v0made < 11)) (g3 : al f3newest (-1) 400) (g4 : al f3older (-1) 400) (g5 : al f3whose 0 20) (g6 : al f3hourOf 0 7) (g7 : al f3kind 0 5) (h : ∀ r u, True → Post r u) : wp_X4_paidShareOf p1 p2 v0made f0rules f0from f0knownFrom f0undoneFrom f3newest f3older f3whose f3hourOf f3kind f3knownFrom f3tally f3hoursSeen f4coins f4parts Post := by
  delta wp_X4_paidShareOf
  repeat' first
    | (with_reducible refine And.intro ?_ ?_)
    | (with_reducible refine s_X4_shareOf _ _ _ _ _ _ _ _ _ _ _ _ _ _ _ _ _ _ _ ?_ ?_ ?_ ?_ ?_ ?_ ?_ ?_ ?_)
    | (with_reducible intro _)
  all_goals (try dsimp only at *)
  all_goals grind [al, al_upd, fil20, fil400, vin10, vin12, vin13, vin20, vin56, vin130, vin140, vin143, vin200, vin240, vin400, vin8000]
theorem l_X4_owedTo_5  (k1 : Int32) (k2 : Int32) (v0made : Int32) (f0rules : Nat → Int32) (f0from : Nat → Int32) (f0knownFrom : Nat → Int32) (f0undoneFrom : Nat → Int32) (f3newest : Nat → Int32) (f3older : Nat → Int32) (f3whose : Nat → Int32) (f3hourOf : Nat → Int32) (f3kind : Nat → Int32) (f3knownFrom : Nat → Int32) (f4coins : Nat → Int32) (f4paidShares : Nat → Int32) (Post : Int32 → (Nat → Int32) × (Nat → Int32) × (Nat → Int32) → Prop) (K : Int32 → Int32 → (Nat → Int32) → (Nat → Int32) → (Nat → Int32) → Prop) (g0 : (0 ≤ k1 ∧ k1 < 20)) (g1 : (0 ≤ k2 ∧ k2 < 401)) (g2 : (0 ≤ v0made ∧ v0made < 11)) (g3 : al f3newest (-1) 400) (g4 : al f3older (-1) 400) (g5 : al f3whose 0 20) (g6 : al f3hourOf 0 7) (g7 : al f3kind 0 5) (hK : ∀ (y3 : Int32) (y4 : Int32) (f3tally : Nat → Int32) (f3hoursSeen : Nat → Int32) (f4parts : Nat → Int32), (0 ≤ y4 ∧ y4 ≤ k2) → K y3 y4 f3tally f3hoursSeen f4parts) : ∀ (n : Nat) (y3 : Int32) (y4 : Int32) (f3tally : Nat → Int32) (f3hoursSeen : Nat → Int32) (f4parts : Nat → Int32), (0 ≤ y4 ∧ y4 ≤ k2) → tn (k2 - y4) < n → lp_X4_owedTo_5 k1 k2 v0made f0rules f0from f0knownFrom f0undoneFrom f3newest f3older f3whose f3hourOf f3kind f3knownFrom f4coins f4paidShares Post K n y3 y4 f3tally f3hoursSeen f4parts := by
  intro n
  induction n with
  | zero => intro y3 y4 f3tally f3hoursSeen f4parts _ hm; exact absurd hm (Nat.not_lt_zero _)
  | succ n ih =>
    intro y3 y4 f3tally f3hoursSeen f4parts hI hm
    rw [lp_X4_owedTo_5]
    repeat' first
      | (with_reducible refine And.intro ?_ ?_)
      | (with_reducible refine s_X3_hasMarks _ _ _ ?_ ?_)
      | (with_reducible refine s_X4_shareOf _ _ _ _ _ _ _ _ _ _ _ _ _ _ _ _ _ _ _ ?_ ?_ ?_ ?_ ?_ ?_ ?_ ?_ ?_)
      | (with_reducible refine ih _ _ _ _ _ ?_ (mz ?_ ?_ hm))
      | (with_reducible intro _)
    all_goals (try dsimp only at *)
    all_goals grind [al, al_upd, fil20, fil400, vin10, vin12, vin13, vin20, vin56, vin130, vin140, vin143, vin200, vin240, vin400, vin8000]
theorem s_X4_owedTo (p1 : Int32) (p2 : Int32) (v0made : Int32) (f0rules : Nat → Int32) (f0from : Nat → Int32) (f0knownFrom : Nat → Int32) (f0undoneFrom : Nat → Int32) (f3newest : Nat → Int32) (f3older : Nat → Int32) (f3whose : Nat → Int32) (f3hourOf : Nat → Int32) (f3kind : Nat → Int32) (f3knownFrom : Nat → Int32) (f3tally : Nat → Int32) (f3hoursSeen : Nat → Int32) (f4coins : Nat → Int32) (f4parts : Nat → Int32) (f4paidShares : Nat → Int32) (Post : Int32 → (Nat → Int32) × (Nat → Int32) × (Nat → Int32) → Prop) (g0 : (0 ≤ p1 ∧ p1 < 20)) (g1 : (0 ≤ p2 ∧ p2 < 401)) (g2 : (0 ≤ v0made ∧ v0made < 11)) (g3 : al f3newest (-1) 400) (g4 : al f3older (-1) 400) (g5 : al f3whose 0 20) (g6 : al f3hourOf 0 7) (g7 : al f3kind 0 5) (h : ∀ r u, True → Post r u) : wp_X4_owedTo p1 p2 v0made f0rules f0from f0knownFrom f0undoneFrom f3newest f3older f3whose f3hourOf f3kind f3knownFrom f3tally f3hoursSeen f4coins f4parts f4paidShares Post := by
  delta wp_X4_owedTo
  repeat' first
    | (with_reducible refine And.intro ?_ ?_)
    | (with_reducible refine ⟨_, l_X4_owedTo_5 _ _ _ _ _ _ _ _ _ _ _ _ _ _ _ _ _ ?_ ?_ ?_ ?_ ?_ ?_ ?_ ?_ ?_ _ _ _ _ _ _ ?_ (Nat.lt_succ_self _)⟩)
    | (with_reducible intro _)
  all_goals (try dsimp only at *)
  all_goals grind [al, al_upd, fil20, fil400, vin10, vin12, vin13, vin20, vin56, vin130, vin140, vin143, vin200, vin240, vin400, vin8000]
theorem l_X4_payShares_17  (k1 : Int32) (v0made : Int32) (f0rules : Nat → Int32) (f0from : Nat → Int32) (f0knownFrom : Nat → Int32) (f0undoneFrom : Nat → Int32) (f3newest : Nat → Int32) (f3older : Nat → Int32) (f3whose : Nat → Int32) (f3hourOf : Nat → Int32) (f3kind : Nat → Int32) (f3knownFrom : Nat → Int32) (f3tally : Nat → Int32) (f3hoursSeen : Nat → Int32) (f4coins : Nat → Int32) (f4parts : Nat → Int32) (v4fabric : Int32) (Post : (Nat → Int32) × (Nat → Int32) × (Nat → Int32) × (Nat → Int32) × Int32 → Prop) (K : Int32 → (Nat → Int32) → Prop)  (hK : ∀ (y2 : Int32) (f4paidShares : Nat → Int32), (0 ≤ y2 ∧ y2 ≤ 20) → K y2 f4paidShares) : ∀ (n : Nat) (y2 : Int32) (f4paidShares : Nat → Int32), (0 ≤ y2 ∧ y2 ≤ 20) → tn (20 - y2) < n → lp_X4_payShares_17 k1 v0made f0rules f0from f0knownFrom f0undoneFrom f3newest f3older f3whose f3hourOf f3kind f3knownFrom f3tally f3hoursSeen f4coins f4parts v4fabric Post K n y2 f4paidShares := by
  intro n
  induction n with
  | zero => intro y2 f4paidShares _ hm; exact absurd hm (Nat.not_lt_zero _)
  | succ n ih =>
    intro y2 f4paidShares hI hm
    rw [lp_X4_payShares_17]
    repeat' first
      | (with_reducible refine And.intro ?_ ?_)
      | (with_reducible refine ih _ _ ?_ (mz ?_ ?_ hm))
      | (with_reducible intro _)
    all_goals (try dsimp only at *)
    all_goals grind [al, al_upd, fil20, fil400, vin10, vin12, vin13, vin20, vin56, vin130, vin140, vin143, vin200, vin240, vin400, vin8000]
theorem s_X4_payShares (p1 : Int32) (v0made : Int32) (f0rules : Nat → Int32) (f0from : Nat → Int32) (f0knownFrom : Nat → Int32) (f0undoneFrom : Nat → Int32) (f3newest : Nat → Int32) (f3older : Nat → Int32) (f3whose : Nat → Int32) (f3hourOf : Nat → Int32) (f3kind : Nat → Int32) (f3knownFrom : Nat → Int32) (f3tally : Nat → Int32) (f3hoursSeen : Nat → Int32) (f4coins : Nat → Int32) (f4parts : Nat → Int32) (f4paidShares : Nat → Int32) (v4fabric : Int32) (Post : (Nat → Int32) × (Nat → Int32) × (Nat → Int32) × (Nat → Int32) × Int32 → Prop) (g0 : (0 ≤ p1 ∧ p1 < 400)) (g1 : (0 ≤ v0made ∧ v0made < 11)) (g2 : al f3newest (-1) 400) (g3 : al f3older (-1) 400) (g4 : al f3whose 0 20) (g5 : al f3hourOf 0 7) (g6 : al f3kind 0 5) (h : ∀ u, True → Post u) : wp_X4_payShares p1 v0made f0rules f0from f0knownFrom f0undoneFrom f3newest f3older f3whose f3hourOf f3kind f3knownFrom f3tally f3hoursSeen f4coins f4parts f4paidShares v4fabric Post := by
  delta wp_X4_payShares
  repeat' first
    | (with_reducible refine And.intro ?_ ?_)
    | (with_reducible refine s_X4_partBox _ _ _ _ _ _ _ _ _ _ _ _ _ _ _ _ _ _ ?_ ?_ ?_ ?_ ?_ ?_ ?_ ?_)
    | (with_reducible refine ⟨_, l_X4_payShares_17 _ _ _ _ _ _ _ _ _ _ _ _ _ _ _ _ _ _ _ ?_ _ _ _ ?_ (Nat.lt_succ_self _)⟩)
    | (with_reducible intro _)
  all_goals (try dsimp only at *)
  all_goals grind [al, al_upd, fil20, fil400, vin10, vin12, vin13, vin20, vin56, vin130, vin140, vin143, vin200, vin240, vin400, vin8000]
theorem l_X4_payWorth_2  (v2canons : Int32) (f2stallOf : Nat → Int32) (f2worth : Nat → Int32) (Post : (Nat → Int32) → Prop) (K : Int32 → (Nat → Int32) → Prop) (g0 : (0 ≤ v2canons ∧ v2canons < 21)) (g1 : al f2stallOf (-1) 12) (hK : ∀ (y2 : Int32) (f4paidWorth : Nat → Int32), (0 ≤ y2 ∧ y2 ≤ v2canons) → K y2 f4paidWorth) : ∀ (n : Nat) (y2 : Int32) (f4paidWorth : Nat → Int32), (0 ≤ y2 ∧ y2 ≤ v2canons) → tn (v2canons - y2) < n → lp_X4_payWorth_2 v2canons f2stallOf f2worth Post K n y2 f4paidWorth := by
  intro n
  induction n with
  | zero => intro y2 f4paidWorth _ hm; exact absurd hm (Nat.not_lt_zero _)
  | succ n ih =>
    intro y2 f4paidWorth hI hm
    rw [lp_X4_payWorth_2]
    repeat' first
      | (with_reducible refine And.intro ?_ ?_)
      | (with_reducible refine s_X2_worthOf _ _ _ _ ?_ ?_ ?_)
      | (with_reducible refine ih _ _ ?_ (mz ?_ ?_ hm))
      | (with_reducible intro _)
    all_goals (try dsimp only at *)
    all_goals grind [al, al_upd, fil20, fil400, vin10, vin12, vin13, vin20, vin56, vin130, vin140, vin143, vin200, vin240, vin400, vin8000]
theorem s_X4_payWorth (v2canons : Int32) (f2stallOf : Nat → Int32) (f2worth : Nat → Int32) (f4paidWorth : Nat → Int32) (Post : (Nat → Int32) → Prop) (g0 : (0 ≤ v2canons ∧ v2canons < 21)) (g1 : al f2stallOf (-1) 12) (h : ∀ u, True → Post u) : wp_X4_payWorth v2canons f2stallOf f2worth f4paidWorth Post := by
  delta wp_X4_payWorth
  repeat' first
    | (with_reducible refine And.intro ?_ ?_)
    | (with_reducible refine ⟨_, l_X4_payWorth_2 _ _ _ _ _ ?_ ?_ ?_ _ _ _ ?_ (Nat.lt_succ_self _)⟩)
    | (with_reducible intro _)
  all_goals (try dsimp only at *)
  all_goals grind [al, al_upd, fil20, fil400, vin10, vin12, vin13, vin20, vin56, vin130, vin140, vin143, vin200, vin240, vin400, vin8000]
theorem s_X1_begin (v1isOpen : Int32) (v1wasAny : Int32) (f1castAs : Nat → Int32) (f1givenTo : Nat → Int32) (Post : Int32 × Int32 × (Nat → Int32) × (Nat → Int32) → Prop) (g0 : al f1givenTo (-1) 20) (h : ∀ u, al u.2.2.2 (-1) 20 → Post u) : wp_X1_begin v1isOpen v1wasAny f1castAs f1givenTo Post := by
  delta wp_X1_begin
  repeat' first
    | (with_reducible refine And.intro ?_ ?_)
    | (with_reducible refine s_J7_fill_53178 _ _ _ _ ?_ ?_ ?_)
    | (with_reducible intro _)
  all_goals (try dsimp only at *)
  all_goals grind [al, al_upd, fil20, fil400, vin10, vin12, vin13, vin20, vin56, vin130, vin140, vin143, vin200, vin240, vin400, vin8000]
theorem s_X1_cast (p1 : Int32) (p2 : Int32) (f1castAs : Nat → Int32) (f1givenTo : Nat → Int32) (Post : (Nat → Int32) × (Nat → Int32) → Prop) (g0 : (0 ≤ p1 ∧ p1 < 20)) (g1 : al f1givenTo (-1) 20) (h : ∀ u, al u.2 (-1) 20 → Post u) : wp_X1_cast p1 p2 f1castAs f1givenTo Post := by
  delta wp_X1_cast
  repeat' first
    | (with_reducible refine And.intro ?_ ?_)
    | (with_reducible intro _)
  all_goals (try dsimp only at *)
  all_goals grind [al, al_upd, fil20, fil400, vin10, vin12, vin13, vin20, vin56, vin130, vin140, vin143, vin200, vin240, vin400, vin8000]
theorem s_X1_forget (p1 : Int32) (f1castAs : Nat → Int32) (f1givenTo : Nat → Int32) (Post : (Nat → Int32) × (Nat → Int32) → Prop) (g0 : (0 ≤ p1 ∧ p1 < 20)) (g1 : al f1givenTo (-1) 20) (h : ∀ u, al u.2 (-1) 20 → Post u) : wp_X1_forget p1 f1castAs f1givenTo Post := by
  delta wp_X1_forget
  repeat' first
    | (with_reducible refine And.intro ?_ ?_)
    | (with_reducible intro _)
  all_goals (try dsimp only at *)
  all_goals grind [al, al_upd, fil20, fil400, vin10, vin12, vin13, vin20, vin56, vin130, vin140, vin143, vin200, vin240, vin400, vin8000]
theorem l_X1_giversTo_5  (k1 : Int32) (k2 : Int32) (f1givenTo : Nat → Int32) (v2canons : Int32) (Post : Int32 → Unit → Prop) (K : Int32 → Int32 → Prop) (g0 : (0 ≤ v2canons ∧ v2canons < 21)) (hK : ∀ (y3 : Int32) (y4 : Int32), (0 ≤ y4 ∧ y4 ≤ v2canons) → K y3 y4) : ∀ (n : Nat) (y3 : Int32) (y4 : Int32), (0 ≤ y4 ∧ y4 ≤ v2canons) → tn (v2canons - y4) < n → lp_X1_giversTo_5 k1 k2 f1givenTo v2canons Post K n y3 y4 := by
  intro n
  induction n with
  | zero => intro y3 y4 _ hm; exact absurd hm (Nat.not_lt_zero _)
  | succ n ih =>
    intro y3 y4 hI hm
    rw [lp_X1_giversTo_5]
    repeat' first
      | (with_reducible refine And.intro ?_ ?_)
      | (with_reducible refine ih _ _ ?_ (mz ?_ ?_ hm))
      | (with_reducible intro _)
    all_goals (try dsimp only at *)
    all_goals grind [al, al_upd, fil20, fil400, vin10, vin12, vin13, vin20, vin56, vin130, vin140, vin143, vin200, vin240, vin400, vin8000]
theorem s_X1_giversTo (p1 : Int32) (p2 : Int32) (f1givenTo : Nat → Int32) (v2canons : Int32) (Post : Int32 → Unit → Prop) (g0 : (0 ≤ v2canons ∧ v2canons < 21)) (h : ∀ r u, True → Post r u) : wp_X1_giversTo p1 p2 f1givenTo v2canons Post := by
  delta wp_X1_giversTo
  repeat' first
    | (with_reducible refine And.intro ?_ ?_)
    | (with_reducible refine ⟨_, l_X1_giversTo_5 _ _ _ _ _ _ ?_ ?_ _ _ _ ?_ (Nat.lt_succ_self _)⟩)
    | (with_reducible intro _)
  all_goals (try dsimp only at *)
  all_goals grind [al, al_upd, fil20, fil400, vin10, vin12, vin13, vin20, vin56, vin130, vin140, vin143, vin200, vin240, vin400, vin8000]
theorem s_X1_handOver (p1 : Int32) (p2 : Int32) (p3 : Int32) (f1castAs : Nat → Int32) (f1givenTo : Nat → Int32) (v2canons : Int32) (f2there : Nat → Int32) (Post : Int32 → (Nat → Int32) × (Nat → Int32) → Prop) (g0 : (0 ≤ v2canons ∧ v2canons < 21)) (g1 : al f1givenTo (-1) 20) (h : ∀ r u, (al u.2 (-1) 20 ∧ (r = 0 ∨ r = 1)) → Post r u) : wp_X1_handOver p1 p2 p3 f1castAs f1givenTo v2canons f2there Post := by
  delta wp_X1_handOver
  repeat' first
    | (with_reducible refine And.intro ?_ ?_)
    | (with_reducible refine s_X1_giversTo _ _ _ _ _ ?_ ?_)
    | (with_reducible refine s_X2_isThere _ _ _ _ ?_ ?_)
    | (with_reducible intro _)
  all_goals (try dsimp only at *)
  all_goals grind [al, al_upd, fil20, fil400, vin10, vin12, vin13, vin20, vin56, vin130, vin140, vin143, vin200, vin240, vin400, vin8000]
theorem s_X1_countOne (p1 : Int32) (f1castAs : Nat → Int32) (f1givenTo : Nat → Int32) (v1ayes : Int32) (v1noes : Int32) (v1silent : Int32) (Post : Int32 × Int32 × Int32 → Prop) (g0 : (0 ≤ p1 ∧ p1 < 20)) (g1 : al f1givenTo (-1) 20) (h : ∀ u, True → Post u) : wp_X1_countOne p1 f1castAs f1givenTo v1ayes v1noes v1silent Post := by
  delta wp_X1_countOne
  repeat' first
    | (with_reducible refine And.intro ?_ ?_)
    | (with_reducible intro _)
  all_goals (try dsimp only at *)
  all_goals grind [al, al_upd, fil20, fil400, vin10, vin12, vin13, vin20, vin56, vin130, vin140, vin143, vin200, vin240, vin400, vin8000]
theorem l_X1_countUp_17  (f1castAs : Nat → Int32) (f1givenTo : Nat → Int32) (v2canons : Int32) (f2there : Nat → Int32) (Post : Int32 × Int32 × Int32 → Prop) (K : Int32 → Int32 → Int32 → Int32 → Prop) (g0 : (0 ≤ v2canons ∧ v2canons < 21)) (g1 : al f1givenTo (-1) 20) (hK : ∀ (y1 : Int32) (v1ayes : Int32) (v1noes : Int32) (v1silent : Int32), (0 ≤ y1 ∧ y1 ≤ v2canons) → K y1 v1ayes v1noes v1silent) : ∀ (n : Nat) (y1 : Int32) (v1ayes : Int32) (v1noes : Int32) (v1silent : Int32), (0 ≤ y1 ∧ y1 ≤ v2canons) → tn (v2canons - y1) < n → lp_X1_countUp_17 f1castAs f1givenTo v2canons f2there Post K n y1 v1ayes v1noes v1silent := by
  intro n
  induction n with
  | zero => intro y1 v1ayes v1noes v1silent _ hm; exact absurd hm (Nat.not_lt_zero _)
  | succ n ih =>
    intro y1 v1ayes v1noes v1silent hI hm
    rw [lp_X1_countUp_17]
    repeat' first
      | (with_reducible refine And.intro ?_ ?_)
      | (with_reducible refine s_X1_countOne _ _ _ _ _ _ _ ?_ ?_ ?_)
      | (with_reducible refine s_X2_isThere _ _ _ _ ?_ ?_)
      | (with_reducible refine ih _ _ _ _ ?_ (mz ?_ ?_ hm))
      | (with_reducible intro _)
    all_goals (try dsimp only at *)
    all_goals grind [al, al_upd, fil20, fil400, vin10, vin12, vin13, vin20, vin56, vin130, vin140, vin143, vin200, vin240, vin400, vin8000]
theorem s_X1_countUp (f1castAs : Nat → Int32) (f1givenTo : Nat → Int32) (v1ayes : Int32) (v1noes : Int32) (v1silent : Int32) (v2canons : Int32) (f2there : Nat → Int32) (Post : Int32 × Int32 × Int32 → Prop) (g0 : (0 ≤ v2canons ∧ v2canons < 21)) (g1 : al f1givenTo (-1) 20) (h : ∀ u, True → Post u) : wp_X1_countUp f1castAs f1givenTo v1ayes v1noes v1silent v2canons f2there Post := by
  delta wp_X1_countUp
  repeat' first
    | (with_reducible refine And.intro ?_ ?_)
    | (with_reducible refine ⟨_, l_X1_countUp_17 _ _ _ _ _ _ ?_ ?_ ?_ _ _ _ _ _ ?_ (Nat.lt_succ_self _)⟩)
    | (with_reducible intro _)
  all_goals (try dsimp only at *)
  all_goals grind [al, al_upd, fil20, fil400, vin10, vin12, vin13, vin20, vin56, vin130, vin140, vin143, vin200, vin240, vin400, vin8000]
theorem s_X1_finish (p1 : Int32) (v1isOpen : Int32) (f1castAs : Nat → Int32) (f1givenTo : Nat → Int32) (v1ayes : Int32) (v1noes : Int32) (v1silent : Int32) (v2canons : Int32) (v2present : Int32) (f2there : Nat → Int32) (Post : Int32 → Int32 × Int32 × Int32 × Int32 → Prop) (g0 : (0 ≤ v2canons ∧ v2canons < 21)) (g1 : al f1givenTo (-1) 20) (h : ∀ r u, True → Post r u) : wp_X1_finish p1 v1isOpen f1castAs f1givenTo v1ayes v1noes v1silent v2canons v2present f2there Post := by
  delta wp_X1_finish
  repeat' first
    | (with_reducible refine And.intro ?_ ?_)
    | (with_reducible refine s_X1_countUp _ _ _ _ _ _ _ _ ?_ ?_ ?_)
    | (with_reducible intro _)
  all_goals (try dsimp only at *)
  all_goals grind [al, al_upd, fil20, fil400, vin10, vin12, vin13, vin20, vin56, vin130, vin140, vin143, vin200, vin240, vin400, vin8000]
theorem s_X1_tell (p1 : Int32) (v1isOpen : Int32) (v1wasAny : Int32) (f1castAs : Nat → Int32) (f1givenTo : Nat → Int32) (v1ayes : Int32) (v1noes : Int32) (v1silent : Int32) (v2canons : Int32) (f2there : Nat → Int32) (Post : Int32 → Int32 × Int32 × Int32 → Prop) (g0 : (0 ≤ v2canons ∧ v2canons < 21)) (g1 : al f1givenTo (-1) 20) (h : ∀ r u, True → Post r u) : wp_X1_tell p1 v1isOpen v1wasAny f1castAs f1givenTo v1ayes v1noes v1silent v2canons f2there Post := by
  delta wp_X1_tell
  repeat' first
    | (with_reducible refine And.intro ?_ ?_)
    | (with_reducible refine s_X1_countUp _ _ _ _ _ _ _ _ ?_ ?_ ?_)
    | (with_reducible intro _)
  all_goals (try dsimp only at *)
  all_goals grind [al, al_upd, fil20, fil400, vin10, vin12, vin13, vin20, vin56, vin130, vin140, vin143, vin200, vin240, vin400, vin8000]
