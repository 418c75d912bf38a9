theorem s_X7_isOver (v7now : Int32) (Post : Int32 → Unit → Prop)  (h : ∀ r u, ((r = 0 ∧ v7now < 400) ∨ (r = 1 ∧ 400 ≤ v7now)) → Post r u) : wp_X7_isOver v7now Post := by
  delta wp_X7_isOver
  repeat' first
    | (with_reducible refine And.intro ?_ ?_)
    | (with_reducible intro _)
  all_goals (try dsimp only at *)
  all_goals grind [al, al_upd, fil20, fil400, vin10, vin12, vin13, vin20, vin56, vin130, vin140, vin143, vin200, vin240, vin400, vin8000]
theorem s_X7_stall (p1 : Int32) (v2canons : Int32) (v2stalls : Int32) (f2there : Nat → Int32) (f2stallOf : Nat → Int32) (f2worth : Nat → Int32) (f2holder : Nat → Int32) (f2wishes : Nat → Int32) (v2moves : Int32) (f2mover : Nat → Int32) (f2movedFrom : Nat → Int32) (f2movedTo : Nat → Int32) (v7now : Int32) (Post : Int32 → Int32 × (Nat → Int32) × (Nat → Int32) × (Nat → Int32) × Int32 × (Nat → Int32) × (Nat → Int32) × (Nat → Int32) → Prop) (g0 : (0 ≤ v2canons ∧ v2canons < 21)) (g1 : (0 ≤ v2stalls ∧ v2stalls < 13)) (g2 : al f2stallOf (-1) 12) (g3 : (0 ≤ v2moves ∧ v2moves < 13)) (h : ∀ r u, (al u.2.1 (-1) 12 ∧ 0 ≤ u.2.2.2.2.1 ∧ u.2.2.2.2.1 < 13 ∧ ((r = -1 ∧ u.1 = v2stalls ∧ (400 ≤ v7now ∨ p1 < 0 ∨ 1000 < p1 ∨ v2stalls = 12)) ∨ (r = v2stalls ∧ u.1 = v2stalls + 1 ∧ v7now < 400 ∧ 0 ≤ p1 ∧ p1 ≤ 1000 ∧ v2stalls < 12))) → Post r u) : wp_X7_stall p1 v2canons v2stalls f2there f2stallOf f2worth f2holder f2wishes v2moves f2mover f2movedFrom f2movedTo v7now Post := by
  delta wp_X7_stall
  repeat' first
    | (with_reducible refine And.intro ?_ ?_)
    | (with_reducible refine s_X2_addStall _ _ _ _ _ _ _ _ _ _ _ _ _ ?_ ?_ ?_ ?_ ?_)
    | (with_reducible refine s_X7_isOver _ _ ?_)
    | (with_reducible intro _)
  all_goals (try dsimp only at *)
  all_goals grind [al, al_upd, fil20, fil400, vin10, vin12, vin13, vin20, vin56, vin130, vin140, vin143, vin200, vin240, vin400, vin8000]
theorem s_X7_canon (v2canons : Int32) (v2present : Int32) (f2there : Nat → Int32) (f2stallOf : Nat → Int32) (v7now : Int32) (Post : Int32 → Int32 × Int32 × (Nat → Int32) × (Nat → Int32) → Prop) (g0 : (0 ≤ v2canons ∧ v2canons < 21)) (g1 : al f2stallOf (-1) 12) (h : ∀ r u, (al u.2.2.2 (-1) 12 ∧ ((r = -1 ∧ u.1 = v2canons ∧ (400 ≤ v7now ∨ v2canons = 20)) ∨ (r = v2canons ∧ u.1 = v2canons + 1 ∧ v7now < 400 ∧ v2canons < 20))) → Post r u) : wp_X7_canon v2canons v2present f2there f2stallOf v7now Post := by
  delta wp_X7_canon
  repeat' first
    | (with_reducible refine And.intro ?_ ?_)
    | (with_reducible refine s_X2_addCanon _ _ _ _ _ ?_ ?_ ?_)
    | (with_reducible refine s_X7_isOver _ _ ?_)
    | (with_reducible intro _)
  all_goals (try dsimp only at *)
  all_goals grind [al, al_upd, fil20, fil400, vin10, vin12, vin13, vin20, vin56, vin130, vin140, vin143, vin200, vin240, vin400, vin8000]
theorem s_X7_wish (p1 : Int32) (p2 : Int32) (p3 : Int32) (v2canons : Int32) (v2stalls : Int32) (f2wishes : Nat → Int32) (v7now : Int32) (Post : Int32 → (Nat → Int32) → Prop) (g0 : (0 ≤ v2canons ∧ v2canons < 21)) (g1 : (0 ≤ v2stalls ∧ v2stalls < 13)) (h : ∀ r u, ((r = 0 ∧ (∀ j, u j = f2wishes j) ∧ (400 ≤ v7now ∨ p1 < 0 ∨ v2canons ≤ p1 ∨ p2 < 0 ∨ v2stalls ≤ p2)) ∨ (v7now < 400 ∧ 0 ≤ p1 ∧ p1 < v2canons ∧ 0 ≤ p2 ∧ p2 < v2stalls ∧ (∀ j, u j = if j = (p1 * 12 + p2).toNatClampNeg then vp_nar .boolean p3 else f2wishes j) ∧ ((r = 0 ∧ f2wishes (p1 * 12 + p2).toNatClampNeg = p3) ∨ (r = 1 ∧ ¬ f2wishes (p1 * 12 + p2).toNatClampNeg = p3)))) → Post r u) : wp_X7_wish p1 p2 p3 v2canons v2stalls f2wishes v7now Post := by
  delta wp_X7_wish
  repeat' first
    | (with_reducible refine And.intro ?_ ?_)
    | (with_reducible refine s_X2_hasCanon _ _ _ ?_)
    | (with_reducible refine s_X2_hasStall _ _ _ ?_)
    | (with_reducible refine s_X2_setWish _ _ _ _ _ ?_ ?_ ?_)
    | (with_reducible refine s_X7_isOver _ _ ?_)
    | (with_reducible intro _)
  all_goals (try dsimp only at *)
  all_goals grind [al, al_upd, fil20, fil400, vin10, vin12, vin13, vin20, vin56, vin130, vin140, vin143, vin200, vin240, vin400, vin8000, nar0, nar1]
theorem s_X7_takes (p1 : Int32) (p2 : Int32) (v2canons : Int32) (v2stalls : Int32) (f2there : Nat → Int32) (f2stallOf : Nat → Int32) (f2holder : Nat → Int32) (v7now : Int32) (Post : Int32 → (Nat → Int32) × (Nat → Int32) → Prop) (g0 : (0 ≤ v2canons ∧ v2canons < 21)) (g1 : (0 ≤ v2stalls ∧ v2stalls < 13)) (g2 : al f2stallOf (-1) 12) (h : ∀ r u, al u.1 (-1) 12 → Post r u) : wp_X7_takes p1 p2 v2canons v2stalls f2there f2stallOf f2holder v7now Post := by
  delta wp_X7_takes
  repeat' first
    | (with_reducible refine And.intro ?_ ?_)
    | (with_reducible refine s_X2_hasStall _ _ _ ?_)
    | (with_reducible refine s_X2_isThere _ _ _ _ ?_ ?_)
    | (with_reducible refine s_X2_sitDown _ _ _ _ _ ?_ ?_ ?_ ?_)
    | (with_reducible refine s_X7_isOver _ _ ?_)
    | (with_reducible intro _)
  all_goals (try dsimp only at *)
  all_goals grind [al, al_upd, fil20, fil400, vin10, vin12, vin13, vin20, vin56, vin130, vin140, vin143, vin200, vin240, vin400, vin8000, nar0, nar1]
theorem s_X7_leaves (p1 : Int32) (f1castAs : Nat → Int32) (f1givenTo : Nat → Int32) (v2canons : Int32) (v2present : Int32) (f2there : Nat → Int32) (f2stallOf : Nat → Int32) (f2worth : Nat → Int32) (f2holder : Nat → Int32) (f2wishes : Nat → Int32) (v2moves : Int32) (f2mover : Nat → Int32) (f2movedFrom : Nat → Int32) (f2movedTo : Nat → Int32) (v7now : Int32) (Post : Int32 → (Nat → Int32) × (Nat → Int32) × Int32 × (Nat → Int32) × (Nat → Int32) × (Nat → Int32) × Int32 × (Nat → Int32) × (Nat → Int32) × (Nat → Int32) → Prop) (g0 : (0 ≤ v2canons ∧ v2canons < 21)) (g1 : al f2stallOf (-1) 12) (g2 : (0 ≤ v2moves ∧ v2moves < 13)) (g3 : al f1givenTo (-1) 20) (h : ∀ r u, (al u.2.1 (-1) 20 ∧ al u.2.2.2.2.1 (-1) 12 ∧ 0 ≤ u.2.2.2.2.2.2.1 ∧ u.2.2.2.2.2.2.1 < 13) → Post r u) : wp_X7_leaves p1 f1castAs f1givenTo v2canons v2present f2there f2stallOf f2worth f2holder f2wishes v2moves f2mover f2movedFrom f2movedTo v7now Post := by
  delta wp_X7_leaves
  repeat' first
    | (with_reducible refine And.intro ?_ ?_)
    | (with_reducible refine s_X1_forget _ _ _ _ ?_ ?_ ?_)
    | (with_reducible refine s_X2_depart _ _ _ _ _ _ _ _ _ _ _ _ _ ?_ ?_ ?_ ?_)
    | (with_reducible refine s_X2_isThere _ _ _ _ ?_ ?_)
    | (with_reducible refine s_X7_isOver _ _ ?_)
    | (with_reducible intro _)
  all_goals (try dsimp only at *)
  all_goals grind [al, al_upd, fil20, fil400, vin10, vin12, vin13, vin20, vin56, vin130, vin140, vin143, vin200, vin240, vin400, vin8000]
theorem s_X7_moved (p1 : Int32) (p2 : Int32) (v2moves : Int32) (f2mover : Nat → Int32) (f2movedFrom : Nat → Int32) (f2movedTo : Nat → Int32) (Post : Int32 → Unit → Prop) (g0 : (0 ≤ v2moves ∧ v2moves < 13)) (h : ∀ r u, True → Post r u) : wp_X7_moved p1 p2 v2moves f2mover f2movedFrom f2movedTo Post := by
  delta wp_X7_moved
  repeat' first
    | (with_reducible refine And.intro ?_ ?_)
    | (with_reducible refine s_X2_tellMove _ _ _ _ _ _ _ ?_ ?_)
    | (with_reducible intro _)
  all_goals (try dsimp only at *)
  all_goals grind [al, al_upd, fil20, fil400, vin10, vin12, vin13, vin20, vin56, vin130, vin140, vin143, vin200, vin240, vin400, vin8000]
theorem s_X7_isHour (p0 : Int32) (Post : Int32 → Unit → Prop)  (h : ∀ r u, ((r = 0 ∧ (p0 < 0 ∨ 7 ≤ p0)) ∨ (r = 1 ∧ 0 ≤ p0 ∧ p0 < 7)) → Post r u) : wp_X7_isHour p0 Post := by
  delta wp_X7_isHour
  repeat' first
    | (with_reducible refine And.intro ?_ ?_)
    | (with_reducible intro _)
  all_goals (try dsimp only at *)
  all_goals grind [al, al_upd, fil20, fil400, vin10, vin12, vin13, vin20, vin56, vin130, vin140, vin143, vin200, vin240, vin400, vin8000]
theorem s_X7_mark (p1 : Int32) (p2 : Int32) (p3 : Int32) (p4 : Int32) (v2canons : Int32) (v3told : Int32) (f3newest : Nat → Int32) (f3older : Nat → Int32) (f3whose : Nat → Int32) (f3hourOf : Nat → Int32) (f3kind : Nat → Int32) (f3knownFrom : Nat → Int32) (v7now : Int32) (Post : Int32 → Int32 × (Nat → Int32) × (Nat → Int32) × (Nat → Int32) × (Nat → Int32) × (Nat → Int32) × (Nat → Int32) → Prop) (g0 : (0 ≤ v2canons ∧ v2canons < 21)) (g1 : (0 ≤ v3told ∧ v3told < 401)) (g2 : (0 ≤ v7now ∧ v7now < 401)) (g3 : al f3newest (-1) 400) (g4 : al f3older (-1) 400) (g5 : al f3whose 0 20) (g6 : al f3hourOf 0 7) (g7 : al f3kind 0 5) (h : ∀ r u, (al u.2.1 (-1) 400 ∧ al u.2.2.1 (-1) 400 ∧ al u.2.2.2.1 0 20 ∧ al u.2.2.2.2.1 0 7 ∧ al u.2.2.2.2.2.1 0 5 ∧ ((r = -1 ∧ u.1 = v3told ∧ (400 ≤ v7now ∨ p1 < 0 ∨ v2canons ≤ p1 ∨ p2 < 0 ∨ v7now < p2 ∨ p3 < 0 ∨ 7 ≤ p3 ∨ p4 < 0 ∨ 4 < p4 ∨ v3told = 400)) ∨ (r = v3told + 1 ∧ u.1 = v3told + 1 ∧ (v7now < 400 ∧ 0 ≤ p1 ∧ p1 < v2canons ∧ 0 ≤ p2 ∧ p2 ≤ v7now ∧ 0 ≤ p3 ∧ p3 < 7 ∧ 0 ≤ p4 ∧ p4 ≤ 4 ∧ v3told < 400)))) → Post r u) : wp_X7_mark p1 p2 p3 p4 v2canons v3told f3newest f3older f3whose f3hourOf f3kind f3knownFrom v7now Post := by
  delta wp_X7_mark
  repeat' first
    | (with_reducible refine And.intro ?_ ?_)
    | (with_reducible refine s_X2_hasCanon _ _ _ ?_)
    | (with_reducible refine s_X3_addMark _ _ _ _ _ _ _ _ _ _ _ _ _ ?_ ?_ ?_ ?_ ?_ ?_ ?_ ?_ ?_ ?_ ?_)
    | (with_reducible refine s_X7_isHour _ _ ?_)
    | (with_reducible refine s_X7_isOver _ _ ?_)
    | (with_reducible intro _)
  all_goals (try dsimp only at *)
  all_goals grind [al, al_upd, fil20, fil400, vin10, vin12, vin13, vin20, vin56, vin130, vin140, vin143, vin200, vin240, vin400, vin8000]
theorem s_X7_isDay (p0 : Int32) (Post : Int32 → Unit → Prop)  (h : ∀ r u, ((r = 0 ∧ (p0 < 0 ∨ 400 ≤ p0)) ∨ (r = 1 ∧ 0 ≤ p0 ∧ p0 < 400)) → Post r u) : wp_X7_isDay p0 Post := by
  delta wp_X7_isDay
  repeat' first
    | (with_reducible refine And.intro ?_ ?_)
    | (with_reducible intro _)
  all_goals (try dsimp only at *)
  all_goals grind [al, al_upd, fil20, fil400, vin10, vin12, vin13, vin20, vin56, vin130, vin140, vin143, vin200, vin240, vin400, vin8000]
theorem s_X7_box (p1 : Int32) (p2 : Int32) (f4coins : Nat → Int32) (v7now : Int32) (Post : Int32 → (Nat → Int32) → Prop) (g0 : (0 ≤ v7now ∧ v7now < 401)) (h : ∀ r u, ((r = 0 ∧ (∀ j, u j = f4coins j) ∧ (p1 < 0 ∨ 400 ≤ p1 ∨ p1 < v7now ∨ p2 < 0 ∨ 100000 < p2 ∨ ¬ f4coins p1.toNatClampNeg = -1)) ∨ (r = 1 ∧ 0 ≤ p1 ∧ p1 < 400 ∧ v7now ≤ p1 ∧ 0 ≤ p2 ∧ p2 ≤ 100000 ∧ f4coins p1.toNatClampNeg = -1 ∧ (∀ j, u j = if j = p1.toNatClampNeg then p2 else f4coins j))) → Post r u) : wp_X7_box p1 p2 f4coins v7now Post := by
  delta wp_X7_box
  repeat' first
    | (with_reducible refine And.intro ?_ ?_)
    | (with_reducible refine s_X4_fill _ _ _ _ ?_ ?_)
    | (with_reducible refine s_X7_isDay _ _ ?_)
    | (with_reducible intro _)
  all_goals (try dsimp only at *)
  all_goals grind [al, al_upd, fil20, fil400, vin10, vin12, vin13, vin20, vin56, vin130, vin140, vin143, vin200, vin240, vin400, vin8000, nar0, nar1]
theorem s_X7_night (v0made : Int32) (f0rules : Nat → Int32) (f0from : Nat → Int32) (f0knownFrom : Nat → Int32) (f0undoneFrom : Nat → Int32) (v2canons : Int32) (f2stallOf : Nat → Int32) (f2worth : Nat → Int32) (f3newest : Nat → Int32) (f3older : Nat → Int32) (f3whose : Nat → Int32) (f3hourOf : Nat → Int32) (f3kind : Nat → Int32) (f3knownFrom : Nat → Int32) (f3tally : Nat → Int32) (f3hoursSeen : Nat → Int32) (f4coins : Nat → Int32) (f4parts : Nat → Int32) (f4paidShares : Nat → Int32) (f4paidWorth : Nat → Int32) (v4fabric : Int32) (v7now : Int32) (Post : Int32 → (Nat → Int32) × (Nat → Int32) × (Nat → Int32) × (Nat → Int32) × (Nat → Int32) × Int32 × Int32 → Prop) (g0 : (0 ≤ v7now ∧ v7now < 401)) (g1 : (0 ≤ v2canons ∧ v2canons < 21)) (g2 : al f2stallOf (-1) 12) (g3 : (0 ≤ v0made ∧ v0made < 11)) (g4 : al f3newest (-1) 400) (g5 : al f3older (-1) 400) (g6 : al f3whose 0 20) (g7 : al f3hourOf 0 7) (g8 : al f3kind 0 5) (h : ∀ r u, ((r = -1 ∧ 400 ≤ v7now ∧ u.2.2.2.2.2.2 = v7now) ∨ (r = v7now + 1 ∧ v7now < 400 ∧ u.2.2.2.2.2.2 = v7now + 1)) → Post r u) : wp_X7_night v0made f0rules f0from f0knownFrom f0undoneFrom v2canons f2stallOf f2worth f3newest f3older f3whose f3hourOf f3kind f3knownFrom f3tally f3hoursSeen f4coins f4parts f4paidShares f4paidWorth v4fabric v7now Post := by
  delta wp_X7_night
  repeat' first
    | (with_reducible refine And.intro ?_ ?_)
    | (with_reducible refine s_X4_payShares _ _ _ _ _ _ _ _ _ _ _ _ _ _ _ _ _ _ _ ?_ ?_ ?_ ?_ ?_ ?_ ?_ ?_)
    | (with_reducible refine s_X4_payWorth _ _ _ _ _ ?_ ?_ ?_)
    | (with_reducible refine s_X7_isOver _ _ ?_)
    | (with_reducible intro _)
  all_goals (try dsimp only at *)
  all_goals grind [al, al_upd, fil20, fil400, vin10, vin12, vin13, vin20, vin56, vin130, vin140, vin143, vin200, vin240, vin400, vin8000]
theorem s_X7_isAsked (p1 : Int32) (p2 : Int32) (p3 : Int32) (v2canons : Int32) (Post : Int32 → Unit → Prop)  (h : ∀ r u, ((r = 0 ∧ (p1 < 0 ∨ v2canons ≤ p1 ∨ p2 < 0 ∨ 400 ≤ p2 ∨ p3 < 0 ∨ 400 ≤ p3)) ∨ (r = 1 ∧ 0 ≤ p1 ∧ p1 < v2canons ∧ 0 ≤ p2 ∧ p2 < 400 ∧ 0 ≤ p3 ∧ p3 < 400)) → Post r u) : wp_X7_isAsked p1 p2 p3 v2canons Post := by
  delta wp_X7_isAsked
  repeat' first
    | (with_reducible refine And.intro ?_ ?_)
    | (with_reducible refine s_X2_hasCanon _ _ _ ?_)
    | (with_reducible refine s_X7_isDay _ _ ?_)
    | (with_reducible intro _)
  all_goals (try dsimp only at *)
  all_goals grind [al, al_upd, fil20, fil400, vin10, vin12, vin13, vin20, vin56, vin130, vin140, vin143, vin200, vin240, vin400, vin8000]
theorem s_X7_marked (p1 : Int32) (p2 : Int32) (p3 : Int32) (p4 : Int32) (v2canons : Int32) (f3newest : Nat → Int32) (f3older : Nat → Int32) (f3whose : Nat → Int32) (f3hourOf : Nat → Int32) (f3kind : Nat → Int32) (f3knownFrom : Nat → Int32) (Post : Int32 → Unit → Prop) (g0 : (0 ≤ v2canons ∧ v2canons < 21)) (g1 : al f3newest (-1) 400) (g2 : al f3older (-1) 400) (h : ∀ r u, True → Post r u) : wp_X7_marked p1 p2 p3 p4 v2canons f3newest f3older f3whose f3hourOf f3kind f3knownFrom Post := by
  delta wp_X7_marked
  repeat' first
    | (with_reducible refine And.intro ?_ ?_)
    | (with_reducible refine s_X3_lastMark _ _ _ _ _ _ _ _ _ _ _ ?_ ?_ ?_ ?_)
    | (with_reducible refine s_X7_isAsked _ _ _ _ _ ?_)
    | (with_reducible refine s_X7_isHour _ _ ?_)
    | (with_reducible intro _)
  all_goals (try dsimp only at *)
  all_goals grind [al, al_upd, fil20, fil400, vin10, vin12, vin13, vin20, vin56, vin130, vin140, vin143, vin200, vin240, vin400, vin8000]
theorem s_X7_points (p1 : Int32) (p2 : Int32) (p3 : Int32) (v0made : Int32) (f0rules : Nat → Int32) (f0from : Nat → Int32) (f0knownFrom : Nat → Int32) (f0undoneFrom : Nat → Int32) (v2canons : Int32) (f3newest : Nat → Int32) (f3older : Nat → Int32) (f3whose : Nat → Int32) (f3hourOf : Nat → Int32) (f3kind : Nat → Int32) (f3knownFrom : Nat → Int32) (f3tally : Nat → Int32) (f3hoursSeen : Nat → Int32) (Post : Int32 → (Nat → Int32) × (Nat → Int32) → Prop) (g0 : (0 ≤ v2canons ∧ v2canons < 21)) (g1 : (0 ≤ v0made ∧ v0made < 11)) (g2 : al f3newest (-1) 400) (g3 : al f3older (-1) 400) (g4 : al f3whose 0 20) (g5 : al f3hourOf 0 7) (g6 : al f3kind 0 5) (h : ∀ r u, True → Post r u) : wp_X7_points p1 p2 p3 v0made f0rules f0from f0knownFrom f0undoneFrom v2canons f3newest f3older f3whose f3hourOf f3kind f3knownFrom f3tally f3hoursSeen Post := by
  delta wp_X7_points
  repeat' first
    | (with_reducible refine And.intro ?_ ?_)
    | (with_reducible refine s_X4_pointsOf _ _ _ _ _ _ _ _ _ _ _ _ _ _ _ _ _ ?_ ?_ ?_ ?_ ?_ ?_ ?_ ?_ ?_)
    | (with_reducible refine s_X7_isAsked _ _ _ _ _ ?_)
    | (with_reducible intro _)
  all_goals (try dsimp only at *)
  all_goals grind [al, al_upd, fil20, fil400, vin10, vin12, vin13, vin20, vin56, vin130, vin140, vin143, vin200, vin240, vin400, vin8000]
theorem s_X7_share (p1 : Int32) (p2 : Int32) (p3 : Int32) (v0made : Int32) (f0rules : Nat → Int32) (f0from : Nat → Int32) (f0knownFrom : Nat → Int32) (f0undoneFrom : Nat → Int32) (v2canons : Int32) (f3newest : Nat → Int32) (f3older : Nat → Int32) (f3whose : Nat → Int32) (f3hourOf : Nat → Int32) (f3kind : Nat → Int32) (f3knownFrom : Nat → Int32) (f3tally : Nat → Int32) (f3hoursSeen : Nat → Int32) (f4coins : Nat → Int32) (f4parts : Nat → Int32) (Post : Int32 → (Nat → Int32) × (Nat → Int32) × (Nat → Int32) → Prop) (g0 : (0 ≤ v2canons ∧ v2canons < 21)) (g1 : (0 ≤ v0made ∧ v0made < 11)) (g2 : al f3newest (-1) 400) (g3 : al f3older (-1) 400) (g4 : al f3whose 0 20) (g5 : al f3hourOf 0 7) (g6 : al f3kind 0 5) (h : ∀ r u, True → Post r u) : wp_X7_share p1 p2 p3 v0made f0rules f0from f0knownFrom f0undoneFrom v2canons f3newest f3older f3whose f3hourOf f3kind f3knownFrom f3tally f3hoursSeen f4coins f4parts Post := by
  delta wp_X7_share
  repeat' first
    | (with_reducible refine And.intro ?_ ?_)
    | (with_reducible refine s_X4_shareOf _ _ _ _ _ _ _ _ _ _ _ _ _ _ _ _ _ _ _ ?_ ?_ ?_ ?_ ?_ ?_ ?_ ?_ ?_)
    | (with_reducible refine s_X7_isAsked _ _ _ _ _ ?_)
    | (with_reducible intro _)
  all_goals (try dsimp only at *)
  all_goals grind [al, al_upd, fil20, fil400, vin10, vin12, vin13, vin20, vin56, vin130, vin140, vin143, vin200, vin240, vin400, vin8000]
theorem s_X7_paid (p1 : Int32) (p2 : Int32) (v0made : Int32) (f0rules : Nat → Int32) (f0from : Nat → Int32) (f0knownFrom : Nat → Int32) (f0undoneFrom : Nat → Int32) (v2canons : Int32) (f3newest : Nat → Int32) (f3older : Nat → Int32) (f3whose : Nat → Int32) (f3hourOf : Nat → Int32) (f3kind : Nat → Int32) (f3knownFrom : Nat → Int32) (f3tally : Nat → Int32) (f3hoursSeen : Nat → Int32) (f4coins : Nat → Int32) (f4parts : Nat → Int32) (v7now : Int32) (Post : Int32 → (Nat → Int32) × (Nat → Int32) × (Nat → Int32) → Prop) (g0 : (0 ≤ v2canons ∧ v2canons < 21)) (g1 : (0 ≤ v0made ∧ v0made < 11)) (g2 : (0 ≤ v7now ∧ v7now < 401)) (g3 : al f3newest (-1) 400) (g4 : al f3older (-1) 400) (g5 : al f3whose 0 20) (g6 : al f3hourOf 0 7) (g7 : al f3kind 0 5) (h : ∀ r u, True → Post r u) : wp_X7_paid p1 p2 v0made f0rules f0from f0knownFrom f0undoneFrom v2canons f3newest f3older f3whose f3hourOf f3kind f3knownFrom f3tally f3hoursSeen f4coins f4parts v7now Post := by
  delta wp_X7_paid
  repeat' first
    | (with_reducible refine And.intro ?_ ?_)
    | (with_reducible refine s_X2_hasCanon _ _ _ ?_)
    | (with_reducible refine s_X4_paidShareOf _ _ _ _ _ _ _ _ _ _ _ _ _ _ _ _ _ _ ?_ ?_ ?_ ?_ ?_ ?_ ?_ ?_ ?_)
    | (with_reducible refine s_X7_isDay _ _ ?_)
    | (with_reducible intro _)
  all_goals (try dsimp only at *)
  all_goals grind [al, al_upd, fil20, fil400, vin10, vin12, vin13, vin20, vin56, vin130, vin140, vin143, vin200, vin240, vin400, vin8000]
theorem s_X7_back (p1 : Int32) (v0made : Int32) (f0rules : Nat → Int32) (f0from : Nat → Int32) (f0knownFrom : Nat → Int32) (f0undoneFrom : Nat → Int32) (v2canons : Int32) (f3newest : Nat → Int32) (f3older : Nat → Int32) (f3whose : Nat → Int32) (f3hourOf : Nat → Int32) (f3kind : Nat → Int32) (f3knownFrom : Nat → Int32) (f3tally : Nat → Int32) (f3hoursSeen : Nat → Int32) (f4coins : Nat → Int32) (f4parts : Nat → Int32) (f4paidShares : Nat → Int32) (v7now : Int32) (Post : Int32 → (Nat → Int32) × (Nat → Int32) × (Nat → Int32) → Prop) (g0 : (0 ≤ v2canons ∧ v2canons < 21)) (g1 : (0 ≤ v0made ∧ v0made < 11)) (g2 : (0 ≤ v7now ∧ v7now < 401)) (g3 : al f3newest (-1) 400) (g4 : al f3older (-1) 400) (g5 : al f3whose 0 20) (g6 : al f3hourOf 0 7) (g7 : al f3kind 0 5) (h : ∀ r u, True → Post r u) : wp_X7_back p1 v0made f0rules f0from f0knownFrom f0undoneFrom v2canons f3newest f3older f3whose f3hourOf f3kind f3knownFrom f3tally f3hoursSeen f4coins f4parts f4paidShares v7now Post := by
  delta wp_X7_back
  repeat' first
    | (with_reducible refine And.intro ?_ ?_)
    | (with_reducible refine s_X2_hasCanon _ _ _ ?_)
    | (with_reducible refine s_X4_owedTo _ _ _ _ _ _ _ _ _ _ _ _ _ _ _ _ _ _ _ ?_ ?_ ?_ ?_ ?_ ?_ ?_ ?_ ?_)
    | (with_reducible intro _)
  all_goals (try dsimp only at *)
  all_goals grind [al, al_upd, fil20, fil400, vin10, vin12, vin13, vin20, vin56, vin130, vin140, vin143, vin200, vin240, vin400, vin8000]
theorem s_X7_feed (p1 : Int32) (p2 : Int32) (p3 : Int32) (p4 : Int32) (p5 : Int32) (v6length : Int32) (f6bytes : Nat → Int32) (Post : Int32 → Int32 × (Nat → Int32) → Prop) (g0 : (0 ≤ v6length ∧ v6length < 201)) (h : ∀ r u, (0 ≤ u.1 ∧ u.1 < 201) → Post r u) : wp_X7_feed p1 p2 p3 p4 p5 v6length f6bytes Post := by
  delta wp_X7_feed
  repeat' first
    | (with_reducible refine And.intro ?_ ?_)
    | (with_reducible refine s_X6_append _ _ _ _ ?_ ?_)
    | (with_reducible refine s_X6_hasRoom _ _ _ ?_)
    | (with_reducible intro _)
  all_goals (try dsimp only at *)
  all_goals grind [al, al_upd, fil20, fil400, vin10, vin12, vin13, vin20, vin56, vin130, vin140, vin143, vin200, vin240, vin400, vin8000]
theorem s_X7_end (p1 : Int32) (v6length : Int32) (Post : Int32 → Int32 → Prop) (g0 : (0 ≤ v6length ∧ v6length < 201)) (h : ∀ r u, (0 ≤ u ∧ u < 201) → Post r u) : wp_X7_end p1 v6length Post := by
  delta wp_X7_end
  repeat' first
    | (with_reducible refine And.intro ?_ ?_)
    | (with_reducible refine s_X6_cutTo _ _ _ ?_ ?_)
    | (with_reducible intro _)
  all_goals (try dsimp only at *)
  all_goals grind [al, al_upd, fil20, fil400, vin10, vin12, vin13, vin20, vin56, vin130, vin140, vin143, vin200, vin240, vin400, vin8000]
theorem s_X7_votes (p1 : Int32) (p2 : Int32) (v1isOpen : Int32) (f1castAs : Nat → Int32) (f1givenTo : Nat → Int32) (v2canons : Int32) (f2there : Nat → Int32) (v7now : Int32) (Post : Int32 → (Nat → Int32) × (Nat → Int32) → Prop) (g0 : (0 ≤ v2canons ∧ v2canons < 21)) (g1 : al f1givenTo (-1) 20) (h : ∀ r u, al u.2 (-1) 20 → Post r u) : wp_X7_votes p1 p2 v1isOpen f1castAs f1givenTo v2canons f2there v7now Post := by
  delta wp_X7_votes
  repeat' first
    | (with_reducible refine And.intro ?_ ?_)
    | (with_reducible refine s_X1_cast _ _ _ _ _ ?_ ?_ ?_)
    | (with_reducible refine s_X2_isThere _ _ _ _ ?_ ?_)
    | (with_reducible refine s_X7_isOver _ _ ?_)
    | (with_reducible intro _)
  all_goals (try dsimp only at *)
  all_goals grind [al, al_upd, fil20, fil400, vin10, vin12, vin13, vin20, vin56, vin130, vin140, vin143, vin200, vin240, vin400, vin8000]
theorem s_X7_inForceNow (p1 : Int32) (v0made : Int32) (f0rules : Nat → Int32) (f0from : Nat → Int32) (f0knownFrom : Nat → Int32) (f0undoneFrom : Nat → Int32) (v7now : Int32) (Post : Int32 → Unit → Prop) (g0 : (0 ≤ v0made ∧ v0made < 11)) (g1 : (0 ≤ p1 ∧ p1 < 13)) (h : ∀ r u, True → Post r u) : wp_X7_inForceNow p1 v0made f0rules f0from f0knownFrom f0undoneFrom v7now Post := by
  delta wp_X7_inForceNow
  repeat' first
    | (with_reducible refine And.intro ?_ ?_)
    | (with_reducible refine s_X0_inForce _ _ _ _ _ _ _ ?_ ?_)
    | (with_reducible refine s_X0_number _ _ _ _ ?_ ?_ ?_)
    | (with_reducible intro _)
  all_goals (try dsimp only at *)
  all_goals grind [al, al_upd, fil20, fil400, vin10, vin12, vin13, vin20, vin56, vin130, vin140, vin143, vin200, vin240, vin400, vin8000]
theorem s_X7_gives (p1 : Int32) (p2 : Int32) (v0made : Int32) (f0rules : Nat → Int32) (f0from : Nat → Int32) (f0knownFrom : Nat → Int32) (f0undoneFrom : Nat → Int32) (v1isOpen : Int32) (f1castAs : Nat → Int32) (f1givenTo : Nat → Int32) (v2canons : Int32) (f2there : Nat → Int32) (v7now : Int32) (Post : Int32 → (Nat → Int32) × (Nat → Int32) → Prop) (g0 : (0 ≤ v0made ∧ v0made < 11)) (g1 : (0 ≤ v2canons ∧ v2canons < 21)) (g2 : al f1givenTo (-1) 20) (h : ∀ r u, al u.2 (-1) 20 → Post r u) : wp_X7_gives p1 p2 v0made f0rules f0from f0knownFrom f0undoneFrom v1isOpen f1castAs f1givenTo v2canons f2there v7now Post := by
  delta wp_X7_gives
  repeat' first
    | (with_reducible refine And.intro ?_ ?_)
    | (with_reducible refine s_X1_handOver _ _ _ _ _ _ _ _ ?_ ?_ ?_)
    | (with_reducible refine s_X7_inForceNow _ _ _ _ _ _ _ _ ?_ ?_ ?_)
    | (with_reducible refine s_X7_isOver _ _ ?_)
    | (with_reducible intro _)
  all_goals (try dsimp only at *)
  all_goals grind [al, al_upd, fil20, fil400, vin10, vin12, vin13, vin20, vin56, vin130, vin140, vin143, vin200, vin240, vin400, vin8000, nar0, nar1]
theorem s_X7_close (p1 : Int32) (v0made : Int32) (f0rules : Nat → Int32) (f0from : Nat → Int32) (f0knownFrom : Nat → Int32) (f0undoneFrom : Nat → Int32) (v1isOpen : Int32) (f1castAs : Nat → Int32) (f1givenTo : Nat → Int32) (v1ayes : Int32) (v1noes : Int32) (v1silent : Int32) (v2canons : Int32) (v2present : Int32) (f2there : Nat → Int32) (f5draft : Nat → Int32) (v7now : Int32) (Post : Int32 → Int32 × (Nat → Int32) × (Nat → Int32) × (Nat → Int32) × Int32 × Int32 × Int32 × Int32 → Prop) (g0 : (0 ≤ v0made ∧ v0made < 11)) (g1 : (0 ≤ v2canons ∧ v2canons < 21)) (g2 : al f1givenTo (-1) 20) (h : ∀ r u, (0 ≤ u.1 ∧ u.1 < 11) → Post r u) : wp_X7_close p1 v0made f0rules f0from f0knownFrom f0undoneFrom v1isOpen f1castAs f1givenTo v1ayes v1noes v1silent v2canons v2present f2there f5draft v7now Post := by
  delta wp_X7_close
  repeat' first
    | (with_reducible refine And.intro ?_ ?_)
    | (with_reducible refine s_X0_make _ _ _ _ _ _ _ _ ?_ ?_)
    | (with_reducible refine s_X1_finish _ _ _ _ _ _ _ _ _ _ _ ?_ ?_ ?_)
    | (with_reducible refine s_X7_inForceNow _ _ _ _ _ _ _ _ ?_ ?_ ?_)
    | (with_reducible refine s_X7_isDay _ _ ?_)
    | (with_reducible refine s_X7_isOver _ _ ?_)
    | (with_reducible intro _)
  all_goals (try dsimp only at *)
  all_goals grind [al, al_upd, fil20, fil400, vin10, vin12, vin13, vin20, vin56, vin130, vin140, vin143, vin200, vin240, vin400, vin8000]
theorem s_X7_undo (p1 : Int32) (v0made : Int32) (f0undoneFrom : Nat → Int32) (v7now : Int32) (Post : Int32 → (Nat → Int32) → Prop) (g0 : (0 ≤ v0made ∧ v0made < 11)) (h : ∀ r u, True → Post r u) : wp_X7_undo p1 v0made f0undoneFrom v7now Post := by
  delta wp_X7_undo
  repeat' first
    | (with_reducible refine And.intro ?_ ?_)
    | (with_reducible refine s_X0_strike _ _ _ _ _ ?_ ?_)
    | (with_reducible refine s_X7_isOver _ _ ?_)
    | (with_reducible intro _)
  all_goals (try dsimp only at *)
  all_goals grind [al, al_upd, fil20, fil400, vin10, vin12, vin13, vin20, vin56, vin130, vin140, vin143, vin200, vin240, vin400, vin8000, nar0, nar1]
theorem s_X7_holds (p1 : Int32) (p2 : Int32) (p3 : Int32) (v0made : Int32) (f0rules : Nat → Int32) (f0from : Nat → Int32) (f0knownFrom : Nat → Int32) (f0undoneFrom : Nat → Int32) (Post : Int32 → Unit → Prop) (g0 : (0 ≤ v0made ∧ v0made < 11)) (h : ∀ r u, True → Post r u) : wp_X7_holds p1 p2 p3 v0made f0rules f0from f0knownFrom f0undoneFrom Post := by
  delta wp_X7_holds
  repeat' first
    | (with_reducible refine And.intro ?_ ?_)
    | (with_reducible refine s_X0_inForce _ _ _ _ _ _ _ ?_ ?_)
    | (with_reducible refine s_X0_number _ _ _ _ ?_ ?_ ?_)
    | (with_reducible refine s_X7_isDay _ _ ?_)
    | (with_reducible intro _)
  all_goals (try dsimp only at *)
  all_goals grind [al, al_upd, fil20, fil400, vin10, vin12, vin13, vin20, vin56, vin130, vin140, vin143, vin200, vin240, vin400, vin8000]
theorem s_X7_vote (p1 : Int32) (v1isOpen : Int32) (v1wasAny : Int32) (f1castAs : Nat → Int32) (f1givenTo : Nat → Int32) (v1ayes : Int32) (v1noes : Int32) (v1silent : Int32) (v2canons : Int32) (f2there : Nat → Int32) (Post : Int32 → Int32 × Int32 × Int32 → Prop) (g0 : (0 ≤ v2canons ∧ v2canons < 21)) (g1 : al f1givenTo (-1) 20) (h : ∀ r u, True → Post r u) : wp_X7_vote p1 v1isOpen v1wasAny f1castAs f1givenTo v1ayes v1noes v1silent v2canons f2there Post := by
  delta wp_X7_vote
  repeat' first
    | (with_reducible refine And.intro ?_ ?_)
    | (with_reducible refine s_X1_tell _ _ _ _ _ _ _ _ _ _ _ ?_ ?_ ?_)
    | (with_reducible intro _)
  all_goals (try dsimp only at *)
  all_goals grind [al, al_upd, fil20, fil400, vin10, vin12, vin13, vin20, vin56, vin130, vin140, vin143, vin200, vin240, vin400, vin8000]
theorem s_X7_about (p1 : Int32) (p2 : Int32) (v2canons : Int32) (f2there : Nat → Int32) (f2stallOf : Nat → Int32) (f4paidShares : Nat → Int32) (f4paidWorth : Nat → Int32) (Post : Int32 → Unit → Prop) (g0 : (0 ≤ v2canons ∧ v2canons < 21)) (h : ∀ r u, True → Post r u) : wp_X7_about p1 p2 v2canons f2there f2stallOf f4paidShares f4paidWorth Post := by
  delta wp_X7_about
  repeat' first
    | (with_reducible refine And.intro ?_ ?_)
    | (with_reducible refine s_X2_hasCanon _ _ _ ?_)
    | (with_reducible refine s_X2_isThere _ _ _ _ ?_ ?_)
    | (with_reducible intro _)
  all_goals (try dsimp only at *)
  all_goals grind [al, al_upd, fil20, fil400, vin10, vin12, vin13, vin20, vin56, vin130, vin140, vin143, vin200, vin240, vin400, vin8000]
theorem s_X7_count (p1 : Int32) (v0made : Int32) (v2canons : Int32) (v2present : Int32) (v2stalls : Int32) (f2holder : Nat → Int32) (v3told : Int32) (v4fabric : Int32) (v6length : Int32) (v7now : Int32) (Post : Int32 → Unit → Prop) (g0 : (0 ≤ v2stalls ∧ v2stalls < 13)) (h : ∀ r u, True → Post r u) : wp_X7_count p1 v0made v2canons v2present v2stalls f2holder v3told v4fabric v6length v7now Post := by
  delta wp_X7_count
  repeat' first
    | (with_reducible refine And.intro ?_ ?_)
    | (with_reducible refine s_X2_holderOf _ _ _ _ ?_ ?_)
    | (with_reducible intro _)
  all_goals (try dsimp only at *)
  all_goals grind [al, al_upd, fil20, fil400, vin10, vin12, vin13, vin20, vin56, vin130, vin140, vin143, vin200, vin240, vin400, vin8000]
theorem s_X7_open (v0made : Int32) (v1isOpen : Int32) (v1wasAny : Int32) (f1castAs : Nat → Int32) (f1givenTo : Nat → Int32) (f5draft : Nat → Int32) (v5place : Int32) (v5slotsTold : Int32) (v5fault : Int32) (v6length : Int32) (f6bytes : Nat → Int32) (v7now : Int32) (Post : Int32 → Int32 × Int32 × (Nat → Int32) × (Nat → Int32) × (Nat → Int32) × Int32 × Int32 × Int32 × Int32 → Prop) (g0 : (0 ≤ v0made ∧ v0made < 11)) (g1 : (0 ≤ v6length ∧ v6length < 201)) (g2 : al f1givenTo (-1) 20) (h : ∀ r u, (al u.2.2.2.1 (-1) 20 ∧ 0 ≤ u.2.2.2.2.2.2.2.2 ∧ u.2.2.2.2.2.2.2.2 < 201) → Post r u) : wp_X7_open v0made v1isOpen v1wasAny f1castAs f1givenTo f5draft v5place v5slotsTold v5fault v6length f6bytes v7now Post := by
  delta wp_X7_open
  repeat' first
    | (with_reducible refine And.intro ?_ ?_)
    | (with_reducible refine s_X1_begin _ _ _ _ _ ?_ ?_)
    | (with_reducible refine s_X5_read _ _ _ _ _ _ _ ?_ ?_)
    | (with_reducible refine s_X6_cutTo _ _ _ ?_ ?_)
    | (with_reducible refine s_X7_isOver _ _ ?_)
    | (with_reducible intro _)
  all_goals (try dsimp only at *)
  all_goals grind [al, al_upd, fil20, fil400, vin10, vin12, vin13, vin20, vin56, vin130, vin140, vin143, vin200, vin240, vin400, vin8000]
