theorem s_J7_fill_53178 (p1 : Int32) (nA : Nat) (fa : Nat → Int32) (Post : (Nat → Int32) → Prop) (g0 : nA < 2147483648) (g1 : 0 ≤ nI nA) (h : ∀ u, (∀ j, u j = p1 ∨ u j = fa j) → Post u) : wp_J7_fill_53178 p1 nA fa Post := by
  delta wp_J7_fill_53178
  intro x2 e2
  have L : ∀ (n : Nat) (y2 : Int32) (fb : Nat → Int32), (0 ≤ y2 ∧ y2 ≤ x2) → (∀ j, fb j = p1 ∨ fb j = fa j) → tn (x2 - y2) < n → lp_J7_fill_53178_5 p1 x2 nA Post (fun (x3 : Int32) (g4 : Nat → Int32) => (Post g4)) n y2 fb := by
    intro n
    induction n with
    | zero => intro y2 fb _ _ hm; exact absurd hm (Nat.not_lt_zero _)
    | succ n ih =>
      intro y2 fb h1 h2 hm
      rw [lp_J7_fill_53178_5]
      refine ⟨fun _ => h _ h2, fun c => ⟨vinA g0 h1.1 (by grind), fun x1 e1 => ih _ _ ?_ ?_ (mz ?_ ?_ hm)⟩⟩
      all_goals grind [upd]
  exact ⟨_, L _ 0 fa (by grind) (fun j => Or.inr rfl) (Nat.lt_succ_self _)⟩
theorem s_X6_hasRoom (p1 : Int32) (v6length : Int32) (Post : Int32 → Unit → Prop)  (h : ∀ r u, (r = 0 ∨ (r = 1 ∧ v6length + p1 ≤ 200)) → Post r u) : wp_X6_hasRoom p1 v6length Post := by
  delta wp_X6_hasRoom
  repeat' first
    | (with_reducible refine And.intro ?_ ?_)
    | (with_reducible intro _)
  all_goals (try dsimp only at *)
  all_goals grind [al, al_upd, fil20, fil400, vin10, vin12, vin13, vin20, vin56, vin130, vin140, vin143, vin200, vin240, vin400, vin8000]
theorem s_X6_append (p1 : Int32) (v6length : Int32) (f6bytes : Nat → Int32) (Post : Int32 × (Nat → Int32) → Prop) (g0 : (0 ≤ v6length ∧ v6length < 201)) (h : ∀ u, (0 ≤ u.1 ∧ u.1 < 201) → Post u) : wp_X6_append p1 v6length f6bytes Post := by
  delta wp_X6_append
  repeat' first
    | (with_reducible refine And.intro ?_ ?_)
    | (with_reducible refine s_X6_hasRoom _ _ _ ?_)
    | (with_reducible intro _)
  all_goals (try dsimp only at *)
  all_goals grind [al, al_upd, fil20, fil400, vin10, vin12, vin13, vin20, vin56, vin130, vin140, vin143, vin200, vin240, vin400, vin8000]
theorem s_X6_cutTo (p1 : Int32) (v6length : Int32) (Post : Int32 → Int32 → Prop) (g0 : (0 ≤ v6length ∧ v6length < 201)) (h : ∀ r u, (0 ≤ u ∧ u < 201) → Post r u) : wp_X6_cutTo p1 v6length Post := by
  delta wp_X6_cutTo
  repeat' first
    | (with_reducible refine And.intro ?_ ?_)
    | (with_reducible intro _)
  all_goals (try dsimp only at *)
  all_goals grind [al, al_upd, fil20, fil400, vin10, vin12, vin13, vin20, vin56, vin130, vin140, vin143, vin200, vin240, vin400, vin8000]
theorem s_X6_at (p1 : Int32) (v6length : Int32) (f6bytes : Nat → Int32) (Post : Int32 → Unit → Prop) (g0 : (0 ≤ v6length ∧ v6length < 201)) (h : ∀ r u, r = atv p1 v6length f6bytes → Post r u) : wp_X6_at p1 v6length f6bytes Post := by
  delta wp_X6_at
  repeat' first
    | (with_reducible refine And.intro ?_ ?_)
    | (with_reducible intro _)
  all_goals (try dsimp only at *)
  all_goals grind [al, al_upd, fil20, fil400, vin10, vin12, vin13, vin20, vin56, vin130, vin140, vin143, vin200, vin240, vin400, vin8000, atv]
theorem s_X2_hasCanon (p1 : Int32) (v2canons : Int32) (Post : Int32 → Unit → Prop)  (h : ∀ r u, ((r = 0 ∧ (p1 < 0 ∨ v2canons ≤ p1)) ∨ (r = 1 ∧ 0 ≤ p1 ∧ p1 < v2canons)) → Post r u) : wp_X2_hasCanon p1 v2canons Post := by
  delta wp_X2_hasCanon
  repeat' first
    | (with_reducible refine And.intro ?_ ?_)
    | (with_reducible intro _)
  all_goals (try dsimp only at *)
  all_goals grind [al, al_upd, fil20, fil400, vin10, vin12, vin13, vin20, vin56, vin130, vin140, vin143, vin200, vin240, vin400, vin8000]
theorem s_X2_isThere (p1 : Int32) (v2canons : Int32) (f2there : Nat → Int32) (Post : Int32 → Unit → Prop) (g0 : (0 ≤ v2canons ∧ v2canons < 21)) (h : ∀ r u, ((r = 0 ∧ (p1 < 0 ∨ v2canons ≤ p1 ∨ f2there p1.toNatClampNeg = 0)) ∨ (r = 1 ∧ 0 ≤ p1 ∧ p1 < v2canons ∧ ¬ f2there p1.toNatClampNeg = 0)) → Post r u) : wp_X2_isThere p1 v2canons f2there Post := by
  delta wp_X2_isThere
  repeat' first
    | (with_reducible refine And.intro ?_ ?_)
    | (with_reducible refine s_X2_hasCanon _ _ _ ?_)
    | (with_reducible intro _)
  all_goals (try dsimp only at *)
  all_goals grind [al, al_upd, fil20, fil400, vin10, vin12, vin13, vin20, vin56, vin130, vin140, vin143, vin200, vin240, vin400, vin8000]
theorem s_X2_hasStall (p1 : Int32) (v2stalls : Int32) (Post : Int32 → Unit → Prop)  (h : ∀ r u, ((r = 0 ∧ (p1 < 0 ∨ v2stalls ≤ p1)) ∨ (r = 1 ∧ 0 ≤ p1 ∧ p1 < v2stalls)) → Post r u) : wp_X2_hasStall p1 v2stalls Post := by
  delta wp_X2_hasStall
  repeat' first
    | (with_reducible refine And.intro ?_ ?_)
    | (with_reducible intro _)
  all_goals (try dsimp only at *)
  all_goals grind [al, al_upd, fil20, fil400, vin10, vin12, vin13, vin20, vin56, vin130, vin140, vin143, vin200, vin240, vin400, vin8000]
theorem s_X2_holderOf (p1 : Int32) (v2stalls : Int32) (f2holder : Nat → Int32) (Post : Int32 → Unit → Prop) (g0 : (0 ≤ v2stalls ∧ v2stalls < 13)) (h : ∀ r u, True → Post r u) : wp_X2_holderOf p1 v2stalls f2holder Post := by
  delta wp_X2_holderOf
  repeat' first
    | (with_reducible refine And.intro ?_ ?_)
    | (with_reducible refine s_X2_hasStall _ _ _ ?_)
    | (with_reducible intro _)
  all_goals (try dsimp only at *)
  all_goals grind [al, al_upd, fil20, fil400, vin10, vin12, vin13, vin20, vin56, vin130, vin140, vin143, vin200, vin240, vin400, vin8000]
theorem s_X2_worthOf (p1 : Int32) (f2stallOf : Nat → Int32) (f2worth : Nat → Int32) (Post : Int32 → Unit → Prop) (g0 : (0 ≤ p1 ∧ p1 < 20)) (g1 : al f2stallOf (-1) 12) (h : ∀ r u, True → Post r u) : wp_X2_worthOf p1 f2stallOf f2worth Post := by
  delta wp_X2_worthOf
  repeat' first
    | (with_reducible refine And.intro ?_ ?_)
    | (with_reducible intro _)
  all_goals (try dsimp only at *)
  all_goals grind [al, al_upd, fil20, fil400, vin10, vin12, vin13, vin20, vin56, vin130, vin140, vin143, vin200, vin240, vin400, vin8000]
theorem s_X2_gainsBy (p1 : Int32) (p2 : Int32) (f2stallOf : Nat → Int32) (f2worth : Nat → Int32) (Post : Int32 → Unit → Prop) (g0 : (0 ≤ p1 ∧ p1 < 20)) (g1 : (0 ≤ p2 ∧ p2 < 12)) (g2 : al f2stallOf (-1) 12) (h : ∀ r u, True → Post r u) : wp_X2_gainsBy p1 p2 f2stallOf f2worth Post := by
  delta wp_X2_gainsBy
  repeat' first
    | (with_reducible refine And.intro ?_ ?_)
    | (with_reducible refine s_X2_worthOf _ _ _ _ ?_ ?_ ?_)
    | (with_reducible intro _)
  all_goals (try dsimp only at *)
  all_goals grind [al, al_upd, fil20, fil400, vin10, vin12, vin13, vin20, vin56, vin130, vin140, vin143, vin200, vin240, vin400, vin8000]
theorem l_X2_firstOptant_2  (k1 : Int32) (v2canons : Int32) (f2there : Nat → Int32) (f2stallOf : Nat → Int32) (f2worth : Nat → Int32) (f2wishes : Nat → Int32) (Post : Int32 → Unit → Prop) (K : Int32 → Prop) (g0 : (0 ≤ k1 ∧ k1 < 12)) (g1 : (0 ≤ v2canons ∧ v2canons < 21)) (g2 : al f2stallOf (-1) 12) (h : ∀ r u, (-1 ≤ r ∧ r < v2canons) → Post r u) (hK : ∀ (y2 : Int32), (0 ≤ y2 ∧ y2 ≤ v2canons) → K y2) : ∀ (n : Nat) (y2 : Int32), (0 ≤ y2 ∧ y2 ≤ v2canons) → tn (v2canons - y2) < n → lp_X2_firstOptant_2 k1 v2canons f2there f2stallOf f2worth f2wishes Post K n y2 := by
  intro n
  induction n with
  | zero => intro y2 _ hm; exact absurd hm (Nat.not_lt_zero _)
  | succ n ih =>
    intro y2 hI hm
    rw [lp_X2_firstOptant_2]
    repeat' first
      | (with_reducible refine And.intro ?_ ?_)
      | (with_reducible refine s_X2_gainsBy _ _ _ _ _ ?_ ?_ ?_ ?_)
      | (with_reducible refine ih _ ?_ (mz ?_ ?_ hm))
      | (with_reducible intro _)
    all_goals (try dsimp only at *)
    all_goals grind [al, al_upd, fil20, fil400, vin10, vin12, vin13, vin20, vin56, vin130, vin140, vin143, vin200, vin240, vin400, vin8000]
theorem s_X2_firstOptant (p1 : Int32) (v2canons : Int32) (f2there : Nat → Int32) (f2stallOf : Nat → Int32) (f2worth : Nat → Int32) (f2wishes : Nat → Int32) (Post : Int32 → Unit → Prop) (g0 : (0 ≤ p1 ∧ p1 < 12)) (g1 : (0 ≤ v2canons ∧ v2canons < 21)) (g2 : al f2stallOf (-1) 12) (h : ∀ r u, (-1 ≤ r ∧ r < v2canons) → Post r u) : wp_X2_firstOptant p1 v2canons f2there f2stallOf f2worth f2wishes Post := by
  delta wp_X2_firstOptant
  repeat' first
    | (with_reducible refine And.intro ?_ ?_)
    | (with_reducible refine ⟨_, l_X2_firstOptant_2 _ _ _ _ _ _ _ _ ?_ ?_ ?_ ?_ ?_ _ _ ?_ (Nat.lt_succ_self _)⟩)
    | (with_reducible intro _)
  all_goals (try dsimp only at *)
  all_goals grind [al, al_upd, fil20, fil400, vin10, vin12, vin13, vin20, vin56, vin130, vin140, vin143, vin200, vin240, vin400, vin8000]
theorem s_X2_moveTo (p1 : Int32) (p2 : Int32) (f2stallOf : Nat → Int32) (f2holder : Nat → Int32) (v2moves : Int32) (f2mover : Nat → Int32) (f2movedFrom : Nat → Int32) (f2movedTo : Nat → Int32) (Post : Int32 → (Nat → Int32) × (Nat → Int32) × Int32 × (Nat → Int32) × (Nat → Int32) × (Nat → Int32) → Prop) (g0 : (0 ≤ p1 ∧ p1 < 20)) (g1 : (0 ≤ p2 ∧ p2 < 12)) (g2 : (0 ≤ v2moves ∧ v2moves < 12)) (g3 : al f2stallOf (-1) 12) (h : ∀ r u, (al u.1 (-1) 12 ∧ u.2.2.1 = v2moves + 1 ∧ -1 ≤ r ∧ r < 12) → Post r u) : wp_X2_moveTo p1 p2 f2stallOf f2holder v2moves f2mover f2movedFrom f2movedTo Post := by
  delta wp_X2_moveTo
  repeat' first
    | (with_reducible refine And.intro ?_ ?_)
    | (with_reducible intro _)
  all_goals (try dsimp only at *)
  all_goals grind [al, al_upd, fil20, fil400, vin10, vin12, vin13, vin20, vin56, vin130, vin140, vin143, vin200, vin240, vin400, vin8000]
theorem l_X2_fall_9  (k1 : Int32) (v2canons : Int32) (f2there : Nat → Int32) (f2worth : Nat → Int32) (f2wishes : Nat → Int32) (Post : (Nat → Int32) × (Nat → Int32) × Int32 × (Nat → Int32) × (Nat → Int32) × (Nat → Int32) → Prop) (K : Int32 → Int32 → (Nat → Int32) → (Nat → Int32) → Int32 → (Nat → Int32) → (Nat → Int32) → (Nat → Int32) → Prop) (g0 : (0 ≤ v2canons ∧ v2canons < 21)) (hK : ∀ (y2 : Int32) (y3 : Int32) (f2stallOf : Nat → Int32) (f2holder : Nat → Int32) (v2moves : Int32) (f2mover : Nat → Int32) (f2movedFrom : Nat → Int32) (f2movedTo : Nat → Int32), (0 ≤ y3 ∧ y3 ≤ 12 ∧ -1 ≤ y2 ∧ y2 < 12 ∧ al f2stallOf (-1) 12 ∧ 0 ≤ v2moves ∧ v2moves ≤ y3) → K y2 y3 f2stallOf f2holder v2moves f2mover f2movedFrom f2movedTo) : ∀ (n : Nat) (y2 : Int32) (y3 : Int32) (f2stallOf : Nat → Int32) (f2holder : Nat → Int32) (v2moves : Int32) (f2mover : Nat → Int32) (f2movedFrom : Nat → Int32) (f2movedTo : Nat → Int32), (0 ≤ y3 ∧ y3 ≤ 12 ∧ -1 ≤ y2 ∧ y2 < 12 ∧ al f2stallOf (-1) 12 ∧ 0 ≤ v2moves ∧ v2moves ≤ y3) → tn (12 - y3) < n → lp_X2_fall_9 k1 v2canons f2there f2worth f2wishes Post K n y2 y3 f2stallOf f2holder v2moves f2mover f2movedFrom f2movedTo := by
  intro n
  induction n with
  | zero => intro y2 y3 f2stallOf f2holder v2moves f2mover f2movedFrom f2movedTo _ hm; exact absurd hm (Nat.not_lt_zero _)
  | succ n ih =>
    intro y2 y3 f2stallOf f2holder v2moves f2mover f2movedFrom f2movedTo hI hm
    rw [lp_X2_fall_9]
    repeat' first
      | (with_reducible refine And.intro ?_ ?_)
      | (with_reducible refine s_X2_firstOptant _ _ _ _ _ _ _ ?_ ?_ ?_ ?_)
      | (with_reducible refine s_X2_moveTo _ _ _ _ _ _ _ _ _ ?_ ?_ ?_ ?_ ?_)
      | (with_reducible refine ih _ _ _ _ _ _ _ _ ?_ (mz ?_ ?_ hm))
      | (with_reducible intro _)
    all_goals (try dsimp only at *)
    all_goals grind [al, al_upd, fil20, fil400, vin10, vin12, vin13, vin20, vin56, vin130, vin140, vin143, vin200, vin240, vin400, vin8000]
theorem s_X2_fall (p1 : Int32) (v2canons : Int32) (f2there : Nat → Int32) (f2stallOf : Nat → Int32) (f2worth : Nat → Int32) (f2holder : Nat → Int32) (f2wishes : Nat → Int32) (v2moves : Int32) (f2mover : Nat → Int32) (f2movedFrom : Nat → Int32) (f2movedTo : Nat → Int32) (Post : (Nat → Int32) × (Nat → Int32) × Int32 × (Nat → Int32) × (Nat → Int32) × (Nat → Int32) → Prop) (g0 : (-1 ≤ p1 ∧ p1 < 12)) (g1 : (0 ≤ v2canons ∧ v2canons < 21)) (g2 : al f2stallOf (-1) 12) (h : ∀ u, (al u.1 (-1) 12 ∧ 0 ≤ u.2.2.1 ∧ u.2.2.1 < 13) → Post u) : wp_X2_fall p1 v2canons f2there f2stallOf f2worth f2holder f2wishes v2moves f2mover f2movedFrom f2movedTo Post := by
  delta wp_X2_fall
  repeat' first
    | (with_reducible refine And.intro ?_ ?_)
    | (with_reducible refine ⟨_, l_X2_fall_9 _ _ _ _ _ _ _ ?_ ?_ _ _ _ _ _ _ _ _ _ ?_ (Nat.lt_succ_self _)⟩)
    | (with_reducible intro _)
  all_goals (try dsimp only at *)
  all_goals grind [al, al_upd, fil20, fil400, vin10, vin12, vin13, vin20, vin56, vin130, vin140, vin143, vin200, vin240, vin400, vin8000]
theorem s_X2_addStall (p1 : Int32) (v2canons : Int32) (v2stalls : Int32) (f2there : Nat → Int32) (f2stallOf : Nat → Int32) (f2worth : Nat → Int32) (f2holder : Nat → Int32) (f2wishes : Nat → Int32) (v2moves : Int32) (f2mover : Nat → Int32) (f2movedFrom : Nat → Int32) (f2movedTo : Nat → Int32) (Post : Int32 → Int32 × (Nat → Int32) × (Nat → Int32) × (Nat → Int32) × Int32 × (Nat → Int32) × (Nat → Int32) × (Nat → Int32) → Prop) (g0 : (0 ≤ v2canons ∧ v2canons < 21)) (g1 : (0 ≤ v2stalls ∧ v2stalls < 13)) (g2 : al f2stallOf (-1) 12) (g3 : (0 ≤ v2moves ∧ v2moves < 13)) (h : ∀ r u, (al u.2.1 (-1) 12 ∧ 0 ≤ u.2.2.2.2.1 ∧ u.2.2.2.2.1 < 13 ∧ ((r = -1 ∧ v2stalls = 12 ∧ u.1 = v2stalls) ∨ (r = v2stalls ∧ v2stalls < 12 ∧ u.1 = v2stalls + 1))) → Post r u) : wp_X2_addStall p1 v2canons v2stalls f2there f2stallOf f2worth f2holder f2wishes v2moves f2mover f2movedFrom f2movedTo Post := by
  delta wp_X2_addStall
  repeat' first
    | (with_reducible refine And.intro ?_ ?_)
    | (with_reducible refine s_X2_fall _ _ _ _ _ _ _ _ _ _ _ _ ?_ ?_ ?_ ?_)
    | (with_reducible intro _)
  all_goals (try dsimp only at *)
  all_goals grind [al, al_upd, fil20, fil400, vin10, vin12, vin13, vin20, vin56, vin130, vin140, vin143, vin200, vin240, vin400, vin8000]
theorem s_X2_addCanon (v2canons : Int32) (v2present : Int32) (f2there : Nat → Int32) (f2stallOf : Nat → Int32) (Post : Int32 → Int32 × Int32 × (Nat → Int32) × (Nat → Int32) → Prop) (g0 : (0 ≤ v2canons ∧ v2canons < 21)) (g1 : al f2stallOf (-1) 12) (h : ∀ r u, (al u.2.2.2 (-1) 12 ∧ ((r = -1 ∧ v2canons = 20 ∧ u.1 = v2canons) ∨ (r = v2canons ∧ v2canons < 20 ∧ u.1 = v2canons + 1))) → Post r u) : wp_X2_addCanon v2canons v2present f2there f2stallOf Post := by
  delta wp_X2_addCanon
  repeat' first
    | (with_reducible refine And.intro ?_ ?_)
    | (with_reducible intro _)
  all_goals (try dsimp only at *)
  all_goals grind [al, al_upd, fil20, fil400, vin10, vin12, vin13, vin20, vin56, vin130, vin140, vin143, vin200, vin240, vin400, vin8000]
theorem s_X2_setWish (p1 : Int32) (p2 : Int32) (p3 : Int32) (f2wishes : Nat → Int32) (Post : Int32 → (Nat → Int32) → Prop) (g0 : (0 ≤ p1 ∧ p1 < 20)) (g1 : (0 ≤ p2 ∧ p2 < 12)) (h : ∀ r u, ((∀ j, u j = if j = (p1 * 12 + p2).toNatClampNeg then vp_nar .boolean p3 else f2wishes j) ∧ ((r = 0 ∧ f2wishes (p1 * 12 + p2).toNatClampNeg = p3) ∨ (r = 1 ∧ ¬ f2wishes (p1 * 12 + p2).toNatClampNeg = p3))) → Post r u) : wp_X2_setWish p1 p2 p3 f2wishes Post := by
  delta wp_X2_setWish
  repeat' first
    | (with_reducible refine And.intro ?_ ?_)
    | (with_reducible intro _)
  all_goals (try dsimp only at *)
  all_goals grind [al, al_upd, fil20, fil400, vin10, vin12, vin13, vin20, vin56, vin130, vin140, vin143, vin200, vin240, vin400, vin8000, upd]
theorem s_X2_sitDown (p1 : Int32) (p2 : Int32) (f2stallOf : Nat → Int32) (f2holder : Nat → Int32) (Post : Int32 → (Nat → Int32) × (Nat → Int32) → Prop) (g0 : (0 ≤ p1 ∧ p1 < 20)) (g1 : (0 ≤ p2 ∧ p2 < 12)) (g2 : al f2stallOf (-1) 12) (h : ∀ r u, (al u.1 (-1) 12 ∧ (r = 0 ∨ r = 1)) → Post r u) : wp_X2_sitDown p1 p2 f2stallOf f2holder Post := by
  delta wp_X2_sitDown
  repeat' first
    | (with_reducible refine And.intro ?_ ?_)
    | (with_reducible intro _)
  all_goals (try dsimp only at *)
  all_goals grind [al, al_upd, fil20, fil400, vin10, vin12, vin13, vin20, vin56, vin130, vin140, vin143, vin200, vin240, vin400, vin8000]
theorem s_X2_depart (p1 : Int32) (v2canons : Int32) (v2present : Int32) (f2there : Nat → Int32) (f2stallOf : Nat → Int32) (f2worth : Nat → Int32) (f2holder : Nat → Int32) (f2wishes : Nat → Int32) (v2moves : Int32) (f2mover : Nat → Int32) (f2movedFrom : Nat → Int32) (f2movedTo : Nat → Int32) (Post : Int32 → Int32 × (Nat → Int32) × (Nat → Int32) × (Nat → Int32) × Int32 × (Nat → Int32) × (Nat → Int32) × (Nat → Int32) → Prop) (g0 : (0 ≤ p1 ∧ p1 < 20)) (g1 : (0 ≤ v2canons ∧ v2canons < 21)) (g2 : al f2stallOf (-1) 12) (h : ∀ r u, (al u.2.2.1 (-1) 12 ∧ 0 ≤ u.2.2.2.2.1 ∧ u.2.2.2.2.1 < 13) → Post r u) : wp_X2_depart p1 v2canons v2present f2there f2stallOf f2worth f2holder f2wishes v2moves f2mover f2movedFrom f2movedTo Post := by
  delta wp_X2_depart
  repeat' first
    | (with_reducible refine And.intro ?_ ?_)
    | (with_reducible refine s_X2_fall _ _ _ _ _ _ _ _ _ _ _ _ ?_ ?_ ?_ ?_)
    | (with_reducible intro _)
  all_goals (try dsimp only at *)
  all_goals grind [al, al_upd, fil20, fil400, vin10, vin12, vin13, vin20, vin56, vin130, vin140, vin143, vin200, vin240, vin400, vin8000]
theorem s_X2_tellMove (p1 : Int32) (p2 : Int32) (v2moves : Int32) (f2mover : Nat → Int32) (f2movedFrom : Nat → Int32) (f2movedTo : Nat → Int32) (Post : Int32 → Unit → Prop) (g0 : (0 ≤ v2moves ∧ v2moves < 13)) (h : ∀ r u, True → Post r u) : wp_X2_tellMove p1 p2 v2moves f2mover f2movedFrom f2movedTo Post := by
  delta wp_X2_tellMove
  repeat' first
    | (with_reducible refine And.intro ?_ ?_)
    | (with_reducible intro _)
  all_goals (try dsimp only at *)
  all_goals grind [al, al_upd, fil20, fil400, vin10, vin12, vin13, vin20, vin56, vin130, vin140, vin143, vin200, vin240, vin400, vin8000]
theorem mk_ok {x : Int32} (h0 : 0 ≤ x) (h1 : x < 10) : ¬ (0 : Int32) < 0 ∧ ¬ ((x + 1) * 13) < 0 ∧ ¬ (13 : Int32) < 0 ∧ (0 : Int32).toNatClampNeg + (13 : Int32).toNatClampNeg ≤ 13 ∧ ((x + 1) * 13).toNatClampNeg + (13 : Int32).toNatClampNeg ≤ 143 := by
  refine ⟨by decide, by grind, by decide, by decide, ?_⟩
  have h2 : (x + 1) * 13 < 131 := by grind
  have h3 : ((x + 1) * 13).toNatClampNeg = ((x + 1) * 13).toInt.toNat := rfl
  have h4 : (13 : Int32).toNatClampNeg = 13 := rfl
  rw [Int32.lt_iff_toInt_lt] at h2
  have h5 : (131 : Int32).toInt = 131 := rfl
  omega
theorem s_X0_make (p2 : Int32) (p3 : Int32) (v0made : Int32) (f0rules : Nat → Int32) (f0from : Nat → Int32) (f0knownFrom : Nat → Int32) (f5draft : Nat → Int32) (Post : Int32 → Int32 × (Nat → Int32) × (Nat → Int32) × (Nat → Int32) → Prop) (g0 : (0 ≤ v0made ∧ v0made < 11)) (h : ∀ r u, (0 ≤ u.1 ∧ u.1 < 11) → Post r u) : wp_X0_make p2 p3 v0made f0rules f0from f0knownFrom f5draft Post := by
  delta wp_X0_make
  refine ⟨fun c => ⟨mk_ok g0.1 (by grind), vin10 g0.1 (by grind), vin10 g0.1 (by grind), h _ _ ?_⟩, fun c => h _ _ ?_⟩
  all_goals (try dsimp only)
  all_goals grind
theorem s_X0_strike (p1 : Int32) (p2 : Int32) (v0made : Int32) (f0undoneFrom : Nat → Int32) (Post : Int32 → (Nat → Int32) → Prop) (g0 : (0 ≤ v0made ∧ v0made < 11)) (h : ∀ r u, True → Post r u) : wp_X0_strike p1 p2 v0made f0undoneFrom Post := by
  delta wp_X0_strike
  repeat' first
    | (with_reducible refine And.intro ?_ ?_)
    | (with_reducible intro _)
  all_goals (try dsimp only at *)
  all_goals grind [al, al_upd, fil20, fil400, vin10, vin12, vin13, vin20, vin56, vin130, vin140, vin143, vin200, vin240, vin400, vin8000]
theorem s_X0_isUndone (p1 : Int32) (p2 : Int32) (f0undoneFrom : Nat → Int32) (Post : Int32 → Unit → Prop) (g0 : (0 ≤ p1 ∧ p1 < 10)) (h : ∀ r u, True → Post r u) : wp_X0_isUndone p1 p2 f0undoneFrom Post := by
  delta wp_X0_isUndone
  repeat' first
    | (with_reducible refine And.intro ?_ ?_)
    | (with_reducible intro _)
  all_goals (try dsimp only at *)
  all_goals grind [al, al_upd, fil20, fil400, vin10, vin12, vin13, vin20, vin56, vin130, vin140, vin143, vin200, vin240, vin400, vin8000]
theorem l_X0_inForce_5  (k1 : Int32) (k2 : Int32) (v0made : Int32) (f0from : Nat → Int32) (f0knownFrom : Nat → Int32) (f0undoneFrom : Nat → Int32) (Post : Int32 → Unit → Prop) (K : Int32 → Int32 → Prop) (g0 : (0 ≤ v0made ∧ v0made < 11)) (hK : ∀ (y3 : Int32) (y4 : Int32), (0 ≤ y4 ∧ y4 ≤ v0made ∧ -1 ≤ y3 ∧ y3 < 10) → K y3 y4) : ∀ (n : Nat) (y3 : Int32) (y4 : Int32), (0 ≤ y4 ∧ y4 ≤ v0made ∧ -1 ≤ y3 ∧ y3 < 10) → tn (v0made - y4) < n → lp_X0_inForce_5 k1 k2 v0made f0from f0knownFrom f0undoneFrom Post K n y3 y4 := by
  intro n
  induction n with
  | zero => intro y3 y4 _ hm; exact absurd hm (Nat.not_lt_zero _)
  | succ n ih =>
    intro y3 y4 hI hm
    rw [lp_X0_inForce_5]
    repeat' first
      | (with_reducible refine And.intro ?_ ?_)
      | (with_reducible refine s_X0_isUndone _ _ _ _ ?_ ?_)
      | (with_reducible refine ih _ _ ?_ (mz ?_ ?_ hm))
      | (with_reducible intro _)
    all_goals (try dsimp only at *)
    all_goals grind [al, al_upd, fil20, fil400, vin10, vin12, vin13, vin20, vin56, vin130, vin140, vin143, vin200, vin240, vin400, vin8000]
theorem s_X0_inForce (p1 : Int32) (p2 : Int32) (v0made : Int32) (f0from : Nat → Int32) (f0knownFrom : Nat → Int32) (f0undoneFrom : Nat → Int32) (Post : Int32 → Unit → Prop) (g0 : (0 ≤ v0made ∧ v0made < 11)) (h : ∀ r u, (-1 ≤ r ∧ r < 10) → Post r u) : wp_X0_inForce p1 p2 v0made f0from f0knownFrom f0undoneFrom Post := by
  delta wp_X0_inForce
  repeat' first
    | (with_reducible refine And.intro ?_ ?_)
    | (with_reducible refine ⟨_, l_X0_inForce_5 _ _ _ _ _ _ _ _ ?_ ?_ _ _ _ ?_ (Nat.lt_succ_self _)⟩)
    | (with_reducible intro _)
  all_goals (try dsimp only at *)
  all_goals grind [al, al_upd, fil20, fil400, vin10, vin12, vin13, vin20, vin56, vin130, vin140, vin143, vin200, vin240, vin400, vin8000]
theorem s_X0_number (p1 : Int32) (p2 : Int32) (f0rules : Nat → Int32) (Post : Int32 → Unit → Prop) (g0 : (-1 ≤ p1 ∧ p1 < 10)) (g1 : (0 ≤ p2 ∧ p2 < 13)) (h : ∀ r u, True → Post r u) : wp_X0_number p1 p2 f0rules Post := by
  delta wp_X0_number
  repeat' first
    | (with_reducible refine And.intro ?_ ?_)
    | (with_reducible intro _)
  all_goals (try dsimp only at *)
  all_goals grind [al, al_upd, fil20, fil400, vin10, vin12, vin13, vin20, vin56, vin130, vin140, vin143, vin200, vin240, vin400, vin8000]
theorem s_X0_pointsFor (p1 : Int32) (p2 : Int32) (p3 : Int32) (f0rules : Nat → Int32) (Post : Int32 → Unit → Prop) (g0 : (-1 ≤ p1 ∧ p1 < 10)) (g1 : (0 ≤ p2 ∧ p2 < 7)) (g2 : (0 ≤ p3 ∧ p3 < 5)) (h : ∀ r u, True → Post r u) : wp_X0_pointsFor p1 p2 p3 f0rules Post := by
  delta wp_X0_pointsFor
  repeat' first
    | (with_reducible refine And.intro ?_ ?_)
    | (with_reducible refine s_X0_number _ _ _ _ ?_ ?_ ?_)
    | (with_reducible intro _)
  all_goals (try dsimp only at *)
  all_goals grind [al, al_upd, fil20, fil400, vin10, vin12, vin13, vin20, vin56, vin130, vin140, vin143, vin200, vin240, vin400, vin8000]
