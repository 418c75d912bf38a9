theorem sl_ok {i : Nat} (h : i < 7) : sLen.getD i 0 < 2147483648 ∧ 0 ≤ nI (sLen.getD i 0) ∧ nI (sLen.getD i 0) ≤ 8 := by
  rcases (show i = 0 ∨ i = 1 ∨ i = 2 ∨ i = 3 ∨ i = 4 ∨ i = 5 ∨ i = 6 by omega) with rfl | rfl | rfl | rfl | rfl | rfl | rfl <;> decide
theorem fH_nn (j : Nat) : 0 ≤ fH j := by
  by_cases h : j < 13
  · rcases (show j = 0 ∨ j = 1 ∨ j = 2 ∨ j = 3 ∨ j = 4 ∨ j = 5 ∨ j = 6 ∨ j = 7 ∨ j = 8 ∨ j = 9 ∨ j = 10 ∨ j = 11 ∨ j = 12 by omega) with rfl | rfl | rfl | rfl | rfl | rfl | rfl | rfl | rfl | rfl | rfl | rfl | rfl <;> decide
  · have e : ([9, 9, 9, 9, 100, 9, 9, 9, 9, 9, 9, 9, 9] : List Int32)[j]? = none := List.getElem?_eq_none (by simp; omega)
    unfold fH
    rw [List.getD_eq_getElem?_getD, e]
    decide
theorem l_X5_skipBlanks_0  (v6length : Int32) (f6bytes : Nat → Int32) (Post : Int32 → Prop) (K : Int32 → Prop) (g0 : (0 ≤ v6length ∧ v6length < 201)) (hK : ∀ (v5place : Int32), (0 ≤ v5place ∧ v5place < 201) → K v5place) : ∀ (n : Nat) (v5place : Int32), (0 ≤ v5place ∧ v5place < 201) → tn (201 - v5place) < n → lp_X5_skipBlanks_0 v6length f6bytes Post K n v5place := by
  intro n
  induction n with
  | zero => intro v5place _ hm; exact absurd hm (Nat.not_lt_zero _)
  | succ n ih =>
    intro v5place hI hm
    rw [lp_X5_skipBlanks_0]
    repeat' first
      | (with_reducible refine And.intro ?_ ?_)
      | (with_reducible refine s_X6_at _ _ _ _ ?_ ?_)
      | (with_reducible refine ih _ ?_ (mz ?_ ?_ hm))
      | (with_reducible intro _)
    all_goals (try dsimp only at *)
    all_goals grind [al, al_upd, fil20, fil400, vin10, vin12, vin13, vin20, vin56, vin130, vin140, vin143, vin200, vin240, vin400, vin8000]
theorem s_X5_skipBlanks (v5place : Int32) (v6length : Int32) (f6bytes : Nat → Int32) (Post : Int32 → Prop) (g0 : (0 ≤ v5place ∧ v5place < 201)) (g1 : (0 ≤ v6length ∧ v6length < 201)) (h : ∀ u, (0 ≤ u ∧ u < 201) → Post u) : wp_X5_skipBlanks v5place v6length f6bytes Post := by
  delta wp_X5_skipBlanks
  repeat' first
    | (with_reducible refine And.intro ?_ ?_)
    | (with_reducible refine ⟨_, l_X5_skipBlanks_0 _ _ _ _ ?_ ?_ _ _ ?_ (Nat.lt_succ_self _)⟩)
    | (with_reducible intro _)
  all_goals (try dsimp only at *)
  all_goals grind [al, al_upd, fil20, fil400, vin10, vin12, vin13, vin20, vin56, vin130, vin140, vin143, vin200, vin240, vin400, vin8000]
theorem s_X5_fail (p1 : Int32) (p2 : Int32) (v5fault : Int32) (Post : Int32 → Prop)  (h : ∀ u, True → Post u) : wp_X5_fail p1 p2 v5fault Post := by
  delta wp_X5_fail
  repeat' first
    | (with_reducible refine And.intro ?_ ?_)
    | (with_reducible intro _)
  all_goals (try dsimp only at *)
  all_goals grind [al, al_upd, fil20, fil400, vin10, vin12, vin13, vin20, vin56, vin130, vin140, vin143, vin200, vin240, vin400, vin8000]
theorem s_X5_readSemicolon (v5place : Int32) (v5fault : Int32) (v6length : Int32) (f6bytes : Nat → Int32) (Post : Int32 → Int32 × Int32 → Prop) (g0 : (0 ≤ v5place ∧ v5place < 201)) (g1 : (0 ≤ v6length ∧ v6length < 201)) (h : ∀ r u, (0 ≤ u.1 ∧ u.1 < 201) → Post r u) : wp_X5_readSemicolon v5place v5fault v6length f6bytes Post := by
  delta wp_X5_readSemicolon
  repeat' first
    | (with_reducible refine And.intro ?_ ?_)
    | (with_reducible refine s_X5_fail _ _ _ _ ?_)
    | (with_reducible refine s_X5_skipBlanks _ _ _ _ ?_ ?_ ?_)
    | (with_reducible refine s_X6_at _ _ _ _ ?_ ?_)
    | (with_reducible intro _)
  all_goals (try dsimp only at *)
  all_goals grind [al, al_upd, fil20, fil400, vin10, vin12, vin13, vin20, vin56, vin130, vin140, vin143, vin200, vin240, vin400, vin8000, atv]
theorem s_X5_isLetter (p0 : Int32) (Post : Int32 → Unit → Prop)  (h : ∀ r u, True → Post r u) : wp_X5_isLetter p0 Post := by
  delta wp_X5_isLetter
  repeat' first
    | (with_reducible refine And.intro ?_ ?_)
    | (with_reducible intro _)
  all_goals (try dsimp only at *)
  all_goals grind [al, al_upd, fil20, fil400, vin10, vin12, vin13, vin20, vin56, vin130, vin140, vin143, vin200, vin240, vin400, vin8000]
theorem s_X5_isDigit (p0 : Int32) (Post : Int32 → Unit → Prop)  (h : ∀ r u, (r = 0 ∨ (r = 1 ∧ 48 ≤ p0 ∧ p0 ≤ 57)) → Post r u) : wp_X5_isDigit p0 Post := by
  delta wp_X5_isDigit
  repeat' first
    | (with_reducible refine And.intro ?_ ?_)
    | (with_reducible intro _)
  all_goals (try dsimp only at *)
  all_goals grind [al, al_upd, fil20, fil400, vin10, vin12, vin13, vin20, vin56, vin130, vin140, vin143, vin200, vin240, vin400, vin8000]
theorem l_X5_readNumber_11  (k1 : Int32) (k2 : Int32) (v5fault : Int32) (v6length : Int32) (f6bytes : Nat → Int32) (Post : Int32 → Int32 × Int32 → Prop) (K : Int32 → Int32 → Prop) (g0 : (0 ≤ v6length ∧ v6length < 201)) (hK : ∀ (y3 : Int32) (v5place : Int32), (0 ≤ y3 ∧ y3 ≤ 1000 ∧ (0 ≤ v5place ∧ v5place < 201)) → K y3 v5place) : ∀ (n : Nat) (y3 : Int32) (v5place : Int32), (0 ≤ y3 ∧ y3 ≤ 1000 ∧ (0 ≤ v5place ∧ v5place < 201)) → tn (201 - v5place) < n → lp_X5_readNumber_11 k1 k2 v5fault v6length f6bytes Post K n y3 v5place := by
  intro n
  induction n with
  | zero => intro y3 v5place _ hm; exact absurd hm (Nat.not_lt_zero _)
  | succ n ih =>
    intro y3 v5place hI hm
    rw [lp_X5_readNumber_11]
    repeat' first
      | (with_reducible refine And.intro ?_ ?_)
      | (with_reducible refine s_X5_isDigit _ _ ?_)
      | (with_reducible refine s_X6_at _ _ _ _ ?_ ?_)
      | (with_reducible refine ih _ _ ?_ (mz ?_ ?_ hm))
      | (with_reducible intro _)
    all_goals (try dsimp only at *)
    all_goals grind [al, al_upd, fil20, fil400, vin10, vin12, vin13, vin20, vin56, vin130, vin140, vin143, vin200, vin240, vin400, vin8000]
theorem s_X5_readNumber (p1 : Int32) (v5place : Int32) (v5fault : Int32) (v6length : Int32) (f6bytes : Nat → Int32) (Post : Int32 → Int32 × Int32 → Prop) (g0 : (0 ≤ v5place ∧ v5place < 201)) (g1 : (0 ≤ v6length ∧ v6length < 201)) (g2 : 0 ≤ p1) (h : ∀ r u, (0 ≤ r ∧ r ≤ p1 ∧ (0 ≤ u.1 ∧ u.1 < 201)) → Post r u) : wp_X5_readNumber p1 v5place v5fault v6length f6bytes Post := by
  delta wp_X5_readNumber
  repeat' first
    | (with_reducible refine And.intro ?_ ?_)
    | (with_reducible refine s_X5_fail _ _ _ _ ?_)
    | (with_reducible refine s_X5_skipBlanks _ _ _ _ ?_ ?_ ?_)
    | (with_reducible refine ⟨_, l_X5_readNumber_11 _ _ _ _ _ _ _ ?_ ?_ _ _ _ ?_ (Nat.lt_succ_self _)⟩)
    | (with_reducible intro _)
  all_goals (try dsimp only at *)
  all_goals grind [al, al_upd, fil20, fil400, vin10, vin12, vin13, vin20, vin56, vin130, vin140, vin143, vin200, vin240, vin400, vin8000]
theorem l_X5_stands_17  (k2 : Int32) (i : Nat) (v5place : Int32) (v6length : Int32) (f6bytes : Nat → Int32) (Post : Int32 → Unit → Prop) (K : Int32 → Prop) (g0 : (0 ≤ v6length ∧ v6length < 201)) (g1 : (sLen.getD i 0 < 2147483648 ∧ 0 ≤ nI (sLen.getD i 0) ∧ nI (sLen.getD i 0) ≤ 8)) (h : ∀ r u, True → Post r u) (hK : ∀ (y3 : Int32), (0 ≤ y3 ∧ y3 ≤ nI (sLen.getD i 0)) → K y3) : ∀ (n : Nat) (y3 : Int32), (0 ≤ y3 ∧ y3 ≤ nI (sLen.getD i 0)) → tn (nI (sLen.getD i 0) - y3) < n → lp_X5_stands_17 k2 i v5place v6length f6bytes Post K n y3 := by
  intro n
  induction n with
  | zero => intro y3 _ hm; exact absurd hm (Nat.not_lt_zero _)
  | succ n ih =>
    intro y3 hI hm
    rw [lp_X5_stands_17]
    repeat' first
      | (with_reducible refine And.intro ?_ ?_)
      | (with_reducible refine s_X6_at _ _ _ _ ?_ ?_)
      | (with_reducible refine ih _ ?_ (mz ?_ ?_ hm))
      | (with_reducible intro _)
    all_goals (try dsimp only at *)
    all_goals grind [al, al_upd, fil20, fil400, vin10, vin12, vin13, vin20, vin56, vin130, vin140, vin143, vin200, vin240, vin400, vin8000, vinA]
theorem s_X5_stands (i : Nat) (p2 : Int32) (v5place : Int32) (v6length : Int32) (f6bytes : Nat → Int32) (Post : Int32 → Unit → Prop) (g0 : (0 ≤ v6length ∧ v6length < 201)) (g1 : i < 7) (h : ∀ r u, True → Post r u) : wp_X5_stands i p2 v5place v6length f6bytes Post := by
  delta wp_X5_stands
  repeat' first
    | (with_reducible refine And.intro ?_ ?_)
    | (with_reducible refine ⟨_, l_X5_stands_17 _ _ _ _ _ _ _ ?_ ?_ ?_ ?_ _ _ ?_ (Nat.lt_succ_self _)⟩)
    | (with_reducible intro _)
  all_goals (try dsimp only at *)
  all_goals grind [al, al_upd, fil20, fil400, vin10, vin12, vin13, vin20, vin56, vin130, vin140, vin143, vin200, vin240, vin400, vin8000, sl_ok]
theorem l_X5_readWord_51  (k1 : Int32) (v5place : Int32) (v6length : Int32) (f6bytes : Nat → Int32) (Post : Int32 → Int32 → Prop) (K : Int32 → Prop) (g0 : (0 ≤ v6length ∧ v6length < 201)) (g1 : (0 ≤ v5place ∧ v5place < 201)) (h : ∀ r u, (-1 ≤ r ∧ r < 7 ∧ (0 ≤ u ∧ u < 201)) → Post r u) (hK : ∀ (y2 : Int32), (0 ≤ y2 ∧ y2 ≤ 7) → K y2) : ∀ (n : Nat) (y2 : Int32), (0 ≤ y2 ∧ y2 ≤ 7) → tn (7 - y2) < n → lp_X5_readWord_51 k1 v5place v6length f6bytes Post K n y2 := by
  intro n
  induction n with
  | zero => intro y2 _ hm; exact absurd hm (Nat.not_lt_zero _)
  | succ n ih =>
    intro y2 hI hm
    rw [lp_X5_readWord_51]
    repeat' first
      | (with_reducible refine And.intro ?_ ?_)
      | (with_reducible refine s_X5_stands _ _ _ _ _ _ ?_ ?_ ?_)
      | (with_reducible refine ih _ ?_ (mz ?_ ?_ hm))
      | (with_reducible intro _)
    all_goals (try dsimp only at *)
    all_goals grind [al, al_upd, fil20, fil400, vin10, vin12, vin13, vin20, vin56, vin130, vin140, vin143, vin200, vin240, vin400, vin8000, wIdx_lt]
theorem l_X5_readWord_5  (k1 : Int32) (v6length : Int32) (f6bytes : Nat → Int32) (Post : Int32 → Int32 → Prop) (K : Int32 → Prop) (g0 : (0 ≤ v6length ∧ v6length < 201)) (hK : ∀ (v5place : Int32), (0 ≤ v5place ∧ v5place < 201) → K v5place) : ∀ (n : Nat) (v5place : Int32), (0 ≤ v5place ∧ v5place < 201) → tn (201 - v5place) < n → lp_X5_readWord_5 k1 v6length f6bytes Post K n v5place := by
  intro n
  induction n with
  | zero => intro v5place _ hm; exact absurd hm (Nat.not_lt_zero _)
  | succ n ih =>
    intro v5place hI hm
    rw [lp_X5_readWord_5]
    repeat' first
      | (with_reducible refine And.intro ?_ ?_)
      | (with_reducible refine s_X5_isLetter _ _ ?_)
      | (with_reducible refine s_X6_at _ _ _ _ ?_ ?_)
      | (with_reducible refine ih _ ?_ (mz ?_ ?_ hm))
      | (with_reducible intro _)
    all_goals (try dsimp only at *)
    all_goals grind [al, al_upd, fil20, fil400, vin10, vin12, vin13, vin20, vin56, vin130, vin140, vin143, vin200, vin240, vin400, vin8000]
theorem s_X5_readWord (v5place : Int32) (v6length : Int32) (f6bytes : Nat → Int32) (Post : Int32 → Int32 → Prop) (g0 : (0 ≤ v5place ∧ v5place < 201)) (g1 : (0 ≤ v6length ∧ v6length < 201)) (h : ∀ r u, (-1 ≤ r ∧ r < 7 ∧ (0 ≤ u ∧ u < 201)) → Post r u) : wp_X5_readWord v5place v6length f6bytes Post := by
  delta wp_X5_readWord
  repeat' first
    | (with_reducible refine And.intro ?_ ?_)
    | (with_reducible refine ⟨_, l_X5_readWord_5 _ _ _ _ _ ?_ ?_ _ _ ?_ (Nat.lt_succ_self _)⟩)
    | (with_reducible refine ⟨_, l_X5_readWord_51 _ _ _ _ _ _ ?_ ?_ ?_ ?_ _ _ ?_ (Nat.lt_succ_self _)⟩)
    | (with_reducible intro _)
  all_goals (try dsimp only at *)
  all_goals grind [al, al_upd, fil20, fil400, vin10, vin12, vin13, vin20, vin56, vin130, vin140, vin143, vin200, vin240, vin400, vin8000]
theorem s_X5_readClause (f5draft : Nat → Int32) (v5place : Int32) (v5slotsTold : Int32) (v5fault : Int32) (v6length : Int32) (f6bytes : Nat → Int32) (Post : (Nat → Int32) × Int32 × Int32 × Int32 → Prop) (g0 : (0 ≤ v5place ∧ v5place < 201)) (g1 : (0 ≤ v6length ∧ v6length < 201)) (h : ∀ u, (0 ≤ u.2.1 ∧ u.2.1 < 201) → Post u) : wp_X5_readClause f5draft v5place v5slotsTold v5fault v6length f6bytes Post := by
  delta wp_X5_readClause
  repeat' first
    | (with_reducible refine And.intro ?_ ?_)
    | (with_reducible refine s_X5_fail _ _ _ _ ?_)
    | (with_reducible refine s_X5_readNumber _ _ _ _ _ _ ?_ ?_ ?_ ?_)
    | (with_reducible refine s_X5_readWord _ _ _ _ ?_ ?_ ?_)
    | (with_reducible refine s_X5_skipBlanks _ _ _ _ ?_ ?_ ?_)
    | (with_reducible intro _)
  all_goals (try dsimp only at *)
  all_goals grind [al, al_upd, fil20, fil400, vin10, vin12, vin13, vin20, vin56, vin130, vin140, vin143, vin200, vin240, vin400, vin8000, fH_nn]
theorem l_X5_read_56  (v6length : Int32) (f6bytes : Nat → Int32) (Post : Int32 → (Nat → Int32) × Int32 × Int32 × Int32 → Prop) (K : Int32 → Int32 → (Nat → Int32) → Int32 → Int32 → Int32 → Prop) (g0 : (0 ≤ v6length ∧ v6length < 201)) (hK : ∀ (y1 : Int32) (y2 : Int32) (f5draft : Nat → Int32) (v5place : Int32) (v5slotsTold : Int32) (v5fault : Int32), (0 ≤ y2 ∧ y2 ≤ 201 ∧ (0 ≤ v5place ∧ v5place < 201)) → K y1 y2 f5draft v5place v5slotsTold v5fault) : ∀ (n : Nat) (y1 : Int32) (y2 : Int32) (f5draft : Nat → Int32) (v5place : Int32) (v5slotsTold : Int32) (v5fault : Int32), (0 ≤ y2 ∧ y2 ≤ 201 ∧ (0 ≤ v5place ∧ v5place < 201)) → tn (201 - y2) < n → lp_X5_read_56 v6length f6bytes Post K n y1 y2 f5draft v5place v5slotsTold v5fault := by
  intro n
  induction n with
  | zero => intro y1 y2 f5draft v5place v5slotsTold v5fault _ hm; exact absurd hm (Nat.not_lt_zero _)
  | succ n ih =>
    intro y1 y2 f5draft v5place v5slotsTold v5fault hI hm
    rw [lp_X5_read_56]
    repeat' first
      | (with_reducible refine And.intro ?_ ?_)
      | (with_reducible refine s_X5_readClause _ _ _ _ _ _ _ ?_ ?_ ?_)
      | (with_reducible refine s_X5_readSemicolon _ _ _ _ _ ?_ ?_ ?_)
      | (with_reducible refine ih _ _ _ _ _ _ ?_ (mz ?_ ?_ hm))
      | (with_reducible intro _)
    all_goals (try dsimp only at *)
    all_goals grind [al, al_upd, fil20, fil400, vin10, vin12, vin13, vin20, vin56, vin130, vin140, vin143, vin200, vin240, vin400, vin8000]
theorem s_X5_read (f5draft : Nat → Int32) (v5place : Int32) (v5slotsTold : Int32) (v5fault : Int32) (v6length : Int32) (f6bytes : Nat → Int32) (Post : Int32 → (Nat → Int32) × Int32 × Int32 × Int32 → Prop) (g0 : (0 ≤ v6length ∧ v6length < 201)) (h : ∀ r u, True → Post r u) : wp_X5_read f5draft v5place v5slotsTold v5fault v6length f6bytes Post := by
  delta wp_X5_read
  repeat' first
    | (with_reducible refine And.intro ?_ ?_)
    | (with_reducible refine s_X5_skipBlanks _ _ _ _ ?_ ?_ ?_)
    | (with_reducible refine s_X6_at _ _ _ _ ?_ ?_)
    | (with_reducible refine ⟨_, l_X5_read_56 _ _ _ _ ?_ ?_ _ _ _ _ _ _ _ ?_ (Nat.lt_succ_self _)⟩)
    | (with_reducible intro _)
  all_goals (try dsimp only at *)
  all_goals grind [al, al_upd, fil20, fil400, vin10, vin12, vin13, vin20, vin56, vin130, vin140, vin143, vin200, vin240, vin400, vin8000]
