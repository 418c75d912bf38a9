def cnN (f : Nat → Int32) : Nat → Nat
  | 0 => 0
  | n + 1 => cnN f n + (if f n = 0 then 0 else 1)
theorem cnN_le (f : Nat → Int32) (n : Nat) : cnN f n ≤ n := by
  induction n with
  | zero => exact Nat.le_refl _
  | succ n ih => rw [cnN]; split <;> omega
theorem cnN_above {f : Nat → Int32} {i : Nat} {x : Int32} : ∀ n, n ≤ i → cnN (upd f i x) n = cnN f n := by
  intro n
  induction n with
  | zero => intro _; rfl
  | succ n ih => intro h; rw [cnN, cnN, ih (by omega), show upd f i x n = f n from if_neg (by omega)]
theorem cnN_upd {f : Nat → Int32} {i : Nat} {x : Int32} (hx : ¬ x = 0) (hf : f i = 0) : ∀ n, i < n → cnN (upd f i x) n = cnN f n + 1 := by
  intro n
  induction n with
  | zero => intro h; exact absurd h (Nat.not_lt_zero _)
  | succ n ih =>
    intro h
    rw [cnN, cnN]
    by_cases e : i = n
    · subst e
      rw [cnN_above i (Nat.le_refl _), show upd f i x i = x from if_pos rfl, if_neg hx, if_pos hf]
    · rw [ih (by omega), show upd f i x n = f n from if_neg (by omega)]
      omega
theorem tnc20 {x : Int32} (h0 : 0 ≤ x) (h1 : x < 20) : x.toNatClampNeg < 20 := by
  have h2 : x.toNatClampNeg = x.toInt.toNat := rfl
  rw [Int32.lt_iff_toInt_lt] at h1
  have h5 : (20 : Int32).toInt = 20 := rfl
  omega
theorem nI_small {n : Nat} (h : n ≤ 20) : 0 ≤ nI n ∧ nI n ≤ 20 ∧ nI (n + 1) = nI n + 1 ∧ (n < 20 → nI n < 20) := by
  rcases (show n = 0 ∨ n = 1 ∨ n = 2 ∨ n = 3 ∨ n = 4 ∨ n = 5 ∨ n = 6 ∨ n = 7 ∨ n = 8 ∨ n = 9 ∨ n = 10 ∨ n = 11 ∨ n = 12 ∨ n = 13 ∨ n = 14 ∨ n = 15 ∨ n = 16 ∨ n = 17 ∨ n = 18 ∨ n = 19 ∨ n = 20 by omega) with rfl | rfl | rfl | rfl | rfl | rfl | rfl | rfl | rfl | rfl | rfl | rfl | rfl | rfl | rfl | rfl | rfl | rfl | rfl | rfl | rfl <;> decide
theorem mv_step {f : Nat → Int32} {x m : Int32} (h0 : 0 ≤ x) (h1 : x < 20) (hf : f x.toNatClampNeg = 0) (hm : m = nI (cnN f 20)) : 0 ≤ m ∧ m < 20 ∧ m + 1 = nI (cnN (upd f x.toNatClampNeg (vp_nar .boolean 1)) 20) := by
  have h2 := tnc20 h0 h1
  have h3 := cnN_upd (x := vp_nar .boolean 1) (by decide) hf 20 h2
  have h4 := cnN_le (upd f x.toNatClampNeg (vp_nar .boolean 1)) 20
  rw [h3] at h4
  have h5 := nI_small (n := cnN f 20) (by omega)
  subst hm
  exact ⟨h5.1, h5.2.2.2 (by omega), by rw [h3]; exact h5.2.2.1.symm⟩
theorem mv_le {f : Nat → Int32} {m : Int32} (hm : m = nI (cnN f 20)) : 0 ≤ m ∧ m ≤ 20 := by
  subst hm
  have h5 := nI_small (cnN_le f 20)
  exact ⟨h5.1, h5.2.1⟩
theorem cnN_zero {f : Nat → Int32} (h : ∀ k : Int32, 0 ≤ k → k < 20 → f k.toNatClampNeg = 0) : (0 : Int32) = nI (cnN f 20) := by
  have h2 : ∀ j, j < 20 → f j = 0 := by
    intro j hj
    have h3 : 0 ≤ nI j ∧ nI j < 20 ∧ (nI j).toNatClampNeg = j := by
      rcases (show j = 0 ∨ j = 1 ∨ j = 2 ∨ j = 3 ∨ j = 4 ∨ j = 5 ∨ j = 6 ∨ j = 7 ∨ j = 8 ∨ j = 9 ∨ j = 10 ∨ j = 11 ∨ j = 12 ∨ j = 13 ∨ j = 14 ∨ j = 15 ∨ j = 16 ∨ j = 17 ∨ j = 18 ∨ j = 19 by omega) with rfl | rfl | rfl | rfl | rfl | rfl | rfl | rfl | rfl | rfl | rfl | rfl | rfl | rfl | rfl | rfl | rfl | rfl | rfl | rfl <;> decide
    have h4 := h (nI j) h3.1 h3.2.1
    rw [h3.2.2] at h4
    exact h4
  have h5 : ∀ n, n ≤ 20 → cnN f n = 0 := by
    intro n
    induction n with
    | zero => intro _; rfl
    | succ n ih => intro hn; rw [cnN, ih (by omega), h2 n (by omega)]; rfl
  rw [h5 20 (Nat.le_refl _)]
  rfl
theorem nar_b0 : vp_nar .boolean 0 = 0 := rfl
theorem nar_b1 : vp_nar .boolean 1 = 1 := rfl
theorem l64 {x : Int32} (h : ¬ x = 0) : ¬ x.toInt64 = 0 := by
  intro c
  apply h
  have h1 : x.toInt64.toInt = x.toInt := Int32.toInt_toInt64 x
  rw [c] at h1
  rw [← Int32.toInt_inj]
  exact h1.symm
theorem s_X8_in (p0 : Int32) (p1 : Int32) (p2 : Int32) (Post : Int32 → Unit → Prop)  (h : ∀ r u, ((r = 0 ∧ (p0 < p1 ∨ p2 < p0)) ∨ (r = 1 ∧ p1 ≤ p0 ∧ p0 ≤ p2)) → Post r u) : wp_X8_in p0 p1 p2 Post := by
  delta wp_X8_in
  repeat' first
    | (with_reducible refine And.intro ?_ ?_)
    | (with_reducible intro _)
  all_goals (try dsimp only at *)
  all_goals grind [al, al_upd, fil20, fil400, vin10, vin12, vin13, vin20, vin56, vin130, vin140, vin143, vin200, vin240, vin400, vin8000]
theorem s_X8_isDay (p0 : Int32) (Post : Int32 → Unit → Prop)  (h : ∀ r u, ((r = 0 ∧ (p0 < 0 ∨ 400 ≤ p0)) ∨ (r = 1 ∧ 0 ≤ p0 ∧ p0 < 400)) → Post r u) : wp_X8_isDay p0 Post := by
  delta wp_X8_isDay
  repeat' first
    | (with_reducible refine And.intro ?_ ?_)
    | (with_reducible refine s_X8_in _ _ _ _ ?_)
    | (with_reducible intro _)
  all_goals (try dsimp only at *)
  all_goals grind [al, al_upd, fil20, fil400, vin10, vin12, vin13, vin20, vin56, vin130, vin140, vin143, vin200, vin240, vin400, vin8000, nar0, nar1]
theorem s_X8_isCanon (p1 : Int32) (v8canons : Int32) (Post : Int32 → Unit → Prop) (g0 : (0 ≤ v8canons ∧ v8canons < 21)) (h : ∀ r u, ((r = 0 ∧ (p1 < 0 ∨ v8canons ≤ p1)) ∨ (r = 1 ∧ 0 ≤ p1 ∧ p1 < v8canons)) → Post r u) : wp_X8_isCanon p1 v8canons Post := by
  delta wp_X8_isCanon
  repeat' first
    | (with_reducible refine And.intro ?_ ?_)
    | (with_reducible refine s_X8_in _ _ _ _ ?_)
    | (with_reducible intro _)
  all_goals (try dsimp only at *)
  all_goals grind [al, al_upd, fil20, fil400, vin10, vin12, vin13, vin20, vin56, vin130, vin140, vin143, vin200, vin240, vin400, vin8000, nar0, nar1]
theorem s_X8_isStall (p1 : Int32) (v8stalls : Int32) (Post : Int32 → Unit → Prop) (g0 : (0 ≤ v8stalls ∧ v8stalls < 13)) (h : ∀ r u, ((r = 0 ∧ (p1 < 0 ∨ v8stalls ≤ p1)) ∨ (r = 1 ∧ 0 ≤ p1 ∧ p1 < v8stalls)) → Post r u) : wp_X8_isStall p1 v8stalls Post := by
  delta wp_X8_isStall
  repeat' first
    | (with_reducible refine And.intro ?_ ?_)
    | (with_reducible refine s_X8_in _ _ _ _ ?_)
    | (with_reducible intro _)
  all_goals (try dsimp only at *)
  all_goals grind [al, al_upd, fil20, fil400, vin10, vin12, vin13, vin20, vin56, vin130, vin140, vin143, vin200, vin240, vin400, vin8000, nar0, nar1]
theorem l_X8_falls_7  (k1 : Int32) (f8worth : Nat → Int32) (f8inStall : Nat → Int32) (v8canons : Int32) (f8isThere : Nat → Int32) (f8stallOf : Nat → Int32) (f8wishes : Nat → Int32) (v8moves : Int32) (f8moveOf : Nat → Int32) (f8moveFrom : Nat → Int32) (f8moveTo : Nat → Int32) (Post : (Nat → Int32) × (Nat → Int32) × Int32 × (Nat → Int32) × (Nat → Int32) × (Nat → Int32) × (Nat → Int32) → Prop) (K : Int32 → (Nat → Int32) → Prop)  (hK : ∀ (y2 : Int32) (f8hasMoved : Nat → Int32), (0 ≤ y2 ∧ y2 ≤ 20 ∧ (∀ k : Int32, 0 ≤ k → k < y2 → f8hasMoved k.toNatClampNeg = 0)) → 20 ≤ y2 → K y2 f8hasMoved) : ∀ (n : Nat) (y2 : Int32) (f8hasMoved : Nat → Int32), (0 ≤ y2 ∧ y2 ≤ 20 ∧ (∀ k : Int32, 0 ≤ k → k < y2 → f8hasMoved k.toNatClampNeg = 0)) → tn (20 - y2) < n → lp_X8_falls_7 k1 f8worth f8inStall v8canons f8isThere f8stallOf f8wishes v8moves f8moveOf f8moveFrom f8moveTo Post K n y2 f8hasMoved := by
  intro n
  induction n with
  | zero => intro y2 f8hasMoved _ hm; exact absurd hm (Nat.not_lt_zero _)
  | succ n ih =>
    intro y2 f8hasMoved hI hm
    rw [lp_X8_falls_7]
    repeat' first
      | (with_reducible refine And.intro ?_ ?_)
      | (with_reducible refine ih _ _ ?_ (mz ?_ ?_ hm))
      | (with_reducible intro _)
    all_goals (try dsimp only at *)
    all_goals grind [al, al_upd, fil20, fil400, vin10, vin12, vin13, vin20, vin56, vin130, vin140, vin143, vin200, vin240, vin400, vin8000, upd, nar_b0]
theorem l_X8_falls_42  (k1 : Int32) (k2 : Int32) (f8worth : Nat → Int32) (f8inStall : Nat → Int32) (v8canons : Int32) (f8isThere : Nat → Int32) (f8stallOf : Nat → Int32) (f8wishes : Nat → Int32) (v8moves : Int32) (f8moveOf : Nat → Int32) (f8moveFrom : Nat → Int32) (f8moveTo : Nat → Int32) (f8hasMoved : Nat → Int32) (Post : (Nat → Int32) × (Nat → Int32) × Int32 × (Nat → Int32) × (Nat → Int32) × (Nat → Int32) × (Nat → Int32) → Prop) (K : Int32 → Int32 → Prop) (g0 : (0 ≤ k2 ∧ k2 < 12)) (g1 : (0 ≤ v8canons ∧ v8canons < 21)) (g2 : al f8stallOf (-1) 12) (hK : ∀ (y3 : Int32) (y4 : Int32), (-1 ≤ y4 ∧ y4 < 20 ∧ -1 ≤ y3 ∧ y3 < 20 ∧ (0 ≤ y3 → f8hasMoved y3.toNatClampNeg = 0)) → K y3 y4) : ∀ (n : Nat) (y3 : Int32) (y4 : Int32), (-1 ≤ y4 ∧ y4 < 20 ∧ -1 ≤ y3 ∧ y3 < 20 ∧ (0 ≤ y3 → f8hasMoved y3.toNatClampNeg = 0)) → tn (y4 + 1) < n → lp_X8_falls_42 k1 k2 f8worth f8inStall v8canons f8isThere f8stallOf f8wishes v8moves f8moveOf f8moveFrom f8moveTo f8hasMoved Post K n y3 y4 := by
  intro n
  induction n with
  | zero => intro y3 y4 _ hm; exact absurd hm (Nat.not_lt_zero _)
  | succ n ih =>
    intro y3 y4 hI hm
    rw [lp_X8_falls_42]
    repeat' first
      | (with_reducible refine And.intro ?_ ?_)
      | (with_reducible refine ih _ _ ?_ (mz ?_ ?_ hm))
      | (with_reducible intro _)
    all_goals (try dsimp only at *)
    all_goals grind [al, al_upd, fil20, fil400, vin10, vin12, vin13, vin20, vin56, vin130, vin140, vin143, vin200, vin240, vin400, vin8000]
theorem l_X8_falls_28  (k1 : Int32) (f8worth : Nat → Int32) (v8canons : Int32) (f8isThere : Nat → Int32) (f8wishes : Nat → Int32) (Post : (Nat → Int32) × (Nat → Int32) × Int32 × (Nat → Int32) × (Nat → Int32) × (Nat → Int32) × (Nat → Int32) → Prop) (K : Int32 → (Nat → Int32) → (Nat → Int32) → Int32 → (Nat → Int32) → (Nat → Int32) → (Nat → Int32) → (Nat → Int32) → Prop) (g0 : (0 ≤ v8canons ∧ v8canons < 21)) (h : ∀ u, (al u.2.1 (-1) 12 ∧ 0 ≤ u.2.2.1 ∧ u.2.2.1 < 21) → Post u) (hK : ∀ (y2 : Int32) (f8inStall : Nat → Int32) (f8stallOf : Nat → Int32) (v8moves : Int32) (f8moveOf : Nat → Int32) (f8moveFrom : Nat → Int32) (f8moveTo : Nat → Int32) (f8hasMoved : Nat → Int32), (-1 ≤ y2 ∧ y2 < 12 ∧ al f8stallOf (-1) 12 ∧ v8moves = nI (cnN f8hasMoved 20)) → K y2 f8inStall f8stallOf v8moves f8moveOf f8moveFrom f8moveTo f8hasMoved) : ∀ (n : Nat) (y2 : Int32) (f8inStall : Nat → Int32) (f8stallOf : Nat → Int32) (v8moves : Int32) (f8moveOf : Nat → Int32) (f8moveFrom : Nat → Int32) (f8moveTo : Nat → Int32) (f8hasMoved : Nat → Int32), (-1 ≤ y2 ∧ y2 < 12 ∧ al f8stallOf (-1) 12 ∧ v8moves = nI (cnN f8hasMoved 20)) → tn (20 - v8moves) < n → lp_X8_falls_28 k1 f8worth v8canons f8isThere f8wishes Post K n y2 f8inStall f8stallOf v8moves f8moveOf f8moveFrom f8moveTo f8hasMoved := by
  intro n
  induction n with
  | zero => intro y2 f8inStall f8stallOf v8moves f8moveOf f8moveFrom f8moveTo f8hasMoved _ hm; exact absurd hm (Nat.not_lt_zero _)
  | succ n ih =>
    intro y2 f8inStall f8stallOf v8moves f8moveOf f8moveFrom f8moveTo f8hasMoved hI hm
    rw [lp_X8_falls_28]
    have hmv := mv_le hI.2.2.2
    refine ⟨fun c => hK _ _ _ _ _ _ _ _ hI, fun c x8 e8 => ⟨_, l_X8_falls_42 _ _ _ _ _ _ _ _ _ _ _ _ _ _ _ (by grind) g0 hI.2.2.1 (fun x9 x10 hq => ?_) _ _ _ (by grind) (Nat.lt_succ_self _)⟩⟩
    refine ⟨fun c9 => ?_, fun c9 => h _ ⟨hI.2.2.1, by grind, by grind⟩⟩
    have hs := mv_step c9 (by grind) (hq.2.2.2.2 c9) hI.2.2.2
    have hal := hI.2.2.1
    unfold al at hal
    refine ⟨vin20 c9 (by grind), vin20 hs.1 hs.2.1, vin20 c9 (by grind), vin20 hs.1 hs.2.1, vin20 hs.1 hs.2.1, vin20 c9 (by grind), fun x12 e12 => ⟨fun c12 => ⟨vin12 (by grind) (by grind), vin20 c9 (by grind), ih _ _ _ _ _ _ _ _ ⟨by grind, by grind, al_upd hI.2.2.1 (by grind) (by grind), hs.2.2⟩ (mz (by grind) (by grind) hm)⟩, fun c12 => ⟨vin12 (by grind) (by grind), vin12 (by grind) (by grind), vin20 c9 (by grind), ih _ _ _ _ _ _ _ _ ⟨by grind, by grind, al_upd hI.2.2.1 (by grind) (by grind), hs.2.2⟩ (mz (by grind) (by grind) hm)⟩⟩⟩
theorem s_X8_falls (p1 : Int32) (f8worth : Nat → Int32) (f8inStall : Nat → Int32) (v8canons : Int32) (f8isThere : Nat → Int32) (f8stallOf : Nat → Int32) (f8wishes : Nat → Int32) (v8moves : Int32) (f8moveOf : Nat → Int32) (f8moveFrom : Nat → Int32) (f8moveTo : Nat → Int32) (f8hasMoved : Nat → Int32) (Post : (Nat → Int32) × (Nat → Int32) × Int32 × (Nat → Int32) × (Nat → Int32) × (Nat → Int32) × (Nat → Int32) → Prop) (g0 : (-1 ≤ p1 ∧ p1 < 12)) (g1 : (0 ≤ v8canons ∧ v8canons < 21)) (g2 : al f8stallOf (-1) 12) (h : ∀ u, (al u.2.1 (-1) 12 ∧ 0 ≤ u.2.2.1 ∧ u.2.2.1 < 21) → Post u) : wp_X8_falls p1 f8worth f8inStall v8canons f8isThere f8stallOf f8wishes v8moves f8moveOf f8moveFrom f8moveTo f8hasMoved Post := by
  delta wp_X8_falls
  refine ⟨_, l_X8_falls_7 _ _ _ _ _ _ _ _ _ _ _ _ _ (fun x13 g14 hq hx => ?_) _ _ _ (by grind) (Nat.lt_succ_self _)⟩
  refine ⟨_, l_X8_falls_28 _ _ _ _ _ _ _ g1 h (fun x16 g17 g18 x19 g20 g21 g22 g23 hI => ?_) _ _ _ _ _ _ _ _ _ ⟨g0.1, g0.2, g2, cnN_zero (by grind)⟩ (Nat.lt_succ_self _)⟩
  have hmv := mv_le hI.2.2.2
  exact h _ ⟨hI.2.2.1, by grind, by grind⟩
theorem s_X8_stall (p1 : Int32) (v8now : Int32) (v8stalls : Int32) (f8worth : Nat → Int32) (f8inStall : Nat → Int32) (v8canons : Int32) (f8isThere : Nat → Int32) (f8stallOf : Nat → Int32) (f8wishes : Nat → Int32) (v8moves : Int32) (f8moveOf : Nat → Int32) (f8moveFrom : Nat → Int32) (f8moveTo : Nat → Int32) (f8hasMoved : Nat → Int32) (Post : Int32 → Int32 × (Nat → Int32) × (Nat → Int32) × (Nat → Int32) × Int32 × (Nat → Int32) × (Nat → Int32) × (Nat → Int32) × (Nat → Int32) → Prop) (g0 : (0 ≤ v8canons ∧ v8canons < 21)) (g1 : (0 ≤ v8stalls ∧ v8stalls < 13)) (g2 : al f8stallOf (-1) 12) (g3 : (0 ≤ v8moves ∧ v8moves < 21)) (g4 : (0 ≤ v8now ∧ v8now < 401)) (h : ∀ r u, (al u.2.2.2.1 (-1) 12 ∧ 0 ≤ u.2.2.2.2.1 ∧ u.2.2.2.2.1 < 21 ∧ ((r = -1 ∧ u.1 = v8stalls ∧ (v8now = 400 ∨ p1 < 0 ∨ 1000 < p1 ∨ v8stalls = 12)) ∨ (r = v8stalls ∧ u.1 = v8stalls + 1 ∧ v8now < 400 ∧ 0 ≤ p1 ∧ p1 ≤ 1000 ∧ v8stalls < 12))) → Post r u) : wp_X8_stall p1 v8now v8stalls f8worth f8inStall v8canons f8isThere f8stallOf f8wishes v8moves f8moveOf f8moveFrom f8moveTo f8hasMoved Post := by
  delta wp_X8_stall
  repeat' first
    | (with_reducible refine And.intro ?_ ?_)
    | (with_reducible refine s_X8_falls _ _ _ _ _ _ _ _ _ _ _ _ _ ?_ ?_ ?_ ?_)
    | (with_reducible refine s_X8_in _ _ _ _ ?_)
    | (with_reducible intro _)
  all_goals (try dsimp only at *)
  all_goals grind [al, al_upd, fil20, fil400, vin10, vin12, vin13, vin20, vin56, vin130, vin140, vin143, vin200, vin240, vin400, vin8000]
theorem s_X8_canon (v8now : Int32) (v8canons : Int32) (f8isThere : Nat → Int32) (f8stallOf : Nat → Int32) (Post : Int32 → Int32 × (Nat → Int32) × (Nat → Int32) → Prop) (g0 : (0 ≤ v8canons ∧ v8canons < 21)) (g1 : al f8stallOf (-1) 12) (g2 : (0 ≤ v8now ∧ v8now < 401)) (h : ∀ r u, (al u.2.2 (-1) 12 ∧ ((r = -1 ∧ u.1 = v8canons ∧ (v8now = 400 ∨ v8canons = 20)) ∨ (r = v8canons ∧ u.1 = v8canons + 1 ∧ v8now < 400 ∧ v8canons < 20))) → Post r u) : wp_X8_canon v8now v8canons f8isThere f8stallOf Post := by
  delta wp_X8_canon
  repeat' first
    | (with_reducible refine And.intro ?_ ?_)
    | (with_reducible intro _)
  all_goals (try dsimp only at *)
  all_goals grind [al, al_upd, fil20, fil400, vin10, vin12, vin13, vin20, vin56, vin130, vin140, vin143, vin200, vin240, vin400, vin8000]
theorem s_X8_wish (p1 : Int32) (p2 : Int32) (p3 : Int32) (v8now : Int32) (v8stalls : Int32) (v8canons : Int32) (f8wishes : Nat → Int32) (Post : Int32 → (Nat → Int32) → Prop) (g0 : (0 ≤ v8canons ∧ v8canons < 21)) (g1 : (0 ≤ v8stalls ∧ v8stalls < 13)) (g2 : (0 ≤ v8now ∧ v8now < 401)) (h : ∀ r u, ((r = 0 ∧ (∀ j, u j = f8wishes j) ∧ (v8now = 400 ∨ p1 < 0 ∨ v8canons ≤ p1 ∨ p2 < 0 ∨ v8stalls ≤ p2)) ∨ (v8now < 400 ∧ 0 ≤ p1 ∧ p1 < v8canons ∧ 0 ≤ p2 ∧ p2 < v8stalls ∧ ((r = 0 ∧ f8wishes (12 * p1 + p2).toNatClampNeg = p3 ∧ (∀ j, u j = f8wishes j)) ∨ (r = 1 ∧ ¬ f8wishes (12 * p1 + p2).toNatClampNeg = p3 ∧ (∀ j, u j = if j = (12 * p1 + p2).toNatClampNeg then vp_nar .boolean p3 else f8wishes j))))) → Post r u) : wp_X8_wish p1 p2 p3 v8now v8stalls v8canons f8wishes Post := by
  delta wp_X8_wish
  repeat' first
    | (with_reducible refine And.intro ?_ ?_)
    | (with_reducible refine s_X8_isCanon _ _ _ ?_ ?_)
    | (with_reducible refine s_X8_isStall _ _ _ ?_ ?_)
    | (with_reducible intro _)
  all_goals (try dsimp only at *)
  all_goals grind [al, al_upd, fil20, fil400, vin10, vin12, vin13, vin20, vin56, vin130, vin140, vin143, vin200, vin240, vin400, vin8000, upd]
theorem s_X8_takes (p1 : Int32) (p2 : Int32) (v8now : Int32) (v8stalls : Int32) (f8inStall : Nat → Int32) (v8canons : Int32) (f8isThere : Nat → Int32) (f8stallOf : Nat → Int32) (Post : Int32 → (Nat → Int32) × (Nat → Int32) → Prop) (g0 : (0 ≤ v8canons ∧ v8canons < 21)) (g1 : (0 ≤ v8stalls ∧ v8stalls < 13)) (g2 : al f8stallOf (-1) 12) (h : ∀ r u, al u.2 (-1) 12 → Post r u) : wp_X8_takes p1 p2 v8now v8stalls f8inStall v8canons f8isThere f8stallOf Post := by
  delta wp_X8_takes
  repeat' first
    | (with_reducible refine And.intro ?_ ?_)
    | (with_reducible refine s_X8_isCanon _ _ _ ?_ ?_)
    | (with_reducible refine s_X8_isStall _ _ _ ?_ ?_)
    | (with_reducible intro _)
  all_goals (try dsimp only at *)
  all_goals grind [al, al_upd, fil20, fil400, vin10, vin12, vin13, vin20, vin56, vin130, vin140, vin143, vin200, vin240, vin400, vin8000]
theorem l_X8_unvotes_24  (k1 : Int32) (v8canons : Int32) (v8isOpen : Int32) (f8vote : Nat → Int32) (Post : (Nat → Int32) × (Nat → Int32) → Prop) (K : Int32 → (Nat → Int32) → Prop) (g0 : (0 ≤ v8canons ∧ v8canons < 21)) (hK : ∀ (y2 : Int32) (f8givenTo : Nat → Int32), (0 ≤ y2 ∧ y2 ≤ v8canons ∧ al f8givenTo (-1) 20) → K y2 f8givenTo) : ∀ (n : Nat) (y2 : Int32) (f8givenTo : Nat → Int32), (0 ≤ y2 ∧ y2 ≤ v8canons ∧ al f8givenTo (-1) 20) → tn (v8canons - y2) < n → lp_X8_unvotes_24 k1 v8canons v8isOpen f8vote Post K n y2 f8givenTo := by
  intro n
  induction n with
  | zero => intro y2 f8givenTo _ hm; exact absurd hm (Nat.not_lt_zero _)
  | succ n ih =>
    intro y2 f8givenTo hI hm
    rw [lp_X8_unvotes_24]
    repeat' first
      | (with_reducible refine And.intro ?_ ?_)
      | (with_reducible refine ih _ _ ?_ (mz ?_ ?_ hm))
      | (with_reducible intro _)
    all_goals (try dsimp only at *)
    all_goals grind [al, al_upd, fil20, fil400, vin10, vin12, vin13, vin20, vin56, vin130, vin140, vin143, vin200, vin240, vin400, vin8000]
theorem s_X8_unvotes (p1 : Int32) (v8canons : Int32) (v8isOpen : Int32) (f8vote : Nat → Int32) (f8givenTo : Nat → Int32) (Post : (Nat → Int32) × (Nat → Int32) → Prop) (g0 : (0 ≤ p1 ∧ p1 < 20)) (g1 : (0 ≤ v8canons ∧ v8canons < 21)) (g2 : al f8givenTo (-1) 20) (h : ∀ u, al u.2 (-1) 20 → Post u) : wp_X8_unvotes p1 v8canons v8isOpen f8vote f8givenTo Post := by
  delta wp_X8_unvotes
  repeat' first
    | (with_reducible refine And.intro ?_ ?_)
    | (with_reducible refine ⟨_, l_X8_unvotes_24 _ _ _ _ _ _ ?_ ?_ _ _ _ ?_ (Nat.lt_succ_self _)⟩)
    | (with_reducible intro _)
  all_goals (try dsimp only at *)
  all_goals grind [al, al_upd, fil20, fil400, vin10, vin12, vin13, vin20, vin56, vin130, vin140, vin143, vin200, vin240, vin400, vin8000]
theorem s_X8_leaves (p1 : Int32) (v8now : Int32) (f8worth : Nat → Int32) (f8inStall : Nat → Int32) (v8canons : Int32) (f8isThere : Nat → Int32) (f8stallOf : Nat → Int32) (f8wishes : Nat → Int32) (v8moves : Int32) (f8moveOf : Nat → Int32) (f8moveFrom : Nat → Int32) (f8moveTo : Nat → Int32) (f8hasMoved : Nat → Int32) (v8isOpen : Int32) (f8vote : Nat → Int32) (f8givenTo : Nat → Int32) (Post : Int32 → (Nat → Int32) × (Nat → Int32) × (Nat → Int32) × Int32 × (Nat → Int32) × (Nat → Int32) × (Nat → Int32) × (Nat → Int32) × (Nat → Int32) × (Nat → Int32) → Prop) (g0 : (0 ≤ v8canons ∧ v8canons < 21)) (g1 : al f8stallOf (-1) 12) (g2 : (0 ≤ v8moves ∧ v8moves < 21)) (g3 : al f8givenTo (-1) 20) (h : ∀ r u, (al u.2.2.1 (-1) 12 ∧ 0 ≤ u.2.2.2.1 ∧ u.2.2.2.1 < 21 ∧ al u.2.2.2.2.2.2.2.2.2 (-1) 20) → Post r u) : wp_X8_leaves p1 v8now f8worth f8inStall v8canons f8isThere f8stallOf f8wishes v8moves f8moveOf f8moveFrom f8moveTo f8hasMoved v8isOpen f8vote f8givenTo Post := by
  delta wp_X8_leaves
  repeat' first
    | (with_reducible refine And.intro ?_ ?_)
    | (with_reducible refine s_X8_falls _ _ _ _ _ _ _ _ _ _ _ _ _ ?_ ?_ ?_ ?_)
    | (with_reducible refine s_X8_isCanon _ _ _ ?_ ?_)
    | (with_reducible refine s_X8_unvotes _ _ _ _ _ _ ?_ ?_ ?_ ?_)
    | (with_reducible intro _)
  all_goals (try dsimp only at *)
  all_goals grind [al, al_upd, fil20, fil400, vin10, vin12, vin13, vin20, vin56, vin130, vin140, vin143, vin200, vin240, vin400, vin8000]
theorem s_X8_moved (p1 : Int32) (p2 : Int32) (v8moves : Int32) (f8moveOf : Nat → Int32) (f8moveFrom : Nat → Int32) (f8moveTo : Nat → Int32) (Post : Int32 → Unit → Prop) (g0 : (0 ≤ v8moves ∧ v8moves < 21)) (h : ∀ r u, True → Post r u) : wp_X8_moved p1 p2 v8moves f8moveOf f8moveFrom f8moveTo Post := by
  delta wp_X8_moved
  repeat' first
    | (with_reducible refine And.intro ?_ ?_)
    | (with_reducible refine s_X8_in _ _ _ _ ?_)
    | (with_reducible intro _)
  all_goals (try dsimp only at *)
  all_goals grind [al, al_upd, fil20, fil400, vin10, vin12, vin13, vin20, vin56, vin130, vin140, vin143, vin200, vin240, vin400, vin8000]
theorem s_X8_mark (p1 : Int32) (p2 : Int32) (p3 : Int32) (p4 : Int32) (v8now : Int32) (v8canons : Int32) (v8marks : Int32) (f8markOf : Nat → Int32) (f8markDay : Nat → Int32) (f8markHour : Nat → Int32) (f8markIs : Nat → Int32) (f8markKnown : Nat → Int32) (Post : Int32 → Int32 × (Nat → Int32) × (Nat → Int32) × (Nat → Int32) × (Nat → Int32) × (Nat → Int32) → Prop) (g0 : (0 ≤ v8canons ∧ v8canons < 21)) (g1 : (0 ≤ v8marks ∧ v8marks < 401)) (g2 : (0 ≤ v8now ∧ v8now < 401)) (g3 : al f8markOf 0 20) (g4 : al f8markHour 0 7) (g5 : al f8markIs 0 5) (h : ∀ r u, (al u.2.1 0 20 ∧ al u.2.2.2.1 0 7 ∧ al u.2.2.2.2.1 0 5 ∧ ((r = -1 ∧ u.1 = v8marks ∧ (v8now = 400 ∨ p1 < 0 ∨ v8canons ≤ p1 ∨ p2 < 0 ∨ v8now < p2 ∨ p3 < 0 ∨ 7 ≤ p3 ∨ p4 < 0 ∨ 4 < p4 ∨ v8marks = 400)) ∨ (r = v8marks + 1 ∧ u.1 = v8marks + 1 ∧ v8now < 400 ∧ 0 ≤ p1 ∧ p1 < v8canons ∧ 0 ≤ p2 ∧ p2 ≤ v8now ∧ 0 ≤ p3 ∧ p3 < 7 ∧ 0 ≤ p4 ∧ p4 ≤ 4 ∧ v8marks < 400))) → Post r u) : wp_X8_mark p1 p2 p3 p4 v8now v8canons v8marks f8markOf f8markDay f8markHour f8markIs f8markKnown Post := by
  delta wp_X8_mark
  repeat' first
    | (with_reducible refine And.intro ?_ ?_)
    | (with_reducible refine s_X8_in _ _ _ _ ?_)
    | (with_reducible refine s_X8_isCanon _ _ _ ?_ ?_)
    | (with_reducible intro _)
  all_goals (try dsimp only at *)
  all_goals grind [al, al_upd, fil20, fil400, vin10, vin12, vin13, vin20, vin56, vin130, vin140, vin143, vin200, vin240, vin400, vin8000]
theorem s_X8_box (p1 : Int32) (p2 : Int32) (v8now : Int32) (f8box : Nat → Int32) (f8hasBox : Nat → Int32) (Post : Int32 → (Nat → Int32) × (Nat → Int32) → Prop) (g0 : (0 ≤ v8now ∧ v8now < 401)) (h : ∀ r u, ((r = 0 ∧ (∀ j, u.1 j = f8box j) ∧ (∀ j, u.2 j = f8hasBox j) ∧ (v8now = 400 ∨ 400 ≤ p1 ∨ p1 < v8now ∨ p2 < 0 ∨ 100000 < p2 ∨ ¬ f8hasBox p1.toNatClampNeg = 0)) ∨ (r = 1 ∧ v8now < 400 ∧ v8now ≤ p1 ∧ p1 < 400 ∧ 0 ≤ p2 ∧ p2 ≤ 100000 ∧ f8hasBox p1.toNatClampNeg = 0 ∧ (∀ j, u.1 j = if j = p1.toNatClampNeg then p2 else f8box j) ∧ (∀ j, u.2 j = if j = p1.toNatClampNeg then 1 else f8hasBox j))) → Post r u) : wp_X8_box p1 p2 v8now f8box f8hasBox Post := by
  delta wp_X8_box
  repeat' first
    | (with_reducible refine And.intro ?_ ?_)
    | (with_reducible refine s_X8_in _ _ _ _ ?_)
    | (with_reducible intro _)
  all_goals (try dsimp only at *)
  all_goals grind [al, al_upd, fil20, fil400, vin10, vin12, vin13, vin20, vin56, vin130, vin140, vin143, vin200, vin240, vin400, vin8000, nar_b1, upd]
theorem l_X8_markAt_6  (k1 : Int32) (k2 : Int32) (k3 : Int32) (k4 : Int32) (v8marks : Int32) (f8markOf : Nat → Int32) (f8markDay : Nat → Int32) (f8markHour : Nat → Int32) (f8markIs : Nat → Int32) (f8markKnown : Nat → Int32) (Post : Int32 → Unit → Prop) (K : Int32 → Int32 → Prop) (g0 : (0 ≤ v8marks ∧ v8marks < 401)) (hK : ∀ (y5 : Int32) (y6 : Int32), (0 ≤ y6 ∧ y6 ≤ v8marks) → K y5 y6) : ∀ (n : Nat) (y5 : Int32) (y6 : Int32), (0 ≤ y6 ∧ y6 ≤ v8marks) → tn (v8marks - y6) < n → lp_X8_markAt_6 k1 k2 k3 k4 v8marks f8markOf f8markDay f8markHour f8markIs f8markKnown Post K n y5 y6 := by
  intro n
  induction n with
  | zero => intro y5 y6 _ hm; exact absurd hm (Nat.not_lt_zero _)
  | succ n ih =>
    intro y5 y6 hI hm
    rw [lp_X8_markAt_6]
    repeat' first
      | (with_reducible refine And.intro ?_ ?_)
      | (with_reducible refine ih _ _ ?_ (mz ?_ ?_ hm))
      | (with_reducible intro _)
    all_goals (try dsimp only at *)
    all_goals grind [al, al_upd, fil20, fil400, vin10, vin12, vin13, vin20, vin56, vin130, vin140, vin143, vin200, vin240, vin400, vin8000]
theorem s_X8_markAt (p1 : Int32) (p2 : Int32) (p3 : Int32) (p4 : Int32) (v8marks : Int32) (f8markOf : Nat → Int32) (f8markDay : Nat → Int32) (f8markHour : Nat → Int32) (f8markIs : Nat → Int32) (f8markKnown : Nat → Int32) (Post : Int32 → Unit → Prop) (g0 : (0 ≤ v8marks ∧ v8marks < 401)) (h : ∀ r u, True → Post r u) : wp_X8_markAt p1 p2 p3 p4 v8marks f8markOf f8markDay f8markHour f8markIs f8markKnown Post := by
  delta wp_X8_markAt
  repeat' first
    | (with_reducible refine And.intro ?_ ?_)
    | (with_reducible refine ⟨_, l_X8_markAt_6 _ _ _ _ _ _ _ _ _ _ _ _ ?_ ?_ _ _ _ ?_ (Nat.lt_succ_self _)⟩)
    | (with_reducible intro _)
  all_goals (try dsimp only at *)
  all_goals grind [al, al_upd, fil20, fil400, vin10, vin12, vin13, vin20, vin56, vin130, vin140, vin143, vin200, vin240, vin400, vin8000]
theorem s_X8_marked (p1 : Int32) (p2 : Int32) (p3 : Int32) (p4 : Int32) (v8canons : Int32) (v8marks : Int32) (f8markOf : Nat → Int32) (f8markDay : Nat → Int32) (f8markHour : Nat → Int32) (f8markIs : Nat → Int32) (f8markKnown : Nat → Int32) (Post : Int32 → Unit → Prop) (g0 : (0 ≤ v8canons ∧ v8canons < 21)) (g1 : (0 ≤ v8marks ∧ v8marks < 401)) (h : ∀ r u, True → Post r u) : wp_X8_marked p1 p2 p3 p4 v8canons v8marks f8markOf f8markDay f8markHour f8markIs f8markKnown Post := by
  delta wp_X8_marked
  repeat' first
    | (with_reducible refine And.intro ?_ ?_)
    | (with_reducible refine s_X8_in _ _ _ _ ?_)
    | (with_reducible refine s_X8_isCanon _ _ _ ?_ ?_)
    | (with_reducible refine s_X8_isDay _ _ ?_)
    | (with_reducible refine s_X8_markAt _ _ _ _ _ _ _ _ _ _ _ ?_ ?_)
    | (with_reducible intro _)
  all_goals (try dsimp only at *)
  all_goals grind [al, al_upd, fil20, fil400, vin10, vin12, vin13, vin20, vin56, vin130, vin140, vin143, vin200, vin240, vin400, vin8000]
theorem l_X8_actAt_5  (k1 : Int32) (k2 : Int32) (v8acts : Int32) (f8actFrom : Nat → Int32) (f8actKnown : Nat → Int32) (f8actUndone : Nat → Int32) (Post : Int32 → Unit → Prop) (K : Int32 → Int32 → Prop) (g0 : (0 ≤ v8acts ∧ v8acts < 11)) (hK : ∀ (y3 : Int32) (y4 : Int32), (0 ≤ y4 ∧ y4 ≤ v8acts ∧ -1 ≤ y3 ∧ y3 < 10) → K y3 y4) : ∀ (n : Nat) (y3 : Int32) (y4 : Int32), (0 ≤ y4 ∧ y4 ≤ v8acts ∧ -1 ≤ y3 ∧ y3 < 10) → tn (v8acts - y4) < n → lp_X8_actAt_5 k1 k2 v8acts f8actFrom f8actKnown f8actUndone Post K n y3 y4 := by
  intro n
  induction n with
  | zero => intro y3 y4 _ hm; exact absurd hm (Nat.not_lt_zero _)
  | succ n ih =>
    intro y3 y4 hI hm
    rw [lp_X8_actAt_5]
    repeat' first
      | (with_reducible refine And.intro ?_ ?_)
      | (with_reducible refine ih _ _ ?_ (mz ?_ ?_ hm))
      | (with_reducible intro _)
    all_goals (try dsimp only at *)
    all_goals grind [al, al_upd, fil20, fil400, vin10, vin12, vin13, vin20, vin56, vin130, vin140, vin143, vin200, vin240, vin400, vin8000]
theorem s_X8_actAt (p1 : Int32) (p2 : Int32) (v8acts : Int32) (f8actFrom : Nat → Int32) (f8actKnown : Nat → Int32) (f8actUndone : Nat → Int32) (Post : Int32 → Unit → Prop) (g0 : (0 ≤ v8acts ∧ v8acts < 11)) (h : ∀ r u, (-1 ≤ r ∧ r < 10) → Post r u) : wp_X8_actAt p1 p2 v8acts f8actFrom f8actKnown f8actUndone Post := by
  delta wp_X8_actAt
  repeat' first
    | (with_reducible refine And.intro ?_ ?_)
    | (with_reducible refine ⟨_, l_X8_actAt_5 _ _ _ _ _ _ _ _ ?_ ?_ _ _ _ ?_ (Nat.lt_succ_self _)⟩)
    | (with_reducible intro _)
  all_goals (try dsimp only at *)
  all_goals grind [al, al_upd, fil20, fil400, vin10, vin12, vin13, vin20, vin56, vin130, vin140, vin143, vin200, vin240, vin400, vin8000]
theorem s_X8_without (p0 : Int32) (Post : Int32 → Unit → Prop)  (h : ∀ r u, True → Post r u) : wp_X8_without p0 Post := by
  delta wp_X8_without
  repeat' first
    | (with_reducible refine And.intro ?_ ?_)
    | (with_reducible intro _)
  all_goals (try dsimp only at *)
  all_goals grind [al, al_upd, fil20, fil400, vin10, vin12, vin13, vin20, vin56, vin130, vin140, vin143, vin200, vin240, vin400, vin8000]
theorem s_X8_numberAt (p1 : Int32) (p2 : Int32) (p3 : Int32) (v8acts : Int32) (f8actNumber : Nat → Int32) (f8actFrom : Nat → Int32) (f8actKnown : Nat → Int32) (f8actUndone : Nat → Int32) (Post : Int32 → Unit → Prop) (g0 : (0 ≤ v8acts ∧ v8acts < 11)) (g1 : (0 ≤ p3 ∧ p3 < 13)) (h : ∀ r u, True → Post r u) : wp_X8_numberAt p1 p2 p3 v8acts f8actNumber f8actFrom f8actKnown f8actUndone Post := by
  delta wp_X8_numberAt
  repeat' first
    | (with_reducible refine And.intro ?_ ?_)
    | (with_reducible refine s_X8_actAt _ _ _ _ _ _ _ ?_ ?_)
    | (with_reducible refine s_X8_without _ _ ?_)
    | (with_reducible intro _)
  all_goals (try dsimp only at *)
  all_goals grind [al, al_upd, fil20, fil400, vin10, vin12, vin13, vin20, vin56, vin130, vin140, vin143, vin200, vin240, vin400, vin8000]
theorem s_X8_holds (p1 : Int32) (p2 : Int32) (p3 : Int32) (v8acts : Int32) (f8actNumber : Nat → Int32) (f8actFrom : Nat → Int32) (f8actKnown : Nat → Int32) (f8actUndone : Nat → Int32) (Post : Int32 → Unit → Prop) (g0 : (0 ≤ v8acts ∧ v8acts < 11)) (h : ∀ r u, True → Post r u) : wp_X8_holds p1 p2 p3 v8acts f8actNumber f8actFrom f8actKnown f8actUndone Post := by
  delta wp_X8_holds
  repeat' first
    | (with_reducible refine And.intro ?_ ?_)
    | (with_reducible refine s_X8_actAt _ _ _ _ _ _ _ ?_ ?_)
    | (with_reducible refine s_X8_in _ _ _ _ ?_)
    | (with_reducible refine s_X8_isDay _ _ ?_)
    | (with_reducible refine s_X8_numberAt _ _ _ _ _ _ _ _ _ ?_ ?_ ?_)
    | (with_reducible intro _)
  all_goals (try dsimp only at *)
  all_goals grind [al, al_upd, fil20, fil400, vin10, vin12, vin13, vin20, vin56, vin130, vin140, vin143, vin200, vin240, vin400, vin8000]
theorem l_X8_pointsAt_2  (k1 : Int32) (k2 : Int32) (v8canons : Int32) (v8marks : Int32) (f8markOf : Nat → Int32) (f8markDay : Nat → Int32) (f8markHour : Nat → Int32) (f8markIs : Nat → Int32) (f8markKnown : Nat → Int32) (v8acts : Int32) (f8actNumber : Nat → Int32) (f8actFrom : Nat → Int32) (f8actKnown : Nat → Int32) (f8actUndone : Nat → Int32) (f8pointsOf : Nat → Int32) (v8allPoints : Int32) (Post : (Nat → Int32) × (Nat → Int32) × Int32 → Prop) (K : Int32 → (Nat → Int32) → Prop)  (hK : ∀ (y3 : Int32) (f8dayMark : Nat → Int32), (0 ≤ y3 ∧ y3 ≤ 140 ∧ al f8dayMark 0 5) → K y3 f8dayMark) : ∀ (n : Nat) (y3 : Int32) (f8dayMark : Nat → Int32), (0 ≤ y3 ∧ y3 ≤ 140 ∧ al f8dayMark 0 5) → tn (140 - y3) < n → lp_X8_pointsAt_2 k1 k2 v8canons v8marks f8markOf f8markDay f8markHour f8markIs f8markKnown v8acts f8actNumber f8actFrom f8actKnown f8actUndone f8pointsOf v8allPoints Post K n y3 f8dayMark := by
  intro n
  induction n with
  | zero => intro y3 f8dayMark _ hm; exact absurd hm (Nat.not_lt_zero _)
  | succ n ih =>
    intro y3 f8dayMark hI hm
    rw [lp_X8_pointsAt_2]
    repeat' first
      | (with_reducible refine And.intro ?_ ?_)
      | (with_reducible refine ih _ _ ?_ (mz ?_ ?_ hm))
      | (with_reducible intro _)
    all_goals (try dsimp only at *)
    all_goals grind [al, al_upd, fil20, fil400, vin10, vin12, vin13, vin20, vin56, vin130, vin140, vin143, vin200, vin240, vin400, vin8000]
theorem l_X8_pointsAt_24  (k1 : Int32) (k2 : Int32) (v8canons : Int32) (v8marks : Int32) (f8markOf : Nat → Int32) (f8markDay : Nat → Int32) (f8markHour : Nat → Int32) (f8markIs : Nat → Int32) (f8markKnown : Nat → Int32) (v8acts : Int32) (f8actNumber : Nat → Int32) (f8actFrom : Nat → Int32) (f8actKnown : Nat → Int32) (f8actUndone : Nat → Int32) (f8pointsOf : Nat → Int32) (v8allPoints : Int32) (Post : (Nat → Int32) × (Nat → Int32) × Int32 → Prop) (K : Int32 → (Nat → Int32) → Prop) (g0 : (0 ≤ v8marks ∧ v8marks < 401)) (g1 : al f8markOf 0 20) (g2 : al f8markHour 0 7) (g3 : al f8markIs 0 5) (hK : ∀ (y3 : Int32) (f8dayMark : Nat → Int32), (0 ≤ y3 ∧ y3 ≤ v8marks ∧ al f8dayMark 0 5) → K y3 f8dayMark) : ∀ (n : Nat) (y3 : Int32) (f8dayMark : Nat → Int32), (0 ≤ y3 ∧ y3 ≤ v8marks ∧ al f8dayMark 0 5) → tn (v8marks - y3) < n → lp_X8_pointsAt_24 k1 k2 v8canons v8marks f8markOf f8markDay f8markHour f8markIs f8markKnown v8acts f8actNumber f8actFrom f8actKnown f8actUndone f8pointsOf v8allPoints Post K n y3 f8dayMark := by
  intro n
  induction n with
  | zero => intro y3 f8dayMark _ hm; exact absurd hm (Nat.not_lt_zero _)
  | succ n ih =>
    intro y3 f8dayMark hI hm
    rw [lp_X8_pointsAt_24]
    repeat' first
      | (with_reducible refine And.intro ?_ ?_)
      | (with_reducible refine ih _ _ ?_ (mz ?_ ?_ hm))
      | (with_reducible intro _)
    all_goals (try dsimp only at *)
    all_goals grind [al, al_upd, fil20, fil400, vin10, vin12, vin13, vin20, vin56, vin130, vin140, vin143, vin200, vin240, vin400, vin8000]
theorem l_X8_pointsAt_115  (k1 : Int32) (k2 : Int32) (k3 : Int32) (k4 : Int32) (v8canons : Int32) (v8marks : Int32) (f8markOf : Nat → Int32) (f8markDay : Nat → Int32) (f8markHour : Nat → Int32) (f8markIs : Nat → Int32) (f8markKnown : Nat → Int32) (v8acts : Int32) (f8actNumber : Nat → Int32) (f8actFrom : Nat → Int32) (f8actKnown : Nat → Int32) (f8actUndone : Nat → Int32) (f8dayMark : Nat → Int32) (f8pointsOf : Nat → Int32) (v8allPoints : Int32) (Post : (Nat → Int32) × (Nat → Int32) × Int32 → Prop) (K : Int32 → Int32 → Prop) (g0 : (-1 ≤ k3 ∧ k3 < 10)) (g1 : (0 ≤ k4 ∧ k4 < 20)) (g2 : al f8dayMark 0 5) (hK : ∀ (y5 : Int32) (y6 : Int32), (0 ≤ y6 ∧ y6 ≤ 7) → K y5 y6) : ∀ (n : Nat) (y5 : Int32) (y6 : Int32), (0 ≤ y6 ∧ y6 ≤ 7) → tn (7 - y6) < n → lp_X8_pointsAt_115 k1 k2 k3 k4 v8canons v8marks f8markOf f8markDay f8markHour f8markIs f8markKnown v8acts f8actNumber f8actFrom f8actKnown f8actUndone f8dayMark f8pointsOf v8allPoints Post K n y5 y6 := by
  intro n
  induction n with
  | zero => intro y5 y6 _ hm; exact absurd hm (Nat.not_lt_zero _)
  | succ n ih =>
    intro y5 y6 hI hm
    rw [lp_X8_pointsAt_115]
    repeat' first
      | (with_reducible refine And.intro ?_ ?_)
      | (with_reducible refine s_X8_without _ _ ?_)
      | (with_reducible refine ih _ _ ?_ (mz ?_ ?_ hm))
      | (with_reducible intro _)
    all_goals (try dsimp only at *)
    all_goals grind [al, al_upd, fil20, fil400, vin10, vin12, vin13, vin20, vin56, vin130, vin140, vin143, vin200, vin240, vin400, vin8000]
theorem l_X8_pointsAt_100  (k1 : Int32) (k2 : Int32) (k3 : Int32) (v8canons : Int32) (v8marks : Int32) (f8markOf : Nat → Int32) (f8markDay : Nat → Int32) (f8markHour : Nat → Int32) (f8markIs : Nat → Int32) (f8markKnown : Nat → Int32) (v8acts : Int32) (f8actNumber : Nat → Int32) (f8actFrom : Nat → Int32) (f8actKnown : Nat → Int32) (f8actUndone : Nat → Int32) (f8dayMark : Nat → Int32) (Post : (Nat → Int32) × (Nat → Int32) × Int32 → Prop) (K : Int32 → (Nat → Int32) → Int32 → Prop) (g0 : (0 ≤ v8canons ∧ v8canons < 21)) (g1 : (-1 ≤ k3 ∧ k3 < 10)) (g2 : al f8dayMark 0 5) (hK : ∀ (y4 : Int32) (f8pointsOf : Nat → Int32) (v8allPoints : Int32), (0 ≤ y4 ∧ y4 ≤ v8canons) → K y4 f8pointsOf v8allPoints) : ∀ (n : Nat) (y4 : Int32) (f8pointsOf : Nat → Int32) (v8allPoints : Int32), (0 ≤ y4 ∧ y4 ≤ v8canons) → tn (v8canons - y4) < n → lp_X8_pointsAt_100 k1 k2 k3 v8canons v8marks f8markOf f8markDay f8markHour f8markIs f8markKnown v8acts f8actNumber f8actFrom f8actKnown f8actUndone f8dayMark Post K n y4 f8pointsOf v8allPoints := by
  intro n
  induction n with
  | zero => intro y4 f8pointsOf v8allPoints _ hm; exact absurd hm (Nat.not_lt_zero _)
  | succ n ih =>
    intro y4 f8pointsOf v8allPoints hI hm
    rw [lp_X8_pointsAt_100]
    repeat' first
      | (with_reducible refine And.intro ?_ ?_)
      | (with_reducible refine ⟨_, l_X8_pointsAt_115 _ _ _ _ _ _ _ _ _ _ _ _ _ _ _ _ _ _ _ _ _ ?_ ?_ ?_ ?_ _ _ _ ?_ (Nat.lt_succ_self _)⟩)
      | (with_reducible refine ih _ _ _ ?_ (mz ?_ ?_ hm))
      | (with_reducible intro _)
    all_goals (try dsimp only at *)
    all_goals grind [al, al_upd, fil20, fil400, vin10, vin12, vin13, vin20, vin56, vin130, vin140, vin143, vin200, vin240, vin400, vin8000]
theorem s_X8_pointsAt (p1 : Int32) (p2 : Int32) (v8canons : Int32) (v8marks : Int32) (f8markOf : Nat → Int32) (f8markDay : Nat → Int32) (f8markHour : Nat → Int32) (f8markIs : Nat → Int32) (f8markKnown : Nat → Int32) (v8acts : Int32) (f8actNumber : Nat → Int32) (f8actFrom : Nat → Int32) (f8actKnown : Nat → Int32) (f8actUndone : Nat → Int32) (f8dayMark : Nat → Int32) (f8pointsOf : Nat → Int32) (v8allPoints : Int32) (Post : (Nat → Int32) × (Nat → Int32) × Int32 → Prop) (g0 : (0 ≤ v8canons ∧ v8canons < 21)) (g1 : (0 ≤ v8marks ∧ v8marks < 401)) (g2 : al f8markOf 0 20) (g3 : al f8markHour 0 7) (g4 : al f8markIs 0 5) (g5 : (0 ≤ v8acts ∧ v8acts < 11)) (g6 : al f8dayMark 0 5) (h : ∀ u, al u.1 0 5 → Post u) : wp_X8_pointsAt p1 p2 v8canons v8marks f8markOf f8markDay f8markHour f8markIs f8markKnown v8acts f8actNumber f8actFrom f8actKnown f8actUndone f8dayMark f8pointsOf v8allPoints Post := by
  delta wp_X8_pointsAt
  repeat' first
    | (with_reducible refine And.intro ?_ ?_)
    | (with_reducible refine s_X8_actAt _ _ _ _ _ _ _ ?_ ?_)
    | (with_reducible refine ⟨_, l_X8_pointsAt_100 _ _ _ _ _ _ _ _ _ _ _ _ _ _ _ _ _ _ ?_ ?_ ?_ ?_ _ _ _ _ ?_ (Nat.lt_succ_self _)⟩)
    | (with_reducible refine ⟨_, l_X8_pointsAt_2 _ _ _ _ _ _ _ _ _ _ _ _ _ _ _ _ _ _ ?_ _ _ _ ?_ (Nat.lt_succ_self _)⟩)
    | (with_reducible refine ⟨_, l_X8_pointsAt_24 _ _ _ _ _ _ _ _ _ _ _ _ _ _ _ _ _ _ ?_ ?_ ?_ ?_ ?_ _ _ _ ?_ (Nat.lt_succ_self _)⟩)
    | (with_reducible intro _)
  all_goals (try dsimp only at *)
  all_goals grind [al, al_upd, fil20, fil400, vin10, vin12, vin13, vin20, vin56, vin130, vin140, vin143, vin200, vin240, vin400, vin8000]
theorem l_X8_sharesAt_94  (k1 : Int32) (k2 : Int32) (v8canons : Int32) (v8marks : Int32) (f8markOf : Nat → Int32) (f8markDay : Nat → Int32) (f8markHour : Nat → Int32) (f8markIs : Nat → Int32) (f8markKnown : Nat → Int32) (f8box : Nat → Int32) (v8acts : Int32) (f8actNumber : Nat → Int32) (f8actFrom : Nat → Int32) (f8actKnown : Nat → Int32) (f8actUndone : Nat → Int32) (f8dayMark : Nat → Int32) (f8pointsOf : Nat → Int32) (v8allPoints : Int32) (Post : Int32 → (Nat → Int32) × (Nat → Int32) × (Nat → Int32) × Int32 → Prop) (K : Int32 → Int32 → (Nat → Int32) → Prop) (g0 : (0 ≤ v8canons ∧ v8canons < 21)) (hK : ∀ (y3 : Int32) (y4 : Int32) (f8sharesOf : Nat → Int32), (0 ≤ y4 ∧ y4 ≤ v8canons) → K y3 y4 f8sharesOf) : ∀ (n : Nat) (y3 : Int32) (y4 : Int32) (f8sharesOf : Nat → Int32), (0 ≤ y4 ∧ y4 ≤ v8canons) → tn (v8canons - y4) < n → lp_X8_sharesAt_94 k1 k2 v8canons v8marks f8markOf f8markDay f8markHour f8markIs f8markKnown f8box v8acts f8actNumber f8actFrom f8actKnown f8actUndone f8dayMark f8pointsOf v8allPoints Post K n y3 y4 f8sharesOf := by
  intro n
  induction n with
  | zero => intro y3 y4 f8sharesOf _ hm; exact absurd hm (Nat.not_lt_zero _)
  | succ n ih =>
    intro y3 y4 f8sharesOf hI hm
    rw [lp_X8_sharesAt_94]
    repeat' first
      | (with_reducible refine And.intro ?_ ?_)
      | (with_reducible refine ih _ _ _ ?_ (mz ?_ ?_ hm))
      | (with_reducible intro _)
    all_goals (try dsimp only at *)
    all_goals grind [al, al_upd, fil20, fil400, vin10, vin12, vin13, vin20, vin56, vin130, vin140, vin143, vin200, vin240, vin400, vin8000]
theorem l_X8_sharesAt_16  (k1 : Int32) (k2 : Int32) (v8canons : Int32) (v8marks : Int32) (f8markOf : Nat → Int32) (f8markDay : Nat → Int32) (f8markHour : Nat → Int32) (f8markIs : Nat → Int32) (f8markKnown : Nat → Int32) (f8box : Nat → Int32) (v8acts : Int32) (f8actNumber : Nat → Int32) (f8actFrom : Nat → Int32) (f8actKnown : Nat → Int32) (f8actUndone : Nat → Int32) (f8dayMark : Nat → Int32) (f8pointsOf : Nat → Int32) (v8allPoints : Int32) (Post : Int32 → (Nat → Int32) × (Nat → Int32) × (Nat → Int32) × Int32 → Prop) (K : Int32 → Int32 → (Nat → Int32) → Prop) (g0 : (0 ≤ v8canons ∧ v8canons < 21)) (g1 : (0 ≤ k1 ∧ k1 < 400)) (hK : ∀ (y3 : Int32) (y4 : Int32) (f8sharesOf : Nat → Int32), (0 ≤ y4 ∧ y4 ≤ v8canons) → K y3 y4 f8sharesOf) : ∀ (n : Nat) (y3 : Int32) (y4 : Int32) (f8sharesOf : Nat → Int32), (0 ≤ y4 ∧ y4 ≤ v8canons) → tn (v8canons - y4) < n → lp_X8_sharesAt_16 k1 k2 v8canons v8marks f8markOf f8markDay f8markHour f8markIs f8markKnown f8box v8acts f8actNumber f8actFrom f8actKnown f8actUndone f8dayMark f8pointsOf v8allPoints Post K n y3 y4 f8sharesOf := by
  intro n
  induction n with
  | zero => intro y3 y4 f8sharesOf _ hm; exact absurd hm (Nat.not_lt_zero _)
  | succ n ih =>
    intro y3 y4 f8sharesOf hI hm
    rw [lp_X8_sharesAt_16]
    repeat' first
      | (with_reducible refine And.intro ?_ ?_)
      | (with_reducible refine ih _ _ _ ?_ (mz ?_ ?_ hm))
      | (with_reducible intro _)
    all_goals (try dsimp only at *)
    all_goals grind [al, al_upd, fil20, fil400, vin10, vin12, vin13, vin20, vin56, vin130, vin140, vin143, vin200, vin240, vin400, vin8000, l64]
theorem s_X8_sharesAt (p1 : Int32) (p2 : Int32) (v8canons : Int32) (v8marks : Int32) (f8markOf : Nat → Int32) (f8markDay : Nat → Int32) (f8markHour : Nat → Int32) (f8markIs : Nat → Int32) (f8markKnown : Nat → Int32) (f8box : Nat → Int32) (v8acts : Int32) (f8actNumber : Nat → Int32) (f8actFrom : Nat → Int32) (f8actKnown : Nat → Int32) (f8actUndone : Nat → Int32) (f8dayMark : Nat → Int32) (f8pointsOf : Nat → Int32) (f8sharesOf : Nat → Int32) (v8allPoints : Int32) (Post : Int32 → (Nat → Int32) × (Nat → Int32) × (Nat → Int32) × Int32 → Prop) (g0 : (0 ≤ p1 ∧ p1 < 400)) (g1 : (0 ≤ v8canons ∧ v8canons < 21)) (g2 : (0 ≤ v8marks ∧ v8marks < 401)) (g3 : al f8markOf 0 20) (g4 : al f8markHour 0 7) (g5 : al f8markIs 0 5) (g6 : (0 ≤ v8acts ∧ v8acts < 11)) (g7 : al f8dayMark 0 5) (h : ∀ r u, al u.1 0 5 → Post r u) : wp_X8_sharesAt p1 p2 v8canons v8marks f8markOf f8markDay f8markHour f8markIs f8markKnown f8box v8acts f8actNumber f8actFrom f8actKnown f8actUndone f8dayMark f8pointsOf f8sharesOf v8allPoints Post := by
  delta wp_X8_sharesAt
  repeat' first
    | (with_reducible refine And.intro ?_ ?_)
    | (with_reducible refine s_X8_pointsAt _ _ _ _ _ _ _ _ _ _ _ _ _ _ _ _ _ _ ?_ ?_ ?_ ?_ ?_ ?_ ?_ ?_)
    | (with_reducible refine ⟨_, l_X8_sharesAt_16 _ _ _ _ _ _ _ _ _ _ _ _ _ _ _ _ _ _ _ _ ?_ ?_ ?_ _ _ _ _ ?_ (Nat.lt_succ_self _)⟩)
    | (with_reducible refine ⟨_, l_X8_sharesAt_94 _ _ _ _ _ _ _ _ _ _ _ _ _ _ _ _ _ _ _ _ ?_ ?_ _ _ _ _ ?_ (Nat.lt_succ_self _)⟩)
    | (with_reducible intro _)
  all_goals (try dsimp only at *)
  all_goals grind [al, al_upd, fil20, fil400, vin10, vin12, vin13, vin20, vin56, vin130, vin140, vin143, vin200, vin240, vin400, vin8000]
theorem s_X8_points (p1 : Int32) (p2 : Int32) (p3 : Int32) (v8canons : Int32) (v8marks : Int32) (f8markOf : Nat → Int32) (f8markDay : Nat → Int32) (f8markHour : Nat → Int32) (f8markIs : Nat → Int32) (f8markKnown : Nat → Int32) (v8acts : Int32) (f8actNumber : Nat → Int32) (f8actFrom : Nat → Int32) (f8actKnown : Nat → Int32) (f8actUndone : Nat → Int32) (f8dayMark : Nat → Int32) (f8pointsOf : Nat → Int32) (v8allPoints : Int32) (Post : Int32 → (Nat → Int32) × (Nat → Int32) × Int32 → Prop) (g0 : (0 ≤ v8canons ∧ v8canons < 21)) (g1 : (0 ≤ v8marks ∧ v8marks < 401)) (g2 : al f8markOf 0 20) (g3 : al f8markHour 0 7) (g4 : al f8markIs 0 5) (g5 : (0 ≤ v8acts ∧ v8acts < 11)) (g6 : al f8dayMark 0 5) (h : ∀ r u, al u.1 0 5 → Post r u) : wp_X8_points p1 p2 p3 v8canons v8marks f8markOf f8markDay f8markHour f8markIs f8markKnown v8acts f8actNumber f8actFrom f8actKnown f8actUndone f8dayMark f8pointsOf v8allPoints Post := by
  delta wp_X8_points
  repeat' first
    | (with_reducible refine And.intro ?_ ?_)
    | (with_reducible refine s_X8_isCanon _ _ _ ?_ ?_)
    | (with_reducible refine s_X8_isDay _ _ ?_)
    | (with_reducible refine s_X8_pointsAt _ _ _ _ _ _ _ _ _ _ _ _ _ _ _ _ _ _ ?_ ?_ ?_ ?_ ?_ ?_ ?_ ?_)
    | (with_reducible intro _)
  all_goals (try dsimp only at *)
  all_goals grind [al, al_upd, fil20, fil400, vin10, vin12, vin13, vin20, vin56, vin130, vin140, vin143, vin200, vin240, vin400, vin8000]
theorem s_X8_share (p1 : Int32) (p2 : Int32) (p3 : Int32) (v8canons : Int32) (v8marks : Int32) (f8markOf : Nat → Int32) (f8markDay : Nat → Int32) (f8markHour : Nat → Int32) (f8markIs : Nat → Int32) (f8markKnown : Nat → Int32) (f8box : Nat → Int32) (v8acts : Int32) (f8actNumber : Nat → Int32) (f8actFrom : Nat → Int32) (f8actKnown : Nat → Int32) (f8actUndone : Nat → Int32) (f8dayMark : Nat → Int32) (f8pointsOf : Nat → Int32) (f8sharesOf : Nat → Int32) (v8allPoints : Int32) (Post : Int32 → (Nat → Int32) × (Nat → Int32) × (Nat → Int32) × Int32 → Prop) (g0 : (0 ≤ v8canons ∧ v8canons < 21)) (g1 : (0 ≤ v8marks ∧ v8marks < 401)) (g2 : al f8markOf 0 20) (g3 : al f8markHour 0 7) (g4 : al f8markIs 0 5) (g5 : (0 ≤ v8acts ∧ v8acts < 11)) (g6 : al f8dayMark 0 5) (h : ∀ r u, al u.1 0 5 → Post r u) : wp_X8_share p1 p2 p3 v8canons v8marks f8markOf f8markDay f8markHour f8markIs f8markKnown f8box v8acts f8actNumber f8actFrom f8actKnown f8actUndone f8dayMark f8pointsOf f8sharesOf v8allPoints Post := by
  delta wp_X8_share
  repeat' first
    | (with_reducible refine And.intro ?_ ?_)
    | (with_reducible refine s_X8_isCanon _ _ _ ?_ ?_)
    | (with_reducible refine s_X8_isDay _ _ ?_)
    | (with_reducible refine s_X8_sharesAt _ _ _ _ _ _ _ _ _ _ _ _ _ _ _ _ _ _ _ _ ?_ ?_ ?_ ?_ ?_ ?_ ?_ ?_ ?_)
    | (with_reducible intro _)
  all_goals (try dsimp only at *)
  all_goals grind [al, al_upd, fil20, fil400, vin10, vin12, vin13, vin20, vin56, vin130, vin140, vin143, vin200, vin240, vin400, vin8000]
theorem l_X8_night_35  (v8now : Int32) (f8worth : Nat → Int32) (v8canons : Int32) (f8stallOf : Nat → Int32) (v8fabric : Int32) (v8marks : Int32) (f8markOf : Nat → Int32) (f8markDay : Nat → Int32) (f8markHour : Nat → Int32) (f8markIs : Nat → Int32) (f8markKnown : Nat → Int32) (f8box : Nat → Int32) (v8acts : Int32) (f8actNumber : Nat → Int32) (f8actFrom : Nat → Int32) (f8actKnown : Nat → Int32) (f8actUndone : Nat → Int32) (f8dayMark : Nat → Int32) (f8pointsOf : Nat → Int32) (f8sharesOf : Nat → Int32) (v8allPoints : Int32) (Post : Int32 → Int32 × (Nat → Int32) × (Nat → Int32) × Int32 × (Nat → Int32) × (Nat → Int32) × (Nat → Int32) × (Nat → Int32) × Int32 → Prop) (K : Int32 → (Nat → Int32) → (Nat → Int32) → (Nat → Int32) → Prop) (g0 : (0 ≤ v8now ∧ v8now < 400)) (g1 : (0 ≤ v8canons ∧ v8canons < 21)) (g2 : al f8stallOf (-1) 12) (hK : ∀ (y1 : Int32) (f8paidShares : Nat → Int32) (f8paidWorth : Nat → Int32) (f8paid : Nat → Int32), (0 ≤ y1 ∧ y1 ≤ v8canons) → K y1 f8paidShares f8paidWorth f8paid) : ∀ (n : Nat) (y1 : Int32) (f8paidShares : Nat → Int32) (f8paidWorth : Nat → Int32) (f8paid : Nat → Int32), (0 ≤ y1 ∧ y1 ≤ v8canons) → tn (v8canons - y1) < n → lp_X8_night_35 v8now f8worth v8canons f8stallOf v8fabric v8marks f8markOf f8markDay f8markHour f8markIs f8markKnown f8box v8acts f8actNumber f8actFrom f8actKnown f8actUndone f8dayMark f8pointsOf f8sharesOf v8allPoints Post K n y1 f8paidShares f8paidWorth f8paid := by
  intro n
  induction n with
  | zero => intro y1 f8paidShares f8paidWorth f8paid _ hm; exact absurd hm (Nat.not_lt_zero _)
  | succ n ih =>
    intro y1 f8paidShares f8paidWorth f8paid hI hm
    rw [lp_X8_night_35]
    repeat' first
      | (with_reducible refine And.intro ?_ ?_)
      | (with_reducible refine ih _ _ _ _ ?_ (mz ?_ ?_ hm))
      | (with_reducible intro _)
    all_goals (try dsimp only at *)
    all_goals grind [al, al_upd, fil20, fil400, vin10, vin12, vin13, vin20, vin56, vin130, vin140, vin143, vin200, vin240, vin400, vin8000]
theorem s_X8_night (v8now : Int32) (f8worth : Nat → Int32) (v8canons : Int32) (f8stallOf : Nat → Int32) (f8paidShares : Nat → Int32) (f8paidWorth : Nat → Int32) (v8fabric : Int32) (v8marks : Int32) (f8markOf : Nat → Int32) (f8markDay : Nat → Int32) (f8markHour : Nat → Int32) (f8markIs : Nat → Int32) (f8markKnown : Nat → Int32) (f8box : Nat → Int32) (f8paid : Nat → Int32) (v8acts : Int32) (f8actNumber : Nat → Int32) (f8actFrom : Nat → Int32) (f8actKnown : Nat → Int32) (f8actUndone : Nat → Int32) (f8dayMark : Nat → Int32) (f8pointsOf : Nat → Int32) (f8sharesOf : Nat → Int32) (v8allPoints : Int32) (Post : Int32 → Int32 × (Nat → Int32) × (Nat → Int32) × Int32 × (Nat → Int32) × (Nat → Int32) × (Nat → Int32) × (Nat → Int32) × Int32 → Prop) (g0 : (0 ≤ v8now ∧ v8now < 401)) (g1 : al f8stallOf (-1) 12) (g2 : (0 ≤ v8canons ∧ v8canons < 21)) (g3 : (0 ≤ v8marks ∧ v8marks < 401)) (g4 : al f8markOf 0 20) (g5 : al f8markHour 0 7) (g6 : al f8markIs 0 5) (g7 : (0 ≤ v8acts ∧ v8acts < 11)) (g8 : al f8dayMark 0 5) (h : ∀ r u, (al u.2.2.2.2.2.1 0 5 ∧ ((r = -1 ∧ v8now = 400 ∧ u.1 = v8now) ∨ (r = v8now + 1 ∧ v8now < 400 ∧ u.1 = v8now + 1))) → Post r u) : wp_X8_night v8now f8worth v8canons f8stallOf f8paidShares f8paidWorth v8fabric v8marks f8markOf f8markDay f8markHour f8markIs f8markKnown f8box f8paid v8acts f8actNumber f8actFrom f8actKnown f8actUndone f8dayMark f8pointsOf f8sharesOf v8allPoints Post := by
  delta wp_X8_night
  repeat' first
    | (with_reducible refine And.intro ?_ ?_)
    | (with_reducible refine s_X8_sharesAt _ _ _ _ _ _ _ _ _ _ _ _ _ _ _ _ _ _ _ _ ?_ ?_ ?_ ?_ ?_ ?_ ?_ ?_ ?_)
    | (with_reducible refine ⟨_, l_X8_night_35 _ _ _ _ _ _ _ _ _ _ _ _ _ _ _ _ _ _ _ _ _ _ _ ?_ ?_ ?_ ?_ _ _ _ _ _ ?_ (Nat.lt_succ_self _)⟩)
    | (with_reducible intro _)
  all_goals (try dsimp only at *)
  all_goals grind [al, al_upd, fil20, fil400, vin10, vin12, vin13, vin20, vin56, vin130, vin140, vin143, vin200, vin240, vin400, vin8000]
theorem s_X8_paid (p1 : Int32) (p2 : Int32) (v8now : Int32) (v8canons : Int32) (f8paid : Nat → Int32) (Post : Int32 → Unit → Prop) (g0 : (0 ≤ v8now ∧ v8now < 401)) (g1 : (0 ≤ v8canons ∧ v8canons < 21)) (h : ∀ r u, True → Post r u) : wp_X8_paid p1 p2 v8now v8canons f8paid Post := by
  delta wp_X8_paid
  have e : (v8now - 1) < 400 := by grind
  clear g0
  generalize v8now - 1 = w at e ⊢
  repeat' first
    | (with_reducible refine And.intro ?_ ?_)
    | (with_reducible refine s_X8_in _ _ _ _ ?_)
    | (with_reducible refine s_X8_isCanon _ _ _ ?_ ?_)
    | (with_reducible intro _)
  all_goals (try dsimp only at *)
  all_goals grind [al, al_upd, fil20, fil400, vin10, vin12, vin13, vin20, vin56, vin130, vin140, vin143, vin200, vin240, vin400, vin8000]
theorem l_X8_back_14  (k1 : Int32) (v8now : Int32) (v8canons : Int32) (v8marks : Int32) (f8markOf : Nat → Int32) (f8markDay : Nat → Int32) (f8markHour : Nat → Int32) (f8markIs : Nat → Int32) (f8markKnown : Nat → Int32) (f8box : Nat → Int32) (f8paid : Nat → Int32) (v8acts : Int32) (f8actNumber : Nat → Int32) (f8actFrom : Nat → Int32) (f8actKnown : Nat → Int32) (f8actUndone : Nat → Int32) (Post : Int32 → (Nat → Int32) × (Nat → Int32) × (Nat → Int32) × Int32 → Prop) (K : Int32 → Int32 → (Nat → Int32) → (Nat → Int32) → (Nat → Int32) → Int32 → Prop) (g0 : (0 ≤ k1 ∧ k1 < 20)) (g1 : (0 ≤ v8now ∧ v8now < 401)) (g2 : (0 ≤ v8canons ∧ v8canons < 21)) (g3 : (0 ≤ v8marks ∧ v8marks < 401)) (g4 : al f8markOf 0 20) (g5 : al f8markHour 0 7) (g6 : al f8markIs 0 5) (g7 : (0 ≤ v8acts ∧ v8acts < 11)) (hK : ∀ (y2 : Int32) (y3 : Int32) (f8dayMark : Nat → Int32) (f8pointsOf : Nat → Int32) (f8sharesOf : Nat → Int32) (v8allPoints : Int32), (0 ≤ y3 ∧ y3 ≤ v8now ∧ al f8dayMark 0 5) → K y2 y3 f8dayMark f8pointsOf f8sharesOf v8allPoints) : ∀ (n : Nat) (y2 : Int32) (y3 : Int32) (f8dayMark : Nat → Int32) (f8pointsOf : Nat → Int32) (f8sharesOf : Nat → Int32) (v8allPoints : Int32), (0 ≤ y3 ∧ y3 ≤ v8now ∧ al f8dayMark 0 5) → tn (v8now - y3) < n → lp_X8_back_14 k1 v8now v8canons v8marks f8markOf f8markDay f8markHour f8markIs f8markKnown f8box f8paid v8acts f8actNumber f8actFrom f8actKnown f8actUndone Post K n y2 y3 f8dayMark f8pointsOf f8sharesOf v8allPoints := by
  intro n
  induction n with
  | zero => intro y2 y3 f8dayMark f8pointsOf f8sharesOf v8allPoints _ hm; exact absurd hm (Nat.not_lt_zero _)
  | succ n ih =>
    intro y2 y3 f8dayMark f8pointsOf f8sharesOf v8allPoints hI hm
    rw [lp_X8_back_14]
    repeat' first
      | (with_reducible refine And.intro ?_ ?_)
      | (with_reducible refine s_X8_sharesAt _ _ _ _ _ _ _ _ _ _ _ _ _ _ _ _ _ _ _ _ ?_ ?_ ?_ ?_ ?_ ?_ ?_ ?_ ?_)
      | (with_reducible refine ih _ _ _ _ _ _ ?_ (mz ?_ ?_ hm))
      | (with_reducible intro _)
    all_goals (try dsimp only at *)
    all_goals grind [al, al_upd, fil20, fil400, vin10, vin12, vin13, vin20, vin56, vin130, vin140, vin143, vin200, vin240, vin400, vin8000]
theorem s_X8_back (p1 : Int32) (v8now : Int32) (v8canons : Int32) (v8marks : Int32) (f8markOf : Nat → Int32) (f8markDay : Nat → Int32) (f8markHour : Nat → Int32) (f8markIs : Nat → Int32) (f8markKnown : Nat → Int32) (f8box : Nat → Int32) (f8paid : Nat → Int32) (v8acts : Int32) (f8actNumber : Nat → Int32) (f8actFrom : Nat → Int32) (f8actKnown : Nat → Int32) (f8actUndone : Nat → Int32) (f8dayMark : Nat → Int32) (f8pointsOf : Nat → Int32) (f8sharesOf : Nat → Int32) (v8allPoints : Int32) (Post : Int32 → (Nat → Int32) × (Nat → Int32) × (Nat → Int32) × Int32 → Prop) (g0 : (0 ≤ v8now ∧ v8now < 401)) (g1 : (0 ≤ v8canons ∧ v8canons < 21)) (g2 : (0 ≤ v8marks ∧ v8marks < 401)) (g3 : al f8markOf 0 20) (g4 : al f8markHour 0 7) (g5 : al f8markIs 0 5) (g6 : (0 ≤ v8acts ∧ v8acts < 11)) (g7 : al f8dayMark 0 5) (h : ∀ r u, al u.1 0 5 → Post r u) : wp_X8_back p1 v8now v8canons v8marks f8markOf f8markDay f8markHour f8markIs f8markKnown f8box f8paid v8acts f8actNumber f8actFrom f8actKnown f8actUndone f8dayMark f8pointsOf f8sharesOf v8allPoints Post := by
  delta wp_X8_back
  repeat' first
    | (with_reducible refine And.intro ?_ ?_)
    | (with_reducible refine s_X8_isCanon _ _ _ ?_ ?_)
    | (with_reducible refine ⟨_, l_X8_back_14 _ _ _ _ _ _ _ _ _ _ _ _ _ _ _ _ _ _ ?_ ?_ ?_ ?_ ?_ ?_ ?_ ?_ ?_ _ _ _ _ _ _ _ ?_ (Nat.lt_succ_self _)⟩)
    | (with_reducible intro _)
  all_goals (try dsimp only at *)
  all_goals grind [al, al_upd, fil20, fil400, vin10, vin12, vin13, vin20, vin56, vin130, vin140, vin143, vin200, vin240, vin400, vin8000]
theorem l_X8_four_3 (c0 : Int32) (k1 : Int32) (Post : (Nat → Int32) × Int32 → Prop) (K : Int32 → (Nat → Int32) → Int32 → Prop) (g0 : c0 ≤ 1592) (hK : ∀ (y2 : Int32) (f8tape : Nat → Int32) (v8taped : Int32), (v8taped * 8 + y2 = c0 ∧ -8 ≤ y2 ∧ y2 ≤ 24 ∧ 0 ≤ v8taped ∧ v8taped ≤ 200) → y2 < 0 → K y2 f8tape v8taped) : ∀ (n : Nat) (y2 : Int32) (f8tape : Nat → Int32) (v8taped : Int32), (v8taped * 8 + y2 = c0 ∧ -8 ≤ y2 ∧ y2 ≤ 24 ∧ 0 ≤ v8taped ∧ v8taped ≤ 200) → tn (y2 + 8) < n → lp_X8_four_3 k1 Post K n y2 f8tape v8taped := by
  intro n
  induction n with
  | zero => intro y2 f8tape v8taped _ hm; exact absurd hm (Nat.not_lt_zero _)
  | succ n ih =>
    intro y2 f8tape v8taped hI hm
    rw [lp_X8_four_3]
    repeat' first
      | (with_reducible refine And.intro ?_ ?_)
      | (with_reducible refine ih _ _ _ ?_ (mz ?_ ?_ hm))
      | (with_reducible intro _)
    all_goals (try dsimp only at *)
    all_goals grind [al, al_upd, fil20, fil400, vin10, vin12, vin13, vin20, vin56, vin130, vin140, vin143, vin200, vin240, vin400, vin8000]
theorem s_X8_four (p1 : Int32) (f8tape : Nat → Int32) (v8taped : Int32) (Post : (Nat → Int32) × Int32 → Prop) (g0 : (0 ≤ v8taped ∧ v8taped < 197)) (h : ∀ u, u.2 = v8taped + 4 → Post u) : wp_X8_four p1 f8tape v8taped Post := by
  delta wp_X8_four
  repeat' first
    | (with_reducible refine And.intro ?_ ?_)
    | (with_reducible refine ⟨_, l_X8_four_3 (v8taped * 8 + 24) _ _ _ ?_ ?_ _ _ _ _ ?_ (Nat.lt_succ_self _)⟩)
    | (with_reducible intro _)
  all_goals (try dsimp only at *)
  all_goals grind [al, al_upd, fil20, fil400, vin10, vin12, vin13, vin20, vin56, vin130, vin140, vin143, vin200, vin240, vin400, vin8000]
theorem s_X8_feed (p1 : Int32) (p2 : Int32) (p3 : Int32) (p4 : Int32) (p5 : Int32) (f8tape : Nat → Int32) (v8taped : Int32) (Post : Int32 → (Nat → Int32) × Int32 → Prop) (g0 : (0 ≤ v8taped ∧ v8taped < 201)) (h : ∀ r u, (0 ≤ u.2 ∧ u.2 < 201) → Post r u) : wp_X8_feed p1 p2 p3 p4 p5 f8tape v8taped Post := by
  delta wp_X8_feed
  repeat' first
    | (with_reducible refine And.intro ?_ ?_)
    | (with_reducible refine s_X8_four _ _ _ _ ?_ ?_)
    | (with_reducible intro _)
  all_goals (try dsimp only at *)
  all_goals grind [al, al_upd, fil20, fil400, vin10, vin12, vin13, vin20, vin56, vin130, vin140, vin143, vin200, vin240, vin400, vin8000]
theorem s_X8_end (p1 : Int32) (v8taped : Int32) (Post : Int32 → Int32 → Prop) (g0 : (0 ≤ v8taped ∧ v8taped < 201)) (h : ∀ r u, (0 ≤ u ∧ u < 201) → Post r u) : wp_X8_end p1 v8taped Post := by
  delta wp_X8_end
  repeat' first
    | (with_reducible refine And.intro ?_ ?_)
    | (with_reducible intro _)
  all_goals (try dsimp only at *)
  all_goals grind [al, al_upd, fil20, fil400, vin10, vin12, vin13, vin20, vin56, vin130, vin140, vin143, vin200, vin240, vin400, vin8000]
theorem s_X8_fails (p1 : Int32) (p2 : Int32) (v8fault : Int32) (Post : Int32 → Int32 → Prop)  (h : ∀ r u, r = 0 → Post r u) : wp_X8_fails p1 p2 v8fault Post := by
  delta wp_X8_fails
  repeat' first
    | (with_reducible refine And.intro ?_ ?_)
    | (with_reducible intro _)
  all_goals (try dsimp only at *)
  all_goals grind [al, al_upd, fil20, fil400, vin10, vin12, vin13, vin20, vin56, vin130, vin140, vin143, vin200, vin240, vin400, vin8000]
theorem l_X8_see_0 (c0 : Int32) (f8tape : Nat → Int32) (v8taped : Int32) (Post : Int32 → Int32 → Prop) (K : Int32 → Prop) (g0 : (0 ≤ v8taped ∧ v8taped < 201)) (hK : ∀ (v8next : Int32), ((0 ≤ v8next ∧ v8next < 201) ∧ c0 ≤ v8next ∧ (c0 < v8taped ∧ ¬ f8tape c0.toNatClampNeg = 32 → v8next = c0)) → (v8taped ≤ v8next ∨ ¬ f8tape v8next.toNatClampNeg = 32) → K v8next) : ∀ (n : Nat) (v8next : Int32), ((0 ≤ v8next ∧ v8next < 201) ∧ c0 ≤ v8next ∧ (c0 < v8taped ∧ ¬ f8tape c0.toNatClampNeg = 32 → v8next = c0)) → tn (201 - v8next) < n → lp_X8_see_0 f8tape v8taped Post K n v8next := by
  intro n
  induction n with
  | zero => intro v8next _ hm; exact absurd hm (Nat.not_lt_zero _)
  | succ n ih =>
    intro v8next hI hm
    rw [lp_X8_see_0]
    repeat' first
      | (with_reducible refine And.intro ?_ ?_)
      | (with_reducible refine ih _ ?_ (mz ?_ ?_ hm))
      | (with_reducible intro _)
    all_goals (try dsimp only at *)
    all_goals grind [al, al_upd, fil20, fil400, vin10, vin12, vin13, vin20, vin56, vin130, vin140, vin143, vin200, vin240, vin400, vin8000]
theorem s_X8_see (f8tape : Nat → Int32) (v8taped : Int32) (v8next : Int32) (Post : Int32 → Int32 → Prop) (g0 : (0 ≤ v8next ∧ v8next < 201)) (g1 : (0 ≤ v8taped ∧ v8taped < 201)) (h : ∀ r u, (0 ≤ u ∧ u < 201 ∧ v8next ≤ u ∧ (r = -1 ∨ (u < v8taped ∧ ¬ f8tape u.toNatClampNeg = 32)) ∧ (v8next < v8taped ∧ ¬ f8tape v8next.toNatClampNeg = 32 → u = v8next)) → Post r u) : wp_X8_see f8tape v8taped v8next Post := by
  delta wp_X8_see
  repeat' first
    | (with_reducible refine And.intro ?_ ?_)
    | (with_reducible refine ⟨_, l_X8_see_0 v8next _ _ _ _ ?_ ?_ _ _ ?_ (Nat.lt_succ_self _)⟩)
    | (with_reducible intro _)
  all_goals (try dsimp only at *)
  all_goals grind [al, al_upd, fil20, fil400, vin10, vin12, vin13, vin20, vin56, vin130, vin140, vin143, vin200, vin240, vin400, vin8000]
theorem l_X8_wordHere_91  (k1 : Int32) (f8tape : Nat → Int32) (v8taped : Int32) (v8next : Int32) (f8words : Nat → Int32) (v8wordSize : Int32) (Post : Int32 → Int32 → Prop) (K : Int32 → Prop) (g0 : (0 ≤ k1 ∧ k1 < 7)) (hK : ∀ (y2 : Int32), (0 ≤ y2 ∧ y2 ≤ 8) → K y2) : ∀ (n : Nat) (y2 : Int32), (0 ≤ y2 ∧ y2 ≤ 8) → tn (8 - y2) < n → lp_X8_wordHere_91 k1 f8tape v8taped v8next f8words v8wordSize Post K n y2 := by
  intro n
  induction n with
  | zero => intro y2 _ hm; exact absurd hm (Nat.not_lt_zero _)
  | succ n ih =>
    intro y2 hI hm
    rw [lp_X8_wordHere_91]
    repeat' first
      | (with_reducible refine And.intro ?_ ?_)
      | (with_reducible refine ih _ ?_ (mz ?_ ?_ hm))
      | (with_reducible intro _)
    all_goals (try dsimp only at *)
    all_goals grind [al, al_upd, fil20, fil400, vin10, vin12, vin13, vin20, vin56, vin130, vin140, vin143, vin200, vin240, vin400, vin8000]
theorem l_X8_wordHere_134  (k1 : Int32) (k2 : Int32) (f8tape : Nat → Int32) (v8taped : Int32) (v8next : Int32) (f8words : Nat → Int32) (v8wordSize : Int32) (Post : Int32 → Int32 → Prop) (K : Int32 → Int32 → Prop) (g0 : (0 ≤ k1 ∧ k1 < 7)) (g1 : (0 ≤ k2 ∧ k2 < 9)) (g2 : (0 ≤ v8next ∧ v8next < 201)) (g3 : (0 ≤ v8wordSize ∧ v8wordSize < 201 ∧ v8next + v8wordSize ≤ 200)) (hK : ∀ (y3 : Int32) (y4 : Int32), (0 ≤ y4 ∧ y4 ≤ k2 ∧ (¬ y3 = 0 → v8wordSize = k2)) → K y3 y4) : ∀ (n : Nat) (y3 : Int32) (y4 : Int32), (0 ≤ y4 ∧ y4 ≤ k2 ∧ (¬ y3 = 0 → v8wordSize = k2)) → tn (k2 - y4) < n → lp_X8_wordHere_134 k1 k2 f8tape v8taped v8next f8words v8wordSize Post K n y3 y4 := by
  intro n
  induction n with
  | zero => intro y3 y4 _ hm; exact absurd hm (Nat.not_lt_zero _)
  | succ n ih =>
    intro y3 y4 hI hm
    rw [lp_X8_wordHere_134]
    repeat' first
      | (with_reducible refine And.intro ?_ ?_)
      | (with_reducible refine ih _ _ ?_ (mz ?_ ?_ hm))
      | (with_reducible intro _)
    all_goals (try dsimp only at *)
    all_goals grind [al, al_upd, fil20, fil400, vin10, vin12, vin13, vin20, vin56, vin130, vin140, vin143, vin200, vin240, vin400, vin8000]
theorem l_X8_wordHere_5  (f8tape : Nat → Int32) (v8taped : Int32) (v8next : Int32) (f8words : Nat → Int32) (Post : Int32 → Int32 → Prop) (K : Int32 → Prop) (g0 : (0 ≤ v8next ∧ v8next < 201)) (g1 : (0 ≤ v8taped ∧ v8taped < 201)) (hK : ∀ (v8wordSize : Int32), (0 ≤ v8wordSize ∧ v8wordSize < 201 ∧ v8next + v8wordSize ≤ 200) → K v8wordSize) : ∀ (n : Nat) (v8wordSize : Int32), (0 ≤ v8wordSize ∧ v8wordSize < 201 ∧ v8next + v8wordSize ≤ 200) → tn (201 - v8wordSize) < n → lp_X8_wordHere_5 f8tape v8taped v8next f8words Post K n v8wordSize := by
  intro n
  induction n with
  | zero => intro v8wordSize _ hm; exact absurd hm (Nat.not_lt_zero _)
  | succ n ih =>
    intro v8wordSize hI hm
    rw [lp_X8_wordHere_5]
    repeat' first
      | (with_reducible refine And.intro ?_ ?_)
      | (with_reducible refine ih _ ?_ (mz ?_ ?_ hm))
      | (with_reducible intro _)
    all_goals (try dsimp only at *)
    all_goals grind [al, al_upd, fil20, fil400, vin10, vin12, vin13, vin20, vin56, vin130, vin140, vin143, vin200, vin240, vin400, vin8000]
theorem l_X8_wordHere_74  (f8tape : Nat → Int32) (v8taped : Int32) (v8next : Int32) (f8words : Nat → Int32) (v8wordSize : Int32) (Post : Int32 → Int32 → Prop) (K : Int32 → Prop) (g0 : (0 ≤ v8next ∧ v8next < 201)) (g1 : (0 ≤ v8taped ∧ v8taped < 201)) (g2 : (0 ≤ v8wordSize ∧ v8wordSize < 201 ∧ v8next + v8wordSize ≤ 200)) (h : ∀ r u, (-1 ≤ r ∧ r < 7 ∧ 0 ≤ u ∧ u < 201 ∧ v8next + u ≤ 200) → Post r u) (hK : ∀ (y1 : Int32), (0 ≤ y1 ∧ y1 ≤ 7) → K y1) : ∀ (n : Nat) (y1 : Int32), (0 ≤ y1 ∧ y1 ≤ 7) → tn (7 - y1) < n → lp_X8_wordHere_74 f8tape v8taped v8next f8words v8wordSize Post K n y1 := by
  intro n
  induction n with
  | zero => intro y1 _ hm; exact absurd hm (Nat.not_lt_zero _)
  | succ n ih =>
    intro y1 hI hm
    rw [lp_X8_wordHere_74]
    repeat' first
      | (with_reducible refine And.intro ?_ ?_)
      | (with_reducible refine ⟨_, l_X8_wordHere_134 _ _ _ _ _ _ _ _ _ ?_ ?_ ?_ ?_ ?_ _ _ _ ?_ (Nat.lt_succ_self _)⟩)
      | (with_reducible refine ⟨_, l_X8_wordHere_91 _ _ _ _ _ _ _ _ ?_ ?_ _ _ ?_ (Nat.lt_succ_self _)⟩)
      | (with_reducible refine ih _ ?_ (mz ?_ ?_ hm))
      | (with_reducible intro _)
    all_goals (try dsimp only at *)
    all_goals grind [al, al_upd, fil20, fil400, vin10, vin12, vin13, vin20, vin56, vin130, vin140, vin143, vin200, vin240, vin400, vin8000]
theorem s_X8_wordHere (f8tape : Nat → Int32) (v8taped : Int32) (v8next : Int32) (f8words : Nat → Int32) (v8wordSize : Int32) (Post : Int32 → Int32 → Prop) (g0 : (0 ≤ v8next ∧ v8next < 201)) (g1 : (0 ≤ v8taped ∧ v8taped < 201)) (h : ∀ r u, (-1 ≤ r ∧ r < 7 ∧ 0 ≤ u ∧ u < 201 ∧ v8next + u ≤ 200) → Post r u) : wp_X8_wordHere f8tape v8taped v8next f8words v8wordSize Post := by
  delta wp_X8_wordHere
  repeat' first
    | (with_reducible refine And.intro ?_ ?_)
    | (with_reducible refine ⟨_, l_X8_wordHere_5 _ _ _ _ _ _ ?_ ?_ ?_ _ _ ?_ (Nat.lt_succ_self _)⟩)
    | (with_reducible refine ⟨_, l_X8_wordHere_74 _ _ _ _ _ _ _ ?_ ?_ ?_ ?_ ?_ _ _ ?_ (Nat.lt_succ_self _)⟩)
    | (with_reducible intro _)
  all_goals (try dsimp only at *)
  all_goals grind [al, al_upd, fil20, fil400, vin10, vin12, vin13, vin20, vin56, vin130, vin140, vin143, vin200, vin240, vin400, vin8000]
theorem l_X8_number_38  (k1 : Int32) (k2 : Int32) (k3 : Int32) (f8tape : Nat → Int32) (v8taped : Int32) (v8fault : Int32) (v8said : Int32) (Post : Int32 → Int32 × Int32 × Int32 → Prop) (K : Int32 → Int32 → Int32 → Prop) (g0 : (0 ≤ v8taped ∧ v8taped < 201)) (hK : ∀ (y4 : Int32) (y5 : Int32) (v8next : Int32), ((0 ≤ v8next ∧ v8next < 201) ∧ k3 ≤ v8next ∧ 0 ≤ y4 ∧ y4 ≤ v8next ∧ 0 ≤ y5 ∧ y5 ≤ 999 ∧ (y4 = 0 → y5 = 0) ∧ (y4 = 1 → y5 ≤ 9) ∧ (y4 = 2 → y5 ≤ 99)) → K y4 y5 v8next) : ∀ (n : Nat) (y4 : Int32) (y5 : Int32) (v8next : Int32), ((0 ≤ v8next ∧ v8next < 201) ∧ k3 ≤ v8next ∧ 0 ≤ y4 ∧ y4 ≤ v8next ∧ 0 ≤ y5 ∧ y5 ≤ 999 ∧ (y4 = 0 → y5 = 0) ∧ (y4 = 1 → y5 ≤ 9) ∧ (y4 = 2 → y5 ≤ 99)) → tn (201 - v8next) < n → lp_X8_number_38 k1 k2 k3 f8tape v8taped v8fault v8said Post K n y4 y5 v8next := by
  intro n
  induction n with
  | zero => intro y4 y5 v8next _ hm; exact absurd hm (Nat.not_lt_zero _)
  | succ n ih =>
    intro y4 y5 v8next hI hm
    rw [lp_X8_number_38]
    repeat' first
      | (with_reducible refine And.intro ?_ ?_)
      | (with_reducible refine ih _ _ _ ?_ (mz ?_ ?_ hm))
      | (with_reducible intro _)
    all_goals (try dsimp only at *)
    all_goals grind [al, al_upd, fil20, fil400, vin10, vin12, vin13, vin20, vin56, vin130, vin140, vin143, vin200, vin240, vin400, vin8000]
theorem s_X8_number (p1 : Int32) (f8tape : Nat → Int32) (v8taped : Int32) (v8next : Int32) (v8fault : Int32) (v8said : Int32) (Post : Int32 → Int32 × Int32 × Int32 → Prop) (g0 : (0 ≤ v8next ∧ v8next < 201)) (g1 : (0 ≤ v8taped ∧ v8taped < 201)) (h : ∀ r u, (0 ≤ u.1 ∧ u.1 < 201 ∧ v8next ≤ u.1 ∧ (r = 0 ∨ (r = 1 ∧ 0 ≤ u.2.2 ∧ u.2.2 ≤ p1))) → Post r u) : wp_X8_number p1 f8tape v8taped v8next v8fault v8said Post := by
  delta wp_X8_number
  repeat' first
    | (with_reducible refine And.intro ?_ ?_)
    | (with_reducible refine s_X8_fails _ _ _ _ ?_)
    | (with_reducible refine s_X8_see _ _ _ _ ?_ ?_ ?_)
    | (with_reducible refine ⟨_, l_X8_number_38 _ _ _ _ _ _ _ _ _ ?_ ?_ _ _ _ _ ?_ (Nat.lt_succ_self _)⟩)
    | (with_reducible intro _)
  all_goals (try dsimp only at *)
  all_goals grind [al, al_upd, fil20, fil400, vin10, vin12, vin13, vin20, vin56, vin130, vin140, vin143, vin200, vin240, vin400, vin8000, nar0, nar1]
theorem s_X8_clause (f8tape : Nat → Int32) (v8taped : Int32) (v8next : Int32) (v8fault : Int32) (v8seen : Int32) (v8said : Int32) (f8read : Nat → Int32) (f8words : Nat → Int32) (v8wordSize : Int32) (Post : Int32 → Int32 × Int32 × Int32 × Int32 × (Nat → Int32) × Int32 → Prop) (g0 : (0 ≤ v8next ∧ v8next < 201)) (g1 : (0 ≤ v8taped ∧ v8taped < 201)) (h : ∀ r u, (0 ≤ u.1 ∧ u.1 < 201 ∧ v8next ≤ u.1 ∧ (r = 0 ∨ r = 1)) → Post r u) : wp_X8_clause f8tape v8taped v8next v8fault v8seen v8said f8read f8words v8wordSize Post := by
  delta wp_X8_clause
  repeat' first
    | (with_reducible refine And.intro ?_ ?_)
    | (with_reducible refine s_X8_fails _ _ _ _ ?_)
    | (with_reducible refine s_X8_number _ _ _ _ _ _ _ ?_ ?_ ?_)
    | (with_reducible refine s_X8_see _ _ _ _ ?_ ?_ ?_)
    | (with_reducible refine s_X8_wordHere _ _ _ _ _ _ ?_ ?_ ?_)
    | (with_reducible intro _)
  all_goals (try dsimp only at *)
  all_goals grind [al, al_upd, fil20, fil400, vin10, vin12, vin13, vin20, vin56, vin130, vin140, vin143, vin200, vin240, vin400, vin8000, nar0, nar1]
theorem l_X8_open_45  (v8now : Int32) (v8acts : Int32) (f8tape : Nat → Int32) (v8taped : Int32) (v8next : Int32) (v8fault : Int32) (v8seen : Int32) (v8said : Int32) (f8words : Nat → Int32) (v8wordSize : Int32) (v8isOpen : Int32) (v8hasVote : Int32) (f8vote : Nat → Int32) (f8givenTo : Nat → Int32) (f8text : Nat → Int32) (Post : Int32 → Int32 × Int32 × Int32 × Int32 × Int32 × (Nat → Int32) × Int32 × Int32 × Int32 × (Nat → Int32) × (Nat → Int32) × (Nat → Int32) → Prop) (K : Int32 → (Nat → Int32) → Prop)  (hK : ∀ (y1 : Int32) (f8read : Nat → Int32), (0 ≤ y1 ∧ y1 ≤ 13) → K y1 f8read) : ∀ (n : Nat) (y1 : Int32) (f8read : Nat → Int32), (0 ≤ y1 ∧ y1 ≤ 13) → tn (13 - y1) < n → lp_X8_open_45 v8now v8acts f8tape v8taped v8next v8fault v8seen v8said f8words v8wordSize v8isOpen v8hasVote f8vote f8givenTo f8text Post K n y1 f8read := by
  intro n
  induction n with
  | zero => intro y1 f8read _ hm; exact absurd hm (Nat.not_lt_zero _)
  | succ n ih =>
    intro y1 f8read hI hm
    rw [lp_X8_open_45]
    repeat' first
      | (with_reducible refine And.intro ?_ ?_)
      | (with_reducible refine s_X8_without _ _ ?_)
      | (with_reducible refine ih _ _ ?_ (mz ?_ ?_ hm))
      | (with_reducible intro _)
    all_goals (try dsimp only at *)
    all_goals grind [al, al_upd, fil20, fil400, vin10, vin12, vin13, vin20, vin56, vin130, vin140, vin143, vin200, vin240, vin400, vin8000]
theorem l_X8_open_173  (k1 : Int32) (k2 : Int32) (v8now : Int32) (v8acts : Int32) (f8tape : Nat → Int32) (v8taped : Int32) (v8next : Int32) (v8fault : Int32) (v8seen : Int32) (v8said : Int32) (f8read : Nat → Int32) (f8words : Nat → Int32) (v8wordSize : Int32) (v8isOpen : Int32) (v8hasVote : Int32) (f8vote : Nat → Int32) (f8givenTo : Nat → Int32) (Post : Int32 → Int32 × Int32 × Int32 × Int32 × Int32 × (Nat → Int32) × Int32 × Int32 × Int32 × (Nat → Int32) × (Nat → Int32) × (Nat → Int32) → Prop) (K : Int32 → (Nat → Int32) → Prop)  (hK : ∀ (y3 : Int32) (f8text : Nat → Int32), (0 ≤ y3 ∧ y3 ≤ 13) → K y3 f8text) : ∀ (n : Nat) (y3 : Int32) (f8text : Nat → Int32), (0 ≤ y3 ∧ y3 ≤ 13) → tn (13 - y3) < n → lp_X8_open_173 k1 k2 v8now v8acts f8tape v8taped v8next v8fault v8seen v8said f8read f8words v8wordSize v8isOpen v8hasVote f8vote f8givenTo Post K n y3 f8text := by
  intro n
  induction n with
  | zero => intro y3 f8text _ hm; exact absurd hm (Nat.not_lt_zero _)
  | succ n ih =>
    intro y3 f8text hI hm
    rw [lp_X8_open_173]
    repeat' first
      | (with_reducible refine And.intro ?_ ?_)
      | (with_reducible refine ih _ _ ?_ (mz ?_ ?_ hm))
      | (with_reducible intro _)
    all_goals (try dsimp only at *)
    all_goals grind [al, al_upd, fil20, fil400, vin10, vin12, vin13, vin20, vin56, vin130, vin140, vin143, vin200, vin240, vin400, vin8000]
theorem l_X8_open_209  (k1 : Int32) (k2 : Int32) (v8now : Int32) (v8acts : Int32) (f8tape : Nat → Int32) (v8taped : Int32) (v8next : Int32) (v8fault : Int32) (v8seen : Int32) (v8said : Int32) (f8read : Nat → Int32) (f8words : Nat → Int32) (v8wordSize : Int32) (v8isOpen : Int32) (v8hasVote : Int32) (f8text : Nat → Int32) (Post : Int32 → Int32 × Int32 × Int32 × Int32 × Int32 × (Nat → Int32) × Int32 × Int32 × Int32 × (Nat → Int32) × (Nat → Int32) × (Nat → Int32) → Prop) (K : Int32 → (Nat → Int32) → (Nat → Int32) → Prop)  (hK : ∀ (y3 : Int32) (f8vote : Nat → Int32) (f8givenTo : Nat → Int32), (0 ≤ y3 ∧ y3 ≤ 20 ∧ al f8givenTo (-1) 20) → K y3 f8vote f8givenTo) : ∀ (n : Nat) (y3 : Int32) (f8vote : Nat → Int32) (f8givenTo : Nat → Int32), (0 ≤ y3 ∧ y3 ≤ 20 ∧ al f8givenTo (-1) 20) → tn (20 - y3) < n → lp_X8_open_209 k1 k2 v8now v8acts f8tape v8taped v8next v8fault v8seen v8said f8read f8words v8wordSize v8isOpen v8hasVote f8text Post K n y3 f8vote f8givenTo := by
  intro n
  induction n with
  | zero => intro y3 f8vote f8givenTo _ hm; exact absurd hm (Nat.not_lt_zero _)
  | succ n ih =>
    intro y3 f8vote f8givenTo hI hm
    rw [lp_X8_open_209]
    repeat' first
      | (with_reducible refine And.intro ?_ ?_)
      | (with_reducible refine ih _ _ _ ?_ (mz ?_ ?_ hm))
      | (with_reducible intro _)
    all_goals (try dsimp only at *)
    all_goals grind [al, al_upd, fil20, fil400, vin10, vin12, vin13, vin20, vin56, vin130, vin140, vin143, vin200, vin240, vin400, vin8000]
theorem l_X8_open_83  (v8now : Int32) (v8acts : Int32) (f8tape : Nat → Int32) (v8taped : Int32) (f8words : Nat → Int32) (v8isOpen : Int32) (v8hasVote : Int32) (f8vote : Nat → Int32) (f8givenTo : Nat → Int32) (f8text : Nat → Int32) (Post : Int32 → Int32 × Int32 × Int32 × Int32 × Int32 × (Nat → Int32) × Int32 × Int32 × Int32 × (Nat → Int32) × (Nat → Int32) × (Nat → Int32) → Prop) (K : Int32 → Int32 → Int32 → Int32 → Int32 → Int32 → (Nat → Int32) → Int32 → Prop) (g0 : (0 ≤ v8taped ∧ v8taped < 201)) (hK : ∀ (y1 : Int32) (y2 : Int32) (v8next : Int32) (v8fault : Int32) (v8seen : Int32) (v8said : Int32) (f8read : Nat → Int32) (v8wordSize : Int32), (0 ≤ v8next ∧ v8next < 201) → K y1 y2 v8next v8fault v8seen v8said f8read v8wordSize) : ∀ (n : Nat) (y1 : Int32) (y2 : Int32) (v8next : Int32) (v8fault : Int32) (v8seen : Int32) (v8said : Int32) (f8read : Nat → Int32) (v8wordSize : Int32), (0 ≤ v8next ∧ v8next < 201) → tn ((201 - v8next) * 2 + (if y1 = 0 ∨ y2 = 0 then 0 else 1)) < n → lp_X8_open_83 v8now v8acts f8tape v8taped f8words v8isOpen v8hasVote f8vote f8givenTo f8text Post K n y1 y2 v8next v8fault v8seen v8said f8read v8wordSize := by
  intro n
  induction n with
  | zero => intro y1 y2 v8next v8fault v8seen v8said f8read v8wordSize _ hm; exact absurd hm (Nat.not_lt_zero _)
  | succ n ih =>
    intro y1 y2 v8next v8fault v8seen v8said f8read v8wordSize hI hm
    rw [lp_X8_open_83]
    repeat' first
      | (with_reducible refine And.intro ?_ ?_)
      | (with_reducible refine s_X8_clause _ _ _ _ _ _ _ _ _ _ ?_ ?_ ?_)
      | (with_reducible refine s_X8_fails _ _ _ _ ?_)
      | (with_reducible refine s_X8_see _ _ _ _ ?_ ?_ ?_)
      | (with_reducible refine ih _ _ _ _ _ _ _ _ ?_ (mz ?_ ?_ hm))
      | (with_reducible intro _)
    all_goals (try dsimp only at *)
    all_goals grind [al, al_upd, fil20, fil400, vin10, vin12, vin13, vin20, vin56, vin130, vin140, vin143, vin200, vin240, vin400, vin8000]
theorem s_X8_open (v8now : Int32) (v8acts : Int32) (f8tape : Nat → Int32) (v8taped : Int32) (v8next : Int32) (v8fault : Int32) (v8seen : Int32) (v8said : Int32) (f8read : Nat → Int32) (f8words : Nat → Int32) (v8wordSize : Int32) (v8isOpen : Int32) (v8hasVote : Int32) (f8vote : Nat → Int32) (f8givenTo : Nat → Int32) (f8text : Nat → Int32) (Post : Int32 → Int32 × Int32 × Int32 × Int32 × Int32 × (Nat → Int32) × Int32 × Int32 × Int32 × (Nat → Int32) × (Nat → Int32) × (Nat → Int32) → Prop) (g0 : (0 ≤ v8taped ∧ v8taped < 201)) (g1 : (0 ≤ v8acts ∧ v8acts < 11)) (g2 : al f8givenTo (-1) 20) (g3 : (¬ v8isOpen = 0 → v8acts < 10)) (h : ∀ r u, (0 ≤ u.1 ∧ u.1 < 201 ∧ al u.2.2.2.2.2.2.2.2.2.2.1 (-1) 20 ∧ (¬ u.2.2.2.2.2.2.2.1 = 0 → v8acts < 10)) → Post r u) : wp_X8_open v8now v8acts f8tape v8taped v8next v8fault v8seen v8said f8read f8words v8wordSize v8isOpen v8hasVote f8vote f8givenTo f8text Post := by
  delta wp_X8_open
  repeat' first
    | (with_reducible refine And.intro ?_ ?_)
    | (with_reducible refine s_X8_see _ _ _ _ ?_ ?_ ?_)
    | (with_reducible refine ⟨_, l_X8_open_173 _ _ _ _ _ _ _ _ _ _ _ _ _ _ _ _ _ _ _ ?_ _ _ _ ?_ (Nat.lt_succ_self _)⟩)
    | (with_reducible refine ⟨_, l_X8_open_209 _ _ _ _ _ _ _ _ _ _ _ _ _ _ _ _ _ _ ?_ _ _ _ _ ?_ (Nat.lt_succ_self _)⟩)
    | (with_reducible refine ⟨_, l_X8_open_45 _ _ _ _ _ _ _ _ _ _ _ _ _ _ _ _ _ ?_ _ _ _ ?_ (Nat.lt_succ_self _)⟩)
    | (with_reducible refine ⟨_, l_X8_open_83 _ _ _ _ _ _ _ _ _ _ _ _ ?_ ?_ _ _ _ _ _ _ _ _ _ ?_ (Nat.lt_succ_self _)⟩)
    | (with_reducible intro _)
  all_goals (try dsimp only at *)
  all_goals grind [al, al_upd, fil20, fil400, vin10, vin12, vin13, vin20, vin56, vin130, vin140, vin143, vin200, vin240, vin400, vin8000]
theorem s_X8_mayVote (p1 : Int32) (v8now : Int32) (v8canons : Int32) (f8isThere : Nat → Int32) (v8isOpen : Int32) (Post : Int32 → Unit → Prop) (g0 : (0 ≤ v8canons ∧ v8canons < 21)) (h : ∀ r u, (r = 0 ∨ (r = 1 ∧ 0 ≤ p1 ∧ p1 < v8canons)) → Post r u) : wp_X8_mayVote p1 v8now v8canons f8isThere v8isOpen Post := by
  delta wp_X8_mayVote
  repeat' first
    | (with_reducible refine And.intro ?_ ?_)
    | (with_reducible refine s_X8_isCanon _ _ _ ?_ ?_)
    | (with_reducible intro _)
  all_goals (try dsimp only at *)
  all_goals grind [al, al_upd, fil20, fil400, vin10, vin12, vin13, vin20, vin56, vin130, vin140, vin143, vin200, vin240, vin400, vin8000]
theorem s_X8_votes (p1 : Int32) (p2 : Int32) (v8now : Int32) (v8canons : Int32) (f8isThere : Nat → Int32) (v8isOpen : Int32) (f8vote : Nat → Int32) (f8givenTo : Nat → Int32) (Post : Int32 → (Nat → Int32) × (Nat → Int32) → Prop) (g0 : (0 ≤ v8canons ∧ v8canons < 21)) (g1 : al f8givenTo (-1) 20) (h : ∀ r u, al u.2 (-1) 20 → Post r u) : wp_X8_votes p1 p2 v8now v8canons f8isThere v8isOpen f8vote f8givenTo Post := by
  delta wp_X8_votes
  repeat' first
    | (with_reducible refine And.intro ?_ ?_)
    | (with_reducible refine s_X8_mayVote _ _ _ _ _ _ ?_ ?_)
    | (with_reducible intro _)
  all_goals (try dsimp only at *)
  all_goals grind [al, al_upd, fil20, fil400, vin10, vin12, vin13, vin20, vin56, vin130, vin140, vin143, vin200, vin240, vin400, vin8000]
theorem l_X8_givenMany_5  (k1 : Int32) (k2 : Int32) (v8canons : Int32) (f8givenTo : Nat → Int32) (Post : Int32 → Unit → Prop) (K : Int32 → Int32 → Prop) (g0 : (0 ≤ v8canons ∧ v8canons < 21)) (hK : ∀ (y3 : Int32) (y4 : Int32), (0 ≤ y4 ∧ y4 ≤ v8canons) → K y3 y4) : ∀ (n : Nat) (y3 : Int32) (y4 : Int32), (0 ≤ y4 ∧ y4 ≤ v8canons) → tn (v8canons - y4) < n → lp_X8_givenMany_5 k1 k2 v8canons f8givenTo Post K n y3 y4 := by
  intro n
  induction n with
  | zero => intro y3 y4 _ hm; exact absurd hm (Nat.not_lt_zero _)
  | succ n ih =>
    intro y3 y4 hI hm
    rw [lp_X8_givenMany_5]
    repeat' first
      | (with_reducible refine And.intro ?_ ?_)
      | (with_reducible refine ih _ _ ?_ (mz ?_ ?_ hm))
      | (with_reducible intro _)
    all_goals (try dsimp only at *)
    all_goals grind [al, al_upd, fil20, fil400, vin10, vin12, vin13, vin20, vin56, vin130, vin140, vin143, vin200, vin240, vin400, vin8000]
theorem s_X8_givenMany (p1 : Int32) (p2 : Int32) (v8canons : Int32) (f8givenTo : Nat → Int32) (Post : Int32 → Unit → Prop) (g0 : (0 ≤ v8canons ∧ v8canons < 21)) (h : ∀ r u, True → Post r u) : wp_X8_givenMany p1 p2 v8canons f8givenTo Post := by
  delta wp_X8_givenMany
  repeat' first
    | (with_reducible refine And.intro ?_ ?_)
    | (with_reducible refine ⟨_, l_X8_givenMany_5 _ _ _ _ _ _ ?_ ?_ _ _ _ ?_ (Nat.lt_succ_self _)⟩)
    | (with_reducible intro _)
  all_goals (try dsimp only at *)
  all_goals grind [al, al_upd, fil20, fil400, vin10, vin12, vin13, vin20, vin56, vin130, vin140, vin143, vin200, vin240, vin400, vin8000]
theorem s_X8_gives (p1 : Int32) (p2 : Int32) (v8now : Int32) (v8canons : Int32) (f8isThere : Nat → Int32) (v8acts : Int32) (f8actNumber : Nat → Int32) (f8actFrom : Nat → Int32) (f8actKnown : Nat → Int32) (f8actUndone : Nat → Int32) (v8isOpen : Int32) (f8vote : Nat → Int32) (f8givenTo : Nat → Int32) (Post : Int32 → (Nat → Int32) × (Nat → Int32) → Prop) (g0 : (0 ≤ v8canons ∧ v8canons < 21)) (g1 : (0 ≤ v8acts ∧ v8acts < 11)) (g2 : al f8givenTo (-1) 20) (h : ∀ r u, al u.2 (-1) 20 → Post r u) : wp_X8_gives p1 p2 v8now v8canons f8isThere v8acts f8actNumber f8actFrom f8actKnown f8actUndone v8isOpen f8vote f8givenTo Post := by
  delta wp_X8_gives
  repeat' first
    | (with_reducible refine And.intro ?_ ?_)
    | (with_reducible refine s_X8_givenMany _ _ _ _ _ ?_ ?_)
    | (with_reducible refine s_X8_mayVote _ _ _ _ _ _ ?_ ?_)
    | (with_reducible refine s_X8_numberAt _ _ _ _ _ _ _ _ _ ?_ ?_ ?_)
    | (with_reducible intro _)
  all_goals (try dsimp only at *)
  all_goals grind [al, al_upd, fil20, fil400, vin10, vin12, vin13, vin20, vin56, vin130, vin140, vin143, vin200, vin240, vin400, vin8000]
theorem l_X8_counts_17  (v8canons : Int32) (f8isThere : Nat → Int32) (f8vote : Nat → Int32) (f8givenTo : Nat → Int32) (Post : Int32 × Int32 × Int32 → Prop) (K : Int32 → Int32 → Int32 → Int32 → Prop) (g0 : (0 ≤ v8canons ∧ v8canons < 21)) (g1 : al f8givenTo (-1) 20) (hK : ∀ (y1 : Int32) (v8yes : Int32) (v8no : Int32) (v8silent : Int32), (0 ≤ y1 ∧ y1 ≤ v8canons) → K y1 v8yes v8no v8silent) : ∀ (n : Nat) (y1 : Int32) (v8yes : Int32) (v8no : Int32) (v8silent : Int32), (0 ≤ y1 ∧ y1 ≤ v8canons) → tn (v8canons - y1) < n → lp_X8_counts_17 v8canons f8isThere f8vote f8givenTo Post K n y1 v8yes v8no v8silent := by
  intro n
  induction n with
  | zero => intro y1 v8yes v8no v8silent _ hm; exact absurd hm (Nat.not_lt_zero _)
  | succ n ih =>
    intro y1 v8yes v8no v8silent hI hm
    rw [lp_X8_counts_17]
    repeat' first
      | (with_reducible refine And.intro ?_ ?_)
      | (with_reducible refine ih _ _ _ _ ?_ (mz ?_ ?_ hm))
      | (with_reducible intro _)
    all_goals (try dsimp only at *)
    all_goals grind [al, al_upd, fil20, fil400, vin10, vin12, vin13, vin20, vin56, vin130, vin140, vin143, vin200, vin240, vin400, vin8000]
theorem s_X8_counts (v8canons : Int32) (f8isThere : Nat → Int32) (f8vote : Nat → Int32) (f8givenTo : Nat → Int32) (v8yes : Int32) (v8no : Int32) (v8silent : Int32) (Post : Int32 × Int32 × Int32 → Prop) (g0 : (0 ≤ v8canons ∧ v8canons < 21)) (g1 : al f8givenTo (-1) 20) (h : ∀ u, True → Post u) : wp_X8_counts v8canons f8isThere f8vote f8givenTo v8yes v8no v8silent Post := by
  delta wp_X8_counts
  repeat' first
    | (with_reducible refine And.intro ?_ ?_)
    | (with_reducible refine ⟨_, l_X8_counts_17 _ _ _ _ _ _ ?_ ?_ ?_ _ _ _ _ _ ?_ (Nat.lt_succ_self _)⟩)
    | (with_reducible intro _)
  all_goals (try dsimp only at *)
  all_goals grind [al, al_upd, fil20, fil400, vin10, vin12, vin13, vin20, vin56, vin130, vin140, vin143, vin200, vin240, vin400, vin8000]
theorem l_X8_thereMany_4  (v8canons : Int32) (f8isThere : Nat → Int32) (Post : Int32 → Unit → Prop) (K : Int32 → Int32 → Prop) (g0 : (0 ≤ v8canons ∧ v8canons < 21)) (hK : ∀ (y1 : Int32) (y2 : Int32), (0 ≤ y2 ∧ y2 ≤ v8canons) → K y1 y2) : ∀ (n : Nat) (y1 : Int32) (y2 : Int32), (0 ≤ y2 ∧ y2 ≤ v8canons) → tn (v8canons - y2) < n → lp_X8_thereMany_4 v8canons f8isThere Post K n y1 y2 := by
  intro n
  induction n with
  | zero => intro y1 y2 _ hm; exact absurd hm (Nat.not_lt_zero _)
  | succ n ih =>
    intro y1 y2 hI hm
    rw [lp_X8_thereMany_4]
    repeat' first
      | (with_reducible refine And.intro ?_ ?_)
      | (with_reducible refine ih _ _ ?_ (mz ?_ ?_ hm))
      | (with_reducible intro _)
    all_goals (try dsimp only at *)
    all_goals grind [al, al_upd, fil20, fil400, vin10, vin12, vin13, vin20, vin56, vin130, vin140, vin143, vin200, vin240, vin400, vin8000]
theorem s_X8_thereMany (v8canons : Int32) (f8isThere : Nat → Int32) (Post : Int32 → Unit → Prop) (g0 : (0 ≤ v8canons ∧ v8canons < 21)) (h : ∀ r u, True → Post r u) : wp_X8_thereMany v8canons f8isThere Post := by
  delta wp_X8_thereMany
  repeat' first
    | (with_reducible refine And.intro ?_ ?_)
    | (with_reducible refine ⟨_, l_X8_thereMany_4 _ _ _ _ ?_ ?_ _ _ _ ?_ (Nat.lt_succ_self _)⟩)
    | (with_reducible intro _)
  all_goals (try dsimp only at *)
  all_goals grind [al, al_upd, fil20, fil400, vin10, vin12, vin13, vin20, vin56, vin130, vin140, vin143, vin200, vin240, vin400, vin8000]
theorem l_X8_close_86  (k1 : Int32) (k2 : Int32) (v8now : Int32) (v8canons : Int32) (f8isThere : Nat → Int32) (v8acts : Int32) (f8actFrom : Nat → Int32) (f8actKnown : Nat → Int32) (f8actUndone : Nat → Int32) (v8isOpen : Int32) (f8vote : Nat → Int32) (f8givenTo : Nat → Int32) (f8text : Nat → Int32) (v8yes : Int32) (v8no : Int32) (v8silent : Int32) (Post : Int32 → Int32 × (Nat → Int32) × (Nat → Int32) × (Nat → Int32) × (Nat → Int32) × Int32 × Int32 × Int32 × Int32 → Prop) (K : Int32 → (Nat → Int32) → Prop) (g0 : (0 ≤ v8acts ∧ v8acts < 10)) (hK : ∀ (y3 : Int32) (f8actNumber : Nat → Int32), (0 ≤ y3 ∧ y3 ≤ 13) → K y3 f8actNumber) : ∀ (n : Nat) (y3 : Int32) (f8actNumber : Nat → Int32), (0 ≤ y3 ∧ y3 ≤ 13) → tn (13 - y3) < n → lp_X8_close_86 k1 k2 v8now v8canons f8isThere v8acts f8actFrom f8actKnown f8actUndone v8isOpen f8vote f8givenTo f8text v8yes v8no v8silent Post K n y3 f8actNumber := by
  intro n
  induction n with
  | zero => intro y3 f8actNumber _ hm; exact absurd hm (Nat.not_lt_zero _)
  | succ n ih =>
    intro y3 f8actNumber hI hm
    rw [lp_X8_close_86]
    repeat' first
      | (with_reducible refine And.intro ?_ ?_)
      | (with_reducible refine ih _ _ ?_ (mz ?_ ?_ hm))
      | (with_reducible intro _)
    all_goals (try dsimp only at *)
    all_goals grind [al, al_upd, fil20, fil400, vin10, vin12, vin13, vin20, vin56, vin130, vin140, vin143, vin200, vin240, vin400, vin8000]
theorem s_X8_close (p1 : Int32) (v8now : Int32) (v8canons : Int32) (f8isThere : Nat → Int32) (v8acts : Int32) (f8actNumber : Nat → Int32) (f8actFrom : Nat → Int32) (f8actKnown : Nat → Int32) (f8actUndone : Nat → Int32) (v8isOpen : Int32) (f8vote : Nat → Int32) (f8givenTo : Nat → Int32) (f8text : Nat → Int32) (v8yes : Int32) (v8no : Int32) (v8silent : Int32) (Post : Int32 → Int32 × (Nat → Int32) × (Nat → Int32) × (Nat → Int32) × (Nat → Int32) × Int32 × Int32 × Int32 × Int32 → Prop) (g0 : (0 ≤ v8canons ∧ v8canons < 21)) (g1 : (0 ≤ v8acts ∧ v8acts < 11)) (g2 : al f8givenTo (-1) 20) (g3 : (¬ v8isOpen = 0 → v8acts < 10)) (h : ∀ r u, (0 ≤ u.1 ∧ u.1 < 11 ∧ (¬ u.2.2.2.2.2.1 = 0 → u.1 < 10)) → Post r u) : wp_X8_close p1 v8now v8canons f8isThere v8acts f8actNumber f8actFrom f8actKnown f8actUndone v8isOpen f8vote f8givenTo f8text v8yes v8no v8silent Post := by
  delta wp_X8_close
  repeat' first
    | (with_reducible refine And.intro ?_ ?_)
    | (with_reducible refine s_X8_counts _ _ _ _ _ _ _ _ ?_ ?_ ?_)
    | (with_reducible refine s_X8_isDay _ _ ?_)
    | (with_reducible refine s_X8_numberAt _ _ _ _ _ _ _ _ _ ?_ ?_ ?_)
    | (with_reducible refine s_X8_thereMany _ _ _ ?_ ?_)
    | (with_reducible refine ⟨_, l_X8_close_86 _ _ _ _ _ _ _ _ _ _ _ _ _ _ _ _ _ _ ?_ ?_ _ _ _ ?_ (Nat.lt_succ_self _)⟩)
    | (with_reducible intro _)
  all_goals (try dsimp only at *)
  all_goals grind [al, al_upd, fil20, fil400, vin10, vin12, vin13, vin20, vin56, vin130, vin140, vin143, vin200, vin240, vin400, vin8000]
theorem s_X8_undo (p1 : Int32) (v8now : Int32) (v8acts : Int32) (f8actUndone : Nat → Int32) (Post : Int32 → (Nat → Int32) → Prop) (g0 : (0 ≤ v8acts ∧ v8acts < 11)) (h : ∀ r u, True → Post r u) : wp_X8_undo p1 v8now v8acts f8actUndone Post := by
  delta wp_X8_undo
  repeat' first
    | (with_reducible refine And.intro ?_ ?_)
    | (with_reducible refine s_X8_in _ _ _ _ ?_)
    | (with_reducible intro _)
  all_goals (try dsimp only at *)
  all_goals grind [al, al_upd, fil20, fil400, vin10, vin12, vin13, vin20, vin56, vin130, vin140, vin143, vin200, vin240, vin400, vin8000]
theorem s_X8_vote (p1 : Int32) (v8canons : Int32) (f8isThere : Nat → Int32) (v8isOpen : Int32) (v8hasVote : Int32) (f8vote : Nat → Int32) (f8givenTo : Nat → Int32) (v8yes : Int32) (v8no : Int32) (v8silent : Int32) (Post : Int32 → Int32 × Int32 × Int32 → Prop) (g0 : (0 ≤ v8canons ∧ v8canons < 21)) (g1 : al f8givenTo (-1) 20) (h : ∀ r u, True → Post r u) : wp_X8_vote p1 v8canons f8isThere v8isOpen v8hasVote f8vote f8givenTo v8yes v8no v8silent Post := by
  delta wp_X8_vote
  repeat' first
    | (with_reducible refine And.intro ?_ ?_)
    | (with_reducible refine s_X8_counts _ _ _ _ _ _ _ _ ?_ ?_ ?_)
    | (with_reducible intro _)
  all_goals (try dsimp only at *)
  all_goals grind [al, al_upd, fil20, fil400, vin10, vin12, vin13, vin20, vin56, vin130, vin140, vin143, vin200, vin240, vin400, vin8000]
theorem s_X8_about (p1 : Int32) (p2 : Int32) (v8canons : Int32) (f8isThere : Nat → Int32) (f8stallOf : Nat → Int32) (f8paidShares : Nat → Int32) (f8paidWorth : Nat → Int32) (Post : Int32 → Unit → Prop) (g0 : (0 ≤ v8canons ∧ v8canons < 21)) (h : ∀ r u, True → Post r u) : wp_X8_about p1 p2 v8canons f8isThere f8stallOf f8paidShares f8paidWorth Post := by
  delta wp_X8_about
  repeat' first
    | (with_reducible refine And.intro ?_ ?_)
    | (with_reducible refine s_X8_isCanon _ _ _ ?_ ?_)
    | (with_reducible intro _)
  all_goals (try dsimp only at *)
  all_goals grind [al, al_upd, fil20, fil400, vin10, vin12, vin13, vin20, vin56, vin130, vin140, vin143, vin200, vin240, vin400, vin8000]
theorem s_X8_count (p1 : Int32) (v8now : Int32) (v8stalls : Int32) (f8inStall : Nat → Int32) (v8canons : Int32) (f8isThere : Nat → Int32) (v8fabric : Int32) (v8marks : Int32) (v8acts : Int32) (v8taped : Int32) (Post : Int32 → Unit → Prop) (g0 : (0 ≤ v8canons ∧ v8canons < 21)) (g1 : (0 ≤ v8stalls ∧ v8stalls < 13)) (h : ∀ r u, True → Post r u) : wp_X8_count p1 v8now v8stalls f8inStall v8canons f8isThere v8fabric v8marks v8acts v8taped Post := by
  delta wp_X8_count
  have e : (19 + v8stalls) < 32 := by grind
  generalize 19 + v8stalls = w at e ⊢
  repeat' first
    | (with_reducible refine And.intro ?_ ?_)
    | (with_reducible refine s_X8_in _ _ _ _ ?_)
    | (with_reducible refine s_X8_thereMany _ _ _ ?_ ?_)
    | (with_reducible intro _)
  all_goals (try dsimp only at *)
  all_goals grind [al, al_upd, fil20, fil400, vin10, vin12, vin13, vin20, vin56, vin130, vin140, vin143, vin200, vin240, vin400, vin8000]
