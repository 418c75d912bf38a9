theorem nI400 {k : Nat} (h : k < 400) : 0 ≤ nI k ∧ nI k < 400 ∧ (nI k).toNatClampNeg = k ∧ ¬ nI k = -1 := by
  have e : (nI k).toInt = k := by
    show (Int32.ofNat k).toInt = k
    rw [Int32.toInt_ofNat', show Int32.size = 4294967296 from rfl, Int.bmod_eq_of_le (by omega) (by omega)]
  have h0 : (0 : Int32).toInt = 0 := rfl
  have h4 : (400 : Int32).toInt = 400 := rfl
  have h1 : (-1 : Int32).toInt = -1 := rfl
  refine ⟨?_, ?_, ?_, ?_⟩
  · rw [Int32.le_iff_toInt_le]; omega
  · rw [Int32.lt_iff_toInt_lt]; omega
  · show (nI k).toInt.toNat = k
    omega
  · intro c
    rw [← Int32.toInt_inj] at c
    omega
theorem tnc_succ {x : Int32} (h0 : 0 ≤ x) (h1 : x < 400) : (x + 1).toNatClampNeg = x.toNatClampNeg + 1 := by
  show (x + 1).toInt.toNat = x.toInt.toNat + 1
  rw [Int32.le_iff_toInt_le] at h0
  rw [Int32.lt_iff_toInt_lt] at h1
  have h2 : (0 : Int32).toInt = 0 := rfl
  have h4 : (400 : Int32).toInt = 400 := rfl
  have h5 : (1 : Int32).toInt = 1 := rfl
  rw [Int32.toInt_add, h5, Int.bmod_eq_of_le (by omega) (by omega)]
  omega
theorem tnc_le {x : Int32} (h0 : 0 ≤ x) (h1 : x < 401) : x.toNatClampNeg ≤ 400 := by
  show x.toInt.toNat ≤ 400
  rw [Int32.lt_iff_toInt_lt] at h1
  have h4 : (401 : Int32).toInt = 401 := rfl
  omega
theorem tnc_inj {x y : Int32} (h0 : 0 ≤ x) (h1 : 0 ≤ y) (h : x.toNatClampNeg = y.toNatClampNeg) : x = y := by
  rw [← Int32.toInt_inj]
  rw [Int32.le_iff_toInt_le] at h0 h1
  have h2 : (0 : Int32).toInt = 0 := rfl
  have h3 : x.toInt.toNat = y.toInt.toNat := h
  omega
theorem tnc_nI {x : Int32} (h0 : 0 ≤ x) : nI x.toNatClampNeg = x := by
  rw [← Int32.toInt_inj]
  rw [Int32.le_iff_toInt_le] at h0
  have h2 : (0 : Int32).toInt = 0 := rfl
  have h3 := Int32.toInt_lt x
  have h4 : x.toNatClampNeg = x.toInt.toNat := rfl
  show (Int32.ofNat x.toNatClampNeg).toInt = x.toInt
  rw [Int32.toInt_ofNat', show Int32.size = 4294967296 from rfl, Int.bmod_eq_of_le (by omega) (by omega)]
  omega
def lastD (f : Nat → Int32) (d : Int32) : Nat → Int32
  | 0 => -1
  | n + 1 => if f n = d then nI n else lastD f d n
def mkv (mo md mh mi mk : Nat → Int32) (c d h b : Int32) : Nat → Int32
  | 0 => 0
  | n + 1 => if mo n = c ∧ md n = d ∧ mh n = h ∧ mk n ≤ b then mi n else mkv mo md mh mi mk c d h b n
theorem lastD_cases (f : Nat → Int32) (d : Int32) (m : Nat) : (lastD f d m = -1 ∧ ∀ k, k < m → ¬ f k = d) ∨ ∃ k, k < m ∧ lastD f d m = nI k ∧ f k = d ∧ ∀ j, k < j → j < m → ¬ f j = d := by
  induction m with
  | zero => exact Or.inl ⟨rfl, fun k h => absurd h (Nat.not_lt_zero _)⟩
  | succ m ih =>
    by_cases c : f m = d
    · exact Or.inr ⟨m, Nat.lt_succ_self _, if_pos c, c, fun j h1 h2 => absurd h1 (by omega)⟩
    · have e : lastD f d (m + 1) = lastD f d m := if_neg c
      rcases ih with ⟨h1, h2⟩ | ⟨k, h1, h2, h3, h4⟩
      · refine Or.inl ⟨e.trans h1, fun k hk => ?_⟩
        by_cases q : k = m
        · rw [q]; exact c
        · exact h2 k (by omega)
      · refine Or.inr ⟨k, by omega, e.trans h2, h3, fun j hj hj2 => ?_⟩
        by_cases q : j = m
        · rw [q]; exact c
        · exact h4 j hj (by omega)
theorem lastD_upd {f : Nat → Int32} {d x : Int32} {i : Nat} : ∀ n, n ≤ i → lastD (upd f i x) d n = lastD f d n := by
  intro n
  induction n with
  | zero => intro _; rfl
  | succ n ih => intro h; rw [lastD, lastD, ih (by omega), show upd f i x n = f n from if_neg (by omega)]
theorem lastD_ext {f g : Nat → Int32} {d : Int32} : ∀ n, (∀ j, j < n → g j = f j) → lastD g d n = lastD f d n := by
  intro n
  induction n with
  | zero => intro _; rfl
  | succ n ih => intro h; rw [lastD, lastD, ih (fun j hj => h j (by omega)), h n (Nat.lt_succ_self _)]
theorem mkv_skip {mo md mh mi mk : Nat → Int32} {c d h b : Int32} {a : Nat} : ∀ m, a ≤ m → (∀ j, a ≤ j → j < m → ¬ md j = d) → mkv mo md mh mi mk c d h b m = mkv mo md mh mi mk c d h b a := by
  intro m
  induction m with
  | zero => intro h1 _; rw [show a = 0 by omega]
  | succ m ih =>
    intro h1 h2
    by_cases q : a = m + 1
    · rw [q]
    · rw [mkv, if_neg (fun e => h2 m (by omega) (by omega) e.2.1)]
      exact ih (by omega) (fun j hj hj2 => h2 j hj (by omega))
theorem e_X3_lastMark (p1 p2 p3 p4 : Int32) (f3newest f3older f3whose f3hourOf f3kind f3knownFrom mo md mh mi mk : Nat → Int32) (t : Nat) (Post : Int32 → Unit → Prop) (ht : t ≤ 400) (hp2 : 0 ≤ p2 ∧ p2 < 400) (hw : ∀ j, f3whose j = mo j) (hh : ∀ j, f3hourOf j = mh j) (hk : ∀ j, f3kind j = mi j) (hn : ∀ j, f3knownFrom j = mk j) (hnew : ∀ d : Int32, 0 ≤ d → d < 400 → f3newest d.toNatClampNeg = lastD md d t) (hold : ∀ k, k < t → f3older k = lastD md (md k) k) (h : ∀ u, Post (mkv mo md mh mi mk p1 p2 p3 p4 t) u) : wp_X3_lastMark p1 p2 p3 p4 f3newest f3older f3whose f3hourOf f3kind f3knownFrom Post := by
  delta wp_X3_lastMark
  refine ⟨vin400 hp2.1 hp2.2, fun x7 e7 => ?_⟩
  have L : ∀ (n : Nat) (y5 y6 : Int32) (m : Nat), m ≤ t → y5 = lastD md p2 m → mkv mo md mh mi mk p1 p2 p3 p4 t = mkv mo md mh mi mk p1 p2 p3 p4 m → 0 ≤ y6 ∧ y6 ≤ 400 → (m : Int) ≤ 400 - y6.toInt → tn (400 - y6) < n → lp_X3_lastMark_11 p1 p2 p3 p4 f3newest f3older f3whose f3hourOf f3kind f3knownFrom Post (fun (x8 : Int32) (x9 : Int32) => (Post 0 ())) n y5 y6 := by
    intro n
    induction n with
    | zero => intro y5 y6 m _ _ _ _ _ hm; exact absurd hm (Nat.not_lt_zero _)
    | succ n ih =>
      intro y5 y6 m hmt e5 ev h6 hmm hm
      rw [lp_X3_lastMark_11]
      have h400 : (400 : Int32).toInt = 400 := rfl
      have hc := lastD_cases md p2 m
      refine ⟨fun c => ?_, fun c => ⟨fun c1 => ?_, fun c1 => ?_⟩⟩
      · have hz : m = 0 := by
          rw [Int32.le_iff_toInt_le] at c
          omega
        subst hz
        have h0 := h ()
        rw [ev] at h0
        exact h0
      · rcases hc with ⟨_, h2⟩ | ⟨k, h1, h2, h3, h4⟩
        · have e0 := mkv_skip (mo := mo) (md := md) (mh := mh) (mi := mi) (mk := mk) (c := p1) (d := p2) (h := p3) (b := p4) (a := 0) m (Nat.zero_le _) (fun j _ hj => h2 j hj)
          have h0 := h ()
          rw [ev, e0] at h0
          exact h0
        · exact absurd ((h2.symm.trans e5.symm).trans c1) (nI400 (by omega)).2.2.2
      · rcases hc with ⟨h1, _⟩ | ⟨k, h1, h2, h3, h4⟩
        · exact absurd (e5.trans h1) c1
        · have hk4 := nI400 (k := k) (by omega)
          have e5k : y5 = nI k := e5.trans h2
          have ek : y5.toNatClampNeg = k := by rw [e5k]; exact hk4.2.2.1
          have hv5 : vp_in y5 400 := by rw [e5k]; exact vin400 hk4.1 hk4.2.1
          have e0 := mkv_skip (mo := mo) (md := md) (mh := mh) (mi := mi) (mk := mk) (c := p1) (d := p2) (h := p3) (b := p4) (a := k + 1) m (by omega) (fun j hj hj2 => h4 j (by omega) hj2)
          have eo : f3older k = lastD md p2 k := by rw [hold k (by omega), h3]
          have c6 : y6.toInt < 400 := by
            rw [Int32.le_iff_toInt_le] at c
            omega
          have h60 : 0 ≤ y6.toInt := by
            have h00 := h6.1
            rw [Int32.le_iff_toInt_le] at h00
            exact h00
          have h1i : (1 : Int32).toInt = 1 := rfl
          have e61 : (y6 + 1).toInt = y6.toInt + 1 := by
            rw [Int32.toInt_add, h1i, Int.bmod_eq_of_le (by omega) (by omega)]
          have go : ¬ (mo k = p1 ∧ md k = p2 ∧ mh k = p3 ∧ mk k ≤ p4) → ∀ x1 : Int32, x1 = f3older y5.toNatClampNeg → ∀ x2 : Int32, x2 = y6 + 1 → lp_X3_lastMark_11 p1 p2 p3 p4 f3newest f3older f3whose f3hourOf f3kind f3knownFrom Post (fun (x8 : Int32) (x9 : Int32) => (Post 0 ())) n x1 x2 := by
            intro hno x1 e1 x2 e2
            rw [ek] at e1
            refine ih x1 x2 k (by omega) (e1.trans eo) (ev.trans (e0.trans (if_neg hno))) (by rw [e2]; grind) (by rw [e2, e61]; omega) (mz (by rw [e2]; grind) (by rw [e2]; grind) hm)
          rw [ek]
          rw [ek] at go
          refine ⟨hv5, fun q1 => ⟨hv5, go (fun w => q1 ((hw k).trans w.1))⟩, fun q1 => ⟨hv5, fun q2 => ⟨hv5, go (fun w => q2 ((hh k).trans w.2.2.1))⟩, fun q2 => ⟨hv5, fun q3 => ⟨hv5, go (fun w => absurd w.2.2.2 (by have q4 := hn k; grind))⟩, fun q3 => ⟨hv5, ?_⟩⟩⟩⟩
          have hyes : mkv mo md mh mi mk p1 p2 p3 p4 (k + 1) = mi k := if_pos ⟨(hw k).symm.trans q1, h3, (hh k).symm.trans q2, by have q4 := hn k; grind⟩
          have h0 := h ()
          rw [ev, e0, hyes, ← hk k] at h0
          exact h0
  refine ⟨_, L _ x7 0 t (Nat.le_refl _) (e7.trans (hnew p2 hp2.1 hp2.2)) rfl (by decide) ?_ (Nat.lt_succ_self _)⟩
  have h0 : (0 : Int32).toInt = 0 := rfl
  omega
theorem tnc0 : (0 : Int32).toNatClampNeg = 0 := rfl
theorem le_X8_markAt_6  (k1 : Int32) (k2 : Int32) (k3 : Int32) (k4 : Int32) (v8marks : Int32) (f8markOf : Nat → Int32) (f8markDay : Nat → Int32) (f8markHour : Nat → Int32) (f8markIs : Nat → Int32) (f8markKnown : Nat → Int32) (Post : Int32 → Unit → Prop) (K : Int32 → Int32 → Prop) (g0 : (0 ≤ v8marks ∧ v8marks < 401)) (hK : ∀ (y5 : Int32) (y6 : Int32), (0 ≤ y6 ∧ y6 ≤ v8marks ∧ y5 = mkv f8markOf f8markDay f8markHour f8markIs f8markKnown k1 k2 k3 k4 y6.toNatClampNeg) → v8marks ≤ y6 → K y5 y6) : ∀ (n : Nat) (y5 : Int32) (y6 : Int32), (0 ≤ y6 ∧ y6 ≤ v8marks ∧ y5 = mkv f8markOf f8markDay f8markHour f8markIs f8markKnown k1 k2 k3 k4 y6.toNatClampNeg) → tn (v8marks - y6) < n → lp_X8_markAt_6 k1 k2 k3 k4 v8marks f8markOf f8markDay f8markHour f8markIs f8markKnown Post K n y5 y6 := by
  intro n
  induction n with
  | zero => intro y5 y6 _ hm; exact absurd hm (Nat.not_lt_zero _)
  | succ n ih =>
    intro y5 y6 hI hm
    rw [lp_X8_markAt_6]
    repeat' first
      | (with_reducible refine And.intro ?_ ?_)
      | (with_reducible refine ih _ _ ?_ (mz ?_ ?_ hm))
      | (with_reducible intro _)
    all_goals (try dsimp only at *)
    all_goals grind [al, al_upd, fil20, fil400, vin10, vin12, vin13, vin20, vin56, vin130, vin140, vin143, vin200, vin240, vin400, vin8000, mkv, tnc_succ]
theorem e_X8_markAt (p1 : Int32) (p2 : Int32) (p3 : Int32) (p4 : Int32) (v8marks : Int32) (f8markOf : Nat → Int32) (f8markDay : Nat → Int32) (f8markHour : Nat → Int32) (f8markIs : Nat → Int32) (f8markKnown : Nat → Int32) (Post : Int32 → Unit → Prop) (g0 : (0 ≤ v8marks ∧ v8marks < 401)) (h : ∀ r u, r = mkv f8markOf f8markDay f8markHour f8markIs f8markKnown p1 p2 p3 p4 v8marks.toNatClampNeg → Post r u) : wp_X8_markAt p1 p2 p3 p4 v8marks f8markOf f8markDay f8markHour f8markIs f8markKnown Post := by
  delta wp_X8_markAt
  repeat' first
    | (with_reducible refine And.intro ?_ ?_)
    | (with_reducible refine ⟨_, le_X8_markAt_6 _ _ _ _ _ _ _ _ _ _ _ _ ?_ ?_ _ _ _ ?_ (Nat.lt_succ_self _)⟩)
    | (with_reducible intro _)
  all_goals (try dsimp only at *)
  all_goals grind [al, al_upd, fil20, fil400, vin10, vin12, vin13, vin20, vin56, vin130, vin140, vin143, vin200, vin240, vin400, vin8000, mkv, tnc0]
theorem e_X8_marked (p1 : Int32) (p2 : Int32) (p3 : Int32) (p4 : Int32) (v8canons : Int32) (v8marks : Int32) (f8markOf : Nat → Int32) (f8markDay : Nat → Int32) (f8markHour : Nat → Int32) (f8markIs : Nat → Int32) (f8markKnown : Nat → Int32) (Post : Int32 → Unit → Prop) (g0 : (0 ≤ v8canons ∧ v8canons < 21)) (g1 : (0 ≤ v8marks ∧ v8marks < 401)) (h : ∀ r u, ((r = -1 ∧ (p1 < 0 ∨ v8canons ≤ p1 ∨ p2 < 0 ∨ 400 ≤ p2 ∨ p3 < 0 ∨ 7 ≤ p3 ∨ p4 < 0 ∨ 400 ≤ p4)) ∨ (r = mkv f8markOf f8markDay f8markHour f8markIs f8markKnown p1 p2 p3 p4 v8marks.toNatClampNeg ∧ (0 ≤ p1 ∧ p1 < v8canons ∧ 0 ≤ p2 ∧ p2 < 400 ∧ 0 ≤ p3 ∧ p3 < 7 ∧ 0 ≤ p4 ∧ p4 < 400))) → Post r u) : wp_X8_marked p1 p2 p3 p4 v8canons v8marks f8markOf f8markDay f8markHour f8markIs f8markKnown Post := by
  delta wp_X8_marked
  repeat' first
    | (with_reducible refine And.intro ?_ ?_)
    | (with_reducible refine s_X8_in _ _ _ _ ?_)
    | (with_reducible refine s_X8_isCanon _ _ _ ?_ ?_)
    | (with_reducible refine s_X8_isDay _ _ ?_)
    | (with_reducible refine e_X8_markAt _ _ _ _ _ _ _ _ _ _ _ ?_ ?_)
    | (with_reducible intro _)
  all_goals (try dsimp only at *)
  all_goals grind [al, al_upd, fil20, fil400, vin10, vin12, vin13, vin20, vin56, vin130, vin140, vin143, vin200, vin240, vin400, vin8000]
theorem e_X3_addMark (p1 : Int32) (p2 : Int32) (p3 : Int32) (p4 : Int32) (p5 : Int32) (v3told : Int32) (f3newest : Nat → Int32) (f3older : Nat → Int32) (f3whose : Nat → Int32) (f3hourOf : Nat → Int32) (f3kind : Nat → Int32) (f3knownFrom : Nat → Int32) (Post : Int32 → Int32 × (Nat → Int32) × (Nat → Int32) × (Nat → Int32) × (Nat → Int32) × (Nat → Int32) × (Nat → Int32) → Prop) (g0 : (0 ≤ p1 ∧ p1 < 20)) (g1 : (0 ≤ p2 ∧ p2 < 400)) (g2 : (0 ≤ p3 ∧ p3 < 7)) (g3 : (0 ≤ p4 ∧ p4 < 5)) (g4 : (0 ≤ v3told ∧ v3told < 401)) (g5 : al f3newest (-1) 400) (g6 : al f3older (-1) 400) (g7 : al f3whose 0 20) (g8 : al f3hourOf 0 7) (g9 : al f3kind 0 5) (h : ∀ r u, ((r = -1 ∧ v3told = 400 ∧ u.1 = v3told ∧ (∀ j, u.2.1 j = f3newest j) ∧ (∀ j, u.2.2.1 j = f3older j) ∧ (∀ j, u.2.2.2.1 j = f3whose j) ∧ (∀ j, u.2.2.2.2.1 j = f3hourOf j) ∧ (∀ j, u.2.2.2.2.2.1 j = f3kind j) ∧ (∀ j, u.2.2.2.2.2.2 j = f3knownFrom j)) ∨ (r = v3told + 1 ∧ v3told < 400 ∧ u.1 = v3told + 1 ∧ (∀ j, u.2.1 j = if j = p2.toNatClampNeg then v3told else f3newest j) ∧ (∀ j, u.2.2.1 j = if j = v3told.toNatClampNeg then f3newest p2.toNatClampNeg else f3older j) ∧ (∀ j, u.2.2.2.1 j = if j = v3told.toNatClampNeg then p1 else f3whose j) ∧ (∀ j, u.2.2.2.2.1 j = if j = v3told.toNatClampNeg then p3 else f3hourOf j) ∧ (∀ j, u.2.2.2.2.2.1 j = if j = v3told.toNatClampNeg then p4 else f3kind j) ∧ (∀ j, u.2.2.2.2.2.2 j = if j = v3told.toNatClampNeg then p5 else f3knownFrom j))) → Post r u) : wp_X3_addMark p1 p2 p3 p4 p5 v3told f3newest f3older f3whose f3hourOf f3kind f3knownFrom Post := by
  delta wp_X3_addMark
  repeat' first
    | (with_reducible refine And.intro ?_ ?_)
    | (with_reducible intro _)
  all_goals (try dsimp only at *)
  all_goals grind [al, al_upd, fil20, fil400, vin10, vin12, vin13, vin20, vin56, vin130, vin140, vin143, vin200, vin240, vin400, vin8000, upd]
theorem e_X7_mark (p1 : Int32) (p2 : Int32) (p3 : Int32) (p4 : Int32) (v2canons : Int32) (v3told : Int32) (f3newest : Nat → Int32) (f3older : Nat → Int32) (f3whose : Nat → Int32) (f3hourOf : Nat → Int32) (f3kind : Nat → Int32) (f3knownFrom : Nat → Int32) (v7now : Int32) (Post : Int32 → Int32 × (Nat → Int32) × (Nat → Int32) × (Nat → Int32) × (Nat → Int32) × (Nat → Int32) × (Nat → Int32) → Prop) (g0 : (0 ≤ v2canons ∧ v2canons < 21)) (g1 : (0 ≤ v3told ∧ v3told < 401)) (g2 : (0 ≤ v7now ∧ v7now < 401)) (g3 : al f3newest (-1) 400) (g4 : al f3older (-1) 400) (g5 : al f3whose 0 20) (g6 : al f3hourOf 0 7) (g7 : al f3kind 0 5) (h : ∀ r u, ((r = -1 ∧ u.1 = v3told ∧ (400 ≤ v7now ∨ p1 < 0 ∨ v2canons ≤ p1 ∨ p2 < 0 ∨ v7now < p2 ∨ p3 < 0 ∨ 7 ≤ p3 ∨ p4 < 0 ∨ 4 < p4 ∨ v3told = 400) ∧ (∀ j, u.2.1 j = f3newest j) ∧ (∀ j, u.2.2.1 j = f3older j) ∧ (∀ j, u.2.2.2.1 j = f3whose j) ∧ (∀ j, u.2.2.2.2.1 j = f3hourOf j) ∧ (∀ j, u.2.2.2.2.2.1 j = f3kind j) ∧ (∀ j, u.2.2.2.2.2.2 j = f3knownFrom j)) ∨ (r = v3told + 1 ∧ u.1 = v3told + 1 ∧ (v7now < 400 ∧ 0 ≤ p1 ∧ p1 < v2canons ∧ 0 ≤ p2 ∧ p2 ≤ v7now ∧ 0 ≤ p3 ∧ p3 < 7 ∧ 0 ≤ p4 ∧ p4 ≤ 4 ∧ v3told < 400) ∧ (∀ j, u.2.1 j = if j = p2.toNatClampNeg then v3told else f3newest j) ∧ (∀ j, u.2.2.1 j = if j = v3told.toNatClampNeg then f3newest p2.toNatClampNeg else f3older j) ∧ (∀ j, u.2.2.2.1 j = if j = v3told.toNatClampNeg then p1 else f3whose j) ∧ (∀ j, u.2.2.2.2.1 j = if j = v3told.toNatClampNeg then p3 else f3hourOf j) ∧ (∀ j, u.2.2.2.2.2.1 j = if j = v3told.toNatClampNeg then p4 else f3kind j) ∧ (∀ j, u.2.2.2.2.2.2 j = if j = v3told.toNatClampNeg then v7now else f3knownFrom j))) → Post r u) : wp_X7_mark p1 p2 p3 p4 v2canons v3told f3newest f3older f3whose f3hourOf f3kind f3knownFrom v7now Post := by
  delta wp_X7_mark
  repeat' first
    | (with_reducible refine And.intro ?_ ?_)
    | (with_reducible refine s_X2_hasCanon _ _ _ ?_)
    | (with_reducible refine e_X3_addMark _ _ _ _ _ _ _ _ _ _ _ _ _ ?_ ?_ ?_ ?_ ?_ ?_ ?_ ?_ ?_ ?_ ?_)
    | (with_reducible refine s_X7_isHour _ _ ?_)
    | (with_reducible refine s_X7_isOver _ _ ?_)
    | (with_reducible intro _)
  all_goals (try dsimp only at *)
  all_goals grind [al, al_upd, fil20, fil400, vin10, vin12, vin13, vin20, vin56, vin130, vin140, vin143, vin200, vin240, vin400, vin8000]
theorem e_X8_mark (p1 : Int32) (p2 : Int32) (p3 : Int32) (p4 : Int32) (v8now : Int32) (v8canons : Int32) (v8marks : Int32) (f8markOf : Nat → Int32) (f8markDay : Nat → Int32) (f8markHour : Nat → Int32) (f8markIs : Nat → Int32) (f8markKnown : Nat → Int32) (Post : Int32 → Int32 × (Nat → Int32) × (Nat → Int32) × (Nat → Int32) × (Nat → Int32) × (Nat → Int32) → Prop) (g0 : (0 ≤ v8canons ∧ v8canons < 21)) (g1 : (0 ≤ v8marks ∧ v8marks < 401)) (g2 : (0 ≤ v8now ∧ v8now < 401)) (g3 : al f8markOf 0 20) (g4 : al f8markHour 0 7) (g5 : al f8markIs 0 5) (h : ∀ r u, ((r = -1 ∧ u.1 = v8marks ∧ (v8now = 400 ∨ p1 < 0 ∨ v8canons ≤ p1 ∨ p2 < 0 ∨ v8now < p2 ∨ p3 < 0 ∨ 7 ≤ p3 ∨ p4 < 0 ∨ 4 < p4 ∨ v8marks = 400) ∧ (∀ j, u.2.1 j = f8markOf j) ∧ (∀ j, u.2.2.1 j = f8markDay j) ∧ (∀ j, u.2.2.2.1 j = f8markHour j) ∧ (∀ j, u.2.2.2.2.1 j = f8markIs j) ∧ (∀ j, u.2.2.2.2.2 j = f8markKnown j)) ∨ (r = v8marks + 1 ∧ u.1 = v8marks + 1 ∧ v8now < 400 ∧ 0 ≤ p1 ∧ p1 < v8canons ∧ 0 ≤ p2 ∧ p2 ≤ v8now ∧ 0 ≤ p3 ∧ p3 < 7 ∧ 0 ≤ p4 ∧ p4 ≤ 4 ∧ v8marks < 400 ∧ (∀ j, u.2.1 j = if j = v8marks.toNatClampNeg then p1 else f8markOf j) ∧ (∀ j, u.2.2.1 j = if j = v8marks.toNatClampNeg then p2 else f8markDay j) ∧ (∀ j, u.2.2.2.1 j = if j = v8marks.toNatClampNeg then p3 else f8markHour j) ∧ (∀ j, u.2.2.2.2.1 j = if j = v8marks.toNatClampNeg then p4 else f8markIs j) ∧ (∀ j, u.2.2.2.2.2 j = if j = v8marks.toNatClampNeg then v8now else f8markKnown j))) → Post r u) : wp_X8_mark p1 p2 p3 p4 v8now v8canons v8marks f8markOf f8markDay f8markHour f8markIs f8markKnown Post := by
  delta wp_X8_mark
  repeat' first
    | (with_reducible refine And.intro ?_ ?_)
    | (with_reducible refine s_X8_in _ _ _ _ ?_)
    | (with_reducible refine s_X8_isCanon _ _ _ ?_ ?_)
    | (with_reducible intro _)
  all_goals (try dsimp only at *)
  all_goals grind [al, al_upd, fil20, fil400, vin10, vin12, vin13, vin20, vin56, vin130, vin140, vin143, vin200, vin240, vin400, vin8000, upd]
theorem e_X7_marked (p1 p2 p3 p4 v2canons : Int32) (f3newest f3older f3whose f3hourOf f3kind f3knownFrom mo md mh mi mk : Nat → Int32) (t : Nat) (Post : Int32 → Unit → Prop) (ht : t ≤ 400) (hw : ∀ j, f3whose j = mo j) (hh : ∀ j, f3hourOf j = mh j) (hk : ∀ j, f3kind j = mi j) (hn : ∀ j, f3knownFrom j = mk j) (hnew : ∀ d : Int32, 0 ≤ d → d < 400 → f3newest d.toNatClampNeg = lastD md d t) (hold : ∀ k, k < t → f3older k = lastD md (md k) k) (h : ∀ r u, ((r = -1 ∧ (p1 < 0 ∨ v2canons ≤ p1 ∨ p2 < 0 ∨ 400 ≤ p2 ∨ p3 < 0 ∨ 7 ≤ p3 ∨ p4 < 0 ∨ 400 ≤ p4)) ∨ (r = mkv mo md mh mi mk p1 p2 p3 p4 t ∧ (0 ≤ p1 ∧ p1 < v2canons ∧ 0 ≤ p2 ∧ p2 < 400 ∧ 0 ≤ p3 ∧ p3 < 7 ∧ 0 ≤ p4 ∧ p4 < 400))) → Post r u) : wp_X7_marked p1 p2 p3 p4 v2canons f3newest f3older f3whose f3hourOf f3kind f3knownFrom Post := by
  delta wp_X7_marked
  repeat' first
    | (with_reducible refine And.intro ?_ ?_)
    | (with_reducible refine s_X7_isAsked _ _ _ _ _ ?_)
    | (with_reducible refine s_X7_isHour _ _ ?_)
    | (with_reducible refine e_X3_lastMark _ _ _ _ _ _ _ _ _ _ mo md mh mi mk t _ ht ?_ hw hh hk hn hnew hold ?_)
    | (with_reducible intro _)
  all_goals (try dsimp only at *)
  all_goals grind
theorem al_if {f g : Nat → Int32} {lo hi x : Int32} {k : Nat} (h : ∀ j, g j = if j = k then x else f j) (hf : al f lo hi) (h0 : lo ≤ x) (h1 : x < hi) : al g lo hi := by
  intro j
  rw [h j]
  split
  · exact ⟨h0, h1⟩
  · exact hf j
theorem al_same {f g : Nat → Int32} {lo hi : Int32} (h : ∀ j, g j = f j) (hf : al f lo hi) : al g lo hi := by
  intro j
  rw [h j]
  exact hf j
theorem new_step {newest nu md mdu : Nat → Int32} {m p2 : Int32} (hm : 0 ≤ m ∧ m < 400) (hp : 0 ≤ p2) (h1 : ∀ j, nu j = if j = p2.toNatClampNeg then m else newest j) (h2 : ∀ j, mdu j = if j = m.toNatClampNeg then p2 else md j) (h : ∀ d : Int32, 0 ≤ d → d < 400 → newest d.toNatClampNeg = lastD md d m.toNatClampNeg) : ∀ d : Int32, 0 ≤ d → d < 400 → nu d.toNatClampNeg = lastD mdu d (m + 1).toNatClampNeg := by
  intro d h0 h4
  have e0 : lastD mdu d m.toNatClampNeg = lastD md d m.toNatClampNeg := lastD_ext _ (fun j hj => by rw [h2 j, if_neg (by omega)])
  rw [tnc_succ hm.1 hm.2, lastD, h2 m.toNatClampNeg, if_pos rfl, e0, h1]
  by_cases c : p2 = d
  · rw [if_pos c, c, if_pos rfl, tnc_nI hm.1]
  · rw [if_neg c, if_neg (fun e => c (tnc_inj hp h0 e.symm))]
    exact h d h0 h4
theorem old_step {newest older ou md mdu : Nat → Int32} {m p2 : Int32} (hm : 0 ≤ m ∧ m < 400) (hp : 0 ≤ p2 ∧ p2 < 400) (h1 : ∀ j, ou j = if j = m.toNatClampNeg then newest p2.toNatClampNeg else older j) (h2 : ∀ j, mdu j = if j = m.toNatClampNeg then p2 else md j) (h : ∀ d : Int32, 0 ≤ d → d < 400 → newest d.toNatClampNeg = lastD md d m.toNatClampNeg) (ho : ∀ k : Nat, k < m.toNatClampNeg → older k = lastD md (md k) k) : ∀ k : Nat, k < (m + 1).toNatClampNeg → ou k = lastD mdu (mdu k) k := by
  intro k hk
  rw [tnc_succ hm.1 hm.2] at hk
  have e0 : ∀ d, lastD mdu d k = lastD md d k := fun d => lastD_ext _ (fun j hj => by rw [h2 j, if_neg (by omega)])
  rw [e0, h1 k, h2 k]
  by_cases c : k = m.toNatClampNeg
  · rw [if_pos c, if_pos c, c]
    exact h p2 hp.1 hp.2
  · rw [if_neg c, if_neg c]
    exact ho k (by omega)
