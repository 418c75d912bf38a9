theorem tnc_inj {x y : Int32} (h0 : 0 ≤ x) (h1 : 0 ≤ y) (h : x.toNatClampNeg = y.toNatClampNeg) : x = y := by
  rw [← Int32.toInt_inj]
  rw [Int32.le_iff_toInt_le] at h0 h1
  have h2 : (0 : Int32).toInt = 0 := rfl
  have h3 : x.toInt.toNat = y.toInt.toNat := h
  omega
def optP (there stallOf worth wishes : Nat → Int32) (s c : Int32) : Prop := ¬ there c.toNatClampNeg = 0 ∧ ¬ wishes (c * 12 + s).toNatClampNeg = 0 ∧ (stallOf c.toNatClampNeg = -1 ∨ worth (stallOf c.toNatClampNeg).toNatClampNeg < worth s.toNatClampNeg)
def isO (canons : Int32) (there stallOf worth wishes : Nat → Int32) (s r : Int32) : Prop := (r = -1 ∧ ∀ c, 0 ≤ c → c < canons → ¬ optP there stallOf worth wishes s c) ∨ (0 ≤ r ∧ r < canons ∧ optP there stallOf worth wishes s r ∧ ∀ c, 0 ≤ c → c < r → ¬ optP there stallOf worth wishes s c)
theorem isO_uniq {canons : Int32} {there stallOf worth wishes : Nat → Int32} {s r q : Int32} (h : isO canons there stallOf worth wishes s r) (g : isO canons there stallOf worth wishes s q) : r = q := by
  rcases h with ⟨h1, h2⟩ | ⟨h1, h2, h3, h4⟩ <;> rcases g with ⟨g1, g2⟩ | ⟨g1, g2, g3, g4⟩
  · rw [h1, g1]
  · exact absurd g3 (h2 q g1 g2)
  · exact absurd h3 (g2 r h1 h2)
  · by_cases c : r < q
    · exact absurd h3 (g4 r h1 c)
    · by_cases d : q < r
      · exact absurd g3 (h4 q g1 d)
      · grind
def hoU (ho : Nat → Int32) (s r left : Int32) : Nat → Int32 := if left = -1 then upd ho s.toNatClampNeg r else upd (upd ho s.toNatClampNeg r) left.toNatClampNeg (-1)
def FR (canons : Int32) (there worth wishes : Nat → Int32) : Nat → Int32 → (Nat → Int32) → (Nat → Int32) → Int32 → (Nat → Int32) → (Nat → Int32) → (Nat → Int32) → ((Nat → Int32) × (Nat → Int32) × Int32 × (Nat → Int32) × (Nat → Int32) × (Nat → Int32)) → Prop
  | 0, _, so, ho, mv, a, b, c, out => out = (so, ho, mv, a, b, c)
  | n + 1, s, so, ho, mv, a, b, c, out => (s = -1 ∧ out = (so, ho, mv, a, b, c)) ∨ (¬ s = -1 ∧ ∃ r : Int32, isO canons there so worth wishes s r ∧ ((r = -1 ∧ out = (so, ho, mv, a, b, c)) ∨ (¬ r = -1 ∧ FR canons there worth wishes n (so r.toNatClampNeg) (upd so r.toNatClampNeg s) (hoU ho s r (so r.toNatClampNeg)) (mv + 1) (upd a mv.toNatClampNeg r) (upd b mv.toNatClampNeg (so r.toNatClampNeg)) (upd c mv.toNatClampNeg s) out)))
theorem FR_none {canons : Int32} {there worth wishes : Nat → Int32} {so ho : Nat → Int32} {mv : Int32} {a b c : Nat → Int32} {out : (Nat → Int32) × (Nat → Int32) × Int32 × (Nat → Int32) × (Nat → Int32) × (Nat → Int32)} : ∀ n, FR canons there worth wishes n (-1) so ho mv a b c out ↔ out = (so, ho, mv, a, b, c) := by
  intro n
  cases n with
  | zero => exact Iff.rfl
  | succ n =>
    rw [FR]
    constructor
    · rintro (⟨_, h⟩ | ⟨h, _⟩)
      · exact h
      · exact absurd rfl h
    · intro h
      exact Or.inl ⟨rfl, h⟩
theorem FR_uniq {canons : Int32} {there worth wishes : Nat → Int32} : ∀ (n : Nat) (s : Int32) (so ho : Nat → Int32) (mv : Int32) (a b c : Nat → Int32) (o1 o2 : (Nat → Int32) × (Nat → Int32) × Int32 × (Nat → Int32) × (Nat → Int32) × (Nat → Int32)), FR canons there worth wishes n s so ho mv a b c o1 → FR canons there worth wishes n s so ho mv a b c o2 → o1 = o2 := by
  intro n
  induction n with
  | zero => intro s so ho mv a b c o1 o2 h1 h2; rw [FR] at h1 h2; rw [h1, h2]
  | succ n ih =>
    intro s so ho mv a b c o1 o2 h1 h2
    rw [FR] at h1 h2
    rcases h1 with ⟨s1, h1⟩ | ⟨s1, r1, i1, h1⟩ <;> rcases h2 with ⟨s2, h2⟩ | ⟨s2, r2, i2, h2⟩
    · rw [h1, h2]
    · exact absurd s1 s2
    · exact absurd s2 s1
    · have e := isO_uniq i1 i2
      subst e
      rcases h1 with ⟨q1, h1⟩ | ⟨q1, h1⟩ <;> rcases h2 with ⟨q2, h2⟩ | ⟨q2, h2⟩
      · rw [h1, h2]
      · exact absurd q1 q2
      · exact absurd q2 q1
      · exact ih _ _ _ _ _ _ _ _ _ h1 h2
theorem tn12 {y : Int32} (h0 : 0 ≤ y) (h1 : y < 12) : tn (12 - y) = tn (12 - (y + 1)) + 1 := by
  unfold tn
  rw [Int32.le_iff_toInt_le] at h0
  rw [Int32.lt_iff_toInt_lt] at h1
  have a0 : (0 : Int32).toInt = 0 := rfl
  have a1 : (1 : Int32).toInt = 1 := rfl
  have a2 : (12 : Int32).toInt = 12 := rfl
  rw [Int32.toInt_sub, Int32.toInt_sub, Int32.toInt_add, a1, a2, Int.bmod_eq_of_le (n := y.toInt + 1) (by omega) (by omega), Int.bmod_eq_of_le (by omega) (by omega), Int.bmod_eq_of_le (by omega) (by omega)]
  omega
theorem tn12z {y : Int32} (h0 : 12 ≤ y) (h1 : y ≤ 12) : tn (12 - y) = 0 := by
  have e : y = 12 := by grind
  subst e
  rfl
theorem e_X2_worthOf (p1 : Int32) (f2stallOf : Nat → Int32) (f2worth : Nat → Int32) (Post : Int32 → Unit → Prop) (g0 : (0 ≤ p1 ∧ p1 < 20)) (g1 : al f2stallOf (-1) 12) (h : ∀ r u, (¬ f2stallOf p1.toNatClampNeg = -1 → r = f2worth (f2stallOf p1.toNatClampNeg).toNatClampNeg) → Post r u) : wp_X2_worthOf p1 f2stallOf f2worth Post := by
  delta wp_X2_worthOf
  repeat' first
    | (with_reducible refine And.intro ?_ ?_)
    | (with_reducible intro _)
  all_goals (try dsimp only at *)
  all_goals grind [al, al_upd, fil20, fil400, vin10, vin12, vin13, vin20, vin56, vin130, vin140, vin143, vin200, vin240, vin400, vin8000]
theorem e_X2_gainsBy (p1 : Int32) (p2 : Int32) (f2stallOf : Nat → Int32) (f2worth : Nat → Int32) (Post : Int32 → Unit → Prop) (g0 : (0 ≤ p1 ∧ p1 < 20)) (g1 : (0 ≤ p2 ∧ p2 < 12)) (g2 : al f2stallOf (-1) 12) (h : ∀ r u, ((r = 0 ∧ ¬ (f2stallOf p1.toNatClampNeg = -1 ∨ f2worth (f2stallOf p1.toNatClampNeg).toNatClampNeg < f2worth p2.toNatClampNeg)) ∨ (r = 1 ∧ (f2stallOf p1.toNatClampNeg = -1 ∨ f2worth (f2stallOf p1.toNatClampNeg).toNatClampNeg < f2worth p2.toNatClampNeg))) → Post r u) : wp_X2_gainsBy p1 p2 f2stallOf f2worth Post := by
  delta wp_X2_gainsBy
  repeat' first
    | (with_reducible refine And.intro ?_ ?_)
    | (with_reducible refine e_X2_worthOf _ _ _ _ ?_ ?_ ?_)
    | (with_reducible intro _)
  all_goals (try dsimp only at *)
  all_goals grind [al, al_upd, fil20, fil400, vin10, vin12, vin13, vin20, vin56, vin130, vin140, vin143, vin200, vin240, vin400, vin8000]
theorem le_X2_firstOptant_2  (k1 : Int32) (v2canons : Int32) (f2there : Nat → Int32) (f2stallOf : Nat → Int32) (f2worth : Nat → Int32) (f2wishes : Nat → Int32) (Post : Int32 → Unit → Prop) (K : Int32 → Prop) (g0 : (0 ≤ k1 ∧ k1 < 12)) (g1 : (0 ≤ v2canons ∧ v2canons < 21)) (g2 : al f2stallOf (-1) 12) (h : ∀ r u, isO v2canons f2there f2stallOf f2worth f2wishes k1 r → Post r u) (hK : ∀ (y2 : Int32), (0 ≤ y2 ∧ y2 ≤ v2canons ∧ ∀ c, 0 ≤ c → c < y2 → ¬ optP f2there f2stallOf f2worth f2wishes k1 c) → v2canons ≤ y2 → K y2) : ∀ (n : Nat) (y2 : Int32), (0 ≤ y2 ∧ y2 ≤ v2canons ∧ ∀ c, 0 ≤ c → c < y2 → ¬ optP f2there f2stallOf f2worth f2wishes k1 c) → tn (v2canons - y2) < n → lp_X2_firstOptant_2 k1 v2canons f2there f2stallOf f2worth f2wishes Post K n y2 := by
  intro n
  induction n with
  | zero => intro y2 _ hm; exact absurd hm (Nat.not_lt_zero _)
  | succ n ih =>
    intro y2 hI hm
    rw [lp_X2_firstOptant_2]
    have go : ¬ optP f2there f2stallOf f2worth f2wishes k1 y2 → ¬ v2canons ≤ y2 → ∀ x1 : Int32, x1 = y2 + 1 → lp_X2_firstOptant_2 k1 v2canons f2there f2stallOf f2worth f2wishes Post K n x1 := by
      intro hno c x1 e1
      obtain ⟨i1, i2, i3⟩ := hI
      refine ih x1 ⟨by clear i3; grind, by clear i3; grind, ?_⟩ (mz (by clear i3; grind) (by clear i3; grind) hm)
      intro c h0 h1
      by_cases q : c = y2
      · rw [q]; exact hno
      · exact i3 c h0 (by clear i3; grind)
    obtain ⟨i1, i2, i3⟩ := hI
    refine ⟨fun c => hK _ ⟨i1, i2, i3⟩ c, fun c => ⟨vin20 i1 (by clear i3 go; grind), fun c1 => go (fun w => w.1 c1) c, fun c1 => ⟨vin240 (by clear i3 go; grind) (by clear i3 go; grind), fun c2 => go (fun w => w.2.1 c2) c, fun c2 => e_X2_gainsBy _ _ _ _ _ (by clear i3 go; grind) g0 g2 (fun r3 u4 q => ⟨fun c3 => go ?_ c, fun c3 => h _ _ ?_⟩)⟩⟩⟩
    · rcases q with q | q
      · exact fun w => q.2 w.2.2
      · exact absurd (c3.symm.trans q.1) (by decide)
    · rcases q with q | q
      · exact absurd q.1 c3
      · exact Or.inr ⟨i1, by clear i3 go; grind, ⟨c1, c2, q.2⟩, i3⟩
theorem e_X2_firstOptant (p1 : Int32) (v2canons : Int32) (f2there : Nat → Int32) (f2stallOf : Nat → Int32) (f2worth : Nat → Int32) (f2wishes : Nat → Int32) (Post : Int32 → Unit → Prop) (g0 : (0 ≤ p1 ∧ p1 < 12)) (g1 : (0 ≤ v2canons ∧ v2canons < 21)) (g2 : al f2stallOf (-1) 12) (h : ∀ r u, isO v2canons f2there f2stallOf f2worth f2wishes p1 r → Post r u) : wp_X2_firstOptant p1 v2canons f2there f2stallOf f2worth f2wishes Post := by
  delta wp_X2_firstOptant
  repeat' first
    | (with_reducible refine And.intro ?_ ?_)
    | (with_reducible refine ⟨_, le_X2_firstOptant_2 _ _ _ _ _ _ _ _ ?_ ?_ ?_ ?_ ?_ _ _ ?_ (Nat.lt_succ_self _)⟩)
    | (with_reducible intro _)
  all_goals (try dsimp only at *)
  all_goals grind [al, al_upd, fil20, fil400, vin10, vin12, vin13, vin20, vin56, vin130, vin140, vin143, vin200, vin240, vin400, vin8000, isO]
theorem e_X2_moveTo (p1 : Int32) (p2 : Int32) (f2stallOf : Nat → Int32) (f2holder : Nat → Int32) (v2moves : Int32) (f2mover : Nat → Int32) (f2movedFrom : Nat → Int32) (f2movedTo : Nat → Int32) (Post : Int32 → (Nat → Int32) × (Nat → Int32) × Int32 × (Nat → Int32) × (Nat → Int32) × (Nat → Int32) → Prop) (g0 : (0 ≤ p1 ∧ p1 < 20)) (g1 : (0 ≤ p2 ∧ p2 < 12)) (g2 : (0 ≤ v2moves ∧ v2moves < 12)) (g3 : al f2stallOf (-1) 12) (h : ∀ r u, (r = f2stallOf p1.toNatClampNeg ∧ u = (upd f2stallOf p1.toNatClampNeg p2, hoU f2holder p2 p1 r, v2moves + 1, upd f2mover v2moves.toNatClampNeg p1, upd f2movedFrom v2moves.toNatClampNeg r, upd f2movedTo v2moves.toNatClampNeg p2)) → Post r u) : wp_X2_moveTo p1 p2 f2stallOf f2holder v2moves f2mover f2movedFrom f2movedTo Post := by
  delta wp_X2_moveTo
  repeat' first
    | (with_reducible refine And.intro ?_ ?_)
    | (with_reducible intro _)
  all_goals (try dsimp only at *)
  all_goals grind [al, al_upd, fil20, fil400, vin10, vin12, vin13, vin20, vin56, vin130, vin140, vin143, vin200, vin240, vin400, vin8000, hoU]
theorem e_X2_fall (p1 v2canons : Int32) (f2there f2stallOf f2worth f2holder f2wishes : Nat → Int32) (v2moves : Int32) (f2mover f2movedFrom f2movedTo : Nat → Int32) (Post : (Nat → Int32) × (Nat → Int32) × Int32 × (Nat → Int32) × (Nat → Int32) × (Nat → Int32) → Prop) (g0 : -1 ≤ p1 ∧ p1 < 12) (g1 : 0 ≤ v2canons ∧ v2canons < 21) (g2 : al f2stallOf (-1) 12) (h : ∀ u, (al u.1 (-1) 12 ∧ 0 ≤ u.2.2.1 ∧ u.2.2.1 < 13 ∧ FR v2canons f2there f2worth f2wishes 12 p1 f2stallOf f2holder 0 f2mover f2movedFrom f2movedTo u) → Post u) : wp_X2_fall p1 v2canons f2there f2stallOf f2worth f2holder f2wishes v2moves f2mover f2movedFrom f2movedTo Post := by
  delta wp_X2_fall
  have L : ∀ (n : Nat) (y2 y3 : Int32) (so ho : Nat → Int32) (mv : Int32) (a b c : Nat → Int32), (0 ≤ y3 ∧ y3 ≤ 12 ∧ -1 ≤ y2 ∧ y2 < 12 ∧ 0 ≤ mv ∧ mv ≤ y3) → al so (-1) 12 → (∀ out, FR v2canons f2there f2worth f2wishes (tn (12 - y3)) y2 so ho mv a b c out → FR v2canons f2there f2worth f2wishes 12 p1 f2stallOf f2holder 0 f2mover f2movedFrom f2movedTo out) → tn (12 - y3) < n → lp_X2_fall_9 p1 v2canons f2there f2worth f2wishes Post (fun (x7 : Int32) (x8 : Int32) (g9 : Nat → Int32) (g10 : Nat → Int32) (x11 : Int32) (g12 : Nat → Int32) (g13 : Nat → Int32) (g14 : Nat → Int32) => (Post (g9, g10, x11, g12, g13, g14))) n y2 y3 so ho mv a b c := by
    intro n
    induction n with
    | zero => intro y2 y3 so ho mv a b c _ _ _ hm; exact absurd hm (Nat.not_lt_zero _)
    | succ n ih =>
      intro y2 y3 so ho mv a b c hI hal hF hm
      rw [lp_X2_fall_9]
      have fin : FR v2canons f2there f2worth f2wishes (tn (12 - y3)) y2 so ho mv a b c (so, ho, mv, a, b, c) → Post (so, ho, mv, a, b, c) := fun q => h _ ⟨hal, hI.2.2.2.2.1, by show mv < 13; clear hF; grind, hF _ q⟩
      refine ⟨fun c12 => fin ?_, fun c12 => ⟨fun c1 => fin ?_, fun c1 => e_X2_firstOptant _ _ _ _ _ _ _ (by clear hF fin; grind) g1 hal (fun r1 u2 q => ⟨fun cr => ?_, fun cr x6 e6 => ?_⟩)⟩⟩
      · rw [tn12z c12 hI.2.1]
        exact rfl
      · rw [c1]
        exact (FR_none _).mpr rfl
      · have hr : 0 ≤ r1 ∧ r1 < 20 := by
          rcases q with q | q
          · exact absurd q.1 cr
          · exact ⟨q.1, by have q2 := q.2.1; clear hF fin q; grind⟩
        refine e_X2_moveTo _ _ _ _ _ _ _ _ _ hr (by clear hF fin; grind) (by clear hF fin; grind) hal (fun r3 u4 q4 x5 e5 => ?_)
        obtain ⟨q3, q4⟩ := q4
        subst q4
        have hs := hal r1.toNatClampNeg
        refine ih r3 x5 _ _ _ _ _ _ ⟨by clear hF fin; grind, by clear hF fin; grind, by rw [q3]; exact hs.1, by rw [q3]; exact hs.2, by show 0 ≤ mv + 1; clear hF fin; grind, by show mv + 1 ≤ x5; clear hF fin; grind⟩ (al_upd hal (by clear hF fin; grind) (by clear hF fin; grind)) ?_ (mz (by clear hF fin; grind) (by clear hF fin; grind) hm)
        intro out ho'
        apply hF
        rw [tn12 hI.1 (by clear hF fin; grind), FR]
        refine Or.inr ⟨c1, r1, q, Or.inr ⟨cr, ?_⟩⟩
        rw [e5] at ho'
        rw [q3] at ho'
        exact ho'
      · refine ih (-1) x6 so ho mv a b c ⟨by clear hF fin; grind, by clear hF fin; grind, by decide, by decide, hI.2.2.2.2.1, by clear hF fin; grind⟩ hal ?_ (mz (by clear hF fin; grind) (by clear hF fin; grind) hm)
        intro out ho'
        rw [FR_none] at ho'
        apply hF
        rw [tn12 hI.1 (by clear hF fin; grind), FR]
        exact Or.inr ⟨c1, r1, q, Or.inl ⟨cr, ho'⟩⟩
  have e12 : tn (12 - 0) = 12 := by decide
  exact ⟨_, L _ p1 0 f2stallOf f2holder 0 f2mover f2movedFrom f2movedTo ⟨by decide, by decide, g0.1, g0.2, by decide, by decide⟩ g2 (fun out q => by rw [e12] at q; exact q) (Nat.lt_succ_self _)⟩
def cntW (f : Nat → Int32) (w : Int32) : Nat → Nat
  | 0 => 0
  | n + 1 => cntW f w n + (if w < f n then 1 else 0)
theorem cntW_le (f : Nat → Int32) (w : Int32) (n : Nat) : cntW f w n ≤ n := by
  induction n with
  | zero => exact Nat.le_refl _
  | succ n ih => rw [cntW]; split <;> omega
theorem cntW_lt {f : Nat → Int32} {w : Int32} {i : Nat} (h : ¬ w < f i) : ∀ n, i < n → cntW f w n < n := by
  intro n
  induction n with
  | zero => intro h; exact absurd h (Nat.not_lt_zero _)
  | succ n ih =>
    intro hn
    rw [cntW]
    by_cases e : i = n
    · rw [e] at h
      have h1 := cntW_le f w n
      rw [if_neg h]
      omega
    · have h1 := ih (by omega)
      split <;> omega
theorem cntW_mono {f : Nat → Int32} {w w' : Int32} (h : w' < w) (n : Nat) : cntW f w n ≤ cntW f w' n := by
  induction n with
  | zero => exact Nat.le_refl _
  | succ n ih =>
    rw [cntW, cntW]
    by_cases c : w < f n
    · rw [if_pos c, if_pos (by grind)]
      omega
    · rw [if_neg c]
      omega
theorem cntW_step {f : Nat → Int32} {w' : Int32} {i : Nat} (h : w' < f i) : ∀ n, i < n → cntW f (f i) n + 1 ≤ cntW f w' n := by
  intro n
  induction n with
  | zero => intro h; exact absurd h (Nat.not_lt_zero _)
  | succ n ih =>
    intro hn
    rw [cntW, cntW]
    by_cases e : i = n
    · have h1 := cntW_mono (f := f) h n
      subst e
      rw [if_neg (by grind), if_pos h]
      omega
    · have h1 := ih (by omega)
      by_cases c : f i < f n
      · rw [if_pos c, if_pos (by grind)]
        omega
      · rw [if_neg c]
        omega
theorem tnc12 {x : Int32} (h0 : 0 ≤ x) (h1 : x < 12) : x.toNatClampNeg < 12 := by
  have h2 : x.toNatClampNeg = x.toInt.toNat := rfl
  rw [Int32.lt_iff_toInt_lt] at h1
  have h5 : (12 : Int32).toInt = 12 := rfl
  omega
theorem upd_comm {f : Nat → Int32} {k l : Nat} {x y : Int32} (h : k ≠ l) : upd (upd f k x) l y = upd (upd f l y) k x := by
  funext j
  unfold upd
  by_cases c : j = k
  · subst c
    rw [if_neg h, if_pos rfl, if_pos rfl]
  · rw [if_neg c, if_neg c]
theorem le_falls_42 (k1 k2 : Int32) (f8worth f8inStall : Nat → Int32) (v8canons : Int32) (f8isThere f8stallOf f8wishes : Nat → Int32) (v8moves : Int32) (f8moveOf f8moveFrom f8moveTo f8hasMoved : Nat → Int32) (Post : (Nat → Int32) × (Nat → Int32) × Int32 × (Nat → Int32) × (Nat → Int32) × (Nat → Int32) × (Nat → Int32) → Prop) (K : Int32 → Int32 → Prop) (g0 : 0 ≤ k2 ∧ k2 < 12) (g1 : 0 ≤ v8canons ∧ v8canons < 21) (g2 : al f8stallOf (-1) 12) (hmv : ∀ c, 0 ≤ c → c < 20 → ¬ f8hasMoved c.toNatClampNeg = 0 → ¬ optP f8isThere f8stallOf f8worth f8wishes k2 c) (hK : ∀ y3 y4, isO v8canons f8isThere f8stallOf f8worth f8wishes k2 y3 → (0 ≤ y3 → f8hasMoved y3.toNatClampNeg = 0) → K y3 y4) : ∀ (n : Nat) (y3 y4 : Int32), (-1 ≤ y4 ∧ y4 < v8canons) → ((y3 = -1 ∧ ∀ c, y4 < c → c < v8canons → ¬ optP f8isThere f8stallOf f8worth f8wishes k2 c) ∨ (y4 < y3 ∧ y3 < v8canons ∧ optP f8isThere f8stallOf f8worth f8wishes k2 y3 ∧ f8hasMoved y3.toNatClampNeg = 0 ∧ ∀ c, y4 < c → c < y3 → ¬ optP f8isThere f8stallOf f8worth f8wishes k2 c)) → tn (y4 + 1) < n → lp_X8_falls_42 k1 k2 f8worth f8inStall v8canons f8isThere f8stallOf f8wishes v8moves f8moveOf f8moveFrom f8moveTo f8hasMoved Post K n y3 y4 := by
  intro n
  induction n with
  | zero => intro y3 y4 _ _ hm; exact absurd hm (Nat.not_lt_zero _)
  | succ n ih =>
    intro y3 y4 hI hW hm
    rw [lp_X8_falls_42]
    have goN : ¬ y4 < 0 → ¬ optP f8isThere f8stallOf f8worth f8wishes k2 y4 → ∀ x : Int32, x = y4 + (-1) → lp_X8_falls_42 k1 k2 f8worth f8inStall v8canons f8isThere f8stallOf f8wishes v8moves f8moveOf f8moveFrom f8moveTo f8hasMoved Post K n y3 x := by
      intro c hno x e
      have ex : -1 ≤ x ∧ x < y4 ∧ x < v8canons ∧ x + 1 = y4 := by clear hW; grind
      refine ih y3 x ⟨ex.1, ex.2.2.1⟩ ?_ (mz (by clear hW; grind) (by clear hW; grind) hm)
      rcases hW with ⟨w1, w2⟩ | ⟨w1, w2, w3, w4, w5⟩
      · refine Or.inl ⟨w1, fun d h0 h1 => ?_⟩
        by_cases q : d = y4
        · rw [q]; exact hno
        · exact w2 d (by clear w2; grind) h1
      · refine Or.inr ⟨by clear w5; grind, w2, w3, w4, fun d h0 h1 => ?_⟩
        by_cases q : d = y4
        · rw [q]; exact hno
        · exact w5 d (by clear w5; grind) h1
    have goY : ¬ y4 < 0 → optP f8isThere f8stallOf f8worth f8wishes k2 y4 → f8hasMoved y4.toNatClampNeg = 0 → ∀ x : Int32, x = y4 + (-1) → lp_X8_falls_42 k1 k2 f8worth f8inStall v8canons f8isThere f8stallOf f8wishes v8moves f8moveOf f8moveFrom f8moveTo f8hasMoved Post K n y4 x := by
      intro c hyes hz x e
      have ex : -1 ≤ x ∧ x < y4 ∧ x < v8canons ∧ x + 1 = y4 := by clear hW; grind
      refine ih y4 x ⟨ex.1, ex.2.2.1⟩ ?_ (mz (by clear hW; grind) (by clear hW; grind) hm)
      exact Or.inr ⟨ex.2.1, hI.2, hyes, hz, fun d h0 h1 => absurd h1 (by clear hW; grind)⟩
    have hsy := g2 y4.toNatClampNeg
    refine ⟨fun c => ?_, fun c => ?_⟩
    · rcases hW with ⟨w1, w2⟩ | ⟨w1, w2, w3, w4, w5⟩
      · exact hK _ _ (Or.inl ⟨w1, fun d h0 h1 => w2 d (by clear w2; grind) h1⟩) (fun h0 => absurd h0 (by rw [w1]; decide))
      · exact hK _ _ (Or.inr ⟨by clear w5; grind, w2, w3, fun d h0 h1 => w5 d (by clear w5; grind) h1⟩) (fun _ => w4)
    · have h20 : vp_in y4 20 := vin20 (by clear hW goN goY; grind) (by clear hW goN goY; grind)
      have h12 : vp_in k2 12 := vin12 g0.1 g0.2
      refine ⟨h20, fun c1 => goN c (fun w => w.1 c1), fun c1 => ⟨vin240 (by clear hW goN goY; grind) (by clear hW goN goY; grind), fun c2 => goN c (fun w => w.2.1 (by rw [Int32.mul_comm]; exact c2)), fun c2 => ⟨h20, fun c3 => goN c (hmv _ (by clear hW goN goY; grind) (by clear hW goN goY; grind) c3), fun c3 => ⟨h20, fun c4 => goY c ⟨c1, by rw [Int32.mul_comm]; exact c2, Or.inl (by clear hW goN goY; grind)⟩ c3, fun c4 => ⟨h20, vin12 (by clear hW goN goY; grind) hsy.2, h12, fun c5 => goN c (fun w => ?_), fun c5 => goY c ⟨c1, by rw [Int32.mul_comm]; exact c2, Or.inr (by clear hW goN goY; grind)⟩ c3⟩⟩⟩⟩⟩
      rcases w.2.2 with w1 | w1
      · rw [w1] at c4
        exact absurd (by decide) c4
      · clear hW goN goY
        grind
theorem e_X8_falls (p1 : Int32) (f8worth f8inStall : Nat → Int32) (v8canons : Int32) (f8isThere f8stallOf f8wishes : Nat → Int32) (v8moves : Int32) (f8moveOf f8moveFrom f8moveTo f8hasMoved : Nat → Int32) (Post : (Nat → Int32) × (Nat → Int32) × Int32 × (Nat → Int32) × (Nat → Int32) × (Nat → Int32) × (Nat → Int32) → Prop) (g0 : -1 ≤ p1 ∧ p1 < 12) (g1 : 0 ≤ v8canons ∧ v8canons < 21) (g2 : al f8stallOf (-1) 12) (h : ∀ u, (al u.2.1 (-1) 12 ∧ 0 ≤ u.2.2.1 ∧ u.2.2.1 < 21 ∧ FR v8canons f8isThere f8worth f8wishes 12 p1 f8stallOf f8inStall 0 f8moveOf f8moveFrom f8moveTo (u.2.1, u.1, u.2.2.1, u.2.2.2.1, u.2.2.2.2.1, u.2.2.2.2.2.1)) → Post u) : wp_X8_falls p1 f8worth f8inStall v8canons f8isThere f8stallOf f8wishes v8moves f8moveOf f8moveFrom f8moveTo f8hasMoved Post := by
  delta wp_X8_falls
  refine ⟨_, l_X8_falls_7 _ _ _ _ _ _ _ _ _ _ _ _ _ (fun x13 g14 hq hx => ?_) _ _ _ (by grind) (Nat.lt_succ_self _)⟩
  have L : ∀ (n : Nat) (y2 : Int32) (ho so : Nat → Int32) (mv : Int32) (a b c hs : Nat → Int32) (k : Nat), (-1 ≤ y2 ∧ y2 < 12) → al so (-1) 12 → mv = nI (cnN hs 20) → k ≤ 12 → (¬ y2 = -1 → k ≤ cntW f8worth (f8worth y2.toNatClampNeg) 12) → (∀ d : Int32, 0 ≤ d → d < 20 → ¬ hs d.toNatClampNeg = 0 → ¬ y2 = -1 → ¬ so d.toNatClampNeg = -1 ∧ f8worth y2.toNatClampNeg < f8worth (so d.toNatClampNeg).toNatClampNeg) → (∀ out, FR v8canons f8isThere f8worth f8wishes (12 - k) y2 so ho mv a b c out → FR v8canons f8isThere f8worth f8wishes 12 p1 f8stallOf f8inStall 0 f8moveOf f8moveFrom f8moveTo out) → tn (20 - mv) < n → lp_X8_falls_28 p1 f8worth v8canons f8isThere f8wishes Post (fun (x16 : Int32) (g17 : Nat → Int32) (g18 : Nat → Int32) (x19 : Int32) (g20 : Nat → Int32) (g21 : Nat → Int32) (g22 : Nat → Int32) (g23 : Nat → Int32) => (Post (g17, g18, x19, g20, g21, g22, g23))) n y2 ho so mv a b c hs := by
    intro n
    induction n with
    | zero => intro y2 ho so mv a b c hs k _ _ _ _ _ _ _ hm; exact absurd hm (Nat.not_lt_zero _)
    | succ n ih =>
      intro y2 ho so mv a b c hs k hI hal hmv hk hcnt hmov hF hm
      rw [lp_X8_falls_28]
      have hml := mv_le hmv
      have fin : FR v8canons f8isThere f8worth f8wishes (12 - k) y2 so ho mv a b c (so, ho, mv, a, b, c) → Post (ho, so, mv, a, b, c, hs) := fun q => h _ ⟨hal, hml.1, by show mv < 21; clear hF hmov; grind, hF _ q⟩
      refine ⟨fun c0 => fin ?_, fun c0 x8 e8 => ?_⟩
      · rw [show y2 = -1 by clear hF hmov fin; grind]
        exact (FR_none _).mpr rfl
      · have hy : ¬ y2 = -1 := by intro e; rw [e] at c0; exact c0 (by decide)
        have hy0 : 0 ≤ y2 := by clear hF hmov fin; grind
        have hkc := hcnt hy
        have hlt := cntW_lt (f := f8worth) (w := f8worth y2.toNatClampNeg) (i := y2.toNatClampNeg) (by grind) 12 (tnc12 hy0 hI.2)
        have e12 : 12 - k = (12 - (k + 1)) + 1 := by omega
        refine ⟨_, le_falls_42 _ _ _ _ _ _ _ _ _ _ _ _ _ _ _ ⟨hy0, hI.2⟩ g1 hal ?_ (fun who x10 hO hz => ?_) _ _ _ (by clear hF hmov fin; grind) (Or.inl ⟨rfl, fun d h0 h1 => absurd h1 (by clear hF hmov fin; grind)⟩) (Nat.lt_succ_self _)⟩
        · intro d h0 h1 h2 hO
          have h3 := hmov d h0 h1 h2 hy
          rcases hO.2.2 with q | q
          · exact h3.1 q
          · clear hF hmov fin
            grind
        · refine ⟨fun c9 => ?_, fun c9 => fin ?_⟩
          · have hw : who < v8canons ∧ optP f8isThere so f8worth f8wishes y2 who := by
              rcases hO with q | q
              · rw [q.1] at c9
                exact absurd c9 (by decide)
              · exact ⟨q.2.1, q.2.2.1⟩
            have hw20 : who < 20 := by clear hF hmov fin hO; grind
            have hwn : ¬ who = -1 := by intro e; rw [e] at c9; exact absurd c9 (by decide)
            have hst := mv_step c9 hw20 (hz c9) hmv
            have hsw := hal who.toNatClampNeg
            have v1 := vin20 c9 hw20
            have v2 := vin20 hst.1 hst.2.1
            have v3 := vin12 hy0 hI.2
            have nxt : ∀ x12 : Int32, x12 = so who.toNatClampNeg → ∀ ho' : Nat → Int32, ho' = hoU ho y2 who (so who.toNatClampNeg) → lp_X8_falls_28 p1 f8worth v8canons f8isThere f8wishes Post (fun (x16 : Int32) (g17 : Nat → Int32) (g18 : Nat → Int32) (x19 : Int32) (g20 : Nat → Int32) (g21 : Nat → Int32) (g22 : Nat → Int32) (g23 : Nat → Int32) => (Post (g17, g18, x19, g20, g21, g22, g23))) n x12 ho' (upd so who.toNatClampNeg y2) (mv + 1) (upd a mv.toNatClampNeg who) (upd b mv.toNatClampNeg (so who.toNatClampNeg)) (upd c mv.toNatClampNeg y2) (upd hs who.toNatClampNeg (vp_nar .boolean 1)) := by
              intro x12 e12' ho' eho
              have hdrop : ¬ x12 = -1 → f8worth x12.toNatClampNeg < f8worth y2.toNatClampNeg := by
                intro hx12
                rcases hw.2.2.2 with q | q
                · exact absurd (e12'.trans q) hx12
                · rw [e12']; exact q
              refine ih x12 ho' _ _ _ _ _ _ (k + 1) ⟨by rw [e12']; exact hsw.1, by rw [e12']; exact hsw.2⟩ (al_upd hal hI.1 hI.2) hst.2.2 (by omega) ?_ ?_ ?_ (mz (by clear hF hmov fin hO; grind) (by clear hF hmov fin hO; grind) hm)
              · intro hx12
                have h1 := cntW_step (f := f8worth) (i := y2.toNatClampNeg) (hdrop hx12) 12 (tnc12 hy0 hI.2)
                omega
              · intro d h0 h1 h2 hx12
                have hd := hdrop hx12
                by_cases q : d = who
                · have e1 : upd so who.toNatClampNeg y2 d.toNatClampNeg = y2 := by rw [q]; exact if_pos rfl
                  rw [e1]
                  exact ⟨hy, hd⟩
                · have hne : ¬ d.toNatClampNeg = who.toNatClampNeg := fun e => q (tnc_inj h0 c9 e)
                  have e1 : upd so who.toNatClampNeg y2 d.toNatClampNeg = so d.toNatClampNeg := if_neg hne
                  have e2 : upd hs who.toNatClampNeg (vp_nar .boolean 1) d.toNatClampNeg = hs d.toNatClampNeg := if_neg hne
                  rw [e2] at h2
                  rw [e1]
                  have h3 := hmov d h0 h1 h2 hy
                  exact ⟨h3.1, by clear hF hmov fin hO; grind⟩
              · intro out ho''
                apply hF
                rw [e12, FR]
                refine Or.inr ⟨hy, who, hO, Or.inr ⟨hwn, ?_⟩⟩
                rw [eho, e12'] at ho''
                exact ho''
            refine ⟨v1, v2, v1, v2, v2, v1, fun x12 ex => ⟨fun c12 => ⟨v3, v1, nxt x12 ex _ ?_⟩, fun c12 => ⟨vin12 (by clear hF hmov fin hO nxt; grind) (by rw [ex]; exact hsw.2), v3, v1, nxt x12 ex _ ?_⟩⟩⟩
            · unfold hoU
              rw [if_pos (by clear hF hmov fin hO nxt; grind)]
            · have hx12 : ¬ x12 = -1 := by intro e; rw [e] at c12; exact c12 (by decide)
              unfold hoU
              rw [← ex, if_neg hx12]
              refine upd_comm (fun e => ?_)
              have e3 : x12 = y2 := tnc_inj (by clear hF hmov fin hO nxt; grind) hy0 e
              rcases hw.2.2.2 with q | q
              · exact hx12 (ex.trans q)
              · rw [← ex, e3] at q
                clear hF hmov fin hO nxt
                grind
          · rw [e12, FR]
            refine Or.inr ⟨hy, who, hO, Or.inl ⟨?_, rfl⟩⟩
            rcases hO with q | q
            · exact q.1
            · exact absurd q.1 c9
  refine ⟨_, L _ p1 f8inStall f8stallOf 0 f8moveOf f8moveFrom f8moveTo g14 0 g0 g2 (cnN_zero (by grind)) (by omega) (fun _ => Nat.zero_le _) ?_ (fun out q => q) (Nat.lt_succ_self _)⟩
  intro d h0 h1 h2
  exact absurd (hq.2.2 d h0 (by grind)) h2
theorem FR_al {canons : Int32} {there worth wishes : Nat → Int32} (hc : canons < 21) : ∀ (n : Nat) (s : Int32) (so ho : Nat → Int32) (mv : Int32) (a b c : Nat → Int32) (out : (Nat → Int32) × (Nat → Int32) × Int32 × (Nat → Int32) × (Nat → Int32) × (Nat → Int32)), FR canons there worth wishes n s so ho mv a b c out → al ho (-1) 20 → al out.2.1 (-1) 20 := by
  intro n
  induction n with
  | zero => intro s so ho mv a b c out h1 h2; rw [FR] at h1; rw [h1]; exact h2
  | succ n ih =>
    intro s so ho mv a b c out h1 h2
    rw [FR] at h1
    rcases h1 with ⟨s1, h1⟩ | ⟨s1, r1, i1, h1⟩
    · rw [h1]; exact h2
    · rcases h1 with ⟨q1, h1⟩ | ⟨q1, h1⟩
      · rw [h1]; exact h2
      · refine ih _ _ _ _ _ _ _ _ h1 ?_
        have hr : 0 ≤ r1 ∧ r1 < 20 := by
          rcases i1 with q | q
          · exact absurd q.1 q1
          · exact ⟨q.1, by have q2 := q.2.1; clear q; grind⟩
        have h3 : al (upd ho s.toNatClampNeg r1) (-1) 20 := al_upd h2 (by grind) hr.2
        unfold hoU
        split
        · exact h3
        · exact al_upd h3 (by decide) (by decide)
theorem add_sub1 {x : Int32} : x + 1 - 1 = x := by grind
def hoF (ho : Nat → Int32) (s : Int32) : Nat → Int32 := if s = -1 then ho else upd ho s.toNatClampNeg (-1)
theorem e_X2_addStall (p1 : Int32) (v2canons : Int32) (v2stalls : Int32) (f2there : Nat → Int32) (f2stallOf : Nat → Int32) (f2worth : Nat → Int32) (f2holder : Nat → Int32) (f2wishes : Nat → Int32) (v2moves : Int32) (f2mover : Nat → Int32) (f2movedFrom : Nat → Int32) (f2movedTo : Nat → Int32) (Post : Int32 → Int32 × (Nat → Int32) × (Nat → Int32) × (Nat → Int32) × Int32 × (Nat → Int32) × (Nat → Int32) × (Nat → Int32) → Prop) (g0 : (0 ≤ v2canons ∧ v2canons < 21)) (g1 : (0 ≤ v2stalls ∧ v2stalls < 13)) (g2 : al f2stallOf (-1) 12) (h : ∀ r u, ((r = -1 ∧ v2stalls = 12 ∧ u = (v2stalls, f2stallOf, f2worth, f2holder, v2moves, f2mover, f2movedFrom, f2movedTo)) ∨ (r = v2stalls ∧ v2stalls < 12 ∧ u.1 = v2stalls + 1 ∧ u.2.2.1 = upd f2worth v2stalls.toNatClampNeg p1 ∧ al u.2.1 (-1) 12 ∧ 0 ≤ u.2.2.2.2.1 ∧ u.2.2.2.2.1 < 13 ∧ FR v2canons f2there (upd f2worth v2stalls.toNatClampNeg p1) f2wishes 12 v2stalls f2stallOf (upd f2holder v2stalls.toNatClampNeg (-1)) 0 f2mover f2movedFrom f2movedTo (u.2.1, u.2.2.2.1, u.2.2.2.2.1, u.2.2.2.2.2.1, u.2.2.2.2.2.2.1, u.2.2.2.2.2.2.2))) → Post r u) : wp_X2_addStall p1 v2canons v2stalls f2there f2stallOf f2worth f2holder f2wishes v2moves f2mover f2movedFrom f2movedTo Post := by
  delta wp_X2_addStall
  repeat' first
    | (with_reducible refine And.intro ?_ ?_)
    | (with_reducible refine e_X2_fall _ _ _ _ _ _ _ _ _ _ _ _ ?_ ?_ ?_ ?_)
    | (with_reducible intro _)
  all_goals (try dsimp only at *)
  all_goals grind [al, al_upd, fil20, fil400, vin10, vin12, vin13, vin20, vin56, vin130, vin140, vin143, vin200, vin240, vin400, vin8000]
theorem e_X7_stall (p1 : Int32) (v2canons : Int32) (v2stalls : Int32) (f2there : Nat → Int32) (f2stallOf : Nat → Int32) (f2worth : Nat → Int32) (f2holder : Nat → Int32) (f2wishes : Nat → Int32) (v2moves : Int32) (f2mover : Nat → Int32) (f2movedFrom : Nat → Int32) (f2movedTo : Nat → Int32) (v7now : Int32) (Post : Int32 → Int32 × (Nat → Int32) × (Nat → Int32) × (Nat → Int32) × Int32 × (Nat → Int32) × (Nat → Int32) × (Nat → Int32) → Prop) (g0 : (0 ≤ v2canons ∧ v2canons < 21)) (g1 : (0 ≤ v2stalls ∧ v2stalls < 13)) (g2 : al f2stallOf (-1) 12) (h : ∀ r u, ((r = -1 ∧ (400 ≤ v7now ∨ p1 < 0 ∨ 1000 < p1 ∨ v2stalls = 12) ∧ u = (v2stalls, f2stallOf, f2worth, f2holder, v2moves, f2mover, f2movedFrom, f2movedTo)) ∨ (r = v2stalls ∧ v7now < 400 ∧ 0 ≤ p1 ∧ p1 ≤ 1000 ∧ v2stalls < 12 ∧ u.1 = v2stalls + 1 ∧ u.2.2.1 = upd f2worth v2stalls.toNatClampNeg p1 ∧ al u.2.1 (-1) 12 ∧ 0 ≤ u.2.2.2.2.1 ∧ u.2.2.2.2.1 < 13 ∧ FR v2canons f2there (upd f2worth v2stalls.toNatClampNeg p1) f2wishes 12 v2stalls f2stallOf (upd f2holder v2stalls.toNatClampNeg (-1)) 0 f2mover f2movedFrom f2movedTo (u.2.1, u.2.2.2.1, u.2.2.2.2.1, u.2.2.2.2.2.1, u.2.2.2.2.2.2.1, u.2.2.2.2.2.2.2))) → Post r u) : wp_X7_stall p1 v2canons v2stalls f2there f2stallOf f2worth f2holder f2wishes v2moves f2mover f2movedFrom f2movedTo v7now Post := by
  delta wp_X7_stall
  repeat' first
    | (with_reducible refine And.intro ?_ ?_)
    | (with_reducible refine e_X2_addStall _ _ _ _ _ _ _ _ _ _ _ _ _ ?_ ?_ ?_ ?_)
    | (with_reducible refine s_X7_isOver _ _ ?_)
    | (with_reducible intro _)
  all_goals (try dsimp only at *)
  all_goals grind [al, al_upd, fil20, fil400, vin10, vin12, vin13, vin20, vin56, vin130, vin140, vin143, vin200, vin240, vin400, vin8000]
theorem e_X8_stall (p1 : Int32) (v8now : Int32) (v8stalls : Int32) (f8worth : Nat → Int32) (f8inStall : Nat → Int32) (v8canons : Int32) (f8isThere : Nat → Int32) (f8stallOf : Nat → Int32) (f8wishes : Nat → Int32) (v8moves : Int32) (f8moveOf : Nat → Int32) (f8moveFrom : Nat → Int32) (f8moveTo : Nat → Int32) (f8hasMoved : Nat → Int32) (Post : Int32 → Int32 × (Nat → Int32) × (Nat → Int32) × (Nat → Int32) × Int32 × (Nat → Int32) × (Nat → Int32) × (Nat → Int32) × (Nat → Int32) → Prop) (g0 : (0 ≤ v8canons ∧ v8canons < 21)) (g1 : (0 ≤ v8stalls ∧ v8stalls < 13)) (g2 : al f8stallOf (-1) 12) (g3 : (0 ≤ v8now ∧ v8now < 401)) (h : ∀ r u, ((r = -1 ∧ (v8now = 400 ∨ p1 < 0 ∨ 1000 < p1 ∨ v8stalls = 12) ∧ u = (v8stalls, f8worth, f8inStall, f8stallOf, v8moves, f8moveOf, f8moveFrom, f8moveTo, f8hasMoved)) ∨ (r = v8stalls ∧ v8now < 400 ∧ 0 ≤ p1 ∧ p1 ≤ 1000 ∧ v8stalls < 12 ∧ u.1 = v8stalls + 1 ∧ u.2.1 = upd f8worth v8stalls.toNatClampNeg p1 ∧ al u.2.2.2.1 (-1) 12 ∧ 0 ≤ u.2.2.2.2.1 ∧ u.2.2.2.2.1 < 21 ∧ FR v8canons f8isThere (upd f8worth v8stalls.toNatClampNeg p1) f8wishes 12 v8stalls f8stallOf (upd f8inStall v8stalls.toNatClampNeg (-1)) 0 f8moveOf f8moveFrom f8moveTo (u.2.2.2.1, u.2.2.1, u.2.2.2.2.1, u.2.2.2.2.2.1, u.2.2.2.2.2.2.1, u.2.2.2.2.2.2.2.1))) → Post r u) : wp_X8_stall p1 v8now v8stalls f8worth f8inStall v8canons f8isThere f8stallOf f8wishes v8moves f8moveOf f8moveFrom f8moveTo f8hasMoved Post := by
  delta wp_X8_stall
  rw [add_sub1]
  repeat' first
    | (with_reducible refine And.intro ?_ ?_)
    | (with_reducible refine e_X8_falls _ _ _ _ _ _ _ _ _ _ _ _ _ ?_ ?_ ?_ ?_)
    | (with_reducible refine s_X8_in _ _ _ _ ?_)
    | (with_reducible intro _)
  all_goals (try dsimp only at *)
  all_goals grind [al, al_upd, fil20, fil400, vin10, vin12, vin13, vin20, vin56, vin130, vin140, vin143, vin200, vin240, vin400, vin8000]
theorem e_X2_addCanon (v2canons : Int32) (v2present : Int32) (f2there : Nat → Int32) (f2stallOf : Nat → Int32) (Post : Int32 → Int32 × Int32 × (Nat → Int32) × (Nat → Int32) → Prop) (g0 : (0 ≤ v2canons ∧ v2canons < 21)) (h : ∀ r u, ((r = -1 ∧ v2canons = 20 ∧ u = (v2canons, v2present, f2there, f2stallOf)) ∨ (r = v2canons ∧ v2canons < 20 ∧ u = (v2canons + 1, v2present + 1, upd f2there v2canons.toNatClampNeg (vp_nar .boolean 1), upd f2stallOf v2canons.toNatClampNeg (-1)))) → Post r u) : wp_X2_addCanon v2canons v2present f2there f2stallOf Post := by
  delta wp_X2_addCanon
  repeat' first
    | (with_reducible refine And.intro ?_ ?_)
    | (with_reducible intro _)
  all_goals (try dsimp only at *)
  all_goals grind [al, al_upd, fil20, fil400, vin10, vin12, vin13, vin20, vin56, vin130, vin140, vin143, vin200, vin240, vin400, vin8000]
theorem e_X7_canon (v2canons : Int32) (v2present : Int32) (f2there : Nat → Int32) (f2stallOf : Nat → Int32) (v7now : Int32) (Post : Int32 → Int32 × Int32 × (Nat → Int32) × (Nat → Int32) → Prop) (g0 : (0 ≤ v2canons ∧ v2canons < 21)) (h : ∀ r u, ((r = -1 ∧ (400 ≤ v7now ∨ v2canons = 20) ∧ u = (v2canons, v2present, f2there, f2stallOf)) ∨ (r = v2canons ∧ v7now < 400 ∧ v2canons < 20 ∧ u = (v2canons + 1, v2present + 1, upd f2there v2canons.toNatClampNeg (vp_nar .boolean 1), upd f2stallOf v2canons.toNatClampNeg (-1)))) → Post r u) : wp_X7_canon v2canons v2present f2there f2stallOf v7now Post := by
  delta wp_X7_canon
  repeat' first
    | (with_reducible refine And.intro ?_ ?_)
    | (with_reducible refine e_X2_addCanon _ _ _ _ _ ?_ ?_)
    | (with_reducible refine s_X7_isOver _ _ ?_)
    | (with_reducible intro _)
  all_goals (try dsimp only at *)
  all_goals grind [al, al_upd, fil20, fil400, vin10, vin12, vin13, vin20, vin56, vin130, vin140, vin143, vin200, vin240, vin400, vin8000]
theorem e_X8_canon (v8now : Int32) (v8canons : Int32) (f8isThere : Nat → Int32) (f8stallOf : Nat → Int32) (Post : Int32 → Int32 × (Nat → Int32) × (Nat → Int32) → Prop) (g0 : (0 ≤ v8canons ∧ v8canons < 21)) (g1 : (0 ≤ v8now ∧ v8now < 401)) (h : ∀ r u, ((r = -1 ∧ (v8now = 400 ∨ v8canons = 20) ∧ u = (v8canons, f8isThere, f8stallOf)) ∨ (r = v8canons ∧ v8now < 400 ∧ v8canons < 20 ∧ u = (v8canons + 1, upd f8isThere v8canons.toNatClampNeg (vp_nar .boolean 1), upd f8stallOf v8canons.toNatClampNeg (-1)))) → Post r u) : wp_X8_canon v8now v8canons f8isThere f8stallOf Post := by
  delta wp_X8_canon
  rw [add_sub1]
  repeat' first
    | (with_reducible refine And.intro ?_ ?_)
    | (with_reducible intro _)
  all_goals (try dsimp only at *)
  all_goals grind [al, al_upd, fil20, fil400, vin10, vin12, vin13, vin20, vin56, vin130, vin140, vin143, vin200, vin240, vin400, vin8000]
theorem e_X2_sitDown (p1 : Int32) (p2 : Int32) (f2stallOf : Nat → Int32) (f2holder : Nat → Int32) (Post : Int32 → (Nat → Int32) × (Nat → Int32) → Prop) (g0 : (0 ≤ p1 ∧ p1 < 20)) (g1 : (0 ≤ p2 ∧ p2 < 12)) (h : ∀ r u, ((r = 0 ∧ (¬ f2stallOf p1.toNatClampNeg = -1 ∨ ¬ f2holder p2.toNatClampNeg = -1) ∧ u = (f2stallOf, f2holder)) ∨ (r = 1 ∧ f2stallOf p1.toNatClampNeg = -1 ∧ f2holder p2.toNatClampNeg = -1 ∧ u = (upd f2stallOf p1.toNatClampNeg p2, upd f2holder p2.toNatClampNeg p1))) → Post r u) : wp_X2_sitDown p1 p2 f2stallOf f2holder Post := by
  delta wp_X2_sitDown
  repeat' first
    | (with_reducible refine And.intro ?_ ?_)
    | (with_reducible intro _)
  all_goals (try dsimp only at *)
  all_goals grind [al, al_upd, fil20, fil400, vin10, vin12, vin13, vin20, vin56, vin130, vin140, vin143, vin200, vin240, vin400, vin8000]
theorem e_X7_takes (p1 : Int32) (p2 : Int32) (v2canons : Int32) (v2stalls : Int32) (f2there : Nat → Int32) (f2stallOf : Nat → Int32) (f2holder : Nat → Int32) (v7now : Int32) (Post : Int32 → (Nat → Int32) × (Nat → Int32) → Prop) (g0 : (0 ≤ v2canons ∧ v2canons < 21)) (g1 : (0 ≤ v2stalls ∧ v2stalls < 13)) (h : ∀ r u, ((r = 0 ∧ (400 ≤ v7now ∨ p1 < 0 ∨ v2canons ≤ p1 ∨ f2there p1.toNatClampNeg = 0 ∨ p2 < 0 ∨ v2stalls ≤ p2 ∨ ¬ f2stallOf p1.toNatClampNeg = -1 ∨ ¬ f2holder p2.toNatClampNeg = -1) ∧ u = (f2stallOf, f2holder)) ∨ (r = 1 ∧ v7now < 400 ∧ 0 ≤ p1 ∧ p1 < v2canons ∧ ¬ f2there p1.toNatClampNeg = 0 ∧ 0 ≤ p2 ∧ p2 < v2stalls ∧ f2stallOf p1.toNatClampNeg = -1 ∧ f2holder p2.toNatClampNeg = -1 ∧ u = (upd f2stallOf p1.toNatClampNeg p2, upd f2holder p2.toNatClampNeg p1))) → Post r u) : wp_X7_takes p1 p2 v2canons v2stalls f2there f2stallOf f2holder v7now Post := by
  delta wp_X7_takes
  repeat' first
    | (with_reducible refine And.intro ?_ ?_)
    | (with_reducible refine s_X2_hasStall _ _ _ ?_)
    | (with_reducible refine s_X2_isThere _ _ _ _ ?_ ?_)
    | (with_reducible refine e_X2_sitDown _ _ _ _ _ ?_ ?_ ?_)
    | (with_reducible refine s_X7_isOver _ _ ?_)
    | (with_reducible intro _)
  all_goals (try dsimp only at *)
  all_goals grind [al, al_upd, fil20, fil400, vin10, vin12, vin13, vin20, vin56, vin130, vin140, vin143, vin200, vin240, vin400, vin8000, nar0, nar1]
theorem e_X8_takes (p1 : Int32) (p2 : Int32) (v8now : Int32) (v8stalls : Int32) (f8inStall : Nat → Int32) (v8canons : Int32) (f8isThere : Nat → Int32) (f8stallOf : Nat → Int32) (Post : Int32 → (Nat → Int32) × (Nat → Int32) → Prop) (g0 : (0 ≤ v8canons ∧ v8canons < 21)) (g1 : (0 ≤ v8stalls ∧ v8stalls < 13)) (g2 : al f8stallOf (-1) 12) (g3 : al f8inStall (-1) 20) (g4 : (0 ≤ v8now ∧ v8now < 401)) (h : ∀ r u, ((r = 0 ∧ (v8now = 400 ∨ p1 < 0 ∨ v8canons ≤ p1 ∨ f8isThere p1.toNatClampNeg = 0 ∨ p2 < 0 ∨ v8stalls ≤ p2 ∨ ¬ f8stallOf p1.toNatClampNeg = -1 ∨ ¬ f8inStall p2.toNatClampNeg = -1) ∧ u = (f8inStall, f8stallOf)) ∨ (r = 1 ∧ v8now < 400 ∧ 0 ≤ p1 ∧ p1 < v8canons ∧ ¬ f8isThere p1.toNatClampNeg = 0 ∧ 0 ≤ p2 ∧ p2 < v8stalls ∧ f8stallOf p1.toNatClampNeg = -1 ∧ f8inStall p2.toNatClampNeg = -1 ∧ u = (upd f8inStall p2.toNatClampNeg p1, upd f8stallOf p1.toNatClampNeg p2))) → Post r u) : wp_X8_takes p1 p2 v8now v8stalls f8inStall v8canons f8isThere f8stallOf Post := by
  delta wp_X8_takes
  repeat' first
    | (with_reducible refine And.intro ?_ ?_)
    | (with_reducible refine s_X8_isCanon _ _ _ ?_ ?_)
    | (with_reducible refine s_X8_isStall _ _ _ ?_ ?_)
    | (with_reducible intro _)
  all_goals (try dsimp only at *)
  all_goals grind [al, al_upd, fil20, fil400, vin10, vin12, vin13, vin20, vin56, vin130, vin140, vin143, vin200, vin240, vin400, vin8000]
theorem e_X2_depart (p1 : Int32) (v2canons : Int32) (v2present : Int32) (f2there : Nat → Int32) (f2stallOf : Nat → Int32) (f2worth : Nat → Int32) (f2holder : Nat → Int32) (f2wishes : Nat → Int32) (v2moves : Int32) (f2mover : Nat → Int32) (f2movedFrom : Nat → Int32) (f2movedTo : Nat → Int32) (Post : Int32 → Int32 × (Nat → Int32) × (Nat → Int32) × (Nat → Int32) × Int32 × (Nat → Int32) × (Nat → Int32) × (Nat → Int32) → Prop) (g0 : (0 ≤ p1 ∧ p1 < 20)) (g1 : (0 ≤ v2canons ∧ v2canons < 21)) (g2 : al f2stallOf (-1) 12) (h : ∀ r u, (r = u.2.2.2.2.1 ∧ u.2.1 = upd f2there p1.toNatClampNeg (vp_nar .boolean 0) ∧ al u.2.2.1 (-1) 12 ∧ 0 ≤ u.2.2.2.2.1 ∧ u.2.2.2.2.1 < 13 ∧ FR v2canons (upd f2there p1.toNatClampNeg (vp_nar .boolean 0)) f2worth f2wishes 12 (f2stallOf p1.toNatClampNeg) (upd f2stallOf p1.toNatClampNeg (-1)) (hoF f2holder (f2stallOf p1.toNatClampNeg)) 0 f2mover f2movedFrom f2movedTo (u.2.2.1, u.2.2.2.1, u.2.2.2.2.1, u.2.2.2.2.2.1, u.2.2.2.2.2.2.1, u.2.2.2.2.2.2.2)) → Post r u) : wp_X2_depart p1 v2canons v2present f2there f2stallOf f2worth f2holder f2wishes v2moves f2mover f2movedFrom f2movedTo Post := by
  delta wp_X2_depart
  repeat' first
    | (with_reducible refine And.intro ?_ ?_)
    | (with_reducible refine e_X2_fall _ _ _ _ _ _ _ _ _ _ _ _ ?_ ?_ ?_ ?_)
    | (with_reducible intro _)
  all_goals (try dsimp only at *)
  all_goals grind [al, al_upd, fil20, fil400, vin10, vin12, vin13, vin20, vin56, vin130, vin140, vin143, vin200, vin240, vin400, vin8000, hoF]
theorem e_X7_leaves (p1 : Int32) (f1castAs : Nat → Int32) (f1givenTo : Nat → Int32) (v2canons : Int32) (v2present : Int32) (f2there : Nat → Int32) (f2stallOf : Nat → Int32) (f2worth : Nat → Int32) (f2holder : Nat → Int32) (f2wishes : Nat → Int32) (v2moves : Int32) (f2mover : Nat → Int32) (f2movedFrom : Nat → Int32) (f2movedTo : Nat → Int32) (v7now : Int32) (Post : Int32 → (Nat → Int32) × (Nat → Int32) × Int32 × (Nat → Int32) × (Nat → Int32) × (Nat → Int32) × Int32 × (Nat → Int32) × (Nat → Int32) × (Nat → Int32) → Prop) (g0 : (0 ≤ v2canons ∧ v2canons < 21)) (g1 : al f2stallOf (-1) 12) (g2 : al f1givenTo (-1) 20) (h : ∀ r u, ((r = -1 ∧ (400 ≤ v7now ∨ p1 < 0 ∨ v2canons ≤ p1 ∨ f2there p1.toNatClampNeg = 0) ∧ u = (f1castAs, f1givenTo, v2present, f2there, f2stallOf, f2holder, v2moves, f2mover, f2movedFrom, f2movedTo)) ∨ (v7now < 400 ∧ 0 ≤ p1 ∧ p1 < v2canons ∧ ¬ f2there p1.toNatClampNeg = 0 ∧ al u.2.1 (-1) 20 ∧ r = u.2.2.2.2.2.2.1 ∧ u.2.2.2.1 = upd f2there p1.toNatClampNeg (vp_nar .boolean 0) ∧ al u.2.2.2.2.1 (-1) 12 ∧ 0 ≤ u.2.2.2.2.2.2.1 ∧ u.2.2.2.2.2.2.1 < 13 ∧ FR v2canons (upd f2there p1.toNatClampNeg (vp_nar .boolean 0)) f2worth f2wishes 12 (f2stallOf p1.toNatClampNeg) (upd f2stallOf p1.toNatClampNeg (-1)) (hoF f2holder (f2stallOf p1.toNatClampNeg)) 0 f2mover f2movedFrom f2movedTo (u.2.2.2.2.1, u.2.2.2.2.2.1, u.2.2.2.2.2.2.1, u.2.2.2.2.2.2.2.1, u.2.2.2.2.2.2.2.2.1, u.2.2.2.2.2.2.2.2.2))) → Post r u) : wp_X7_leaves p1 f1castAs f1givenTo v2canons v2present f2there f2stallOf f2worth f2holder f2wishes v2moves f2mover f2movedFrom f2movedTo v7now Post := by
  delta wp_X7_leaves
  repeat' first
    | (with_reducible refine And.intro ?_ ?_)
    | (with_reducible refine s_X1_forget _ _ _ _ ?_ ?_ ?_)
    | (with_reducible refine e_X2_depart _ _ _ _ _ _ _ _ _ _ _ _ _ ?_ ?_ ?_ ?_)
    | (with_reducible refine s_X2_isThere _ _ _ _ ?_ ?_)
    | (with_reducible refine s_X7_isOver _ _ ?_)
    | (with_reducible intro _)
  all_goals (try dsimp only at *)
  all_goals grind [al, al_upd, fil20, fil400, vin10, vin12, vin13, vin20, vin56, vin130, vin140, vin143, vin200, vin240, vin400, vin8000]
theorem e_X8_leaves (p1 : Int32) (v8now : Int32) (f8worth : Nat → Int32) (f8inStall : Nat → Int32) (v8canons : Int32) (f8isThere : Nat → Int32) (f8stallOf : Nat → Int32) (f8wishes : Nat → Int32) (v8moves : Int32) (f8moveOf : Nat → Int32) (f8moveFrom : Nat → Int32) (f8moveTo : Nat → Int32) (f8hasMoved : Nat → Int32) (v8isOpen : Int32) (f8vote : Nat → Int32) (f8givenTo : Nat → Int32) (Post : Int32 → (Nat → Int32) × (Nat → Int32) × (Nat → Int32) × Int32 × (Nat → Int32) × (Nat → Int32) × (Nat → Int32) × (Nat → Int32) × (Nat → Int32) × (Nat → Int32) → Prop) (g0 : (0 ≤ v8canons ∧ v8canons < 21)) (g1 : al f8stallOf (-1) 12) (g2 : al f8givenTo (-1) 20) (g3 : (0 ≤ v8now ∧ v8now < 401)) (h : ∀ r u, ((r = -1 ∧ (v8now = 400 ∨ p1 < 0 ∨ v8canons ≤ p1 ∨ f8isThere p1.toNatClampNeg = 0) ∧ u = (f8inStall, f8isThere, f8stallOf, v8moves, f8moveOf, f8moveFrom, f8moveTo, f8hasMoved, f8vote, f8givenTo)) ∨ (v8now < 400 ∧ 0 ≤ p1 ∧ p1 < v8canons ∧ ¬ f8isThere p1.toNatClampNeg = 0 ∧ al u.2.2.2.2.2.2.2.2.2 (-1) 20 ∧ r = u.2.2.2.1 ∧ u.2.1 = upd f8isThere p1.toNatClampNeg (vp_nar .boolean 0) ∧ al u.2.2.1 (-1) 12 ∧ 0 ≤ u.2.2.2.1 ∧ u.2.2.2.1 < 21 ∧ FR v8canons (upd f8isThere p1.toNatClampNeg (vp_nar .boolean 0)) f8worth f8wishes 12 (f8stallOf p1.toNatClampNeg) (upd f8stallOf p1.toNatClampNeg (-1)) (hoF f8inStall (f8stallOf p1.toNatClampNeg)) 0 f8moveOf f8moveFrom f8moveTo (u.2.2.1, u.1, u.2.2.2.1, u.2.2.2.2.1, u.2.2.2.2.2.1, u.2.2.2.2.2.2.1))) → Post r u) : wp_X8_leaves p1 v8now f8worth f8inStall v8canons f8isThere f8stallOf f8wishes v8moves f8moveOf f8moveFrom f8moveTo f8hasMoved v8isOpen f8vote f8givenTo Post := by
  delta wp_X8_leaves
  repeat' first
    | (with_reducible refine And.intro ?_ ?_)
    | (with_reducible refine e_X8_falls _ _ _ _ _ _ _ _ _ _ _ _ _ ?_ ?_ ?_ ?_)
    | (with_reducible refine s_X8_isCanon _ _ _ ?_ ?_)
    | (with_reducible refine s_X8_unvotes _ _ _ _ _ _ ?_ ?_ ?_ ?_)
    | (with_reducible intro _)
  all_goals (try dsimp only at *)
  all_goals grind [al, al_upd, fil20, fil400, vin10, vin12, vin13, vin20, vin56, vin130, vin140, vin143, vin200, vin240, vin400, vin8000, hoF]
theorem e_X2_tellMove (p1 : Int32) (p2 : Int32) (v2moves : Int32) (f2mover : Nat → Int32) (f2movedFrom : Nat → Int32) (f2movedTo : Nat → Int32) (Post : Int32 → Unit → Prop) (g0 : (0 ≤ v2moves ∧ v2moves < 13)) (h : ∀ r u, ((r = -1 ∧ (p1 < 0 ∨ v2moves ≤ p1)) ∨ (0 ≤ p1 ∧ p1 < v2moves ∧ r = (if p2 = 0 then f2mover p1.toNatClampNeg else if p2 = 1 then f2movedFrom p1.toNatClampNeg else if p2 = 2 then f2movedTo p1.toNatClampNeg else -1))) → Post r u) : wp_X2_tellMove p1 p2 v2moves f2mover f2movedFrom f2movedTo Post := by
  delta wp_X2_tellMove
  repeat' first
    | (with_reducible refine And.intro ?_ ?_)
    | (with_reducible intro _)
  all_goals (try dsimp only at *)
  all_goals grind [al, al_upd, fil20, fil400, vin10, vin12, vin13, vin20, vin56, vin130, vin140, vin143, vin200, vin240, vin400, vin8000]
theorem e_X7_moved (p1 : Int32) (p2 : Int32) (v2moves : Int32) (f2mover : Nat → Int32) (f2movedFrom : Nat → Int32) (f2movedTo : Nat → Int32) (Post : Int32 → Unit → Prop) (g0 : (0 ≤ v2moves ∧ v2moves < 13)) (h : ∀ r u, ((r = -1 ∧ (p1 < 0 ∨ v2moves ≤ p1)) ∨ (0 ≤ p1 ∧ p1 < v2moves ∧ r = (if p2 = 0 then f2mover p1.toNatClampNeg else if p2 = 1 then f2movedFrom p1.toNatClampNeg else if p2 = 2 then f2movedTo p1.toNatClampNeg else -1))) → Post r u) : wp_X7_moved p1 p2 v2moves f2mover f2movedFrom f2movedTo Post := by
  delta wp_X7_moved
  repeat' first
    | (with_reducible refine And.intro ?_ ?_)
    | (with_reducible refine e_X2_tellMove _ _ _ _ _ _ _ ?_ ?_)
    | (with_reducible intro _)
  all_goals (try dsimp only at *)
  all_goals grind [al, al_upd, fil20, fil400, vin10, vin12, vin13, vin20, vin56, vin130, vin140, vin143, vin200, vin240, vin400, vin8000]
theorem e_X8_moved (p1 : Int32) (p2 : Int32) (v8moves : Int32) (f8moveOf : Nat → Int32) (f8moveFrom : Nat → Int32) (f8moveTo : Nat → Int32) (Post : Int32 → Unit → Prop) (g0 : (0 ≤ v8moves ∧ v8moves < 21)) (h : ∀ r u, ((r = -1 ∧ (p1 < 0 ∨ v8moves ≤ p1)) ∨ (0 ≤ p1 ∧ p1 < v8moves ∧ r = (if p2 = 0 then f8moveOf p1.toNatClampNeg else if p2 = 1 then f8moveFrom p1.toNatClampNeg else if p2 = 2 then f8moveTo p1.toNatClampNeg else -1))) → Post r u) : wp_X8_moved p1 p2 v8moves f8moveOf f8moveFrom f8moveTo Post := by
  delta wp_X8_moved
  repeat' first
    | (with_reducible refine And.intro ?_ ?_)
    | (with_reducible refine s_X8_in _ _ _ _ ?_)
    | (with_reducible intro _)
  all_goals (try dsimp only at *)
  all_goals grind [al, al_upd, fil20, fil400, vin10, vin12, vin13, vin20, vin56, vin130, vin140, vin143, vin200, vin240, vin400, vin8000]
