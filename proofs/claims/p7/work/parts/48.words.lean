section
variable {p : Program} {l : Launch} {e : Env} {R : Room} {s : State} {m : MethodId} {args : Array Value} {below : List Frame} {meth : Method} {c : Code} {H H0 : Heap} {locs : List Loc} {cells slots : Nat} {Q : State → Prop} {pc : Nat} {ls : Array Slot} {st0 rest : List Value} {av : Array Value} {D : va_G} {cl : List vw_C} {A0 : Nat → Prop} {S : Type} {Ws Wc : va_W} {Wc' : S → va_W}
theorem mc_r {a : Nat} (hP : va_P D cl Ws H) (hD : va_D A0 Ws) (hS : va_S A0 H0 H locs) (hA : ∀ q, H0.size ≤ q → A0 q) (isC isR perm : List Nat) (Wr : va_W) (W' : S → va_W)
    (hC : isC.map (fun i => Ws[i]?) = Wc.map some) (hR : isR.map (fun i => Ws[i]?) = Wr.map some) (hn : va_nd isR = true) (hdis : ∀ i ∈ isR, i ∉ isC) (hp1 : va_nd perm = true) (hp2 : ∀ u, perm.map (fun i => (Wr ++ Wc' u)[i]?) = (W' u).map some) (hp3 : ∀ u, perm.filterMap (fun i => (Wr ++ Wc' u)[i]?) = W' u)
    (hr : va_Run p l e R s m args below meth c H locs cells slots 0 0 (F0 m pc ls st0) rest (va_Qr (fun (_ : S) => True) (fun (u : S) (ra : Nat) (t : State) => ra = a ∧ va_P D cl (Wc' u) t.heap ∧ va_D (va_A Wc H.size) (Wc' u)) (va_A Wc H.size) av) (va_A Wc H.size))
    (kk : ∀ (u : S) (H1 : Heap) (locs1 : List Loc), va_P D cl (W' u) H1 → va_D A0 (W' u) → va_S A0 H0 H1 locs1 → W p l e R s m args below meth c H1 locs1 cells slots Q (F0 m (pc + 3) ls (.ref a :: rest))) : W p l e R s m args below meth c H locs cells slots Q (F0 m pc ls st0) := by
  have hF := va_free (wc := Wc) hD hS hA isC hC
  refine va_callr hr hS (fun q _ h => hF q h) hF (fun u ra t H1 locs1 ht hvm hw hB hz1 hk1 hS1 => ?_)
  obtain ⟨rfl, hP1, hD1⟩ := hB
  rw [ht] at hP1
  obtain ⟨hP2, hD2⟩ := va_join (wr := Wr) (w1 := Wc' u) hP hD isC isR hC hR hn hdis hk1 hF hP1 hD1
  exact kk u H1 locs1 (hP2.sub perm (hp3 u)) (hD2.sub perm hp1 (hp2 u)) hS1
end
def wIdx (x : Int32) : Nat := if x = 0 then 0 else if x = 1 then 1 else if x = 2 then 2 else if x = 3 then 3 else if x = 4 then 4 else if x = 5 then 5 else 6
theorem wIdx_lt (x : Int32) : wIdx x < 7 := by
  unfold wIdx
  repeat' split
  all_goals decide
set_option maxHeartbeats 4000000 in
set_option maxRecDepth 100000 in
theorem c_X5_spelling (l : Launch) (dC : Nat → ClassId) (dI : Nat → Nat → Nat) (cyI cyZ cyB : ClassId) (tW tH : Nat) (adK adV : Nat → Nat) (sz : Nat) (p0 : Int32) : Met l yX5_spelling wsX5_spelling ({ frames := 0, cells := 0, slots := 0, locals := 0 } : Room) (MPreE (dC, dI) [(cyI, .int), (cyZ, .boolean), (cyB, .byte)] [.int p0] sz [] tW tH adK adV) (va_Qr (fun (_ : Unit) => True) (fun (_ : Unit) (ra : Nat) (t : State) => ra = adK (wIdx p0) ∧ va_P (dC, dI) vwCl [] t.heap ∧ va_D (va_A [] sz) []) (va_A [] sz)) 0 0 (va_A [] sz) := by
  refine Met.ofW (cc := cX5_spelling) (maxL := 1) (ret := (some (.object "java/lang/String"))) (by decide) rfl ?_
  intro p e s m args below meth c s₁ B hml hv
  obtain ⟨rfl, hsz, hP, hK, hD0, hN, hE⟩ := hv
  have hx := B.exec
  have hb := B.bytes
  have hr := B.returns
  have hts := atoms_spec (ws := wsX5_spelling) B.pre
  have hown : s.vm.findClass RX5 = some m.cls := findClass_of_methodNamed B.named
  have hlocks := B.notSynchronized
  subst hsz
  have hD := hD0.self (sz := s.heap.size)
  generalize hAe : va_A [] s.heap.size = A at hD hE ⊢
  have hA : ∀ q : Nat, s.heap.size ≤ q → A q := fun q h => by rw [← hAe]; exact Or.inr h
  have hS : va_S A s.heap s.heap [] := va_S.rf
  have hl := lv_entry [.int p0] (n := 1) (Nat.le_of_ble_eq_true rfl)
  rw [lg_entry_eq]
  generalize (lg_sl [.int p0] ++ List.replicate (1 - (lg_sl [.int p0]).length) Slot.unset).toArray = ls at hl ⊢
  replace hl : lv_has ls 1 [(0, .int p0)] := hl
  refine lv_iload_n hx hb dX5_spelling_0 rfl (lv_at hl 0 rfl) ?_
  by_cases c0 : p0 = 0
  · refine lv_tableIn (off := 39) (tgt := 40) hx hb dX5_spelling_1 (by rw [c0]; decide) (by rw [c0]; decide) (by rw [c0]; rfl) (by decide) ?_
    refine va_ldcS hx hb hown (hE.2.2.2.2.2 0 (100, "choir") rfl) dX5_spelling_40 ?_
    exact W.aret (v := .ref (adK 0)) (rt := .object "java/lang/String") hx hb hr (Or.inl ⟨_, rfl⟩) (Or.inr ⟨_, rfl⟩) (fun t ht hW => ⟨⟨(), adK 0, rfl, trivial, (by rw [c0]; rfl), by rw [ht]; exact hP, hD⟩, hS.F ht⟩) hS.2.2 dX5_spelling_42
  by_cases c1 : p0 = 1
  · refine lv_tableIn (off := 42) (tgt := 43) hx hb dX5_spelling_1 (by rw [c1]; decide) (by rw [c1]; decide) (by rw [c1]; rfl) (by decide) ?_
    refine va_ldcS hx hb hown (hE.2.2.2.2.2 1 (102, "late") rfl) dX5_spelling_43 ?_
    exact W.aret (v := .ref (adK 1)) (rt := .object "java/lang/String") hx hb hr (Or.inl ⟨_, rfl⟩) (Or.inr ⟨_, rfl⟩) (fun t ht hW => ⟨⟨(), adK 1, rfl, trivial, (by rw [c1]; rfl), by rw [ht]; exact hP, hD⟩, hS.F ht⟩) hS.2.2 dX5_spelling_45
  by_cases c2 : p0 = 2
  · refine lv_tableIn (off := 45) (tgt := 46) hx hb dX5_spelling_1 (by rw [c2]; decide) (by rw [c2]; decide) (by rw [c2]; rfl) (by decide) ?_
    refine va_ldcS hx hb hown (hE.2.2.2.2.2 2 (104, "ill") rfl) dX5_spelling_46 ?_
    exact W.aret (v := .ref (adK 2)) (rt := .object "java/lang/String") hx hb hr (Or.inl ⟨_, rfl⟩) (Or.inr ⟨_, rfl⟩) (fun t ht hW => ⟨⟨(), adK 2, rfl, trivial, (by rw [c2]; rfl), by rw [ht]; exact hP, hD⟩, hS.F ht⟩) hS.2.2 dX5_spelling_48
  by_cases c3 : p0 = 3
  · refine lv_tableIn (off := 48) (tgt := 49) hx hb dX5_spelling_1 (by rw [c3]; decide) (by rw [c3]; decide) (by rw [c3]; rfl) (by decide) ?_
    refine va_ldcS hx hb hown (hE.2.2.2.2.2 3 (106, "business") rfl) dX5_spelling_49 ?_
    exact W.aret (v := .ref (adK 3)) (rt := .object "java/lang/String") hx hb hr (Or.inl ⟨_, rfl⟩) (Or.inr ⟨_, rfl⟩) (fun t ht hW => ⟨⟨(), adK 3, rfl, trivial, (by rw [c3]; rfl), by rw [ht]; exact hP, hD⟩, hS.F ht⟩) hS.2.2 dX5_spelling_51
  by_cases c4 : p0 = 4
  · refine lv_tableIn (off := 51) (tgt := 52) hx hb dX5_spelling_1 (by rw [c4]; decide) (by rw [c4]; decide) (by rw [c4]; rfl) (by decide) ?_
    refine va_ldcS hx hb hown (hE.2.2.2.2.2 4 (108, "quorum") rfl) dX5_spelling_52 ?_
    exact W.aret (v := .ref (adK 4)) (rt := .object "java/lang/String") hx hb hr (Or.inl ⟨_, rfl⟩) (Or.inr ⟨_, rfl⟩) (fun t ht hW => ⟨⟨(), adK 4, rfl, trivial, (by rw [c4]; rfl), by rw [ht]; exact hP, hD⟩, hS.F ht⟩) hS.2.2 dX5_spelling_54
  by_cases c5 : p0 = 5
  · refine lv_tableIn (off := 54) (tgt := 55) hx hb dX5_spelling_1 (by rw [c5]; decide) (by rw [c5]; decide) (by rw [c5]; rfl) (by decide) ?_
    refine va_ldcS hx hb hown (hE.2.2.2.2.2 5 (110, "proxy") rfl) dX5_spelling_55 ?_
    exact W.aret (v := .ref (adK 5)) (rt := .object "java/lang/String") hx hb hr (Or.inl ⟨_, rfl⟩) (Or.inr ⟨_, rfl⟩) (fun t ht hW => ⟨⟨(), adK 5, rfl, trivial, (by rw [c5]; rfl), by rw [ht]; exact hP, hD⟩, hS.F ht⟩) hS.2.2 dX5_spelling_57
  refine lv_tableOut (tgt := 58) hx hb dX5_spelling_1 (sw_out 5 (by decide) (fun k hk => by rcases (show k = 0 ∨ k = 1 ∨ k = 2 ∨ k = 3 ∨ k = 4 ∨ k = 5 by omega) with rfl | rfl | rfl | rfl | rfl | rfl <;> assumption)) (by decide) ?_
  refine va_ldcS hx hb hown (hE.2.2.2.2.2 6 (112, "hour") rfl) dX5_spelling_58 ?_
  exact W.aret (v := .ref (adK 6)) (rt := .object "java/lang/String") hx hb hr (Or.inl ⟨_, rfl⟩) (Or.inr ⟨_, rfl⟩) (fun t ht hW => ⟨⟨(), adK 6, rfl, trivial, (by simp [wIdx, c0, c1, c2, c3, c4, c5]), by rw [ht]; exact hP, hD⟩, hS.F ht⟩) hS.2.2 dX5_spelling_60
def lp_X5_stands_17 (k2 : Int32) (i : Nat) (v5place : Int32) (v6length : Int32) (f6bytes : Nat → Int32) (Post : Int32 → Unit → Prop) (K : Int32 → Prop) : Nat → Int32 → Prop
  | 0, _ => False
  | n + 1, y3 => ((((nI (sLen.getD i 0)) ≤ y3) → (K y3)) ∧ ((¬ (nI (sLen.getD i 0)) ≤ y3) → (wp_X6_at (k2 + y3) v6length f6bytes (fun (r3 : Int32) (u4 : Unit) => (vp_in y3 (sLen.getD i 0) ∧ (((r3 = (sCh i y3)) → (∀ x7 : Int32, x7 = y3 + 1 → (lp_X5_stands_17 k2 i v5place v6length f6bytes Post K n x7))) ∧ ((¬ r3 = (sCh i y3)) → (Post 0 ()))))))))
def wp_X5_stands (i : Nat) (p2 : Int32) (v5place : Int32) (v6length : Int32) (f6bytes : Nat → Int32) (Post : Int32 → Unit → Prop) : Prop := ((((nI (sLen.getD i 0)) = (v5place - p2)) → (∃ n11 : Nat, lp_X5_stands_17 p2 i v5place v6length f6bytes Post (fun (x10 : Int32) => (Post 1 ())) n11 0)) ∧ ((¬ (nI (sLen.getD i 0)) = (v5place - p2)) → (Post 0 ())))
set_option maxHeartbeats 4000000 in
set_option maxRecDepth 100000 in
theorem c_X5_stands (l : Launch) (dC : Nat → ClassId) (dI : Nat → Nat → Nat) (cyI cyZ cyB : ClassId) (a5 : Nat) (a6 : Nat) (r5draft : Nat) (r6bytes : Nat) (tW tH : Nat) (adK adV : Nat → Nat) (i : Nat) (hi : i < 7) (sz : Nat) (v5place : Int32) (v5slotsTold : Int32) (v5fault : Int32) (v6length : Int32) (f6bytes : Nat → Int32) (p2 : Int32) (Post : Int32 → Unit → Prop) (h : wp_X5_stands i p2 v5place v6length f6bytes Post) : Met l yX5_stands wsX5_stands ({ frames := 4, cells := 0, slots := 0, locals := 85 } : Room) (MPreE (dC, dI) [(cyI, .int), (cyZ, .boolean), (cyB, .byte)] [.ref a5, .ref (adK i), .int p2] sz [(a5, .inr (5, [.ref a6, .ref r5draft, .int v5place, .int v5slotsTold, .int v5fault])), (a6, .inr (6, [.int v6length, .ref r6bytes])), (r6bytes, .inl (cyB, 200, .inl f6bytes))] tW tH adK adV) (va_Qi Post (fun (u : Unit) (t : State) => va_P (dC, dI) vwCl [(a5, .inr (5, [.ref a6, .ref r5draft, .int v5place, .int v5slotsTold, .int v5fault])), (a6, .inr (6, [.int v6length, .ref r6bytes])), (r6bytes, .inl (cyB, 200, .inl f6bytes))] t.heap ∧ va_D (va_A [(a5, .inr (5, [.ref a6, .ref r5draft, .int v5place, .int v5slotsTold, .int v5fault])), (a6, .inr (6, [.int v6length, .ref r6bytes])), (r6bytes, .inl (cyB, 200, .inl f6bytes))] sz) [(a5, .inr (5, [.ref a6, .ref r5draft, .int v5place, .int v5slotsTold, .int v5fault])), (a6, .inr (6, [.int v6length, .ref r6bytes])), (r6bytes, .inl (cyB, 200, .inl f6bytes))]) (va_A [(a5, .inr (5, [.ref a6, .ref r5draft, .int v5place, .int v5slotsTold, .int v5fault])), (a6, .inr (6, [.int v6length, .ref r6bytes])), (r6bytes, .inl (cyB, 200, .inl f6bytes))] sz)) 0 0 (va_A [(a5, .inr (5, [.ref a6, .ref r5draft, .int v5place, .int v5slotsTold, .int v5fault])), (a6, .inr (6, [.int v6length, .ref r6bytes])), (r6bytes, .inl (cyB, 200, .inl f6bytes))] sz) := by
  refine Met.ofW (cc := cX5_stands) (maxL := 4) (ret := (some .boolean)) (by decide) rfl ?_
  intro p e s m args below meth c s₁ B hml hv
  obtain ⟨rfl, hsz, hP, hK, hD0, hN, hE⟩ := hv
  have hx := B.exec
  have hb := B.bytes
  have hr := B.returns
  have hts := atoms_spec (ws := wsX5_stands) B.pre
  have hown : s.vm.findClass RX5 = some m.cls := findClass_of_methodNamed B.named
  have hlocks := B.notSynchronized
  subst hsz
  have hD := hD0.self (sz := s.heap.size)
  generalize hAe : va_A [(a5, .inr (5, [.ref a6, .ref r5draft, .int v5place, .int v5slotsTold, .int v5fault])), (a6, .inr (6, [.int v6length, .ref r6bytes])), (r6bytes, .inl (cyB, 200, .inl f6bytes))] s.heap.size = A at hD hE ⊢
  have hA : ∀ q : Nat, s.heap.size ≤ q → A q := fun q h => by rw [← hAe]; exact Or.inr h
  have hS : va_S A s.heap s.heap [] := va_S.rf
  have hW := hE.1
  have hiX5 : ∀ w ∈ u_ws RX5 TX5 5, w ∈ wsX5_stands := by decide +kernel
  have lk15 := hts (.fieldLink RX5 15 "StallBook$Reader" "place" "I") (by decide +kernel)
  have lk25 := hts (.fieldLink RX5 25 "StallBook$Reader" "tape" "LStallBook$Tape;") (by decide +kernel)
  have L17 : ∀ (k2 : Int32) (v5place : Int32) (v6length : Int32) (f6bytes : Nat → Int32) (K : Int32 → Prop) (n : Nat) (y3 : Int32) (H : Heap) (locs : List Loc) (ls : Array Slot), lp_X5_stands_17 k2 i v5place v6length f6bytes Post K n y3 → va_P (dC, dI) vwCl [(a5, .inr (5, [.ref a6, .ref r5draft, .int v5place, .int v5slotsTold, .int v5fault])), (a6, .inr (6, [.int v6length, .ref r6bytes])), (r6bytes, .inl (cyB, 200, .inl f6bytes))] H → va_D A [(a5, .inr (5, [.ref a6, .ref r5draft, .int v5place, .int v5slotsTold, .int v5fault])), (a6, .inr (6, [.int v6length, .ref r6bytes])), (r6bytes, .inl (cyB, 200, .inl f6bytes))] → va_S A s.heap H locs → lv_has ls 4 [(0, .ref a5), (1, .ref (adK i)), (2, .int k2), (3, .int y3)] → (∀ (y3 : Int32) (H : Heap) (locs : List Loc) (ls : Array Slot), K y3 → va_P (dC, dI) vwCl [(a5, .inr (5, [.ref a6, .ref r5draft, .int v5place, .int v5slotsTold, .int v5fault])), (a6, .inr (6, [.int v6length, .ref r6bytes])), (r6bytes, .inl (cyB, 200, .inl f6bytes))] H → va_D A [(a5, .inr (5, [.ref a6, .ref r5draft, .int v5place, .int v5slotsTold, .int v5fault])), (a6, .inr (6, [.int v6length, .ref r6bytes])), (r6bytes, .inl (cyB, 200, .inl f6bytes))] → va_S A s.heap H locs → lv_has ls 4 [(0, .ref a5), (1, .ref (adK i)), (2, .int k2), (3, .int y3)] → W p l e (headSpec wsX5_stands ({ frames := 4, cells := 0, slots := 0, locals := 85 } : Room)).room s m ([.ref a5, .ref (adK i), .int p2] : List Value).toArray below meth c H locs 0 0 (MQ below (va_Qi Post (fun (u : Unit) (t : State) => va_P (dC, dI) vwCl [(a5, .inr (5, [.ref a6, .ref r5draft, .int v5place, .int v5slotsTold, .int v5fault])), (a6, .inr (6, [.int v6length, .ref r6bytes])), (r6bytes, .inl (cyB, 200, .inl f6bytes))] t.heap ∧ va_D A [(a5, .inr (5, [.ref a6, .ref r5draft, .int v5place, .int v5slotsTold, .int v5fault])), (a6, .inr (6, [.int v6length, .ref r6bytes])), (r6bytes, .inl (cyB, 200, .inl f6bytes))]) A) ([.ref a5, .ref (adK i), .int p2] : List Value).toArray s 0 0 A) (F0 m 51 ls [])) → W p l e (headSpec wsX5_stands ({ frames := 4, cells := 0, slots := 0, locals := 85 } : Room)).room s m ([.ref a5, .ref (adK i), .int p2] : List Value).toArray below meth c H locs 0 0 (MQ below (va_Qi Post (fun (u : Unit) (t : State) => va_P (dC, dI) vwCl [(a5, .inr (5, [.ref a6, .ref r5draft, .int v5place, .int v5slotsTold, .int v5fault])), (a6, .inr (6, [.int v6length, .ref r6bytes])), (r6bytes, .inl (cyB, 200, .inl f6bytes))] t.heap ∧ va_D A [(a5, .inr (5, [.ref a6, .ref r5draft, .int v5place, .int v5slotsTold, .int v5fault])), (a6, .inr (6, [.int v6length, .ref r6bytes])), (r6bytes, .inl (cyB, 200, .inl f6bytes))]) A) ([.ref a5, .ref (adK i), .int p2] : List Value).toArray s 0 0 A) (F0 m 17 ls []) := by
    intro k2 v5place v6length f6bytes K n
    induction n with
    | zero =>
      intro y3 H locs ls h
      exact (h : False).elim
    | succ n ih =>
      intro y3 H locs ls h hP hD hS hl kk
      rw [lp_X5_stands_17] at h
      refine lv_iload_n hx hb dX5_stands_17 rfl (lv_at hl 3 rfl) ?_
      refine lv_aload_n hx hb dX5_stands_18 rfl (lv_at hl 1 rfl) ?_
      refine mc_i hP hD hS hA [] [0, 1, 2] [0, 1, 2] [(a5, .inr (5, [.ref a6, .ref r5draft, .int v5place, .int v5slotsTold, .int v5fault])), (a6, .inr (6, [.int v6length, .ref r6bytes])), (r6bytes, .inl (cyB, 200, .inl f6bytes))] (fun (_ : Unit) => [(a5, .inr (5, [.ref a6, .ref r5draft, .int v5place, .int v5slotsTold, .int v5fault])), (a6, .inr (6, [.int v6length, .ref r6bytes])), (r6bytes, .inl (cyB, 200, .inl f6bytes))]) rfl rfl (by decide) (by decide) (by decide) (fun _ => rfl) (fun _ => rfl) (va_runV (As := []) (rest := [.int y3]) ⟨hx, hb, hml, hown, hts⟩ (c_J0_length_8abf5 l dC dI cyI cyZ cyB tW tH adK adV H.size i hi) (cwV 0 hts gX5_stands_J0_length_8abf5 rfl rfl rfl (by decide +kernel) ⟨Nat.le_of_ble_eq_true rfl, Nat.le_of_ble_eq_true rfl⟩) ⟨MPreE_blind, vk_recv hE.2.2.2.2.1 hi hS, MPreE_here [] hP hD hK hN hE hS hA (by decide) rfl rfl⟩ rfl rfl hl.1 rfl (lv_room (Nat.le_of_ble_eq_true rfl)) dX5_stands_19 ⟨Nat.zero_le _, Nat.zero_le _⟩) (fun r2 u1 H locs hr2 hP hD hS => ?_)
      subst hr2
      refine lv_icmp_ge (tgt := 51) hx hb dX5_stands_22 (by decide) (fun c => ?_) (fun c => ?_)
      · replace h := h.1 c
        exact kk y3 H locs ls h hP hD hS (lv_sub hl [0, 1, 2, 3] rfl)
      · replace h := h.2 c
        refine lv_aload_n hx hb dX5_stands_25 rfl (lv_at hl 0 rfl) ?_
        refine va_get (D := (dC, dI)) (ci := 5) (v := .ref a6) (C := RX5) (T := TX5) (N := 5) hx hb hts hiX5 hown hK hP 0 rfl rfl 0 (by decide) lk25 (fun _ h9 => h9) rfl dX5_stands_26 ?_
        refine lv_iload_n hx hb dX5_stands_29 rfl (lv_at hl 2 rfl) ?_
        refine lv_iload_n hx hb dX5_stands_30 rfl (lv_at hl 3 rfl) ?_
        refine lv_iadd hx hb dX5_stands_31 ?_
        refine mc_i hP hD hS hA [1, 2] [0] [0, 1, 2] [(a5, .inr (5, [.ref a6, .ref r5draft, .int v5place, .int v5slotsTold, .int v5fault]))] (fun (u4 : Unit) => [(a5, .inr (5, [.ref a6, .ref r5draft, .int v5place, .int v5slotsTold, .int v5fault])), (a6, .inr (6, [.int v6length, .ref r6bytes])), (r6bytes, .inl (cyB, 200, .inl f6bytes))]) rfl rfl (by decide) (by decide) (by decide) (fun _ => rfl) (fun _ => rfl) (va_runVN (C := RX6) (host := "StallBook") (As := [.int (k2 + y3)]) (rest := []) ⟨hx, hb, hml, hown, hts⟩ (c_X6_at l dC dI cyI cyZ cyB a6 r6bytes  H.size v6length f6bytes (k2 + y3) _ h) ⟨va_cnB 1 hts ggX5_stands_X6_at rfl rfl rfl (hN.2 (RX5, 41, yX6_at) (by decide +kernel)) (hts (.initialized RX6) (by decide +kernel)) (by decide +kernel) ⟨Nat.le_of_ble_eq_true rfl, Nat.le_of_ble_eq_true rfl⟩, hts (.instanceMethod yX6_at) (by decide +kernel), hts (.selects RX6 yX6_at yX6_at) (by decide +kernel)⟩ ⟨MPre_blind, va_recv hK hP (ci := 6) (q0 := 1) rfl rfl, MPre_here [1, 2] hP hD hK hN (by decide) rfl rfl⟩ rfl rfl hl.1 rfl (lv_room (Nat.le_of_ble_eq_true rfl)) dX5_stands_32 ⟨Nat.zero_le _, Nat.zero_le _⟩) (fun r3 u4 H locs h hP hD hS => ?_)
        replace hP : va_P (dC, dI) vwCl [(a5, .inr (5, [.ref a6, .ref r5draft, .int v5place, .int v5slotsTold, .int v5fault])), (a6, .inr (6, [.int v6length, .ref r6bytes])), (r6bytes, .inl (cyB, 200, .inl f6bytes))] H := hP
        replace hD : va_D A [(a5, .inr (5, [.ref a6, .ref r5draft, .int v5place, .int v5slotsTold, .int v5fault])), (a6, .inr (6, [.int v6length, .ref r6bytes])), (r6bytes, .inl (cyB, 200, .inl f6bytes))] := hD
        refine lv_aload_n hx hb dX5_stands_35 rfl (lv_at hl 1 rfl) ?_
        refine lv_iload_n hx hb dX5_stands_36 rfl (lv_at hl 3 rfl) ?_
        refine mc_i hP hD hS hA [] [0, 1, 2] [0, 1, 2] [(a5, .inr (5, [.ref a6, .ref r5draft, .int v5place, .int v5slotsTold, .int v5fault])), (a6, .inr (6, [.int v6length, .ref r6bytes])), (r6bytes, .inl (cyB, 200, .inl f6bytes))] (fun (_ : Unit) => [(a5, .inr (5, [.ref a6, .ref r5draft, .int v5place, .int v5slotsTold, .int v5fault])), (a6, .inr (6, [.int v6length, .ref r6bytes])), (r6bytes, .inl (cyB, 200, .inl f6bytes))]) rfl rfl (by decide) (by decide) (by decide) (fun _ => rfl) (fun _ => rfl) (va_runV (As := [.int y3]) (rest := [.int r3]) ⟨hx, hb, hml, hown, hts⟩ (c_J0_charAt_5068e l dC dI cyI cyZ cyB tW tH adK adV H.size i hi y3 h.1) (cwV 1 hts gX5_stands_J0_charAt_5068e rfl rfl rfl (by decide +kernel) ⟨Nat.le_of_ble_eq_true rfl, Nat.le_of_ble_eq_true rfl⟩) ⟨MPreE_blind, vk_recv hE.2.2.2.2.1 hi hS, MPreE_here [] hP hD hK hN hE hS hA (by decide) rfl rfl⟩ rfl rfl hl.1 rfl (lv_room (Nat.le_of_ble_eq_true rfl)) dX5_stands_37 ⟨Nat.zero_le _, Nat.zero_le _⟩) (fun r6 u5 H locs hr6 hP hD hS => ?_)
        subst hr6
        replace h := h.2
        refine lv_icmp_eq (tgt := 45) hx hb dX5_stands_40 (by decide) (fun c => ?_) (fun c => ?_)
        · replace h := h.1 c
          obtain ⟨x7, ex7⟩ : ∃ y : Int32, y = y3 + 1 := ⟨_, rfl⟩
          replace h := h x7 ex7
          refine lv_iinc (v := x7) (lv' := [(3, .int x7), (0, .ref a5), (1, .ref (adK i)), (2, .int k2)]) hx hb dX5_stands_45 hl (k := 3) rfl (by rw [ex7]; rfl) (by decide) rfl (fun ls hl => ?_)
          refine lv_goto (tgt := 17) hx hb dX5_stands_48 (by decide) ?_
          exact ih x7 H locs ls h hP hD hS (lv_sub hl [1, 2, 3, 0] rfl) kk
        · replace h := h.2 c
          refine lv_iconst (v := 0) hx hb dX5_stands_43 (by decide) ?_
          exact W.zret (v := 0) (ty := .boolean) hx hb hr rfl (fun t ht hW => ⟨⟨0, (), rfl, h, by rw [ht]; exact hP, hD⟩, hS.F ht⟩) hS.2.2 dX5_stands_44
  delta wp_X5_stands at h
  have hl := lv_entry [.ref a5, .ref (adK i), .int p2] (n := 4) (Nat.le_of_ble_eq_true rfl)
  rw [lg_entry_eq]
  generalize (lg_sl [.ref a5, .ref (adK i), .int p2] ++ List.replicate (4 - (lg_sl [.ref a5, .ref (adK i), .int p2]).length) Slot.unset).toArray = ls at hl ⊢
  replace hl : lv_has ls 4 [(0, .ref a5), (1, .ref (adK i)), (2, .int p2)] := hl
  refine lv_aload_n hx hb dX5_stands_0 rfl (lv_at hl 1 rfl) ?_
  refine mc_i hP hD hS hA [] [0, 1, 2] [0, 1, 2] [(a5, .inr (5, [.ref a6, .ref r5draft, .int v5place, .int v5slotsTold, .int v5fault])), (a6, .inr (6, [.int v6length, .ref r6bytes])), (r6bytes, .inl (cyB, 200, .inl f6bytes))] (fun (_ : Unit) => [(a5, .inr (5, [.ref a6, .ref r5draft, .int v5place, .int v5slotsTold, .int v5fault])), (a6, .inr (6, [.int v6length, .ref r6bytes])), (r6bytes, .inl (cyB, 200, .inl f6bytes))]) rfl rfl (by decide) (by decide) (by decide) (fun _ => rfl) (fun _ => rfl) (va_runV (As := []) (rest := []) ⟨hx, hb, hml, hown, hts⟩ (c_J0_length_8abf5 l dC dI cyI cyZ cyB tW tH adK adV s.heap.size i hi) (cwV 0 hts gX5_stands_J0_length_8abf5 rfl rfl rfl (by decide +kernel) ⟨Nat.le_of_ble_eq_true rfl, Nat.le_of_ble_eq_true rfl⟩) ⟨MPreE_blind, vk_recv hE.2.2.2.2.1 hi hS, MPreE_here [] hP hD hK hN hE hS hA (by decide) rfl rfl⟩ rfl rfl hl.1 rfl (lv_room (Nat.le_of_ble_eq_true rfl)) dX5_stands_1 ⟨Nat.zero_le _, Nat.zero_le _⟩) (fun r9 u8 H locs hr9 hP hD hS => ?_)
  subst hr9
  refine lv_aload_n hx hb dX5_stands_4 rfl (lv_at hl 0 rfl) ?_
  refine va_get (D := (dC, dI)) (ci := 5) (v := .int v5place) (C := RX5) (T := TX5) (N := 5) hx hb hts hiX5 hown hK hP 0 rfl rfl 2 (by decide) lk15 (fun _ h9 => h9) rfl dX5_stands_5 ?_
  refine lv_iload_n hx hb dX5_stands_8 rfl (lv_at hl 2 rfl) ?_
  refine lv_isub hx hb dX5_stands_9 ?_
  refine lv_icmp_eq (tgt := 15) hx hb dX5_stands_10 (by decide) (fun c => ?_) (fun c => ?_)
  · replace h := h.1 c
    refine lv_iconst (v := 0) hx hb dX5_stands_15 (by decide) ?_
    refine lv_istore_n (lv' := [(3, .int 0), (0, .ref a5), (1, .ref (adK i)), (2, .int p2)]) hx hb dX5_stands_16 rfl hl (by decide) rfl (fun ls hl => ?_)
    obtain ⟨n11, h⟩ := h
    refine L17 p2 v5place v6length f6bytes _ n11 0 H locs ls h hP hD hS (lv_sub hl [1, 2, 3, 0] rfl) (fun x10 H locs ls h hP hD hS hl => ?_)
    refine lv_iconst (v := 1) hx hb dX5_stands_51 (by decide) ?_
    exact W.zret (v := 1) (ty := .boolean) hx hb hr rfl (fun t ht hW => ⟨⟨1, (), rfl, h, by rw [ht]; exact hP, hD⟩, hS.F ht⟩) hS.2.2 dX5_stands_52
  · replace h := h.2 c
    refine lv_iconst (v := 0) hx hb dX5_stands_13 (by decide) ?_
    exact W.zret (v := 0) (ty := .boolean) hx hb hr rfl (fun t ht hW => ⟨⟨0, (), rfl, h, by rw [ht]; exact hP, hD⟩, hS.F ht⟩) hS.2.2 dX5_stands_14
def lp_X5_readWord_51 (k1 : Int32) (v5place : Int32) (v6length : Int32) (f6bytes : Nat → Int32) (Post : Int32 → Int32 → Prop) (K : Int32 → Prop) : Nat → Int32 → Prop
  | 0, _ => False
  | n + 1, y2 => (((7 ≤ y2) → (K y2)) ∧ ((¬ 7 ≤ y2) → (wp_X5_stands (wIdx y2) k1 v5place v6length f6bytes (fun (r2 : Int32) (u3 : Unit) => (((r2 = 0) → (∀ x4 : Int32, x4 = y2 + 1 → (lp_X5_readWord_51 k1 v5place v6length f6bytes Post K n x4))) ∧ ((¬ r2 = 0) → (Post y2 v5place)))))))
def lp_X5_readWord_5 (k1 : Int32) (v6length : Int32) (f6bytes : Nat → Int32) (Post : Int32 → Int32 → Prop) (K : Int32 → Prop) : Nat → Int32 → Prop
  | 0, _ => False
  | n + 1, v5place => (((v6length ≤ v5place) → (K v5place)) ∧ ((¬ v6length ≤ v5place) → (wp_X6_at v5place v6length f6bytes (fun (r5 : Int32) (u6 : Unit) => (wp_X5_isLetter r5 (fun (r7 : Int32) (u8 : Unit) => (((r7 = 0) → (K v5place)) ∧ ((¬ r7 = 0) → (lp_X5_readWord_5 k1 v6length f6bytes Post K n (v5place + 1))))))))))
def wp_X5_readWord (v5place : Int32) (v6length : Int32) (f6bytes : Nat → Int32) (Post : Int32 → Int32 → Prop) : Prop := (∃ n10 : Nat, lp_X5_readWord_5 v5place v6length f6bytes Post (fun (x9 : Int32) => (∃ n12 : Nat, lp_X5_readWord_51 v5place x9 v6length f6bytes Post (fun (x11 : Int32) => (Post (-1) x9)) n12 0)) n10 v5place)
set_option maxHeartbeats 4000000 in
set_option maxRecDepth 100000 in
theorem c_X5_readWord (l : Launch) (dC : Nat → ClassId) (dI : Nat → Nat → Nat) (cyI cyZ cyB : ClassId) (a5 : Nat) (a6 : Nat) (r5draft : Nat) (r6bytes : Nat) (tW tH : Nat) (adK adV : Nat → Nat) (sz : Nat) (v5place : Int32) (v5slotsTold : Int32) (v5fault : Int32) (v6length : Int32) (f6bytes : Nat → Int32)  (Post : Int32 → Int32 → Prop) (h : wp_X5_readWord v5place v6length f6bytes Post) : Met l yX5_readWord wsX5_readWord ({ frames := 5, cells := 0, slots := 0, locals := 108 } : Room) (MPreE (dC, dI) [(cyI, .int), (cyZ, .boolean), (cyB, .byte)] [.ref a5] sz [(a5, .inr (5, [.ref a6, .ref r5draft, .int v5place, .int v5slotsTold, .int v5fault])), (a6, .inr (6, [.int v6length, .ref r6bytes])), (r6bytes, .inl (cyB, 200, .inl f6bytes))] tW tH adK adV) (va_Qi Post (fun (u : Int32) (t : State) => va_P (dC, dI) vwCl [(a5, .inr (5, [.ref a6, .ref r5draft, .int u, .int v5slotsTold, .int v5fault])), (a6, .inr (6, [.int v6length, .ref r6bytes])), (r6bytes, .inl (cyB, 200, .inl f6bytes))] t.heap ∧ va_D (va_A [(a5, .inr (5, [.ref a6, .ref r5draft, .int v5place, .int v5slotsTold, .int v5fault])), (a6, .inr (6, [.int v6length, .ref r6bytes])), (r6bytes, .inl (cyB, 200, .inl f6bytes))] sz) [(a5, .inr (5, [.ref a6, .ref r5draft, .int u, .int v5slotsTold, .int v5fault])), (a6, .inr (6, [.int v6length, .ref r6bytes])), (r6bytes, .inl (cyB, 200, .inl f6bytes))]) (va_A [(a5, .inr (5, [.ref a6, .ref r5draft, .int v5place, .int v5slotsTold, .int v5fault])), (a6, .inr (6, [.int v6length, .ref r6bytes])), (r6bytes, .inl (cyB, 200, .inl f6bytes))] sz)) 0 0 (va_A [(a5, .inr (5, [.ref a6, .ref r5draft, .int v5place, .int v5slotsTold, .int v5fault])), (a6, .inr (6, [.int v6length, .ref r6bytes])), (r6bytes, .inl (cyB, 200, .inl f6bytes))] sz) := by
  refine Met.ofW (cc := cX5_readWord) (maxL := 3) (ret := (some .int)) (by decide) rfl ?_
  intro p e s m args below meth c s₁ B hml hv
  obtain ⟨rfl, hsz, hP, hK, hD0, hN, hE⟩ := hv
  have hx := B.exec
  have hb := B.bytes
  have hr := B.returns
  have hts := atoms_spec (ws := wsX5_readWord) B.pre
  have hown : s.vm.findClass RX5 = some m.cls := findClass_of_methodNamed B.named
  have hlocks := B.notSynchronized
  subst hsz
  have hD := hD0.self (sz := s.heap.size)
  generalize hAe : va_A [(a5, .inr (5, [.ref a6, .ref r5draft, .int v5place, .int v5slotsTold, .int v5fault])), (a6, .inr (6, [.int v6length, .ref r6bytes])), (r6bytes, .inl (cyB, 200, .inl f6bytes))] s.heap.size = A at hD hE ⊢
  have hA : ∀ q : Nat, s.heap.size ≤ q → A q := fun q h => by rw [← hAe]; exact Or.inr h
  have hS : va_S A s.heap s.heap [] := va_S.rf
  have hW := hE.1
  have hiX5 : ∀ w ∈ u_ws RX5 TX5 5, w ∈ wsX5_readWord := by decide +kernel
  have hiX6 : ∀ w ∈ u_ws RX6 TX6 2, w ∈ wsX5_readWord := by decide +kernel
  have lk15 := hts (.fieldLink RX5 15 "StallBook$Reader" "place" "I") (by decide +kernel)
  have lk25 := hts (.fieldLink RX5 25 "StallBook$Reader" "tape" "LStallBook$Tape;") (by decide +kernel)
  have lk54 : (Cond.fieldLinkNest RX5 54 "StallBook$Tape" "length" "I" "StallBook").before ([.ref a5] : List Value).toArray s = true := va_Nw.use rfl (hN.1 (RX5, 54, "StallBook$Tape", "length", "I") (by decide +kernel))
  have L51 : ∀ (k1 : Int32) (v5place : Int32) (v6length : Int32) (f6bytes : Nat → Int32) (K : Int32 → Prop) (n : Nat) (y2 : Int32) (H : Heap) (locs : List Loc) (ls : Array Slot), lp_X5_readWord_51 k1 v5place v6length f6bytes Post K n y2 → va_P (dC, dI) vwCl [(a5, .inr (5, [.ref a6, .ref r5draft, .int v5place, .int v5slotsTold, .int v5fault])), (a6, .inr (6, [.int v6length, .ref r6bytes])), (r6bytes, .inl (cyB, 200, .inl f6bytes))] H → va_D A [(a5, .inr (5, [.ref a6, .ref r5draft, .int v5place, .int v5slotsTold, .int v5fault])), (a6, .inr (6, [.int v6length, .ref r6bytes])), (r6bytes, .inl (cyB, 200, .inl f6bytes))] → va_S A s.heap H locs → lv_has ls 3 [(0, .ref a5), (1, .int k1), (2, .int y2)] → (∀ (y2 : Int32) (H : Heap) (locs : List Loc) (ls : Array Slot), K y2 → va_P (dC, dI) vwCl [(a5, .inr (5, [.ref a6, .ref r5draft, .int v5place, .int v5slotsTold, .int v5fault])), (a6, .inr (6, [.int v6length, .ref r6bytes])), (r6bytes, .inl (cyB, 200, .inl f6bytes))] H → va_D A [(a5, .inr (5, [.ref a6, .ref r5draft, .int v5place, .int v5slotsTold, .int v5fault])), (a6, .inr (6, [.int v6length, .ref r6bytes])), (r6bytes, .inl (cyB, 200, .inl f6bytes))] → va_S A s.heap H locs → lv_has ls 3 [(0, .ref a5), (1, .int k1), (2, .int y2)] → W p l e (headSpec wsX5_readWord ({ frames := 5, cells := 0, slots := 0, locals := 108 } : Room)).room s m ([.ref a5] : List Value).toArray below meth c H locs 0 0 (MQ below (va_Qi Post (fun (u : Int32) (t : State) => va_P (dC, dI) vwCl [(a5, .inr (5, [.ref a6, .ref r5draft, .int u, .int v5slotsTold, .int v5fault])), (a6, .inr (6, [.int v6length, .ref r6bytes])), (r6bytes, .inl (cyB, 200, .inl f6bytes))] t.heap ∧ va_D A [(a5, .inr (5, [.ref a6, .ref r5draft, .int u, .int v5slotsTold, .int v5fault])), (a6, .inr (6, [.int v6length, .ref r6bytes])), (r6bytes, .inl (cyB, 200, .inl f6bytes))]) A) ([.ref a5] : List Value).toArray s 0 0 A) (F0 m 77 ls [])) → W p l e (headSpec wsX5_readWord ({ frames := 5, cells := 0, slots := 0, locals := 108 } : Room)).room s m ([.ref a5] : List Value).toArray below meth c H locs 0 0 (MQ below (va_Qi Post (fun (u : Int32) (t : State) => va_P (dC, dI) vwCl [(a5, .inr (5, [.ref a6, .ref r5draft, .int u, .int v5slotsTold, .int v5fault])), (a6, .inr (6, [.int v6length, .ref r6bytes])), (r6bytes, .inl (cyB, 200, .inl f6bytes))] t.heap ∧ va_D A [(a5, .inr (5, [.ref a6, .ref r5draft, .int u, .int v5slotsTold, .int v5fault])), (a6, .inr (6, [.int v6length, .ref r6bytes])), (r6bytes, .inl (cyB, 200, .inl f6bytes))]) A) ([.ref a5] : List Value).toArray s 0 0 A) (F0 m 51 ls []) := by
    intro k1 v5place v6length f6bytes K n
    induction n with
    | zero =>
      intro y2 H locs ls h
      exact (h : False).elim
    | succ n ih =>
      intro y2 H locs ls h hP hD hS hl kk
      rw [lp_X5_readWord_51] at h
      refine lv_iload_n hx hb dX5_readWord_51 rfl (lv_at hl 2 rfl) ?_
      refine lv_bipush (v := 7) hx hb dX5_readWord_52 (by decide) ?_
      refine lv_icmp_ge (tgt := 77) hx hb dX5_readWord_54 (by decide) (fun c => ?_) (fun c => ?_)
      · replace h := h.1 c
        exact kk y2 H locs ls h hP hD hS (lv_sub hl [0, 1, 2] rfl)
      · replace h := h.2 c
        refine lv_aload_n hx hb dX5_readWord_57 rfl (lv_at hl 0 rfl) ?_
        refine lv_iload_n hx hb dX5_readWord_58 rfl (lv_at hl 2 rfl) ?_
        refine mc_r (a := adK (wIdx y2)) hP hD hS hA [] [0, 1, 2] [0, 1, 2] [(a5, .inr (5, [.ref a6, .ref r5draft, .int v5place, .int v5slotsTold, .int v5fault])), (a6, .inr (6, [.int v6length, .ref r6bytes])), (r6bytes, .inl (cyB, 200, .inl f6bytes))] (fun (_ : Unit) => [(a5, .inr (5, [.ref a6, .ref r5draft, .int v5place, .int v5slotsTold, .int v5fault])), (a6, .inr (6, [.int v6length, .ref r6bytes])), (r6bytes, .inl (cyB, 200, .inl f6bytes))]) rfl rfl (by decide) (by decide) (by decide) (fun _ => rfl) (fun _ => rfl) (va_runS (As := [.int y2]) (rest := [.ref a5]) ⟨hx, hb, hml, hown, hts⟩ (c_X5_spelling l dC dI cyI cyZ cyB tW tH adK adV H.size y2) (cwS 1 hts gX5_readWord_X5_spelling rfl rfl rfl (by decide +kernel) ⟨Nat.le_of_ble_eq_true rfl, Nat.le_of_ble_eq_true rfl⟩) ⟨MPreE_blind, MPreE_here [] hP hD hK hN hE hS hA (by decide) rfl rfl⟩ rfl rfl hl.1 rfl (lv_room (Nat.le_of_ble_eq_true rfl)) dX5_readWord_59 ⟨Nat.zero_le _, Nat.zero_le _⟩) (fun u1 H locs hP hD hS => ?_)
        refine lv_iload_n hx hb dX5_readWord_62 rfl (lv_at hl 1 rfl) ?_
        refine mc_i hP hD hS hA [0, 1, 2] [] [0, 1, 2] [] (fun (u3 : Unit) => [(a5, .inr (5, [.ref a6, .ref r5draft, .int v5place, .int v5slotsTold, .int v5fault])), (a6, .inr (6, [.int v6length, .ref r6bytes])), (r6bytes, .inl (cyB, 200, .inl f6bytes))]) rfl rfl (by decide) (by decide) (by decide) (fun _ => rfl) (fun _ => rfl) (va_runV (As := [.ref (adK (wIdx y2)), .int k1]) (rest := []) ⟨hx, hb, hml, hown, hts⟩ (c_X5_stands l dC dI cyI cyZ cyB a5 a6 r5draft r6bytes tW tH adK adV (wIdx y2) (wIdx_lt y2) H.size v5place v5slotsTold v5fault v6length f6bytes k1 _ h) (cwV 2 hts gX5_readWord_X5_stands rfl rfl rfl (by decide +kernel) ⟨Nat.le_of_ble_eq_true rfl, Nat.le_of_ble_eq_true rfl⟩) ⟨MPreE_blind, va_recv hK hP (ci := 5) (q0 := 0) rfl rfl, MPreE_here [0, 1, 2] hP hD hK hN hE hS hA (by decide) rfl rfl⟩ rfl rfl hl.1 rfl (lv_room (Nat.le_of_ble_eq_true rfl)) dX5_readWord_63 ⟨Nat.zero_le _, Nat.zero_le _⟩) (fun r2 u3 H locs h hP hD hS => ?_)
        replace hP : va_P (dC, dI) vwCl [(a5, .inr (5, [.ref a6, .ref r5draft, .int v5place, .int v5slotsTold, .int v5fault])), (a6, .inr (6, [.int v6length, .ref r6bytes])), (r6bytes, .inl (cyB, 200, .inl f6bytes))] H := hP
        replace hD : va_D A [(a5, .inr (5, [.ref a6, .ref r5draft, .int v5place, .int v5slotsTold, .int v5fault])), (a6, .inr (6, [.int v6length, .ref r6bytes])), (r6bytes, .inl (cyB, 200, .inl f6bytes))] := hD
        refine lv_if_eq (tgt := 71) hx hb dX5_readWord_66 (by decide) (fun c => ?_) (fun c => ?_)
        · replace h := h.1 c
          obtain ⟨x4, ex4⟩ : ∃ y : Int32, y = y2 + 1 := ⟨_, rfl⟩
          replace h := h x4 ex4
          refine lv_iinc (v := x4) (lv' := [(2, .int x4), (0, .ref a5), (1, .int k1)]) hx hb dX5_readWord_71 hl (k := 2) rfl (by rw [ex4]; rfl) (by decide) rfl (fun ls hl => ?_)
          refine lv_goto (tgt := 51) hx hb dX5_readWord_74 (by decide) ?_
          exact ih x4 H locs ls h hP hD hS (lv_sub hl [1, 2, 0] rfl) kk
        · replace h := h.2 c
          refine lv_iload_n hx hb dX5_readWord_69 rfl (lv_at hl 2 rfl) ?_
          exact W.iret (v := y2) hx hb hr (fun t ht hW => ⟨⟨y2, v5place, rfl, h, by rw [ht]; exact hP, hD⟩, hS.F ht⟩) hS.2.2 dX5_readWord_70
  have L5 : ∀ (k1 : Int32) (v6length : Int32) (f6bytes : Nat → Int32) (K : Int32 → Prop) (n : Nat) (v5place : Int32) (H : Heap) (locs : List Loc) (ls : Array Slot), lp_X5_readWord_5 k1 v6length f6bytes Post K n v5place → va_P (dC, dI) vwCl [(a5, .inr (5, [.ref a6, .ref r5draft, .int v5place, .int v5slotsTold, .int v5fault])), (a6, .inr (6, [.int v6length, .ref r6bytes])), (r6bytes, .inl (cyB, 200, .inl f6bytes))] H → va_D A [(a5, .inr (5, [.ref a6, .ref r5draft, .int v5place, .int v5slotsTold, .int v5fault])), (a6, .inr (6, [.int v6length, .ref r6bytes])), (r6bytes, .inl (cyB, 200, .inl f6bytes))] → va_S A s.heap H locs → lv_has ls 3 [(0, .ref a5), (1, .int k1)] → (∀ (v5place : Int32) (H : Heap) (locs : List Loc) (ls : Array Slot), K v5place → va_P (dC, dI) vwCl [(a5, .inr (5, [.ref a6, .ref r5draft, .int v5place, .int v5slotsTold, .int v5fault])), (a6, .inr (6, [.int v6length, .ref r6bytes])), (r6bytes, .inl (cyB, 200, .inl f6bytes))] H → va_D A [(a5, .inr (5, [.ref a6, .ref r5draft, .int v5place, .int v5slotsTold, .int v5fault])), (a6, .inr (6, [.int v6length, .ref r6bytes])), (r6bytes, .inl (cyB, 200, .inl f6bytes))] → va_S A s.heap H locs → lv_has ls 3 [(0, .ref a5), (1, .int k1)] → W p l e (headSpec wsX5_readWord ({ frames := 5, cells := 0, slots := 0, locals := 108 } : Room)).room s m ([.ref a5] : List Value).toArray below meth c H locs 0 0 (MQ below (va_Qi Post (fun (u : Int32) (t : State) => va_P (dC, dI) vwCl [(a5, .inr (5, [.ref a6, .ref r5draft, .int u, .int v5slotsTold, .int v5fault])), (a6, .inr (6, [.int v6length, .ref r6bytes])), (r6bytes, .inl (cyB, 200, .inl f6bytes))] t.heap ∧ va_D A [(a5, .inr (5, [.ref a6, .ref r5draft, .int u, .int v5slotsTold, .int v5fault])), (a6, .inr (6, [.int v6length, .ref r6bytes])), (r6bytes, .inl (cyB, 200, .inl f6bytes))]) A) ([.ref a5] : List Value).toArray s 0 0 A) (F0 m 49 ls [])) → W p l e (headSpec wsX5_readWord ({ frames := 5, cells := 0, slots := 0, locals := 108 } : Room)).room s m ([.ref a5] : List Value).toArray below meth c H locs 0 0 (MQ below (va_Qi Post (fun (u : Int32) (t : State) => va_P (dC, dI) vwCl [(a5, .inr (5, [.ref a6, .ref r5draft, .int u, .int v5slotsTold, .int v5fault])), (a6, .inr (6, [.int v6length, .ref r6bytes])), (r6bytes, .inl (cyB, 200, .inl f6bytes))] t.heap ∧ va_D A [(a5, .inr (5, [.ref a6, .ref r5draft, .int u, .int v5slotsTold, .int v5fault])), (a6, .inr (6, [.int v6length, .ref r6bytes])), (r6bytes, .inl (cyB, 200, .inl f6bytes))]) A) ([.ref a5] : List Value).toArray s 0 0 A) (F0 m 5 ls []) := by
    intro k1 v6length f6bytes K n
    induction n with
    | zero =>
      intro v5place H locs ls h
      exact (h : False).elim
    | succ n ih =>
      intro v5place H locs ls h hP hD hS hl kk
      rw [lp_X5_readWord_5] at h
      refine lv_aload_n hx hb dX5_readWord_5 rfl (lv_at hl 0 rfl) ?_
      refine va_get (D := (dC, dI)) (ci := 5) (v := .int v5place) (C := RX5) (T := TX5) (N := 5) hx hb hts hiX5 hown hK hP 0 rfl rfl 2 (by decide) lk15 (fun _ h9 => h9) rfl dX5_readWord_6 ?_
      refine lv_aload_n hx hb dX5_readWord_9 rfl (lv_at hl 0 rfl) ?_
      refine va_get (D := (dC, dI)) (ci := 5) (v := .ref a6) (C := RX5) (T := TX5) (N := 5) hx hb hts hiX5 hown hK hP 0 rfl rfl 0 (by decide) lk25 (fun _ h9 => h9) rfl dX5_readWord_10 ?_
      refine va_getN (D := (dC, dI)) (ci := 6) (v := .int v6length) (C := RX6) (T := TX6) (N := 2) hx hb hts hiX6 hown hK hP 1 rfl rfl 0 (by decide) lk54 (fun _ h9 => h9) rfl dX5_readWord_13 ?_
      refine lv_icmp_ge (tgt := 49) hx hb dX5_readWord_16 (by decide) (fun c => ?_) (fun c => ?_)
      · replace h := h.1 c
        exact kk v5place H locs ls h hP hD hS (lv_sub hl [0, 1] rfl)
      · replace h := h.2 c
        refine lv_aload_n hx hb dX5_readWord_19 rfl (lv_at hl 0 rfl) ?_
        refine va_get (D := (dC, dI)) (ci := 5) (v := .ref a6) (C := RX5) (T := TX5) (N := 5) hx hb hts hiX5 hown hK hP 0 rfl rfl 0 (by decide) lk25 (fun _ h9 => h9) rfl dX5_readWord_20 ?_
        refine lv_aload_n hx hb dX5_readWord_23 rfl (lv_at hl 0 rfl) ?_
        refine va_get (D := (dC, dI)) (ci := 5) (v := .int v5place) (C := RX5) (T := TX5) (N := 5) hx hb hts hiX5 hown hK hP 0 rfl rfl 2 (by decide) lk15 (fun _ h9 => h9) rfl dX5_readWord_24 ?_
        refine mc_i hP hD hS hA [1, 2] [0] [0, 1, 2] [(a5, .inr (5, [.ref a6, .ref r5draft, .int v5place, .int v5slotsTold, .int v5fault]))] (fun (u6 : Unit) => [(a5, .inr (5, [.ref a6, .ref r5draft, .int v5place, .int v5slotsTold, .int v5fault])), (a6, .inr (6, [.int v6length, .ref r6bytes])), (r6bytes, .inl (cyB, 200, .inl f6bytes))]) rfl rfl (by decide) (by decide) (by decide) (fun _ => rfl) (fun _ => rfl) (va_runVN (C := RX6) (host := "StallBook") (As := [.int v5place]) (rest := []) ⟨hx, hb, hml, hown, hts⟩ (c_X6_at l dC dI cyI cyZ cyB a6 r6bytes  H.size v6length f6bytes v5place _ h) ⟨va_cnB 1 hts ggX5_readWord_X6_at rfl rfl rfl (hN.2 (RX5, 41, yX6_at) (by decide +kernel)) (hts (.initialized RX6) (by decide +kernel)) (by decide +kernel) ⟨Nat.le_of_ble_eq_true rfl, Nat.le_of_ble_eq_true rfl⟩, hts (.instanceMethod yX6_at) (by decide +kernel), hts (.selects RX6 yX6_at yX6_at) (by decide +kernel)⟩ ⟨MPre_blind, va_recv hK hP (ci := 6) (q0 := 1) rfl rfl, MPre_here [1, 2] hP hD hK hN (by decide) rfl rfl⟩ rfl rfl hl.1 rfl (lv_room (Nat.le_of_ble_eq_true rfl)) dX5_readWord_27 ⟨Nat.zero_le _, Nat.zero_le _⟩) (fun r5 u6 H locs h hP hD hS => ?_)
        replace hP : va_P (dC, dI) vwCl [(a5, .inr (5, [.ref a6, .ref r5draft, .int v5place, .int v5slotsTold, .int v5fault])), (a6, .inr (6, [.int v6length, .ref r6bytes])), (r6bytes, .inl (cyB, 200, .inl f6bytes))] H := hP
        replace hD : va_D A [(a5, .inr (5, [.ref a6, .ref r5draft, .int v5place, .int v5slotsTold, .int v5fault])), (a6, .inr (6, [.int v6length, .ref r6bytes])), (r6bytes, .inl (cyB, 200, .inl f6bytes))] := hD
        refine mc_i hP hD hS hA [] [0, 1, 2] [0, 1, 2] [(a5, .inr (5, [.ref a6, .ref r5draft, .int v5place, .int v5slotsTold, .int v5fault])), (a6, .inr (6, [.int v6length, .ref r6bytes])), (r6bytes, .inl (cyB, 200, .inl f6bytes))] (fun (u8 : Unit) => [(a5, .inr (5, [.ref a6, .ref r5draft, .int v5place, .int v5slotsTold, .int v5fault])), (a6, .inr (6, [.int v6length, .ref r6bytes])), (r6bytes, .inl (cyB, 200, .inl f6bytes))]) rfl rfl (by decide) (by decide) (by decide) (fun _ => rfl) (fun _ => rfl) (va_runS (As := [.int r5]) (rest := []) ⟨hx, hb, hml, hown, hts⟩ (c_X5_isLetter l dC dI cyI cyZ cyB   H.size  r5 _ h) (cwS 1 hts gX5_readWord_X5_isLetter rfl rfl rfl (by decide +kernel) ⟨Nat.le_of_ble_eq_true rfl, Nat.le_of_ble_eq_true rfl⟩) ⟨MPre_blind, MPre_here [] hP hD hK hN (by decide) rfl rfl⟩ rfl rfl hl.1 rfl (lv_room (Nat.le_of_ble_eq_true rfl)) dX5_readWord_30 ⟨Nat.zero_le _, Nat.zero_le _⟩) (fun r7 u8 H locs h hP hD hS => ?_)
        replace hP : va_P (dC, dI) vwCl [(a5, .inr (5, [.ref a6, .ref r5draft, .int v5place, .int v5slotsTold, .int v5fault])), (a6, .inr (6, [.int v6length, .ref r6bytes])), (r6bytes, .inl (cyB, 200, .inl f6bytes))] H := hP
        replace hD : va_D A [(a5, .inr (5, [.ref a6, .ref r5draft, .int v5place, .int v5slotsTold, .int v5fault])), (a6, .inr (6, [.int v6length, .ref r6bytes])), (r6bytes, .inl (cyB, 200, .inl f6bytes))] := hD
        refine lv_if_eq (tgt := 49) hx hb dX5_readWord_33 (by decide) (fun c => ?_) (fun c => ?_)
        · replace h := h.1 c
          exact kk v5place H locs ls h hP hD hS (lv_sub hl [0, 1] rfl)
        · replace h := h.2 c
          refine lv_aload_n hx hb dX5_readWord_36 rfl (lv_at hl 0 rfl) ?_
          refine lv_dup hx hb dX5_readWord_37 rfl ?_
          refine va_get (D := (dC, dI)) (ci := 5) (v := .int v5place) (C := RX5) (T := TX5) (N := 5) hx hb hts hiX5 hown hK hP 0 rfl rfl 2 (by decide) lk15 (fun _ h9 => h9) rfl dX5_readWord_38 ?_
          refine lv_iconst (v := 1) hx hb dX5_readWord_41 (by decide) ?_
          refine lv_iadd hx hb dX5_readWord_42 ?_
          refine va_put (D := (dC, dI)) (ci := 5) (v := .int (v5place + 1)) (ty := .int) (C := RX5) (T := TX5) (N := 5) hx hb hts hiX5 tyX5 tyX5_ok nmX5 hown hK hP hD hS 0 rfl rfl 2 (by decide) lk15 (fun _ h9 => h9) rfl (by decide +kernel) rfl rfl (Nat.le_of_ble_eq_true rfl) dX5_readWord_43 (fun H locs hP hD hS => ?_)
          replace hP : va_P (dC, dI) vwCl [(a5, .inr (5, [.ref a6, .ref r5draft, .int (v5place + 1), .int v5slotsTold, .int v5fault])), (a6, .inr (6, [.int v6length, .ref r6bytes])), (r6bytes, .inl (cyB, 200, .inl f6bytes))] H := hP
          replace hD : va_D A [(a5, .inr (5, [.ref a6, .ref r5draft, .int (v5place + 1), .int v5slotsTold, .int v5fault])), (a6, .inr (6, [.int v6length, .ref r6bytes])), (r6bytes, .inl (cyB, 200, .inl f6bytes))] := hD
          refine lv_goto (tgt := 5) hx hb dX5_readWord_46 (by decide) ?_
          exact ih (v5place + 1) H locs ls h hP hD hS (lv_sub hl [0, 1] rfl) kk
  delta wp_X5_readWord at h
  have hl := lv_entry [.ref a5] (n := 3) (Nat.le_of_ble_eq_true rfl)
  rw [lg_entry_eq]
  generalize (lg_sl [.ref a5] ++ List.replicate (3 - (lg_sl [.ref a5]).length) Slot.unset).toArray = ls at hl ⊢
  replace hl : lv_has ls 3 [(0, .ref a5)] := hl
  refine lv_aload_n hx hb dX5_readWord_0 rfl (lv_at hl 0 rfl) ?_
  refine va_get (D := (dC, dI)) (ci := 5) (v := .int v5place) (C := RX5) (T := TX5) (N := 5) hx hb hts hiX5 hown hK hP 0 rfl rfl 2 (by decide) lk15 (fun _ h9 => h9) rfl dX5_readWord_1 ?_
  refine lv_istore_n (lv' := [(1, .int v5place), (0, .ref a5)]) hx hb dX5_readWord_4 rfl hl (by decide) rfl (fun ls hl => ?_)
  obtain ⟨n10, h⟩ := h
  refine L5 v5place v6length f6bytes _ n10 v5place s.heap [] ls h hP hD hS (lv_sub hl [1, 0] rfl) (fun x9 H locs ls h hP hD hS hl => ?_)
  refine lv_iconst (v := 0) hx hb dX5_readWord_49 (by decide) ?_
  refine lv_istore_n (lv' := [(2, .int 0), (0, .ref a5), (1, .int v5place)]) hx hb dX5_readWord_50 rfl hl (by decide) rfl (fun ls hl => ?_)
  obtain ⟨n12, h⟩ := h
  refine L51 v5place x9 v6length f6bytes _ n12 0 H locs ls h hP hD hS (lv_sub hl [1, 2, 0] rfl) (fun x11 H locs ls h hP hD hS hl => ?_)
  refine lv_iconst (v := (-1)) hx hb dX5_readWord_77 (by decide) ?_
  exact W.iret (v := (-1)) hx hb hr (fun t ht hW => ⟨⟨(-1), x9, rfl, h, by rw [ht]; exact hP, hD⟩, hS.F ht⟩) hS.2.2 dX5_readWord_78
def wp_X5_readClause (f5draft : Nat → Int32) (v5place : Int32) (v5slotsTold : Int32) (v5fault : Int32) (v6length : Int32) (f6bytes : Nat → Int32) (Post : (Nat → Int32) × Int32 × Int32 × Int32 → Prop) : Prop := (wp_X5_skipBlanks v5place v6length f6bytes (fun (u2 : Int32) => (wp_X5_readWord u2 v6length f6bytes (fun (r3 : Int32) (u4 : Int32) => (((¬ r3 = (-1)) → (((¬ r3 = 6) → (((¬ v5fault = 0) → (((¬ v5fault = 0) → (Post (f5draft, u4, v5slotsTold, v5fault))) ∧ ((v5fault = 0) → (vp_in r3 13 ∧ (wp_X5_readNumber (fH r3.toNatClampNeg) u4 v5fault v6length f6bytes (fun (r5 : Int32) (u6 : Int32 × Int32) => (vp_in r3 13 ∧ (Post ((upd f5draft r3.toNatClampNeg r5), u6.1, (v5slotsTold ||| (1 <<< (r3 &&& 31))), u6.2))))))))) ∧ ((v5fault = 0) → ((((v5slotsTold &&& (1 <<< (r3 &&& 31))) = 0) → (((¬ v5fault = 0) → (Post (f5draft, u4, v5slotsTold, v5fault))) ∧ ((v5fault = 0) → (vp_in r3 13 ∧ (wp_X5_readNumber (fH r3.toNatClampNeg) u4 v5fault v6length f6bytes (fun (r7 : Int32) (u8 : Int32 × Int32) => (vp_in r3 13 ∧ (Post ((upd f5draft r3.toNatClampNeg r7), u8.1, (v5slotsTold ||| (1 <<< (r3 &&& 31))), u8.2))))))))) ∧ ((¬ (v5slotsTold &&& (1 <<< (r3 &&& 31))) = 0) → (wp_X5_fail u2 2 v5fault (fun (u10 : Int32) => (((¬ u10 = 0) → (Post (f5draft, u4, v5slotsTold, u10))) ∧ ((u10 = 0) → (vp_in r3 13 ∧ (wp_X5_readNumber (fH r3.toNatClampNeg) u4 u10 v6length f6bytes (fun (r11 : Int32) (u12 : Int32 × Int32) => (vp_in r3 13 ∧ (Post ((upd f5draft r3.toNatClampNeg r11), u12.1, (v5slotsTold ||| (1 <<< (r3 &&& 31))), u12.2))))))))))))))) ∧ ((r3 = 6) → (wp_X5_skipBlanks u4 v6length f6bytes (fun (u14 : Int32) => (wp_X5_readNumber 6 u14 v5fault v6length f6bytes (fun (r15 : Int32) (u16 : Int32 × Int32) => (∀ x17 : Int32, x17 = (6 + r15) → (((¬ u16.2 = 0) → (((¬ u16.2 = 0) → (Post (f5draft, u16.1, v5slotsTold, u16.2))) ∧ ((u16.2 = 0) → (vp_in x17 13 ∧ (wp_X5_readNumber (fH x17.toNatClampNeg) u16.1 u16.2 v6length f6bytes (fun (r18 : Int32) (u19 : Int32 × Int32) => (vp_in x17 13 ∧ (Post ((upd f5draft x17.toNatClampNeg r18), u19.1, (v5slotsTold ||| (1 <<< (x17 &&& 31))), u19.2))))))))) ∧ ((u16.2 = 0) → ((((v5slotsTold &&& (1 <<< (x17 &&& 31))) = 0) → (((¬ u16.2 = 0) → (Post (f5draft, u16.1, v5slotsTold, u16.2))) ∧ ((u16.2 = 0) → (vp_in x17 13 ∧ (wp_X5_readNumber (fH x17.toNatClampNeg) u16.1 u16.2 v6length f6bytes (fun (r20 : Int32) (u21 : Int32 × Int32) => (vp_in x17 13 ∧ (Post ((upd f5draft x17.toNatClampNeg r20), u21.1, (v5slotsTold ||| (1 <<< (x17 &&& 31))), u21.2))))))))) ∧ ((¬ (v5slotsTold &&& (1 <<< (x17 &&& 31))) = 0) → (wp_X5_fail u14 2 u16.2 (fun (u23 : Int32) => (((¬ u23 = 0) → (Post (f5draft, u16.1, v5slotsTold, u23))) ∧ ((u23 = 0) → (vp_in x17 13 ∧ (wp_X5_readNumber (fH x17.toNatClampNeg) u16.1 u23 v6length f6bytes (fun (r24 : Int32) (u25 : Int32 × Int32) => (vp_in x17 13 ∧ (Post ((upd f5draft x17.toNatClampNeg r24), u25.1, (v5slotsTold ||| (1 <<< (x17 &&& 31))), u25.2)))))))))))))))))))))) ∧ ((r3 = (-1)) → (wp_X5_fail u2 0 v5fault (fun (u27 : Int32) => (Post (f5draft, u4, v5slotsTold, u27))))))))))
set_option maxHeartbeats 4000000 in
set_option maxRecDepth 100000 in
theorem c_X5_readClause (l : Launch) (dC : Nat → ClassId) (dI : Nat → Nat → Nat) (cyI cyZ cyB : ClassId) (a5 : Nat) (a6 : Nat) (r5draft : Nat) (r6bytes : Nat) (tW tH : Nat) (adK adV : Nat → Nat) (sz : Nat) (v5place : Int32) (v5slotsTold : Int32) (v5fault : Int32) (f5draft : Nat → Int32) (v6length : Int32) (f6bytes : Nat → Int32)  (Post : (Nat → Int32) × Int32 × Int32 × Int32 → Prop) (h : wp_X5_readClause f5draft v5place v5slotsTold v5fault v6length f6bytes Post) : Met l yX5_readClause wsX5_readClause ({ frames := 6, cells := 0, slots := 0, locals := 130 } : Room) (MPreE (dC, dI) [(cyI, .int), (cyZ, .boolean), (cyB, .byte)] [.ref a5] sz [(a5, .inr (5, [.ref a6, .ref r5draft, .int v5place, .int v5slotsTold, .int v5fault])), (r5draft, .inl (cyI, 13, .inl f5draft)), (a6, .inr (6, [.int v6length, .ref r6bytes])), (r6bytes, .inl (cyB, 200, .inl f6bytes))] tW tH adK adV) (va_Qv Post (fun (u : (Nat → Int32) × Int32 × Int32 × Int32) (t : State) => va_P (dC, dI) vwCl [(a5, .inr (5, [.ref a6, .ref r5draft, .int u.2.1, .int u.2.2.1, .int u.2.2.2])), (r5draft, .inl (cyI, 13, .inl u.1)), (a6, .inr (6, [.int v6length, .ref r6bytes])), (r6bytes, .inl (cyB, 200, .inl f6bytes))] t.heap ∧ va_D (va_A [(a5, .inr (5, [.ref a6, .ref r5draft, .int v5place, .int v5slotsTold, .int v5fault])), (r5draft, .inl (cyI, 13, .inl f5draft)), (a6, .inr (6, [.int v6length, .ref r6bytes])), (r6bytes, .inl (cyB, 200, .inl f6bytes))] sz) [(a5, .inr (5, [.ref a6, .ref r5draft, .int u.2.1, .int u.2.2.1, .int u.2.2.2])), (r5draft, .inl (cyI, 13, .inl u.1)), (a6, .inr (6, [.int v6length, .ref r6bytes])), (r6bytes, .inl (cyB, 200, .inl f6bytes))]) (va_A [(a5, .inr (5, [.ref a6, .ref r5draft, .int v5place, .int v5slotsTold, .int v5fault])), (r5draft, .inl (cyI, 13, .inl f5draft)), (a6, .inr (6, [.int v6length, .ref r6bytes])), (r6bytes, .inl (cyB, 200, .inl f6bytes))] sz)) 0 0 (va_A [(a5, .inr (5, [.ref a6, .ref r5draft, .int v5place, .int v5slotsTold, .int v5fault])), (r5draft, .inl (cyI, 13, .inl f5draft)), (a6, .inr (6, [.int v6length, .ref r6bytes])), (r6bytes, .inl (cyB, 200, .inl f6bytes))] sz) := by
  refine Met.ofW (cc := cX5_readClause) (maxL := 4) (ret := none) (by decide) rfl ?_
  intro p e s m args below meth c s₁ B hml hv
  obtain ⟨rfl, hsz, hP, hK, hD0, hN, hE⟩ := hv
  have hx := B.exec
  have hb := B.bytes
  have hr := B.returns
  have hts := atoms_spec (ws := wsX5_readClause) B.pre
  have hown : s.vm.findClass RX5 = some m.cls := findClass_of_methodNamed B.named
  have hlocks := B.notSynchronized
  subst hsz
  have hD := hD0.self (sz := s.heap.size)
  generalize hAe : va_A [(a5, .inr (5, [.ref a6, .ref r5draft, .int v5place, .int v5slotsTold, .int v5fault])), (r5draft, .inl (cyI, 13, .inl f5draft)), (a6, .inr (6, [.int v6length, .ref r6bytes])), (r6bytes, .inl (cyB, 200, .inl f6bytes))] s.heap.size = A at hD hE ⊢
  have hA : ∀ q : Nat, s.heap.size ≤ q → A q := fun q h => by rw [← hAe]; exact Or.inr h
  have hS : va_S A s.heap s.heap [] := va_S.rf
  have hW := hE.1
  have hiX5 : ∀ w ∈ u_ws RX5 TX5 5, w ∈ wsX5_readClause := by decide +kernel
  have lk9 := hts (.fieldLink RX5 9 "StallBook$Reader" "draft" "[I") (by decide +kernel)
  have lk15 := hts (.fieldLink RX5 15 "StallBook$Reader" "place" "I") (by decide +kernel)
  have lk19 := hts (.fieldLink RX5 19 "StallBook$Reader" "slotsTold" "I") (by decide +kernel)
  have lk22 := hts (.fieldLink RX5 22 "StallBook$Reader" "fault" "I") (by decide +kernel)
  have lk68 : (Cond.fieldLinkNest RX5 68 "StallBook" "HIGHEST" "[I" "StallBook").before ([.ref a5] : List Value).toArray s = true := va_Nw.use rfl (hN.1 (RX5, 68, "StallBook", "HIGHEST", "[I") (by decide +kernel))
  delta wp_X5_readClause at h
  have hl := lv_entry [.ref a5] (n := 4) (Nat.le_of_ble_eq_true rfl)
  rw [lg_entry_eq]
  generalize (lg_sl [.ref a5] ++ List.replicate (4 - (lg_sl [.ref a5]).length) Slot.unset).toArray = ls at hl ⊢
  replace hl : lv_has ls 4 [(0, .ref a5)] := hl
  refine lv_aload_n hx hb dX5_readClause_0 rfl (lv_at hl 0 rfl) ?_
  refine mc_v hP hD hS hA [0, 2, 3] [1] [1, 0, 2, 3] [(r5draft, .inl (cyI, 13, .inl f5draft))] (fun (u2 : Int32) => [(a5, .inr (5, [.ref a6, .ref r5draft, .int u2, .int v5slotsTold, .int v5fault])), (r5draft, .inl (cyI, 13, .inl f5draft)), (a6, .inr (6, [.int v6length, .ref r6bytes])), (r6bytes, .inl (cyB, 200, .inl f6bytes))]) rfl rfl (by decide) (by decide) (by decide) (fun _ => rfl) (fun _ => rfl) (va_runV (As := []) (rest := []) ⟨hx, hb, hml, hown, hts⟩ (c_X5_skipBlanks l dC dI cyI cyZ cyB a5 a6 r5draft r6bytes  s.heap.size v5place v5slotsTold v5fault v6length f6bytes  _ h) (cwV 0 hts gX5_readClause_X5_skipBlanks rfl rfl rfl (by decide +kernel) ⟨Nat.le_of_ble_eq_true rfl, Nat.le_of_ble_eq_true rfl⟩) ⟨MPre_blind, va_recv hK hP (ci := 5) (q0 := 0) rfl rfl, MPre_here [0, 2, 3] hP hD hK hN (by decide) rfl rfl⟩ rfl rfl hl.1 rfl (lv_room (Nat.le_of_ble_eq_true rfl)) dX5_readClause_1 ⟨Nat.zero_le _, Nat.zero_le _⟩) (fun u2 H locs h hP hD hS => ?_)
  replace hP : va_P (dC, dI) vwCl [(a5, .inr (5, [.ref a6, .ref r5draft, .int u2, .int v5slotsTold, .int v5fault])), (r5draft, .inl (cyI, 13, .inl f5draft)), (a6, .inr (6, [.int v6length, .ref r6bytes])), (r6bytes, .inl (cyB, 200, .inl f6bytes))] H := hP
  replace hD : va_D A [(a5, .inr (5, [.ref a6, .ref r5draft, .int u2, .int v5slotsTold, .int v5fault])), (r5draft, .inl (cyI, 13, .inl f5draft)), (a6, .inr (6, [.int v6length, .ref r6bytes])), (r6bytes, .inl (cyB, 200, .inl f6bytes))] := hD
  refine lv_aload_n hx hb dX5_readClause_4 rfl (lv_at hl 0 rfl) ?_
  refine va_get (D := (dC, dI)) (ci := 5) (v := .int u2) (C := RX5) (T := TX5) (N := 5) hx hb hts hiX5 hown hK hP 0 rfl rfl 2 (by decide) lk15 (fun _ h9 => h9) rfl dX5_readClause_5 ?_
  refine lv_istore_n (lv' := [(1, .int u2), (0, .ref a5)]) hx hb dX5_readClause_8 rfl hl (by decide) rfl (fun ls hl => ?_)
  refine lv_aload_n hx hb dX5_readClause_9 rfl (lv_at hl 1 rfl) ?_
  refine mc_i hP hD hS hA [0, 2, 3] [1] [1, 0, 2, 3] [(r5draft, .inl (cyI, 13, .inl f5draft))] (fun (u4 : Int32) => [(a5, .inr (5, [.ref a6, .ref r5draft, .int u4, .int v5slotsTold, .int v5fault])), (r5draft, .inl (cyI, 13, .inl f5draft)), (a6, .inr (6, [.int v6length, .ref r6bytes])), (r6bytes, .inl (cyB, 200, .inl f6bytes))]) rfl rfl (by decide) (by decide) (by decide) (fun _ => rfl) (fun _ => rfl) (va_runV (As := []) (rest := []) ⟨hx, hb, hml, hown, hts⟩ (c_X5_readWord l dC dI cyI cyZ cyB a5 a6 r5draft r6bytes tW tH adK adV  H.size u2 v5slotsTold v5fault v6length f6bytes  _ h) (cwV 0 hts gX5_readClause_X5_readWord rfl rfl rfl (by decide +kernel) ⟨Nat.le_of_ble_eq_true rfl, Nat.le_of_ble_eq_true rfl⟩) ⟨MPreE_blind, va_recv hK hP (ci := 5) (q0 := 0) rfl rfl, MPreE_here [0, 2, 3] hP hD hK hN hE hS hA (by decide) rfl rfl⟩ rfl rfl hl.1 rfl (lv_room (Nat.le_of_ble_eq_true rfl)) dX5_readClause_10 ⟨Nat.zero_le _, Nat.zero_le _⟩) (fun r3 u4 H locs h hP hD hS => ?_)
  replace hP : va_P (dC, dI) vwCl [(a5, .inr (5, [.ref a6, .ref r5draft, .int u4, .int v5slotsTold, .int v5fault])), (r5draft, .inl (cyI, 13, .inl f5draft)), (a6, .inr (6, [.int v6length, .ref r6bytes])), (r6bytes, .inl (cyB, 200, .inl f6bytes))] H := hP
  replace hD : va_D A [(a5, .inr (5, [.ref a6, .ref r5draft, .int u4, .int v5slotsTold, .int v5fault])), (r5draft, .inl (cyI, 13, .inl f5draft)), (a6, .inr (6, [.int v6length, .ref r6bytes])), (r6bytes, .inl (cyB, 200, .inl f6bytes))] := hD
  refine lv_istore_n (lv' := [(2, .int r3), (1, .int u2), (0, .ref a5)]) hx hb dX5_readClause_13 rfl hl (by decide) rfl (fun ls hl => ?_)
  refine lv_iload_n hx hb dX5_readClause_14 rfl (lv_at hl 0 rfl) ?_
  refine lv_istore_n (lv' := [(3, .int r3), (2, .int r3), (1, .int u2), (0, .ref a5)]) hx hb dX5_readClause_15 rfl hl (by decide) rfl (fun ls hl => ?_)
  refine lv_iload_n hx hb dX5_readClause_16 rfl (lv_at hl 1 rfl) ?_
  refine lv_iconst (v := (-1)) hx hb dX5_readClause_17 (by decide) ?_
  refine lv_icmp_ne (tgt := 28) hx hb dX5_readClause_18 (by decide) (fun c => ?_) (fun c => ?_)
  · replace h := h.1 c
    refine lv_iload_n hx hb dX5_readClause_28 rfl (lv_at hl 1 rfl) ?_
    refine lv_bipush (v := 6) hx hb dX5_readClause_29 (by decide) ?_
    refine lv_icmp_ne (tgt := 53) hx hb dX5_readClause_31 (by decide) (fun c => ?_) (fun c => ?_)
    · replace h := h.1 c
      refine lv_aload_n hx hb dX5_readClause_53 rfl (lv_at hl 3 rfl) ?_
      refine va_get (D := (dC, dI)) (ci := 5) (v := .int v5fault) (C := RX5) (T := TX5) (N := 5) hx hb hts hiX5 hown hK hP 0 rfl rfl 4 (by decide) lk22 (fun _ h9 => h9) rfl dX5_readClause_54 ?_
      refine lv_if_ne (tgt := 77) hx hb dX5_readClause_57 (by decide) (fun c => ?_) (fun c => ?_)
      · replace h := h.1 c
        refine lv_aload_n hx hb dX5_readClause_77 rfl (lv_at hl 3 rfl) ?_
        refine va_get (D := (dC, dI)) (ci := 5) (v := .int v5fault) (C := RX5) (T := TX5) (N := 5) hx hb hts hiX5 hown hK hP 0 rfl rfl 4 (by decide) lk22 (fun _ h9 => h9) rfl dX5_readClause_78 ?_
        refine lv_if_ne (tgt := 111) hx hb dX5_readClause_81 (by decide) (fun c => ?_) (fun c => ?_)
        · replace h := h.1 c
          exact W.vret hx hb hr (fun t ht hW => ⟨⟨(f5draft, u4, v5slotsTold, v5fault), rfl, h, by rw [ht]; exact hP, hD⟩, hS.F ht⟩) hS.2.2 dX5_readClause_111
        · replace h := h.2 c
          refine lv_aload_n hx hb dX5_readClause_84 rfl (lv_at hl 3 rfl) ?_
          refine lv_dup hx hb dX5_readClause_85 rfl ?_
          refine va_get (D := (dC, dI)) (ci := 5) (v := .int v5slotsTold) (C := RX5) (T := TX5) (N := 5) hx hb hts hiX5 hown hK hP 0 rfl rfl 3 (by decide) lk19 (fun _ h9 => h9) rfl dX5_readClause_86 ?_
          refine lv_iconst (v := 1) hx hb dX5_readClause_89 (by decide) ?_
          refine lv_iload_n hx hb dX5_readClause_90 rfl (lv_at hl 0 rfl) ?_
          refine lv_ishl hx hb dX5_readClause_91 ?_
          refine lv_ior hx hb dX5_readClause_92 ?_
          refine va_put (D := (dC, dI)) (ci := 5) (v := .int (v5slotsTold ||| (1 <<< (r3 &&& 31)))) (ty := .int) (C := RX5) (T := TX5) (N := 5) hx hb hts hiX5 tyX5 tyX5_ok nmX5 hown hK hP hD hS 0 rfl rfl 3 (by decide) lk19 (fun _ h9 => h9) rfl (by decide +kernel) rfl rfl (Nat.le_of_ble_eq_true rfl) dX5_readClause_93 (fun H locs hP hD hS => ?_)
          replace hP : va_P (dC, dI) vwCl [(a5, .inr (5, [.ref a6, .ref r5draft, .int u4, .int (v5slotsTold ||| (1 <<< (r3 &&& 31))), .int v5fault])), (r5draft, .inl (cyI, 13, .inl f5draft)), (a6, .inr (6, [.int v6length, .ref r6bytes])), (r6bytes, .inl (cyB, 200, .inl f6bytes))] H := hP
          replace hD : va_D A [(a5, .inr (5, [.ref a6, .ref r5draft, .int u4, .int (v5slotsTold ||| (1 <<< (r3 &&& 31))), .int v5fault])), (r5draft, .inl (cyI, 13, .inl f5draft)), (a6, .inr (6, [.int v6length, .ref r6bytes])), (r6bytes, .inl (cyB, 200, .inl f6bytes))] := hD
          refine lv_aload_n hx hb dX5_readClause_96 rfl (lv_at hl 3 rfl) ?_
          refine va_get (D := (dC, dI)) (ci := 5) (v := .ref r5draft) (C := RX5) (T := TX5) (N := 5) hx hb hts hiX5 hown hK hP 0 rfl rfl 1 (by decide) lk9 (fun _ h9 => h9) rfl dX5_readClause_97 ?_
          refine lv_iload_n hx hb dX5_readClause_100 rfl (lv_at hl 0 rfl) ?_
          refine lv_aload_n hx hb dX5_readClause_101 rfl (lv_at hl 3 rfl) ?_
          refine va_getsN (C := "StallBook") (host := "StallBook") hx hb hE.2.1.1 hS hown lk68 (fun _ h9 => h9) dX5_readClause_102 ?_
          refine lv_iload_n hx hb dX5_readClause_105 rfl (lv_at hl 0 rfl) ?_
          refine va_sld hx hb hE.2.1.2.1 hE.2.1.2.2.1 hE.2.1.2.2.2 hS h.1 dX5_readClause_106 ?_
          replace h := h.2
          refine mc_i hP hD hS hA [0, 2, 3] [1] [1, 0, 2, 3] [(r5draft, .inl (cyI, 13, .inl f5draft))] (fun (u6 : Int32 × Int32) => [(a5, .inr (5, [.ref a6, .ref r5draft, .int u6.1, .int (v5slotsTold ||| (1 <<< (r3 &&& 31))), .int u6.2])), (r5draft, .inl (cyI, 13, .inl f5draft)), (a6, .inr (6, [.int v6length, .ref r6bytes])), (r6bytes, .inl (cyB, 200, .inl f6bytes))]) rfl rfl (by decide) (by decide) (by decide) (fun _ => rfl) (fun _ => rfl) (va_runV (As := [.int (fH r3.toNatClampNeg)]) (rest := [.int r3, .ref r5draft]) ⟨hx, hb, hml, hown, hts⟩ (c_X5_readNumber l dC dI cyI cyZ cyB a5 a6 r5draft r6bytes  H.size u4 (v5slotsTold ||| (1 <<< (r3 &&& 31))) v5fault v6length f6bytes (fH r3.toNatClampNeg) _ h) (cwV 1 hts gX5_readClause_X5_readNumber rfl rfl rfl (by decide +kernel) ⟨Nat.le_of_ble_eq_true rfl, Nat.le_of_ble_eq_true rfl⟩) ⟨MPre_blind, va_recv hK hP (ci := 5) (q0 := 0) rfl rfl, MPre_here [0, 2, 3] hP hD hK hN (by decide) rfl rfl⟩ rfl rfl hl.1 rfl (lv_room (Nat.le_of_ble_eq_true rfl)) dX5_readClause_107 ⟨Nat.zero_le _, Nat.zero_le _⟩) (fun r5 u6 H locs h hP hD hS => ?_)
          replace hP : va_P (dC, dI) vwCl [(a5, .inr (5, [.ref a6, .ref r5draft, .int u6.1, .int (v5slotsTold ||| (1 <<< (r3 &&& 31))), .int u6.2])), (r5draft, .inl (cyI, 13, .inl f5draft)), (a6, .inr (6, [.int v6length, .ref r6bytes])), (r6bytes, .inl (cyB, 200, .inl f6bytes))] H := hP
          replace hD : va_D A [(a5, .inr (5, [.ref a6, .ref r5draft, .int u6.1, .int (v5slotsTold ||| (1 <<< (r3 &&& 31))), .int u6.2])), (r5draft, .inl (cyI, 13, .inl f5draft)), (a6, .inr (6, [.int v6length, .ref r6bytes])), (r6bytes, .inl (cyB, 200, .inl f6bytes))] := hD
          refine va_iast hx hb hK hP hD hS 1 0 rfl rfl h.1 dX5_readClause_110 (fun H locs hP hD hS => ?_)
          replace h := h.2
          replace hP : va_P (dC, dI) vwCl [(a5, .inr (5, [.ref a6, .ref r5draft, .int u6.1, .int (v5slotsTold ||| (1 <<< (r3 &&& 31))), .int u6.2])), (r5draft, .inl (cyI, 13, .inl (upd f5draft r3.toNatClampNeg r5))), (a6, .inr (6, [.int v6length, .ref r6bytes])), (r6bytes, .inl (cyB, 200, .inl f6bytes))] H := hP
          replace hD : va_D A [(a5, .inr (5, [.ref a6, .ref r5draft, .int u6.1, .int (v5slotsTold ||| (1 <<< (r3 &&& 31))), .int u6.2])), (r5draft, .inl (cyI, 13, .inl (upd f5draft r3.toNatClampNeg r5))), (a6, .inr (6, [.int v6length, .ref r6bytes])), (r6bytes, .inl (cyB, 200, .inl f6bytes))] := hD
          exact W.vret hx hb hr (fun t ht hW => ⟨⟨((upd f5draft r3.toNatClampNeg r5), u6.1, (v5slotsTold ||| (1 <<< (r3 &&& 31))), u6.2), rfl, h, by rw [ht]; exact hP, hD⟩, hS.F ht⟩) hS.2.2 dX5_readClause_111
      · replace h := h.2 c
        refine lv_aload_n hx hb dX5_readClause_60 rfl (lv_at hl 3 rfl) ?_
        refine va_get (D := (dC, dI)) (ci := 5) (v := .int v5slotsTold) (C := RX5) (T := TX5) (N := 5) hx hb hts hiX5 hown hK hP 0 rfl rfl 3 (by decide) lk19 (fun _ h9 => h9) rfl dX5_readClause_61 ?_
        refine lv_iconst (v := 1) hx hb dX5_readClause_64 (by decide) ?_
        refine lv_iload_n hx hb dX5_readClause_65 rfl (lv_at hl 0 rfl) ?_
        refine lv_ishl hx hb dX5_readClause_66 ?_
        refine lv_iand hx hb dX5_readClause_67 ?_
        refine lv_if_eq (tgt := 77) hx hb dX5_readClause_68 (by decide) (fun c => ?_) (fun c => ?_)
        · replace h := h.1 c
          refine lv_aload_n hx hb dX5_readClause_77 rfl (lv_at hl 3 rfl) ?_
          refine va_get (D := (dC, dI)) (ci := 5) (v := .int v5fault) (C := RX5) (T := TX5) (N := 5) hx hb hts hiX5 hown hK hP 0 rfl rfl 4 (by decide) lk22 (fun _ h9 => h9) rfl dX5_readClause_78 ?_
          refine lv_if_ne (tgt := 111) hx hb dX5_readClause_81 (by decide) (fun c => ?_) (fun c => ?_)
          · replace h := h.1 c
            exact W.vret hx hb hr (fun t ht hW => ⟨⟨(f5draft, u4, v5slotsTold, v5fault), rfl, h, by rw [ht]; exact hP, hD⟩, hS.F ht⟩) hS.2.2 dX5_readClause_111
          · replace h := h.2 c
            refine lv_aload_n hx hb dX5_readClause_84 rfl (lv_at hl 3 rfl) ?_
            refine lv_dup hx hb dX5_readClause_85 rfl ?_
            refine va_get (D := (dC, dI)) (ci := 5) (v := .int v5slotsTold) (C := RX5) (T := TX5) (N := 5) hx hb hts hiX5 hown hK hP 0 rfl rfl 3 (by decide) lk19 (fun _ h9 => h9) rfl dX5_readClause_86 ?_
            refine lv_iconst (v := 1) hx hb dX5_readClause_89 (by decide) ?_
            refine lv_iload_n hx hb dX5_readClause_90 rfl (lv_at hl 0 rfl) ?_
            refine lv_ishl hx hb dX5_readClause_91 ?_
            refine lv_ior hx hb dX5_readClause_92 ?_
            refine va_put (D := (dC, dI)) (ci := 5) (v := .int (v5slotsTold ||| (1 <<< (r3 &&& 31)))) (ty := .int) (C := RX5) (T := TX5) (N := 5) hx hb hts hiX5 tyX5 tyX5_ok nmX5 hown hK hP hD hS 0 rfl rfl 3 (by decide) lk19 (fun _ h9 => h9) rfl (by decide +kernel) rfl rfl (Nat.le_of_ble_eq_true rfl) dX5_readClause_93 (fun H locs hP hD hS => ?_)
            replace hP : va_P (dC, dI) vwCl [(a5, .inr (5, [.ref a6, .ref r5draft, .int u4, .int (v5slotsTold ||| (1 <<< (r3 &&& 31))), .int v5fault])), (r5draft, .inl (cyI, 13, .inl f5draft)), (a6, .inr (6, [.int v6length, .ref r6bytes])), (r6bytes, .inl (cyB, 200, .inl f6bytes))] H := hP
            replace hD : va_D A [(a5, .inr (5, [.ref a6, .ref r5draft, .int u4, .int (v5slotsTold ||| (1 <<< (r3 &&& 31))), .int v5fault])), (r5draft, .inl (cyI, 13, .inl f5draft)), (a6, .inr (6, [.int v6length, .ref r6bytes])), (r6bytes, .inl (cyB, 200, .inl f6bytes))] := hD
            refine lv_aload_n hx hb dX5_readClause_96 rfl (lv_at hl 3 rfl) ?_
            refine va_get (D := (dC, dI)) (ci := 5) (v := .ref r5draft) (C := RX5) (T := TX5) (N := 5) hx hb hts hiX5 hown hK hP 0 rfl rfl 1 (by decide) lk9 (fun _ h9 => h9) rfl dX5_readClause_97 ?_
            refine lv_iload_n hx hb dX5_readClause_100 rfl (lv_at hl 0 rfl) ?_
            refine lv_aload_n hx hb dX5_readClause_101 rfl (lv_at hl 3 rfl) ?_
            refine va_getsN (C := "StallBook") (host := "StallBook") hx hb hE.2.1.1 hS hown lk68 (fun _ h9 => h9) dX5_readClause_102 ?_
            refine lv_iload_n hx hb dX5_readClause_105 rfl (lv_at hl 0 rfl) ?_
            refine va_sld hx hb hE.2.1.2.1 hE.2.1.2.2.1 hE.2.1.2.2.2 hS h.1 dX5_readClause_106 ?_
            replace h := h.2
            refine mc_i hP hD hS hA [0, 2, 3] [1] [1, 0, 2, 3] [(r5draft, .inl (cyI, 13, .inl f5draft))] (fun (u8 : Int32 × Int32) => [(a5, .inr (5, [.ref a6, .ref r5draft, .int u8.1, .int (v5slotsTold ||| (1 <<< (r3 &&& 31))), .int u8.2])), (r5draft, .inl (cyI, 13, .inl f5draft)), (a6, .inr (6, [.int v6length, .ref r6bytes])), (r6bytes, .inl (cyB, 200, .inl f6bytes))]) rfl rfl (by decide) (by decide) (by decide) (fun _ => rfl) (fun _ => rfl) (va_runV (As := [.int (fH r3.toNatClampNeg)]) (rest := [.int r3, .ref r5draft]) ⟨hx, hb, hml, hown, hts⟩ (c_X5_readNumber l dC dI cyI cyZ cyB a5 a6 r5draft r6bytes  H.size u4 (v5slotsTold ||| (1 <<< (r3 &&& 31))) v5fault v6length f6bytes (fH r3.toNatClampNeg) _ h) (cwV 1 hts gX5_readClause_X5_readNumber rfl rfl rfl (by decide +kernel) ⟨Nat.le_of_ble_eq_true rfl, Nat.le_of_ble_eq_true rfl⟩) ⟨MPre_blind, va_recv hK hP (ci := 5) (q0 := 0) rfl rfl, MPre_here [0, 2, 3] hP hD hK hN (by decide) rfl rfl⟩ rfl rfl hl.1 rfl (lv_room (Nat.le_of_ble_eq_true rfl)) dX5_readClause_107 ⟨Nat.zero_le _, Nat.zero_le _⟩) (fun r7 u8 H locs h hP hD hS => ?_)
            replace hP : va_P (dC, dI) vwCl [(a5, .inr (5, [.ref a6, .ref r5draft, .int u8.1, .int (v5slotsTold ||| (1 <<< (r3 &&& 31))), .int u8.2])), (r5draft, .inl (cyI, 13, .inl f5draft)), (a6, .inr (6, [.int v6length, .ref r6bytes])), (r6bytes, .inl (cyB, 200, .inl f6bytes))] H := hP
            replace hD : va_D A [(a5, .inr (5, [.ref a6, .ref r5draft, .int u8.1, .int (v5slotsTold ||| (1 <<< (r3 &&& 31))), .int u8.2])), (r5draft, .inl (cyI, 13, .inl f5draft)), (a6, .inr (6, [.int v6length, .ref r6bytes])), (r6bytes, .inl (cyB, 200, .inl f6bytes))] := hD
            refine va_iast hx hb hK hP hD hS 1 0 rfl rfl h.1 dX5_readClause_110 (fun H locs hP hD hS => ?_)
            replace h := h.2
            replace hP : va_P (dC, dI) vwCl [(a5, .inr (5, [.ref a6, .ref r5draft, .int u8.1, .int (v5slotsTold ||| (1 <<< (r3 &&& 31))), .int u8.2])), (r5draft, .inl (cyI, 13, .inl (upd f5draft r3.toNatClampNeg r7))), (a6, .inr (6, [.int v6length, .ref r6bytes])), (r6bytes, .inl (cyB, 200, .inl f6bytes))] H := hP
            replace hD : va_D A [(a5, .inr (5, [.ref a6, .ref r5draft, .int u8.1, .int (v5slotsTold ||| (1 <<< (r3 &&& 31))), .int u8.2])), (r5draft, .inl (cyI, 13, .inl (upd f5draft r3.toNatClampNeg r7))), (a6, .inr (6, [.int v6length, .ref r6bytes])), (r6bytes, .inl (cyB, 200, .inl f6bytes))] := hD
            exact W.vret hx hb hr (fun t ht hW => ⟨⟨((upd f5draft r3.toNatClampNeg r7), u8.1, (v5slotsTold ||| (1 <<< (r3 &&& 31))), u8.2), rfl, h, by rw [ht]; exact hP, hD⟩, hS.F ht⟩) hS.2.2 dX5_readClause_111
        · replace h := h.2 c
          refine lv_aload_n hx hb dX5_readClause_71 rfl (lv_at hl 3 rfl) ?_
          refine lv_iload_n hx hb dX5_readClause_72 rfl (lv_at hl 2 rfl) ?_
          refine lv_iconst (v := 2) hx hb dX5_readClause_73 (by decide) ?_
          refine mc_v hP hD hS hA [0] [1, 2, 3] [3, 0, 1, 2] [(r5draft, .inl (cyI, 13, .inl f5draft)), (a6, .inr (6, [.int v6length, .ref r6bytes])), (r6bytes, .inl (cyB, 200, .inl f6bytes))] (fun (u10 : Int32) => [(a5, .inr (5, [.ref a6, .ref r5draft, .int u4, .int v5slotsTold, .int u10])), (r5draft, .inl (cyI, 13, .inl f5draft)), (a6, .inr (6, [.int v6length, .ref r6bytes])), (r6bytes, .inl (cyB, 200, .inl f6bytes))]) rfl rfl (by decide) (by decide) (by decide) (fun _ => rfl) (fun _ => rfl) (va_runV (As := [.int u2, .int 2]) (rest := []) ⟨hx, hb, hml, hown, hts⟩ (c_X5_fail l dC dI cyI cyZ cyB a5 a6 r5draft  H.size u4 v5slotsTold v5fault u2 2 _ h) (cwV 2 hts gX5_readClause_X5_fail rfl rfl rfl (by decide +kernel) ⟨Nat.le_of_ble_eq_true rfl, Nat.le_of_ble_eq_true rfl⟩) ⟨MPre_blind, va_recv hK hP (ci := 5) (q0 := 0) rfl rfl, MPre_here [0] hP hD hK hN (by decide) rfl rfl⟩ rfl rfl hl.1 rfl (lv_room (Nat.le_of_ble_eq_true rfl)) dX5_readClause_74 ⟨Nat.zero_le _, Nat.zero_le _⟩) (fun u10 H locs h hP hD hS => ?_)
          replace hP : va_P (dC, dI) vwCl [(a5, .inr (5, [.ref a6, .ref r5draft, .int u4, .int v5slotsTold, .int u10])), (r5draft, .inl (cyI, 13, .inl f5draft)), (a6, .inr (6, [.int v6length, .ref r6bytes])), (r6bytes, .inl (cyB, 200, .inl f6bytes))] H := hP
          replace hD : va_D A [(a5, .inr (5, [.ref a6, .ref r5draft, .int u4, .int v5slotsTold, .int u10])), (r5draft, .inl (cyI, 13, .inl f5draft)), (a6, .inr (6, [.int v6length, .ref r6bytes])), (r6bytes, .inl (cyB, 200, .inl f6bytes))] := hD
          refine lv_aload_n hx hb dX5_readClause_77 rfl (lv_at hl 3 rfl) ?_
          refine va_get (D := (dC, dI)) (ci := 5) (v := .int u10) (C := RX5) (T := TX5) (N := 5) hx hb hts hiX5 hown hK hP 0 rfl rfl 4 (by decide) lk22 (fun _ h9 => h9) rfl dX5_readClause_78 ?_
          refine lv_if_ne (tgt := 111) hx hb dX5_readClause_81 (by decide) (fun c => ?_) (fun c => ?_)
          · replace h := h.1 c
            exact W.vret hx hb hr (fun t ht hW => ⟨⟨(f5draft, u4, v5slotsTold, u10), rfl, h, by rw [ht]; exact hP, hD⟩, hS.F ht⟩) hS.2.2 dX5_readClause_111
          · replace h := h.2 c
            refine lv_aload_n hx hb dX5_readClause_84 rfl (lv_at hl 3 rfl) ?_
            refine lv_dup hx hb dX5_readClause_85 rfl ?_
            refine va_get (D := (dC, dI)) (ci := 5) (v := .int v5slotsTold) (C := RX5) (T := TX5) (N := 5) hx hb hts hiX5 hown hK hP 0 rfl rfl 3 (by decide) lk19 (fun _ h9 => h9) rfl dX5_readClause_86 ?_
            refine lv_iconst (v := 1) hx hb dX5_readClause_89 (by decide) ?_
            refine lv_iload_n hx hb dX5_readClause_90 rfl (lv_at hl 0 rfl) ?_
            refine lv_ishl hx hb dX5_readClause_91 ?_
            refine lv_ior hx hb dX5_readClause_92 ?_
            refine va_put (D := (dC, dI)) (ci := 5) (v := .int (v5slotsTold ||| (1 <<< (r3 &&& 31)))) (ty := .int) (C := RX5) (T := TX5) (N := 5) hx hb hts hiX5 tyX5 tyX5_ok nmX5 hown hK hP hD hS 0 rfl rfl 3 (by decide) lk19 (fun _ h9 => h9) rfl (by decide +kernel) rfl rfl (Nat.le_of_ble_eq_true rfl) dX5_readClause_93 (fun H locs hP hD hS => ?_)
            replace hP : va_P (dC, dI) vwCl [(a5, .inr (5, [.ref a6, .ref r5draft, .int u4, .int (v5slotsTold ||| (1 <<< (r3 &&& 31))), .int u10])), (r5draft, .inl (cyI, 13, .inl f5draft)), (a6, .inr (6, [.int v6length, .ref r6bytes])), (r6bytes, .inl (cyB, 200, .inl f6bytes))] H := hP
            replace hD : va_D A [(a5, .inr (5, [.ref a6, .ref r5draft, .int u4, .int (v5slotsTold ||| (1 <<< (r3 &&& 31))), .int u10])), (r5draft, .inl (cyI, 13, .inl f5draft)), (a6, .inr (6, [.int v6length, .ref r6bytes])), (r6bytes, .inl (cyB, 200, .inl f6bytes))] := hD
            refine lv_aload_n hx hb dX5_readClause_96 rfl (lv_at hl 3 rfl) ?_
            refine va_get (D := (dC, dI)) (ci := 5) (v := .ref r5draft) (C := RX5) (T := TX5) (N := 5) hx hb hts hiX5 hown hK hP 0 rfl rfl 1 (by decide) lk9 (fun _ h9 => h9) rfl dX5_readClause_97 ?_
            refine lv_iload_n hx hb dX5_readClause_100 rfl (lv_at hl 0 rfl) ?_
            refine lv_aload_n hx hb dX5_readClause_101 rfl (lv_at hl 3 rfl) ?_
            refine va_getsN (C := "StallBook") (host := "StallBook") hx hb hE.2.1.1 hS hown lk68 (fun _ h9 => h9) dX5_readClause_102 ?_
            refine lv_iload_n hx hb dX5_readClause_105 rfl (lv_at hl 0 rfl) ?_
            refine va_sld hx hb hE.2.1.2.1 hE.2.1.2.2.1 hE.2.1.2.2.2 hS h.1 dX5_readClause_106 ?_
            replace h := h.2
            refine mc_i hP hD hS hA [0, 2, 3] [1] [1, 0, 2, 3] [(r5draft, .inl (cyI, 13, .inl f5draft))] (fun (u12 : Int32 × Int32) => [(a5, .inr (5, [.ref a6, .ref r5draft, .int u12.1, .int (v5slotsTold ||| (1 <<< (r3 &&& 31))), .int u12.2])), (r5draft, .inl (cyI, 13, .inl f5draft)), (a6, .inr (6, [.int v6length, .ref r6bytes])), (r6bytes, .inl (cyB, 200, .inl f6bytes))]) rfl rfl (by decide) (by decide) (by decide) (fun _ => rfl) (fun _ => rfl) (va_runV (As := [.int (fH r3.toNatClampNeg)]) (rest := [.int r3, .ref r5draft]) ⟨hx, hb, hml, hown, hts⟩ (c_X5_readNumber l dC dI cyI cyZ cyB a5 a6 r5draft r6bytes  H.size u4 (v5slotsTold ||| (1 <<< (r3 &&& 31))) u10 v6length f6bytes (fH r3.toNatClampNeg) _ h) (cwV 1 hts gX5_readClause_X5_readNumber rfl rfl rfl (by decide +kernel) ⟨Nat.le_of_ble_eq_true rfl, Nat.le_of_ble_eq_true rfl⟩) ⟨MPre_blind, va_recv hK hP (ci := 5) (q0 := 0) rfl rfl, MPre_here [0, 2, 3] hP hD hK hN (by decide) rfl rfl⟩ rfl rfl hl.1 rfl (lv_room (Nat.le_of_ble_eq_true rfl)) dX5_readClause_107 ⟨Nat.zero_le _, Nat.zero_le _⟩) (fun r11 u12 H locs h hP hD hS => ?_)
            replace hP : va_P (dC, dI) vwCl [(a5, .inr (5, [.ref a6, .ref r5draft, .int u12.1, .int (v5slotsTold ||| (1 <<< (r3 &&& 31))), .int u12.2])), (r5draft, .inl (cyI, 13, .inl f5draft)), (a6, .inr (6, [.int v6length, .ref r6bytes])), (r6bytes, .inl (cyB, 200, .inl f6bytes))] H := hP
            replace hD : va_D A [(a5, .inr (5, [.ref a6, .ref r5draft, .int u12.1, .int (v5slotsTold ||| (1 <<< (r3 &&& 31))), .int u12.2])), (r5draft, .inl (cyI, 13, .inl f5draft)), (a6, .inr (6, [.int v6length, .ref r6bytes])), (r6bytes, .inl (cyB, 200, .inl f6bytes))] := hD
            refine va_iast hx hb hK hP hD hS 1 0 rfl rfl h.1 dX5_readClause_110 (fun H locs hP hD hS => ?_)
            replace h := h.2
            replace hP : va_P (dC, dI) vwCl [(a5, .inr (5, [.ref a6, .ref r5draft, .int u12.1, .int (v5slotsTold ||| (1 <<< (r3 &&& 31))), .int u12.2])), (r5draft, .inl (cyI, 13, .inl (upd f5draft r3.toNatClampNeg r11))), (a6, .inr (6, [.int v6length, .ref r6bytes])), (r6bytes, .inl (cyB, 200, .inl f6bytes))] H := hP
            replace hD : va_D A [(a5, .inr (5, [.ref a6, .ref r5draft, .int u12.1, .int (v5slotsTold ||| (1 <<< (r3 &&& 31))), .int u12.2])), (r5draft, .inl (cyI, 13, .inl (upd f5draft r3.toNatClampNeg r11))), (a6, .inr (6, [.int v6length, .ref r6bytes])), (r6bytes, .inl (cyB, 200, .inl f6bytes))] := hD
            exact W.vret hx hb hr (fun t ht hW => ⟨⟨((upd f5draft r3.toNatClampNeg r11), u12.1, (v5slotsTold ||| (1 <<< (r3 &&& 31))), u12.2), rfl, h, by rw [ht]; exact hP, hD⟩, hS.F ht⟩) hS.2.2 dX5_readClause_111
    · replace h := h.2 c
      refine lv_aload_n hx hb dX5_readClause_34 rfl (lv_at hl 3 rfl) ?_
      refine mc_v hP hD hS hA [0, 2, 3] [1] [1, 0, 2, 3] [(r5draft, .inl (cyI, 13, .inl f5draft))] (fun (u14 : Int32) => [(a5, .inr (5, [.ref a6, .ref r5draft, .int u14, .int v5slotsTold, .int v5fault])), (r5draft, .inl (cyI, 13, .inl f5draft)), (a6, .inr (6, [.int v6length, .ref r6bytes])), (r6bytes, .inl (cyB, 200, .inl f6bytes))]) rfl rfl (by decide) (by decide) (by decide) (fun _ => rfl) (fun _ => rfl) (va_runV (As := []) (rest := []) ⟨hx, hb, hml, hown, hts⟩ (c_X5_skipBlanks l dC dI cyI cyZ cyB a5 a6 r5draft r6bytes  H.size u4 v5slotsTold v5fault v6length f6bytes  _ h) (cwV 0 hts gX5_readClause_X5_skipBlanks rfl rfl rfl (by decide +kernel) ⟨Nat.le_of_ble_eq_true rfl, Nat.le_of_ble_eq_true rfl⟩) ⟨MPre_blind, va_recv hK hP (ci := 5) (q0 := 0) rfl rfl, MPre_here [0, 2, 3] hP hD hK hN (by decide) rfl rfl⟩ rfl rfl hl.1 rfl (lv_room (Nat.le_of_ble_eq_true rfl)) dX5_readClause_35 ⟨Nat.zero_le _, Nat.zero_le _⟩) (fun u14 H locs h hP hD hS => ?_)
      replace hP : va_P (dC, dI) vwCl [(a5, .inr (5, [.ref a6, .ref r5draft, .int u14, .int v5slotsTold, .int v5fault])), (r5draft, .inl (cyI, 13, .inl f5draft)), (a6, .inr (6, [.int v6length, .ref r6bytes])), (r6bytes, .inl (cyB, 200, .inl f6bytes))] H := hP
      replace hD : va_D A [(a5, .inr (5, [.ref a6, .ref r5draft, .int u14, .int v5slotsTold, .int v5fault])), (r5draft, .inl (cyI, 13, .inl f5draft)), (a6, .inr (6, [.int v6length, .ref r6bytes])), (r6bytes, .inl (cyB, 200, .inl f6bytes))] := hD
      refine lv_aload_n hx hb dX5_readClause_38 rfl (lv_at hl 3 rfl) ?_
      refine va_get (D := (dC, dI)) (ci := 5) (v := .int u14) (C := RX5) (T := TX5) (N := 5) hx hb hts hiX5 hown hK hP 0 rfl rfl 2 (by decide) lk15 (fun _ h9 => h9) rfl dX5_readClause_39 ?_
      refine lv_istore_n (lv' := [(1, .int u14), (3, .int r3), (2, .int r3), (0, .ref a5)]) hx hb dX5_readClause_42 rfl hl (by decide) rfl (fun ls hl => ?_)
      refine lv_bipush (v := 6) hx hb dX5_readClause_43 (by decide) ?_
      refine lv_aload_n hx hb dX5_readClause_45 rfl (lv_at hl 3 rfl) ?_
      refine lv_bipush (v := 6) hx hb dX5_readClause_46 (by decide) ?_
      refine mc_i hP hD hS hA [0, 2, 3] [1] [1, 0, 2, 3] [(r5draft, .inl (cyI, 13, .inl f5draft))] (fun (u16 : Int32 × Int32) => [(a5, .inr (5, [.ref a6, .ref r5draft, .int u16.1, .int v5slotsTold, .int u16.2])), (r5draft, .inl (cyI, 13, .inl f5draft)), (a6, .inr (6, [.int v6length, .ref r6bytes])), (r6bytes, .inl (cyB, 200, .inl f6bytes))]) rfl rfl (by decide) (by decide) (by decide) (fun _ => rfl) (fun _ => rfl) (va_runV (As := [.int 6]) (rest := [.int 6]) ⟨hx, hb, hml, hown, hts⟩ (c_X5_readNumber l dC dI cyI cyZ cyB a5 a6 r5draft r6bytes  H.size u14 v5slotsTold v5fault v6length f6bytes 6 _ h) (cwV 1 hts gX5_readClause_X5_readNumber rfl rfl rfl (by decide +kernel) ⟨Nat.le_of_ble_eq_true rfl, Nat.le_of_ble_eq_true rfl⟩) ⟨MPre_blind, va_recv hK hP (ci := 5) (q0 := 0) rfl rfl, MPre_here [0, 2, 3] hP hD hK hN (by decide) rfl rfl⟩ rfl rfl hl.1 rfl (lv_room (Nat.le_of_ble_eq_true rfl)) dX5_readClause_48 ⟨Nat.zero_le _, Nat.zero_le _⟩) (fun r15 u16 H locs h hP hD hS => ?_)
      replace hP : va_P (dC, dI) vwCl [(a5, .inr (5, [.ref a6, .ref r5draft, .int u16.1, .int v5slotsTold, .int u16.2])), (r5draft, .inl (cyI, 13, .inl f5draft)), (a6, .inr (6, [.int v6length, .ref r6bytes])), (r6bytes, .inl (cyB, 200, .inl f6bytes))] H := hP
      replace hD : va_D A [(a5, .inr (5, [.ref a6, .ref r5draft, .int u16.1, .int v5slotsTold, .int u16.2])), (r5draft, .inl (cyI, 13, .inl f5draft)), (a6, .inr (6, [.int v6length, .ref r6bytes])), (r6bytes, .inl (cyB, 200, .inl f6bytes))] := hD
      refine lv_iadd hx hb dX5_readClause_51 ?_
      refine lv_topi (fun x17 ex17 => ?_)
      replace h := h x17 ex17
      refine lv_istore_n (lv' := [(3, .int x17), (1, .int u14), (2, .int r3), (0, .ref a5)]) hx hb dX5_readClause_52 rfl hl (by decide) rfl (fun ls hl => ?_)
      refine lv_aload_n hx hb dX5_readClause_53 rfl (lv_at hl 3 rfl) ?_
      refine va_get (D := (dC, dI)) (ci := 5) (v := .int u16.2) (C := RX5) (T := TX5) (N := 5) hx hb hts hiX5 hown hK hP 0 rfl rfl 4 (by decide) lk22 (fun _ h9 => h9) rfl dX5_readClause_54 ?_
      refine lv_if_ne (tgt := 77) hx hb dX5_readClause_57 (by decide) (fun c => ?_) (fun c => ?_)
      · replace h := h.1 c
        refine lv_aload_n hx hb dX5_readClause_77 rfl (lv_at hl 3 rfl) ?_
        refine va_get (D := (dC, dI)) (ci := 5) (v := .int u16.2) (C := RX5) (T := TX5) (N := 5) hx hb hts hiX5 hown hK hP 0 rfl rfl 4 (by decide) lk22 (fun _ h9 => h9) rfl dX5_readClause_78 ?_
        refine lv_if_ne (tgt := 111) hx hb dX5_readClause_81 (by decide) (fun c => ?_) (fun c => ?_)
        · replace h := h.1 c
          exact W.vret hx hb hr (fun t ht hW => ⟨⟨(f5draft, u16.1, v5slotsTold, u16.2), rfl, h, by rw [ht]; exact hP, hD⟩, hS.F ht⟩) hS.2.2 dX5_readClause_111
        · replace h := h.2 c
          refine lv_aload_n hx hb dX5_readClause_84 rfl (lv_at hl 3 rfl) ?_
          refine lv_dup hx hb dX5_readClause_85 rfl ?_
          refine va_get (D := (dC, dI)) (ci := 5) (v := .int v5slotsTold) (C := RX5) (T := TX5) (N := 5) hx hb hts hiX5 hown hK hP 0 rfl rfl 3 (by decide) lk19 (fun _ h9 => h9) rfl dX5_readClause_86 ?_
          refine lv_iconst (v := 1) hx hb dX5_readClause_89 (by decide) ?_
          refine lv_iload_n hx hb dX5_readClause_90 rfl (lv_at hl 0 rfl) ?_
          refine lv_ishl hx hb dX5_readClause_91 ?_
          refine lv_ior hx hb dX5_readClause_92 ?_
          refine va_put (D := (dC, dI)) (ci := 5) (v := .int (v5slotsTold ||| (1 <<< (x17 &&& 31)))) (ty := .int) (C := RX5) (T := TX5) (N := 5) hx hb hts hiX5 tyX5 tyX5_ok nmX5 hown hK hP hD hS 0 rfl rfl 3 (by decide) lk19 (fun _ h9 => h9) rfl (by decide +kernel) rfl rfl (Nat.le_of_ble_eq_true rfl) dX5_readClause_93 (fun H locs hP hD hS => ?_)
          replace hP : va_P (dC, dI) vwCl [(a5, .inr (5, [.ref a6, .ref r5draft, .int u16.1, .int (v5slotsTold ||| (1 <<< (x17 &&& 31))), .int u16.2])), (r5draft, .inl (cyI, 13, .inl f5draft)), (a6, .inr (6, [.int v6length, .ref r6bytes])), (r6bytes, .inl (cyB, 200, .inl f6bytes))] H := hP
          replace hD : va_D A [(a5, .inr (5, [.ref a6, .ref r5draft, .int u16.1, .int (v5slotsTold ||| (1 <<< (x17 &&& 31))), .int u16.2])), (r5draft, .inl (cyI, 13, .inl f5draft)), (a6, .inr (6, [.int v6length, .ref r6bytes])), (r6bytes, .inl (cyB, 200, .inl f6bytes))] := hD
          refine lv_aload_n hx hb dX5_readClause_96 rfl (lv_at hl 3 rfl) ?_
          refine va_get (D := (dC, dI)) (ci := 5) (v := .ref r5draft) (C := RX5) (T := TX5) (N := 5) hx hb hts hiX5 hown hK hP 0 rfl rfl 1 (by decide) lk9 (fun _ h9 => h9) rfl dX5_readClause_97 ?_
          refine lv_iload_n hx hb dX5_readClause_100 rfl (lv_at hl 0 rfl) ?_
          refine lv_aload_n hx hb dX5_readClause_101 rfl (lv_at hl 3 rfl) ?_
          refine va_getsN (C := "StallBook") (host := "StallBook") hx hb hE.2.1.1 hS hown lk68 (fun _ h9 => h9) dX5_readClause_102 ?_
          refine lv_iload_n hx hb dX5_readClause_105 rfl (lv_at hl 0 rfl) ?_
          refine va_sld hx hb hE.2.1.2.1 hE.2.1.2.2.1 hE.2.1.2.2.2 hS h.1 dX5_readClause_106 ?_
          replace h := h.2
          refine mc_i hP hD hS hA [0, 2, 3] [1] [1, 0, 2, 3] [(r5draft, .inl (cyI, 13, .inl f5draft))] (fun (u19 : Int32 × Int32) => [(a5, .inr (5, [.ref a6, .ref r5draft, .int u19.1, .int (v5slotsTold ||| (1 <<< (x17 &&& 31))), .int u19.2])), (r5draft, .inl (cyI, 13, .inl f5draft)), (a6, .inr (6, [.int v6length, .ref r6bytes])), (r6bytes, .inl (cyB, 200, .inl f6bytes))]) rfl rfl (by decide) (by decide) (by decide) (fun _ => rfl) (fun _ => rfl) (va_runV (As := [.int (fH x17.toNatClampNeg)]) (rest := [.int x17, .ref r5draft]) ⟨hx, hb, hml, hown, hts⟩ (c_X5_readNumber l dC dI cyI cyZ cyB a5 a6 r5draft r6bytes  H.size u16.1 (v5slotsTold ||| (1 <<< (x17 &&& 31))) u16.2 v6length f6bytes (fH x17.toNatClampNeg) _ h) (cwV 1 hts gX5_readClause_X5_readNumber rfl rfl rfl (by decide +kernel) ⟨Nat.le_of_ble_eq_true rfl, Nat.le_of_ble_eq_true rfl⟩) ⟨MPre_blind, va_recv hK hP (ci := 5) (q0 := 0) rfl rfl, MPre_here [0, 2, 3] hP hD hK hN (by decide) rfl rfl⟩ rfl rfl hl.1 rfl (lv_room (Nat.le_of_ble_eq_true rfl)) dX5_readClause_107 ⟨Nat.zero_le _, Nat.zero_le _⟩) (fun r18 u19 H locs h hP hD hS => ?_)
          replace hP : va_P (dC, dI) vwCl [(a5, .inr (5, [.ref a6, .ref r5draft, .int u19.1, .int (v5slotsTold ||| (1 <<< (x17 &&& 31))), .int u19.2])), (r5draft, .inl (cyI, 13, .inl f5draft)), (a6, .inr (6, [.int v6length, .ref r6bytes])), (r6bytes, .inl (cyB, 200, .inl f6bytes))] H := hP
          replace hD : va_D A [(a5, .inr (5, [.ref a6, .ref r5draft, .int u19.1, .int (v5slotsTold ||| (1 <<< (x17 &&& 31))), .int u19.2])), (r5draft, .inl (cyI, 13, .inl f5draft)), (a6, .inr (6, [.int v6length, .ref r6bytes])), (r6bytes, .inl (cyB, 200, .inl f6bytes))] := hD
          refine va_iast hx hb hK hP hD hS 1 0 rfl rfl h.1 dX5_readClause_110 (fun H locs hP hD hS => ?_)
          replace h := h.2
          replace hP : va_P (dC, dI) vwCl [(a5, .inr (5, [.ref a6, .ref r5draft, .int u19.1, .int (v5slotsTold ||| (1 <<< (x17 &&& 31))), .int u19.2])), (r5draft, .inl (cyI, 13, .inl (upd f5draft x17.toNatClampNeg r18))), (a6, .inr (6, [.int v6length, .ref r6bytes])), (r6bytes, .inl (cyB, 200, .inl f6bytes))] H := hP
          replace hD : va_D A [(a5, .inr (5, [.ref a6, .ref r5draft, .int u19.1, .int (v5slotsTold ||| (1 <<< (x17 &&& 31))), .int u19.2])), (r5draft, .inl (cyI, 13, .inl (upd f5draft x17.toNatClampNeg r18))), (a6, .inr (6, [.int v6length, .ref r6bytes])), (r6bytes, .inl (cyB, 200, .inl f6bytes))] := hD
          exact W.vret hx hb hr (fun t ht hW => ⟨⟨((upd f5draft x17.toNatClampNeg r18), u19.1, (v5slotsTold ||| (1 <<< (x17 &&& 31))), u19.2), rfl, h, by rw [ht]; exact hP, hD⟩, hS.F ht⟩) hS.2.2 dX5_readClause_111
      · replace h := h.2 c
        refine lv_aload_n hx hb dX5_readClause_60 rfl (lv_at hl 3 rfl) ?_
        refine va_get (D := (dC, dI)) (ci := 5) (v := .int v5slotsTold) (C := RX5) (T := TX5) (N := 5) hx hb hts hiX5 hown hK hP 0 rfl rfl 3 (by decide) lk19 (fun _ h9 => h9) rfl dX5_readClause_61 ?_
        refine lv_iconst (v := 1) hx hb dX5_readClause_64 (by decide) ?_
        refine lv_iload_n hx hb dX5_readClause_65 rfl (lv_at hl 0 rfl) ?_
        refine lv_ishl hx hb dX5_readClause_66 ?_
        refine lv_iand hx hb dX5_readClause_67 ?_
        refine lv_if_eq (tgt := 77) hx hb dX5_readClause_68 (by decide) (fun c => ?_) (fun c => ?_)
        · replace h := h.1 c
          refine lv_aload_n hx hb dX5_readClause_77 rfl (lv_at hl 3 rfl) ?_
          refine va_get (D := (dC, dI)) (ci := 5) (v := .int u16.2) (C := RX5) (T := TX5) (N := 5) hx hb hts hiX5 hown hK hP 0 rfl rfl 4 (by decide) lk22 (fun _ h9 => h9) rfl dX5_readClause_78 ?_
          refine lv_if_ne (tgt := 111) hx hb dX5_readClause_81 (by decide) (fun c => ?_) (fun c => ?_)
          · replace h := h.1 c
            exact W.vret hx hb hr (fun t ht hW => ⟨⟨(f5draft, u16.1, v5slotsTold, u16.2), rfl, h, by rw [ht]; exact hP, hD⟩, hS.F ht⟩) hS.2.2 dX5_readClause_111
          · replace h := h.2 c
            refine lv_aload_n hx hb dX5_readClause_84 rfl (lv_at hl 3 rfl) ?_
            refine lv_dup hx hb dX5_readClause_85 rfl ?_
            refine va_get (D := (dC, dI)) (ci := 5) (v := .int v5slotsTold) (C := RX5) (T := TX5) (N := 5) hx hb hts hiX5 hown hK hP 0 rfl rfl 3 (by decide) lk19 (fun _ h9 => h9) rfl dX5_readClause_86 ?_
            refine lv_iconst (v := 1) hx hb dX5_readClause_89 (by decide) ?_
            refine lv_iload_n hx hb dX5_readClause_90 rfl (lv_at hl 0 rfl) ?_
            refine lv_ishl hx hb dX5_readClause_91 ?_
            refine lv_ior hx hb dX5_readClause_92 ?_
            refine va_put (D := (dC, dI)) (ci := 5) (v := .int (v5slotsTold ||| (1 <<< (x17 &&& 31)))) (ty := .int) (C := RX5) (T := TX5) (N := 5) hx hb hts hiX5 tyX5 tyX5_ok nmX5 hown hK hP hD hS 0 rfl rfl 3 (by decide) lk19 (fun _ h9 => h9) rfl (by decide +kernel) rfl rfl (Nat.le_of_ble_eq_true rfl) dX5_readClause_93 (fun H locs hP hD hS => ?_)
            replace hP : va_P (dC, dI) vwCl [(a5, .inr (5, [.ref a6, .ref r5draft, .int u16.1, .int (v5slotsTold ||| (1 <<< (x17 &&& 31))), .int u16.2])), (r5draft, .inl (cyI, 13, .inl f5draft)), (a6, .inr (6, [.int v6length, .ref r6bytes])), (r6bytes, .inl (cyB, 200, .inl f6bytes))] H := hP
            replace hD : va_D A [(a5, .inr (5, [.ref a6, .ref r5draft, .int u16.1, .int (v5slotsTold ||| (1 <<< (x17 &&& 31))), .int u16.2])), (r5draft, .inl (cyI, 13, .inl f5draft)), (a6, .inr (6, [.int v6length, .ref r6bytes])), (r6bytes, .inl (cyB, 200, .inl f6bytes))] := hD
            refine lv_aload_n hx hb dX5_readClause_96 rfl (lv_at hl 3 rfl) ?_
            refine va_get (D := (dC, dI)) (ci := 5) (v := .ref r5draft) (C := RX5) (T := TX5) (N := 5) hx hb hts hiX5 hown hK hP 0 rfl rfl 1 (by decide) lk9 (fun _ h9 => h9) rfl dX5_readClause_97 ?_
            refine lv_iload_n hx hb dX5_readClause_100 rfl (lv_at hl 0 rfl) ?_
            refine lv_aload_n hx hb dX5_readClause_101 rfl (lv_at hl 3 rfl) ?_
            refine va_getsN (C := "StallBook") (host := "StallBook") hx hb hE.2.1.1 hS hown lk68 (fun _ h9 => h9) dX5_readClause_102 ?_
            refine lv_iload_n hx hb dX5_readClause_105 rfl (lv_at hl 0 rfl) ?_
            refine va_sld hx hb hE.2.1.2.1 hE.2.1.2.2.1 hE.2.1.2.2.2 hS h.1 dX5_readClause_106 ?_
            replace h := h.2
            refine mc_i hP hD hS hA [0, 2, 3] [1] [1, 0, 2, 3] [(r5draft, .inl (cyI, 13, .inl f5draft))] (fun (u21 : Int32 × Int32) => [(a5, .inr (5, [.ref a6, .ref r5draft, .int u21.1, .int (v5slotsTold ||| (1 <<< (x17 &&& 31))), .int u21.2])), (r5draft, .inl (cyI, 13, .inl f5draft)), (a6, .inr (6, [.int v6length, .ref r6bytes])), (r6bytes, .inl (cyB, 200, .inl f6bytes))]) rfl rfl (by decide) (by decide) (by decide) (fun _ => rfl) (fun _ => rfl) (va_runV (As := [.int (fH x17.toNatClampNeg)]) (rest := [.int x17, .ref r5draft]) ⟨hx, hb, hml, hown, hts⟩ (c_X5_readNumber l dC dI cyI cyZ cyB a5 a6 r5draft r6bytes  H.size u16.1 (v5slotsTold ||| (1 <<< (x17 &&& 31))) u16.2 v6length f6bytes (fH x17.toNatClampNeg) _ h) (cwV 1 hts gX5_readClause_X5_readNumber rfl rfl rfl (by decide +kernel) ⟨Nat.le_of_ble_eq_true rfl, Nat.le_of_ble_eq_true rfl⟩) ⟨MPre_blind, va_recv hK hP (ci := 5) (q0 := 0) rfl rfl, MPre_here [0, 2, 3] hP hD hK hN (by decide) rfl rfl⟩ rfl rfl hl.1 rfl (lv_room (Nat.le_of_ble_eq_true rfl)) dX5_readClause_107 ⟨Nat.zero_le _, Nat.zero_le _⟩) (fun r20 u21 H locs h hP hD hS => ?_)
            replace hP : va_P (dC, dI) vwCl [(a5, .inr (5, [.ref a6, .ref r5draft, .int u21.1, .int (v5slotsTold ||| (1 <<< (x17 &&& 31))), .int u21.2])), (r5draft, .inl (cyI, 13, .inl f5draft)), (a6, .inr (6, [.int v6length, .ref r6bytes])), (r6bytes, .inl (cyB, 200, .inl f6bytes))] H := hP
            replace hD : va_D A [(a5, .inr (5, [.ref a6, .ref r5draft, .int u21.1, .int (v5slotsTold ||| (1 <<< (x17 &&& 31))), .int u21.2])), (r5draft, .inl (cyI, 13, .inl f5draft)), (a6, .inr (6, [.int v6length, .ref r6bytes])), (r6bytes, .inl (cyB, 200, .inl f6bytes))] := hD
            refine va_iast hx hb hK hP hD hS 1 0 rfl rfl h.1 dX5_readClause_110 (fun H locs hP hD hS => ?_)
            replace h := h.2
            replace hP : va_P (dC, dI) vwCl [(a5, .inr (5, [.ref a6, .ref r5draft, .int u21.1, .int (v5slotsTold ||| (1 <<< (x17 &&& 31))), .int u21.2])), (r5draft, .inl (cyI, 13, .inl (upd f5draft x17.toNatClampNeg r20))), (a6, .inr (6, [.int v6length, .ref r6bytes])), (r6bytes, .inl (cyB, 200, .inl f6bytes))] H := hP
            replace hD : va_D A [(a5, .inr (5, [.ref a6, .ref r5draft, .int u21.1, .int (v5slotsTold ||| (1 <<< (x17 &&& 31))), .int u21.2])), (r5draft, .inl (cyI, 13, .inl (upd f5draft x17.toNatClampNeg r20))), (a6, .inr (6, [.int v6length, .ref r6bytes])), (r6bytes, .inl (cyB, 200, .inl f6bytes))] := hD
            exact W.vret hx hb hr (fun t ht hW => ⟨⟨((upd f5draft x17.toNatClampNeg r20), u21.1, (v5slotsTold ||| (1 <<< (x17 &&& 31))), u21.2), rfl, h, by rw [ht]; exact hP, hD⟩, hS.F ht⟩) hS.2.2 dX5_readClause_111
        · replace h := h.2 c
          refine lv_aload_n hx hb dX5_readClause_71 rfl (lv_at hl 3 rfl) ?_
          refine lv_iload_n hx hb dX5_readClause_72 rfl (lv_at hl 1 rfl) ?_
          refine lv_iconst (v := 2) hx hb dX5_readClause_73 (by decide) ?_
          refine mc_v hP hD hS hA [0] [1, 2, 3] [3, 0, 1, 2] [(r5draft, .inl (cyI, 13, .inl f5draft)), (a6, .inr (6, [.int v6length, .ref r6bytes])), (r6bytes, .inl (cyB, 200, .inl f6bytes))] (fun (u23 : Int32) => [(a5, .inr (5, [.ref a6, .ref r5draft, .int u16.1, .int v5slotsTold, .int u23])), (r5draft, .inl (cyI, 13, .inl f5draft)), (a6, .inr (6, [.int v6length, .ref r6bytes])), (r6bytes, .inl (cyB, 200, .inl f6bytes))]) rfl rfl (by decide) (by decide) (by decide) (fun _ => rfl) (fun _ => rfl) (va_runV (As := [.int u14, .int 2]) (rest := []) ⟨hx, hb, hml, hown, hts⟩ (c_X5_fail l dC dI cyI cyZ cyB a5 a6 r5draft  H.size u16.1 v5slotsTold u16.2 u14 2 _ h) (cwV 2 hts gX5_readClause_X5_fail rfl rfl rfl (by decide +kernel) ⟨Nat.le_of_ble_eq_true rfl, Nat.le_of_ble_eq_true rfl⟩) ⟨MPre_blind, va_recv hK hP (ci := 5) (q0 := 0) rfl rfl, MPre_here [0] hP hD hK hN (by decide) rfl rfl⟩ rfl rfl hl.1 rfl (lv_room (Nat.le_of_ble_eq_true rfl)) dX5_readClause_74 ⟨Nat.zero_le _, Nat.zero_le _⟩) (fun u23 H locs h hP hD hS => ?_)
          replace hP : va_P (dC, dI) vwCl [(a5, .inr (5, [.ref a6, .ref r5draft, .int u16.1, .int v5slotsTold, .int u23])), (r5draft, .inl (cyI, 13, .inl f5draft)), (a6, .inr (6, [.int v6length, .ref r6bytes])), (r6bytes, .inl (cyB, 200, .inl f6bytes))] H := hP
          replace hD : va_D A [(a5, .inr (5, [.ref a6, .ref r5draft, .int u16.1, .int v5slotsTold, .int u23])), (r5draft, .inl (cyI, 13, .inl f5draft)), (a6, .inr (6, [.int v6length, .ref r6bytes])), (r6bytes, .inl (cyB, 200, .inl f6bytes))] := hD
          refine lv_aload_n hx hb dX5_readClause_77 rfl (lv_at hl 3 rfl) ?_
          refine va_get (D := (dC, dI)) (ci := 5) (v := .int u23) (C := RX5) (T := TX5) (N := 5) hx hb hts hiX5 hown hK hP 0 rfl rfl 4 (by decide) lk22 (fun _ h9 => h9) rfl dX5_readClause_78 ?_
          refine lv_if_ne (tgt := 111) hx hb dX5_readClause_81 (by decide) (fun c => ?_) (fun c => ?_)
          · replace h := h.1 c
            exact W.vret hx hb hr (fun t ht hW => ⟨⟨(f5draft, u16.1, v5slotsTold, u23), rfl, h, by rw [ht]; exact hP, hD⟩, hS.F ht⟩) hS.2.2 dX5_readClause_111
          · replace h := h.2 c
            refine lv_aload_n hx hb dX5_readClause_84 rfl (lv_at hl 3 rfl) ?_
            refine lv_dup hx hb dX5_readClause_85 rfl ?_
            refine va_get (D := (dC, dI)) (ci := 5) (v := .int v5slotsTold) (C := RX5) (T := TX5) (N := 5) hx hb hts hiX5 hown hK hP 0 rfl rfl 3 (by decide) lk19 (fun _ h9 => h9) rfl dX5_readClause_86 ?_
            refine lv_iconst (v := 1) hx hb dX5_readClause_89 (by decide) ?_
            refine lv_iload_n hx hb dX5_readClause_90 rfl (lv_at hl 0 rfl) ?_
            refine lv_ishl hx hb dX5_readClause_91 ?_
            refine lv_ior hx hb dX5_readClause_92 ?_
            refine va_put (D := (dC, dI)) (ci := 5) (v := .int (v5slotsTold ||| (1 <<< (x17 &&& 31)))) (ty := .int) (C := RX5) (T := TX5) (N := 5) hx hb hts hiX5 tyX5 tyX5_ok nmX5 hown hK hP hD hS 0 rfl rfl 3 (by decide) lk19 (fun _ h9 => h9) rfl (by decide +kernel) rfl rfl (Nat.le_of_ble_eq_true rfl) dX5_readClause_93 (fun H locs hP hD hS => ?_)
            replace hP : va_P (dC, dI) vwCl [(a5, .inr (5, [.ref a6, .ref r5draft, .int u16.1, .int (v5slotsTold ||| (1 <<< (x17 &&& 31))), .int u23])), (r5draft, .inl (cyI, 13, .inl f5draft)), (a6, .inr (6, [.int v6length, .ref r6bytes])), (r6bytes, .inl (cyB, 200, .inl f6bytes))] H := hP
            replace hD : va_D A [(a5, .inr (5, [.ref a6, .ref r5draft, .int u16.1, .int (v5slotsTold ||| (1 <<< (x17 &&& 31))), .int u23])), (r5draft, .inl (cyI, 13, .inl f5draft)), (a6, .inr (6, [.int v6length, .ref r6bytes])), (r6bytes, .inl (cyB, 200, .inl f6bytes))] := hD
            refine lv_aload_n hx hb dX5_readClause_96 rfl (lv_at hl 3 rfl) ?_
            refine va_get (D := (dC, dI)) (ci := 5) (v := .ref r5draft) (C := RX5) (T := TX5) (N := 5) hx hb hts hiX5 hown hK hP 0 rfl rfl 1 (by decide) lk9 (fun _ h9 => h9) rfl dX5_readClause_97 ?_
            refine lv_iload_n hx hb dX5_readClause_100 rfl (lv_at hl 0 rfl) ?_
            refine lv_aload_n hx hb dX5_readClause_101 rfl (lv_at hl 3 rfl) ?_
            refine va_getsN (C := "StallBook") (host := "StallBook") hx hb hE.2.1.1 hS hown lk68 (fun _ h9 => h9) dX5_readClause_102 ?_
            refine lv_iload_n hx hb dX5_readClause_105 rfl (lv_at hl 0 rfl) ?_
            refine va_sld hx hb hE.2.1.2.1 hE.2.1.2.2.1 hE.2.1.2.2.2 hS h.1 dX5_readClause_106 ?_
            replace h := h.2
            refine mc_i hP hD hS hA [0, 2, 3] [1] [1, 0, 2, 3] [(r5draft, .inl (cyI, 13, .inl f5draft))] (fun (u25 : Int32 × Int32) => [(a5, .inr (5, [.ref a6, .ref r5draft, .int u25.1, .int (v5slotsTold ||| (1 <<< (x17 &&& 31))), .int u25.2])), (r5draft, .inl (cyI, 13, .inl f5draft)), (a6, .inr (6, [.int v6length, .ref r6bytes])), (r6bytes, .inl (cyB, 200, .inl f6bytes))]) rfl rfl (by decide) (by decide) (by decide) (fun _ => rfl) (fun _ => rfl) (va_runV (As := [.int (fH x17.toNatClampNeg)]) (rest := [.int x17, .ref r5draft]) ⟨hx, hb, hml, hown, hts⟩ (c_X5_readNumber l dC dI cyI cyZ cyB a5 a6 r5draft r6bytes  H.size u16.1 (v5slotsTold ||| (1 <<< (x17 &&& 31))) u23 v6length f6bytes (fH x17.toNatClampNeg) _ h) (cwV 1 hts gX5_readClause_X5_readNumber rfl rfl rfl (by decide +kernel) ⟨Nat.le_of_ble_eq_true rfl, Nat.le_of_ble_eq_true rfl⟩) ⟨MPre_blind, va_recv hK hP (ci := 5) (q0 := 0) rfl rfl, MPre_here [0, 2, 3] hP hD hK hN (by decide) rfl rfl⟩ rfl rfl hl.1 rfl (lv_room (Nat.le_of_ble_eq_true rfl)) dX5_readClause_107 ⟨Nat.zero_le _, Nat.zero_le _⟩) (fun r24 u25 H locs h hP hD hS => ?_)
            replace hP : va_P (dC, dI) vwCl [(a5, .inr (5, [.ref a6, .ref r5draft, .int u25.1, .int (v5slotsTold ||| (1 <<< (x17 &&& 31))), .int u25.2])), (r5draft, .inl (cyI, 13, .inl f5draft)), (a6, .inr (6, [.int v6length, .ref r6bytes])), (r6bytes, .inl (cyB, 200, .inl f6bytes))] H := hP
            replace hD : va_D A [(a5, .inr (5, [.ref a6, .ref r5draft, .int u25.1, .int (v5slotsTold ||| (1 <<< (x17 &&& 31))), .int u25.2])), (r5draft, .inl (cyI, 13, .inl f5draft)), (a6, .inr (6, [.int v6length, .ref r6bytes])), (r6bytes, .inl (cyB, 200, .inl f6bytes))] := hD
            refine va_iast hx hb hK hP hD hS 1 0 rfl rfl h.1 dX5_readClause_110 (fun H locs hP hD hS => ?_)
            replace h := h.2
            replace hP : va_P (dC, dI) vwCl [(a5, .inr (5, [.ref a6, .ref r5draft, .int u25.1, .int (v5slotsTold ||| (1 <<< (x17 &&& 31))), .int u25.2])), (r5draft, .inl (cyI, 13, .inl (upd f5draft x17.toNatClampNeg r24))), (a6, .inr (6, [.int v6length, .ref r6bytes])), (r6bytes, .inl (cyB, 200, .inl f6bytes))] H := hP
            replace hD : va_D A [(a5, .inr (5, [.ref a6, .ref r5draft, .int u25.1, .int (v5slotsTold ||| (1 <<< (x17 &&& 31))), .int u25.2])), (r5draft, .inl (cyI, 13, .inl (upd f5draft x17.toNatClampNeg r24))), (a6, .inr (6, [.int v6length, .ref r6bytes])), (r6bytes, .inl (cyB, 200, .inl f6bytes))] := hD
            exact W.vret hx hb hr (fun t ht hW => ⟨⟨((upd f5draft x17.toNatClampNeg r24), u25.1, (v5slotsTold ||| (1 <<< (x17 &&& 31))), u25.2), rfl, h, by rw [ht]; exact hP, hD⟩, hS.F ht⟩) hS.2.2 dX5_readClause_111
  · replace h := h.2 c
    refine lv_aload_n hx hb dX5_readClause_21 rfl (lv_at hl 3 rfl) ?_
    refine lv_iload_n hx hb dX5_readClause_22 rfl (lv_at hl 2 rfl) ?_
    refine lv_iconst (v := 0) hx hb dX5_readClause_23 (by decide) ?_
    refine mc_v hP hD hS hA [0] [1, 2, 3] [3, 0, 1, 2] [(r5draft, .inl (cyI, 13, .inl f5draft)), (a6, .inr (6, [.int v6length, .ref r6bytes])), (r6bytes, .inl (cyB, 200, .inl f6bytes))] (fun (u27 : Int32) => [(a5, .inr (5, [.ref a6, .ref r5draft, .int u4, .int v5slotsTold, .int u27])), (r5draft, .inl (cyI, 13, .inl f5draft)), (a6, .inr (6, [.int v6length, .ref r6bytes])), (r6bytes, .inl (cyB, 200, .inl f6bytes))]) rfl rfl (by decide) (by decide) (by decide) (fun _ => rfl) (fun _ => rfl) (va_runV (As := [.int u2, .int 0]) (rest := []) ⟨hx, hb, hml, hown, hts⟩ (c_X5_fail l dC dI cyI cyZ cyB a5 a6 r5draft  H.size u4 v5slotsTold v5fault u2 0 _ h) (cwV 2 hts gX5_readClause_X5_fail rfl rfl rfl (by decide +kernel) ⟨Nat.le_of_ble_eq_true rfl, Nat.le_of_ble_eq_true rfl⟩) ⟨MPre_blind, va_recv hK hP (ci := 5) (q0 := 0) rfl rfl, MPre_here [0] hP hD hK hN (by decide) rfl rfl⟩ rfl rfl hl.1 rfl (lv_room (Nat.le_of_ble_eq_true rfl)) dX5_readClause_24 ⟨Nat.zero_le _, Nat.zero_le _⟩) (fun u27 H locs h hP hD hS => ?_)
    replace hP : va_P (dC, dI) vwCl [(a5, .inr (5, [.ref a6, .ref r5draft, .int u4, .int v5slotsTold, .int u27])), (r5draft, .inl (cyI, 13, .inl f5draft)), (a6, .inr (6, [.int v6length, .ref r6bytes])), (r6bytes, .inl (cyB, 200, .inl f6bytes))] H := hP
    replace hD : va_D A [(a5, .inr (5, [.ref a6, .ref r5draft, .int u4, .int v5slotsTold, .int u27])), (r5draft, .inl (cyI, 13, .inl f5draft)), (a6, .inr (6, [.int v6length, .ref r6bytes])), (r6bytes, .inl (cyB, 200, .inl f6bytes))] := hD
    exact W.vret hx hb hr (fun t ht hW => ⟨⟨(f5draft, u4, v5slotsTold, u27), rfl, h, by rw [ht]; exact hP, hD⟩, hS.F ht⟩) hS.2.2 dX5_readClause_27
