def lp_X5_skipBlanks_0 (v6length : Int32) (f6bytes : Nat → Int32) (Post : Int32 → Prop) (K : Int32 → Prop) : Nat → Int32 → Prop
  | 0, _ => False
  | n + 1, v5place => (((v6length ≤ v5place) → (K v5place)) ∧ ((¬ v6length ≤ v5place) → (wp_X6_at v5place v6length f6bytes (fun (r1 : Int32) (u2 : Unit) => (((¬ r1 = 32) → (K v5place)) ∧ ((r1 = 32) → (lp_X5_skipBlanks_0 v6length f6bytes Post K n (v5place + 1))))))))
def wp_X5_skipBlanks (v5place : Int32) (v6length : Int32) (f6bytes : Nat → Int32) (Post : Int32 → Prop) : Prop := (∃ n4 : Nat, lp_X5_skipBlanks_0 v6length f6bytes Post (fun (x3 : Int32) => (Post x3)) n4 v5place)
set_option maxHeartbeats 4000000 in
set_option maxRecDepth 100000 in
theorem c_X5_skipBlanks (l : Launch) (dC : Nat → ClassId) (dI : Nat → Nat → Nat) (cyI cyZ cyB : ClassId) (a5 : Nat) (a6 : Nat) (r5draft : Nat) (r6bytes : Nat) (sz : Nat) (v5place : Int32) (v5slotsTold : Int32) (v5fault : Int32) (v6length : Int32) (f6bytes : Nat → Int32)  (Post : Int32 → Prop) (h : wp_X5_skipBlanks v5place v6length f6bytes Post) : Met l yX5_skipBlanks wsX5_skipBlanks ({ frames := 1, cells := 0, slots := 0, locals := 21 } : Room) (MPre (dC, dI) [(cyI, .int), (cyZ, .boolean), (cyB, .byte)] [.ref a5] sz [(a5, .inr (5, [.ref a6, .ref r5draft, .int v5place, .int v5slotsTold, .int v5fault])), (a6, .inr (6, [.int v6length, .ref r6bytes])), (r6bytes, .inl (cyB, 200, .inl f6bytes))]) (va_Qv Post (fun (u : Int32) (t : State) => va_P (dC, dI) vwCl [(a5, .inr (5, [.ref a6, .ref r5draft, .int u, .int v5slotsTold, .int v5fault])), (a6, .inr (6, [.int v6length, .ref r6bytes])), (r6bytes, .inl (cyB, 200, .inl f6bytes))] t.heap ∧ va_D (va_A [(a5, .inr (5, [.ref a6, .ref r5draft, .int v5place, .int v5slotsTold, .int v5fault])), (a6, .inr (6, [.int v6length, .ref r6bytes])), (r6bytes, .inl (cyB, 200, .inl f6bytes))] sz) [(a5, .inr (5, [.ref a6, .ref r5draft, .int u, .int v5slotsTold, .int v5fault])), (a6, .inr (6, [.int v6length, .ref r6bytes])), (r6bytes, .inl (cyB, 200, .inl f6bytes))]) (va_A [(a5, .inr (5, [.ref a6, .ref r5draft, .int v5place, .int v5slotsTold, .int v5fault])), (a6, .inr (6, [.int v6length, .ref r6bytes])), (r6bytes, .inl (cyB, 200, .inl f6bytes))] sz)) 0 0 (va_A [(a5, .inr (5, [.ref a6, .ref r5draft, .int v5place, .int v5slotsTold, .int v5fault])), (a6, .inr (6, [.int v6length, .ref r6bytes])), (r6bytes, .inl (cyB, 200, .inl f6bytes))] sz) := by
  refine Met.ofW (cc := cX5_skipBlanks) (maxL := 1) (ret := none) (by decide) rfl ?_
  intro p e s m args below meth c s₁ B hml hv
  obtain ⟨rfl, hsz, hP, hK, hD0, hN⟩ := hv
  have hx := B.exec
  have hb := B.bytes
  have hr := B.returns
  have hts := atoms_spec (ws := wsX5_skipBlanks) B.pre
  have hown : s.vm.findClass RX5 = some m.cls := findClass_of_methodNamed B.named
  have hlocks := B.notSynchronized
  subst hsz
  have hD := hD0.self (sz := s.heap.size)
  generalize hAe : va_A [(a5, .inr (5, [.ref a6, .ref r5draft, .int v5place, .int v5slotsTold, .int v5fault])), (a6, .inr (6, [.int v6length, .ref r6bytes])), (r6bytes, .inl (cyB, 200, .inl f6bytes))] s.heap.size = A at hD ⊢
  have hA : ∀ q : Nat, s.heap.size ≤ q → A q := fun q h => by rw [← hAe]; exact Or.inr h
  have hS : va_S A s.heap s.heap [] := va_S.rf
  have hiX5 : ∀ w ∈ u_ws RX5 TX5 5, w ∈ wsX5_skipBlanks := by decide +kernel
  have hiX6 : ∀ w ∈ u_ws RX6 TX6 2, w ∈ wsX5_skipBlanks := by decide +kernel
  have lk15 := hts (.fieldLink RX5 15 "StallBook$Reader" "place" "I") (by decide +kernel)
  have lk25 := hts (.fieldLink RX5 25 "StallBook$Reader" "tape" "LStallBook$Tape;") (by decide +kernel)
  have lk54 : (Cond.fieldLinkNest RX5 54 "StallBook$Tape" "length" "I" "StallBook").before ([.ref a5] : List Value).toArray s = true := va_Nw.use rfl (hN.1 (RX5, 54, "StallBook$Tape", "length", "I") (by decide +kernel))
  have L0 : ∀ (v6length : Int32) (f6bytes : Nat → Int32) (K : Int32 → Prop) (n : Nat) (v5place : Int32) (H : Heap) (locs : List Loc) (ls : Array Slot), lp_X5_skipBlanks_0 v6length f6bytes Post K n v5place → va_P (dC, dI) vwCl [(a5, .inr (5, [.ref a6, .ref r5draft, .int v5place, .int v5slotsTold, .int v5fault])), (a6, .inr (6, [.int v6length, .ref r6bytes])), (r6bytes, .inl (cyB, 200, .inl f6bytes))] H → va_D A [(a5, .inr (5, [.ref a6, .ref r5draft, .int v5place, .int v5slotsTold, .int v5fault])), (a6, .inr (6, [.int v6length, .ref r6bytes])), (r6bytes, .inl (cyB, 200, .inl f6bytes))] → va_S A s.heap H locs → lv_has ls 1 [(0, .ref a5)] → (∀ (v5place : Int32) (H : Heap) (locs : List Loc) (ls : Array Slot), K v5place → va_P (dC, dI) vwCl [(a5, .inr (5, [.ref a6, .ref r5draft, .int v5place, .int v5slotsTold, .int v5fault])), (a6, .inr (6, [.int v6length, .ref r6bytes])), (r6bytes, .inl (cyB, 200, .inl f6bytes))] H → va_D A [(a5, .inr (5, [.ref a6, .ref r5draft, .int v5place, .int v5slotsTold, .int v5fault])), (a6, .inr (6, [.int v6length, .ref r6bytes])), (r6bytes, .inl (cyB, 200, .inl f6bytes))] → va_S A s.heap H locs → lv_has ls 1 [(0, .ref a5)] → W p l e (headSpec wsX5_skipBlanks ({ frames := 1, cells := 0, slots := 0, locals := 21 } : Room)).room s m ([.ref a5] : List Value).toArray below meth c H locs 0 0 (MQ below (va_Qv Post (fun (u : Int32) (t : State) => va_P (dC, dI) vwCl [(a5, .inr (5, [.ref a6, .ref r5draft, .int u, .int v5slotsTold, .int v5fault])), (a6, .inr (6, [.int v6length, .ref r6bytes])), (r6bytes, .inl (cyB, 200, .inl f6bytes))] t.heap ∧ va_D A [(a5, .inr (5, [.ref a6, .ref r5draft, .int u, .int v5slotsTold, .int v5fault])), (a6, .inr (6, [.int v6length, .ref r6bytes])), (r6bytes, .inl (cyB, 200, .inl f6bytes))]) A) ([.ref a5] : List Value).toArray s 0 0 A) (F0 m 43 ls [])) → W p l e (headSpec wsX5_skipBlanks ({ frames := 1, cells := 0, slots := 0, locals := 21 } : Room)).room s m ([.ref a5] : List Value).toArray below meth c H locs 0 0 (MQ below (va_Qv Post (fun (u : Int32) (t : State) => va_P (dC, dI) vwCl [(a5, .inr (5, [.ref a6, .ref r5draft, .int u, .int v5slotsTold, .int v5fault])), (a6, .inr (6, [.int v6length, .ref r6bytes])), (r6bytes, .inl (cyB, 200, .inl f6bytes))] t.heap ∧ va_D A [(a5, .inr (5, [.ref a6, .ref r5draft, .int u, .int v5slotsTold, .int v5fault])), (a6, .inr (6, [.int v6length, .ref r6bytes])), (r6bytes, .inl (cyB, 200, .inl f6bytes))]) A) ([.ref a5] : List Value).toArray s 0 0 A) (F0 m 0 ls []) := by
    intro v6length f6bytes K n
    induction n with
    | zero =>
      intro v5place H locs ls h
      exact (h : False).elim
    | succ n ih =>
      intro v5place H locs ls h hP hD hS hl kk
      rw [lp_X5_skipBlanks_0] at h
      refine lv_aload_n hx hb dX5_skipBlanks_0 rfl (lv_at hl 0 rfl) ?_
      refine va_get (D := (dC, dI)) (ci := 5) (v := .int v5place) (C := RX5) (T := TX5) (N := 5) hx hb hts hiX5 hown hK hP 0 rfl rfl 2 (by decide) lk15 (fun _ h9 => h9) rfl dX5_skipBlanks_1 ?_
      refine lv_aload_n hx hb dX5_skipBlanks_4 rfl (lv_at hl 0 rfl) ?_
      refine va_get (D := (dC, dI)) (ci := 5) (v := .ref a6) (C := RX5) (T := TX5) (N := 5) hx hb hts hiX5 hown hK hP 0 rfl rfl 0 (by decide) lk25 (fun _ h9 => h9) rfl dX5_skipBlanks_5 ?_
      refine va_getN (D := (dC, dI)) (ci := 6) (v := .int v6length) (C := RX6) (T := TX6) (N := 2) hx hb hts hiX6 hown hK hP 1 rfl rfl 0 (by decide) lk54 (fun _ h9 => h9) rfl dX5_skipBlanks_8 ?_
      refine lv_icmp_ge (tgt := 43) hx hb dX5_skipBlanks_11 (by decide) (fun c => ?_) (fun c => ?_)
      · replace h := h.1 c
        exact kk v5place H locs ls h hP hD hS (lv_sub hl [0] rfl)
      · replace h := h.2 c
        refine lv_aload_n hx hb dX5_skipBlanks_14 rfl (lv_at hl 0 rfl) ?_
        refine va_get (D := (dC, dI)) (ci := 5) (v := .ref a6) (C := RX5) (T := TX5) (N := 5) hx hb hts hiX5 hown hK hP 0 rfl rfl 0 (by decide) lk25 (fun _ h9 => h9) rfl dX5_skipBlanks_15 ?_
        refine lv_aload_n hx hb dX5_skipBlanks_18 rfl (lv_at hl 0 rfl) ?_
        refine va_get (D := (dC, dI)) (ci := 5) (v := .int v5place) (C := RX5) (T := TX5) (N := 5) hx hb hts hiX5 hown hK hP 0 rfl rfl 2 (by decide) lk15 (fun _ h9 => h9) rfl dX5_skipBlanks_19 ?_
        refine mc_i hP hD hS hA [1, 2] [0] [0, 1, 2] [(a5, .inr (5, [.ref a6, .ref r5draft, .int v5place, .int v5slotsTold, .int v5fault]))] (fun (u2 : Unit) => [(a5, .inr (5, [.ref a6, .ref r5draft, .int v5place, .int v5slotsTold, .int v5fault])), (a6, .inr (6, [.int v6length, .ref r6bytes])), (r6bytes, .inl (cyB, 200, .inl f6bytes))]) rfl rfl (by decide) (by decide) (by decide) (fun _ => rfl) (fun _ => rfl) (va_runVN (C := RX6) (host := "StallBook") (As := [.int v5place]) (rest := []) ⟨hx, hb, hml, hown, hts⟩ (c_X6_at l dC dI cyI cyZ cyB a6 r6bytes H.size v6length f6bytes v5place _ h) ⟨va_cnB 1 hts ggX5_skipBlanks_X6_at rfl rfl rfl (hN.2 (RX5, 41, yX6_at) (by decide +kernel)) (hts (.initialized RX6) (by decide +kernel)) (by decide +kernel) ⟨Nat.le_of_ble_eq_true rfl, Nat.le_of_ble_eq_true rfl⟩, hts (.instanceMethod yX6_at) (by decide +kernel), hts (.selects RX6 yX6_at yX6_at) (by decide +kernel)⟩ ⟨MPre_blind, va_recv hK hP (ci := 6) (q0 := 1) rfl rfl, MPre_here [1, 2] hP hD hK hN (by decide) rfl rfl⟩ rfl rfl hl.1 rfl (lv_room (Nat.le_of_ble_eq_true rfl)) dX5_skipBlanks_22 ⟨Nat.zero_le _, Nat.zero_le _⟩) (fun r1 u2 H locs h hP hD hS => ?_)
        replace hP : va_P (dC, dI) vwCl [(a5, .inr (5, [.ref a6, .ref r5draft, .int v5place, .int v5slotsTold, .int v5fault])), (a6, .inr (6, [.int v6length, .ref r6bytes])), (r6bytes, .inl (cyB, 200, .inl f6bytes))] H := hP
        replace hD : va_D A [(a5, .inr (5, [.ref a6, .ref r5draft, .int v5place, .int v5slotsTold, .int v5fault])), (a6, .inr (6, [.int v6length, .ref r6bytes])), (r6bytes, .inl (cyB, 200, .inl f6bytes))] := hD
        refine lv_bipush (v := 32) hx hb dX5_skipBlanks_25 (by decide) ?_
        refine lv_icmp_ne (tgt := 43) hx hb dX5_skipBlanks_27 (by decide) (fun c => ?_) (fun c => ?_)
        · replace h := h.1 c
          exact kk v5place H locs ls h hP hD hS (lv_sub hl [0] rfl)
        · replace h := h.2 c
          refine lv_aload_n hx hb dX5_skipBlanks_30 rfl (lv_at hl 0 rfl) ?_
          refine lv_dup hx hb dX5_skipBlanks_31 rfl ?_
          refine va_get (D := (dC, dI)) (ci := 5) (v := .int v5place) (C := RX5) (T := TX5) (N := 5) hx hb hts hiX5 hown hK hP 0 rfl rfl 2 (by decide) lk15 (fun _ h9 => h9) rfl dX5_skipBlanks_32 ?_
          refine lv_iconst (v := 1) hx hb dX5_skipBlanks_35 (by decide) ?_
          refine lv_iadd hx hb dX5_skipBlanks_36 ?_
          refine va_put (D := (dC, dI)) (ci := 5) (v := .int (v5place + 1)) (ty := .int) (C := RX5) (T := TX5) (N := 5) hx hb hts hiX5 tyX5 tyX5_ok nmX5 hown hK hP hD hS 0 rfl rfl 2 (by decide) lk15 (fun _ h9 => h9) rfl (by decide +kernel) rfl rfl (Nat.le_of_ble_eq_true rfl) dX5_skipBlanks_37 (fun H locs hP hD hS => ?_)
          replace hP : va_P (dC, dI) vwCl [(a5, .inr (5, [.ref a6, .ref r5draft, .int (v5place + 1), .int v5slotsTold, .int v5fault])), (a6, .inr (6, [.int v6length, .ref r6bytes])), (r6bytes, .inl (cyB, 200, .inl f6bytes))] H := hP
          replace hD : va_D A [(a5, .inr (5, [.ref a6, .ref r5draft, .int (v5place + 1), .int v5slotsTold, .int v5fault])), (a6, .inr (6, [.int v6length, .ref r6bytes])), (r6bytes, .inl (cyB, 200, .inl f6bytes))] := hD
          refine lv_goto (tgt := 0) hx hb dX5_skipBlanks_40 (by decide) ?_
          exact ih (v5place + 1) H locs ls h hP hD hS (lv_sub hl [0] rfl) kk
  delta wp_X5_skipBlanks at h
  have hl := lv_entry [.ref a5] (n := 1) (Nat.le_of_ble_eq_true rfl)
  rw [lg_entry_eq]
  generalize (lg_sl [.ref a5] ++ List.replicate (1 - (lg_sl [.ref a5]).length) Slot.unset).toArray = ls at hl ⊢
  replace hl : lv_has ls 1 [(0, .ref a5)] := hl
  obtain ⟨n4, h⟩ := h
  refine L0 v6length f6bytes _ n4 v5place s.heap [] ls h hP hD hS (lv_sub hl [0] rfl) (fun x3 H locs ls h hP hD hS hl => ?_)
  exact W.vret hx hb hr (fun t ht hW => ⟨⟨x3, rfl, h, by rw [ht]; exact hP, hD⟩, hS.F ht⟩) hS.2.2 dX5_skipBlanks_43
def wp_X5_fail (p1 : Int32) (p2 : Int32) (v5fault : Int32) (Post : Int32 → Prop) : Prop := (Post ((1 + (8 * p1)) + p2))
set_option maxHeartbeats 4000000 in
set_option maxRecDepth 100000 in
theorem c_X5_fail (l : Launch) (dC : Nat → ClassId) (dI : Nat → Nat → Nat) (cyI cyZ cyB : ClassId) (a5 : Nat) (a6 : Nat) (r5draft : Nat) (sz : Nat) (v5place : Int32) (v5slotsTold : Int32) (v5fault : Int32) (p1 : Int32) (p2 : Int32) (Post : Int32 → Prop) (h : wp_X5_fail p1 p2 v5fault Post) : Met l yX5_fail wsX5_fail ({ frames := 0, cells := 0, slots := 0, locals := 0 } : Room) (MPre (dC, dI) [(cyI, .int), (cyZ, .boolean), (cyB, .byte)] [.ref a5, .int p1, .int p2] sz [(a5, .inr (5, [.ref a6, .ref r5draft, .int v5place, .int v5slotsTold, .int v5fault]))]) (va_Qv Post (fun (u : Int32) (t : State) => va_P (dC, dI) vwCl [(a5, .inr (5, [.ref a6, .ref r5draft, .int v5place, .int v5slotsTold, .int u]))] t.heap ∧ va_D (va_A [(a5, .inr (5, [.ref a6, .ref r5draft, .int v5place, .int v5slotsTold, .int v5fault]))] sz) [(a5, .inr (5, [.ref a6, .ref r5draft, .int v5place, .int v5slotsTold, .int u]))]) (va_A [(a5, .inr (5, [.ref a6, .ref r5draft, .int v5place, .int v5slotsTold, .int v5fault]))] sz)) 0 0 (va_A [(a5, .inr (5, [.ref a6, .ref r5draft, .int v5place, .int v5slotsTold, .int v5fault]))] sz) := by
  refine Met.ofW (cc := cX5_fail) (maxL := 3) (ret := none) (by decide) rfl ?_
  intro p e s m args below meth c s₁ B hml hv
  obtain ⟨rfl, hsz, hP, hK, hD0, hN⟩ := hv
  have hx := B.exec
  have hb := B.bytes
  have hr := B.returns
  have hts := atoms_spec (ws := wsX5_fail) B.pre
  have hown : s.vm.findClass RX5 = some m.cls := findClass_of_methodNamed B.named
  have hlocks := B.notSynchronized
  subst hsz
  have hD := hD0.self (sz := s.heap.size)
  generalize hAe : va_A [(a5, .inr (5, [.ref a6, .ref r5draft, .int v5place, .int v5slotsTold, .int v5fault]))] s.heap.size = A at hD ⊢
  have hA : ∀ q : Nat, s.heap.size ≤ q → A q := fun q h => by rw [← hAe]; exact Or.inr h
  have hS : va_S A s.heap s.heap [] := va_S.rf
  have hiX5 : ∀ w ∈ u_ws RX5 TX5 5, w ∈ wsX5_fail := by decide +kernel
  have lk22 := hts (.fieldLink RX5 22 "StallBook$Reader" "fault" "I") (by decide +kernel)
  delta wp_X5_fail at h
  have hl := lv_entry [.ref a5, .int p1, .int p2] (n := 3) (Nat.le_of_ble_eq_true rfl)
  rw [lg_entry_eq]
  generalize (lg_sl [.ref a5, .int p1, .int p2] ++ List.replicate (3 - (lg_sl [.ref a5, .int p1, .int p2]).length) Slot.unset).toArray = ls at hl ⊢
  replace hl : lv_has ls 3 [(0, .ref a5), (1, .int p1), (2, .int p2)] := hl
  refine lv_aload_n hx hb dX5_fail_0 rfl (lv_at hl 0 rfl) ?_
  refine lv_iconst (v := 1) hx hb dX5_fail_1 (by decide) ?_
  refine lv_bipush (v := 8) hx hb dX5_fail_2 (by decide) ?_
  refine lv_iload_n hx hb dX5_fail_4 rfl (lv_at hl 1 rfl) ?_
  refine lv_imul hx hb dX5_fail_5 ?_
  refine lv_iadd hx hb dX5_fail_6 ?_
  refine lv_iload_n hx hb dX5_fail_7 rfl (lv_at hl 2 rfl) ?_
  refine lv_iadd hx hb dX5_fail_8 ?_
  refine va_put (D := (dC, dI)) (ci := 5) (v := .int ((1 + (8 * p1)) + p2)) (ty := .int) (C := RX5) (T := TX5) (N := 5) hx hb hts hiX5 tyX5 tyX5_ok nmX5 hown hK hP hD hS 0 rfl rfl 4 (by decide) lk22 (fun _ h9 => h9) rfl (by decide +kernel) rfl rfl (Nat.le_of_ble_eq_true rfl) dX5_fail_9 (fun H locs hP hD hS => ?_)
  replace hP : va_P (dC, dI) vwCl [(a5, .inr (5, [.ref a6, .ref r5draft, .int v5place, .int v5slotsTold, .int ((1 + (8 * p1)) + p2)]))] H := hP
  replace hD : va_D A [(a5, .inr (5, [.ref a6, .ref r5draft, .int v5place, .int v5slotsTold, .int ((1 + (8 * p1)) + p2)]))] := hD
  exact W.vret hx hb hr (fun t ht hW => ⟨⟨((1 + (8 * p1)) + p2), rfl, h, by rw [ht]; exact hP, hD⟩, hS.F ht⟩) hS.2.2 dX5_fail_12
def wp_X5_readSemicolon (v5place : Int32) (v5fault : Int32) (v6length : Int32) (f6bytes : Nat → Int32) (Post : Int32 → Int32 × Int32 → Prop) : Prop := (wp_X5_skipBlanks v5place v6length f6bytes (fun (u2 : Int32) => (wp_X6_at u2 v6length f6bytes (fun (r3 : Int32) (u4 : Unit) => (((¬ r3 = 59) → (((r3 = (-1)) → (Post 0 (u2, v5fault))) ∧ ((¬ r3 = (-1)) → (wp_X5_fail u2 0 v5fault (fun (u6 : Int32) => (Post 0 (u2, u6))))))) ∧ ((r3 = 59) → (Post 1 ((u2 + 1), v5fault))))))))
set_option maxHeartbeats 4000000 in
set_option maxRecDepth 100000 in
theorem c_X5_readSemicolon (l : Launch) (dC : Nat → ClassId) (dI : Nat → Nat → Nat) (cyI cyZ cyB : ClassId) (a5 : Nat) (a6 : Nat) (r5draft : Nat) (r6bytes : Nat) (sz : Nat) (v5place : Int32) (v5slotsTold : Int32) (v5fault : Int32) (v6length : Int32) (f6bytes : Nat → Int32)  (Post : Int32 → Int32 × Int32 → Prop) (h : wp_X5_readSemicolon v5place v5fault v6length f6bytes Post) : Met l yX5_readSemicolon wsX5_readSemicolon ({ frames := 2, cells := 0, slots := 0, locals := 41 } : Room) (MPre (dC, dI) [(cyI, .int), (cyZ, .boolean), (cyB, .byte)] [.ref a5] sz [(a5, .inr (5, [.ref a6, .ref r5draft, .int v5place, .int v5slotsTold, .int v5fault])), (a6, .inr (6, [.int v6length, .ref r6bytes])), (r6bytes, .inl (cyB, 200, .inl f6bytes))]) (va_Qi Post (fun (u : Int32 × Int32) (t : State) => va_P (dC, dI) vwCl [(a5, .inr (5, [.ref a6, .ref r5draft, .int u.1, .int v5slotsTold, .int u.2])), (a6, .inr (6, [.int v6length, .ref r6bytes])), (r6bytes, .inl (cyB, 200, .inl f6bytes))] t.heap ∧ va_D (va_A [(a5, .inr (5, [.ref a6, .ref r5draft, .int v5place, .int v5slotsTold, .int v5fault])), (a6, .inr (6, [.int v6length, .ref r6bytes])), (r6bytes, .inl (cyB, 200, .inl f6bytes))] sz) [(a5, .inr (5, [.ref a6, .ref r5draft, .int u.1, .int v5slotsTold, .int u.2])), (a6, .inr (6, [.int v6length, .ref r6bytes])), (r6bytes, .inl (cyB, 200, .inl f6bytes))]) (va_A [(a5, .inr (5, [.ref a6, .ref r5draft, .int v5place, .int v5slotsTold, .int v5fault])), (a6, .inr (6, [.int v6length, .ref r6bytes])), (r6bytes, .inl (cyB, 200, .inl f6bytes))] sz)) 0 0 (va_A [(a5, .inr (5, [.ref a6, .ref r5draft, .int v5place, .int v5slotsTold, .int v5fault])), (a6, .inr (6, [.int v6length, .ref r6bytes])), (r6bytes, .inl (cyB, 200, .inl f6bytes))] sz) := by
  refine Met.ofW (cc := cX5_readSemicolon) (maxL := 2) (ret := (some .boolean)) (by decide) rfl ?_
  intro p e s m args below meth c s₁ B hml hv
  obtain ⟨rfl, hsz, hP, hK, hD0, hN⟩ := hv
  have hx := B.exec
  have hb := B.bytes
  have hr := B.returns
  have hts := atoms_spec (ws := wsX5_readSemicolon) B.pre
  have hown : s.vm.findClass RX5 = some m.cls := findClass_of_methodNamed B.named
  have hlocks := B.notSynchronized
  subst hsz
  have hD := hD0.self (sz := s.heap.size)
  generalize hAe : va_A [(a5, .inr (5, [.ref a6, .ref r5draft, .int v5place, .int v5slotsTold, .int v5fault])), (a6, .inr (6, [.int v6length, .ref r6bytes])), (r6bytes, .inl (cyB, 200, .inl f6bytes))] s.heap.size = A at hD ⊢
  have hA : ∀ q : Nat, s.heap.size ≤ q → A q := fun q h => by rw [← hAe]; exact Or.inr h
  have hS : va_S A s.heap s.heap [] := va_S.rf
  have hiX5 : ∀ w ∈ u_ws RX5 TX5 5, w ∈ wsX5_readSemicolon := by decide +kernel
  have lk15 := hts (.fieldLink RX5 15 "StallBook$Reader" "place" "I") (by decide +kernel)
  have lk25 := hts (.fieldLink RX5 25 "StallBook$Reader" "tape" "LStallBook$Tape;") (by decide +kernel)
  delta wp_X5_readSemicolon at h
  have hl := lv_entry [.ref a5] (n := 2) (Nat.le_of_ble_eq_true rfl)
  rw [lg_entry_eq]
  generalize (lg_sl [.ref a5] ++ List.replicate (2 - (lg_sl [.ref a5]).length) Slot.unset).toArray = ls at hl ⊢
  replace hl : lv_has ls 2 [(0, .ref a5)] := hl
  refine lv_aload_n hx hb dX5_readSemicolon_0 rfl (lv_at hl 0 rfl) ?_
  refine mc_v hP hD hS hA [0, 1, 2] [] [0, 1, 2] [] (fun (u2 : Int32) => [(a5, .inr (5, [.ref a6, .ref r5draft, .int u2, .int v5slotsTold, .int v5fault])), (a6, .inr (6, [.int v6length, .ref r6bytes])), (r6bytes, .inl (cyB, 200, .inl f6bytes))]) rfl rfl (by decide) (by decide) (by decide) (fun _ => rfl) (fun _ => rfl) (va_runV (As := []) (rest := []) ⟨hx, hb, hml, hown, hts⟩ (c_X5_skipBlanks l dC dI cyI cyZ cyB a5 a6 r5draft r6bytes s.heap.size v5place v5slotsTold v5fault v6length f6bytes  _ h) (cwV 0 hts gX5_readSemicolon_X5_skipBlanks rfl rfl rfl (by decide +kernel) ⟨Nat.le_of_ble_eq_true rfl, Nat.le_of_ble_eq_true rfl⟩) ⟨MPre_blind, va_recv hK hP (ci := 5) (q0 := 0) rfl rfl, MPre_here [0, 1, 2] hP hD hK hN (by decide) rfl rfl⟩ rfl rfl hl.1 rfl (lv_room (Nat.le_of_ble_eq_true rfl)) dX5_readSemicolon_1 ⟨Nat.zero_le _, Nat.zero_le _⟩) (fun u2 H locs h hP hD hS => ?_)
  replace hP : va_P (dC, dI) vwCl [(a5, .inr (5, [.ref a6, .ref r5draft, .int u2, .int v5slotsTold, .int v5fault])), (a6, .inr (6, [.int v6length, .ref r6bytes])), (r6bytes, .inl (cyB, 200, .inl f6bytes))] H := hP
  replace hD : va_D A [(a5, .inr (5, [.ref a6, .ref r5draft, .int u2, .int v5slotsTold, .int v5fault])), (a6, .inr (6, [.int v6length, .ref r6bytes])), (r6bytes, .inl (cyB, 200, .inl f6bytes))] := hD
  refine lv_aload_n hx hb dX5_readSemicolon_4 rfl (lv_at hl 0 rfl) ?_
  refine va_get (D := (dC, dI)) (ci := 5) (v := .ref a6) (C := RX5) (T := TX5) (N := 5) hx hb hts hiX5 hown hK hP 0 rfl rfl 0 (by decide) lk25 (fun _ h9 => h9) rfl dX5_readSemicolon_5 ?_
  refine lv_aload_n hx hb dX5_readSemicolon_8 rfl (lv_at hl 0 rfl) ?_
  refine va_get (D := (dC, dI)) (ci := 5) (v := .int u2) (C := RX5) (T := TX5) (N := 5) hx hb hts hiX5 hown hK hP 0 rfl rfl 2 (by decide) lk15 (fun _ h9 => h9) rfl dX5_readSemicolon_9 ?_
  refine mc_i hP hD hS hA [1, 2] [0] [0, 1, 2] [(a5, .inr (5, [.ref a6, .ref r5draft, .int u2, .int v5slotsTold, .int v5fault]))] (fun (u4 : Unit) => [(a5, .inr (5, [.ref a6, .ref r5draft, .int u2, .int v5slotsTold, .int v5fault])), (a6, .inr (6, [.int v6length, .ref r6bytes])), (r6bytes, .inl (cyB, 200, .inl f6bytes))]) rfl rfl (by decide) (by decide) (by decide) (fun _ => rfl) (fun _ => rfl) (va_runVN (C := RX6) (host := "StallBook") (As := [.int u2]) (rest := []) ⟨hx, hb, hml, hown, hts⟩ (c_X6_at l dC dI cyI cyZ cyB a6 r6bytes H.size v6length f6bytes u2 _ h) ⟨va_cnB 1 hts ggX5_readSemicolon_X6_at rfl rfl rfl (hN.2 (RX5, 41, yX6_at) (by decide +kernel)) (hts (.initialized RX6) (by decide +kernel)) (by decide +kernel) ⟨Nat.le_of_ble_eq_true rfl, Nat.le_of_ble_eq_true rfl⟩, hts (.instanceMethod yX6_at) (by decide +kernel), hts (.selects RX6 yX6_at yX6_at) (by decide +kernel)⟩ ⟨MPre_blind, va_recv hK hP (ci := 6) (q0 := 1) rfl rfl, MPre_here [1, 2] hP hD hK hN (by decide) rfl rfl⟩ rfl rfl hl.1 rfl (lv_room (Nat.le_of_ble_eq_true rfl)) dX5_readSemicolon_12 ⟨Nat.zero_le _, Nat.zero_le _⟩) (fun r3 u4 H locs h hP hD hS => ?_)
  replace hP : va_P (dC, dI) vwCl [(a5, .inr (5, [.ref a6, .ref r5draft, .int u2, .int v5slotsTold, .int v5fault])), (a6, .inr (6, [.int v6length, .ref r6bytes])), (r6bytes, .inl (cyB, 200, .inl f6bytes))] H := hP
  replace hD : va_D A [(a5, .inr (5, [.ref a6, .ref r5draft, .int u2, .int v5slotsTold, .int v5fault])), (a6, .inr (6, [.int v6length, .ref r6bytes])), (r6bytes, .inl (cyB, 200, .inl f6bytes))] := hD
  refine lv_istore_n (lv' := [(1, .int r3), (0, .ref a5)]) hx hb dX5_readSemicolon_15 rfl hl (by decide) rfl (fun ls hl => ?_)
  refine lv_iload_n hx hb dX5_readSemicolon_16 rfl (lv_at hl 0 rfl) ?_
  refine lv_bipush (v := 59) hx hb dX5_readSemicolon_17 (by decide) ?_
  refine lv_icmp_ne (tgt := 34) hx hb dX5_readSemicolon_19 (by decide) (fun c => ?_) (fun c => ?_)
  · replace h := h.1 c
    refine lv_iload_n hx hb dX5_readSemicolon_34 rfl (lv_at hl 0 rfl) ?_
    refine lv_iconst (v := (-1)) hx hb dX5_readSemicolon_35 (by decide) ?_
    refine lv_icmp_eq (tgt := 48) hx hb dX5_readSemicolon_36 (by decide) (fun c => ?_) (fun c => ?_)
    · replace h := h.1 c
      refine lv_iconst (v := 0) hx hb dX5_readSemicolon_48 (by decide) ?_
      exact W.zret (v := 0) (ty := .boolean) hx hb hr rfl (fun t ht hW => ⟨⟨0, (u2, v5fault), rfl, h, by rw [ht]; exact hP, hD⟩, hS.F ht⟩) hS.2.2 dX5_readSemicolon_49
    · replace h := h.2 c
      refine lv_aload_n hx hb dX5_readSemicolon_39 rfl (lv_at hl 1 rfl) ?_
      refine lv_aload_n hx hb dX5_readSemicolon_40 rfl (lv_at hl 1 rfl) ?_
      refine va_get (D := (dC, dI)) (ci := 5) (v := .int u2) (C := RX5) (T := TX5) (N := 5) hx hb hts hiX5 hown hK hP 0 rfl rfl 2 (by decide) lk15 (fun _ h9 => h9) rfl dX5_readSemicolon_41 ?_
      refine lv_iconst (v := 0) hx hb dX5_readSemicolon_44 (by decide) ?_
      refine mc_v hP hD hS hA [0] [1, 2] [2, 0, 1] [(a6, .inr (6, [.int v6length, .ref r6bytes])), (r6bytes, .inl (cyB, 200, .inl f6bytes))] (fun (u6 : Int32) => [(a5, .inr (5, [.ref a6, .ref r5draft, .int u2, .int v5slotsTold, .int u6])), (a6, .inr (6, [.int v6length, .ref r6bytes])), (r6bytes, .inl (cyB, 200, .inl f6bytes))]) rfl rfl (by decide) (by decide) (by decide) (fun _ => rfl) (fun _ => rfl) (va_runV (As := [.int u2, .int 0]) (rest := []) ⟨hx, hb, hml, hown, hts⟩ (c_X5_fail l dC dI cyI cyZ cyB a5 a6 r5draft H.size u2 v5slotsTold v5fault u2 0 _ h) (cwV 2 hts gX5_readSemicolon_X5_fail rfl rfl rfl (by decide +kernel) ⟨Nat.le_of_ble_eq_true rfl, Nat.le_of_ble_eq_true rfl⟩) ⟨MPre_blind, va_recv hK hP (ci := 5) (q0 := 0) rfl rfl, MPre_here [0] hP hD hK hN (by decide) rfl rfl⟩ rfl rfl hl.1 rfl (lv_room (Nat.le_of_ble_eq_true rfl)) dX5_readSemicolon_45 ⟨Nat.zero_le _, Nat.zero_le _⟩) (fun u6 H locs h hP hD hS => ?_)
      replace hP : va_P (dC, dI) vwCl [(a5, .inr (5, [.ref a6, .ref r5draft, .int u2, .int v5slotsTold, .int u6])), (a6, .inr (6, [.int v6length, .ref r6bytes])), (r6bytes, .inl (cyB, 200, .inl f6bytes))] H := hP
      replace hD : va_D A [(a5, .inr (5, [.ref a6, .ref r5draft, .int u2, .int v5slotsTold, .int u6])), (a6, .inr (6, [.int v6length, .ref r6bytes])), (r6bytes, .inl (cyB, 200, .inl f6bytes))] := hD
      refine lv_iconst (v := 0) hx hb dX5_readSemicolon_48 (by decide) ?_
      exact W.zret (v := 0) (ty := .boolean) hx hb hr rfl (fun t ht hW => ⟨⟨0, (u2, u6), rfl, h, by rw [ht]; exact hP, hD⟩, hS.F ht⟩) hS.2.2 dX5_readSemicolon_49
  · replace h := h.2 c
    refine lv_aload_n hx hb dX5_readSemicolon_22 rfl (lv_at hl 1 rfl) ?_
    refine lv_dup hx hb dX5_readSemicolon_23 rfl ?_
    refine va_get (D := (dC, dI)) (ci := 5) (v := .int u2) (C := RX5) (T := TX5) (N := 5) hx hb hts hiX5 hown hK hP 0 rfl rfl 2 (by decide) lk15 (fun _ h9 => h9) rfl dX5_readSemicolon_24 ?_
    refine lv_iconst (v := 1) hx hb dX5_readSemicolon_27 (by decide) ?_
    refine lv_iadd hx hb dX5_readSemicolon_28 ?_
    refine va_put (D := (dC, dI)) (ci := 5) (v := .int (u2 + 1)) (ty := .int) (C := RX5) (T := TX5) (N := 5) hx hb hts hiX5 tyX5 tyX5_ok nmX5 hown hK hP hD hS 0 rfl rfl 2 (by decide) lk15 (fun _ h9 => h9) rfl (by decide +kernel) rfl rfl (Nat.le_of_ble_eq_true rfl) dX5_readSemicolon_29 (fun H locs hP hD hS => ?_)
    replace hP : va_P (dC, dI) vwCl [(a5, .inr (5, [.ref a6, .ref r5draft, .int (u2 + 1), .int v5slotsTold, .int v5fault])), (a6, .inr (6, [.int v6length, .ref r6bytes])), (r6bytes, .inl (cyB, 200, .inl f6bytes))] H := hP
    replace hD : va_D A [(a5, .inr (5, [.ref a6, .ref r5draft, .int (u2 + 1), .int v5slotsTold, .int v5fault])), (a6, .inr (6, [.int v6length, .ref r6bytes])), (r6bytes, .inl (cyB, 200, .inl f6bytes))] := hD
    refine lv_iconst (v := 1) hx hb dX5_readSemicolon_32 (by decide) ?_
    exact W.zret (v := 1) (ty := .boolean) hx hb hr rfl (fun t ht hW => ⟨⟨1, ((u2 + 1), v5fault), rfl, h, by rw [ht]; exact hP, hD⟩, hS.F ht⟩) hS.2.2 dX5_readSemicolon_33
def wp_X5_isLetter (p0 : Int32) (Post : Int32 → Unit → Prop) : Prop := (((p0 < 97) → (Post 0 ())) ∧ ((¬ p0 < 97) → (((122 < p0) → (Post 0 ())) ∧ ((¬ 122 < p0) → (Post 1 ())))))
set_option maxHeartbeats 4000000 in
set_option maxRecDepth 100000 in
theorem c_X5_isLetter (l : Launch) (dC : Nat → ClassId) (dI : Nat → Nat → Nat) (cyI cyZ cyB : ClassId)  (sz : Nat)  (p0 : Int32) (Post : Int32 → Unit → Prop) (h : wp_X5_isLetter p0 Post) : Met l yX5_isLetter wsX5_isLetter ({ frames := 0, cells := 0, slots := 0, locals := 0 } : Room) (MPre (dC, dI) [(cyI, .int), (cyZ, .boolean), (cyB, .byte)] [.int p0] sz []) (va_Qi Post (fun (u : Unit) (t : State) => va_P (dC, dI) vwCl [] t.heap ∧ va_D (va_A [] sz) []) (va_A [] sz)) 0 0 (va_A [] sz) := by
  refine Met.ofW (cc := cX5_isLetter) (maxL := 1) (ret := (some .boolean)) (by decide) rfl ?_
  intro p e s m args below meth c s₁ B hml hv
  obtain ⟨rfl, hsz, hP, hK, hD0, hN⟩ := hv
  have hx := B.exec
  have hb := B.bytes
  have hr := B.returns
  have hts := atoms_spec (ws := wsX5_isLetter) B.pre
  have hown : s.vm.findClass RX5 = some m.cls := findClass_of_methodNamed B.named
  have hlocks := B.notSynchronized
  subst hsz
  have hD := hD0.self (sz := s.heap.size)
  generalize hAe : va_A [] s.heap.size = A at hD ⊢
  have hA : ∀ q : Nat, s.heap.size ≤ q → A q := fun q h => by rw [← hAe]; exact Or.inr h
  have hS : va_S A s.heap s.heap [] := va_S.rf
  delta wp_X5_isLetter at h
  have hl := lv_entry [.int p0] (n := 1) (Nat.le_of_ble_eq_true rfl)
  rw [lg_entry_eq]
  generalize (lg_sl [.int p0] ++ List.replicate (1 - (lg_sl [.int p0]).length) Slot.unset).toArray = ls at hl ⊢
  replace hl : lv_has ls 1 [(0, .int p0)] := hl
  refine lv_iload_n hx hb dX5_isLetter_0 rfl (lv_at hl 0 rfl) ?_
  refine lv_bipush (v := 97) hx hb dX5_isLetter_1 (by decide) ?_
  refine lv_icmp_lt (tgt := 16) hx hb dX5_isLetter_3 (by decide) (fun c => ?_) (fun c => ?_)
  · replace h := h.1 c
    refine lv_iconst (v := 0) hx hb dX5_isLetter_16 (by decide) ?_
    exact W.zret (v := 0) (ty := .boolean) hx hb hr rfl (fun t ht hW => ⟨⟨0, (), rfl, h, by rw [ht]; exact hP, hD⟩, hS.F ht⟩) hS.2.2 dX5_isLetter_17
  · replace h := h.2 c
    refine lv_iload_n hx hb dX5_isLetter_6 rfl (lv_at hl 0 rfl) ?_
    refine lv_bipush (v := 122) hx hb dX5_isLetter_7 (by decide) ?_
    refine lv_icmp_gt (tgt := 16) hx hb dX5_isLetter_9 (by decide) (fun c => ?_) (fun c => ?_)
    · replace h := h.1 c
      refine lv_iconst (v := 0) hx hb dX5_isLetter_16 (by decide) ?_
      exact W.zret (v := 0) (ty := .boolean) hx hb hr rfl (fun t ht hW => ⟨⟨0, (), rfl, h, by rw [ht]; exact hP, hD⟩, hS.F ht⟩) hS.2.2 dX5_isLetter_17
    · replace h := h.2 c
      refine lv_iconst (v := 1) hx hb dX5_isLetter_12 (by decide) ?_
      refine lv_goto (tgt := 17) hx hb dX5_isLetter_13 (by decide) ?_
      exact W.zret (v := 1) (ty := .boolean) hx hb hr rfl (fun t ht hW => ⟨⟨1, (), rfl, h, by rw [ht]; exact hP, hD⟩, hS.F ht⟩) hS.2.2 dX5_isLetter_17
def wp_X5_isDigit (p0 : Int32) (Post : Int32 → Unit → Prop) : Prop := (((p0 < 48) → (Post 0 ())) ∧ ((¬ p0 < 48) → (((57 < p0) → (Post 0 ())) ∧ ((¬ 57 < p0) → (Post 1 ())))))
set_option maxHeartbeats 4000000 in
set_option maxRecDepth 100000 in
theorem c_X5_isDigit (l : Launch) (dC : Nat → ClassId) (dI : Nat → Nat → Nat) (cyI cyZ cyB : ClassId)  (sz : Nat)  (p0 : Int32) (Post : Int32 → Unit → Prop) (h : wp_X5_isDigit p0 Post) : Met l yX5_isDigit wsX5_isDigit ({ frames := 0, cells := 0, slots := 0, locals := 0 } : Room) (MPre (dC, dI) [(cyI, .int), (cyZ, .boolean), (cyB, .byte)] [.int p0] sz []) (va_Qi Post (fun (u : Unit) (t : State) => va_P (dC, dI) vwCl [] t.heap ∧ va_D (va_A [] sz) []) (va_A [] sz)) 0 0 (va_A [] sz) := by
  refine Met.ofW (cc := cX5_isDigit) (maxL := 1) (ret := (some .boolean)) (by decide) rfl ?_
  intro p e s m args below meth c s₁ B hml hv
  obtain ⟨rfl, hsz, hP, hK, hD0, hN⟩ := hv
  have hx := B.exec
  have hb := B.bytes
  have hr := B.returns
  have hts := atoms_spec (ws := wsX5_isDigit) B.pre
  have hown : s.vm.findClass RX5 = some m.cls := findClass_of_methodNamed B.named
  have hlocks := B.notSynchronized
  subst hsz
  have hD := hD0.self (sz := s.heap.size)
  generalize hAe : va_A [] s.heap.size = A at hD ⊢
  have hA : ∀ q : Nat, s.heap.size ≤ q → A q := fun q h => by rw [← hAe]; exact Or.inr h
  have hS : va_S A s.heap s.heap [] := va_S.rf
  delta wp_X5_isDigit at h
  have hl := lv_entry [.int p0] (n := 1) (Nat.le_of_ble_eq_true rfl)
  rw [lg_entry_eq]
  generalize (lg_sl [.int p0] ++ List.replicate (1 - (lg_sl [.int p0]).length) Slot.unset).toArray = ls at hl ⊢
  replace hl : lv_has ls 1 [(0, .int p0)] := hl
  refine lv_iload_n hx hb dX5_isDigit_0 rfl (lv_at hl 0 rfl) ?_
  refine lv_bipush (v := 48) hx hb dX5_isDigit_1 (by decide) ?_
  refine lv_icmp_lt (tgt := 16) hx hb dX5_isDigit_3 (by decide) (fun c => ?_) (fun c => ?_)
  · replace h := h.1 c
    refine lv_iconst (v := 0) hx hb dX5_isDigit_16 (by decide) ?_
    exact W.zret (v := 0) (ty := .boolean) hx hb hr rfl (fun t ht hW => ⟨⟨0, (), rfl, h, by rw [ht]; exact hP, hD⟩, hS.F ht⟩) hS.2.2 dX5_isDigit_17
  · replace h := h.2 c
    refine lv_iload_n hx hb dX5_isDigit_6 rfl (lv_at hl 0 rfl) ?_
    refine lv_bipush (v := 57) hx hb dX5_isDigit_7 (by decide) ?_
    refine lv_icmp_gt (tgt := 16) hx hb dX5_isDigit_9 (by decide) (fun c => ?_) (fun c => ?_)
    · replace h := h.1 c
      refine lv_iconst (v := 0) hx hb dX5_isDigit_16 (by decide) ?_
      exact W.zret (v := 0) (ty := .boolean) hx hb hr rfl (fun t ht hW => ⟨⟨0, (), rfl, h, by rw [ht]; exact hP, hD⟩, hS.F ht⟩) hS.2.2 dX5_isDigit_17
    · replace h := h.2 c
      refine lv_iconst (v := 1) hx hb dX5_isDigit_12 (by decide) ?_
      refine lv_goto (tgt := 17) hx hb dX5_isDigit_13 (by decide) ?_
      exact W.zret (v := 1) (ty := .boolean) hx hb hr rfl (fun t ht hW => ⟨⟨1, (), rfl, h, by rw [ht]; exact hP, hD⟩, hS.F ht⟩) hS.2.2 dX5_isDigit_17
def lp_X5_readNumber_11 (k1 : Int32) (k2 : Int32) (v5fault : Int32) (v6length : Int32) (f6bytes : Nat → Int32) (Post : Int32 → Int32 × Int32 → Prop) (K : Int32 → Int32 → Prop) : Nat → Int32 → Int32 → Prop
  | 0, _, _ => False
  | n + 1, y3, v5place => (((v6length ≤ v5place) → (K y3 v5place)) ∧ ((¬ v6length ≤ v5place) → (wp_X6_at v5place v6length f6bytes (fun (r1 : Int32) (u2 : Unit) => (wp_X5_isDigit r1 (fun (r3 : Int32) (u4 : Unit) => (((r3 = 0) → (K y3 v5place)) ∧ ((¬ r3 = 0) → (wp_X6_at v5place v6length f6bytes (fun (r5 : Int32) (u6 : Unit) => (∀ x7 : Int32, x7 = (if 1000 < (((y3 * 10) + r5) - 48) then 1000 else (((y3 * 10) + r5) - 48)) → (lp_X5_readNumber_11 k1 k2 v5fault v6length f6bytes Post K n x7 (v5place + 1)))))))))))))
def wp_X5_readNumber (p1 : Int32) (v5place : Int32) (v5fault : Int32) (v6length : Int32) (f6bytes : Nat → Int32) (Post : Int32 → Int32 × Int32 → Prop) : Prop := (wp_X5_skipBlanks v5place v6length f6bytes (fun (u9 : Int32) => (∃ n12 : Nat, lp_X5_readNumber_11 p1 u9 v5fault v6length f6bytes Post (fun (x10 : Int32) (x11 : Int32) => (((¬ x11 = u9) → (((3 < (x11 - u9)) → (wp_X5_fail u9 1 v5fault (fun (u14 : Int32) => (Post 0 (x11, u14))))) ∧ ((¬ 3 < (x11 - u9)) → (((x10 ≤ p1) → (Post x10 (x11, v5fault))) ∧ ((¬ x10 ≤ p1) → (wp_X5_fail u9 1 v5fault (fun (u16 : Int32) => (Post 0 (x11, u16))))))))) ∧ ((x11 = u9) → (wp_X5_fail u9 0 v5fault (fun (u18 : Int32) => (Post 0 (x11, u18))))))) n12 0 u9)))
set_option maxHeartbeats 4000000 in
set_option maxRecDepth 100000 in
theorem c_X5_readNumber (l : Launch) (dC : Nat → ClassId) (dI : Nat → Nat → Nat) (cyI cyZ cyB : ClassId) (a5 : Nat) (a6 : Nat) (r5draft : Nat) (r6bytes : Nat) (sz : Nat) (v5place : Int32) (v5slotsTold : Int32) (v5fault : Int32) (v6length : Int32) (f6bytes : Nat → Int32) (p1 : Int32) (Post : Int32 → Int32 × Int32 → Prop) (h : wp_X5_readNumber p1 v5place v5fault v6length f6bytes Post) : Met l yX5_readNumber wsX5_readNumber ({ frames := 2, cells := 0, slots := 0, locals := 41 } : Room) (MPre (dC, dI) [(cyI, .int), (cyZ, .boolean), (cyB, .byte)] [.ref a5, .int p1] sz [(a5, .inr (5, [.ref a6, .ref r5draft, .int v5place, .int v5slotsTold, .int v5fault])), (a6, .inr (6, [.int v6length, .ref r6bytes])), (r6bytes, .inl (cyB, 200, .inl f6bytes))]) (va_Qi Post (fun (u : Int32 × Int32) (t : State) => va_P (dC, dI) vwCl [(a5, .inr (5, [.ref a6, .ref r5draft, .int u.1, .int v5slotsTold, .int u.2])), (a6, .inr (6, [.int v6length, .ref r6bytes])), (r6bytes, .inl (cyB, 200, .inl f6bytes))] t.heap ∧ va_D (va_A [(a5, .inr (5, [.ref a6, .ref r5draft, .int v5place, .int v5slotsTold, .int v5fault])), (a6, .inr (6, [.int v6length, .ref r6bytes])), (r6bytes, .inl (cyB, 200, .inl f6bytes))] sz) [(a5, .inr (5, [.ref a6, .ref r5draft, .int u.1, .int v5slotsTold, .int u.2])), (a6, .inr (6, [.int v6length, .ref r6bytes])), (r6bytes, .inl (cyB, 200, .inl f6bytes))]) (va_A [(a5, .inr (5, [.ref a6, .ref r5draft, .int v5place, .int v5slotsTold, .int v5fault])), (a6, .inr (6, [.int v6length, .ref r6bytes])), (r6bytes, .inl (cyB, 200, .inl f6bytes))] sz)) 0 0 (va_A [(a5, .inr (5, [.ref a6, .ref r5draft, .int v5place, .int v5slotsTold, .int v5fault])), (a6, .inr (6, [.int v6length, .ref r6bytes])), (r6bytes, .inl (cyB, 200, .inl f6bytes))] sz) := by
  refine Met.ofW (cc := cX5_readNumber) (maxL := 4) (ret := (some .int)) (by decide) rfl ?_
  intro p e s m args below meth c s₁ B hml hv
  obtain ⟨rfl, hsz, hP, hK, hD0, hN⟩ := hv
  have hx := B.exec
  have hb := B.bytes
  have hr := B.returns
  have hts := atoms_spec (ws := wsX5_readNumber) B.pre
  have hown : s.vm.findClass RX5 = some m.cls := findClass_of_methodNamed B.named
  have hlocks := B.notSynchronized
  subst hsz
  have hD := hD0.self (sz := s.heap.size)
  generalize hAe : va_A [(a5, .inr (5, [.ref a6, .ref r5draft, .int v5place, .int v5slotsTold, .int v5fault])), (a6, .inr (6, [.int v6length, .ref r6bytes])), (r6bytes, .inl (cyB, 200, .inl f6bytes))] s.heap.size = A at hD ⊢
  have hA : ∀ q : Nat, s.heap.size ≤ q → A q := fun q h => by rw [← hAe]; exact Or.inr h
  have hS : va_S A s.heap s.heap [] := va_S.rf
  have hiX5 : ∀ w ∈ u_ws RX5 TX5 5, w ∈ wsX5_readNumber := by decide +kernel
  have hiX6 : ∀ w ∈ u_ws RX6 TX6 2, w ∈ wsX5_readNumber := by decide +kernel
  have lk15 := hts (.fieldLink RX5 15 "StallBook$Reader" "place" "I") (by decide +kernel)
  have lk25 := hts (.fieldLink RX5 25 "StallBook$Reader" "tape" "LStallBook$Tape;") (by decide +kernel)
  have lk54 : (Cond.fieldLinkNest RX5 54 "StallBook$Tape" "length" "I" "StallBook").before ([.ref a5, .int p1] : List Value).toArray s = true := va_Nw.use rfl (hN.1 (RX5, 54, "StallBook$Tape", "length", "I") (by decide +kernel))
  have lk94 := hts (.methodLink RX5 94 Lib.Math.min.name) (by decide +kernel)
  have L11 : ∀ (k1 : Int32) (k2 : Int32) (v5fault : Int32) (v6length : Int32) (f6bytes : Nat → Int32) (K : Int32 → Int32 → Prop) (n : Nat) (y3 : Int32) (v5place : Int32) (H : Heap) (locs : List Loc) (ls : Array Slot), lp_X5_readNumber_11 k1 k2 v5fault v6length f6bytes Post K n y3 v5place → va_P (dC, dI) vwCl [(a5, .inr (5, [.ref a6, .ref r5draft, .int v5place, .int v5slotsTold, .int v5fault])), (a6, .inr (6, [.int v6length, .ref r6bytes])), (r6bytes, .inl (cyB, 200, .inl f6bytes))] H → va_D A [(a5, .inr (5, [.ref a6, .ref r5draft, .int v5place, .int v5slotsTold, .int v5fault])), (a6, .inr (6, [.int v6length, .ref r6bytes])), (r6bytes, .inl (cyB, 200, .inl f6bytes))] → va_S A s.heap H locs → lv_has ls 4 [(0, .ref a5), (1, .int k1), (2, .int k2), (3, .int y3)] → (∀ (y3 : Int32) (v5place : Int32) (H : Heap) (locs : List Loc) (ls : Array Slot), K y3 v5place → va_P (dC, dI) vwCl [(a5, .inr (5, [.ref a6, .ref r5draft, .int v5place, .int v5slotsTold, .int v5fault])), (a6, .inr (6, [.int v6length, .ref r6bytes])), (r6bytes, .inl (cyB, 200, .inl f6bytes))] H → va_D A [(a5, .inr (5, [.ref a6, .ref r5draft, .int v5place, .int v5slotsTold, .int v5fault])), (a6, .inr (6, [.int v6length, .ref r6bytes])), (r6bytes, .inl (cyB, 200, .inl f6bytes))] → va_S A s.heap H locs → lv_has ls 4 [(0, .ref a5), (1, .int k1), (2, .int k2), (3, .int y3)] → W p l e (headSpec wsX5_readNumber ({ frames := 2, cells := 0, slots := 0, locals := 41 } : Room)).room s m ([.ref a5, .int p1] : List Value).toArray below meth c H locs 0 0 (MQ below (va_Qi Post (fun (u : Int32 × Int32) (t : State) => va_P (dC, dI) vwCl [(a5, .inr (5, [.ref a6, .ref r5draft, .int u.1, .int v5slotsTold, .int u.2])), (a6, .inr (6, [.int v6length, .ref r6bytes])), (r6bytes, .inl (cyB, 200, .inl f6bytes))] t.heap ∧ va_D A [(a5, .inr (5, [.ref a6, .ref r5draft, .int u.1, .int v5slotsTold, .int u.2])), (a6, .inr (6, [.int v6length, .ref r6bytes])), (r6bytes, .inl (cyB, 200, .inl f6bytes))]) A) ([.ref a5, .int p1] : List Value).toArray s 0 0 A) (F0 m 81 ls [])) → W p l e (headSpec wsX5_readNumber ({ frames := 2, cells := 0, slots := 0, locals := 41 } : Room)).room s m ([.ref a5, .int p1] : List Value).toArray below meth c H locs 0 0 (MQ below (va_Qi Post (fun (u : Int32 × Int32) (t : State) => va_P (dC, dI) vwCl [(a5, .inr (5, [.ref a6, .ref r5draft, .int u.1, .int v5slotsTold, .int u.2])), (a6, .inr (6, [.int v6length, .ref r6bytes])), (r6bytes, .inl (cyB, 200, .inl f6bytes))] t.heap ∧ va_D A [(a5, .inr (5, [.ref a6, .ref r5draft, .int u.1, .int v5slotsTold, .int u.2])), (a6, .inr (6, [.int v6length, .ref r6bytes])), (r6bytes, .inl (cyB, 200, .inl f6bytes))]) A) ([.ref a5, .int p1] : List Value).toArray s 0 0 A) (F0 m 11 ls []) := by
    intro k1 k2 v5fault v6length f6bytes K n
    induction n with
    | zero =>
      intro y3 v5place H locs ls h
      exact (h : False).elim
    | succ n ih =>
      intro y3 v5place H locs ls h hP hD hS hl kk
      rw [lp_X5_readNumber_11] at h
      refine lv_aload_n hx hb dX5_readNumber_11 rfl (lv_at hl 0 rfl) ?_
      refine va_get (D := (dC, dI)) (ci := 5) (v := .int v5place) (C := RX5) (T := TX5) (N := 5) hx hb hts hiX5 hown hK hP 0 rfl rfl 2 (by decide) lk15 (fun _ h9 => h9) rfl dX5_readNumber_12 ?_
      refine lv_aload_n hx hb dX5_readNumber_15 rfl (lv_at hl 0 rfl) ?_
      refine va_get (D := (dC, dI)) (ci := 5) (v := .ref a6) (C := RX5) (T := TX5) (N := 5) hx hb hts hiX5 hown hK hP 0 rfl rfl 0 (by decide) lk25 (fun _ h9 => h9) rfl dX5_readNumber_16 ?_
      refine va_getN (D := (dC, dI)) (ci := 6) (v := .int v6length) (C := RX6) (T := TX6) (N := 2) hx hb hts hiX6 hown hK hP 1 rfl rfl 0 (by decide) lk54 (fun _ h9 => h9) rfl dX5_readNumber_19 ?_
      refine lv_icmp_ge (tgt := 81) hx hb dX5_readNumber_22 (by decide) (fun c => ?_) (fun c => ?_)
      · replace h := h.1 c
        exact kk y3 v5place H locs ls h hP hD hS (lv_sub hl [0, 1, 2, 3] rfl)
      · replace h := h.2 c
        refine lv_aload_n hx hb dX5_readNumber_25 rfl (lv_at hl 0 rfl) ?_
        refine va_get (D := (dC, dI)) (ci := 5) (v := .ref a6) (C := RX5) (T := TX5) (N := 5) hx hb hts hiX5 hown hK hP 0 rfl rfl 0 (by decide) lk25 (fun _ h9 => h9) rfl dX5_readNumber_26 ?_
        refine lv_aload_n hx hb dX5_readNumber_29 rfl (lv_at hl 0 rfl) ?_
        refine va_get (D := (dC, dI)) (ci := 5) (v := .int v5place) (C := RX5) (T := TX5) (N := 5) hx hb hts hiX5 hown hK hP 0 rfl rfl 2 (by decide) lk15 (fun _ h9 => h9) rfl dX5_readNumber_30 ?_
        refine mc_i hP hD hS hA [1, 2] [0] [0, 1, 2] [(a5, .inr (5, [.ref a6, .ref r5draft, .int v5place, .int v5slotsTold, .int v5fault]))] (fun (u2 : Unit) => [(a5, .inr (5, [.ref a6, .ref r5draft, .int v5place, .int v5slotsTold, .int v5fault])), (a6, .inr (6, [.int v6length, .ref r6bytes])), (r6bytes, .inl (cyB, 200, .inl f6bytes))]) rfl rfl (by decide) (by decide) (by decide) (fun _ => rfl) (fun _ => rfl) (va_runVN (C := RX6) (host := "StallBook") (As := [.int v5place]) (rest := []) ⟨hx, hb, hml, hown, hts⟩ (c_X6_at l dC dI cyI cyZ cyB a6 r6bytes H.size v6length f6bytes v5place _ h) ⟨va_cnB 1 hts ggX5_readNumber_X6_at rfl rfl rfl (hN.2 (RX5, 41, yX6_at) (by decide +kernel)) (hts (.initialized RX6) (by decide +kernel)) (by decide +kernel) ⟨Nat.le_of_ble_eq_true rfl, Nat.le_of_ble_eq_true rfl⟩, hts (.instanceMethod yX6_at) (by decide +kernel), hts (.selects RX6 yX6_at yX6_at) (by decide +kernel)⟩ ⟨MPre_blind, va_recv hK hP (ci := 6) (q0 := 1) rfl rfl, MPre_here [1, 2] hP hD hK hN (by decide) rfl rfl⟩ rfl rfl hl.1 rfl (lv_room (Nat.le_of_ble_eq_true rfl)) dX5_readNumber_33 ⟨Nat.zero_le _, Nat.zero_le _⟩) (fun r1 u2 H locs h hP hD hS => ?_)
        replace hP : va_P (dC, dI) vwCl [(a5, .inr (5, [.ref a6, .ref r5draft, .int v5place, .int v5slotsTold, .int v5fault])), (a6, .inr (6, [.int v6length, .ref r6bytes])), (r6bytes, .inl (cyB, 200, .inl f6bytes))] H := hP
        replace hD : va_D A [(a5, .inr (5, [.ref a6, .ref r5draft, .int v5place, .int v5slotsTold, .int v5fault])), (a6, .inr (6, [.int v6length, .ref r6bytes])), (r6bytes, .inl (cyB, 200, .inl f6bytes))] := hD
        refine mc_i hP hD hS hA [] [0, 1, 2] [0, 1, 2] [(a5, .inr (5, [.ref a6, .ref r5draft, .int v5place, .int v5slotsTold, .int v5fault])), (a6, .inr (6, [.int v6length, .ref r6bytes])), (r6bytes, .inl (cyB, 200, .inl f6bytes))] (fun (u4 : Unit) => [(a5, .inr (5, [.ref a6, .ref r5draft, .int v5place, .int v5slotsTold, .int v5fault])), (a6, .inr (6, [.int v6length, .ref r6bytes])), (r6bytes, .inl (cyB, 200, .inl f6bytes))]) rfl rfl (by decide) (by decide) (by decide) (fun _ => rfl) (fun _ => rfl) (va_runS (As := [.int r1]) (rest := []) ⟨hx, hb, hml, hown, hts⟩ (c_X5_isDigit l dC dI cyI cyZ cyB  H.size  r1 _ h) (cwS 1 hts gX5_readNumber_X5_isDigit rfl rfl rfl (by decide +kernel) ⟨Nat.le_of_ble_eq_true rfl, Nat.le_of_ble_eq_true rfl⟩) ⟨MPre_blind, MPre_here [] hP hD hK hN (by decide) rfl rfl⟩ rfl rfl hl.1 rfl (lv_room (Nat.le_of_ble_eq_true rfl)) dX5_readNumber_36 ⟨Nat.zero_le _, Nat.zero_le _⟩) (fun r3 u4 H locs h hP hD hS => ?_)
        replace hP : va_P (dC, dI) vwCl [(a5, .inr (5, [.ref a6, .ref r5draft, .int v5place, .int v5slotsTold, .int v5fault])), (a6, .inr (6, [.int v6length, .ref r6bytes])), (r6bytes, .inl (cyB, 200, .inl f6bytes))] H := hP
        replace hD : va_D A [(a5, .inr (5, [.ref a6, .ref r5draft, .int v5place, .int v5slotsTold, .int v5fault])), (a6, .inr (6, [.int v6length, .ref r6bytes])), (r6bytes, .inl (cyB, 200, .inl f6bytes))] := hD
        refine lv_if_eq (tgt := 81) hx hb dX5_readNumber_39 (by decide) (fun c => ?_) (fun c => ?_)
        · replace h := h.1 c
          exact kk y3 v5place H locs ls h hP hD hS (lv_sub hl [0, 1, 2, 3] rfl)
        · replace h := h.2 c
          refine lv_iload_n hx hb dX5_readNumber_42 rfl (lv_at hl 3 rfl) ?_
          refine lv_bipush (v := 10) hx hb dX5_readNumber_43 (by decide) ?_
          refine lv_imul hx hb dX5_readNumber_45 ?_
          refine lv_aload_n hx hb dX5_readNumber_46 rfl (lv_at hl 0 rfl) ?_
          refine va_get (D := (dC, dI)) (ci := 5) (v := .ref a6) (C := RX5) (T := TX5) (N := 5) hx hb hts hiX5 hown hK hP 0 rfl rfl 0 (by decide) lk25 (fun _ h9 => h9) rfl dX5_readNumber_47 ?_
          refine lv_aload_n hx hb dX5_readNumber_50 rfl (lv_at hl 0 rfl) ?_
          refine va_get (D := (dC, dI)) (ci := 5) (v := .int v5place) (C := RX5) (T := TX5) (N := 5) hx hb hts hiX5 hown hK hP 0 rfl rfl 2 (by decide) lk15 (fun _ h9 => h9) rfl dX5_readNumber_51 ?_
          refine mc_i hP hD hS hA [1, 2] [0] [0, 1, 2] [(a5, .inr (5, [.ref a6, .ref r5draft, .int v5place, .int v5slotsTold, .int v5fault]))] (fun (u6 : Unit) => [(a5, .inr (5, [.ref a6, .ref r5draft, .int v5place, .int v5slotsTold, .int v5fault])), (a6, .inr (6, [.int v6length, .ref r6bytes])), (r6bytes, .inl (cyB, 200, .inl f6bytes))]) rfl rfl (by decide) (by decide) (by decide) (fun _ => rfl) (fun _ => rfl) (va_runVN (C := RX6) (host := "StallBook") (As := [.int v5place]) (rest := [.int (y3 * 10)]) ⟨hx, hb, hml, hown, hts⟩ (c_X6_at l dC dI cyI cyZ cyB a6 r6bytes H.size v6length f6bytes v5place _ h) ⟨va_cnB 1 hts ggX5_readNumber_X6_at rfl rfl rfl (hN.2 (RX5, 41, yX6_at) (by decide +kernel)) (hts (.initialized RX6) (by decide +kernel)) (by decide +kernel) ⟨Nat.le_of_ble_eq_true rfl, Nat.le_of_ble_eq_true rfl⟩, hts (.instanceMethod yX6_at) (by decide +kernel), hts (.selects RX6 yX6_at yX6_at) (by decide +kernel)⟩ ⟨MPre_blind, va_recv hK hP (ci := 6) (q0 := 1) rfl rfl, MPre_here [1, 2] hP hD hK hN (by decide) rfl rfl⟩ rfl rfl hl.1 rfl (lv_room (Nat.le_of_ble_eq_true rfl)) dX5_readNumber_54 ⟨Nat.zero_le _, Nat.zero_le _⟩) (fun r5 u6 H locs h hP hD hS => ?_)
          replace hP : va_P (dC, dI) vwCl [(a5, .inr (5, [.ref a6, .ref r5draft, .int v5place, .int v5slotsTold, .int v5fault])), (a6, .inr (6, [.int v6length, .ref r6bytes])), (r6bytes, .inl (cyB, 200, .inl f6bytes))] H := hP
          replace hD : va_D A [(a5, .inr (5, [.ref a6, .ref r5draft, .int v5place, .int v5slotsTold, .int v5fault])), (a6, .inr (6, [.int v6length, .ref r6bytes])), (r6bytes, .inl (cyB, 200, .inl f6bytes))] := hD
          refine lv_iadd hx hb dX5_readNumber_57 ?_
          refine lv_bipush (v := 48) hx hb dX5_readNumber_58 (by decide) ?_
          refine lv_isub hx hb dX5_readNumber_60 ?_
          refine lv_sipush (v := 1000) hx hb dX5_readNumber_61 (by decide) ?_
          refine va_mmin hx hb (hml.trans hl.1.symm) hown lk94 (hts (.static Lib.Math.min.name) (by decide +kernel)) (hts (.initialized "java/lang/Math") (by decide +kernel)) (hts (.code Lib.Math.min.name Lib.Math.min.code 2 (some .int)) (by decide +kernel)) (Nat.le_of_ble_eq_true rfl) (Nat.le_of_ble_eq_true rfl) (Nat.zero_le _) (Nat.zero_le _) dX5_readNumber_64 ?_
          refine lv_topi (fun x7 ex7 => ?_)
          replace h := h x7 ex7
          refine lv_istore_n (lv' := [(3, .int x7), (0, .ref a5), (1, .int k1), (2, .int k2)]) hx hb dX5_readNumber_67 rfl hl (by decide) rfl (fun ls hl => ?_)
          refine lv_aload_n hx hb dX5_readNumber_68 rfl (lv_at hl 1 rfl) ?_
          refine lv_dup hx hb dX5_readNumber_69 rfl ?_
          refine va_get (D := (dC, dI)) (ci := 5) (v := .int v5place) (C := RX5) (T := TX5) (N := 5) hx hb hts hiX5 hown hK hP 0 rfl rfl 2 (by decide) lk15 (fun _ h9 => h9) rfl dX5_readNumber_70 ?_
          refine lv_iconst (v := 1) hx hb dX5_readNumber_73 (by decide) ?_
          refine lv_iadd hx hb dX5_readNumber_74 ?_
          refine va_put (D := (dC, dI)) (ci := 5) (v := .int (v5place + 1)) (ty := .int) (C := RX5) (T := TX5) (N := 5) hx hb hts hiX5 tyX5 tyX5_ok nmX5 hown hK hP hD hS 0 rfl rfl 2 (by decide) lk15 (fun _ h9 => h9) rfl (by decide +kernel) rfl rfl (Nat.le_of_ble_eq_true rfl) dX5_readNumber_75 (fun H locs hP hD hS => ?_)
          replace hP : va_P (dC, dI) vwCl [(a5, .inr (5, [.ref a6, .ref r5draft, .int (v5place + 1), .int v5slotsTold, .int v5fault])), (a6, .inr (6, [.int v6length, .ref r6bytes])), (r6bytes, .inl (cyB, 200, .inl f6bytes))] H := hP
          replace hD : va_D A [(a5, .inr (5, [.ref a6, .ref r5draft, .int (v5place + 1), .int v5slotsTold, .int v5fault])), (a6, .inr (6, [.int v6length, .ref r6bytes])), (r6bytes, .inl (cyB, 200, .inl f6bytes))] := hD
          refine lv_goto (tgt := 11) hx hb dX5_readNumber_78 (by decide) ?_
          exact ih x7 (v5place + 1) H locs ls h hP hD hS (lv_sub hl [1, 2, 3, 0] rfl) kk
  delta wp_X5_readNumber at h
  have hl := lv_entry [.ref a5, .int p1] (n := 4) (Nat.le_of_ble_eq_true rfl)
  rw [lg_entry_eq]
  generalize (lg_sl [.ref a5, .int p1] ++ List.replicate (4 - (lg_sl [.ref a5, .int p1]).length) Slot.unset).toArray = ls at hl ⊢
  replace hl : lv_has ls 4 [(0, .ref a5), (1, .int p1)] := hl
  refine lv_aload_n hx hb dX5_readNumber_0 rfl (lv_at hl 0 rfl) ?_
  refine mc_v hP hD hS hA [0, 1, 2] [] [0, 1, 2] [] (fun (u9 : Int32) => [(a5, .inr (5, [.ref a6, .ref r5draft, .int u9, .int v5slotsTold, .int v5fault])), (a6, .inr (6, [.int v6length, .ref r6bytes])), (r6bytes, .inl (cyB, 200, .inl f6bytes))]) rfl rfl (by decide) (by decide) (by decide) (fun _ => rfl) (fun _ => rfl) (va_runV (As := []) (rest := []) ⟨hx, hb, hml, hown, hts⟩ (c_X5_skipBlanks l dC dI cyI cyZ cyB a5 a6 r5draft r6bytes s.heap.size v5place v5slotsTold v5fault v6length f6bytes  _ h) (cwV 0 hts gX5_readNumber_X5_skipBlanks rfl rfl rfl (by decide +kernel) ⟨Nat.le_of_ble_eq_true rfl, Nat.le_of_ble_eq_true rfl⟩) ⟨MPre_blind, va_recv hK hP (ci := 5) (q0 := 0) rfl rfl, MPre_here [0, 1, 2] hP hD hK hN (by decide) rfl rfl⟩ rfl rfl hl.1 rfl (lv_room (Nat.le_of_ble_eq_true rfl)) dX5_readNumber_1 ⟨Nat.zero_le _, Nat.zero_le _⟩) (fun u9 H locs h hP hD hS => ?_)
  replace hP : va_P (dC, dI) vwCl [(a5, .inr (5, [.ref a6, .ref r5draft, .int u9, .int v5slotsTold, .int v5fault])), (a6, .inr (6, [.int v6length, .ref r6bytes])), (r6bytes, .inl (cyB, 200, .inl f6bytes))] H := hP
  replace hD : va_D A [(a5, .inr (5, [.ref a6, .ref r5draft, .int u9, .int v5slotsTold, .int v5fault])), (a6, .inr (6, [.int v6length, .ref r6bytes])), (r6bytes, .inl (cyB, 200, .inl f6bytes))] := hD
  refine lv_aload_n hx hb dX5_readNumber_4 rfl (lv_at hl 0 rfl) ?_
  refine va_get (D := (dC, dI)) (ci := 5) (v := .int u9) (C := RX5) (T := TX5) (N := 5) hx hb hts hiX5 hown hK hP 0 rfl rfl 2 (by decide) lk15 (fun _ h9 => h9) rfl dX5_readNumber_5 ?_
  refine lv_istore_n (lv' := [(2, .int u9), (0, .ref a5), (1, .int p1)]) hx hb dX5_readNumber_8 rfl hl (by decide) rfl (fun ls hl => ?_)
  refine lv_iconst (v := 0) hx hb dX5_readNumber_9 (by decide) ?_
  refine lv_istore_n (lv' := [(3, .int 0), (2, .int u9), (0, .ref a5), (1, .int p1)]) hx hb dX5_readNumber_10 rfl hl (by decide) rfl (fun ls hl => ?_)
  obtain ⟨n12, h⟩ := h
  refine L11 p1 u9 v5fault v6length f6bytes _ n12 0 u9 H locs ls h hP hD hS (lv_sub hl [2, 3, 1, 0] rfl) (fun x10 x11 H locs ls h hP hD hS hl => ?_)
  refine lv_aload_n hx hb dX5_readNumber_81 rfl (lv_at hl 0 rfl) ?_
  refine va_get (D := (dC, dI)) (ci := 5) (v := .int x11) (C := RX5) (T := TX5) (N := 5) hx hb hts hiX5 hown hK hP 0 rfl rfl 2 (by decide) lk15 (fun _ h9 => h9) rfl dX5_readNumber_82 ?_
  refine lv_iload_n hx hb dX5_readNumber_85 rfl (lv_at hl 2 rfl) ?_
  refine lv_icmp_ne (tgt := 97) hx hb dX5_readNumber_86 (by decide) (fun c => ?_) (fun c => ?_)
  · replace h := h.1 c
    refine lv_aload_n hx hb dX5_readNumber_97 rfl (lv_at hl 0 rfl) ?_
    refine va_get (D := (dC, dI)) (ci := 5) (v := .int x11) (C := RX5) (T := TX5) (N := 5) hx hb hts hiX5 hown hK hP 0 rfl rfl 2 (by decide) lk15 (fun _ h9 => h9) rfl dX5_readNumber_98 ?_
    refine lv_iload_n hx hb dX5_readNumber_101 rfl (lv_at hl 2 rfl) ?_
    refine lv_isub hx hb dX5_readNumber_102 ?_
    refine lv_iconst (v := 3) hx hb dX5_readNumber_103 (by decide) ?_
    refine lv_icmp_gt (tgt := 112) hx hb dX5_readNumber_104 (by decide) (fun c => ?_) (fun c => ?_)
    · replace h := h.1 c
      refine lv_aload_n hx hb dX5_readNumber_112 rfl (lv_at hl 0 rfl) ?_
      refine lv_iload_n hx hb dX5_readNumber_113 rfl (lv_at hl 2 rfl) ?_
      refine lv_iconst (v := 1) hx hb dX5_readNumber_114 (by decide) ?_
      refine mc_v hP hD hS hA [0] [1, 2] [2, 0, 1] [(a6, .inr (6, [.int v6length, .ref r6bytes])), (r6bytes, .inl (cyB, 200, .inl f6bytes))] (fun (u14 : Int32) => [(a5, .inr (5, [.ref a6, .ref r5draft, .int x11, .int v5slotsTold, .int u14])), (a6, .inr (6, [.int v6length, .ref r6bytes])), (r6bytes, .inl (cyB, 200, .inl f6bytes))]) rfl rfl (by decide) (by decide) (by decide) (fun _ => rfl) (fun _ => rfl) (va_runV (As := [.int u9, .int 1]) (rest := []) ⟨hx, hb, hml, hown, hts⟩ (c_X5_fail l dC dI cyI cyZ cyB a5 a6 r5draft H.size x11 v5slotsTold v5fault u9 1 _ h) (cwV 2 hts gX5_readNumber_X5_fail rfl rfl rfl (by decide +kernel) ⟨Nat.le_of_ble_eq_true rfl, Nat.le_of_ble_eq_true rfl⟩) ⟨MPre_blind, va_recv hK hP (ci := 5) (q0 := 0) rfl rfl, MPre_here [0] hP hD hK hN (by decide) rfl rfl⟩ rfl rfl hl.1 rfl (lv_room (Nat.le_of_ble_eq_true rfl)) dX5_readNumber_115 ⟨Nat.zero_le _, Nat.zero_le _⟩) (fun u14 H locs h hP hD hS => ?_)
      replace hP : va_P (dC, dI) vwCl [(a5, .inr (5, [.ref a6, .ref r5draft, .int x11, .int v5slotsTold, .int u14])), (a6, .inr (6, [.int v6length, .ref r6bytes])), (r6bytes, .inl (cyB, 200, .inl f6bytes))] H := hP
      replace hD : va_D A [(a5, .inr (5, [.ref a6, .ref r5draft, .int x11, .int v5slotsTold, .int u14])), (a6, .inr (6, [.int v6length, .ref r6bytes])), (r6bytes, .inl (cyB, 200, .inl f6bytes))] := hD
      refine lv_iconst (v := 0) hx hb dX5_readNumber_118 (by decide) ?_
      exact W.iret (v := 0) hx hb hr (fun t ht hW => ⟨⟨0, (x11, u14), rfl, h, by rw [ht]; exact hP, hD⟩, hS.F ht⟩) hS.2.2 dX5_readNumber_119
    · replace h := h.2 c
      refine lv_iload_n hx hb dX5_readNumber_107 rfl (lv_at hl 3 rfl) ?_
      refine lv_iload_n hx hb dX5_readNumber_108 rfl (lv_at hl 1 rfl) ?_
      refine lv_icmp_le (tgt := 120) hx hb dX5_readNumber_109 (by decide) (fun c => ?_) (fun c => ?_)
      · replace h := h.1 c
        refine lv_iload_n hx hb dX5_readNumber_120 rfl (lv_at hl 3 rfl) ?_
        exact W.iret (v := x10) hx hb hr (fun t ht hW => ⟨⟨x10, (x11, v5fault), rfl, h, by rw [ht]; exact hP, hD⟩, hS.F ht⟩) hS.2.2 dX5_readNumber_121
      · replace h := h.2 c
        refine lv_aload_n hx hb dX5_readNumber_112 rfl (lv_at hl 0 rfl) ?_
        refine lv_iload_n hx hb dX5_readNumber_113 rfl (lv_at hl 2 rfl) ?_
        refine lv_iconst (v := 1) hx hb dX5_readNumber_114 (by decide) ?_
        refine mc_v hP hD hS hA [0] [1, 2] [2, 0, 1] [(a6, .inr (6, [.int v6length, .ref r6bytes])), (r6bytes, .inl (cyB, 200, .inl f6bytes))] (fun (u16 : Int32) => [(a5, .inr (5, [.ref a6, .ref r5draft, .int x11, .int v5slotsTold, .int u16])), (a6, .inr (6, [.int v6length, .ref r6bytes])), (r6bytes, .inl (cyB, 200, .inl f6bytes))]) rfl rfl (by decide) (by decide) (by decide) (fun _ => rfl) (fun _ => rfl) (va_runV (As := [.int u9, .int 1]) (rest := []) ⟨hx, hb, hml, hown, hts⟩ (c_X5_fail l dC dI cyI cyZ cyB a5 a6 r5draft H.size x11 v5slotsTold v5fault u9 1 _ h) (cwV 2 hts gX5_readNumber_X5_fail rfl rfl rfl (by decide +kernel) ⟨Nat.le_of_ble_eq_true rfl, Nat.le_of_ble_eq_true rfl⟩) ⟨MPre_blind, va_recv hK hP (ci := 5) (q0 := 0) rfl rfl, MPre_here [0] hP hD hK hN (by decide) rfl rfl⟩ rfl rfl hl.1 rfl (lv_room (Nat.le_of_ble_eq_true rfl)) dX5_readNumber_115 ⟨Nat.zero_le _, Nat.zero_le _⟩) (fun u16 H locs h hP hD hS => ?_)
        replace hP : va_P (dC, dI) vwCl [(a5, .inr (5, [.ref a6, .ref r5draft, .int x11, .int v5slotsTold, .int u16])), (a6, .inr (6, [.int v6length, .ref r6bytes])), (r6bytes, .inl (cyB, 200, .inl f6bytes))] H := hP
        replace hD : va_D A [(a5, .inr (5, [.ref a6, .ref r5draft, .int x11, .int v5slotsTold, .int u16])), (a6, .inr (6, [.int v6length, .ref r6bytes])), (r6bytes, .inl (cyB, 200, .inl f6bytes))] := hD
        refine lv_iconst (v := 0) hx hb dX5_readNumber_118 (by decide) ?_
        exact W.iret (v := 0) hx hb hr (fun t ht hW => ⟨⟨0, (x11, u16), rfl, h, by rw [ht]; exact hP, hD⟩, hS.F ht⟩) hS.2.2 dX5_readNumber_119
  · replace h := h.2 c
    refine lv_aload_n hx hb dX5_readNumber_89 rfl (lv_at hl 0 rfl) ?_
    refine lv_iload_n hx hb dX5_readNumber_90 rfl (lv_at hl 2 rfl) ?_
    refine lv_iconst (v := 0) hx hb dX5_readNumber_91 (by decide) ?_
    refine mc_v hP hD hS hA [0] [1, 2] [2, 0, 1] [(a6, .inr (6, [.int v6length, .ref r6bytes])), (r6bytes, .inl (cyB, 200, .inl f6bytes))] (fun (u18 : Int32) => [(a5, .inr (5, [.ref a6, .ref r5draft, .int x11, .int v5slotsTold, .int u18])), (a6, .inr (6, [.int v6length, .ref r6bytes])), (r6bytes, .inl (cyB, 200, .inl f6bytes))]) rfl rfl (by decide) (by decide) (by decide) (fun _ => rfl) (fun _ => rfl) (va_runV (As := [.int u9, .int 0]) (rest := []) ⟨hx, hb, hml, hown, hts⟩ (c_X5_fail l dC dI cyI cyZ cyB a5 a6 r5draft H.size x11 v5slotsTold v5fault u9 0 _ h) (cwV 2 hts gX5_readNumber_X5_fail rfl rfl rfl (by decide +kernel) ⟨Nat.le_of_ble_eq_true rfl, Nat.le_of_ble_eq_true rfl⟩) ⟨MPre_blind, va_recv hK hP (ci := 5) (q0 := 0) rfl rfl, MPre_here [0] hP hD hK hN (by decide) rfl rfl⟩ rfl rfl hl.1 rfl (lv_room (Nat.le_of_ble_eq_true rfl)) dX5_readNumber_92 ⟨Nat.zero_le _, Nat.zero_le _⟩) (fun u18 H locs h hP hD hS => ?_)
    replace hP : va_P (dC, dI) vwCl [(a5, .inr (5, [.ref a6, .ref r5draft, .int x11, .int v5slotsTold, .int u18])), (a6, .inr (6, [.int v6length, .ref r6bytes])), (r6bytes, .inl (cyB, 200, .inl f6bytes))] H := hP
    replace hD : va_D A [(a5, .inr (5, [.ref a6, .ref r5draft, .int x11, .int v5slotsTold, .int u18])), (a6, .inr (6, [.int v6length, .ref r6bytes])), (r6bytes, .inl (cyB, 200, .inl f6bytes))] := hD
    refine lv_iconst (v := 0) hx hb dX5_readNumber_95 (by decide) ?_
    exact W.iret (v := 0) hx hb hr (fun t ht hW => ⟨⟨0, (x11, u18), rfl, h, by rw [ht]; exact hP, hD⟩, hS.F ht⟩) hS.2.2 dX5_readNumber_96
