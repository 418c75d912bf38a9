def lp_J7_fill_53178_5 (k1 : Int32) (k3 : Int32) (nA : Nat) (Post : (Nat → Int32) → Prop) (K : Int32 → (Nat → Int32) → Prop) : Nat → Int32 → (Nat → Int32) → Prop
  | 0, _, _ => False
  | n + 1, y2, fa => (((k3 ≤ y2) → (K y2 fa)) ∧ ((¬ k3 ≤ y2) → (vp_in y2 nA ∧ (∀ x1 : Int32, x1 = y2 + 1 → (lp_J7_fill_53178_5 k1 k3 nA Post K n x1 (upd fa y2.toNatClampNeg k1))))))
def wp_J7_fill_53178 (p1 : Int32) (nA : Nat) (fa : Nat → Int32) (Post : (Nat → Int32) → Prop) : Prop := (∀ x2 : Int32, x2 = (nI nA) → (∃ n5 : Nat, lp_J7_fill_53178_5 p1 x2 nA Post (fun (x3 : Int32) (g4 : Nat → Int32) => (Post g4)) n5 0 fa))
set_option maxHeartbeats 4000000 in
set_option maxRecDepth 100000 in
theorem c_J7_fill_53178 (l : Launch) (dC : Nat → ClassId) (dI : Nat → Nat → Nat) (cyI cyZ cyB : ClassId) (ra : Nat) (nA : Nat) (sz : Nat) (fa : Nat → Int32) (p1 : Int32) (Post : (Nat → Int32) → Prop) (h : wp_J7_fill_53178 p1 nA fa Post) : Met l yJ7_fill_53178 wsJ7_fill_53178 ({ frames := 0, cells := 0, slots := 0, locals := 0 } : Room) (MPre (dC, dI) [(cyI, .int), (cyZ, .boolean), (cyB, .byte)] [.ref ra, .int p1] sz [(ra, .inl (cyI, nA, .inl fa))]) (va_Qv Post (fun (u : (Nat → Int32)) (t : State) => va_P (dC, dI) vwCl [(ra, .inl (cyI, nA, .inl u))] t.heap ∧ va_D (va_A [(ra, .inl (cyI, nA, .inl fa))] sz) [(ra, .inl (cyI, nA, .inl u))]) (va_A [(ra, .inl (cyI, nA, .inl fa))] sz)) 0 0 (va_A [(ra, .inl (cyI, nA, .inl fa))] sz) := by
  refine Met.ofW (cc := cJ7_fill_53178) (maxL := 4) (ret := none) (by decide) rfl ?_
  intro p e s m args below meth c s₁ B hml hv
  obtain ⟨rfl, hsz, hP, hK, hD0, hN⟩ := hv
  have hx := B.exec
  have hb := B.bytes
  have hr := B.returns
  have hts := atoms_spec (ws := wsJ7_fill_53178) B.pre
  have hown : s.vm.findClass RJ7 = some m.cls := findClass_of_methodNamed B.named
  have hlocks := B.notSynchronized
  subst hsz
  have hD := hD0.self (sz := s.heap.size)
  generalize hAe : va_A [(ra, .inl (cyI, nA, .inl fa))] s.heap.size = A at hD ⊢
  have hA : ∀ q : Nat, s.heap.size ≤ q → A q := fun q h => by rw [← hAe]; exact Or.inr h
  have hS : va_S A s.heap s.heap [] := va_S.rf
  have L5 : ∀ (k1 : Int32) (k3 : Int32) (nA : Nat) (K : Int32 → (Nat → Int32) → Prop) (n : Nat) (y2 : Int32) (fa : Nat → Int32) (H : Heap) (locs : List Loc) (ls : Array Slot), lp_J7_fill_53178_5 k1 k3 nA Post K n y2 fa → va_P (dC, dI) vwCl [(ra, .inl (cyI, nA, .inl fa))] H → va_D A [(ra, .inl (cyI, nA, .inl fa))] → va_S A s.heap H locs → lv_has ls 4 [(0, .ref ra), (1, .int k1), (2, .int y2), (3, .int k3)] → (∀ (y2 : Int32) (fa : Nat → Int32) (H : Heap) (locs : List Loc) (ls : Array Slot), K y2 fa → va_P (dC, dI) vwCl [(ra, .inl (cyI, nA, .inl fa))] H → va_D A [(ra, .inl (cyI, nA, .inl fa))] → va_S A s.heap H locs → lv_has ls 4 [(0, .ref ra), (1, .int k1), (2, .int y2), (3, .int k3)] → W p l e (headSpec wsJ7_fill_53178 ({ frames := 0, cells := 0, slots := 0, locals := 0 } : Room)).room s m ([.ref ra, .int p1] : List Value).toArray below meth c H locs 0 0 (MQ below (va_Qv Post (fun (u : (Nat → Int32)) (t : State) => va_P (dC, dI) vwCl [(ra, .inl (cyI, nA, .inl u))] t.heap ∧ va_D A [(ra, .inl (cyI, nA, .inl u))]) A) ([.ref ra, .int p1] : List Value).toArray s 0 0 A) (F0 m 20 ls [])) → W p l e (headSpec wsJ7_fill_53178 ({ frames := 0, cells := 0, slots := 0, locals := 0 } : Room)).room s m ([.ref ra, .int p1] : List Value).toArray below meth c H locs 0 0 (MQ below (va_Qv Post (fun (u : (Nat → Int32)) (t : State) => va_P (dC, dI) vwCl [(ra, .inl (cyI, nA, .inl u))] t.heap ∧ va_D A [(ra, .inl (cyI, nA, .inl u))]) A) ([.ref ra, .int p1] : List Value).toArray s 0 0 A) (F0 m 5 ls []) := by
    intro k1 k3 nA K n
    induction n with
    | zero =>
      intro y2 fa H locs ls h
      exact (h : False).elim
    | succ n ih =>
      intro y2 fa H locs ls h hP hD hS hl kk
      rw [lp_J7_fill_53178_5] at h
      refine lv_iload_n hx hb dJ7_fill_53178_5 rfl (lv_at hl 2 rfl) ?_
      refine lv_iload_n hx hb dJ7_fill_53178_6 rfl (lv_at hl 3 rfl) ?_
      refine lv_icmp_ge (tgt := 20) hx hb dJ7_fill_53178_7 (by decide) (fun c => ?_) (fun c => ?_)
      · replace h := h.1 c
        exact kk y2 fa H locs ls h hP hD hS (lv_sub hl [0, 1, 2, 3] rfl)
      · replace h := h.2 c
        refine lv_aload_n hx hb dJ7_fill_53178_10 rfl (lv_at hl 0 rfl) ?_
        refine lv_iload_n hx hb dJ7_fill_53178_11 rfl (lv_at hl 2 rfl) ?_
        refine lv_iload_n hx hb dJ7_fill_53178_12 rfl (lv_at hl 1 rfl) ?_
        refine va_iast hx hb hK hP hD hS 0 0 rfl rfl h.1 dJ7_fill_53178_13 (fun H locs hP hD hS => ?_)
        replace h := h.2
        replace hP : va_P (dC, dI) vwCl [(ra, .inl (cyI, nA, .inl (upd fa y2.toNatClampNeg k1)))] H := hP
        replace hD : va_D A [(ra, .inl (cyI, nA, .inl (upd fa y2.toNatClampNeg k1)))] := hD
        obtain ⟨x1, ex1⟩ : ∃ y : Int32, y = y2 + 1 := ⟨_, rfl⟩
        replace h := h x1 ex1
        refine lv_iinc (v := x1) (lv' := [(2, .int x1), (0, .ref ra), (1, .int k1), (3, .int k3)]) hx hb dJ7_fill_53178_14 hl (k := 2) rfl (by rw [ex1]; rfl) (by decide) rfl (fun ls hl => ?_)
        refine lv_goto (tgt := 5) hx hb dJ7_fill_53178_17 (by decide) ?_
        exact ih x1 (upd fa y2.toNatClampNeg k1) H locs ls h hP hD hS (lv_sub hl [1, 2, 0, 3] rfl) kk
  delta wp_J7_fill_53178 at h
  have hl := lv_entry [.ref ra, .int p1] (n := 4) (Nat.le_of_ble_eq_true rfl)
  rw [lg_entry_eq]
  generalize (lg_sl [.ref ra, .int p1] ++ List.replicate (4 - (lg_sl [.ref ra, .int p1]).length) Slot.unset).toArray = ls at hl ⊢
  replace hl : lv_has ls 4 [(0, .ref ra), (1, .int p1)] := hl
  refine lv_iconst (v := 0) hx hb dJ7_fill_53178_0 (by decide) ?_
  refine lv_istore_n (lv' := [(2, .int 0), (0, .ref ra), (1, .int p1)]) hx hb dJ7_fill_53178_1 rfl hl (by decide) rfl (fun ls hl => ?_)
  refine lv_aload_n hx hb dJ7_fill_53178_2 rfl (lv_at hl 1 rfl) ?_
  refine va_alen (v := (nI nA)) hx hb hK hP 0 0 rfl rfl rfl dJ7_fill_53178_3 ?_
  refine lv_topi (fun x2 ex2 => ?_)
  replace h := h x2 ex2
  refine lv_istore_n (lv' := [(3, .int x2), (2, .int 0), (0, .ref ra), (1, .int p1)]) hx hb dJ7_fill_53178_4 rfl hl (by decide) rfl (fun ls hl => ?_)
  obtain ⟨n5, h⟩ := h
  refine L5 p1 x2 nA _ n5 0 fa s.heap [] ls h hP hD hS (lv_sub hl [2, 3, 1, 0] rfl) (fun x3 g4 H locs ls h hP hD hS hl => ?_)
  exact W.vret hx hb hr (fun t ht hW => ⟨⟨g4, rfl, h, by rw [ht]; exact hP, hD⟩, hS.F ht⟩) hS.2.2 dJ7_fill_53178_20
def wp_X6_hasRoom (p1 : Int32) (v6length : Int32) (Post : Int32 → Unit → Prop) : Prop := (((200 < (v6length + p1)) → (Post 0 ())) ∧ ((¬ 200 < (v6length + p1)) → (Post 1 ())))
set_option maxHeartbeats 4000000 in
set_option maxRecDepth 100000 in
theorem c_X6_hasRoom (l : Launch) (dC : Nat → ClassId) (dI : Nat → Nat → Nat) (cyI cyZ cyB : ClassId) (a6 : Nat) (r6bytes : Nat) (sz : Nat) (v6length : Int32) (p1 : Int32) (Post : Int32 → Unit → Prop) (h : wp_X6_hasRoom p1 v6length Post) : Met l yX6_hasRoom wsX6_hasRoom ({ frames := 0, cells := 0, slots := 0, locals := 0 } : Room) (MPre (dC, dI) [(cyI, .int), (cyZ, .boolean), (cyB, .byte)] [.ref a6, .int p1] sz [(a6, .inr (6, [.int v6length, .ref r6bytes]))]) (va_Qi Post (fun (u : Unit) (t : State) => va_P (dC, dI) vwCl [(a6, .inr (6, [.int v6length, .ref r6bytes]))] t.heap ∧ va_D (va_A [(a6, .inr (6, [.int v6length, .ref r6bytes]))] sz) [(a6, .inr (6, [.int v6length, .ref r6bytes]))]) (va_A [(a6, .inr (6, [.int v6length, .ref r6bytes]))] sz)) 0 0 (va_A [(a6, .inr (6, [.int v6length, .ref r6bytes]))] sz) := by
  refine Met.ofW (cc := cX6_hasRoom) (maxL := 2) (ret := (some .boolean)) (by decide) rfl ?_
  intro p e s m args below meth c s₁ B hml hv
  obtain ⟨rfl, hsz, hP, hK, hD0, hN⟩ := hv
  have hx := B.exec
  have hb := B.bytes
  have hr := B.returns
  have hts := atoms_spec (ws := wsX6_hasRoom) B.pre
  have hown : s.vm.findClass RX6 = some m.cls := findClass_of_methodNamed B.named
  have hlocks := B.notSynchronized
  subst hsz
  have hD := hD0.self (sz := s.heap.size)
  generalize hAe : va_A [(a6, .inr (6, [.int v6length, .ref r6bytes]))] s.heap.size = A at hD ⊢
  have hA : ∀ q : Nat, s.heap.size ≤ q → A q := fun q h => by rw [← hAe]; exact Or.inr h
  have hS : va_S A s.heap s.heap [] := va_S.rf
  have hiX6 : ∀ w ∈ u_ws RX6 TX6 2, w ∈ wsX6_hasRoom := by decide +kernel
  have lk9 := hts (.fieldLink RX6 9 "StallBook$Tape" "length" "I") (by decide +kernel)
  delta wp_X6_hasRoom at h
  have hl := lv_entry [.ref a6, .int p1] (n := 2) (Nat.le_of_ble_eq_true rfl)
  rw [lg_entry_eq]
  generalize (lg_sl [.ref a6, .int p1] ++ List.replicate (2 - (lg_sl [.ref a6, .int p1]).length) Slot.unset).toArray = ls at hl ⊢
  replace hl : lv_has ls 2 [(0, .ref a6), (1, .int p1)] := hl
  refine lv_aload_n hx hb dX6_hasRoom_0 rfl (lv_at hl 0 rfl) ?_
  refine va_get (D := (dC, dI)) (ci := 6) (v := .int v6length) (C := RX6) (T := TX6) (N := 2) hx hb hts hiX6 hown hK hP 0 rfl rfl 0 (by decide) lk9 (fun _ h9 => h9) rfl dX6_hasRoom_1 ?_
  refine lv_iload_n hx hb dX6_hasRoom_4 rfl (lv_at hl 1 rfl) ?_
  refine lv_iadd hx hb dX6_hasRoom_5 ?_
  refine lv_sipush (v := 200) hx hb dX6_hasRoom_6 (by decide) ?_
  refine lv_icmp_gt (tgt := 16) hx hb dX6_hasRoom_9 (by decide) (fun c => ?_) (fun c => ?_)
  · replace h := h.1 c
    refine lv_iconst (v := 0) hx hb dX6_hasRoom_16 (by decide) ?_
    exact W.zret (v := 0) (ty := .boolean) hx hb hr rfl (fun t ht hW => ⟨⟨0, (), rfl, h, by rw [ht]; exact hP, hD⟩, hS.F ht⟩) hS.2.2 dX6_hasRoom_17
  · replace h := h.2 c
    refine lv_iconst (v := 1) hx hb dX6_hasRoom_12 (by decide) ?_
    refine lv_goto (tgt := 17) hx hb dX6_hasRoom_13 (by decide) ?_
    exact W.zret (v := 1) (ty := .boolean) hx hb hr rfl (fun t ht hW => ⟨⟨1, (), rfl, h, by rw [ht]; exact hP, hD⟩, hS.F ht⟩) hS.2.2 dX6_hasRoom_17
def wp_X6_append (p1 : Int32) (v6length : Int32) (f6bytes : Nat → Int32) (Post : Int32 × (Nat → Int32) → Prop) : Prop := (wp_X6_hasRoom 4 v6length (fun (r1 : Int32) (u2 : Unit) => (((¬ r1 = 0) → (vp_in v6length 200 ∧ (vp_in (v6length + 1) 200 ∧ (vp_in (v6length + 2) 200 ∧ (vp_in (v6length + 3) 200 ∧ (Post ((v6length + 4), (upd (upd (upd (upd f6bytes v6length.toNatClampNeg (vp_nar .byte ((p1 >>> (24 &&& 31)).toInt8.toInt32))) (v6length + 1).toNatClampNeg (vp_nar .byte ((p1 >>> (16 &&& 31)).toInt8.toInt32))) (v6length + 2).toNatClampNeg (vp_nar .byte ((p1 >>> (8 &&& 31)).toInt8.toInt32))) (v6length + 3).toNatClampNeg (vp_nar .byte p1.toInt8.toInt32))))))))) ∧ ((r1 = 0) → (Post (v6length, f6bytes))))))
set_option maxHeartbeats 4000000 in
set_option maxRecDepth 100000 in
theorem c_X6_append (l : Launch) (dC : Nat → ClassId) (dI : Nat → Nat → Nat) (cyI cyZ cyB : ClassId) (a6 : Nat) (r6bytes : Nat) (sz : Nat) (v6length : Int32) (f6bytes : Nat → Int32) (p1 : Int32) (Post : Int32 × (Nat → Int32) → Prop) (h : wp_X6_append p1 v6length f6bytes Post) : Met l yX6_append wsX6_append ({ frames := 1, cells := 0, slots := 0, locals := 21 } : Room) (MPre (dC, dI) [(cyI, .int), (cyZ, .boolean), (cyB, .byte)] [.ref a6, .int p1] sz [(a6, .inr (6, [.int v6length, .ref r6bytes])), (r6bytes, .inl (cyB, 200, .inl f6bytes))]) (va_Qv Post (fun (u : Int32 × (Nat → Int32)) (t : State) => va_P (dC, dI) vwCl [(a6, .inr (6, [.int u.1, .ref r6bytes])), (r6bytes, .inl (cyB, 200, .inl u.2))] t.heap ∧ va_D (va_A [(a6, .inr (6, [.int v6length, .ref r6bytes])), (r6bytes, .inl (cyB, 200, .inl f6bytes))] sz) [(a6, .inr (6, [.int u.1, .ref r6bytes])), (r6bytes, .inl (cyB, 200, .inl u.2))]) (va_A [(a6, .inr (6, [.int v6length, .ref r6bytes])), (r6bytes, .inl (cyB, 200, .inl f6bytes))] sz)) 0 0 (va_A [(a6, .inr (6, [.int v6length, .ref r6bytes])), (r6bytes, .inl (cyB, 200, .inl f6bytes))] sz) := by
  refine Met.ofW (cc := cX6_append) (maxL := 2) (ret := none) (by decide) rfl ?_
  intro p e s m args below meth c s₁ B hml hv
  obtain ⟨rfl, hsz, hP, hK, hD0, hN⟩ := hv
  have hx := B.exec
  have hb := B.bytes
  have hr := B.returns
  have hts := atoms_spec (ws := wsX6_append) B.pre
  have hown : s.vm.findClass RX6 = some m.cls := findClass_of_methodNamed B.named
  have hlocks := B.notSynchronized
  subst hsz
  have hD := hD0.self (sz := s.heap.size)
  generalize hAe : va_A [(a6, .inr (6, [.int v6length, .ref r6bytes])), (r6bytes, .inl (cyB, 200, .inl f6bytes))] s.heap.size = A at hD ⊢
  have hA : ∀ q : Nat, s.heap.size ≤ q → A q := fun q h => by rw [← hAe]; exact Or.inr h
  have hS : va_S A s.heap s.heap [] := va_S.rf
  have hiX6 : ∀ w ∈ u_ws RX6 TX6 2, w ∈ wsX6_append := by decide +kernel
  have lk9 := hts (.fieldLink RX6 9 "StallBook$Tape" "length" "I") (by decide +kernel)
  have lk15 := hts (.fieldLink RX6 15 "StallBook$Tape" "bytes" "[B") (by decide +kernel)
  delta wp_X6_append at h
  have hl := lv_entry [.ref a6, .int p1] (n := 2) (Nat.le_of_ble_eq_true rfl)
  rw [lg_entry_eq]
  generalize (lg_sl [.ref a6, .int p1] ++ List.replicate (2 - (lg_sl [.ref a6, .int p1]).length) Slot.unset).toArray = ls at hl ⊢
  replace hl : lv_has ls 2 [(0, .ref a6), (1, .int p1)] := hl
  refine lv_aload_n hx hb dX6_append_0 rfl (lv_at hl 0 rfl) ?_
  refine lv_iconst (v := 4) hx hb dX6_append_1 (by decide) ?_
  refine mc_i hP hD hS hA [0] [1] [1, 0] [(r6bytes, .inl (cyB, 200, .inl f6bytes))] (fun (u2 : Unit) => [(a6, .inr (6, [.int v6length, .ref r6bytes])), (r6bytes, .inl (cyB, 200, .inl f6bytes))]) rfl rfl (by decide) (by decide) (by decide) (fun _ => rfl) (fun _ => rfl) (va_runV (As := [.int 4]) (rest := []) ⟨hx, hb, hml, hown, hts⟩ (c_X6_hasRoom l dC dI cyI cyZ cyB a6 r6bytes s.heap.size v6length 4 _ h) (cwV 1 hts gX6_append_X6_hasRoom rfl rfl rfl (by decide +kernel) ⟨Nat.le_of_ble_eq_true rfl, Nat.le_of_ble_eq_true rfl⟩) ⟨MPre_blind, va_recv hK hP (ci := 6) (q0 := 0) rfl rfl, MPre_here [0] hP hD hK hN (by decide) rfl rfl⟩ rfl rfl hl.1 rfl (lv_room (Nat.le_of_ble_eq_true rfl)) dX6_append_2 ⟨Nat.zero_le _, Nat.zero_le _⟩) (fun r1 u2 H locs h hP hD hS => ?_)
  replace hP : va_P (dC, dI) vwCl [(a6, .inr (6, [.int v6length, .ref r6bytes])), (r6bytes, .inl (cyB, 200, .inl f6bytes))] H := hP
  replace hD : va_D A [(a6, .inr (6, [.int v6length, .ref r6bytes])), (r6bytes, .inl (cyB, 200, .inl f6bytes))] := hD
  refine lv_if_ne (tgt := 9) hx hb dX6_append_5 (by decide) (fun c => ?_) (fun c => ?_)
  · replace h := h.1 c
    refine lv_aload_n hx hb dX6_append_9 rfl (lv_at hl 0 rfl) ?_
    refine va_get (D := (dC, dI)) (ci := 6) (v := .ref r6bytes) (C := RX6) (T := TX6) (N := 2) hx hb hts hiX6 hown hK hP 0 rfl rfl 1 (by decide) lk15 (fun _ h9 => h9) rfl dX6_append_10 ?_
    refine lv_aload_n hx hb dX6_append_13 rfl (lv_at hl 0 rfl) ?_
    refine va_get (D := (dC, dI)) (ci := 6) (v := .int v6length) (C := RX6) (T := TX6) (N := 2) hx hb hts hiX6 hown hK hP 0 rfl rfl 0 (by decide) lk9 (fun _ h9 => h9) rfl dX6_append_14 ?_
    refine lv_iload_n hx hb dX6_append_17 rfl (lv_at hl 1 rfl) ?_
    refine lv_bipush (v := 24) hx hb dX6_append_18 (by decide) ?_
    refine lv_ishr hx hb dX6_append_20 ?_
    refine lv_i2b hx hb dX6_append_21 rfl ?_
    refine va_bast hx hb hK hP hD hS 1 2 rfl rfl h.1 dX6_append_22 (fun H locs hP hD hS => ?_)
    replace h := h.2
    replace hP : va_P (dC, dI) vwCl [(a6, .inr (6, [.int v6length, .ref r6bytes])), (r6bytes, .inl (cyB, 200, .inl (upd f6bytes v6length.toNatClampNeg (vp_nar .byte ((p1 >>> (24 &&& 31)).toInt8.toInt32)))))] H := hP
    replace hD : va_D A [(a6, .inr (6, [.int v6length, .ref r6bytes])), (r6bytes, .inl (cyB, 200, .inl (upd f6bytes v6length.toNatClampNeg (vp_nar .byte ((p1 >>> (24 &&& 31)).toInt8.toInt32)))))] := hD
    refine lv_aload_n hx hb dX6_append_23 rfl (lv_at hl 0 rfl) ?_
    refine va_get (D := (dC, dI)) (ci := 6) (v := .ref r6bytes) (C := RX6) (T := TX6) (N := 2) hx hb hts hiX6 hown hK hP 0 rfl rfl 1 (by decide) lk15 (fun _ h9 => h9) rfl dX6_append_24 ?_
    refine lv_aload_n hx hb dX6_append_27 rfl (lv_at hl 0 rfl) ?_
    refine va_get (D := (dC, dI)) (ci := 6) (v := .int v6length) (C := RX6) (T := TX6) (N := 2) hx hb hts hiX6 hown hK hP 0 rfl rfl 0 (by decide) lk9 (fun _ h9 => h9) rfl dX6_append_28 ?_
    refine lv_iconst (v := 1) hx hb dX6_append_31 (by decide) ?_
    refine lv_iadd hx hb dX6_append_32 ?_
    refine lv_iload_n hx hb dX6_append_33 rfl (lv_at hl 1 rfl) ?_
    refine lv_bipush (v := 16) hx hb dX6_append_34 (by decide) ?_
    refine lv_ishr hx hb dX6_append_36 ?_
    refine lv_i2b hx hb dX6_append_37 rfl ?_
    refine va_bast hx hb hK hP hD hS 1 2 rfl rfl h.1 dX6_append_38 (fun H locs hP hD hS => ?_)
    replace h := h.2
    replace hP : va_P (dC, dI) vwCl [(a6, .inr (6, [.int v6length, .ref r6bytes])), (r6bytes, .inl (cyB, 200, .inl (upd (upd f6bytes v6length.toNatClampNeg (vp_nar .byte ((p1 >>> (24 &&& 31)).toInt8.toInt32))) (v6length + 1).toNatClampNeg (vp_nar .byte ((p1 >>> (16 &&& 31)).toInt8.toInt32)))))] H := hP
    replace hD : va_D A [(a6, .inr (6, [.int v6length, .ref r6bytes])), (r6bytes, .inl (cyB, 200, .inl (upd (upd f6bytes v6length.toNatClampNeg (vp_nar .byte ((p1 >>> (24 &&& 31)).toInt8.toInt32))) (v6length + 1).toNatClampNeg (vp_nar .byte ((p1 >>> (16 &&& 31)).toInt8.toInt32)))))] := hD
    refine lv_aload_n hx hb dX6_append_39 rfl (lv_at hl 0 rfl) ?_
    refine va_get (D := (dC, dI)) (ci := 6) (v := .ref r6bytes) (C := RX6) (T := TX6) (N := 2) hx hb hts hiX6 hown hK hP 0 rfl rfl 1 (by decide) lk15 (fun _ h9 => h9) rfl dX6_append_40 ?_
    refine lv_aload_n hx hb dX6_append_43 rfl (lv_at hl 0 rfl) ?_
    refine va_get (D := (dC, dI)) (ci := 6) (v := .int v6length) (C := RX6) (T := TX6) (N := 2) hx hb hts hiX6 hown hK hP 0 rfl rfl 0 (by decide) lk9 (fun _ h9 => h9) rfl dX6_append_44 ?_
    refine lv_iconst (v := 2) hx hb dX6_append_47 (by decide) ?_
    refine lv_iadd hx hb dX6_append_48 ?_
    refine lv_iload_n hx hb dX6_append_49 rfl (lv_at hl 1 rfl) ?_
    refine lv_bipush (v := 8) hx hb dX6_append_50 (by decide) ?_
    refine lv_ishr hx hb dX6_append_52 ?_
    refine lv_i2b hx hb dX6_append_53 rfl ?_
    refine va_bast hx hb hK hP hD hS 1 2 rfl rfl h.1 dX6_append_54 (fun H locs hP hD hS => ?_)
    replace h := h.2
    replace hP : va_P (dC, dI) vwCl [(a6, .inr (6, [.int v6length, .ref r6bytes])), (r6bytes, .inl (cyB, 200, .inl (upd (upd (upd f6bytes v6length.toNatClampNeg (vp_nar .byte ((p1 >>> (24 &&& 31)).toInt8.toInt32))) (v6length + 1).toNatClampNeg (vp_nar .byte ((p1 >>> (16 &&& 31)).toInt8.toInt32))) (v6length + 2).toNatClampNeg (vp_nar .byte ((p1 >>> (8 &&& 31)).toInt8.toInt32)))))] H := hP
    replace hD : va_D A [(a6, .inr (6, [.int v6length, .ref r6bytes])), (r6bytes, .inl (cyB, 200, .inl (upd (upd (upd f6bytes v6length.toNatClampNeg (vp_nar .byte ((p1 >>> (24 &&& 31)).toInt8.toInt32))) (v6length + 1).toNatClampNeg (vp_nar .byte ((p1 >>> (16 &&& 31)).toInt8.toInt32))) (v6length + 2).toNatClampNeg (vp_nar .byte ((p1 >>> (8 &&& 31)).toInt8.toInt32)))))] := hD
    refine lv_aload_n hx hb dX6_append_55 rfl (lv_at hl 0 rfl) ?_
    refine va_get (D := (dC, dI)) (ci := 6) (v := .ref r6bytes) (C := RX6) (T := TX6) (N := 2) hx hb hts hiX6 hown hK hP 0 rfl rfl 1 (by decide) lk15 (fun _ h9 => h9) rfl dX6_append_56 ?_
    refine lv_aload_n hx hb dX6_append_59 rfl (lv_at hl 0 rfl) ?_
    refine va_get (D := (dC, dI)) (ci := 6) (v := .int v6length) (C := RX6) (T := TX6) (N := 2) hx hb hts hiX6 hown hK hP 0 rfl rfl 0 (by decide) lk9 (fun _ h9 => h9) rfl dX6_append_60 ?_
    refine lv_iconst (v := 3) hx hb dX6_append_63 (by decide) ?_
    refine lv_iadd hx hb dX6_append_64 ?_
    refine lv_iload_n hx hb dX6_append_65 rfl (lv_at hl 1 rfl) ?_
    refine lv_i2b hx hb dX6_append_66 rfl ?_
    refine va_bast hx hb hK hP hD hS 1 2 rfl rfl h.1 dX6_append_67 (fun H locs hP hD hS => ?_)
    replace h := h.2
    replace hP : va_P (dC, dI) vwCl [(a6, .inr (6, [.int v6length, .ref r6bytes])), (r6bytes, .inl (cyB, 200, .inl (upd (upd (upd (upd f6bytes v6length.toNatClampNeg (vp_nar .byte ((p1 >>> (24 &&& 31)).toInt8.toInt32))) (v6length + 1).toNatClampNeg (vp_nar .byte ((p1 >>> (16 &&& 31)).toInt8.toInt32))) (v6length + 2).toNatClampNeg (vp_nar .byte ((p1 >>> (8 &&& 31)).toInt8.toInt32))) (v6length + 3).toNatClampNeg (vp_nar .byte p1.toInt8.toInt32))))] H := hP
    replace hD : va_D A [(a6, .inr (6, [.int v6length, .ref r6bytes])), (r6bytes, .inl (cyB, 200, .inl (upd (upd (upd (upd f6bytes v6length.toNatClampNeg (vp_nar .byte ((p1 >>> (24 &&& 31)).toInt8.toInt32))) (v6length + 1).toNatClampNeg (vp_nar .byte ((p1 >>> (16 &&& 31)).toInt8.toInt32))) (v6length + 2).toNatClampNeg (vp_nar .byte ((p1 >>> (8 &&& 31)).toInt8.toInt32))) (v6length + 3).toNatClampNeg (vp_nar .byte p1.toInt8.toInt32))))] := hD
    refine lv_aload_n hx hb dX6_append_68 rfl (lv_at hl 0 rfl) ?_
    refine lv_dup hx hb dX6_append_69 rfl ?_
    refine va_get (D := (dC, dI)) (ci := 6) (v := .int v6length) (C := RX6) (T := TX6) (N := 2) hx hb hts hiX6 hown hK hP 0 rfl rfl 0 (by decide) lk9 (fun _ h9 => h9) rfl dX6_append_70 ?_
    refine lv_iconst (v := 4) hx hb dX6_append_73 (by decide) ?_
    refine lv_iadd hx hb dX6_append_74 ?_
    refine va_put (D := (dC, dI)) (ci := 6) (v := .int (v6length + 4)) (ty := .int) (C := RX6) (T := TX6) (N := 2) hx hb hts hiX6 tyX6 tyX6_ok nmX6 hown hK hP hD hS 0 rfl rfl 0 (by decide) lk9 (fun _ h9 => h9) rfl (by decide +kernel) rfl rfl (Nat.le_of_ble_eq_true rfl) dX6_append_75 (fun H locs hP hD hS => ?_)
    replace hP : va_P (dC, dI) vwCl [(a6, .inr (6, [.int (v6length + 4), .ref r6bytes])), (r6bytes, .inl (cyB, 200, .inl (upd (upd (upd (upd f6bytes v6length.toNatClampNeg (vp_nar .byte ((p1 >>> (24 &&& 31)).toInt8.toInt32))) (v6length + 1).toNatClampNeg (vp_nar .byte ((p1 >>> (16 &&& 31)).toInt8.toInt32))) (v6length + 2).toNatClampNeg (vp_nar .byte ((p1 >>> (8 &&& 31)).toInt8.toInt32))) (v6length + 3).toNatClampNeg (vp_nar .byte p1.toInt8.toInt32))))] H := hP
    replace hD : va_D A [(a6, .inr (6, [.int (v6length + 4), .ref r6bytes])), (r6bytes, .inl (cyB, 200, .inl (upd (upd (upd (upd f6bytes v6length.toNatClampNeg (vp_nar .byte ((p1 >>> (24 &&& 31)).toInt8.toInt32))) (v6length + 1).toNatClampNeg (vp_nar .byte ((p1 >>> (16 &&& 31)).toInt8.toInt32))) (v6length + 2).toNatClampNeg (vp_nar .byte ((p1 >>> (8 &&& 31)).toInt8.toInt32))) (v6length + 3).toNatClampNeg (vp_nar .byte p1.toInt8.toInt32))))] := hD
    exact W.vret hx hb hr (fun t ht hW => ⟨⟨((v6length + 4), (upd (upd (upd (upd f6bytes v6length.toNatClampNeg (vp_nar .byte ((p1 >>> (24 &&& 31)).toInt8.toInt32))) (v6length + 1).toNatClampNeg (vp_nar .byte ((p1 >>> (16 &&& 31)).toInt8.toInt32))) (v6length + 2).toNatClampNeg (vp_nar .byte ((p1 >>> (8 &&& 31)).toInt8.toInt32))) (v6length + 3).toNatClampNeg (vp_nar .byte p1.toInt8.toInt32))), rfl, h, by rw [ht]; exact hP, hD⟩, hS.F ht⟩) hS.2.2 dX6_append_78
  · replace h := h.2 c
    exact W.vret hx hb hr (fun t ht hW => ⟨⟨(v6length, f6bytes), rfl, h, by rw [ht]; exact hP, hD⟩, hS.F ht⟩) hS.2.2 dX6_append_8
def wp_X6_cutTo (p1 : Int32) (v6length : Int32) (Post : Int32 → Int32 → Prop) : Prop := (((p1 < 0) → (Post 0 v6length)) ∧ ((¬ p1 < 0) → (((p1 ≤ v6length) → (Post 1 p1)) ∧ ((¬ p1 ≤ v6length) → (Post 0 v6length)))))
set_option maxHeartbeats 4000000 in
set_option maxRecDepth 100000 in
theorem c_X6_cutTo (l : Launch) (dC : Nat → ClassId) (dI : Nat → Nat → Nat) (cyI cyZ cyB : ClassId) (a6 : Nat) (r6bytes : Nat) (sz : Nat) (v6length : Int32) (p1 : Int32) (Post : Int32 → Int32 → Prop) (h : wp_X6_cutTo p1 v6length Post) : Met l yX6_cutTo wsX6_cutTo ({ frames := 0, cells := 0, slots := 0, locals := 0 } : Room) (MPre (dC, dI) [(cyI, .int), (cyZ, .boolean), (cyB, .byte)] [.ref a6, .int p1] sz [(a6, .inr (6, [.int v6length, .ref r6bytes]))]) (va_Qi Post (fun (u : Int32) (t : State) => va_P (dC, dI) vwCl [(a6, .inr (6, [.int u, .ref r6bytes]))] t.heap ∧ va_D (va_A [(a6, .inr (6, [.int v6length, .ref r6bytes]))] sz) [(a6, .inr (6, [.int u, .ref r6bytes]))]) (va_A [(a6, .inr (6, [.int v6length, .ref r6bytes]))] sz)) 0 0 (va_A [(a6, .inr (6, [.int v6length, .ref r6bytes]))] sz) := by
  refine Met.ofW (cc := cX6_cutTo) (maxL := 2) (ret := (some .boolean)) (by decide) rfl ?_
  intro p e s m args below meth c s₁ B hml hv
  obtain ⟨rfl, hsz, hP, hK, hD0, hN⟩ := hv
  have hx := B.exec
  have hb := B.bytes
  have hr := B.returns
  have hts := atoms_spec (ws := wsX6_cutTo) B.pre
  have hown : s.vm.findClass RX6 = some m.cls := findClass_of_methodNamed B.named
  have hlocks := B.notSynchronized
  subst hsz
  have hD := hD0.self (sz := s.heap.size)
  generalize hAe : va_A [(a6, .inr (6, [.int v6length, .ref r6bytes]))] s.heap.size = A at hD ⊢
  have hA : ∀ q : Nat, s.heap.size ≤ q → A q := fun q h => by rw [← hAe]; exact Or.inr h
  have hS : va_S A s.heap s.heap [] := va_S.rf
  have hiX6 : ∀ w ∈ u_ws RX6 TX6 2, w ∈ wsX6_cutTo := by decide +kernel
  have lk9 := hts (.fieldLink RX6 9 "StallBook$Tape" "length" "I") (by decide +kernel)
  delta wp_X6_cutTo at h
  have hl := lv_entry [.ref a6, .int p1] (n := 2) (Nat.le_of_ble_eq_true rfl)
  rw [lg_entry_eq]
  generalize (lg_sl [.ref a6, .int p1] ++ List.replicate (2 - (lg_sl [.ref a6, .int p1]).length) Slot.unset).toArray = ls at hl ⊢
  replace hl : lv_has ls 2 [(0, .ref a6), (1, .int p1)] := hl
  refine lv_iload_n hx hb dX6_cutTo_0 rfl (lv_at hl 1 rfl) ?_
  refine lv_if_lt (tgt := 12) hx hb dX6_cutTo_1 (by decide) (fun c => ?_) (fun c => ?_)
  · replace h := h.1 c
    refine lv_iconst (v := 0) hx hb dX6_cutTo_12 (by decide) ?_
    exact W.zret (v := 0) (ty := .boolean) hx hb hr rfl (fun t ht hW => ⟨⟨0, v6length, rfl, h, by rw [ht]; exact hP, hD⟩, hS.F ht⟩) hS.2.2 dX6_cutTo_13
  · replace h := h.2 c
    refine lv_iload_n hx hb dX6_cutTo_4 rfl (lv_at hl 1 rfl) ?_
    refine lv_aload_n hx hb dX6_cutTo_5 rfl (lv_at hl 0 rfl) ?_
    refine va_get (D := (dC, dI)) (ci := 6) (v := .int v6length) (C := RX6) (T := TX6) (N := 2) hx hb hts hiX6 hown hK hP 0 rfl rfl 0 (by decide) lk9 (fun _ h9 => h9) rfl dX6_cutTo_6 ?_
    refine lv_icmp_le (tgt := 14) hx hb dX6_cutTo_9 (by decide) (fun c => ?_) (fun c => ?_)
    · replace h := h.1 c
      refine lv_aload_n hx hb dX6_cutTo_14 rfl (lv_at hl 0 rfl) ?_
      refine lv_iload_n hx hb dX6_cutTo_15 rfl (lv_at hl 1 rfl) ?_
      refine va_put (D := (dC, dI)) (ci := 6) (v := .int p1) (ty := .int) (C := RX6) (T := TX6) (N := 2) hx hb hts hiX6 tyX6 tyX6_ok nmX6 hown hK hP hD hS 0 rfl rfl 0 (by decide) lk9 (fun _ h9 => h9) rfl (by decide +kernel) rfl rfl (Nat.le_of_ble_eq_true rfl) dX6_cutTo_16 (fun H locs hP hD hS => ?_)
      replace hP : va_P (dC, dI) vwCl [(a6, .inr (6, [.int p1, .ref r6bytes]))] H := hP
      replace hD : va_D A [(a6, .inr (6, [.int p1, .ref r6bytes]))] := hD
      refine lv_iconst (v := 1) hx hb dX6_cutTo_19 (by decide) ?_
      exact W.zret (v := 1) (ty := .boolean) hx hb hr rfl (fun t ht hW => ⟨⟨1, p1, rfl, h, by rw [ht]; exact hP, hD⟩, hS.F ht⟩) hS.2.2 dX6_cutTo_20
    · replace h := h.2 c
      refine lv_iconst (v := 0) hx hb dX6_cutTo_12 (by decide) ?_
      exact W.zret (v := 0) (ty := .boolean) hx hb hr rfl (fun t ht hW => ⟨⟨0, v6length, rfl, h, by rw [ht]; exact hP, hD⟩, hS.F ht⟩) hS.2.2 dX6_cutTo_13
def wp_X6_at (p1 : Int32) (v6length : Int32) (f6bytes : Nat → Int32) (Post : Int32 → Unit → Prop) : Prop := (((p1 < 0) → (Post (-1) ())) ∧ ((¬ p1 < 0) → (((v6length ≤ p1) → (Post (-1) ())) ∧ ((¬ v6length ≤ p1) → (vp_in p1 200 ∧ (Post ((f6bytes p1.toNatClampNeg) &&& 255) ()))))))
set_option maxHeartbeats 4000000 in
set_option maxRecDepth 100000 in
theorem c_X6_at (l : Launch) (dC : Nat → ClassId) (dI : Nat → Nat → Nat) (cyI cyZ cyB : ClassId) (a6 : Nat) (r6bytes : Nat) (sz : Nat) (v6length : Int32) (f6bytes : Nat → Int32) (p1 : Int32) (Post : Int32 → Unit → Prop) (h : wp_X6_at p1 v6length f6bytes Post) : Met l yX6_at wsX6_at ({ frames := 0, cells := 0, slots := 0, locals := 0 } : Room) (MPre (dC, dI) [(cyI, .int), (cyZ, .boolean), (cyB, .byte)] [.ref a6, .int p1] sz [(a6, .inr (6, [.int v6length, .ref r6bytes])), (r6bytes, .inl (cyB, 200, .inl f6bytes))]) (va_Qi Post (fun (u : Unit) (t : State) => va_P (dC, dI) vwCl [(a6, .inr (6, [.int v6length, .ref r6bytes])), (r6bytes, .inl (cyB, 200, .inl f6bytes))] t.heap ∧ va_D (va_A [(a6, .inr (6, [.int v6length, .ref r6bytes])), (r6bytes, .inl (cyB, 200, .inl f6bytes))] sz) [(a6, .inr (6, [.int v6length, .ref r6bytes])), (r6bytes, .inl (cyB, 200, .inl f6bytes))]) (va_A [(a6, .inr (6, [.int v6length, .ref r6bytes])), (r6bytes, .inl (cyB, 200, .inl f6bytes))] sz)) 0 0 (va_A [(a6, .inr (6, [.int v6length, .ref r6bytes])), (r6bytes, .inl (cyB, 200, .inl f6bytes))] sz) := by
  refine Met.ofW (cc := cX6_at) (maxL := 2) (ret := (some .int)) (by decide) rfl ?_
  intro p e s m args below meth c s₁ B hml hv
  obtain ⟨rfl, hsz, hP, hK, hD0, hN⟩ := hv
  have hx := B.exec
  have hb := B.bytes
  have hr := B.returns
  have hts := atoms_spec (ws := wsX6_at) B.pre
  have hown : s.vm.findClass RX6 = some m.cls := findClass_of_methodNamed B.named
  have hlocks := B.notSynchronized
  subst hsz
  have hD := hD0.self (sz := s.heap.size)
  generalize hAe : va_A [(a6, .inr (6, [.int v6length, .ref r6bytes])), (r6bytes, .inl (cyB, 200, .inl f6bytes))] s.heap.size = A at hD ⊢
  have hA : ∀ q : Nat, s.heap.size ≤ q → A q := fun q h => by rw [← hAe]; exact Or.inr h
  have hS : va_S A s.heap s.heap [] := va_S.rf
  have hiX6 : ∀ w ∈ u_ws RX6 TX6 2, w ∈ wsX6_at := by decide +kernel
  have lk9 := hts (.fieldLink RX6 9 "StallBook$Tape" "length" "I") (by decide +kernel)
  have lk15 := hts (.fieldLink RX6 15 "StallBook$Tape" "bytes" "[B") (by decide +kernel)
  delta wp_X6_at at h
  have hl := lv_entry [.ref a6, .int p1] (n := 2) (Nat.le_of_ble_eq_true rfl)
  rw [lg_entry_eq]
  generalize (lg_sl [.ref a6, .int p1] ++ List.replicate (2 - (lg_sl [.ref a6, .int p1]).length) Slot.unset).toArray = ls at hl ⊢
  replace hl : lv_has ls 2 [(0, .ref a6), (1, .int p1)] := hl
  refine lv_iload_n hx hb dX6_at_0 rfl (lv_at hl 1 rfl) ?_
  refine lv_if_lt (tgt := 25) hx hb dX6_at_1 (by decide) (fun c => ?_) (fun c => ?_)
  · replace h := h.1 c
    refine lv_iconst (v := (-1)) hx hb dX6_at_25 (by decide) ?_
    exact W.iret (v := (-1)) hx hb hr (fun t ht hW => ⟨⟨(-1), (), rfl, h, by rw [ht]; exact hP, hD⟩, hS.F ht⟩) hS.2.2 dX6_at_26
  · replace h := h.2 c
    refine lv_iload_n hx hb dX6_at_4 rfl (lv_at hl 1 rfl) ?_
    refine lv_aload_n hx hb dX6_at_5 rfl (lv_at hl 0 rfl) ?_
    refine va_get (D := (dC, dI)) (ci := 6) (v := .int v6length) (C := RX6) (T := TX6) (N := 2) hx hb hts hiX6 hown hK hP 0 rfl rfl 0 (by decide) lk9 (fun _ h9 => h9) rfl dX6_at_6 ?_
    refine lv_icmp_ge (tgt := 25) hx hb dX6_at_9 (by decide) (fun c => ?_) (fun c => ?_)
    · replace h := h.1 c
      refine lv_iconst (v := (-1)) hx hb dX6_at_25 (by decide) ?_
      exact W.iret (v := (-1)) hx hb hr (fun t ht hW => ⟨⟨(-1), (), rfl, h, by rw [ht]; exact hP, hD⟩, hS.F ht⟩) hS.2.2 dX6_at_26
    · replace h := h.2 c
      refine lv_aload_n hx hb dX6_at_12 rfl (lv_at hl 0 rfl) ?_
      refine va_get (D := (dC, dI)) (ci := 6) (v := .ref r6bytes) (C := RX6) (T := TX6) (N := 2) hx hb hts hiX6 hown hK hP 0 rfl rfl 1 (by decide) lk15 (fun _ h9 => h9) rfl dX6_at_13 ?_
      refine lv_iload_n hx hb dX6_at_16 rfl (lv_at hl 1 rfl) ?_
      refine va_bald hx hb hK hP 1 2 rfl rfl h.1 dX6_at_17 ?_
      replace h := h.2
      refine lv_sipush (v := 255) hx hb dX6_at_18 (by decide) ?_
      refine lv_iand hx hb dX6_at_21 ?_
      refine lv_goto (tgt := 26) hx hb dX6_at_22 (by decide) ?_
      exact W.iret (v := ((f6bytes p1.toNatClampNeg) &&& 255)) hx hb hr (fun t ht hW => ⟨⟨((f6bytes p1.toNatClampNeg) &&& 255), (), rfl, h, by rw [ht]; exact hP, hD⟩, hS.F ht⟩) hS.2.2 dX6_at_26
