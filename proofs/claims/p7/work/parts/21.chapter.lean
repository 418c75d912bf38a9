def wp_X2_hasCanon (p1 : Int32) (v2canons : Int32) (Post : Int32 → Unit → Prop) : Prop := (((p1 < 0) → (Post 0 ())) ∧ ((¬ p1 < 0) → (((v2canons ≤ p1) → (Post 0 ())) ∧ ((¬ v2canons ≤ p1) → (Post 1 ())))))
set_option maxHeartbeats 4000000 in
set_option maxRecDepth 100000 in
theorem c_X2_hasCanon (l : Launch) (dC : Nat → ClassId) (dI : Nat → Nat → Nat) (cyI cyZ cyB : ClassId) (a2 : Nat) (r2there : Nat) (r2stallOf : Nat) (r2worth : Nat) (r2holder : Nat) (r2wishes : Nat) (r2mover : Nat) (r2movedFrom : Nat) (r2movedTo : Nat) (sz : Nat) (v2canons : Int32) (v2present : Int32) (v2stalls : Int32) (v2moves : Int32) (p1 : Int32) (Post : Int32 → Unit → Prop) (h : wp_X2_hasCanon p1 v2canons Post) : Met l yX2_hasCanon wsX2_hasCanon ({ frames := 0, cells := 0, slots := 0, locals := 0 } : Room) (MPre (dC, dI) [(cyI, .int), (cyZ, .boolean), (cyB, .byte)] [.ref a2, .int p1] sz [(a2, .inr (2, [.int v2canons, .int v2present, .int v2stalls, .ref r2there, .ref r2stallOf, .ref r2worth, .ref r2holder, .ref r2wishes, .int v2moves, .ref r2mover, .ref r2movedFrom, .ref r2movedTo]))]) (va_Qi Post (fun (u : Unit) (t : State) => va_P (dC, dI) vwCl [(a2, .inr (2, [.int v2canons, .int v2present, .int v2stalls, .ref r2there, .ref r2stallOf, .ref r2worth, .ref r2holder, .ref r2wishes, .int v2moves, .ref r2mover, .ref r2movedFrom, .ref r2movedTo]))] t.heap ∧ va_D (va_A [(a2, .inr (2, [.int v2canons, .int v2present, .int v2stalls, .ref r2there, .ref r2stallOf, .ref r2worth, .ref r2holder, .ref r2wishes, .int v2moves, .ref r2mover, .ref r2movedFrom, .ref r2movedTo]))] sz) [(a2, .inr (2, [.int v2canons, .int v2present, .int v2stalls, .ref r2there, .ref r2stallOf, .ref r2worth, .ref r2holder, .ref r2wishes, .int v2moves, .ref r2mover, .ref r2movedFrom, .ref r2movedTo]))]) (va_A [(a2, .inr (2, [.int v2canons, .int v2present, .int v2stalls, .ref r2there, .ref r2stallOf, .ref r2worth, .ref r2holder, .ref r2wishes, .int v2moves, .ref r2mover, .ref r2movedFrom, .ref r2movedTo]))] sz)) 0 0 (va_A [(a2, .inr (2, [.int v2canons, .int v2present, .int v2stalls, .ref r2there, .ref r2stallOf, .ref r2worth, .ref r2holder, .ref r2wishes, .int v2moves, .ref r2mover, .ref r2movedFrom, .ref r2movedTo]))] sz) := by
  refine Met.ofW (cc := cX2_hasCanon) (maxL := 2) (ret := (some .boolean)) (by decide) rfl ?_
  intro p e s m args below meth c s₁ B hml hv
  obtain ⟨rfl, hsz, hP, hK, hD0, hN⟩ := hv
  have hx := B.exec
  have hb := B.bytes
  have hr := B.returns
  have hts := atoms_spec (ws := wsX2_hasCanon) B.pre
  have hown : s.vm.findClass RX2 = some m.cls := findClass_of_methodNamed B.named
  have hlocks := B.notSynchronized
  subst hsz
  have hD := hD0.self (sz := s.heap.size)
  generalize hAe : va_A [(a2, .inr (2, [.int v2canons, .int v2present, .int v2stalls, .ref r2there, .ref r2stallOf, .ref r2worth, .ref r2holder, .ref r2wishes, .int v2moves, .ref r2mover, .ref r2movedFrom, .ref r2movedTo]))] s.heap.size = A at hD ⊢
  have hA : ∀ q : Nat, s.heap.size ≤ q → A q := fun q h => by rw [← hAe]; exact Or.inr h
  have hS : va_S A s.heap s.heap [] := va_S.rf
  have hiX2 : ∀ w ∈ u_ws RX2 TX2 12, w ∈ wsX2_hasCanon := by decide +kernel
  have lk9 := hts (.fieldLink RX2 9 "StallBook$Chapter" "canons" "I") (by decide +kernel)
  delta wp_X2_hasCanon at h
  have hl := lv_entry [.ref a2, .int p1] (n := 2) (Nat.le_of_ble_eq_true rfl)
  rw [lg_entry_eq]
  generalize (lg_sl [.ref a2, .int p1] ++ List.replicate (2 - (lg_sl [.ref a2, .int p1]).length) Slot.unset).toArray = ls at hl ⊢
  replace hl : lv_has ls 2 [(0, .ref a2), (1, .int p1)] := hl
  refine lv_iload_n hx hb dX2_hasCanon_0 rfl (lv_at hl 1 rfl) ?_
  refine lv_if_lt (tgt := 16) hx hb dX2_hasCanon_1 (by decide) (fun c => ?_) (fun c => ?_)
  · replace h := h.1 c
    refine lv_iconst (v := 0) hx hb dX2_hasCanon_16 (by decide) ?_
    exact W.zret (v := 0) (ty := .boolean) hx hb hr rfl (fun t ht hW => ⟨⟨0, (), rfl, h, by rw [ht]; exact hP, hD⟩, hS.F ht⟩) hS.2.2 dX2_hasCanon_17
  · replace h := h.2 c
    refine lv_iload_n hx hb dX2_hasCanon_4 rfl (lv_at hl 1 rfl) ?_
    refine lv_aload_n hx hb dX2_hasCanon_5 rfl (lv_at hl 0 rfl) ?_
    refine va_get (D := (dC, dI)) (ci := 2) (v := .int v2canons) (C := RX2) (T := TX2) (N := 12) hx hb hts hiX2 hown hK hP 0 rfl rfl 0 (by decide) lk9 (fun _ h9 => h9) rfl dX2_hasCanon_6 ?_
    refine lv_icmp_ge (tgt := 16) hx hb dX2_hasCanon_9 (by decide) (fun c => ?_) (fun c => ?_)
    · replace h := h.1 c
      refine lv_iconst (v := 0) hx hb dX2_hasCanon_16 (by decide) ?_
      exact W.zret (v := 0) (ty := .boolean) hx hb hr rfl (fun t ht hW => ⟨⟨0, (), rfl, h, by rw [ht]; exact hP, hD⟩, hS.F ht⟩) hS.2.2 dX2_hasCanon_17
    · replace h := h.2 c
      refine lv_iconst (v := 1) hx hb dX2_hasCanon_12 (by decide) ?_
      refine lv_goto (tgt := 17) hx hb dX2_hasCanon_13 (by decide) ?_
      exact W.zret (v := 1) (ty := .boolean) hx hb hr rfl (fun t ht hW => ⟨⟨1, (), rfl, h, by rw [ht]; exact hP, hD⟩, hS.F ht⟩) hS.2.2 dX2_hasCanon_17
def wp_X2_isThere (p1 : Int32) (v2canons : Int32) (f2there : Nat → Int32) (Post : Int32 → Unit → Prop) : Prop := (wp_X2_hasCanon p1 v2canons (fun (r1 : Int32) (u2 : Unit) => (((r1 = 0) → (Post 0 ())) ∧ ((¬ r1 = 0) → (vp_in p1 20 ∧ ((((f2there p1.toNatClampNeg) = 0) → (Post 0 ())) ∧ ((¬ (f2there p1.toNatClampNeg) = 0) → (Post 1 ()))))))))
set_option maxHeartbeats 4000000 in
set_option maxRecDepth 100000 in
theorem c_X2_isThere (l : Launch) (dC : Nat → ClassId) (dI : Nat → Nat → Nat) (cyI cyZ cyB : ClassId) (a2 : Nat) (r2there : Nat) (r2stallOf : Nat) (r2worth : Nat) (r2holder : Nat) (r2wishes : Nat) (r2mover : Nat) (r2movedFrom : Nat) (r2movedTo : Nat) (sz : Nat) (v2canons : Int32) (v2present : Int32) (v2stalls : Int32) (v2moves : Int32) (f2there : Nat → Int32) (p1 : Int32) (Post : Int32 → Unit → Prop) (h : wp_X2_isThere p1 v2canons f2there Post) : Met l yX2_isThere wsX2_isThere ({ frames := 1, cells := 0, slots := 0, locals := 21 } : Room) (MPre (dC, dI) [(cyI, .int), (cyZ, .boolean), (cyB, .byte)] [.ref a2, .int p1] sz [(a2, .inr (2, [.int v2canons, .int v2present, .int v2stalls, .ref r2there, .ref r2stallOf, .ref r2worth, .ref r2holder, .ref r2wishes, .int v2moves, .ref r2mover, .ref r2movedFrom, .ref r2movedTo])), (r2there, .inl (cyZ, 20, .inl f2there))]) (va_Qi Post (fun (u : Unit) (t : State) => va_P (dC, dI) vwCl [(a2, .inr (2, [.int v2canons, .int v2present, .int v2stalls, .ref r2there, .ref r2stallOf, .ref r2worth, .ref r2holder, .ref r2wishes, .int v2moves, .ref r2mover, .ref r2movedFrom, .ref r2movedTo])), (r2there, .inl (cyZ, 20, .inl f2there))] t.heap ∧ va_D (va_A [(a2, .inr (2, [.int v2canons, .int v2present, .int v2stalls, .ref r2there, .ref r2stallOf, .ref r2worth, .ref r2holder, .ref r2wishes, .int v2moves, .ref r2mover, .ref r2movedFrom, .ref r2movedTo])), (r2there, .inl (cyZ, 20, .inl f2there))] sz) [(a2, .inr (2, [.int v2canons, .int v2present, .int v2stalls, .ref r2there, .ref r2stallOf, .ref r2worth, .ref r2holder, .ref r2wishes, .int v2moves, .ref r2mover, .ref r2movedFrom, .ref r2movedTo])), (r2there, .inl (cyZ, 20, .inl f2there))]) (va_A [(a2, .inr (2, [.int v2canons, .int v2present, .int v2stalls, .ref r2there, .ref r2stallOf, .ref r2worth, .ref r2holder, .ref r2wishes, .int v2moves, .ref r2mover, .ref r2movedFrom, .ref r2movedTo])), (r2there, .inl (cyZ, 20, .inl f2there))] sz)) 0 0 (va_A [(a2, .inr (2, [.int v2canons, .int v2present, .int v2stalls, .ref r2there, .ref r2stallOf, .ref r2worth, .ref r2holder, .ref r2wishes, .int v2moves, .ref r2mover, .ref r2movedFrom, .ref r2movedTo])), (r2there, .inl (cyZ, 20, .inl f2there))] sz) := by
  refine Met.ofW (cc := cX2_isThere) (maxL := 2) (ret := (some .boolean)) (by decide) rfl ?_
  intro p e s m args below meth c s₁ B hml hv
  obtain ⟨rfl, hsz, hP, hK, hD0, hN⟩ := hv
  have hx := B.exec
  have hb := B.bytes
  have hr := B.returns
  have hts := atoms_spec (ws := wsX2_isThere) B.pre
  have hown : s.vm.findClass RX2 = some m.cls := findClass_of_methodNamed B.named
  have hlocks := B.notSynchronized
  subst hsz
  have hD := hD0.self (sz := s.heap.size)
  generalize hAe : va_A [(a2, .inr (2, [.int v2canons, .int v2present, .int v2stalls, .ref r2there, .ref r2stallOf, .ref r2worth, .ref r2holder, .ref r2wishes, .int v2moves, .ref r2mover, .ref r2movedFrom, .ref r2movedTo])), (r2there, .inl (cyZ, 20, .inl f2there))] s.heap.size = A at hD ⊢
  have hA : ∀ q : Nat, s.heap.size ≤ q → A q := fun q h => by rw [← hAe]; exact Or.inr h
  have hS : va_S A s.heap s.heap [] := va_S.rf
  have hiX2 : ∀ w ∈ u_ws RX2 TX2 12, w ∈ wsX2_isThere := by decide +kernel
  have lk21 := hts (.fieldLink RX2 21 "StallBook$Chapter" "there" "[Z") (by decide +kernel)
  delta wp_X2_isThere at h
  have hl := lv_entry [.ref a2, .int p1] (n := 2) (Nat.le_of_ble_eq_true rfl)
  rw [lg_entry_eq]
  generalize (lg_sl [.ref a2, .int p1] ++ List.replicate (2 - (lg_sl [.ref a2, .int p1]).length) Slot.unset).toArray = ls at hl ⊢
  replace hl : lv_has ls 2 [(0, .ref a2), (1, .int p1)] := hl
  refine lv_aload_n hx hb dX2_isThere_0 rfl (lv_at hl 0 rfl) ?_
  refine lv_iload_n hx hb dX2_isThere_1 rfl (lv_at hl 1 rfl) ?_
  refine mc_i hP hD hS hA [0] [1] [1, 0] [(r2there, .inl (cyZ, 20, .inl f2there))] (fun (u2 : Unit) => [(a2, .inr (2, [.int v2canons, .int v2present, .int v2stalls, .ref r2there, .ref r2stallOf, .ref r2worth, .ref r2holder, .ref r2wishes, .int v2moves, .ref r2mover, .ref r2movedFrom, .ref r2movedTo])), (r2there, .inl (cyZ, 20, .inl f2there))]) rfl rfl (by decide) (by decide) (by decide) (fun _ => rfl) (fun _ => rfl) (va_runV (As := [.int p1]) (rest := []) ⟨hx, hb, hml, hown, hts⟩ (c_X2_hasCanon l dC dI cyI cyZ cyB a2 r2there r2stallOf r2worth r2holder r2wishes r2mover r2movedFrom r2movedTo s.heap.size v2canons v2present v2stalls v2moves p1 _ h) (cwV 1 hts gX2_isThere_X2_hasCanon rfl rfl rfl (by decide +kernel) ⟨Nat.le_of_ble_eq_true rfl, Nat.le_of_ble_eq_true rfl⟩) ⟨MPre_blind, va_recv hK hP (ci := 2) (q0 := 0) rfl rfl, MPre_here [0] hP hD hK hN (by decide) rfl rfl⟩ rfl rfl hl.1 rfl (lv_room (Nat.le_of_ble_eq_true rfl)) dX2_isThere_2 ⟨Nat.zero_le _, Nat.zero_le _⟩) (fun r1 u2 H locs h hP hD hS => ?_)
  replace hP : va_P (dC, dI) vwCl [(a2, .inr (2, [.int v2canons, .int v2present, .int v2stalls, .ref r2there, .ref r2stallOf, .ref r2worth, .ref r2holder, .ref r2wishes, .int v2moves, .ref r2mover, .ref r2movedFrom, .ref r2movedTo])), (r2there, .inl (cyZ, 20, .inl f2there))] H := hP
  replace hD : va_D A [(a2, .inr (2, [.int v2canons, .int v2present, .int v2stalls, .ref r2there, .ref r2stallOf, .ref r2worth, .ref r2holder, .ref r2wishes, .int v2moves, .ref r2mover, .ref r2movedFrom, .ref r2movedTo])), (r2there, .inl (cyZ, 20, .inl f2there))] := hD
  refine lv_if_eq (tgt := 21) hx hb dX2_isThere_5 (by decide) (fun c => ?_) (fun c => ?_)
  · replace h := h.1 c
    refine lv_iconst (v := 0) hx hb dX2_isThere_21 (by decide) ?_
    exact W.zret (v := 0) (ty := .boolean) hx hb hr rfl (fun t ht hW => ⟨⟨0, (), rfl, h, by rw [ht]; exact hP, hD⟩, hS.F ht⟩) hS.2.2 dX2_isThere_22
  · replace h := h.2 c
    refine lv_aload_n hx hb dX2_isThere_8 rfl (lv_at hl 0 rfl) ?_
    refine va_get (D := (dC, dI)) (ci := 2) (v := .ref r2there) (C := RX2) (T := TX2) (N := 12) hx hb hts hiX2 hown hK hP 0 rfl rfl 3 (by decide) lk21 (fun _ h9 => h9) rfl dX2_isThere_9 ?_
    refine lv_iload_n hx hb dX2_isThere_12 rfl (lv_at hl 1 rfl) ?_
    refine va_zald hx hb hK hP 1 1 rfl rfl h.1 dX2_isThere_13 ?_
    replace h := h.2
    refine lv_if_eq (tgt := 21) hx hb dX2_isThere_14 (by decide) (fun c => ?_) (fun c => ?_)
    · replace h := h.1 c
      refine lv_iconst (v := 0) hx hb dX2_isThere_21 (by decide) ?_
      exact W.zret (v := 0) (ty := .boolean) hx hb hr rfl (fun t ht hW => ⟨⟨0, (), rfl, h, by rw [ht]; exact hP, hD⟩, hS.F ht⟩) hS.2.2 dX2_isThere_22
    · replace h := h.2 c
      refine lv_iconst (v := 1) hx hb dX2_isThere_17 (by decide) ?_
      refine lv_goto (tgt := 22) hx hb dX2_isThere_18 (by decide) ?_
      exact W.zret (v := 1) (ty := .boolean) hx hb hr rfl (fun t ht hW => ⟨⟨1, (), rfl, h, by rw [ht]; exact hP, hD⟩, hS.F ht⟩) hS.2.2 dX2_isThere_22
def wp_X2_hasStall (p1 : Int32) (v2stalls : Int32) (Post : Int32 → Unit → Prop) : Prop := (((p1 < 0) → (Post 0 ())) ∧ ((¬ p1 < 0) → (((v2stalls ≤ p1) → (Post 0 ())) ∧ ((¬ v2stalls ≤ p1) → (Post 1 ())))))
set_option maxHeartbeats 4000000 in
set_option maxRecDepth 100000 in
theorem c_X2_hasStall (l : Launch) (dC : Nat → ClassId) (dI : Nat → Nat → Nat) (cyI cyZ cyB : ClassId) (a2 : Nat) (r2there : Nat) (r2stallOf : Nat) (r2worth : Nat) (r2holder : Nat) (r2wishes : Nat) (r2mover : Nat) (r2movedFrom : Nat) (r2movedTo : Nat) (sz : Nat) (v2canons : Int32) (v2present : Int32) (v2stalls : Int32) (v2moves : Int32) (p1 : Int32) (Post : Int32 → Unit → Prop) (h : wp_X2_hasStall p1 v2stalls Post) : Met l yX2_hasStall wsX2_hasStall ({ frames := 0, cells := 0, slots := 0, locals := 0 } : Room) (MPre (dC, dI) [(cyI, .int), (cyZ, .boolean), (cyB, .byte)] [.ref a2, .int p1] sz [(a2, .inr (2, [.int v2canons, .int v2present, .int v2stalls, .ref r2there, .ref r2stallOf, .ref r2worth, .ref r2holder, .ref r2wishes, .int v2moves, .ref r2mover, .ref r2movedFrom, .ref r2movedTo]))]) (va_Qi Post (fun (u : Unit) (t : State) => va_P (dC, dI) vwCl [(a2, .inr (2, [.int v2canons, .int v2present, .int v2stalls, .ref r2there, .ref r2stallOf, .ref r2worth, .ref r2holder, .ref r2wishes, .int v2moves, .ref r2mover, .ref r2movedFrom, .ref r2movedTo]))] t.heap ∧ va_D (va_A [(a2, .inr (2, [.int v2canons, .int v2present, .int v2stalls, .ref r2there, .ref r2stallOf, .ref r2worth, .ref r2holder, .ref r2wishes, .int v2moves, .ref r2mover, .ref r2movedFrom, .ref r2movedTo]))] sz) [(a2, .inr (2, [.int v2canons, .int v2present, .int v2stalls, .ref r2there, .ref r2stallOf, .ref r2worth, .ref r2holder, .ref r2wishes, .int v2moves, .ref r2mover, .ref r2movedFrom, .ref r2movedTo]))]) (va_A [(a2, .inr (2, [.int v2canons, .int v2present, .int v2stalls, .ref r2there, .ref r2stallOf, .ref r2worth, .ref r2holder, .ref r2wishes, .int v2moves, .ref r2mover, .ref r2movedFrom, .ref r2movedTo]))] sz)) 0 0 (va_A [(a2, .inr (2, [.int v2canons, .int v2present, .int v2stalls, .ref r2there, .ref r2stallOf, .ref r2worth, .ref r2holder, .ref r2wishes, .int v2moves, .ref r2mover, .ref r2movedFrom, .ref r2movedTo]))] sz) := by
  refine Met.ofW (cc := cX2_hasStall) (maxL := 2) (ret := (some .boolean)) (by decide) rfl ?_
  intro p e s m args below meth c s₁ B hml hv
  obtain ⟨rfl, hsz, hP, hK, hD0, hN⟩ := hv
  have hx := B.exec
  have hb := B.bytes
  have hr := B.returns
  have hts := atoms_spec (ws := wsX2_hasStall) B.pre
  have hown : s.vm.findClass RX2 = some m.cls := findClass_of_methodNamed B.named
  have hlocks := B.notSynchronized
  subst hsz
  have hD := hD0.self (sz := s.heap.size)
  generalize hAe : va_A [(a2, .inr (2, [.int v2canons, .int v2present, .int v2stalls, .ref r2there, .ref r2stallOf, .ref r2worth, .ref r2holder, .ref r2wishes, .int v2moves, .ref r2mover, .ref r2movedFrom, .ref r2movedTo]))] s.heap.size = A at hD ⊢
  have hA : ∀ q : Nat, s.heap.size ≤ q → A q := fun q h => by rw [← hAe]; exact Or.inr h
  have hS : va_S A s.heap s.heap [] := va_S.rf
  have hiX2 : ∀ w ∈ u_ws RX2 TX2 12, w ∈ wsX2_hasStall := by decide +kernel
  have lk18 := hts (.fieldLink RX2 18 "StallBook$Chapter" "stalls" "I") (by decide +kernel)
  delta wp_X2_hasStall at h
  have hl := lv_entry [.ref a2, .int p1] (n := 2) (Nat.le_of_ble_eq_true rfl)
  rw [lg_entry_eq]
  generalize (lg_sl [.ref a2, .int p1] ++ List.replicate (2 - (lg_sl [.ref a2, .int p1]).length) Slot.unset).toArray = ls at hl ⊢
  replace hl : lv_has ls 2 [(0, .ref a2), (1, .int p1)] := hl
  refine lv_iload_n hx hb dX2_hasStall_0 rfl (lv_at hl 1 rfl) ?_
  refine lv_if_lt (tgt := 16) hx hb dX2_hasStall_1 (by decide) (fun c => ?_) (fun c => ?_)
  · replace h := h.1 c
    refine lv_iconst (v := 0) hx hb dX2_hasStall_16 (by decide) ?_
    exact W.zret (v := 0) (ty := .boolean) hx hb hr rfl (fun t ht hW => ⟨⟨0, (), rfl, h, by rw [ht]; exact hP, hD⟩, hS.F ht⟩) hS.2.2 dX2_hasStall_17
  · replace h := h.2 c
    refine lv_iload_n hx hb dX2_hasStall_4 rfl (lv_at hl 1 rfl) ?_
    refine lv_aload_n hx hb dX2_hasStall_5 rfl (lv_at hl 0 rfl) ?_
    refine va_get (D := (dC, dI)) (ci := 2) (v := .int v2stalls) (C := RX2) (T := TX2) (N := 12) hx hb hts hiX2 hown hK hP 0 rfl rfl 2 (by decide) lk18 (fun _ h9 => h9) rfl dX2_hasStall_6 ?_
    refine lv_icmp_ge (tgt := 16) hx hb dX2_hasStall_9 (by decide) (fun c => ?_) (fun c => ?_)
    · replace h := h.1 c
      refine lv_iconst (v := 0) hx hb dX2_hasStall_16 (by decide) ?_
      exact W.zret (v := 0) (ty := .boolean) hx hb hr rfl (fun t ht hW => ⟨⟨0, (), rfl, h, by rw [ht]; exact hP, hD⟩, hS.F ht⟩) hS.2.2 dX2_hasStall_17
    · replace h := h.2 c
      refine lv_iconst (v := 1) hx hb dX2_hasStall_12 (by decide) ?_
      refine lv_goto (tgt := 17) hx hb dX2_hasStall_13 (by decide) ?_
      exact W.zret (v := 1) (ty := .boolean) hx hb hr rfl (fun t ht hW => ⟨⟨1, (), rfl, h, by rw [ht]; exact hP, hD⟩, hS.F ht⟩) hS.2.2 dX2_hasStall_17
def wp_X2_holderOf (p1 : Int32) (v2stalls : Int32) (f2holder : Nat → Int32) (Post : Int32 → Unit → Prop) : Prop := (wp_X2_hasStall p1 v2stalls (fun (r1 : Int32) (u2 : Unit) => (((r1 = 0) → (Post (-1) ())) ∧ ((¬ r1 = 0) → (vp_in p1 12 ∧ (Post (f2holder p1.toNatClampNeg) ()))))))
set_option maxHeartbeats 4000000 in
set_option maxRecDepth 100000 in
theorem c_X2_holderOf (l : Launch) (dC : Nat → ClassId) (dI : Nat → Nat → Nat) (cyI cyZ cyB : ClassId) (a2 : Nat) (r2there : Nat) (r2stallOf : Nat) (r2worth : Nat) (r2holder : Nat) (r2wishes : Nat) (r2mover : Nat) (r2movedFrom : Nat) (r2movedTo : Nat) (sz : Nat) (v2canons : Int32) (v2present : Int32) (v2stalls : Int32) (v2moves : Int32) (f2holder : Nat → Int32) (p1 : Int32) (Post : Int32 → Unit → Prop) (h : wp_X2_holderOf p1 v2stalls f2holder Post) : Met l yX2_holderOf wsX2_holderOf ({ frames := 1, cells := 0, slots := 0, locals := 21 } : Room) (MPre (dC, dI) [(cyI, .int), (cyZ, .boolean), (cyB, .byte)] [.ref a2, .int p1] sz [(a2, .inr (2, [.int v2canons, .int v2present, .int v2stalls, .ref r2there, .ref r2stallOf, .ref r2worth, .ref r2holder, .ref r2wishes, .int v2moves, .ref r2mover, .ref r2movedFrom, .ref r2movedTo])), (r2holder, .inl (cyI, 12, .inl f2holder))]) (va_Qi Post (fun (u : Unit) (t : State) => va_P (dC, dI) vwCl [(a2, .inr (2, [.int v2canons, .int v2present, .int v2stalls, .ref r2there, .ref r2stallOf, .ref r2worth, .ref r2holder, .ref r2wishes, .int v2moves, .ref r2mover, .ref r2movedFrom, .ref r2movedTo])), (r2holder, .inl (cyI, 12, .inl f2holder))] t.heap ∧ va_D (va_A [(a2, .inr (2, [.int v2canons, .int v2present, .int v2stalls, .ref r2there, .ref r2stallOf, .ref r2worth, .ref r2holder, .ref r2wishes, .int v2moves, .ref r2mover, .ref r2movedFrom, .ref r2movedTo])), (r2holder, .inl (cyI, 12, .inl f2holder))] sz) [(a2, .inr (2, [.int v2canons, .int v2present, .int v2stalls, .ref r2there, .ref r2stallOf, .ref r2worth, .ref r2holder, .ref r2wishes, .int v2moves, .ref r2mover, .ref r2movedFrom, .ref r2movedTo])), (r2holder, .inl (cyI, 12, .inl f2holder))]) (va_A [(a2, .inr (2, [.int v2canons, .int v2present, .int v2stalls, .ref r2there, .ref r2stallOf, .ref r2worth, .ref r2holder, .ref r2wishes, .int v2moves, .ref r2mover, .ref r2movedFrom, .ref r2movedTo])), (r2holder, .inl (cyI, 12, .inl f2holder))] sz)) 0 0 (va_A [(a2, .inr (2, [.int v2canons, .int v2present, .int v2stalls, .ref r2there, .ref r2stallOf, .ref r2worth, .ref r2holder, .ref r2wishes, .int v2moves, .ref r2mover, .ref r2movedFrom, .ref r2movedTo])), (r2holder, .inl (cyI, 12, .inl f2holder))] sz) := by
  refine Met.ofW (cc := cX2_holderOf) (maxL := 2) (ret := (some .int)) (by decide) rfl ?_
  intro p e s m args below meth c s₁ B hml hv
  obtain ⟨rfl, hsz, hP, hK, hD0, hN⟩ := hv
  have hx := B.exec
  have hb := B.bytes
  have hr := B.returns
  have hts := atoms_spec (ws := wsX2_holderOf) B.pre
  have hown : s.vm.findClass RX2 = some m.cls := findClass_of_methodNamed B.named
  have hlocks := B.notSynchronized
  subst hsz
  have hD := hD0.self (sz := s.heap.size)
  generalize hAe : va_A [(a2, .inr (2, [.int v2canons, .int v2present, .int v2stalls, .ref r2there, .ref r2stallOf, .ref r2worth, .ref r2holder, .ref r2wishes, .int v2moves, .ref r2mover, .ref r2movedFrom, .ref r2movedTo])), (r2holder, .inl (cyI, 12, .inl f2holder))] s.heap.size = A at hD ⊢
  have hA : ∀ q : Nat, s.heap.size ≤ q → A q := fun q h => by rw [← hAe]; exact Or.inr h
  have hS : va_S A s.heap s.heap [] := va_S.rf
  have hiX2 : ∀ w ∈ u_ws RX2 TX2 12, w ∈ wsX2_holderOf := by decide +kernel
  have lk32 := hts (.fieldLink RX2 32 "StallBook$Chapter" "holder" "[I") (by decide +kernel)
  delta wp_X2_holderOf at h
  have hl := lv_entry [.ref a2, .int p1] (n := 2) (Nat.le_of_ble_eq_true rfl)
  rw [lg_entry_eq]
  generalize (lg_sl [.ref a2, .int p1] ++ List.replicate (2 - (lg_sl [.ref a2, .int p1]).length) Slot.unset).toArray = ls at hl ⊢
  replace hl : lv_has ls 2 [(0, .ref a2), (1, .int p1)] := hl
  refine lv_aload_n hx hb dX2_holderOf_0 rfl (lv_at hl 0 rfl) ?_
  refine lv_iload_n hx hb dX2_holderOf_1 rfl (lv_at hl 1 rfl) ?_
  refine mc_i hP hD hS hA [0] [1] [1, 0] [(r2holder, .inl (cyI, 12, .inl f2holder))] (fun (u2 : Unit) => [(a2, .inr (2, [.int v2canons, .int v2present, .int v2stalls, .ref r2there, .ref r2stallOf, .ref r2worth, .ref r2holder, .ref r2wishes, .int v2moves, .ref r2mover, .ref r2movedFrom, .ref r2movedTo])), (r2holder, .inl (cyI, 12, .inl f2holder))]) rfl rfl (by decide) (by decide) (by decide) (fun _ => rfl) (fun _ => rfl) (va_runV (As := [.int p1]) (rest := []) ⟨hx, hb, hml, hown, hts⟩ (c_X2_hasStall l dC dI cyI cyZ cyB a2 r2there r2stallOf r2worth r2holder r2wishes r2mover r2movedFrom r2movedTo s.heap.size v2canons v2present v2stalls v2moves p1 _ h) (cwV 1 hts gX2_holderOf_X2_hasStall rfl rfl rfl (by decide +kernel) ⟨Nat.le_of_ble_eq_true rfl, Nat.le_of_ble_eq_true rfl⟩) ⟨MPre_blind, va_recv hK hP (ci := 2) (q0 := 0) rfl rfl, MPre_here [0] hP hD hK hN (by decide) rfl rfl⟩ rfl rfl hl.1 rfl (lv_room (Nat.le_of_ble_eq_true rfl)) dX2_holderOf_2 ⟨Nat.zero_le _, Nat.zero_le _⟩) (fun r1 u2 H locs h hP hD hS => ?_)
  replace hP : va_P (dC, dI) vwCl [(a2, .inr (2, [.int v2canons, .int v2present, .int v2stalls, .ref r2there, .ref r2stallOf, .ref r2worth, .ref r2holder, .ref r2wishes, .int v2moves, .ref r2mover, .ref r2movedFrom, .ref r2movedTo])), (r2holder, .inl (cyI, 12, .inl f2holder))] H := hP
  replace hD : va_D A [(a2, .inr (2, [.int v2canons, .int v2present, .int v2stalls, .ref r2there, .ref r2stallOf, .ref r2worth, .ref r2holder, .ref r2wishes, .int v2moves, .ref r2mover, .ref r2movedFrom, .ref r2movedTo])), (r2holder, .inl (cyI, 12, .inl f2holder))] := hD
  refine lv_if_eq (tgt := 17) hx hb dX2_holderOf_5 (by decide) (fun c => ?_) (fun c => ?_)
  · replace h := h.1 c
    refine lv_iconst (v := (-1)) hx hb dX2_holderOf_17 (by decide) ?_
    exact W.iret (v := (-1)) hx hb hr (fun t ht hW => ⟨⟨(-1), (), rfl, h, by rw [ht]; exact hP, hD⟩, hS.F ht⟩) hS.2.2 dX2_holderOf_18
  · replace h := h.2 c
    refine lv_aload_n hx hb dX2_holderOf_8 rfl (lv_at hl 0 rfl) ?_
    refine va_get (D := (dC, dI)) (ci := 2) (v := .ref r2holder) (C := RX2) (T := TX2) (N := 12) hx hb hts hiX2 hown hK hP 0 rfl rfl 6 (by decide) lk32 (fun _ h9 => h9) rfl dX2_holderOf_9 ?_
    refine lv_iload_n hx hb dX2_holderOf_12 rfl (lv_at hl 1 rfl) ?_
    refine va_iald hx hb hK hP 1 0 rfl rfl h.1 dX2_holderOf_13 ?_
    replace h := h.2
    refine lv_goto (tgt := 18) hx hb dX2_holderOf_14 (by decide) ?_
    exact W.iret (v := (f2holder p1.toNatClampNeg)) hx hb hr (fun t ht hW => ⟨⟨(f2holder p1.toNatClampNeg), (), rfl, h, by rw [ht]; exact hP, hD⟩, hS.F ht⟩) hS.2.2 dX2_holderOf_18
def wp_X2_worthOf (p1 : Int32) (f2stallOf : Nat → Int32) (f2worth : Nat → Int32) (Post : Int32 → Unit → Prop) : Prop := (vp_in p1 20 ∧ (∀ x1 : Int32, x1 = (f2stallOf p1.toNatClampNeg) → (((¬ x1 = (-1)) → (vp_in x1 12 ∧ (Post (f2worth x1.toNatClampNeg) ()))) ∧ ((x1 = (-1)) → (Post 0 ())))))
set_option maxHeartbeats 4000000 in
set_option maxRecDepth 100000 in
theorem c_X2_worthOf (l : Launch) (dC : Nat → ClassId) (dI : Nat → Nat → Nat) (cyI cyZ cyB : ClassId) (a2 : Nat) (r2there : Nat) (r2stallOf : Nat) (r2worth : Nat) (r2holder : Nat) (r2wishes : Nat) (r2mover : Nat) (r2movedFrom : Nat) (r2movedTo : Nat) (sz : Nat) (v2canons : Int32) (v2present : Int32) (v2stalls : Int32) (v2moves : Int32) (f2stallOf : Nat → Int32) (f2worth : Nat → Int32) (p1 : Int32) (Post : Int32 → Unit → Prop) (h : wp_X2_worthOf p1 f2stallOf f2worth Post) : Met l yX2_worthOf wsX2_worthOf ({ frames := 0, cells := 0, slots := 0, locals := 0 } : Room) (MPre (dC, dI) [(cyI, .int), (cyZ, .boolean), (cyB, .byte)] [.ref a2, .int p1] sz [(a2, .inr (2, [.int v2canons, .int v2present, .int v2stalls, .ref r2there, .ref r2stallOf, .ref r2worth, .ref r2holder, .ref r2wishes, .int v2moves, .ref r2mover, .ref r2movedFrom, .ref r2movedTo])), (r2stallOf, .inl (cyI, 20, .inl f2stallOf)), (r2worth, .inl (cyI, 12, .inl f2worth))]) (va_Qi Post (fun (u : Unit) (t : State) => va_P (dC, dI) vwCl [(a2, .inr (2, [.int v2canons, .int v2present, .int v2stalls, .ref r2there, .ref r2stallOf, .ref r2worth, .ref r2holder, .ref r2wishes, .int v2moves, .ref r2mover, .ref r2movedFrom, .ref r2movedTo])), (r2stallOf, .inl (cyI, 20, .inl f2stallOf)), (r2worth, .inl (cyI, 12, .inl f2worth))] t.heap ∧ va_D (va_A [(a2, .inr (2, [.int v2canons, .int v2present, .int v2stalls, .ref r2there, .ref r2stallOf, .ref r2worth, .ref r2holder, .ref r2wishes, .int v2moves, .ref r2mover, .ref r2movedFrom, .ref r2movedTo])), (r2stallOf, .inl (cyI, 20, .inl f2stallOf)), (r2worth, .inl (cyI, 12, .inl f2worth))] sz) [(a2, .inr (2, [.int v2canons, .int v2present, .int v2stalls, .ref r2there, .ref r2stallOf, .ref r2worth, .ref r2holder, .ref r2wishes, .int v2moves, .ref r2mover, .ref r2movedFrom, .ref r2movedTo])), (r2stallOf, .inl (cyI, 20, .inl f2stallOf)), (r2worth, .inl (cyI, 12, .inl f2worth))]) (va_A [(a2, .inr (2, [.int v2canons, .int v2present, .int v2stalls, .ref r2there, .ref r2stallOf, .ref r2worth, .ref r2holder, .ref r2wishes, .int v2moves, .ref r2mover, .ref r2movedFrom, .ref r2movedTo])), (r2stallOf, .inl (cyI, 20, .inl f2stallOf)), (r2worth, .inl (cyI, 12, .inl f2worth))] sz)) 0 0 (va_A [(a2, .inr (2, [.int v2canons, .int v2present, .int v2stalls, .ref r2there, .ref r2stallOf, .ref r2worth, .ref r2holder, .ref r2wishes, .int v2moves, .ref r2mover, .ref r2movedFrom, .ref r2movedTo])), (r2stallOf, .inl (cyI, 20, .inl f2stallOf)), (r2worth, .inl (cyI, 12, .inl f2worth))] sz) := by
  refine Met.ofW (cc := cX2_worthOf) (maxL := 3) (ret := (some .int)) (by decide) rfl ?_
  intro p e s m args below meth c s₁ B hml hv
  obtain ⟨rfl, hsz, hP, hK, hD0, hN⟩ := hv
  have hx := B.exec
  have hb := B.bytes
  have hr := B.returns
  have hts := atoms_spec (ws := wsX2_worthOf) B.pre
  have hown : s.vm.findClass RX2 = some m.cls := findClass_of_methodNamed B.named
  have hlocks := B.notSynchronized
  subst hsz
  have hD := hD0.self (sz := s.heap.size)
  generalize hAe : va_A [(a2, .inr (2, [.int v2canons, .int v2present, .int v2stalls, .ref r2there, .ref r2stallOf, .ref r2worth, .ref r2holder, .ref r2wishes, .int v2moves, .ref r2mover, .ref r2movedFrom, .ref r2movedTo])), (r2stallOf, .inl (cyI, 20, .inl f2stallOf)), (r2worth, .inl (cyI, 12, .inl f2worth))] s.heap.size = A at hD ⊢
  have hA : ∀ q : Nat, s.heap.size ≤ q → A q := fun q h => by rw [← hAe]; exact Or.inr h
  have hS : va_S A s.heap s.heap [] := va_S.rf
  have hiX2 : ∀ w ∈ u_ws RX2 TX2 12, w ∈ wsX2_worthOf := by decide +kernel
  have lk25 := hts (.fieldLink RX2 25 "StallBook$Chapter" "stallOf" "[I") (by decide +kernel)
  have lk29 := hts (.fieldLink RX2 29 "StallBook$Chapter" "worth" "[I") (by decide +kernel)
  delta wp_X2_worthOf at h
  have hl := lv_entry [.ref a2, .int p1] (n := 3) (Nat.le_of_ble_eq_true rfl)
  rw [lg_entry_eq]
  generalize (lg_sl [.ref a2, .int p1] ++ List.replicate (3 - (lg_sl [.ref a2, .int p1]).length) Slot.unset).toArray = ls at hl ⊢
  replace hl : lv_has ls 3 [(0, .ref a2), (1, .int p1)] := hl
  refine lv_aload_n hx hb dX2_worthOf_0 rfl (lv_at hl 0 rfl) ?_
  refine va_get (D := (dC, dI)) (ci := 2) (v := .ref r2stallOf) (C := RX2) (T := TX2) (N := 12) hx hb hts hiX2 hown hK hP 0 rfl rfl 4 (by decide) lk25 (fun _ h9 => h9) rfl dX2_worthOf_1 ?_
  refine lv_iload_n hx hb dX2_worthOf_4 rfl (lv_at hl 1 rfl) ?_
  refine va_iald hx hb hK hP 1 0 rfl rfl h.1 dX2_worthOf_5 ?_
  replace h := h.2
  refine lv_topi (fun x1 ex1 => ?_)
  replace h := h x1 ex1
  refine lv_istore_n (lv' := [(2, .int x1), (0, .ref a2), (1, .int p1)]) hx hb dX2_worthOf_6 rfl hl (by decide) rfl (fun ls hl => ?_)
  refine lv_iload_n hx hb dX2_worthOf_7 rfl (lv_at hl 0 rfl) ?_
  refine lv_iconst (v := (-1)) hx hb dX2_worthOf_8 (by decide) ?_
  refine lv_icmp_ne (tgt := 16) hx hb dX2_worthOf_9 (by decide) (fun c => ?_) (fun c => ?_)
  · replace h := h.1 c
    refine lv_aload_n hx hb dX2_worthOf_16 rfl (lv_at hl 1 rfl) ?_
    refine va_get (D := (dC, dI)) (ci := 2) (v := .ref r2worth) (C := RX2) (T := TX2) (N := 12) hx hb hts hiX2 hown hK hP 0 rfl rfl 5 (by decide) lk29 (fun _ h9 => h9) rfl dX2_worthOf_17 ?_
    refine lv_iload_n hx hb dX2_worthOf_20 rfl (lv_at hl 0 rfl) ?_
    refine va_iald hx hb hK hP 2 0 rfl rfl h.1 dX2_worthOf_21 ?_
    replace h := h.2
    exact W.iret (v := (f2worth x1.toNatClampNeg)) hx hb hr (fun t ht hW => ⟨⟨(f2worth x1.toNatClampNeg), (), rfl, h, by rw [ht]; exact hP, hD⟩, hS.F ht⟩) hS.2.2 dX2_worthOf_22
  · replace h := h.2 c
    refine lv_iconst (v := 0) hx hb dX2_worthOf_12 (by decide) ?_
    refine lv_goto (tgt := 22) hx hb dX2_worthOf_13 (by decide) ?_
    exact W.iret (v := 0) hx hb hr (fun t ht hW => ⟨⟨0, (), rfl, h, by rw [ht]; exact hP, hD⟩, hS.F ht⟩) hS.2.2 dX2_worthOf_22
def wp_X2_gainsBy (p1 : Int32) (p2 : Int32) (f2stallOf : Nat → Int32) (f2worth : Nat → Int32) (Post : Int32 → Unit → Prop) : Prop := (vp_in p1 20 ∧ ((((f2stallOf p1.toNatClampNeg) = (-1)) → (Post 1 ())) ∧ ((¬ (f2stallOf p1.toNatClampNeg) = (-1)) → (wp_X2_worthOf p1 f2stallOf f2worth (fun (r1 : Int32) (u2 : Unit) => (vp_in p2 12 ∧ ((((f2worth p2.toNatClampNeg) ≤ r1) → (Post 0 ())) ∧ ((¬ (f2worth p2.toNatClampNeg) ≤ r1) → (Post 1 ())))))))))
set_option maxHeartbeats 4000000 in
set_option maxRecDepth 100000 in
theorem c_X2_gainsBy (l : Launch) (dC : Nat → ClassId) (dI : Nat → Nat → Nat) (cyI cyZ cyB : ClassId) (a2 : Nat) (r2there : Nat) (r2stallOf : Nat) (r2worth : Nat) (r2holder : Nat) (r2wishes : Nat) (r2mover : Nat) (r2movedFrom : Nat) (r2movedTo : Nat) (sz : Nat) (v2canons : Int32) (v2present : Int32) (v2stalls : Int32) (v2moves : Int32) (f2stallOf : Nat → Int32) (f2worth : Nat → Int32) (p1 : Int32) (p2 : Int32) (Post : Int32 → Unit → Prop) (h : wp_X2_gainsBy p1 p2 f2stallOf f2worth Post) : Met l yX2_gainsBy wsX2_gainsBy ({ frames := 1, cells := 0, slots := 0, locals := 22 } : Room) (MPre (dC, dI) [(cyI, .int), (cyZ, .boolean), (cyB, .byte)] [.ref a2, .int p1, .int p2] sz [(a2, .inr (2, [.int v2canons, .int v2present, .int v2stalls, .ref r2there, .ref r2stallOf, .ref r2worth, .ref r2holder, .ref r2wishes, .int v2moves, .ref r2mover, .ref r2movedFrom, .ref r2movedTo])), (r2stallOf, .inl (cyI, 20, .inl f2stallOf)), (r2worth, .inl (cyI, 12, .inl f2worth))]) (va_Qi Post (fun (u : Unit) (t : State) => va_P (dC, dI) vwCl [(a2, .inr (2, [.int v2canons, .int v2present, .int v2stalls, .ref r2there, .ref r2stallOf, .ref r2worth, .ref r2holder, .ref r2wishes, .int v2moves, .ref r2mover, .ref r2movedFrom, .ref r2movedTo])), (r2stallOf, .inl (cyI, 20, .inl f2stallOf)), (r2worth, .inl (cyI, 12, .inl f2worth))] t.heap ∧ va_D (va_A [(a2, .inr (2, [.int v2canons, .int v2present, .int v2stalls, .ref r2there, .ref r2stallOf, .ref r2worth, .ref r2holder, .ref r2wishes, .int v2moves, .ref r2mover, .ref r2movedFrom, .ref r2movedTo])), (r2stallOf, .inl (cyI, 20, .inl f2stallOf)), (r2worth, .inl (cyI, 12, .inl f2worth))] sz) [(a2, .inr (2, [.int v2canons, .int v2present, .int v2stalls, .ref r2there, .ref r2stallOf, .ref r2worth, .ref r2holder, .ref r2wishes, .int v2moves, .ref r2mover, .ref r2movedFrom, .ref r2movedTo])), (r2stallOf, .inl (cyI, 20, .inl f2stallOf)), (r2worth, .inl (cyI, 12, .inl f2worth))]) (va_A [(a2, .inr (2, [.int v2canons, .int v2present, .int v2stalls, .ref r2there, .ref r2stallOf, .ref r2worth, .ref r2holder, .ref r2wishes, .int v2moves, .ref r2mover, .ref r2movedFrom, .ref r2movedTo])), (r2stallOf, .inl (cyI, 20, .inl f2stallOf)), (r2worth, .inl (cyI, 12, .inl f2worth))] sz)) 0 0 (va_A [(a2, .inr (2, [.int v2canons, .int v2present, .int v2stalls, .ref r2there, .ref r2stallOf, .ref r2worth, .ref r2holder, .ref r2wishes, .int v2moves, .ref r2mover, .ref r2movedFrom, .ref r2movedTo])), (r2stallOf, .inl (cyI, 20, .inl f2stallOf)), (r2worth, .inl (cyI, 12, .inl f2worth))] sz) := by
  refine Met.ofW (cc := cX2_gainsBy) (maxL := 3) (ret := (some .boolean)) (by decide) rfl ?_
  intro p e s m args below meth c s₁ B hml hv
  obtain ⟨rfl, hsz, hP, hK, hD0, hN⟩ := hv
  have hx := B.exec
  have hb := B.bytes
  have hr := B.returns
  have hts := atoms_spec (ws := wsX2_gainsBy) B.pre
  have hown : s.vm.findClass RX2 = some m.cls := findClass_of_methodNamed B.named
  have hlocks := B.notSynchronized
  subst hsz
  have hD := hD0.self (sz := s.heap.size)
  generalize hAe : va_A [(a2, .inr (2, [.int v2canons, .int v2present, .int v2stalls, .ref r2there, .ref r2stallOf, .ref r2worth, .ref r2holder, .ref r2wishes, .int v2moves, .ref r2mover, .ref r2movedFrom, .ref r2movedTo])), (r2stallOf, .inl (cyI, 20, .inl f2stallOf)), (r2worth, .inl (cyI, 12, .inl f2worth))] s.heap.size = A at hD ⊢
  have hA : ∀ q : Nat, s.heap.size ≤ q → A q := fun q h => by rw [← hAe]; exact Or.inr h
  have hS : va_S A s.heap s.heap [] := va_S.rf
  have hiX2 : ∀ w ∈ u_ws RX2 TX2 12, w ∈ wsX2_gainsBy := by decide +kernel
  have lk25 := hts (.fieldLink RX2 25 "StallBook$Chapter" "stallOf" "[I") (by decide +kernel)
  have lk29 := hts (.fieldLink RX2 29 "StallBook$Chapter" "worth" "[I") (by decide +kernel)
  delta wp_X2_gainsBy at h
  have hl := lv_entry [.ref a2, .int p1, .int p2] (n := 3) (Nat.le_of_ble_eq_true rfl)
  rw [lg_entry_eq]
  generalize (lg_sl [.ref a2, .int p1, .int p2] ++ List.replicate (3 - (lg_sl [.ref a2, .int p1, .int p2]).length) Slot.unset).toArray = ls at hl ⊢
  replace hl : lv_has ls 3 [(0, .ref a2), (1, .int p1), (2, .int p2)] := hl
  refine lv_aload_n hx hb dX2_gainsBy_0 rfl (lv_at hl 0 rfl) ?_
  refine va_get (D := (dC, dI)) (ci := 2) (v := .ref r2stallOf) (C := RX2) (T := TX2) (N := 12) hx hb hts hiX2 hown hK hP 0 rfl rfl 4 (by decide) lk25 (fun _ h9 => h9) rfl dX2_gainsBy_1 ?_
  refine lv_iload_n hx hb dX2_gainsBy_4 rfl (lv_at hl 1 rfl) ?_
  refine va_iald hx hb hK hP 1 0 rfl rfl h.1 dX2_gainsBy_5 ?_
  replace h := h.2
  refine lv_iconst (v := (-1)) hx hb dX2_gainsBy_6 (by decide) ?_
  refine lv_icmp_eq (tgt := 24) hx hb dX2_gainsBy_7 (by decide) (fun c => ?_) (fun c => ?_)
  · replace h := h.1 c
    refine lv_iconst (v := 1) hx hb dX2_gainsBy_24 (by decide) ?_
    refine lv_goto (tgt := 29) hx hb dX2_gainsBy_25 (by decide) ?_
    exact W.zret (v := 1) (ty := .boolean) hx hb hr rfl (fun t ht hW => ⟨⟨1, (), rfl, h, by rw [ht]; exact hP, hD⟩, hS.F ht⟩) hS.2.2 dX2_gainsBy_29
  · replace h := h.2 c
    refine lv_aload_n hx hb dX2_gainsBy_10 rfl (lv_at hl 0 rfl) ?_
    refine lv_iload_n hx hb dX2_gainsBy_11 rfl (lv_at hl 1 rfl) ?_
    refine mc_i hP hD hS hA [0, 1, 2] [] [0, 1, 2] [] (fun (u2 : Unit) => [(a2, .inr (2, [.int v2canons, .int v2present, .int v2stalls, .ref r2there, .ref r2stallOf, .ref r2worth, .ref r2holder, .ref r2wishes, .int v2moves, .ref r2mover, .ref r2movedFrom, .ref r2movedTo])), (r2stallOf, .inl (cyI, 20, .inl f2stallOf)), (r2worth, .inl (cyI, 12, .inl f2worth))]) rfl rfl (by decide) (by decide) (by decide) (fun _ => rfl) (fun _ => rfl) (va_runV (As := [.int p1]) (rest := []) ⟨hx, hb, hml, hown, hts⟩ (c_X2_worthOf l dC dI cyI cyZ cyB a2 r2there r2stallOf r2worth r2holder r2wishes r2mover r2movedFrom r2movedTo s.heap.size v2canons v2present v2stalls v2moves f2stallOf f2worth p1 _ h) (cwV 1 hts gX2_gainsBy_X2_worthOf rfl rfl rfl (by decide +kernel) ⟨Nat.le_of_ble_eq_true rfl, Nat.le_of_ble_eq_true rfl⟩) ⟨MPre_blind, va_recv hK hP (ci := 2) (q0 := 0) rfl rfl, MPre_here [0, 1, 2] hP hD hK hN (by decide) rfl rfl⟩ rfl rfl hl.1 rfl (lv_room (Nat.le_of_ble_eq_true rfl)) dX2_gainsBy_12 ⟨Nat.zero_le _, Nat.zero_le _⟩) (fun r1 u2 H locs h hP hD hS => ?_)
    replace hP : va_P (dC, dI) vwCl [(a2, .inr (2, [.int v2canons, .int v2present, .int v2stalls, .ref r2there, .ref r2stallOf, .ref r2worth, .ref r2holder, .ref r2wishes, .int v2moves, .ref r2mover, .ref r2movedFrom, .ref r2movedTo])), (r2stallOf, .inl (cyI, 20, .inl f2stallOf)), (r2worth, .inl (cyI, 12, .inl f2worth))] H := hP
    replace hD : va_D A [(a2, .inr (2, [.int v2canons, .int v2present, .int v2stalls, .ref r2there, .ref r2stallOf, .ref r2worth, .ref r2holder, .ref r2wishes, .int v2moves, .ref r2mover, .ref r2movedFrom, .ref r2movedTo])), (r2stallOf, .inl (cyI, 20, .inl f2stallOf)), (r2worth, .inl (cyI, 12, .inl f2worth))] := hD
    refine lv_aload_n hx hb dX2_gainsBy_15 rfl (lv_at hl 0 rfl) ?_
    refine va_get (D := (dC, dI)) (ci := 2) (v := .ref r2worth) (C := RX2) (T := TX2) (N := 12) hx hb hts hiX2 hown hK hP 0 rfl rfl 5 (by decide) lk29 (fun _ h9 => h9) rfl dX2_gainsBy_16 ?_
    refine lv_iload_n hx hb dX2_gainsBy_19 rfl (lv_at hl 2 rfl) ?_
    refine va_iald hx hb hK hP 2 0 rfl rfl h.1 dX2_gainsBy_20 ?_
    replace h := h.2
    refine lv_icmp_ge (tgt := 28) hx hb dX2_gainsBy_21 (by decide) (fun c => ?_) (fun c => ?_)
    · replace h := h.1 c
      refine lv_iconst (v := 0) hx hb dX2_gainsBy_28 (by decide) ?_
      exact W.zret (v := 0) (ty := .boolean) hx hb hr rfl (fun t ht hW => ⟨⟨0, (), rfl, h, by rw [ht]; exact hP, hD⟩, hS.F ht⟩) hS.2.2 dX2_gainsBy_29
    · replace h := h.2 c
      refine lv_iconst (v := 1) hx hb dX2_gainsBy_24 (by decide) ?_
      refine lv_goto (tgt := 29) hx hb dX2_gainsBy_25 (by decide) ?_
      exact W.zret (v := 1) (ty := .boolean) hx hb hr rfl (fun t ht hW => ⟨⟨1, (), rfl, h, by rw [ht]; exact hP, hD⟩, hS.F ht⟩) hS.2.2 dX2_gainsBy_29
def lp_X2_firstOptant_2 (k1 : Int32) (v2canons : Int32) (f2there : Nat → Int32) (f2stallOf : Nat → Int32) (f2worth : Nat → Int32) (f2wishes : Nat → Int32) (Post : Int32 → Unit → Prop) (K : Int32 → Prop) : Nat → Int32 → Prop
  | 0, _ => False
  | n + 1, y2 => (((v2canons ≤ y2) → (K y2)) ∧ ((¬ v2canons ≤ y2) → (vp_in y2 20 ∧ ((((f2there y2.toNatClampNeg) = 0) → (∀ x1 : Int32, x1 = y2 + 1 → (lp_X2_firstOptant_2 k1 v2canons f2there f2stallOf f2worth f2wishes Post K n x1))) ∧ ((¬ (f2there y2.toNatClampNeg) = 0) → (vp_in ((y2 * 12) + k1) 240 ∧ ((((f2wishes ((y2 * 12) + k1).toNatClampNeg) = 0) → (∀ x2 : Int32, x2 = y2 + 1 → (lp_X2_firstOptant_2 k1 v2canons f2there f2stallOf f2worth f2wishes Post K n x2))) ∧ ((¬ (f2wishes ((y2 * 12) + k1).toNatClampNeg) = 0) → (wp_X2_gainsBy y2 k1 f2stallOf f2worth (fun (r3 : Int32) (u4 : Unit) => (((r3 = 0) → (∀ x5 : Int32, x5 = y2 + 1 → (lp_X2_firstOptant_2 k1 v2canons f2there f2stallOf f2worth f2wishes Post K n x5))) ∧ ((¬ r3 = 0) → (Post y2 ())))))))))))))
def wp_X2_firstOptant (p1 : Int32) (v2canons : Int32) (f2there : Nat → Int32) (f2stallOf : Nat → Int32) (f2worth : Nat → Int32) (f2wishes : Nat → Int32) (Post : Int32 → Unit → Prop) : Prop := (∃ n7 : Nat, lp_X2_firstOptant_2 p1 v2canons f2there f2stallOf f2worth f2wishes Post (fun (x6 : Int32) => (Post (-1) ())) n7 0)
set_option maxHeartbeats 4000000 in
set_option maxRecDepth 100000 in
theorem c_X2_firstOptant (l : Launch) (dC : Nat → ClassId) (dI : Nat → Nat → Nat) (cyI cyZ cyB : ClassId) (a2 : Nat) (r2there : Nat) (r2stallOf : Nat) (r2worth : Nat) (r2holder : Nat) (r2wishes : Nat) (r2mover : Nat) (r2movedFrom : Nat) (r2movedTo : Nat) (sz : Nat) (v2canons : Int32) (v2present : Int32) (v2stalls : Int32) (v2moves : Int32) (f2there : Nat → Int32) (f2stallOf : Nat → Int32) (f2worth : Nat → Int32) (f2wishes : Nat → Int32) (p1 : Int32) (Post : Int32 → Unit → Prop) (h : wp_X2_firstOptant p1 v2canons f2there f2stallOf f2worth f2wishes Post) : Met l yX2_firstOptant wsX2_firstOptant ({ frames := 2, cells := 0, slots := 0, locals := 44 } : Room) (MPre (dC, dI) [(cyI, .int), (cyZ, .boolean), (cyB, .byte)] [.ref a2, .int p1] sz [(a2, .inr (2, [.int v2canons, .int v2present, .int v2stalls, .ref r2there, .ref r2stallOf, .ref r2worth, .ref r2holder, .ref r2wishes, .int v2moves, .ref r2mover, .ref r2movedFrom, .ref r2movedTo])), (r2there, .inl (cyZ, 20, .inl f2there)), (r2stallOf, .inl (cyI, 20, .inl f2stallOf)), (r2worth, .inl (cyI, 12, .inl f2worth)), (r2wishes, .inl (cyZ, 240, .inl f2wishes))]) (va_Qi Post (fun (u : Unit) (t : State) => va_P (dC, dI) vwCl [(a2, .inr (2, [.int v2canons, .int v2present, .int v2stalls, .ref r2there, .ref r2stallOf, .ref r2worth, .ref r2holder, .ref r2wishes, .int v2moves, .ref r2mover, .ref r2movedFrom, .ref r2movedTo])), (r2there, .inl (cyZ, 20, .inl f2there)), (r2stallOf, .inl (cyI, 20, .inl f2stallOf)), (r2worth, .inl (cyI, 12, .inl f2worth)), (r2wishes, .inl (cyZ, 240, .inl f2wishes))] t.heap ∧ va_D (va_A [(a2, .inr (2, [.int v2canons, .int v2present, .int v2stalls, .ref r2there, .ref r2stallOf, .ref r2worth, .ref r2holder, .ref r2wishes, .int v2moves, .ref r2mover, .ref r2movedFrom, .ref r2movedTo])), (r2there, .inl (cyZ, 20, .inl f2there)), (r2stallOf, .inl (cyI, 20, .inl f2stallOf)), (r2worth, .inl (cyI, 12, .inl f2worth)), (r2wishes, .inl (cyZ, 240, .inl f2wishes))] sz) [(a2, .inr (2, [.int v2canons, .int v2present, .int v2stalls, .ref r2there, .ref r2stallOf, .ref r2worth, .ref r2holder, .ref r2wishes, .int v2moves, .ref r2mover, .ref r2movedFrom, .ref r2movedTo])), (r2there, .inl (cyZ, 20, .inl f2there)), (r2stallOf, .inl (cyI, 20, .inl f2stallOf)), (r2worth, .inl (cyI, 12, .inl f2worth)), (r2wishes, .inl (cyZ, 240, .inl f2wishes))]) (va_A [(a2, .inr (2, [.int v2canons, .int v2present, .int v2stalls, .ref r2there, .ref r2stallOf, .ref r2worth, .ref r2holder, .ref r2wishes, .int v2moves, .ref r2mover, .ref r2movedFrom, .ref r2movedTo])), (r2there, .inl (cyZ, 20, .inl f2there)), (r2stallOf, .inl (cyI, 20, .inl f2stallOf)), (r2worth, .inl (cyI, 12, .inl f2worth)), (r2wishes, .inl (cyZ, 240, .inl f2wishes))] sz)) 0 0 (va_A [(a2, .inr (2, [.int v2canons, .int v2present, .int v2stalls, .ref r2there, .ref r2stallOf, .ref r2worth, .ref r2holder, .ref r2wishes, .int v2moves, .ref r2mover, .ref r2movedFrom, .ref r2movedTo])), (r2there, .inl (cyZ, 20, .inl f2there)), (r2stallOf, .inl (cyI, 20, .inl f2stallOf)), (r2worth, .inl (cyI, 12, .inl f2worth)), (r2wishes, .inl (cyZ, 240, .inl f2wishes))] sz) := by
  refine Met.ofW (cc := cX2_firstOptant) (maxL := 3) (ret := (some .int)) (by decide) rfl ?_
  intro p e s m args below meth c s₁ B hml hv
  obtain ⟨rfl, hsz, hP, hK, hD0, hN⟩ := hv
  have hx := B.exec
  have hb := B.bytes
  have hr := B.returns
  have hts := atoms_spec (ws := wsX2_firstOptant) B.pre
  have hown : s.vm.findClass RX2 = some m.cls := findClass_of_methodNamed B.named
  have hlocks := B.notSynchronized
  subst hsz
  have hD := hD0.self (sz := s.heap.size)
  generalize hAe : va_A [(a2, .inr (2, [.int v2canons, .int v2present, .int v2stalls, .ref r2there, .ref r2stallOf, .ref r2worth, .ref r2holder, .ref r2wishes, .int v2moves, .ref r2mover, .ref r2movedFrom, .ref r2movedTo])), (r2there, .inl (cyZ, 20, .inl f2there)), (r2stallOf, .inl (cyI, 20, .inl f2stallOf)), (r2worth, .inl (cyI, 12, .inl f2worth)), (r2wishes, .inl (cyZ, 240, .inl f2wishes))] s.heap.size = A at hD ⊢
  have hA : ∀ q : Nat, s.heap.size ≤ q → A q := fun q h => by rw [← hAe]; exact Or.inr h
  have hS : va_S A s.heap s.heap [] := va_S.rf
  have hiX2 : ∀ w ∈ u_ws RX2 TX2 12, w ∈ wsX2_firstOptant := by decide +kernel
  have lk9 := hts (.fieldLink RX2 9 "StallBook$Chapter" "canons" "I") (by decide +kernel)
  have lk21 := hts (.fieldLink RX2 21 "StallBook$Chapter" "there" "[Z") (by decide +kernel)
  have lk35 := hts (.fieldLink RX2 35 "StallBook$Chapter" "wishes" "[Z") (by decide +kernel)
  have L2 : ∀ (k1 : Int32) (v2canons : Int32) (f2there : Nat → Int32) (f2stallOf : Nat → Int32) (f2worth : Nat → Int32) (f2wishes : Nat → Int32) (K : Int32 → Prop) (n : Nat) (y2 : Int32) (H : Heap) (locs : List Loc) (ls : Array Slot), lp_X2_firstOptant_2 k1 v2canons f2there f2stallOf f2worth f2wishes Post K n y2 → va_P (dC, dI) vwCl [(a2, .inr (2, [.int v2canons, .int v2present, .int v2stalls, .ref r2there, .ref r2stallOf, .ref r2worth, .ref r2holder, .ref r2wishes, .int v2moves, .ref r2mover, .ref r2movedFrom, .ref r2movedTo])), (r2there, .inl (cyZ, 20, .inl f2there)), (r2stallOf, .inl (cyI, 20, .inl f2stallOf)), (r2worth, .inl (cyI, 12, .inl f2worth)), (r2wishes, .inl (cyZ, 240, .inl f2wishes))] H → va_D A [(a2, .inr (2, [.int v2canons, .int v2present, .int v2stalls, .ref r2there, .ref r2stallOf, .ref r2worth, .ref r2holder, .ref r2wishes, .int v2moves, .ref r2mover, .ref r2movedFrom, .ref r2movedTo])), (r2there, .inl (cyZ, 20, .inl f2there)), (r2stallOf, .inl (cyI, 20, .inl f2stallOf)), (r2worth, .inl (cyI, 12, .inl f2worth)), (r2wishes, .inl (cyZ, 240, .inl f2wishes))] → va_S A s.heap H locs → lv_has ls 3 [(0, .ref a2), (1, .int k1), (2, .int y2)] → (∀ (y2 : Int32) (H : Heap) (locs : List Loc) (ls : Array Slot), K y2 → va_P (dC, dI) vwCl [(a2, .inr (2, [.int v2canons, .int v2present, .int v2stalls, .ref r2there, .ref r2stallOf, .ref r2worth, .ref r2holder, .ref r2wishes, .int v2moves, .ref r2mover, .ref r2movedFrom, .ref r2movedTo])), (r2there, .inl (cyZ, 20, .inl f2there)), (r2stallOf, .inl (cyI, 20, .inl f2stallOf)), (r2worth, .inl (cyI, 12, .inl f2worth)), (r2wishes, .inl (cyZ, 240, .inl f2wishes))] H → va_D A [(a2, .inr (2, [.int v2canons, .int v2present, .int v2stalls, .ref r2there, .ref r2stallOf, .ref r2worth, .ref r2holder, .ref r2wishes, .int v2moves, .ref r2mover, .ref r2movedFrom, .ref r2movedTo])), (r2there, .inl (cyZ, 20, .inl f2there)), (r2stallOf, .inl (cyI, 20, .inl f2stallOf)), (r2worth, .inl (cyI, 12, .inl f2worth)), (r2wishes, .inl (cyZ, 240, .inl f2wishes))] → va_S A s.heap H locs → lv_has ls 3 [(0, .ref a2), (1, .int k1), (2, .int y2)] → W p l e (headSpec wsX2_firstOptant ({ frames := 2, cells := 0, slots := 0, locals := 44 } : Room)).room s m ([.ref a2, .int p1] : List Value).toArray below meth c H locs 0 0 (MQ below (va_Qi Post (fun (u : Unit) (t : State) => va_P (dC, dI) vwCl [(a2, .inr (2, [.int v2canons, .int v2present, .int v2stalls, .ref r2there, .ref r2stallOf, .ref r2worth, .ref r2holder, .ref r2wishes, .int v2moves, .ref r2mover, .ref r2movedFrom, .ref r2movedTo])), (r2there, .inl (cyZ, 20, .inl f2there)), (r2stallOf, .inl (cyI, 20, .inl f2stallOf)), (r2worth, .inl (cyI, 12, .inl f2worth)), (r2wishes, .inl (cyZ, 240, .inl f2wishes))] t.heap ∧ va_D A [(a2, .inr (2, [.int v2canons, .int v2present, .int v2stalls, .ref r2there, .ref r2stallOf, .ref r2worth, .ref r2holder, .ref r2wishes, .int v2moves, .ref r2mover, .ref r2movedFrom, .ref r2movedTo])), (r2there, .inl (cyZ, 20, .inl f2there)), (r2stallOf, .inl (cyI, 20, .inl f2stallOf)), (r2worth, .inl (cyI, 12, .inl f2worth)), (r2wishes, .inl (cyZ, 240, .inl f2wishes))]) A) ([.ref a2, .int p1] : List Value).toArray s 0 0 A) (F0 m 50 ls [])) → W p l e (headSpec wsX2_firstOptant ({ frames := 2, cells := 0, slots := 0, locals := 44 } : Room)).room s m ([.ref a2, .int p1] : List Value).toArray below meth c H locs 0 0 (MQ below (va_Qi Post (fun (u : Unit) (t : State) => va_P (dC, dI) vwCl [(a2, .inr (2, [.int v2canons, .int v2present, .int v2stalls, .ref r2there, .ref r2stallOf, .ref r2worth, .ref r2holder, .ref r2wishes, .int v2moves, .ref r2mover, .ref r2movedFrom, .ref r2movedTo])), (r2there, .inl (cyZ, 20, .inl f2there)), (r2stallOf, .inl (cyI, 20, .inl f2stallOf)), (r2worth, .inl (cyI, 12, .inl f2worth)), (r2wishes, .inl (cyZ, 240, .inl f2wishes))] t.heap ∧ va_D A [(a2, .inr (2, [.int v2canons, .int v2present, .int v2stalls, .ref r2there, .ref r2stallOf, .ref r2worth, .ref r2holder, .ref r2wishes, .int v2moves, .ref r2mover, .ref r2movedFrom, .ref r2movedTo])), (r2there, .inl (cyZ, 20, .inl f2there)), (r2stallOf, .inl (cyI, 20, .inl f2stallOf)), (r2worth, .inl (cyI, 12, .inl f2worth)), (r2wishes, .inl (cyZ, 240, .inl f2wishes))]) A) ([.ref a2, .int p1] : List Value).toArray s 0 0 A) (F0 m 2 ls []) := by
    intro k1 v2canons f2there f2stallOf f2worth f2wishes K n
    induction n with
    | zero =>
      intro y2 H locs ls h
      exact (h : False).elim
    | succ n ih =>
      intro y2 H locs ls h hP hD hS hl kk
      rw [lp_X2_firstOptant_2] at h
      refine lv_iload_n hx hb dX2_firstOptant_2 rfl (lv_at hl 2 rfl) ?_
      refine lv_aload_n hx hb dX2_firstOptant_3 rfl (lv_at hl 0 rfl) ?_
      refine va_get (D := (dC, dI)) (ci := 2) (v := .int v2canons) (C := RX2) (T := TX2) (N := 12) hx hb hts hiX2 hown hK hP 0 rfl rfl 0 (by decide) lk9 (fun _ h9 => h9) rfl dX2_firstOptant_4 ?_
      refine lv_icmp_ge (tgt := 50) hx hb dX2_firstOptant_7 (by decide) (fun c => ?_) (fun c => ?_)
      · replace h := h.1 c
        exact kk y2 H locs ls h hP hD hS (lv_sub hl [0, 1, 2] rfl)
      · replace h := h.2 c
        refine lv_aload_n hx hb dX2_firstOptant_10 rfl (lv_at hl 0 rfl) ?_
        refine va_get (D := (dC, dI)) (ci := 2) (v := .ref r2there) (C := RX2) (T := TX2) (N := 12) hx hb hts hiX2 hown hK hP 0 rfl rfl 3 (by decide) lk21 (fun _ h9 => h9) rfl dX2_firstOptant_11 ?_
        refine lv_iload_n hx hb dX2_firstOptant_14 rfl (lv_at hl 2 rfl) ?_
        refine va_zald hx hb hK hP 1 1 rfl rfl h.1 dX2_firstOptant_15 ?_
        replace h := h.2
        refine lv_if_eq (tgt := 44) hx hb dX2_firstOptant_16 (by decide) (fun c => ?_) (fun c => ?_)
        · replace h := h.1 c
          obtain ⟨x1, ex1⟩ : ∃ y : Int32, y = y2 + 1 := ⟨_, rfl⟩
          replace h := h x1 ex1
          refine lv_iinc (v := x1) (lv' := [(2, .int x1), (0, .ref a2), (1, .int k1)]) hx hb dX2_firstOptant_44 hl (k := 2) rfl (by rw [ex1]; rfl) (by decide) rfl (fun ls hl => ?_)
          refine lv_goto (tgt := 2) hx hb dX2_firstOptant_47 (by decide) ?_
          exact ih x1 H locs ls h hP hD hS (lv_sub hl [1, 2, 0] rfl) kk
        · replace h := h.2 c
          refine lv_aload_n hx hb dX2_firstOptant_19 rfl (lv_at hl 0 rfl) ?_
          refine va_get (D := (dC, dI)) (ci := 2) (v := .ref r2wishes) (C := RX2) (T := TX2) (N := 12) hx hb hts hiX2 hown hK hP 0 rfl rfl 7 (by decide) lk35 (fun _ h9 => h9) rfl dX2_firstOptant_20 ?_
          refine lv_iload_n hx hb dX2_firstOptant_23 rfl (lv_at hl 2 rfl) ?_
          refine lv_bipush (v := 12) hx hb dX2_firstOptant_24 (by decide) ?_
          refine lv_imul hx hb dX2_firstOptant_26 ?_
          refine lv_iload_n hx hb dX2_firstOptant_27 rfl (lv_at hl 1 rfl) ?_
          refine lv_iadd hx hb dX2_firstOptant_28 ?_
          refine va_zald hx hb hK hP 4 1 rfl rfl h.1 dX2_firstOptant_29 ?_
          replace h := h.2
          refine lv_if_eq (tgt := 44) hx hb dX2_firstOptant_30 (by decide) (fun c => ?_) (fun c => ?_)
          · replace h := h.1 c
            obtain ⟨x2, ex2⟩ : ∃ y : Int32, y = y2 + 1 := ⟨_, rfl⟩
            replace h := h x2 ex2
            refine lv_iinc (v := x2) (lv' := [(2, .int x2), (0, .ref a2), (1, .int k1)]) hx hb dX2_firstOptant_44 hl (k := 2) rfl (by rw [ex2]; rfl) (by decide) rfl (fun ls hl => ?_)
            refine lv_goto (tgt := 2) hx hb dX2_firstOptant_47 (by decide) ?_
            exact ih x2 H locs ls h hP hD hS (lv_sub hl [1, 2, 0] rfl) kk
          · replace h := h.2 c
            refine lv_aload_n hx hb dX2_firstOptant_33 rfl (lv_at hl 0 rfl) ?_
            refine lv_iload_n hx hb dX2_firstOptant_34 rfl (lv_at hl 2 rfl) ?_
            refine lv_iload_n hx hb dX2_firstOptant_35 rfl (lv_at hl 1 rfl) ?_
            refine mc_i hP hD hS hA [0, 2, 3] [1, 4] [2, 0, 3, 4, 1] [(r2there, .inl (cyZ, 20, .inl f2there)), (r2wishes, .inl (cyZ, 240, .inl f2wishes))] (fun (u4 : Unit) => [(a2, .inr (2, [.int v2canons, .int v2present, .int v2stalls, .ref r2there, .ref r2stallOf, .ref r2worth, .ref r2holder, .ref r2wishes, .int v2moves, .ref r2mover, .ref r2movedFrom, .ref r2movedTo])), (r2there, .inl (cyZ, 20, .inl f2there)), (r2stallOf, .inl (cyI, 20, .inl f2stallOf)), (r2worth, .inl (cyI, 12, .inl f2worth)), (r2wishes, .inl (cyZ, 240, .inl f2wishes))]) rfl rfl (by decide) (by decide) (by decide) (fun _ => rfl) (fun _ => rfl) (va_runV (As := [.int y2, .int k1]) (rest := []) ⟨hx, hb, hml, hown, hts⟩ (c_X2_gainsBy l dC dI cyI cyZ cyB a2 r2there r2stallOf r2worth r2holder r2wishes r2mover r2movedFrom r2movedTo H.size v2canons v2present v2stalls v2moves f2stallOf f2worth y2 k1 _ h) (cwV 2 hts gX2_firstOptant_X2_gainsBy rfl rfl rfl (by decide +kernel) ⟨Nat.le_of_ble_eq_true rfl, Nat.le_of_ble_eq_true rfl⟩) ⟨MPre_blind, va_recv hK hP (ci := 2) (q0 := 0) rfl rfl, MPre_here [0, 2, 3] hP hD hK hN (by decide) rfl rfl⟩ rfl rfl hl.1 rfl (lv_room (Nat.le_of_ble_eq_true rfl)) dX2_firstOptant_36 ⟨Nat.zero_le _, Nat.zero_le _⟩) (fun r3 u4 H locs h hP hD hS => ?_)
            replace hP : va_P (dC, dI) vwCl [(a2, .inr (2, [.int v2canons, .int v2present, .int v2stalls, .ref r2there, .ref r2stallOf, .ref r2worth, .ref r2holder, .ref r2wishes, .int v2moves, .ref r2mover, .ref r2movedFrom, .ref r2movedTo])), (r2there, .inl (cyZ, 20, .inl f2there)), (r2stallOf, .inl (cyI, 20, .inl f2stallOf)), (r2worth, .inl (cyI, 12, .inl f2worth)), (r2wishes, .inl (cyZ, 240, .inl f2wishes))] H := hP
            replace hD : va_D A [(a2, .inr (2, [.int v2canons, .int v2present, .int v2stalls, .ref r2there, .ref r2stallOf, .ref r2worth, .ref r2holder, .ref r2wishes, .int v2moves, .ref r2mover, .ref r2movedFrom, .ref r2movedTo])), (r2there, .inl (cyZ, 20, .inl f2there)), (r2stallOf, .inl (cyI, 20, .inl f2stallOf)), (r2worth, .inl (cyI, 12, .inl f2worth)), (r2wishes, .inl (cyZ, 240, .inl f2wishes))] := hD
            refine lv_if_eq (tgt := 44) hx hb dX2_firstOptant_39 (by decide) (fun c => ?_) (fun c => ?_)
            · replace h := h.1 c
              obtain ⟨x5, ex5⟩ : ∃ y : Int32, y = y2 + 1 := ⟨_, rfl⟩
              replace h := h x5 ex5
              refine lv_iinc (v := x5) (lv' := [(2, .int x5), (0, .ref a2), (1, .int k1)]) hx hb dX2_firstOptant_44 hl (k := 2) rfl (by rw [ex5]; rfl) (by decide) rfl (fun ls hl => ?_)
              refine lv_goto (tgt := 2) hx hb dX2_firstOptant_47 (by decide) ?_
              exact ih x5 H locs ls h hP hD hS (lv_sub hl [1, 2, 0] rfl) kk
            · replace h := h.2 c
              refine lv_iload_n hx hb dX2_firstOptant_42 rfl (lv_at hl 2 rfl) ?_
              exact W.iret (v := y2) hx hb hr (fun t ht hW => ⟨⟨y2, (), rfl, h, by rw [ht]; exact hP, hD⟩, hS.F ht⟩) hS.2.2 dX2_firstOptant_43
  delta wp_X2_firstOptant at h
  have hl := lv_entry [.ref a2, .int p1] (n := 3) (Nat.le_of_ble_eq_true rfl)
  rw [lg_entry_eq]
  generalize (lg_sl [.ref a2, .int p1] ++ List.replicate (3 - (lg_sl [.ref a2, .int p1]).length) Slot.unset).toArray = ls at hl ⊢
  replace hl : lv_has ls 3 [(0, .ref a2), (1, .int p1)] := hl
  refine lv_iconst (v := 0) hx hb dX2_firstOptant_0 (by decide) ?_
  refine lv_istore_n (lv' := [(2, .int 0), (0, .ref a2), (1, .int p1)]) hx hb dX2_firstOptant_1 rfl hl (by decide) rfl (fun ls hl => ?_)
  obtain ⟨n7, h⟩ := h
  refine L2 p1 v2canons f2there f2stallOf f2worth f2wishes _ n7 0 s.heap [] ls h hP hD hS (lv_sub hl [1, 2, 0] rfl) (fun x6 H locs ls h hP hD hS hl => ?_)
  refine lv_iconst (v := (-1)) hx hb dX2_firstOptant_50 (by decide) ?_
  exact W.iret (v := (-1)) hx hb hr (fun t ht hW => ⟨⟨(-1), (), rfl, h, by rw [ht]; exact hP, hD⟩, hS.F ht⟩) hS.2.2 dX2_firstOptant_51
def wp_X2_moveTo (p1 : Int32) (p2 : Int32) (f2stallOf : Nat → Int32) (f2holder : Nat → Int32) (v2moves : Int32) (f2mover : Nat → Int32) (f2movedFrom : Nat → Int32) (f2movedTo : Nat → Int32) (Post : Int32 → (Nat → Int32) × (Nat → Int32) × Int32 × (Nat → Int32) × (Nat → Int32) × (Nat → Int32) → Prop) : Prop := (vp_in p1 20 ∧ (∀ x1 : Int32, x1 = (f2stallOf p1.toNatClampNeg) → (vp_in v2moves 12 ∧ (vp_in v2moves 12 ∧ (vp_in v2moves 12 ∧ (vp_in p1 20 ∧ (vp_in p2 12 ∧ (((x1 = (-1)) → (Post x1 ((upd f2stallOf p1.toNatClampNeg p2), (upd f2holder p2.toNatClampNeg p1), (v2moves + 1), (upd f2mover v2moves.toNatClampNeg p1), (upd f2movedFrom v2moves.toNatClampNeg x1), (upd f2movedTo v2moves.toNatClampNeg p2)))) ∧ ((¬ x1 = (-1)) → (vp_in x1 12 ∧ (Post x1 ((upd f2stallOf p1.toNatClampNeg p2), (upd (upd f2holder p2.toNatClampNeg p1) x1.toNatClampNeg (-1)), (v2moves + 1), (upd f2mover v2moves.toNatClampNeg p1), (upd f2movedFrom v2moves.toNatClampNeg x1), (upd f2movedTo v2moves.toNatClampNeg p2)))))))))))))
set_option maxHeartbeats 4000000 in
set_option maxRecDepth 100000 in
theorem c_X2_moveTo (l : Launch) (dC : Nat → ClassId) (dI : Nat → Nat → Nat) (cyI cyZ cyB : ClassId) (a2 : Nat) (r2there : Nat) (r2stallOf : Nat) (r2worth : Nat) (r2holder : Nat) (r2wishes : Nat) (r2mover : Nat) (r2movedFrom : Nat) (r2movedTo : Nat) (sz : Nat) (v2canons : Int32) (v2present : Int32) (v2stalls : Int32) (v2moves : Int32) (f2stallOf : Nat → Int32) (f2holder : Nat → Int32) (f2mover : Nat → Int32) (f2movedFrom : Nat → Int32) (f2movedTo : Nat → Int32) (p1 : Int32) (p2 : Int32) (Post : Int32 → (Nat → Int32) × (Nat → Int32) × Int32 × (Nat → Int32) × (Nat → Int32) × (Nat → Int32) → Prop) (h : wp_X2_moveTo p1 p2 f2stallOf f2holder v2moves f2mover f2movedFrom f2movedTo Post) : Met l yX2_moveTo wsX2_moveTo ({ frames := 0, cells := 0, slots := 0, locals := 0 } : Room) (MPre (dC, dI) [(cyI, .int), (cyZ, .boolean), (cyB, .byte)] [.ref a2, .int p1, .int p2] sz [(a2, .inr (2, [.int v2canons, .int v2present, .int v2stalls, .ref r2there, .ref r2stallOf, .ref r2worth, .ref r2holder, .ref r2wishes, .int v2moves, .ref r2mover, .ref r2movedFrom, .ref r2movedTo])), (r2stallOf, .inl (cyI, 20, .inl f2stallOf)), (r2holder, .inl (cyI, 12, .inl f2holder)), (r2mover, .inl (cyI, 12, .inl f2mover)), (r2movedFrom, .inl (cyI, 12, .inl f2movedFrom)), (r2movedTo, .inl (cyI, 12, .inl f2movedTo))]) (va_Qi Post (fun (u : (Nat → Int32) × (Nat → Int32) × Int32 × (Nat → Int32) × (Nat → Int32) × (Nat → Int32)) (t : State) => va_P (dC, dI) vwCl [(a2, .inr (2, [.int v2canons, .int v2present, .int v2stalls, .ref r2there, .ref r2stallOf, .ref r2worth, .ref r2holder, .ref r2wishes, .int u.2.2.1, .ref r2mover, .ref r2movedFrom, .ref r2movedTo])), (r2stallOf, .inl (cyI, 20, .inl u.1)), (r2holder, .inl (cyI, 12, .inl u.2.1)), (r2mover, .inl (cyI, 12, .inl u.2.2.2.1)), (r2movedFrom, .inl (cyI, 12, .inl u.2.2.2.2.1)), (r2movedTo, .inl (cyI, 12, .inl u.2.2.2.2.2))] t.heap ∧ va_D (va_A [(a2, .inr (2, [.int v2canons, .int v2present, .int v2stalls, .ref r2there, .ref r2stallOf, .ref r2worth, .ref r2holder, .ref r2wishes, .int v2moves, .ref r2mover, .ref r2movedFrom, .ref r2movedTo])), (r2stallOf, .inl (cyI, 20, .inl f2stallOf)), (r2holder, .inl (cyI, 12, .inl f2holder)), (r2mover, .inl (cyI, 12, .inl f2mover)), (r2movedFrom, .inl (cyI, 12, .inl f2movedFrom)), (r2movedTo, .inl (cyI, 12, .inl f2movedTo))] sz) [(a2, .inr (2, [.int v2canons, .int v2present, .int v2stalls, .ref r2there, .ref r2stallOf, .ref r2worth, .ref r2holder, .ref r2wishes, .int u.2.2.1, .ref r2mover, .ref r2movedFrom, .ref r2movedTo])), (r2stallOf, .inl (cyI, 20, .inl u.1)), (r2holder, .inl (cyI, 12, .inl u.2.1)), (r2mover, .inl (cyI, 12, .inl u.2.2.2.1)), (r2movedFrom, .inl (cyI, 12, .inl u.2.2.2.2.1)), (r2movedTo, .inl (cyI, 12, .inl u.2.2.2.2.2))]) (va_A [(a2, .inr (2, [.int v2canons, .int v2present, .int v2stalls, .ref r2there, .ref r2stallOf, .ref r2worth, .ref r2holder, .ref r2wishes, .int v2moves, .ref r2mover, .ref r2movedFrom, .ref r2movedTo])), (r2stallOf, .inl (cyI, 20, .inl f2stallOf)), (r2holder, .inl (cyI, 12, .inl f2holder)), (r2mover, .inl (cyI, 12, .inl f2mover)), (r2movedFrom, .inl (cyI, 12, .inl f2movedFrom)), (r2movedTo, .inl (cyI, 12, .inl f2movedTo))] sz)) 0 0 (va_A [(a2, .inr (2, [.int v2canons, .int v2present, .int v2stalls, .ref r2there, .ref r2stallOf, .ref r2worth, .ref r2holder, .ref r2wishes, .int v2moves, .ref r2mover, .ref r2movedFrom, .ref r2movedTo])), (r2stallOf, .inl (cyI, 20, .inl f2stallOf)), (r2holder, .inl (cyI, 12, .inl f2holder)), (r2mover, .inl (cyI, 12, .inl f2mover)), (r2movedFrom, .inl (cyI, 12, .inl f2movedFrom)), (r2movedTo, .inl (cyI, 12, .inl f2movedTo))] sz) := by
  refine Met.ofW (cc := cX2_moveTo) (maxL := 4) (ret := (some .int)) (by decide) rfl ?_
  intro p e s m args below meth c s₁ B hml hv
  obtain ⟨rfl, hsz, hP, hK, hD0, hN⟩ := hv
  have hx := B.exec
  have hb := B.bytes
  have hr := B.returns
  have hts := atoms_spec (ws := wsX2_moveTo) B.pre
  have hown : s.vm.findClass RX2 = some m.cls := findClass_of_methodNamed B.named
  have hlocks := B.notSynchronized
  subst hsz
  have hD := hD0.self (sz := s.heap.size)
  generalize hAe : va_A [(a2, .inr (2, [.int v2canons, .int v2present, .int v2stalls, .ref r2there, .ref r2stallOf, .ref r2worth, .ref r2holder, .ref r2wishes, .int v2moves, .ref r2mover, .ref r2movedFrom, .ref r2movedTo])), (r2stallOf, .inl (cyI, 20, .inl f2stallOf)), (r2holder, .inl (cyI, 12, .inl f2holder)), (r2mover, .inl (cyI, 12, .inl f2mover)), (r2movedFrom, .inl (cyI, 12, .inl f2movedFrom)), (r2movedTo, .inl (cyI, 12, .inl f2movedTo))] s.heap.size = A at hD ⊢
  have hA : ∀ q : Nat, s.heap.size ≤ q → A q := fun q h => by rw [← hAe]; exact Or.inr h
  have hS : va_S A s.heap s.heap [] := va_S.rf
  have hiX2 : ∀ w ∈ u_ws RX2 TX2 12, w ∈ wsX2_moveTo := by decide +kernel
  have lk25 := hts (.fieldLink RX2 25 "StallBook$Chapter" "stallOf" "[I") (by decide +kernel)
  have lk32 := hts (.fieldLink RX2 32 "StallBook$Chapter" "holder" "[I") (by decide +kernel)
  have lk38 := hts (.fieldLink RX2 38 "StallBook$Chapter" "moves" "I") (by decide +kernel)
  have lk41 := hts (.fieldLink RX2 41 "StallBook$Chapter" "mover" "[I") (by decide +kernel)
  have lk44 := hts (.fieldLink RX2 44 "StallBook$Chapter" "movedFrom" "[I") (by decide +kernel)
  have lk47 := hts (.fieldLink RX2 47 "StallBook$Chapter" "movedTo" "[I") (by decide +kernel)
  delta wp_X2_moveTo at h
  have hl := lv_entry [.ref a2, .int p1, .int p2] (n := 4) (Nat.le_of_ble_eq_true rfl)
  rw [lg_entry_eq]
  generalize (lg_sl [.ref a2, .int p1, .int p2] ++ List.replicate (4 - (lg_sl [.ref a2, .int p1, .int p2]).length) Slot.unset).toArray = ls at hl ⊢
  replace hl : lv_has ls 4 [(0, .ref a2), (1, .int p1), (2, .int p2)] := hl
  refine lv_aload_n hx hb dX2_moveTo_0 rfl (lv_at hl 0 rfl) ?_
  refine va_get (D := (dC, dI)) (ci := 2) (v := .ref r2stallOf) (C := RX2) (T := TX2) (N := 12) hx hb hts hiX2 hown hK hP 0 rfl rfl 4 (by decide) lk25 (fun _ h9 => h9) rfl dX2_moveTo_1 ?_
  refine lv_iload_n hx hb dX2_moveTo_4 rfl (lv_at hl 1 rfl) ?_
  refine va_iald hx hb hK hP 1 0 rfl rfl h.1 dX2_moveTo_5 ?_
  replace h := h.2
  refine lv_topi (fun x1 ex1 => ?_)
  replace h := h x1 ex1
  refine lv_istore_n (lv' := [(3, .int x1), (0, .ref a2), (1, .int p1), (2, .int p2)]) hx hb dX2_moveTo_6 rfl hl (by decide) rfl (fun ls hl => ?_)
  refine lv_aload_n hx hb dX2_moveTo_7 rfl (lv_at hl 1 rfl) ?_
  refine va_get (D := (dC, dI)) (ci := 2) (v := .ref r2mover) (C := RX2) (T := TX2) (N := 12) hx hb hts hiX2 hown hK hP 0 rfl rfl 9 (by decide) lk41 (fun _ h9 => h9) rfl dX2_moveTo_8 ?_
  refine lv_aload_n hx hb dX2_moveTo_11 rfl (lv_at hl 1 rfl) ?_
  refine va_get (D := (dC, dI)) (ci := 2) (v := .int v2moves) (C := RX2) (T := TX2) (N := 12) hx hb hts hiX2 hown hK hP 0 rfl rfl 8 (by decide) lk38 (fun _ h9 => h9) rfl dX2_moveTo_12 ?_
  refine lv_iload_n hx hb dX2_moveTo_15 rfl (lv_at hl 2 rfl) ?_
  refine va_iast hx hb hK hP hD hS 3 0 rfl rfl h.1 dX2_moveTo_16 (fun H locs hP hD hS => ?_)
  replace h := h.2
  replace hP : va_P (dC, dI) vwCl [(a2, .inr (2, [.int v2canons, .int v2present, .int v2stalls, .ref r2there, .ref r2stallOf, .ref r2worth, .ref r2holder, .ref r2wishes, .int v2moves, .ref r2mover, .ref r2movedFrom, .ref r2movedTo])), (r2stallOf, .inl (cyI, 20, .inl f2stallOf)), (r2holder, .inl (cyI, 12, .inl f2holder)), (r2mover, .inl (cyI, 12, .inl (upd f2mover v2moves.toNatClampNeg p1))), (r2movedFrom, .inl (cyI, 12, .inl f2movedFrom)), (r2movedTo, .inl (cyI, 12, .inl f2movedTo))] H := hP
  replace hD : va_D A [(a2, .inr (2, [.int v2canons, .int v2present, .int v2stalls, .ref r2there, .ref r2stallOf, .ref r2worth, .ref r2holder, .ref r2wishes, .int v2moves, .ref r2mover, .ref r2movedFrom, .ref r2movedTo])), (r2stallOf, .inl (cyI, 20, .inl f2stallOf)), (r2holder, .inl (cyI, 12, .inl f2holder)), (r2mover, .inl (cyI, 12, .inl (upd f2mover v2moves.toNatClampNeg p1))), (r2movedFrom, .inl (cyI, 12, .inl f2movedFrom)), (r2movedTo, .inl (cyI, 12, .inl f2movedTo))] := hD
  refine lv_aload_n hx hb dX2_moveTo_17 rfl (lv_at hl 1 rfl) ?_
  refine va_get (D := (dC, dI)) (ci := 2) (v := .ref r2movedFrom) (C := RX2) (T := TX2) (N := 12) hx hb hts hiX2 hown hK hP 0 rfl rfl 10 (by decide) lk44 (fun _ h9 => h9) rfl dX2_moveTo_18 ?_
  refine lv_aload_n hx hb dX2_moveTo_21 rfl (lv_at hl 1 rfl) ?_
  refine va_get (D := (dC, dI)) (ci := 2) (v := .int v2moves) (C := RX2) (T := TX2) (N := 12) hx hb hts hiX2 hown hK hP 0 rfl rfl 8 (by decide) lk38 (fun _ h9 => h9) rfl dX2_moveTo_22 ?_
  refine lv_iload_n hx hb dX2_moveTo_25 rfl (lv_at hl 0 rfl) ?_
  refine va_iast hx hb hK hP hD hS 4 0 rfl rfl h.1 dX2_moveTo_26 (fun H locs hP hD hS => ?_)
  replace h := h.2
  replace hP : va_P (dC, dI) vwCl [(a2, .inr (2, [.int v2canons, .int v2present, .int v2stalls, .ref r2there, .ref r2stallOf, .ref r2worth, .ref r2holder, .ref r2wishes, .int v2moves, .ref r2mover, .ref r2movedFrom, .ref r2movedTo])), (r2stallOf, .inl (cyI, 20, .inl f2stallOf)), (r2holder, .inl (cyI, 12, .inl f2holder)), (r2mover, .inl (cyI, 12, .inl (upd f2mover v2moves.toNatClampNeg p1))), (r2movedFrom, .inl (cyI, 12, .inl (upd f2movedFrom v2moves.toNatClampNeg x1))), (r2movedTo, .inl (cyI, 12, .inl f2movedTo))] H := hP
  replace hD : va_D A [(a2, .inr (2, [.int v2canons, .int v2present, .int v2stalls, .ref r2there, .ref r2stallOf, .ref r2worth, .ref r2holder, .ref r2wishes, .int v2moves, .ref r2mover, .ref r2movedFrom, .ref r2movedTo])), (r2stallOf, .inl (cyI, 20, .inl f2stallOf)), (r2holder, .inl (cyI, 12, .inl f2holder)), (r2mover, .inl (cyI, 12, .inl (upd f2mover v2moves.toNatClampNeg p1))), (r2movedFrom, .inl (cyI, 12, .inl (upd f2movedFrom v2moves.toNatClampNeg x1))), (r2movedTo, .inl (cyI, 12, .inl f2movedTo))] := hD
  refine lv_aload_n hx hb dX2_moveTo_27 rfl (lv_at hl 1 rfl) ?_
  refine va_get (D := (dC, dI)) (ci := 2) (v := .ref r2movedTo) (C := RX2) (T := TX2) (N := 12) hx hb hts hiX2 hown hK hP 0 rfl rfl 11 (by decide) lk47 (fun _ h9 => h9) rfl dX2_moveTo_28 ?_
  refine lv_aload_n hx hb dX2_moveTo_31 rfl (lv_at hl 1 rfl) ?_
  refine va_get (D := (dC, dI)) (ci := 2) (v := .int v2moves) (C := RX2) (T := TX2) (N := 12) hx hb hts hiX2 hown hK hP 0 rfl rfl 8 (by decide) lk38 (fun _ h9 => h9) rfl dX2_moveTo_32 ?_
  refine lv_iload_n hx hb dX2_moveTo_35 rfl (lv_at hl 3 rfl) ?_
  refine va_iast hx hb hK hP hD hS 5 0 rfl rfl h.1 dX2_moveTo_36 (fun H locs hP hD hS => ?_)
  replace h := h.2
  replace hP : va_P (dC, dI) vwCl [(a2, .inr (2, [.int v2canons, .int v2present, .int v2stalls, .ref r2there, .ref r2stallOf, .ref r2worth, .ref r2holder, .ref r2wishes, .int v2moves, .ref r2mover, .ref r2movedFrom, .ref r2movedTo])), (r2stallOf, .inl (cyI, 20, .inl f2stallOf)), (r2holder, .inl (cyI, 12, .inl f2holder)), (r2mover, .inl (cyI, 12, .inl (upd f2mover v2moves.toNatClampNeg p1))), (r2movedFrom, .inl (cyI, 12, .inl (upd f2movedFrom v2moves.toNatClampNeg x1))), (r2movedTo, .inl (cyI, 12, .inl (upd f2movedTo v2moves.toNatClampNeg p2)))] H := hP
  replace hD : va_D A [(a2, .inr (2, [.int v2canons, .int v2present, .int v2stalls, .ref r2there, .ref r2stallOf, .ref r2worth, .ref r2holder, .ref r2wishes, .int v2moves, .ref r2mover, .ref r2movedFrom, .ref r2movedTo])), (r2stallOf, .inl (cyI, 20, .inl f2stallOf)), (r2holder, .inl (cyI, 12, .inl f2holder)), (r2mover, .inl (cyI, 12, .inl (upd f2mover v2moves.toNatClampNeg p1))), (r2movedFrom, .inl (cyI, 12, .inl (upd f2movedFrom v2moves.toNatClampNeg x1))), (r2movedTo, .inl (cyI, 12, .inl (upd f2movedTo v2moves.toNatClampNeg p2)))] := hD
  refine lv_aload_n hx hb dX2_moveTo_37 rfl (lv_at hl 1 rfl) ?_
  refine lv_dup hx hb dX2_moveTo_38 rfl ?_
  refine va_get (D := (dC, dI)) (ci := 2) (v := .int v2moves) (C := RX2) (T := TX2) (N := 12) hx hb hts hiX2 hown hK hP 0 rfl rfl 8 (by decide) lk38 (fun _ h9 => h9) rfl dX2_moveTo_39 ?_
  refine lv_iconst (v := 1) hx hb dX2_moveTo_42 (by decide) ?_
  refine lv_iadd hx hb dX2_moveTo_43 ?_
  refine va_put (D := (dC, dI)) (ci := 2) (v := .int (v2moves + 1)) (ty := .int) (C := RX2) (T := TX2) (N := 12) hx hb hts hiX2 tyX2 tyX2_ok nmX2 hown hK hP hD hS 0 rfl rfl 8 (by decide) lk38 (fun _ h9 => h9) rfl (by decide +kernel) rfl rfl (Nat.le_of_ble_eq_true rfl) dX2_moveTo_44 (fun H locs hP hD hS => ?_)
  replace hP : va_P (dC, dI) vwCl [(a2, .inr (2, [.int v2canons, .int v2present, .int v2stalls, .ref r2there, .ref r2stallOf, .ref r2worth, .ref r2holder, .ref r2wishes, .int (v2moves + 1), .ref r2mover, .ref r2movedFrom, .ref r2movedTo])), (r2stallOf, .inl (cyI, 20, .inl f2stallOf)), (r2holder, .inl (cyI, 12, .inl f2holder)), (r2mover, .inl (cyI, 12, .inl (upd f2mover v2moves.toNatClampNeg p1))), (r2movedFrom, .inl (cyI, 12, .inl (upd f2movedFrom v2moves.toNatClampNeg x1))), (r2movedTo, .inl (cyI, 12, .inl (upd f2movedTo v2moves.toNatClampNeg p2)))] H := hP
  replace hD : va_D A [(a2, .inr (2, [.int v2canons, .int v2present, .int v2stalls, .ref r2there, .ref r2stallOf, .ref r2worth, .ref r2holder, .ref r2wishes, .int (v2moves + 1), .ref r2mover, .ref r2movedFrom, .ref r2movedTo])), (r2stallOf, .inl (cyI, 20, .inl f2stallOf)), (r2holder, .inl (cyI, 12, .inl f2holder)), (r2mover, .inl (cyI, 12, .inl (upd f2mover v2moves.toNatClampNeg p1))), (r2movedFrom, .inl (cyI, 12, .inl (upd f2movedFrom v2moves.toNatClampNeg x1))), (r2movedTo, .inl (cyI, 12, .inl (upd f2movedTo v2moves.toNatClampNeg p2)))] := hD
  refine lv_aload_n hx hb dX2_moveTo_47 rfl (lv_at hl 1 rfl) ?_
  refine va_get (D := (dC, dI)) (ci := 2) (v := .ref r2stallOf) (C := RX2) (T := TX2) (N := 12) hx hb hts hiX2 hown hK hP 0 rfl rfl 4 (by decide) lk25 (fun _ h9 => h9) rfl dX2_moveTo_48 ?_
  refine lv_iload_n hx hb dX2_moveTo_51 rfl (lv_at hl 2 rfl) ?_
  refine lv_iload_n hx hb dX2_moveTo_52 rfl (lv_at hl 3 rfl) ?_
  refine va_iast hx hb hK hP hD hS 1 0 rfl rfl h.1 dX2_moveTo_53 (fun H locs hP hD hS => ?_)
  replace h := h.2
  replace hP : va_P (dC, dI) vwCl [(a2, .inr (2, [.int v2canons, .int v2present, .int v2stalls, .ref r2there, .ref r2stallOf, .ref r2worth, .ref r2holder, .ref r2wishes, .int (v2moves + 1), .ref r2mover, .ref r2movedFrom, .ref r2movedTo])), (r2stallOf, .inl (cyI, 20, .inl (upd f2stallOf p1.toNatClampNeg p2))), (r2holder, .inl (cyI, 12, .inl f2holder)), (r2mover, .inl (cyI, 12, .inl (upd f2mover v2moves.toNatClampNeg p1))), (r2movedFrom, .inl (cyI, 12, .inl (upd f2movedFrom v2moves.toNatClampNeg x1))), (r2movedTo, .inl (cyI, 12, .inl (upd f2movedTo v2moves.toNatClampNeg p2)))] H := hP
  replace hD : va_D A [(a2, .inr (2, [.int v2canons, .int v2present, .int v2stalls, .ref r2there, .ref r2stallOf, .ref r2worth, .ref r2holder, .ref r2wishes, .int (v2moves + 1), .ref r2mover, .ref r2movedFrom, .ref r2movedTo])), (r2stallOf, .inl (cyI, 20, .inl (upd f2stallOf p1.toNatClampNeg p2))), (r2holder, .inl (cyI, 12, .inl f2holder)), (r2mover, .inl (cyI, 12, .inl (upd f2mover v2moves.toNatClampNeg p1))), (r2movedFrom, .inl (cyI, 12, .inl (upd f2movedFrom v2moves.toNatClampNeg x1))), (r2movedTo, .inl (cyI, 12, .inl (upd f2movedTo v2moves.toNatClampNeg p2)))] := hD
  refine lv_aload_n hx hb dX2_moveTo_54 rfl (lv_at hl 1 rfl) ?_
  refine va_get (D := (dC, dI)) (ci := 2) (v := .ref r2holder) (C := RX2) (T := TX2) (N := 12) hx hb hts hiX2 hown hK hP 0 rfl rfl 6 (by decide) lk32 (fun _ h9 => h9) rfl dX2_moveTo_55 ?_
  refine lv_iload_n hx hb dX2_moveTo_58 rfl (lv_at hl 3 rfl) ?_
  refine lv_iload_n hx hb dX2_moveTo_59 rfl (lv_at hl 2 rfl) ?_
  refine va_iast hx hb hK hP hD hS 2 0 rfl rfl h.1 dX2_moveTo_60 (fun H locs hP hD hS => ?_)
  replace h := h.2
  replace hP : va_P (dC, dI) vwCl [(a2, .inr (2, [.int v2canons, .int v2present, .int v2stalls, .ref r2there, .ref r2stallOf, .ref r2worth, .ref r2holder, .ref r2wishes, .int (v2moves + 1), .ref r2mover, .ref r2movedFrom, .ref r2movedTo])), (r2stallOf, .inl (cyI, 20, .inl (upd f2stallOf p1.toNatClampNeg p2))), (r2holder, .inl (cyI, 12, .inl (upd f2holder p2.toNatClampNeg p1))), (r2mover, .inl (cyI, 12, .inl (upd f2mover v2moves.toNatClampNeg p1))), (r2movedFrom, .inl (cyI, 12, .inl (upd f2movedFrom v2moves.toNatClampNeg x1))), (r2movedTo, .inl (cyI, 12, .inl (upd f2movedTo v2moves.toNatClampNeg p2)))] H := hP
  replace hD : va_D A [(a2, .inr (2, [.int v2canons, .int v2present, .int v2stalls, .ref r2there, .ref r2stallOf, .ref r2worth, .ref r2holder, .ref r2wishes, .int (v2moves + 1), .ref r2mover, .ref r2movedFrom, .ref r2movedTo])), (r2stallOf, .inl (cyI, 20, .inl (upd f2stallOf p1.toNatClampNeg p2))), (r2holder, .inl (cyI, 12, .inl (upd f2holder p2.toNatClampNeg p1))), (r2mover, .inl (cyI, 12, .inl (upd f2mover v2moves.toNatClampNeg p1))), (r2movedFrom, .inl (cyI, 12, .inl (upd f2movedFrom v2moves.toNatClampNeg x1))), (r2movedTo, .inl (cyI, 12, .inl (upd f2movedTo v2moves.toNatClampNeg p2)))] := hD
  refine lv_iload_n hx hb dX2_moveTo_61 rfl (lv_at hl 0 rfl) ?_
  refine lv_iconst (v := (-1)) hx hb dX2_moveTo_62 (by decide) ?_
  refine lv_icmp_eq (tgt := 73) hx hb dX2_moveTo_63 (by decide) (fun c => ?_) (fun c => ?_)
  · replace h := h.1 c
    refine lv_iload_n hx hb dX2_moveTo_73 rfl (lv_at hl 0 rfl) ?_
    exact W.iret (v := x1) hx hb hr (fun t ht hW => ⟨⟨x1, ((upd f2stallOf p1.toNatClampNeg p2), (upd f2holder p2.toNatClampNeg p1), (v2moves + 1), (upd f2mover v2moves.toNatClampNeg p1), (upd f2movedFrom v2moves.toNatClampNeg x1), (upd f2movedTo v2moves.toNatClampNeg p2)), rfl, h, by rw [ht]; exact hP, hD⟩, hS.F ht⟩) hS.2.2 dX2_moveTo_74
  · replace h := h.2 c
    refine lv_aload_n hx hb dX2_moveTo_66 rfl (lv_at hl 1 rfl) ?_
    refine va_get (D := (dC, dI)) (ci := 2) (v := .ref r2holder) (C := RX2) (T := TX2) (N := 12) hx hb hts hiX2 hown hK hP 0 rfl rfl 6 (by decide) lk32 (fun _ h9 => h9) rfl dX2_moveTo_67 ?_
    refine lv_iload_n hx hb dX2_moveTo_70 rfl (lv_at hl 0 rfl) ?_
    refine lv_iconst (v := (-1)) hx hb dX2_moveTo_71 (by decide) ?_
    refine va_iast hx hb hK hP hD hS 2 0 rfl rfl h.1 dX2_moveTo_72 (fun H locs hP hD hS => ?_)
    replace h := h.2
    replace hP : va_P (dC, dI) vwCl [(a2, .inr (2, [.int v2canons, .int v2present, .int v2stalls, .ref r2there, .ref r2stallOf, .ref r2worth, .ref r2holder, .ref r2wishes, .int (v2moves + 1), .ref r2mover, .ref r2movedFrom, .ref r2movedTo])), (r2stallOf, .inl (cyI, 20, .inl (upd f2stallOf p1.toNatClampNeg p2))), (r2holder, .inl (cyI, 12, .inl (upd (upd f2holder p2.toNatClampNeg p1) x1.toNatClampNeg (-1)))), (r2mover, .inl (cyI, 12, .inl (upd f2mover v2moves.toNatClampNeg p1))), (r2movedFrom, .inl (cyI, 12, .inl (upd f2movedFrom v2moves.toNatClampNeg x1))), (r2movedTo, .inl (cyI, 12, .inl (upd f2movedTo v2moves.toNatClampNeg p2)))] H := hP
    replace hD : va_D A [(a2, .inr (2, [.int v2canons, .int v2present, .int v2stalls, .ref r2there, .ref r2stallOf, .ref r2worth, .ref r2holder, .ref r2wishes, .int (v2moves + 1), .ref r2mover, .ref r2movedFrom, .ref r2movedTo])), (r2stallOf, .inl (cyI, 20, .inl (upd f2stallOf p1.toNatClampNeg p2))), (r2holder, .inl (cyI, 12, .inl (upd (upd f2holder p2.toNatClampNeg p1) x1.toNatClampNeg (-1)))), (r2mover, .inl (cyI, 12, .inl (upd f2mover v2moves.toNatClampNeg p1))), (r2movedFrom, .inl (cyI, 12, .inl (upd f2movedFrom v2moves.toNatClampNeg x1))), (r2movedTo, .inl (cyI, 12, .inl (upd f2movedTo v2moves.toNatClampNeg p2)))] := hD
    refine lv_iload_n hx hb dX2_moveTo_73 rfl (lv_at hl 0 rfl) ?_
    exact W.iret (v := x1) hx hb hr (fun t ht hW => ⟨⟨x1, ((upd f2stallOf p1.toNatClampNeg p2), (upd (upd f2holder p2.toNatClampNeg p1) x1.toNatClampNeg (-1)), (v2moves + 1), (upd f2mover v2moves.toNatClampNeg p1), (upd f2movedFrom v2moves.toNatClampNeg x1), (upd f2movedTo v2moves.toNatClampNeg p2)), rfl, h, by rw [ht]; exact hP, hD⟩, hS.F ht⟩) hS.2.2 dX2_moveTo_74
def lp_X2_fall_9 (k1 : Int32) (v2canons : Int32) (f2there : Nat → Int32) (f2worth : Nat → Int32) (f2wishes : Nat → Int32) (Post : (Nat → Int32) × (Nat → Int32) × Int32 × (Nat → Int32) × (Nat → Int32) × (Nat → Int32) → Prop) (K : Int32 → Int32 → (Nat → Int32) → (Nat → Int32) → Int32 → (Nat → Int32) → (Nat → Int32) → (Nat → Int32) → Prop) : Nat → Int32 → Int32 → (Nat → Int32) → (Nat → Int32) → Int32 → (Nat → Int32) → (Nat → Int32) → (Nat → Int32) → Prop
  | 0, _, _, _, _, _, _, _, _ => False
  | n + 1, y2, y3, f2stallOf, f2holder, v2moves, f2mover, f2movedFrom, f2movedTo => (((12 ≤ y3) → (K y2 y3 f2stallOf f2holder v2moves f2mover f2movedFrom f2movedTo)) ∧ ((¬ 12 ≤ y3) → (((y2 = (-1)) → (K y2 y3 f2stallOf f2holder v2moves f2mover f2movedFrom f2movedTo)) ∧ ((¬ y2 = (-1)) → (wp_X2_firstOptant y2 v2canons f2there f2stallOf f2worth f2wishes (fun (r1 : Int32) (u2 : Unit) => (((¬ r1 = (-1)) → (wp_X2_moveTo r1 y2 f2stallOf f2holder v2moves f2mover f2movedFrom f2movedTo (fun (r3 : Int32) (u4 : (Nat → Int32) × (Nat → Int32) × Int32 × (Nat → Int32) × (Nat → Int32) × (Nat → Int32)) => (∀ x5 : Int32, x5 = y3 + 1 → (lp_X2_fall_9 k1 v2canons f2there f2worth f2wishes Post K n r3 x5 u4.1 u4.2.1 u4.2.2.1 u4.2.2.2.1 u4.2.2.2.2.1 u4.2.2.2.2.2))))) ∧ ((r1 = (-1)) → (∀ x6 : Int32, x6 = y3 + 1 → (lp_X2_fall_9 k1 v2canons f2there f2worth f2wishes Post K n (-1) x6 f2stallOf f2holder v2moves f2mover f2movedFrom f2movedTo))))))))))
def wp_X2_fall (p1 : Int32) (v2canons : Int32) (f2there : Nat → Int32) (f2stallOf : Nat → Int32) (f2worth : Nat → Int32) (f2holder : Nat → Int32) (f2wishes : Nat → Int32) (v2moves : Int32) (f2mover : Nat → Int32) (f2movedFrom : Nat → Int32) (f2movedTo : Nat → Int32) (Post : (Nat → Int32) × (Nat → Int32) × Int32 × (Nat → Int32) × (Nat → Int32) × (Nat → Int32) → Prop) : Prop := (∃ n15 : Nat, lp_X2_fall_9 p1 v2canons f2there f2worth f2wishes Post (fun (x7 : Int32) (x8 : Int32) (g9 : Nat → Int32) (g10 : Nat → Int32) (x11 : Int32) (g12 : Nat → Int32) (g13 : Nat → Int32) (g14 : Nat → Int32) => (Post (g9, g10, x11, g12, g13, g14))) n15 p1 0 f2stallOf f2holder 0 f2mover f2movedFrom f2movedTo)
set_option maxHeartbeats 4000000 in
set_option maxRecDepth 100000 in
theorem c_X2_fall (l : Launch) (dC : Nat → ClassId) (dI : Nat → Nat → Nat) (cyI cyZ cyB : ClassId) (a2 : Nat) (r2there : Nat) (r2stallOf : Nat) (r2worth : Nat) (r2holder : Nat) (r2wishes : Nat) (r2mover : Nat) (r2movedFrom : Nat) (r2movedTo : Nat) (sz : Nat) (v2canons : Int32) (v2present : Int32) (v2stalls : Int32) (v2moves : Int32) (f2there : Nat → Int32) (f2stallOf : Nat → Int32) (f2worth : Nat → Int32) (f2holder : Nat → Int32) (f2wishes : Nat → Int32) (f2mover : Nat → Int32) (f2movedFrom : Nat → Int32) (f2movedTo : Nat → Int32) (p1 : Int32) (Post : (Nat → Int32) × (Nat → Int32) × Int32 × (Nat → Int32) × (Nat → Int32) × (Nat → Int32) → Prop) (h : wp_X2_fall p1 v2canons f2there f2stallOf f2worth f2holder f2wishes v2moves f2mover f2movedFrom f2movedTo Post) : Met l yX2_fall wsX2_fall ({ frames := 3, cells := 0, slots := 0, locals := 66 } : Room) (MPre (dC, dI) [(cyI, .int), (cyZ, .boolean), (cyB, .byte)] [.ref a2, .int p1] sz [(a2, .inr (2, [.int v2canons, .int v2present, .int v2stalls, .ref r2there, .ref r2stallOf, .ref r2worth, .ref r2holder, .ref r2wishes, .int v2moves, .ref r2mover, .ref r2movedFrom, .ref r2movedTo])), (r2there, .inl (cyZ, 20, .inl f2there)), (r2stallOf, .inl (cyI, 20, .inl f2stallOf)), (r2worth, .inl (cyI, 12, .inl f2worth)), (r2holder, .inl (cyI, 12, .inl f2holder)), (r2wishes, .inl (cyZ, 240, .inl f2wishes)), (r2mover, .inl (cyI, 12, .inl f2mover)), (r2movedFrom, .inl (cyI, 12, .inl f2movedFrom)), (r2movedTo, .inl (cyI, 12, .inl f2movedTo))]) (va_Qv Post (fun (u : (Nat → Int32) × (Nat → Int32) × Int32 × (Nat → Int32) × (Nat → Int32) × (Nat → Int32)) (t : State) => va_P (dC, dI) vwCl [(a2, .inr (2, [.int v2canons, .int v2present, .int v2stalls, .ref r2there, .ref r2stallOf, .ref r2worth, .ref r2holder, .ref r2wishes, .int u.2.2.1, .ref r2mover, .ref r2movedFrom, .ref r2movedTo])), (r2there, .inl (cyZ, 20, .inl f2there)), (r2stallOf, .inl (cyI, 20, .inl u.1)), (r2worth, .inl (cyI, 12, .inl f2worth)), (r2holder, .inl (cyI, 12, .inl u.2.1)), (r2wishes, .inl (cyZ, 240, .inl f2wishes)), (r2mover, .inl (cyI, 12, .inl u.2.2.2.1)), (r2movedFrom, .inl (cyI, 12, .inl u.2.2.2.2.1)), (r2movedTo, .inl (cyI, 12, .inl u.2.2.2.2.2))] t.heap ∧ va_D (va_A [(a2, .inr (2, [.int v2canons, .int v2present, .int v2stalls, .ref r2there, .ref r2stallOf, .ref r2worth, .ref r2holder, .ref r2wishes, .int v2moves, .ref r2mover, .ref r2movedFrom, .ref r2movedTo])), (r2there, .inl (cyZ, 20, .inl f2there)), (r2stallOf, .inl (cyI, 20, .inl f2stallOf)), (r2worth, .inl (cyI, 12, .inl f2worth)), (r2holder, .inl (cyI, 12, .inl f2holder)), (r2wishes, .inl (cyZ, 240, .inl f2wishes)), (r2mover, .inl (cyI, 12, .inl f2mover)), (r2movedFrom, .inl (cyI, 12, .inl f2movedFrom)), (r2movedTo, .inl (cyI, 12, .inl f2movedTo))] sz) [(a2, .inr (2, [.int v2canons, .int v2present, .int v2stalls, .ref r2there, .ref r2stallOf, .ref r2worth, .ref r2holder, .ref r2wishes, .int u.2.2.1, .ref r2mover, .ref r2movedFrom, .ref r2movedTo])), (r2there, .inl (cyZ, 20, .inl f2there)), (r2stallOf, .inl (cyI, 20, .inl u.1)), (r2worth, .inl (cyI, 12, .inl f2worth)), (r2holder, .inl (cyI, 12, .inl u.2.1)), (r2wishes, .inl (cyZ, 240, .inl f2wishes)), (r2mover, .inl (cyI, 12, .inl u.2.2.2.1)), (r2movedFrom, .inl (cyI, 12, .inl u.2.2.2.2.1)), (r2movedTo, .inl (cyI, 12, .inl u.2.2.2.2.2))]) (va_A [(a2, .inr (2, [.int v2canons, .int v2present, .int v2stalls, .ref r2there, .ref r2stallOf, .ref r2worth, .ref r2holder, .ref r2wishes, .int v2moves, .ref r2mover, .ref r2movedFrom, .ref r2movedTo])), (r2there, .inl (cyZ, 20, .inl f2there)), (r2stallOf, .inl (cyI, 20, .inl f2stallOf)), (r2worth, .inl (cyI, 12, .inl f2worth)), (r2holder, .inl (cyI, 12, .inl f2holder)), (r2wishes, .inl (cyZ, 240, .inl f2wishes)), (r2mover, .inl (cyI, 12, .inl f2mover)), (r2movedFrom, .inl (cyI, 12, .inl f2movedFrom)), (r2movedTo, .inl (cyI, 12, .inl f2movedTo))] sz)) 0 0 (va_A [(a2, .inr (2, [.int v2canons, .int v2present, .int v2stalls, .ref r2there, .ref r2stallOf, .ref r2worth, .ref r2holder, .ref r2wishes, .int v2moves, .ref r2mover, .ref r2movedFrom, .ref r2movedTo])), (r2there, .inl (cyZ, 20, .inl f2there)), (r2stallOf, .inl (cyI, 20, .inl f2stallOf)), (r2worth, .inl (cyI, 12, .inl f2worth)), (r2holder, .inl (cyI, 12, .inl f2holder)), (r2wishes, .inl (cyZ, 240, .inl f2wishes)), (r2mover, .inl (cyI, 12, .inl f2mover)), (r2movedFrom, .inl (cyI, 12, .inl f2movedFrom)), (r2movedTo, .inl (cyI, 12, .inl f2movedTo))] sz) := by
  refine Met.ofW (cc := cX2_fall) (maxL := 5) (ret := none) (by decide) rfl ?_
  intro p e s m args below meth c s₁ B hml hv
  obtain ⟨rfl, hsz, hP, hK, hD0, hN⟩ := hv
  have hx := B.exec
  have hb := B.bytes
  have hr := B.returns
  have hts := atoms_spec (ws := wsX2_fall) B.pre
  have hown : s.vm.findClass RX2 = some m.cls := findClass_of_methodNamed B.named
  have hlocks := B.notSynchronized
  subst hsz
  have hD := hD0.self (sz := s.heap.size)
  generalize hAe : va_A [(a2, .inr (2, [.int v2canons, .int v2present, .int v2stalls, .ref r2there, .ref r2stallOf, .ref r2worth, .ref r2holder, .ref r2wishes, .int v2moves, .ref r2mover, .ref r2movedFrom, .ref r2movedTo])), (r2there, .inl (cyZ, 20, .inl f2there)), (r2stallOf, .inl (cyI, 20, .inl f2stallOf)), (r2worth, .inl (cyI, 12, .inl f2worth)), (r2holder, .inl (cyI, 12, .inl f2holder)), (r2wishes, .inl (cyZ, 240, .inl f2wishes)), (r2mover, .inl (cyI, 12, .inl f2mover)), (r2movedFrom, .inl (cyI, 12, .inl f2movedFrom)), (r2movedTo, .inl (cyI, 12, .inl f2movedTo))] s.heap.size = A at hD ⊢
  have hA : ∀ q : Nat, s.heap.size ≤ q → A q := fun q h => by rw [← hAe]; exact Or.inr h
  have hS : va_S A s.heap s.heap [] := va_S.rf
  have hiX2 : ∀ w ∈ u_ws RX2 TX2 12, w ∈ wsX2_fall := by decide +kernel
  have lk38 := hts (.fieldLink RX2 38 "StallBook$Chapter" "moves" "I") (by decide +kernel)
  have L9 : ∀ (k1 : Int32) (v2canons : Int32) (f2there : Nat → Int32) (f2worth : Nat → Int32) (f2wishes : Nat → Int32) (K : Int32 → Int32 → (Nat → Int32) → (Nat → Int32) → Int32 → (Nat → Int32) → (Nat → Int32) → (Nat → Int32) → Prop) (n : Nat) (y2 : Int32) (y3 : Int32) (f2stallOf : Nat → Int32) (f2holder : Nat → Int32) (v2moves : Int32) (f2mover : Nat → Int32) (f2movedFrom : Nat → Int32) (f2movedTo : Nat → Int32) (H : Heap) (locs : List Loc) (ls : Array Slot), lp_X2_fall_9 k1 v2canons f2there f2worth f2wishes Post K n y2 y3 f2stallOf f2holder v2moves f2mover f2movedFrom f2movedTo → va_P (dC, dI) vwCl [(a2, .inr (2, [.int v2canons, .int v2present, .int v2stalls, .ref r2there, .ref r2stallOf, .ref r2worth, .ref r2holder, .ref r2wishes, .int v2moves, .ref r2mover, .ref r2movedFrom, .ref r2movedTo])), (r2there, .inl (cyZ, 20, .inl f2there)), (r2stallOf, .inl (cyI, 20, .inl f2stallOf)), (r2worth, .inl (cyI, 12, .inl f2worth)), (r2holder, .inl (cyI, 12, .inl f2holder)), (r2wishes, .inl (cyZ, 240, .inl f2wishes)), (r2mover, .inl (cyI, 12, .inl f2mover)), (r2movedFrom, .inl (cyI, 12, .inl f2movedFrom)), (r2movedTo, .inl (cyI, 12, .inl f2movedTo))] H → va_D A [(a2, .inr (2, [.int v2canons, .int v2present, .int v2stalls, .ref r2there, .ref r2stallOf, .ref r2worth, .ref r2holder, .ref r2wishes, .int v2moves, .ref r2mover, .ref r2movedFrom, .ref r2movedTo])), (r2there, .inl (cyZ, 20, .inl f2there)), (r2stallOf, .inl (cyI, 20, .inl f2stallOf)), (r2worth, .inl (cyI, 12, .inl f2worth)), (r2holder, .inl (cyI, 12, .inl f2holder)), (r2wishes, .inl (cyZ, 240, .inl f2wishes)), (r2mover, .inl (cyI, 12, .inl f2mover)), (r2movedFrom, .inl (cyI, 12, .inl f2movedFrom)), (r2movedTo, .inl (cyI, 12, .inl f2movedTo))] → va_S A s.heap H locs → lv_has ls 5 [(0, .ref a2), (1, .int k1), (2, .int y2), (3, .int y3)] → (∀ (y2 : Int32) (y3 : Int32) (f2stallOf : Nat → Int32) (f2holder : Nat → Int32) (v2moves : Int32) (f2mover : Nat → Int32) (f2movedFrom : Nat → Int32) (f2movedTo : Nat → Int32) (H : Heap) (locs : List Loc) (ls : Array Slot), K y2 y3 f2stallOf f2holder v2moves f2mover f2movedFrom f2movedTo → va_P (dC, dI) vwCl [(a2, .inr (2, [.int v2canons, .int v2present, .int v2stalls, .ref r2there, .ref r2stallOf, .ref r2worth, .ref r2holder, .ref r2wishes, .int v2moves, .ref r2mover, .ref r2movedFrom, .ref r2movedTo])), (r2there, .inl (cyZ, 20, .inl f2there)), (r2stallOf, .inl (cyI, 20, .inl f2stallOf)), (r2worth, .inl (cyI, 12, .inl f2worth)), (r2holder, .inl (cyI, 12, .inl f2holder)), (r2wishes, .inl (cyZ, 240, .inl f2wishes)), (r2mover, .inl (cyI, 12, .inl f2mover)), (r2movedFrom, .inl (cyI, 12, .inl f2movedFrom)), (r2movedTo, .inl (cyI, 12, .inl f2movedTo))] H → va_D A [(a2, .inr (2, [.int v2canons, .int v2present, .int v2stalls, .ref r2there, .ref r2stallOf, .ref r2worth, .ref r2holder, .ref r2wishes, .int v2moves, .ref r2mover, .ref r2movedFrom, .ref r2movedTo])), (r2there, .inl (cyZ, 20, .inl f2there)), (r2stallOf, .inl (cyI, 20, .inl f2stallOf)), (r2worth, .inl (cyI, 12, .inl f2worth)), (r2holder, .inl (cyI, 12, .inl f2holder)), (r2wishes, .inl (cyZ, 240, .inl f2wishes)), (r2mover, .inl (cyI, 12, .inl f2mover)), (r2movedFrom, .inl (cyI, 12, .inl f2movedFrom)), (r2movedTo, .inl (cyI, 12, .inl f2movedTo))] → va_S A s.heap H locs → lv_has ls 5 [(0, .ref a2), (1, .int k1), (2, .int y2), (3, .int y3)] → W p l e (headSpec wsX2_fall ({ frames := 3, cells := 0, slots := 0, locals := 66 } : Room)).room s m ([.ref a2, .int p1] : List Value).toArray below meth c H locs 0 0 (MQ below (va_Qv Post (fun (u : (Nat → Int32) × (Nat → Int32) × Int32 × (Nat → Int32) × (Nat → Int32) × (Nat → Int32)) (t : State) => va_P (dC, dI) vwCl [(a2, .inr (2, [.int v2canons, .int v2present, .int v2stalls, .ref r2there, .ref r2stallOf, .ref r2worth, .ref r2holder, .ref r2wishes, .int u.2.2.1, .ref r2mover, .ref r2movedFrom, .ref r2movedTo])), (r2there, .inl (cyZ, 20, .inl f2there)), (r2stallOf, .inl (cyI, 20, .inl u.1)), (r2worth, .inl (cyI, 12, .inl f2worth)), (r2holder, .inl (cyI, 12, .inl u.2.1)), (r2wishes, .inl (cyZ, 240, .inl f2wishes)), (r2mover, .inl (cyI, 12, .inl u.2.2.2.1)), (r2movedFrom, .inl (cyI, 12, .inl u.2.2.2.2.1)), (r2movedTo, .inl (cyI, 12, .inl u.2.2.2.2.2))] t.heap ∧ va_D A [(a2, .inr (2, [.int v2canons, .int v2present, .int v2stalls, .ref r2there, .ref r2stallOf, .ref r2worth, .ref r2holder, .ref r2wishes, .int u.2.2.1, .ref r2mover, .ref r2movedFrom, .ref r2movedTo])), (r2there, .inl (cyZ, 20, .inl f2there)), (r2stallOf, .inl (cyI, 20, .inl u.1)), (r2worth, .inl (cyI, 12, .inl f2worth)), (r2holder, .inl (cyI, 12, .inl u.2.1)), (r2wishes, .inl (cyZ, 240, .inl f2wishes)), (r2mover, .inl (cyI, 12, .inl u.2.2.2.1)), (r2movedFrom, .inl (cyI, 12, .inl u.2.2.2.2.1)), (r2movedTo, .inl (cyI, 12, .inl u.2.2.2.2.2))]) A) ([.ref a2, .int p1] : List Value).toArray s 0 0 A) (F0 m 51 ls [])) → W p l e (headSpec wsX2_fall ({ frames := 3, cells := 0, slots := 0, locals := 66 } : Room)).room s m ([.ref a2, .int p1] : List Value).toArray below meth c H locs 0 0 (MQ below (va_Qv Post (fun (u : (Nat → Int32) × (Nat → Int32) × Int32 × (Nat → Int32) × (Nat → Int32) × (Nat → Int32)) (t : State) => va_P (dC, dI) vwCl [(a2, .inr (2, [.int v2canons, .int v2present, .int v2stalls, .ref r2there, .ref r2stallOf, .ref r2worth, .ref r2holder, .ref r2wishes, .int u.2.2.1, .ref r2mover, .ref r2movedFrom, .ref r2movedTo])), (r2there, .inl (cyZ, 20, .inl f2there)), (r2stallOf, .inl (cyI, 20, .inl u.1)), (r2worth, .inl (cyI, 12, .inl f2worth)), (r2holder, .inl (cyI, 12, .inl u.2.1)), (r2wishes, .inl (cyZ, 240, .inl f2wishes)), (r2mover, .inl (cyI, 12, .inl u.2.2.2.1)), (r2movedFrom, .inl (cyI, 12, .inl u.2.2.2.2.1)), (r2movedTo, .inl (cyI, 12, .inl u.2.2.2.2.2))] t.heap ∧ va_D A [(a2, .inr (2, [.int v2canons, .int v2present, .int v2stalls, .ref r2there, .ref r2stallOf, .ref r2worth, .ref r2holder, .ref r2wishes, .int u.2.2.1, .ref r2mover, .ref r2movedFrom, .ref r2movedTo])), (r2there, .inl (cyZ, 20, .inl f2there)), (r2stallOf, .inl (cyI, 20, .inl u.1)), (r2worth, .inl (cyI, 12, .inl f2worth)), (r2holder, .inl (cyI, 12, .inl u.2.1)), (r2wishes, .inl (cyZ, 240, .inl f2wishes)), (r2mover, .inl (cyI, 12, .inl u.2.2.2.1)), (r2movedFrom, .inl (cyI, 12, .inl u.2.2.2.2.1)), (r2movedTo, .inl (cyI, 12, .inl u.2.2.2.2.2))]) A) ([.ref a2, .int p1] : List Value).toArray s 0 0 A) (F0 m 9 ls []) := by
    intro k1 v2canons f2there f2worth f2wishes K n
    induction n with
    | zero =>
      intro y2 y3 f2stallOf f2holder v2moves f2mover f2movedFrom f2movedTo H locs ls h
      exact (h : False).elim
    | succ n ih =>
      intro y2 y3 f2stallOf f2holder v2moves f2mover f2movedFrom f2movedTo H locs ls h hP hD hS hl kk
      rw [lp_X2_fall_9] at h
      refine lv_iload_n hx hb dX2_fall_9 rfl (lv_at hl 3 rfl) ?_
      refine lv_bipush (v := 12) hx hb dX2_fall_10 (by decide) ?_
      refine lv_icmp_ge (tgt := 51) hx hb dX2_fall_12 (by decide) (fun c => ?_) (fun c => ?_)
      · replace h := h.1 c
        exact kk y2 y3 f2stallOf f2holder v2moves f2mover f2movedFrom f2movedTo H locs ls h hP hD hS (lv_sub hl [0, 1, 2, 3] rfl)
      · replace h := h.2 c
        refine lv_iload_n hx hb dX2_fall_15 rfl (lv_at hl 2 rfl) ?_
        refine lv_iconst (v := (-1)) hx hb dX2_fall_16 (by decide) ?_
        refine lv_icmp_eq (tgt := 51) hx hb dX2_fall_17 (by decide) (fun c => ?_) (fun c => ?_)
        · replace h := h.1 c
          exact kk y2 y3 f2stallOf f2holder v2moves f2mover f2movedFrom f2movedTo H locs ls h hP hD hS (lv_sub hl [0, 1, 2, 3] rfl)
        · replace h := h.2 c
          refine lv_aload_n hx hb dX2_fall_20 rfl (lv_at hl 0 rfl) ?_
          refine lv_iload_n hx hb dX2_fall_21 rfl (lv_at hl 2 rfl) ?_
          refine mc_i hP hD hS hA [0, 1, 2, 3, 5] [4, 6, 7, 8] [4, 5, 6, 7, 0, 8, 1, 2, 3] [(r2holder, .inl (cyI, 12, .inl f2holder)), (r2mover, .inl (cyI, 12, .inl f2mover)), (r2movedFrom, .inl (cyI, 12, .inl f2movedFrom)), (r2movedTo, .inl (cyI, 12, .inl f2movedTo))] (fun (u2 : Unit) => [(a2, .inr (2, [.int v2canons, .int v2present, .int v2stalls, .ref r2there, .ref r2stallOf, .ref r2worth, .ref r2holder, .ref r2wishes, .int v2moves, .ref r2mover, .ref r2movedFrom, .ref r2movedTo])), (r2there, .inl (cyZ, 20, .inl f2there)), (r2stallOf, .inl (cyI, 20, .inl f2stallOf)), (r2worth, .inl (cyI, 12, .inl f2worth)), (r2holder, .inl (cyI, 12, .inl f2holder)), (r2wishes, .inl (cyZ, 240, .inl f2wishes)), (r2mover, .inl (cyI, 12, .inl f2mover)), (r2movedFrom, .inl (cyI, 12, .inl f2movedFrom)), (r2movedTo, .inl (cyI, 12, .inl f2movedTo))]) rfl rfl (by decide) (by decide) (by decide) (fun _ => rfl) (fun _ => rfl) (va_runV (As := [.int y2]) (rest := []) ⟨hx, hb, hml, hown, hts⟩ (c_X2_firstOptant l dC dI cyI cyZ cyB a2 r2there r2stallOf r2worth r2holder r2wishes r2mover r2movedFrom r2movedTo H.size v2canons v2present v2stalls v2moves f2there f2stallOf f2worth f2wishes y2 _ h) (cwV 1 hts gX2_fall_X2_firstOptant rfl rfl rfl (by decide +kernel) ⟨Nat.le_of_ble_eq_true rfl, Nat.le_of_ble_eq_true rfl⟩) ⟨MPre_blind, va_recv hK hP (ci := 2) (q0 := 0) rfl rfl, MPre_here [0, 1, 2, 3, 5] hP hD hK hN (by decide) rfl rfl⟩ rfl rfl hl.1 rfl (lv_room (Nat.le_of_ble_eq_true rfl)) dX2_fall_22 ⟨Nat.zero_le _, Nat.zero_le _⟩) (fun r1 u2 H locs h hP hD hS => ?_)
          replace hP : va_P (dC, dI) vwCl [(a2, .inr (2, [.int v2canons, .int v2present, .int v2stalls, .ref r2there, .ref r2stallOf, .ref r2worth, .ref r2holder, .ref r2wishes, .int v2moves, .ref r2mover, .ref r2movedFrom, .ref r2movedTo])), (r2there, .inl (cyZ, 20, .inl f2there)), (r2stallOf, .inl (cyI, 20, .inl f2stallOf)), (r2worth, .inl (cyI, 12, .inl f2worth)), (r2holder, .inl (cyI, 12, .inl f2holder)), (r2wishes, .inl (cyZ, 240, .inl f2wishes)), (r2mover, .inl (cyI, 12, .inl f2mover)), (r2movedFrom, .inl (cyI, 12, .inl f2movedFrom)), (r2movedTo, .inl (cyI, 12, .inl f2movedTo))] H := hP
          replace hD : va_D A [(a2, .inr (2, [.int v2canons, .int v2present, .int v2stalls, .ref r2there, .ref r2stallOf, .ref r2worth, .ref r2holder, .ref r2wishes, .int v2moves, .ref r2mover, .ref r2movedFrom, .ref r2movedTo])), (r2there, .inl (cyZ, 20, .inl f2there)), (r2stallOf, .inl (cyI, 20, .inl f2stallOf)), (r2worth, .inl (cyI, 12, .inl f2worth)), (r2holder, .inl (cyI, 12, .inl f2holder)), (r2wishes, .inl (cyZ, 240, .inl f2wishes)), (r2mover, .inl (cyI, 12, .inl f2mover)), (r2movedFrom, .inl (cyI, 12, .inl f2movedFrom)), (r2movedTo, .inl (cyI, 12, .inl f2movedTo))] := hD
          refine lv_istore (lv' := [(4, .int r1), (0, .ref a2), (1, .int k1), (2, .int y2), (3, .int y3)]) hx hb dX2_fall_25 hl (by decide) rfl (fun ls hl => ?_)
          refine lv_iload hx hb dX2_fall_27 (lv_at hl 0 rfl) ?_
          refine lv_iconst (v := (-1)) hx hb dX2_fall_29 (by decide) ?_
          refine lv_icmp_ne (tgt := 37) hx hb dX2_fall_30 (by decide) (fun c => ?_) (fun c => ?_)
          · replace h := h.1 c
            refine lv_aload_n hx hb dX2_fall_37 rfl (lv_at hl 1 rfl) ?_
            refine lv_iload hx hb dX2_fall_38 (lv_at hl 0 rfl) ?_
            refine lv_iload_n hx hb dX2_fall_40 rfl (lv_at hl 3 rfl) ?_
            refine mc_i hP hD hS hA [0, 2, 4, 6, 7, 8] [1, 3, 5] [3, 0, 4, 1, 5, 2, 6, 7, 8] [(r2there, .inl (cyZ, 20, .inl f2there)), (r2worth, .inl (cyI, 12, .inl f2worth)), (r2wishes, .inl (cyZ, 240, .inl f2wishes))] (fun (u4 : (Nat → Int32) × (Nat → Int32) × Int32 × (Nat → Int32) × (Nat → Int32) × (Nat → Int32)) => [(a2, .inr (2, [.int v2canons, .int v2present, .int v2stalls, .ref r2there, .ref r2stallOf, .ref r2worth, .ref r2holder, .ref r2wishes, .int u4.2.2.1, .ref r2mover, .ref r2movedFrom, .ref r2movedTo])), (r2there, .inl (cyZ, 20, .inl f2there)), (r2stallOf, .inl (cyI, 20, .inl u4.1)), (r2worth, .inl (cyI, 12, .inl f2worth)), (r2holder, .inl (cyI, 12, .inl u4.2.1)), (r2wishes, .inl (cyZ, 240, .inl f2wishes)), (r2mover, .inl (cyI, 12, .inl u4.2.2.2.1)), (r2movedFrom, .inl (cyI, 12, .inl u4.2.2.2.2.1)), (r2movedTo, .inl (cyI, 12, .inl u4.2.2.2.2.2))]) rfl rfl (by decide) (by decide) (by decide) (fun _ => rfl) (fun _ => rfl) (va_runV (As := [.int r1, .int y2]) (rest := []) ⟨hx, hb, hml, hown, hts⟩ (c_X2_moveTo l dC dI cyI cyZ cyB a2 r2there r2stallOf r2worth r2holder r2wishes r2mover r2movedFrom r2movedTo H.size v2canons v2present v2stalls v2moves f2stallOf f2holder f2mover f2movedFrom f2movedTo r1 y2 _ h) (cwV 2 hts gX2_fall_X2_moveTo rfl rfl rfl (by decide +kernel) ⟨Nat.le_of_ble_eq_true rfl, Nat.le_of_ble_eq_true rfl⟩) ⟨MPre_blind, va_recv hK hP (ci := 2) (q0 := 0) rfl rfl, MPre_here [0, 2, 4, 6, 7, 8] hP hD hK hN (by decide) rfl rfl⟩ rfl rfl hl.1 rfl (lv_room (Nat.le_of_ble_eq_true rfl)) dX2_fall_41 ⟨Nat.zero_le _, Nat.zero_le _⟩) (fun r3 u4 H locs h hP hD hS => ?_)
            replace hP : va_P (dC, dI) vwCl [(a2, .inr (2, [.int v2canons, .int v2present, .int v2stalls, .ref r2there, .ref r2stallOf, .ref r2worth, .ref r2holder, .ref r2wishes, .int u4.2.2.1, .ref r2mover, .ref r2movedFrom, .ref r2movedTo])), (r2there, .inl (cyZ, 20, .inl f2there)), (r2stallOf, .inl (cyI, 20, .inl u4.1)), (r2worth, .inl (cyI, 12, .inl f2worth)), (r2holder, .inl (cyI, 12, .inl u4.2.1)), (r2wishes, .inl (cyZ, 240, .inl f2wishes)), (r2mover, .inl (cyI, 12, .inl u4.2.2.2.1)), (r2movedFrom, .inl (cyI, 12, .inl u4.2.2.2.2.1)), (r2movedTo, .inl (cyI, 12, .inl u4.2.2.2.2.2))] H := hP
            replace hD : va_D A [(a2, .inr (2, [.int v2canons, .int v2present, .int v2stalls, .ref r2there, .ref r2stallOf, .ref r2worth, .ref r2holder, .ref r2wishes, .int u4.2.2.1, .ref r2mover, .ref r2movedFrom, .ref r2movedTo])), (r2there, .inl (cyZ, 20, .inl f2there)), (r2stallOf, .inl (cyI, 20, .inl u4.1)), (r2worth, .inl (cyI, 12, .inl f2worth)), (r2holder, .inl (cyI, 12, .inl u4.2.1)), (r2wishes, .inl (cyZ, 240, .inl f2wishes)), (r2mover, .inl (cyI, 12, .inl u4.2.2.2.1)), (r2movedFrom, .inl (cyI, 12, .inl u4.2.2.2.2.1)), (r2movedTo, .inl (cyI, 12, .inl u4.2.2.2.2.2))] := hD
            refine lv_istore_n (lv' := [(2, .int r3), (4, .int r1), (0, .ref a2), (1, .int k1), (3, .int y3)]) hx hb dX2_fall_44 rfl hl (by decide) rfl (fun ls hl => ?_)
            obtain ⟨x5, ex5⟩ : ∃ y : Int32, y = y3 + 1 := ⟨_, rfl⟩
            replace h := h x5 ex5
            refine lv_iinc (v := x5) (lv' := [(3, .int x5), (2, .int r3), (4, .int r1), (0, .ref a2), (1, .int k1)]) hx hb dX2_fall_45 hl (k := 4) rfl (by rw [ex5]; rfl) (by decide) rfl (fun ls hl => ?_)
            refine lv_goto (tgt := 9) hx hb dX2_fall_48 (by decide) ?_
            exact ih r3 x5 u4.1 u4.2.1 u4.2.2.1 u4.2.2.2.1 u4.2.2.2.2.1 u4.2.2.2.2.2 H locs ls h hP hD hS (lv_sub hl [3, 4, 1, 0] rfl) kk
          · replace h := h.2 c
            refine lv_iconst (v := (-1)) hx hb dX2_fall_33 (by decide) ?_
            refine lv_goto (tgt := 44) hx hb dX2_fall_34 (by decide) ?_
            refine lv_istore_n (lv' := [(2, .int (-1)), (4, .int r1), (0, .ref a2), (1, .int k1), (3, .int y3)]) hx hb dX2_fall_44 rfl hl (by decide) rfl (fun ls hl => ?_)
            obtain ⟨x6, ex6⟩ : ∃ y : Int32, y = y3 + 1 := ⟨_, rfl⟩
            replace h := h x6 ex6
            refine lv_iinc (v := x6) (lv' := [(3, .int x6), (2, .int (-1)), (4, .int r1), (0, .ref a2), (1, .int k1)]) hx hb dX2_fall_45 hl (k := 4) rfl (by rw [ex6]; rfl) (by decide) rfl (fun ls hl => ?_)
            refine lv_goto (tgt := 9) hx hb dX2_fall_48 (by decide) ?_
            exact ih (-1) x6 f2stallOf f2holder v2moves f2mover f2movedFrom f2movedTo H locs ls h hP hD hS (lv_sub hl [3, 4, 1, 0] rfl) kk
  delta wp_X2_fall at h
  have hl := lv_entry [.ref a2, .int p1] (n := 5) (Nat.le_of_ble_eq_true rfl)
  rw [lg_entry_eq]
  generalize (lg_sl [.ref a2, .int p1] ++ List.replicate (5 - (lg_sl [.ref a2, .int p1]).length) Slot.unset).toArray = ls at hl ⊢
  replace hl : lv_has ls 5 [(0, .ref a2), (1, .int p1)] := hl
  refine lv_aload_n hx hb dX2_fall_0 rfl (lv_at hl 0 rfl) ?_
  refine lv_iconst (v := 0) hx hb dX2_fall_1 (by decide) ?_
  refine va_put (D := (dC, dI)) (ci := 2) (v := .int 0) (ty := .int) (C := RX2) (T := TX2) (N := 12) hx hb hts hiX2 tyX2 tyX2_ok nmX2 hown hK hP hD hS 0 rfl rfl 8 (by decide) lk38 (fun _ h9 => h9) rfl (by decide +kernel) rfl rfl (Nat.le_of_ble_eq_true rfl) dX2_fall_2 (fun H locs hP hD hS => ?_)
  replace hP : va_P (dC, dI) vwCl [(a2, .inr (2, [.int v2canons, .int v2present, .int v2stalls, .ref r2there, .ref r2stallOf, .ref r2worth, .ref r2holder, .ref r2wishes, .int 0, .ref r2mover, .ref r2movedFrom, .ref r2movedTo])), (r2there, .inl (cyZ, 20, .inl f2there)), (r2stallOf, .inl (cyI, 20, .inl f2stallOf)), (r2worth, .inl (cyI, 12, .inl f2worth)), (r2holder, .inl (cyI, 12, .inl f2holder)), (r2wishes, .inl (cyZ, 240, .inl f2wishes)), (r2mover, .inl (cyI, 12, .inl f2mover)), (r2movedFrom, .inl (cyI, 12, .inl f2movedFrom)), (r2movedTo, .inl (cyI, 12, .inl f2movedTo))] H := hP
  replace hD : va_D A [(a2, .inr (2, [.int v2canons, .int v2present, .int v2stalls, .ref r2there, .ref r2stallOf, .ref r2worth, .ref r2holder, .ref r2wishes, .int 0, .ref r2mover, .ref r2movedFrom, .ref r2movedTo])), (r2there, .inl (cyZ, 20, .inl f2there)), (r2stallOf, .inl (cyI, 20, .inl f2stallOf)), (r2worth, .inl (cyI, 12, .inl f2worth)), (r2holder, .inl (cyI, 12, .inl f2holder)), (r2wishes, .inl (cyZ, 240, .inl f2wishes)), (r2mover, .inl (cyI, 12, .inl f2mover)), (r2movedFrom, .inl (cyI, 12, .inl f2movedFrom)), (r2movedTo, .inl (cyI, 12, .inl f2movedTo))] := hD
  refine lv_iload_n hx hb dX2_fall_5 rfl (lv_at hl 1 rfl) ?_
  refine lv_istore_n (lv' := [(2, .int p1), (0, .ref a2), (1, .int p1)]) hx hb dX2_fall_6 rfl hl (by decide) rfl (fun ls hl => ?_)
  refine lv_iconst (v := 0) hx hb dX2_fall_7 (by decide) ?_
  refine lv_istore_n (lv' := [(3, .int 0), (2, .int p1), (0, .ref a2), (1, .int p1)]) hx hb dX2_fall_8 rfl hl (by decide) rfl (fun ls hl => ?_)
  obtain ⟨n15, h⟩ := h
  refine L9 p1 v2canons f2there f2worth f2wishes _ n15 p1 0 f2stallOf f2holder 0 f2mover f2movedFrom f2movedTo H locs ls h hP hD hS (lv_sub hl [2, 3, 1, 0] rfl) (fun x7 x8 g9 g10 x11 g12 g13 g14 H locs ls h hP hD hS hl => ?_)
  exact W.vret hx hb hr (fun t ht hW => ⟨⟨(g9, g10, x11, g12, g13, g14), rfl, h, by rw [ht]; exact hP, hD⟩, hS.F ht⟩) hS.2.2 dX2_fall_51
def wp_X2_addStall (p1 : Int32) (v2canons : Int32) (v2stalls : Int32) (f2there : Nat → Int32) (f2stallOf : Nat → Int32) (f2worth : Nat → Int32) (f2holder : Nat → Int32) (f2wishes : Nat → Int32) (v2moves : Int32) (f2mover : Nat → Int32) (f2movedFrom : Nat → Int32) (f2movedTo : Nat → Int32) (Post : Int32 → Int32 × (Nat → Int32) × (Nat → Int32) × (Nat → Int32) × Int32 × (Nat → Int32) × (Nat → Int32) × (Nat → Int32) → Prop) : Prop := (((¬ v2stalls = 12) → (vp_in v2stalls 12 ∧ (vp_in v2stalls 12 ∧ (wp_X2_fall v2stalls v2canons f2there f2stallOf (upd f2worth v2stalls.toNatClampNeg p1) (upd f2holder v2stalls.toNatClampNeg (-1)) f2wishes v2moves f2mover f2movedFrom f2movedTo (fun (u2 : (Nat → Int32) × (Nat → Int32) × Int32 × (Nat → Int32) × (Nat → Int32) × (Nat → Int32)) => (Post v2stalls ((v2stalls + 1), u2.1, (upd f2worth v2stalls.toNatClampNeg p1), u2.2.1, u2.2.2.1, u2.2.2.2.1, u2.2.2.2.2.1, u2.2.2.2.2.2))))))) ∧ ((v2stalls = 12) → (Post (-1) (v2stalls, f2stallOf, f2worth, f2holder, v2moves, f2mover, f2movedFrom, f2movedTo))))
set_option maxHeartbeats 4000000 in
set_option maxRecDepth 100000 in
theorem c_X2_addStall (l : Launch) (dC : Nat → ClassId) (dI : Nat → Nat → Nat) (cyI cyZ cyB : ClassId) (a2 : Nat) (r2there : Nat) (r2stallOf : Nat) (r2worth : Nat) (r2holder : Nat) (r2wishes : Nat) (r2mover : Nat) (r2movedFrom : Nat) (r2movedTo : Nat) (sz : Nat) (v2canons : Int32) (v2present : Int32) (v2stalls : Int32) (v2moves : Int32) (f2there : Nat → Int32) (f2stallOf : Nat → Int32) (f2worth : Nat → Int32) (f2holder : Nat → Int32) (f2wishes : Nat → Int32) (f2mover : Nat → Int32) (f2movedFrom : Nat → Int32) (f2movedTo : Nat → Int32) (p1 : Int32) (Post : Int32 → Int32 × (Nat → Int32) × (Nat → Int32) × (Nat → Int32) × Int32 × (Nat → Int32) × (Nat → Int32) × (Nat → Int32) → Prop) (h : wp_X2_addStall p1 v2canons v2stalls f2there f2stallOf f2worth f2holder f2wishes v2moves f2mover f2movedFrom f2movedTo Post) : Met l yX2_addStall wsX2_addStall ({ frames := 4, cells := 0, slots := 0, locals := 90 } : Room) (MPre (dC, dI) [(cyI, .int), (cyZ, .boolean), (cyB, .byte)] [.ref a2, .int p1] sz [(a2, .inr (2, [.int v2canons, .int v2present, .int v2stalls, .ref r2there, .ref r2stallOf, .ref r2worth, .ref r2holder, .ref r2wishes, .int v2moves, .ref r2mover, .ref r2movedFrom, .ref r2movedTo])), (r2there, .inl (cyZ, 20, .inl f2there)), (r2stallOf, .inl (cyI, 20, .inl f2stallOf)), (r2worth, .inl (cyI, 12, .inl f2worth)), (r2holder, .inl (cyI, 12, .inl f2holder)), (r2wishes, .inl (cyZ, 240, .inl f2wishes)), (r2mover, .inl (cyI, 12, .inl f2mover)), (r2movedFrom, .inl (cyI, 12, .inl f2movedFrom)), (r2movedTo, .inl (cyI, 12, .inl f2movedTo))]) (va_Qi Post (fun (u : Int32 × (Nat → Int32) × (Nat → Int32) × (Nat → Int32) × Int32 × (Nat → Int32) × (Nat → Int32) × (Nat → Int32)) (t : State) => va_P (dC, dI) vwCl [(a2, .inr (2, [.int v2canons, .int v2present, .int u.1, .ref r2there, .ref r2stallOf, .ref r2worth, .ref r2holder, .ref r2wishes, .int u.2.2.2.2.1, .ref r2mover, .ref r2movedFrom, .ref r2movedTo])), (r2there, .inl (cyZ, 20, .inl f2there)), (r2stallOf, .inl (cyI, 20, .inl u.2.1)), (r2worth, .inl (cyI, 12, .inl u.2.2.1)), (r2holder, .inl (cyI, 12, .inl u.2.2.2.1)), (r2wishes, .inl (cyZ, 240, .inl f2wishes)), (r2mover, .inl (cyI, 12, .inl u.2.2.2.2.2.1)), (r2movedFrom, .inl (cyI, 12, .inl u.2.2.2.2.2.2.1)), (r2movedTo, .inl (cyI, 12, .inl u.2.2.2.2.2.2.2))] t.heap ∧ va_D (va_A [(a2, .inr (2, [.int v2canons, .int v2present, .int v2stalls, .ref r2there, .ref r2stallOf, .ref r2worth, .ref r2holder, .ref r2wishes, .int v2moves, .ref r2mover, .ref r2movedFrom, .ref r2movedTo])), (r2there, .inl (cyZ, 20, .inl f2there)), (r2stallOf, .inl (cyI, 20, .inl f2stallOf)), (r2worth, .inl (cyI, 12, .inl f2worth)), (r2holder, .inl (cyI, 12, .inl f2holder)), (r2wishes, .inl (cyZ, 240, .inl f2wishes)), (r2mover, .inl (cyI, 12, .inl f2mover)), (r2movedFrom, .inl (cyI, 12, .inl f2movedFrom)), (r2movedTo, .inl (cyI, 12, .inl f2movedTo))] sz) [(a2, .inr (2, [.int v2canons, .int v2present, .int u.1, .ref r2there, .ref r2stallOf, .ref r2worth, .ref r2holder, .ref r2wishes, .int u.2.2.2.2.1, .ref r2mover, .ref r2movedFrom, .ref r2movedTo])), (r2there, .inl (cyZ, 20, .inl f2there)), (r2stallOf, .inl (cyI, 20, .inl u.2.1)), (r2worth, .inl (cyI, 12, .inl u.2.2.1)), (r2holder, .inl (cyI, 12, .inl u.2.2.2.1)), (r2wishes, .inl (cyZ, 240, .inl f2wishes)), (r2mover, .inl (cyI, 12, .inl u.2.2.2.2.2.1)), (r2movedFrom, .inl (cyI, 12, .inl u.2.2.2.2.2.2.1)), (r2movedTo, .inl (cyI, 12, .inl u.2.2.2.2.2.2.2))]) (va_A [(a2, .inr (2, [.int v2canons, .int v2present, .int v2stalls, .ref r2there, .ref r2stallOf, .ref r2worth, .ref r2holder, .ref r2wishes, .int v2moves, .ref r2mover, .ref r2movedFrom, .ref r2movedTo])), (r2there, .inl (cyZ, 20, .inl f2there)), (r2stallOf, .inl (cyI, 20, .inl f2stallOf)), (r2worth, .inl (cyI, 12, .inl f2worth)), (r2holder, .inl (cyI, 12, .inl f2holder)), (r2wishes, .inl (cyZ, 240, .inl f2wishes)), (r2mover, .inl (cyI, 12, .inl f2mover)), (r2movedFrom, .inl (cyI, 12, .inl f2movedFrom)), (r2movedTo, .inl (cyI, 12, .inl f2movedTo))] sz)) 0 0 (va_A [(a2, .inr (2, [.int v2canons, .int v2present, .int v2stalls, .ref r2there, .ref r2stallOf, .ref r2worth, .ref r2holder, .ref r2wishes, .int v2moves, .ref r2mover, .ref r2movedFrom, .ref r2movedTo])), (r2there, .inl (cyZ, 20, .inl f2there)), (r2stallOf, .inl (cyI, 20, .inl f2stallOf)), (r2worth, .inl (cyI, 12, .inl f2worth)), (r2holder, .inl (cyI, 12, .inl f2holder)), (r2wishes, .inl (cyZ, 240, .inl f2wishes)), (r2mover, .inl (cyI, 12, .inl f2mover)), (r2movedFrom, .inl (cyI, 12, .inl f2movedFrom)), (r2movedTo, .inl (cyI, 12, .inl f2movedTo))] sz) := by
  refine Met.ofW (cc := cX2_addStall) (maxL := 3) (ret := (some .int)) (by decide) rfl ?_
  intro p e s m args below meth c s₁ B hml hv
  obtain ⟨rfl, hsz, hP, hK, hD0, hN⟩ := hv
  have hx := B.exec
  have hb := B.bytes
  have hr := B.returns
  have hts := atoms_spec (ws := wsX2_addStall) B.pre
  have hown : s.vm.findClass RX2 = some m.cls := findClass_of_methodNamed B.named
  have hlocks := B.notSynchronized
  subst hsz
  have hD := hD0.self (sz := s.heap.size)
  generalize hAe : va_A [(a2, .inr (2, [.int v2canons, .int v2present, .int v2stalls, .ref r2there, .ref r2stallOf, .ref r2worth, .ref r2holder, .ref r2wishes, .int v2moves, .ref r2mover, .ref r2movedFrom, .ref r2movedTo])), (r2there, .inl (cyZ, 20, .inl f2there)), (r2stallOf, .inl (cyI, 20, .inl f2stallOf)), (r2worth, .inl (cyI, 12, .inl f2worth)), (r2holder, .inl (cyI, 12, .inl f2holder)), (r2wishes, .inl (cyZ, 240, .inl f2wishes)), (r2mover, .inl (cyI, 12, .inl f2mover)), (r2movedFrom, .inl (cyI, 12, .inl f2movedFrom)), (r2movedTo, .inl (cyI, 12, .inl f2movedTo))] s.heap.size = A at hD ⊢
  have hA : ∀ q : Nat, s.heap.size ≤ q → A q := fun q h => by rw [← hAe]; exact Or.inr h
  have hS : va_S A s.heap s.heap [] := va_S.rf
  have hiX2 : ∀ w ∈ u_ws RX2 TX2 12, w ∈ wsX2_addStall := by decide +kernel
  have lk18 := hts (.fieldLink RX2 18 "StallBook$Chapter" "stalls" "I") (by decide +kernel)
  have lk29 := hts (.fieldLink RX2 29 "StallBook$Chapter" "worth" "[I") (by decide +kernel)
  have lk32 := hts (.fieldLink RX2 32 "StallBook$Chapter" "holder" "[I") (by decide +kernel)
  delta wp_X2_addStall at h
  have hl := lv_entry [.ref a2, .int p1] (n := 3) (Nat.le_of_ble_eq_true rfl)
  rw [lg_entry_eq]
  generalize (lg_sl [.ref a2, .int p1] ++ List.replicate (3 - (lg_sl [.ref a2, .int p1]).length) Slot.unset).toArray = ls at hl ⊢
  replace hl : lv_has ls 3 [(0, .ref a2), (1, .int p1)] := hl
  refine lv_aload_n hx hb dX2_addStall_0 rfl (lv_at hl 0 rfl) ?_
  refine va_get (D := (dC, dI)) (ci := 2) (v := .int v2stalls) (C := RX2) (T := TX2) (N := 12) hx hb hts hiX2 hown hK hP 0 rfl rfl 2 (by decide) lk18 (fun _ h9 => h9) rfl dX2_addStall_1 ?_
  refine lv_bipush (v := 12) hx hb dX2_addStall_4 (by decide) ?_
  refine lv_icmp_ne (tgt := 11) hx hb dX2_addStall_6 (by decide) (fun c => ?_) (fun c => ?_)
  · replace h := h.1 c
    refine lv_aload_n hx hb dX2_addStall_11 rfl (lv_at hl 0 rfl) ?_
    refine va_get (D := (dC, dI)) (ci := 2) (v := .int v2stalls) (C := RX2) (T := TX2) (N := 12) hx hb hts hiX2 hown hK hP 0 rfl rfl 2 (by decide) lk18 (fun _ h9 => h9) rfl dX2_addStall_12 ?_
    refine lv_istore_n (lv' := [(2, .int v2stalls), (0, .ref a2), (1, .int p1)]) hx hb dX2_addStall_15 rfl hl (by decide) rfl (fun ls hl => ?_)
    refine lv_aload_n hx hb dX2_addStall_16 rfl (lv_at hl 1 rfl) ?_
    refine lv_dup hx hb dX2_addStall_17 rfl ?_
    refine va_get (D := (dC, dI)) (ci := 2) (v := .int v2stalls) (C := RX2) (T := TX2) (N := 12) hx hb hts hiX2 hown hK hP 0 rfl rfl 2 (by decide) lk18 (fun _ h9 => h9) rfl dX2_addStall_18 ?_
    refine lv_iconst (v := 1) hx hb dX2_addStall_21 (by decide) ?_
    refine lv_iadd hx hb dX2_addStall_22 ?_
    refine va_put (D := (dC, dI)) (ci := 2) (v := .int (v2stalls + 1)) (ty := .int) (C := RX2) (T := TX2) (N := 12) hx hb hts hiX2 tyX2 tyX2_ok nmX2 hown hK hP hD hS 0 rfl rfl 2 (by decide) lk18 (fun _ h9 => h9) rfl (by decide +kernel) rfl rfl (Nat.le_of_ble_eq_true rfl) dX2_addStall_23 (fun H locs hP hD hS => ?_)
    replace hP : va_P (dC, dI) vwCl [(a2, .inr (2, [.int v2canons, .int v2present, .int (v2stalls + 1), .ref r2there, .ref r2stallOf, .ref r2worth, .ref r2holder, .ref r2wishes, .int v2moves, .ref r2mover, .ref r2movedFrom, .ref r2movedTo])), (r2there, .inl (cyZ, 20, .inl f2there)), (r2stallOf, .inl (cyI, 20, .inl f2stallOf)), (r2worth, .inl (cyI, 12, .inl f2worth)), (r2holder, .inl (cyI, 12, .inl f2holder)), (r2wishes, .inl (cyZ, 240, .inl f2wishes)), (r2mover, .inl (cyI, 12, .inl f2mover)), (r2movedFrom, .inl (cyI, 12, .inl f2movedFrom)), (r2movedTo, .inl (cyI, 12, .inl f2movedTo))] H := hP
    replace hD : va_D A [(a2, .inr (2, [.int v2canons, .int v2present, .int (v2stalls + 1), .ref r2there, .ref r2stallOf, .ref r2worth, .ref r2holder, .ref r2wishes, .int v2moves, .ref r2mover, .ref r2movedFrom, .ref r2movedTo])), (r2there, .inl (cyZ, 20, .inl f2there)), (r2stallOf, .inl (cyI, 20, .inl f2stallOf)), (r2worth, .inl (cyI, 12, .inl f2worth)), (r2holder, .inl (cyI, 12, .inl f2holder)), (r2wishes, .inl (cyZ, 240, .inl f2wishes)), (r2mover, .inl (cyI, 12, .inl f2mover)), (r2movedFrom, .inl (cyI, 12, .inl f2movedFrom)), (r2movedTo, .inl (cyI, 12, .inl f2movedTo))] := hD
    refine lv_aload_n hx hb dX2_addStall_26 rfl (lv_at hl 1 rfl) ?_
    refine va_get (D := (dC, dI)) (ci := 2) (v := .ref r2worth) (C := RX2) (T := TX2) (N := 12) hx hb hts hiX2 hown hK hP 0 rfl rfl 5 (by decide) lk29 (fun _ h9 => h9) rfl dX2_addStall_27 ?_
    refine lv_iload_n hx hb dX2_addStall_30 rfl (lv_at hl 0 rfl) ?_
    refine lv_iload_n hx hb dX2_addStall_31 rfl (lv_at hl 2 rfl) ?_
    refine va_iast hx hb hK hP hD hS 3 0 rfl rfl h.1 dX2_addStall_32 (fun H locs hP hD hS => ?_)
    replace h := h.2
    replace hP : va_P (dC, dI) vwCl [(a2, .inr (2, [.int v2canons, .int v2present, .int (v2stalls + 1), .ref r2there, .ref r2stallOf, .ref r2worth, .ref r2holder, .ref r2wishes, .int v2moves, .ref r2mover, .ref r2movedFrom, .ref r2movedTo])), (r2there, .inl (cyZ, 20, .inl f2there)), (r2stallOf, .inl (cyI, 20, .inl f2stallOf)), (r2worth, .inl (cyI, 12, .inl (upd f2worth v2stalls.toNatClampNeg p1))), (r2holder, .inl (cyI, 12, .inl f2holder)), (r2wishes, .inl (cyZ, 240, .inl f2wishes)), (r2mover, .inl (cyI, 12, .inl f2mover)), (r2movedFrom, .inl (cyI, 12, .inl f2movedFrom)), (r2movedTo, .inl (cyI, 12, .inl f2movedTo))] H := hP
    replace hD : va_D A [(a2, .inr (2, [.int v2canons, .int v2present, .int (v2stalls + 1), .ref r2there, .ref r2stallOf, .ref r2worth, .ref r2holder, .ref r2wishes, .int v2moves, .ref r2mover, .ref r2movedFrom, .ref r2movedTo])), (r2there, .inl (cyZ, 20, .inl f2there)), (r2stallOf, .inl (cyI, 20, .inl f2stallOf)), (r2worth, .inl (cyI, 12, .inl (upd f2worth v2stalls.toNatClampNeg p1))), (r2holder, .inl (cyI, 12, .inl f2holder)), (r2wishes, .inl (cyZ, 240, .inl f2wishes)), (r2mover, .inl (cyI, 12, .inl f2mover)), (r2movedFrom, .inl (cyI, 12, .inl f2movedFrom)), (r2movedTo, .inl (cyI, 12, .inl f2movedTo))] := hD
    refine lv_aload_n hx hb dX2_addStall_33 rfl (lv_at hl 1 rfl) ?_
    refine va_get (D := (dC, dI)) (ci := 2) (v := .ref r2holder) (C := RX2) (T := TX2) (N := 12) hx hb hts hiX2 hown hK hP 0 rfl rfl 6 (by decide) lk32 (fun _ h9 => h9) rfl dX2_addStall_34 ?_
    refine lv_iload_n hx hb dX2_addStall_37 rfl (lv_at hl 0 rfl) ?_
    refine lv_iconst (v := (-1)) hx hb dX2_addStall_38 (by decide) ?_
    refine va_iast hx hb hK hP hD hS 4 0 rfl rfl h.1 dX2_addStall_39 (fun H locs hP hD hS => ?_)
    replace h := h.2
    replace hP : va_P (dC, dI) vwCl [(a2, .inr (2, [.int v2canons, .int v2present, .int (v2stalls + 1), .ref r2there, .ref r2stallOf, .ref r2worth, .ref r2holder, .ref r2wishes, .int v2moves, .ref r2mover, .ref r2movedFrom, .ref r2movedTo])), (r2there, .inl (cyZ, 20, .inl f2there)), (r2stallOf, .inl (cyI, 20, .inl f2stallOf)), (r2worth, .inl (cyI, 12, .inl (upd f2worth v2stalls.toNatClampNeg p1))), (r2holder, .inl (cyI, 12, .inl (upd f2holder v2stalls.toNatClampNeg (-1)))), (r2wishes, .inl (cyZ, 240, .inl f2wishes)), (r2mover, .inl (cyI, 12, .inl f2mover)), (r2movedFrom, .inl (cyI, 12, .inl f2movedFrom)), (r2movedTo, .inl (cyI, 12, .inl f2movedTo))] H := hP
    replace hD : va_D A [(a2, .inr (2, [.int v2canons, .int v2present, .int (v2stalls + 1), .ref r2there, .ref r2stallOf, .ref r2worth, .ref r2holder, .ref r2wishes, .int v2moves, .ref r2mover, .ref r2movedFrom, .ref r2movedTo])), (r2there, .inl (cyZ, 20, .inl f2there)), (r2stallOf, .inl (cyI, 20, .inl f2stallOf)), (r2worth, .inl (cyI, 12, .inl (upd f2worth v2stalls.toNatClampNeg p1))), (r2holder, .inl (cyI, 12, .inl (upd f2holder v2stalls.toNatClampNeg (-1)))), (r2wishes, .inl (cyZ, 240, .inl f2wishes)), (r2mover, .inl (cyI, 12, .inl f2mover)), (r2movedFrom, .inl (cyI, 12, .inl f2movedFrom)), (r2movedTo, .inl (cyI, 12, .inl f2movedTo))] := hD
    refine lv_aload_n hx hb dX2_addStall_40 rfl (lv_at hl 1 rfl) ?_
    refine lv_iload_n hx hb dX2_addStall_41 rfl (lv_at hl 0 rfl) ?_
    refine mc_v hP hD hS hA [0, 1, 2, 3, 4, 5, 6, 7, 8] [] [0, 1, 2, 3, 4, 5, 6, 7, 8] [] (fun (u2 : (Nat → Int32) × (Nat → Int32) × Int32 × (Nat → Int32) × (Nat → Int32) × (Nat → Int32)) => [(a2, .inr (2, [.int v2canons, .int v2present, .int (v2stalls + 1), .ref r2there, .ref r2stallOf, .ref r2worth, .ref r2holder, .ref r2wishes, .int u2.2.2.1, .ref r2mover, .ref r2movedFrom, .ref r2movedTo])), (r2there, .inl (cyZ, 20, .inl f2there)), (r2stallOf, .inl (cyI, 20, .inl u2.1)), (r2worth, .inl (cyI, 12, .inl (upd f2worth v2stalls.toNatClampNeg p1))), (r2holder, .inl (cyI, 12, .inl u2.2.1)), (r2wishes, .inl (cyZ, 240, .inl f2wishes)), (r2mover, .inl (cyI, 12, .inl u2.2.2.2.1)), (r2movedFrom, .inl (cyI, 12, .inl u2.2.2.2.2.1)), (r2movedTo, .inl (cyI, 12, .inl u2.2.2.2.2.2))]) rfl rfl (by decide) (by decide) (by decide) (fun _ => rfl) (fun _ => rfl) (va_runV (As := [.int v2stalls]) (rest := []) ⟨hx, hb, hml, hown, hts⟩ (c_X2_fall l dC dI cyI cyZ cyB a2 r2there r2stallOf r2worth r2holder r2wishes r2mover r2movedFrom r2movedTo H.size v2canons v2present (v2stalls + 1) v2moves f2there f2stallOf (upd f2worth v2stalls.toNatClampNeg p1) (upd f2holder v2stalls.toNatClampNeg (-1)) f2wishes f2mover f2movedFrom f2movedTo v2stalls _ h) (cwV 1 hts gX2_addStall_X2_fall rfl rfl rfl (by decide +kernel) ⟨Nat.le_of_ble_eq_true rfl, Nat.le_of_ble_eq_true rfl⟩) ⟨MPre_blind, va_recv hK hP (ci := 2) (q0 := 0) rfl rfl, MPre_here [0, 1, 2, 3, 4, 5, 6, 7, 8] hP hD hK hN (by decide) rfl rfl⟩ rfl rfl hl.1 rfl (lv_room (Nat.le_of_ble_eq_true rfl)) dX2_addStall_42 ⟨Nat.zero_le _, Nat.zero_le _⟩) (fun u2 H locs h hP hD hS => ?_)
    replace hP : va_P (dC, dI) vwCl [(a2, .inr (2, [.int v2canons, .int v2present, .int (v2stalls + 1), .ref r2there, .ref r2stallOf, .ref r2worth, .ref r2holder, .ref r2wishes, .int u2.2.2.1, .ref r2mover, .ref r2movedFrom, .ref r2movedTo])), (r2there, .inl (cyZ, 20, .inl f2there)), (r2stallOf, .inl (cyI, 20, .inl u2.1)), (r2worth, .inl (cyI, 12, .inl (upd f2worth v2stalls.toNatClampNeg p1))), (r2holder, .inl (cyI, 12, .inl u2.2.1)), (r2wishes, .inl (cyZ, 240, .inl f2wishes)), (r2mover, .inl (cyI, 12, .inl u2.2.2.2.1)), (r2movedFrom, .inl (cyI, 12, .inl u2.2.2.2.2.1)), (r2movedTo, .inl (cyI, 12, .inl u2.2.2.2.2.2))] H := hP
    replace hD : va_D A [(a2, .inr (2, [.int v2canons, .int v2present, .int (v2stalls + 1), .ref r2there, .ref r2stallOf, .ref r2worth, .ref r2holder, .ref r2wishes, .int u2.2.2.1, .ref r2mover, .ref r2movedFrom, .ref r2movedTo])), (r2there, .inl (cyZ, 20, .inl f2there)), (r2stallOf, .inl (cyI, 20, .inl u2.1)), (r2worth, .inl (cyI, 12, .inl (upd f2worth v2stalls.toNatClampNeg p1))), (r2holder, .inl (cyI, 12, .inl u2.2.1)), (r2wishes, .inl (cyZ, 240, .inl f2wishes)), (r2mover, .inl (cyI, 12, .inl u2.2.2.2.1)), (r2movedFrom, .inl (cyI, 12, .inl u2.2.2.2.2.1)), (r2movedTo, .inl (cyI, 12, .inl u2.2.2.2.2.2))] := hD
    refine lv_iload_n hx hb dX2_addStall_45 rfl (lv_at hl 0 rfl) ?_
    exact W.iret (v := v2stalls) hx hb hr (fun t ht hW => ⟨⟨v2stalls, ((v2stalls + 1), u2.1, (upd f2worth v2stalls.toNatClampNeg p1), u2.2.1, u2.2.2.1, u2.2.2.2.1, u2.2.2.2.2.1, u2.2.2.2.2.2), rfl, h, by rw [ht]; exact hP, hD⟩, hS.F ht⟩) hS.2.2 dX2_addStall_46
  · replace h := h.2 c
    refine lv_iconst (v := (-1)) hx hb dX2_addStall_9 (by decide) ?_
    exact W.iret (v := (-1)) hx hb hr (fun t ht hW => ⟨⟨(-1), (v2stalls, f2stallOf, f2worth, f2holder, v2moves, f2mover, f2movedFrom, f2movedTo), rfl, h, by rw [ht]; exact hP, hD⟩, hS.F ht⟩) hS.2.2 dX2_addStall_10
def wp_X2_addCanon (v2canons : Int32) (v2present : Int32) (f2there : Nat → Int32) (f2stallOf : Nat → Int32) (Post : Int32 → Int32 × Int32 × (Nat → Int32) × (Nat → Int32) → Prop) : Prop := (((¬ v2canons = 20) → (vp_in v2canons 20 ∧ (vp_in v2canons 20 ∧ (Post v2canons ((v2canons + 1), (v2present + 1), (upd f2there v2canons.toNatClampNeg (vp_nar .boolean 1)), (upd f2stallOf v2canons.toNatClampNeg (-1))))))) ∧ ((v2canons = 20) → (Post (-1) (v2canons, v2present, f2there, f2stallOf))))
set_option maxHeartbeats 4000000 in
set_option maxRecDepth 100000 in
theorem c_X2_addCanon (l : Launch) (dC : Nat → ClassId) (dI : Nat → Nat → Nat) (cyI cyZ cyB : ClassId) (a2 : Nat) (r2there : Nat) (r2stallOf : Nat) (r2worth : Nat) (r2holder : Nat) (r2wishes : Nat) (r2mover : Nat) (r2movedFrom : Nat) (r2movedTo : Nat) (sz : Nat) (v2canons : Int32) (v2present : Int32) (v2stalls : Int32) (v2moves : Int32) (f2there : Nat → Int32) (f2stallOf : Nat → Int32)  (Post : Int32 → Int32 × Int32 × (Nat → Int32) × (Nat → Int32) → Prop) (h : wp_X2_addCanon v2canons v2present f2there f2stallOf Post) : Met l yX2_addCanon wsX2_addCanon ({ frames := 0, cells := 0, slots := 0, locals := 0 } : Room) (MPre (dC, dI) [(cyI, .int), (cyZ, .boolean), (cyB, .byte)] [.ref a2] sz [(a2, .inr (2, [.int v2canons, .int v2present, .int v2stalls, .ref r2there, .ref r2stallOf, .ref r2worth, .ref r2holder, .ref r2wishes, .int v2moves, .ref r2mover, .ref r2movedFrom, .ref r2movedTo])), (r2there, .inl (cyZ, 20, .inl f2there)), (r2stallOf, .inl (cyI, 20, .inl f2stallOf))]) (va_Qi Post (fun (u : Int32 × Int32 × (Nat → Int32) × (Nat → Int32)) (t : State) => va_P (dC, dI) vwCl [(a2, .inr (2, [.int u.1, .int u.2.1, .int v2stalls, .ref r2there, .ref r2stallOf, .ref r2worth, .ref r2holder, .ref r2wishes, .int v2moves, .ref r2mover, .ref r2movedFrom, .ref r2movedTo])), (r2there, .inl (cyZ, 20, .inl u.2.2.1)), (r2stallOf, .inl (cyI, 20, .inl u.2.2.2))] t.heap ∧ va_D (va_A [(a2, .inr (2, [.int v2canons, .int v2present, .int v2stalls, .ref r2there, .ref r2stallOf, .ref r2worth, .ref r2holder, .ref r2wishes, .int v2moves, .ref r2mover, .ref r2movedFrom, .ref r2movedTo])), (r2there, .inl (cyZ, 20, .inl f2there)), (r2stallOf, .inl (cyI, 20, .inl f2stallOf))] sz) [(a2, .inr (2, [.int u.1, .int u.2.1, .int v2stalls, .ref r2there, .ref r2stallOf, .ref r2worth, .ref r2holder, .ref r2wishes, .int v2moves, .ref r2mover, .ref r2movedFrom, .ref r2movedTo])), (r2there, .inl (cyZ, 20, .inl u.2.2.1)), (r2stallOf, .inl (cyI, 20, .inl u.2.2.2))]) (va_A [(a2, .inr (2, [.int v2canons, .int v2present, .int v2stalls, .ref r2there, .ref r2stallOf, .ref r2worth, .ref r2holder, .ref r2wishes, .int v2moves, .ref r2mover, .ref r2movedFrom, .ref r2movedTo])), (r2there, .inl (cyZ, 20, .inl f2there)), (r2stallOf, .inl (cyI, 20, .inl f2stallOf))] sz)) 0 0 (va_A [(a2, .inr (2, [.int v2canons, .int v2present, .int v2stalls, .ref r2there, .ref r2stallOf, .ref r2worth, .ref r2holder, .ref r2wishes, .int v2moves, .ref r2mover, .ref r2movedFrom, .ref r2movedTo])), (r2there, .inl (cyZ, 20, .inl f2there)), (r2stallOf, .inl (cyI, 20, .inl f2stallOf))] sz) := by
  refine Met.ofW (cc := cX2_addCanon) (maxL := 2) (ret := (some .int)) (by decide) rfl ?_
  intro p e s m args below meth c s₁ B hml hv
  obtain ⟨rfl, hsz, hP, hK, hD0, hN⟩ := hv
  have hx := B.exec
  have hb := B.bytes
  have hr := B.returns
  have hts := atoms_spec (ws := wsX2_addCanon) B.pre
  have hown : s.vm.findClass RX2 = some m.cls := findClass_of_methodNamed B.named
  have hlocks := B.notSynchronized
  subst hsz
  have hD := hD0.self (sz := s.heap.size)
  generalize hAe : va_A [(a2, .inr (2, [.int v2canons, .int v2present, .int v2stalls, .ref r2there, .ref r2stallOf, .ref r2worth, .ref r2holder, .ref r2wishes, .int v2moves, .ref r2mover, .ref r2movedFrom, .ref r2movedTo])), (r2there, .inl (cyZ, 20, .inl f2there)), (r2stallOf, .inl (cyI, 20, .inl f2stallOf))] s.heap.size = A at hD ⊢
  have hA : ∀ q : Nat, s.heap.size ≤ q → A q := fun q h => by rw [← hAe]; exact Or.inr h
  have hS : va_S A s.heap s.heap [] := va_S.rf
  have hiX2 : ∀ w ∈ u_ws RX2 TX2 12, w ∈ wsX2_addCanon := by decide +kernel
  have lk9 := hts (.fieldLink RX2 9 "StallBook$Chapter" "canons" "I") (by decide +kernel)
  have lk15 := hts (.fieldLink RX2 15 "StallBook$Chapter" "present" "I") (by decide +kernel)
  have lk21 := hts (.fieldLink RX2 21 "StallBook$Chapter" "there" "[Z") (by decide +kernel)
  have lk25 := hts (.fieldLink RX2 25 "StallBook$Chapter" "stallOf" "[I") (by decide +kernel)
  delta wp_X2_addCanon at h
  have hl := lv_entry [.ref a2] (n := 2) (Nat.le_of_ble_eq_true rfl)
  rw [lg_entry_eq]
  generalize (lg_sl [.ref a2] ++ List.replicate (2 - (lg_sl [.ref a2]).length) Slot.unset).toArray = ls at hl ⊢
  replace hl : lv_has ls 2 [(0, .ref a2)] := hl
  refine lv_aload_n hx hb dX2_addCanon_0 rfl (lv_at hl 0 rfl) ?_
  refine va_get (D := (dC, dI)) (ci := 2) (v := .int v2canons) (C := RX2) (T := TX2) (N := 12) hx hb hts hiX2 hown hK hP 0 rfl rfl 0 (by decide) lk9 (fun _ h9 => h9) rfl dX2_addCanon_1 ?_
  refine lv_bipush (v := 20) hx hb dX2_addCanon_4 (by decide) ?_
  refine lv_icmp_ne (tgt := 11) hx hb dX2_addCanon_6 (by decide) (fun c => ?_) (fun c => ?_)
  · replace h := h.1 c
    refine lv_aload_n hx hb dX2_addCanon_11 rfl (lv_at hl 0 rfl) ?_
    refine va_get (D := (dC, dI)) (ci := 2) (v := .int v2canons) (C := RX2) (T := TX2) (N := 12) hx hb hts hiX2 hown hK hP 0 rfl rfl 0 (by decide) lk9 (fun _ h9 => h9) rfl dX2_addCanon_12 ?_
    refine lv_istore_n (lv' := [(1, .int v2canons), (0, .ref a2)]) hx hb dX2_addCanon_15 rfl hl (by decide) rfl (fun ls hl => ?_)
    refine lv_aload_n hx hb dX2_addCanon_16 rfl (lv_at hl 1 rfl) ?_
    refine lv_dup hx hb dX2_addCanon_17 rfl ?_
    refine va_get (D := (dC, dI)) (ci := 2) (v := .int v2canons) (C := RX2) (T := TX2) (N := 12) hx hb hts hiX2 hown hK hP 0 rfl rfl 0 (by decide) lk9 (fun _ h9 => h9) rfl dX2_addCanon_18 ?_
    refine lv_iconst (v := 1) hx hb dX2_addCanon_21 (by decide) ?_
    refine lv_iadd hx hb dX2_addCanon_22 ?_
    refine va_put (D := (dC, dI)) (ci := 2) (v := .int (v2canons + 1)) (ty := .int) (C := RX2) (T := TX2) (N := 12) hx hb hts hiX2 tyX2 tyX2_ok nmX2 hown hK hP hD hS 0 rfl rfl 0 (by decide) lk9 (fun _ h9 => h9) rfl (by decide +kernel) rfl rfl (Nat.le_of_ble_eq_true rfl) dX2_addCanon_23 (fun H locs hP hD hS => ?_)
    replace hP : va_P (dC, dI) vwCl [(a2, .inr (2, [.int (v2canons + 1), .int v2present, .int v2stalls, .ref r2there, .ref r2stallOf, .ref r2worth, .ref r2holder, .ref r2wishes, .int v2moves, .ref r2mover, .ref r2movedFrom, .ref r2movedTo])), (r2there, .inl (cyZ, 20, .inl f2there)), (r2stallOf, .inl (cyI, 20, .inl f2stallOf))] H := hP
    replace hD : va_D A [(a2, .inr (2, [.int (v2canons + 1), .int v2present, .int v2stalls, .ref r2there, .ref r2stallOf, .ref r2worth, .ref r2holder, .ref r2wishes, .int v2moves, .ref r2mover, .ref r2movedFrom, .ref r2movedTo])), (r2there, .inl (cyZ, 20, .inl f2there)), (r2stallOf, .inl (cyI, 20, .inl f2stallOf))] := hD
    refine lv_aload_n hx hb dX2_addCanon_26 rfl (lv_at hl 1 rfl) ?_
    refine lv_dup hx hb dX2_addCanon_27 rfl ?_
    refine va_get (D := (dC, dI)) (ci := 2) (v := .int v2present) (C := RX2) (T := TX2) (N := 12) hx hb hts hiX2 hown hK hP 0 rfl rfl 1 (by decide) lk15 (fun _ h9 => h9) rfl dX2_addCanon_28 ?_
    refine lv_iconst (v := 1) hx hb dX2_addCanon_31 (by decide) ?_
    refine lv_iadd hx hb dX2_addCanon_32 ?_
    refine va_put (D := (dC, dI)) (ci := 2) (v := .int (v2present + 1)) (ty := .int) (C := RX2) (T := TX2) (N := 12) hx hb hts hiX2 tyX2 tyX2_ok nmX2 hown hK hP hD hS 0 rfl rfl 1 (by decide) lk15 (fun _ h9 => h9) rfl (by decide +kernel) rfl rfl (Nat.le_of_ble_eq_true rfl) dX2_addCanon_33 (fun H locs hP hD hS => ?_)
    replace hP : va_P (dC, dI) vwCl [(a2, .inr (2, [.int (v2canons + 1), .int (v2present + 1), .int v2stalls, .ref r2there, .ref r2stallOf, .ref r2worth, .ref r2holder, .ref r2wishes, .int v2moves, .ref r2mover, .ref r2movedFrom, .ref r2movedTo])), (r2there, .inl (cyZ, 20, .inl f2there)), (r2stallOf, .inl (cyI, 20, .inl f2stallOf))] H := hP
    replace hD : va_D A [(a2, .inr (2, [.int (v2canons + 1), .int (v2present + 1), .int v2stalls, .ref r2there, .ref r2stallOf, .ref r2worth, .ref r2holder, .ref r2wishes, .int v2moves, .ref r2mover, .ref r2movedFrom, .ref r2movedTo])), (r2there, .inl (cyZ, 20, .inl f2there)), (r2stallOf, .inl (cyI, 20, .inl f2stallOf))] := hD
    refine lv_aload_n hx hb dX2_addCanon_36 rfl (lv_at hl 1 rfl) ?_
    refine va_get (D := (dC, dI)) (ci := 2) (v := .ref r2there) (C := RX2) (T := TX2) (N := 12) hx hb hts hiX2 hown hK hP 0 rfl rfl 3 (by decide) lk21 (fun _ h9 => h9) rfl dX2_addCanon_37 ?_
    refine lv_iload_n hx hb dX2_addCanon_40 rfl (lv_at hl 0 rfl) ?_
    refine lv_iconst (v := 1) hx hb dX2_addCanon_41 (by decide) ?_
    refine va_zast hx hb hK hP hD hS 1 1 rfl rfl h.1 dX2_addCanon_42 (fun H locs hP hD hS => ?_)
    replace h := h.2
    replace hP : va_P (dC, dI) vwCl [(a2, .inr (2, [.int (v2canons + 1), .int (v2present + 1), .int v2stalls, .ref r2there, .ref r2stallOf, .ref r2worth, .ref r2holder, .ref r2wishes, .int v2moves, .ref r2mover, .ref r2movedFrom, .ref r2movedTo])), (r2there, .inl (cyZ, 20, .inl (upd f2there v2canons.toNatClampNeg (vp_nar .boolean 1)))), (r2stallOf, .inl (cyI, 20, .inl f2stallOf))] H := hP
    replace hD : va_D A [(a2, .inr (2, [.int (v2canons + 1), .int (v2present + 1), .int v2stalls, .ref r2there, .ref r2stallOf, .ref r2worth, .ref r2holder, .ref r2wishes, .int v2moves, .ref r2mover, .ref r2movedFrom, .ref r2movedTo])), (r2there, .inl (cyZ, 20, .inl (upd f2there v2canons.toNatClampNeg (vp_nar .boolean 1)))), (r2stallOf, .inl (cyI, 20, .inl f2stallOf))] := hD
    refine lv_aload_n hx hb dX2_addCanon_43 rfl (lv_at hl 1 rfl) ?_
    refine va_get (D := (dC, dI)) (ci := 2) (v := .ref r2stallOf) (C := RX2) (T := TX2) (N := 12) hx hb hts hiX2 hown hK hP 0 rfl rfl 4 (by decide) lk25 (fun _ h9 => h9) rfl dX2_addCanon_44 ?_
    refine lv_iload_n hx hb dX2_addCanon_47 rfl (lv_at hl 0 rfl) ?_
    refine lv_iconst (v := (-1)) hx hb dX2_addCanon_48 (by decide) ?_
    refine va_iast hx hb hK hP hD hS 2 0 rfl rfl h.1 dX2_addCanon_49 (fun H locs hP hD hS => ?_)
    replace h := h.2
    replace hP : va_P (dC, dI) vwCl [(a2, .inr (2, [.int (v2canons + 1), .int (v2present + 1), .int v2stalls, .ref r2there, .ref r2stallOf, .ref r2worth, .ref r2holder, .ref r2wishes, .int v2moves, .ref r2mover, .ref r2movedFrom, .ref r2movedTo])), (r2there, .inl (cyZ, 20, .inl (upd f2there v2canons.toNatClampNeg (vp_nar .boolean 1)))), (r2stallOf, .inl (cyI, 20, .inl (upd f2stallOf v2canons.toNatClampNeg (-1))))] H := hP
    replace hD : va_D A [(a2, .inr (2, [.int (v2canons + 1), .int (v2present + 1), .int v2stalls, .ref r2there, .ref r2stallOf, .ref r2worth, .ref r2holder, .ref r2wishes, .int v2moves, .ref r2mover, .ref r2movedFrom, .ref r2movedTo])), (r2there, .inl (cyZ, 20, .inl (upd f2there v2canons.toNatClampNeg (vp_nar .boolean 1)))), (r2stallOf, .inl (cyI, 20, .inl (upd f2stallOf v2canons.toNatClampNeg (-1))))] := hD
    refine lv_iload_n hx hb dX2_addCanon_50 rfl (lv_at hl 0 rfl) ?_
    exact W.iret (v := v2canons) hx hb hr (fun t ht hW => ⟨⟨v2canons, ((v2canons + 1), (v2present + 1), (upd f2there v2canons.toNatClampNeg (vp_nar .boolean 1)), (upd f2stallOf v2canons.toNatClampNeg (-1))), rfl, h, by rw [ht]; exact hP, hD⟩, hS.F ht⟩) hS.2.2 dX2_addCanon_51
  · replace h := h.2 c
    refine lv_iconst (v := (-1)) hx hb dX2_addCanon_9 (by decide) ?_
    exact W.iret (v := (-1)) hx hb hr (fun t ht hW => ⟨⟨(-1), (v2canons, v2present, f2there, f2stallOf), rfl, h, by rw [ht]; exact hP, hD⟩, hS.F ht⟩) hS.2.2 dX2_addCanon_10
def wp_X2_setWish (p1 : Int32) (p2 : Int32) (p3 : Int32) (f2wishes : Nat → Int32) (Post : Int32 → (Nat → Int32) → Prop) : Prop := (∀ x1 : Int32, x1 = ((p1 * 12) + p2) → (vp_in x1 240 ∧ ((((f2wishes x1.toNatClampNeg) = p3) → (vp_in x1 240 ∧ (Post 0 (upd f2wishes x1.toNatClampNeg (vp_nar .boolean p3))))) ∧ ((¬ (f2wishes x1.toNatClampNeg) = p3) → (vp_in x1 240 ∧ (Post 1 (upd f2wishes x1.toNatClampNeg (vp_nar .boolean p3))))))))
set_option maxHeartbeats 4000000 in
set_option maxRecDepth 100000 in
theorem c_X2_setWish (l : Launch) (dC : Nat → ClassId) (dI : Nat → Nat → Nat) (cyI cyZ cyB : ClassId) (a2 : Nat) (r2there : Nat) (r2stallOf : Nat) (r2worth : Nat) (r2holder : Nat) (r2wishes : Nat) (r2mover : Nat) (r2movedFrom : Nat) (r2movedTo : Nat) (sz : Nat) (v2canons : Int32) (v2present : Int32) (v2stalls : Int32) (v2moves : Int32) (f2wishes : Nat → Int32) (p1 : Int32) (p2 : Int32) (p3 : Int32) (Post : Int32 → (Nat → Int32) → Prop) (h : wp_X2_setWish p1 p2 p3 f2wishes Post) : Met l yX2_setWish wsX2_setWish ({ frames := 0, cells := 0, slots := 0, locals := 0 } : Room) (MPre (dC, dI) [(cyI, .int), (cyZ, .boolean), (cyB, .byte)] [.ref a2, .int p1, .int p2, .int p3] sz [(a2, .inr (2, [.int v2canons, .int v2present, .int v2stalls, .ref r2there, .ref r2stallOf, .ref r2worth, .ref r2holder, .ref r2wishes, .int v2moves, .ref r2mover, .ref r2movedFrom, .ref r2movedTo])), (r2wishes, .inl (cyZ, 240, .inl f2wishes))]) (va_Qi Post (fun (u : (Nat → Int32)) (t : State) => va_P (dC, dI) vwCl [(a2, .inr (2, [.int v2canons, .int v2present, .int v2stalls, .ref r2there, .ref r2stallOf, .ref r2worth, .ref r2holder, .ref r2wishes, .int v2moves, .ref r2mover, .ref r2movedFrom, .ref r2movedTo])), (r2wishes, .inl (cyZ, 240, .inl u))] t.heap ∧ va_D (va_A [(a2, .inr (2, [.int v2canons, .int v2present, .int v2stalls, .ref r2there, .ref r2stallOf, .ref r2worth, .ref r2holder, .ref r2wishes, .int v2moves, .ref r2mover, .ref r2movedFrom, .ref r2movedTo])), (r2wishes, .inl (cyZ, 240, .inl f2wishes))] sz) [(a2, .inr (2, [.int v2canons, .int v2present, .int v2stalls, .ref r2there, .ref r2stallOf, .ref r2worth, .ref r2holder, .ref r2wishes, .int v2moves, .ref r2mover, .ref r2movedFrom, .ref r2movedTo])), (r2wishes, .inl (cyZ, 240, .inl u))]) (va_A [(a2, .inr (2, [.int v2canons, .int v2present, .int v2stalls, .ref r2there, .ref r2stallOf, .ref r2worth, .ref r2holder, .ref r2wishes, .int v2moves, .ref r2mover, .ref r2movedFrom, .ref r2movedTo])), (r2wishes, .inl (cyZ, 240, .inl f2wishes))] sz)) 0 0 (va_A [(a2, .inr (2, [.int v2canons, .int v2present, .int v2stalls, .ref r2there, .ref r2stallOf, .ref r2worth, .ref r2holder, .ref r2wishes, .int v2moves, .ref r2mover, .ref r2movedFrom, .ref r2movedTo])), (r2wishes, .inl (cyZ, 240, .inl f2wishes))] sz) := by
  refine Met.ofW (cc := cX2_setWish) (maxL := 6) (ret := (some .boolean)) (by decide) rfl ?_
  intro p e s m args below meth c s₁ B hml hv
  obtain ⟨rfl, hsz, hP, hK, hD0, hN⟩ := hv
  have hx := B.exec
  have hb := B.bytes
  have hr := B.returns
  have hts := atoms_spec (ws := wsX2_setWish) B.pre
  have hown : s.vm.findClass RX2 = some m.cls := findClass_of_methodNamed B.named
  have hlocks := B.notSynchronized
  subst hsz
  have hD := hD0.self (sz := s.heap.size)
  generalize hAe : va_A [(a2, .inr (2, [.int v2canons, .int v2present, .int v2stalls, .ref r2there, .ref r2stallOf, .ref r2worth, .ref r2holder, .ref r2wishes, .int v2moves, .ref r2mover, .ref r2movedFrom, .ref r2movedTo])), (r2wishes, .inl (cyZ, 240, .inl f2wishes))] s.heap.size = A at hD ⊢
  have hA : ∀ q : Nat, s.heap.size ≤ q → A q := fun q h => by rw [← hAe]; exact Or.inr h
  have hS : va_S A s.heap s.heap [] := va_S.rf
  have hiX2 : ∀ w ∈ u_ws RX2 TX2 12, w ∈ wsX2_setWish := by decide +kernel
  have lk35 := hts (.fieldLink RX2 35 "StallBook$Chapter" "wishes" "[Z") (by decide +kernel)
  delta wp_X2_setWish at h
  have hl := lv_entry [.ref a2, .int p1, .int p2, .int p3] (n := 6) (Nat.le_of_ble_eq_true rfl)
  rw [lg_entry_eq]
  generalize (lg_sl [.ref a2, .int p1, .int p2, .int p3] ++ List.replicate (6 - (lg_sl [.ref a2, .int p1, .int p2, .int p3]).length) Slot.unset).toArray = ls at hl ⊢
  replace hl : lv_has ls 6 [(0, .ref a2), (1, .int p1), (2, .int p2), (3, .int p3)] := hl
  refine lv_iload_n hx hb dX2_setWish_0 rfl (lv_at hl 1 rfl) ?_
  refine lv_bipush (v := 12) hx hb dX2_setWish_1 (by decide) ?_
  refine lv_imul hx hb dX2_setWish_3 ?_
  refine lv_iload_n hx hb dX2_setWish_4 rfl (lv_at hl 2 rfl) ?_
  refine lv_iadd hx hb dX2_setWish_5 ?_
  refine lv_topi (fun x1 ex1 => ?_)
  replace h := h x1 ex1
  refine lv_istore (lv' := [(4, .int x1), (0, .ref a2), (1, .int p1), (2, .int p2), (3, .int p3)]) hx hb dX2_setWish_6 hl (by decide) rfl (fun ls hl => ?_)
  refine lv_aload_n hx hb dX2_setWish_8 rfl (lv_at hl 1 rfl) ?_
  refine va_get (D := (dC, dI)) (ci := 2) (v := .ref r2wishes) (C := RX2) (T := TX2) (N := 12) hx hb hts hiX2 hown hK hP 0 rfl rfl 7 (by decide) lk35 (fun _ h9 => h9) rfl dX2_setWish_9 ?_
  refine lv_iload hx hb dX2_setWish_12 (lv_at hl 0 rfl) ?_
  refine va_zald hx hb hK hP 1 1 rfl rfl h.1 dX2_setWish_14 ?_
  replace h := h.2
  refine lv_iload_n hx hb dX2_setWish_15 rfl (lv_at hl 4 rfl) ?_
  refine lv_icmp_eq (tgt := 23) hx hb dX2_setWish_16 (by decide) (fun c => ?_) (fun c => ?_)
  · replace h := h.1 c
    refine lv_iconst (v := 0) hx hb dX2_setWish_23 (by decide) ?_
    refine lv_istore (lv' := [(5, .int 0), (4, .int x1), (0, .ref a2), (1, .int p1), (2, .int p2), (3, .int p3)]) hx hb dX2_setWish_24 hl (by decide) rfl (fun ls hl => ?_)
    refine lv_aload_n hx hb dX2_setWish_26 rfl (lv_at hl 2 rfl) ?_
    refine va_get (D := (dC, dI)) (ci := 2) (v := .ref r2wishes) (C := RX2) (T := TX2) (N := 12) hx hb hts hiX2 hown hK hP 0 rfl rfl 7 (by decide) lk35 (fun _ h9 => h9) rfl dX2_setWish_27 ?_
    refine lv_iload hx hb dX2_setWish_30 (lv_at hl 1 rfl) ?_
    refine lv_iload_n hx hb dX2_setWish_32 rfl (lv_at hl 5 rfl) ?_
    refine va_zast hx hb hK hP hD hS 1 1 rfl rfl h.1 dX2_setWish_33 (fun H locs hP hD hS => ?_)
    replace h := h.2
    replace hP : va_P (dC, dI) vwCl [(a2, .inr (2, [.int v2canons, .int v2present, .int v2stalls, .ref r2there, .ref r2stallOf, .ref r2worth, .ref r2holder, .ref r2wishes, .int v2moves, .ref r2mover, .ref r2movedFrom, .ref r2movedTo])), (r2wishes, .inl (cyZ, 240, .inl (upd f2wishes x1.toNatClampNeg (vp_nar .boolean p3))))] H := hP
    replace hD : va_D A [(a2, .inr (2, [.int v2canons, .int v2present, .int v2stalls, .ref r2there, .ref r2stallOf, .ref r2worth, .ref r2holder, .ref r2wishes, .int v2moves, .ref r2mover, .ref r2movedFrom, .ref r2movedTo])), (r2wishes, .inl (cyZ, 240, .inl (upd f2wishes x1.toNatClampNeg (vp_nar .boolean p3))))] := hD
    refine lv_iload hx hb dX2_setWish_34 (lv_at hl 0 rfl) ?_
    exact W.zret (v := 0) (ty := .boolean) hx hb hr rfl (fun t ht hW => ⟨⟨0, (upd f2wishes x1.toNatClampNeg (vp_nar .boolean p3)), rfl, h, by rw [ht]; exact hP, hD⟩, hS.F ht⟩) hS.2.2 dX2_setWish_36
  · replace h := h.2 c
    refine lv_iconst (v := 1) hx hb dX2_setWish_19 (by decide) ?_
    refine lv_goto (tgt := 24) hx hb dX2_setWish_20 (by decide) ?_
    refine lv_istore (lv' := [(5, .int 1), (4, .int x1), (0, .ref a2), (1, .int p1), (2, .int p2), (3, .int p3)]) hx hb dX2_setWish_24 hl (by decide) rfl (fun ls hl => ?_)
    refine lv_aload_n hx hb dX2_setWish_26 rfl (lv_at hl 2 rfl) ?_
    refine va_get (D := (dC, dI)) (ci := 2) (v := .ref r2wishes) (C := RX2) (T := TX2) (N := 12) hx hb hts hiX2 hown hK hP 0 rfl rfl 7 (by decide) lk35 (fun _ h9 => h9) rfl dX2_setWish_27 ?_
    refine lv_iload hx hb dX2_setWish_30 (lv_at hl 1 rfl) ?_
    refine lv_iload_n hx hb dX2_setWish_32 rfl (lv_at hl 5 rfl) ?_
    refine va_zast hx hb hK hP hD hS 1 1 rfl rfl h.1 dX2_setWish_33 (fun H locs hP hD hS => ?_)
    replace h := h.2
    replace hP : va_P (dC, dI) vwCl [(a2, .inr (2, [.int v2canons, .int v2present, .int v2stalls, .ref r2there, .ref r2stallOf, .ref r2worth, .ref r2holder, .ref r2wishes, .int v2moves, .ref r2mover, .ref r2movedFrom, .ref r2movedTo])), (r2wishes, .inl (cyZ, 240, .inl (upd f2wishes x1.toNatClampNeg (vp_nar .boolean p3))))] H := hP
    replace hD : va_D A [(a2, .inr (2, [.int v2canons, .int v2present, .int v2stalls, .ref r2there, .ref r2stallOf, .ref r2worth, .ref r2holder, .ref r2wishes, .int v2moves, .ref r2mover, .ref r2movedFrom, .ref r2movedTo])), (r2wishes, .inl (cyZ, 240, .inl (upd f2wishes x1.toNatClampNeg (vp_nar .boolean p3))))] := hD
    refine lv_iload hx hb dX2_setWish_34 (lv_at hl 0 rfl) ?_
    exact W.zret (v := 1) (ty := .boolean) hx hb hr rfl (fun t ht hW => ⟨⟨1, (upd f2wishes x1.toNatClampNeg (vp_nar .boolean p3)), rfl, h, by rw [ht]; exact hP, hD⟩, hS.F ht⟩) hS.2.2 dX2_setWish_36
def wp_X2_sitDown (p1 : Int32) (p2 : Int32) (f2stallOf : Nat → Int32) (f2holder : Nat → Int32) (Post : Int32 → (Nat → Int32) × (Nat → Int32) → Prop) : Prop := (vp_in p1 20 ∧ (((¬ (f2stallOf p1.toNatClampNeg) = (-1)) → (Post 0 (f2stallOf, f2holder))) ∧ (((f2stallOf p1.toNatClampNeg) = (-1)) → (vp_in p2 12 ∧ ((((f2holder p2.toNatClampNeg) = (-1)) → (vp_in p1 20 ∧ (vp_in p2 12 ∧ (Post 1 ((upd f2stallOf p1.toNatClampNeg p2), (upd f2holder p2.toNatClampNeg p1)))))) ∧ ((¬ (f2holder p2.toNatClampNeg) = (-1)) → (Post 0 (f2stallOf, f2holder))))))))
set_option maxHeartbeats 4000000 in
set_option maxRecDepth 100000 in
theorem c_X2_sitDown (l : Launch) (dC : Nat → ClassId) (dI : Nat → Nat → Nat) (cyI cyZ cyB : ClassId) (a2 : Nat) (r2there : Nat) (r2stallOf : Nat) (r2worth : Nat) (r2holder : Nat) (r2wishes : Nat) (r2mover : Nat) (r2movedFrom : Nat) (r2movedTo : Nat) (sz : Nat) (v2canons : Int32) (v2present : Int32) (v2stalls : Int32) (v2moves : Int32) (f2stallOf : Nat → Int32) (f2holder : Nat → Int32) (p1 : Int32) (p2 : Int32) (Post : Int32 → (Nat → Int32) × (Nat → Int32) → Prop) (h : wp_X2_sitDown p1 p2 f2stallOf f2holder Post) : Met l yX2_sitDown wsX2_sitDown ({ frames := 0, cells := 0, slots := 0, locals := 0 } : Room) (MPre (dC, dI) [(cyI, .int), (cyZ, .boolean), (cyB, .byte)] [.ref a2, .int p1, .int p2] sz [(a2, .inr (2, [.int v2canons, .int v2present, .int v2stalls, .ref r2there, .ref r2stallOf, .ref r2worth, .ref r2holder, .ref r2wishes, .int v2moves, .ref r2mover, .ref r2movedFrom, .ref r2movedTo])), (r2stallOf, .inl (cyI, 20, .inl f2stallOf)), (r2holder, .inl (cyI, 12, .inl f2holder))]) (va_Qi Post (fun (u : (Nat → Int32) × (Nat → Int32)) (t : State) => va_P (dC, dI) vwCl [(a2, .inr (2, [.int v2canons, .int v2present, .int v2stalls, .ref r2there, .ref r2stallOf, .ref r2worth, .ref r2holder, .ref r2wishes, .int v2moves, .ref r2mover, .ref r2movedFrom, .ref r2movedTo])), (r2stallOf, .inl (cyI, 20, .inl u.1)), (r2holder, .inl (cyI, 12, .inl u.2))] t.heap ∧ va_D (va_A [(a2, .inr (2, [.int v2canons, .int v2present, .int v2stalls, .ref r2there, .ref r2stallOf, .ref r2worth, .ref r2holder, .ref r2wishes, .int v2moves, .ref r2mover, .ref r2movedFrom, .ref r2movedTo])), (r2stallOf, .inl (cyI, 20, .inl f2stallOf)), (r2holder, .inl (cyI, 12, .inl f2holder))] sz) [(a2, .inr (2, [.int v2canons, .int v2present, .int v2stalls, .ref r2there, .ref r2stallOf, .ref r2worth, .ref r2holder, .ref r2wishes, .int v2moves, .ref r2mover, .ref r2movedFrom, .ref r2movedTo])), (r2stallOf, .inl (cyI, 20, .inl u.1)), (r2holder, .inl (cyI, 12, .inl u.2))]) (va_A [(a2, .inr (2, [.int v2canons, .int v2present, .int v2stalls, .ref r2there, .ref r2stallOf, .ref r2worth, .ref r2holder, .ref r2wishes, .int v2moves, .ref r2mover, .ref r2movedFrom, .ref r2movedTo])), (r2stallOf, .inl (cyI, 20, .inl f2stallOf)), (r2holder, .inl (cyI, 12, .inl f2holder))] sz)) 0 0 (va_A [(a2, .inr (2, [.int v2canons, .int v2present, .int v2stalls, .ref r2there, .ref r2stallOf, .ref r2worth, .ref r2holder, .ref r2wishes, .int v2moves, .ref r2mover, .ref r2movedFrom, .ref r2movedTo])), (r2stallOf, .inl (cyI, 20, .inl f2stallOf)), (r2holder, .inl (cyI, 12, .inl f2holder))] sz) := by
  refine Met.ofW (cc := cX2_sitDown) (maxL := 3) (ret := (some .boolean)) (by decide) rfl ?_
  intro p e s m args below meth c s₁ B hml hv
  obtain ⟨rfl, hsz, hP, hK, hD0, hN⟩ := hv
  have hx := B.exec
  have hb := B.bytes
  have hr := B.returns
  have hts := atoms_spec (ws := wsX2_sitDown) B.pre
  have hown : s.vm.findClass RX2 = some m.cls := findClass_of_methodNamed B.named
  have hlocks := B.notSynchronized
  subst hsz
  have hD := hD0.self (sz := s.heap.size)
  generalize hAe : va_A [(a2, .inr (2, [.int v2canons, .int v2present, .int v2stalls, .ref r2there, .ref r2stallOf, .ref r2worth, .ref r2holder, .ref r2wishes, .int v2moves, .ref r2mover, .ref r2movedFrom, .ref r2movedTo])), (r2stallOf, .inl (cyI, 20, .inl f2stallOf)), (r2holder, .inl (cyI, 12, .inl f2holder))] s.heap.size = A at hD ⊢
  have hA : ∀ q : Nat, s.heap.size ≤ q → A q := fun q h => by rw [← hAe]; exact Or.inr h
  have hS : va_S A s.heap s.heap [] := va_S.rf
  have hiX2 : ∀ w ∈ u_ws RX2 TX2 12, w ∈ wsX2_sitDown := by decide +kernel
  have lk25 := hts (.fieldLink RX2 25 "StallBook$Chapter" "stallOf" "[I") (by decide +kernel)
  have lk32 := hts (.fieldLink RX2 32 "StallBook$Chapter" "holder" "[I") (by decide +kernel)
  delta wp_X2_sitDown at h
  have hl := lv_entry [.ref a2, .int p1, .int p2] (n := 3) (Nat.le_of_ble_eq_true rfl)
  rw [lg_entry_eq]
  generalize (lg_sl [.ref a2, .int p1, .int p2] ++ List.replicate (3 - (lg_sl [.ref a2, .int p1, .int p2]).length) Slot.unset).toArray = ls at hl ⊢
  replace hl : lv_has ls 3 [(0, .ref a2), (1, .int p1), (2, .int p2)] := hl
  refine lv_aload_n hx hb dX2_sitDown_0 rfl (lv_at hl 0 rfl) ?_
  refine va_get (D := (dC, dI)) (ci := 2) (v := .ref r2stallOf) (C := RX2) (T := TX2) (N := 12) hx hb hts hiX2 hown hK hP 0 rfl rfl 4 (by decide) lk25 (fun _ h9 => h9) rfl dX2_sitDown_1 ?_
  refine lv_iload_n hx hb dX2_sitDown_4 rfl (lv_at hl 1 rfl) ?_
  refine va_iald hx hb hK hP 1 0 rfl rfl h.1 dX2_sitDown_5 ?_
  replace h := h.2
  refine lv_iconst (v := (-1)) hx hb dX2_sitDown_6 (by decide) ?_
  refine lv_icmp_ne (tgt := 20) hx hb dX2_sitDown_7 (by decide) (fun c => ?_) (fun c => ?_)
  · replace h := h.1 c
    refine lv_iconst (v := 0) hx hb dX2_sitDown_20 (by decide) ?_
    exact W.zret (v := 0) (ty := .boolean) hx hb hr rfl (fun t ht hW => ⟨⟨0, (f2stallOf, f2holder), rfl, h, by rw [ht]; exact hP, hD⟩, hS.F ht⟩) hS.2.2 dX2_sitDown_21
  · replace h := h.2 c
    refine lv_aload_n hx hb dX2_sitDown_10 rfl (lv_at hl 0 rfl) ?_
    refine va_get (D := (dC, dI)) (ci := 2) (v := .ref r2holder) (C := RX2) (T := TX2) (N := 12) hx hb hts hiX2 hown hK hP 0 rfl rfl 6 (by decide) lk32 (fun _ h9 => h9) rfl dX2_sitDown_11 ?_
    refine lv_iload_n hx hb dX2_sitDown_14 rfl (lv_at hl 2 rfl) ?_
    refine va_iald hx hb hK hP 2 0 rfl rfl h.1 dX2_sitDown_15 ?_
    replace h := h.2
    refine lv_iconst (v := (-1)) hx hb dX2_sitDown_16 (by decide) ?_
    refine lv_icmp_eq (tgt := 22) hx hb dX2_sitDown_17 (by decide) (fun c => ?_) (fun c => ?_)
    · replace h := h.1 c
      refine lv_aload_n hx hb dX2_sitDown_22 rfl (lv_at hl 0 rfl) ?_
      refine va_get (D := (dC, dI)) (ci := 2) (v := .ref r2stallOf) (C := RX2) (T := TX2) (N := 12) hx hb hts hiX2 hown hK hP 0 rfl rfl 4 (by decide) lk25 (fun _ h9 => h9) rfl dX2_sitDown_23 ?_
      refine lv_iload_n hx hb dX2_sitDown_26 rfl (lv_at hl 1 rfl) ?_
      refine lv_iload_n hx hb dX2_sitDown_27 rfl (lv_at hl 2 rfl) ?_
      refine va_iast hx hb hK hP hD hS 1 0 rfl rfl h.1 dX2_sitDown_28 (fun H locs hP hD hS => ?_)
      replace h := h.2
      replace hP : va_P (dC, dI) vwCl [(a2, .inr (2, [.int v2canons, .int v2present, .int v2stalls, .ref r2there, .ref r2stallOf, .ref r2worth, .ref r2holder, .ref r2wishes, .int v2moves, .ref r2mover, .ref r2movedFrom, .ref r2movedTo])), (r2stallOf, .inl (cyI, 20, .inl (upd f2stallOf p1.toNatClampNeg p2))), (r2holder, .inl (cyI, 12, .inl f2holder))] H := hP
      replace hD : va_D A [(a2, .inr (2, [.int v2canons, .int v2present, .int v2stalls, .ref r2there, .ref r2stallOf, .ref r2worth, .ref r2holder, .ref r2wishes, .int v2moves, .ref r2mover, .ref r2movedFrom, .ref r2movedTo])), (r2stallOf, .inl (cyI, 20, .inl (upd f2stallOf p1.toNatClampNeg p2))), (r2holder, .inl (cyI, 12, .inl f2holder))] := hD
      refine lv_aload_n hx hb dX2_sitDown_29 rfl (lv_at hl 0 rfl) ?_
      refine va_get (D := (dC, dI)) (ci := 2) (v := .ref r2holder) (C := RX2) (T := TX2) (N := 12) hx hb hts hiX2 hown hK hP 0 rfl rfl 6 (by decide) lk32 (fun _ h9 => h9) rfl dX2_sitDown_30 ?_
      refine lv_iload_n hx hb dX2_sitDown_33 rfl (lv_at hl 2 rfl) ?_
      refine lv_iload_n hx hb dX2_sitDown_34 rfl (lv_at hl 1 rfl) ?_
      refine va_iast hx hb hK hP hD hS 2 0 rfl rfl h.1 dX2_sitDown_35 (fun H locs hP hD hS => ?_)
      replace h := h.2
      replace hP : va_P (dC, dI) vwCl [(a2, .inr (2, [.int v2canons, .int v2present, .int v2stalls, .ref r2there, .ref r2stallOf, .ref r2worth, .ref r2holder, .ref r2wishes, .int v2moves, .ref r2mover, .ref r2movedFrom, .ref r2movedTo])), (r2stallOf, .inl (cyI, 20, .inl (upd f2stallOf p1.toNatClampNeg p2))), (r2holder, .inl (cyI, 12, .inl (upd f2holder p2.toNatClampNeg p1)))] H := hP
      replace hD : va_D A [(a2, .inr (2, [.int v2canons, .int v2present, .int v2stalls, .ref r2there, .ref r2stallOf, .ref r2worth, .ref r2holder, .ref r2wishes, .int v2moves, .ref r2mover, .ref r2movedFrom, .ref r2movedTo])), (r2stallOf, .inl (cyI, 20, .inl (upd f2stallOf p1.toNatClampNeg p2))), (r2holder, .inl (cyI, 12, .inl (upd f2holder p2.toNatClampNeg p1)))] := hD
      refine lv_iconst (v := 1) hx hb dX2_sitDown_36 (by decide) ?_
      exact W.zret (v := 1) (ty := .boolean) hx hb hr rfl (fun t ht hW => ⟨⟨1, ((upd f2stallOf p1.toNatClampNeg p2), (upd f2holder p2.toNatClampNeg p1)), rfl, h, by rw [ht]; exact hP, hD⟩, hS.F ht⟩) hS.2.2 dX2_sitDown_37
    · replace h := h.2 c
      refine lv_iconst (v := 0) hx hb dX2_sitDown_20 (by decide) ?_
      exact W.zret (v := 0) (ty := .boolean) hx hb hr rfl (fun t ht hW => ⟨⟨0, (f2stallOf, f2holder), rfl, h, by rw [ht]; exact hP, hD⟩, hS.F ht⟩) hS.2.2 dX2_sitDown_21
def wp_X2_depart (p1 : Int32) (v2canons : Int32) (v2present : Int32) (f2there : Nat → Int32) (f2stallOf : Nat → Int32) (f2worth : Nat → Int32) (f2holder : Nat → Int32) (f2wishes : Nat → Int32) (v2moves : Int32) (f2mover : Nat → Int32) (f2movedFrom : Nat → Int32) (f2movedTo : Nat → Int32) (Post : Int32 → Int32 × (Nat → Int32) × (Nat → Int32) × (Nat → Int32) × Int32 × (Nat → Int32) × (Nat → Int32) × (Nat → Int32) → Prop) : Prop := (vp_in p1 20 ∧ (∀ x1 : Int32, x1 = (f2stallOf p1.toNatClampNeg) → (vp_in p1 20 ∧ (vp_in p1 20 ∧ (((x1 = (-1)) → (wp_X2_fall x1 v2canons (upd f2there p1.toNatClampNeg (vp_nar .boolean 0)) (upd f2stallOf p1.toNatClampNeg (-1)) f2worth f2holder f2wishes v2moves f2mover f2movedFrom f2movedTo (fun (u3 : (Nat → Int32) × (Nat → Int32) × Int32 × (Nat → Int32) × (Nat → Int32) × (Nat → Int32)) => (Post u3.2.2.1 ((v2present - 1), (upd f2there p1.toNatClampNeg (vp_nar .boolean 0)), u3.1, u3.2.1, u3.2.2.1, u3.2.2.2.1, u3.2.2.2.2.1, u3.2.2.2.2.2))))) ∧ ((¬ x1 = (-1)) → (vp_in x1 12 ∧ (wp_X2_fall x1 v2canons (upd f2there p1.toNatClampNeg (vp_nar .boolean 0)) (upd f2stallOf p1.toNatClampNeg (-1)) f2worth (upd f2holder x1.toNatClampNeg (-1)) f2wishes v2moves f2mover f2movedFrom f2movedTo (fun (u5 : (Nat → Int32) × (Nat → Int32) × Int32 × (Nat → Int32) × (Nat → Int32) × (Nat → Int32)) => (Post u5.2.2.1 ((v2present - 1), (upd f2there p1.toNatClampNeg (vp_nar .boolean 0)), u5.1, u5.2.1, u5.2.2.1, u5.2.2.2.1, u5.2.2.2.2.1, u5.2.2.2.2.2)))))))))))
set_option maxHeartbeats 4000000 in
set_option maxRecDepth 100000 in
theorem c_X2_depart (l : Launch) (dC : Nat → ClassId) (dI : Nat → Nat → Nat) (cyI cyZ cyB : ClassId) (a2 : Nat) (r2there : Nat) (r2stallOf : Nat) (r2worth : Nat) (r2holder : Nat) (r2wishes : Nat) (r2mover : Nat) (r2movedFrom : Nat) (r2movedTo : Nat) (sz : Nat) (v2canons : Int32) (v2present : Int32) (v2stalls : Int32) (v2moves : Int32) (f2there : Nat → Int32) (f2stallOf : Nat → Int32) (f2worth : Nat → Int32) (f2holder : Nat → Int32) (f2wishes : Nat → Int32) (f2mover : Nat → Int32) (f2movedFrom : Nat → Int32) (f2movedTo : Nat → Int32) (p1 : Int32) (Post : Int32 → Int32 × (Nat → Int32) × (Nat → Int32) × (Nat → Int32) × Int32 × (Nat → Int32) × (Nat → Int32) × (Nat → Int32) → Prop) (h : wp_X2_depart p1 v2canons v2present f2there f2stallOf f2worth f2holder f2wishes v2moves f2mover f2movedFrom f2movedTo Post) : Met l yX2_depart wsX2_depart ({ frames := 4, cells := 0, slots := 0, locals := 90 } : Room) (MPre (dC, dI) [(cyI, .int), (cyZ, .boolean), (cyB, .byte)] [.ref a2, .int p1] sz [(a2, .inr (2, [.int v2canons, .int v2present, .int v2stalls, .ref r2there, .ref r2stallOf, .ref r2worth, .ref r2holder, .ref r2wishes, .int v2moves, .ref r2mover, .ref r2movedFrom, .ref r2movedTo])), (r2there, .inl (cyZ, 20, .inl f2there)), (r2stallOf, .inl (cyI, 20, .inl f2stallOf)), (r2worth, .inl (cyI, 12, .inl f2worth)), (r2holder, .inl (cyI, 12, .inl f2holder)), (r2wishes, .inl (cyZ, 240, .inl f2wishes)), (r2mover, .inl (cyI, 12, .inl f2mover)), (r2movedFrom, .inl (cyI, 12, .inl f2movedFrom)), (r2movedTo, .inl (cyI, 12, .inl f2movedTo))]) (va_Qi Post (fun (u : Int32 × (Nat → Int32) × (Nat → Int32) × (Nat → Int32) × Int32 × (Nat → Int32) × (Nat → Int32) × (Nat → Int32)) (t : State) => va_P (dC, dI) vwCl [(a2, .inr (2, [.int v2canons, .int u.1, .int v2stalls, .ref r2there, .ref r2stallOf, .ref r2worth, .ref r2holder, .ref r2wishes, .int u.2.2.2.2.1, .ref r2mover, .ref r2movedFrom, .ref r2movedTo])), (r2there, .inl (cyZ, 20, .inl u.2.1)), (r2stallOf, .inl (cyI, 20, .inl u.2.2.1)), (r2worth, .inl (cyI, 12, .inl f2worth)), (r2holder, .inl (cyI, 12, .inl u.2.2.2.1)), (r2wishes, .inl (cyZ, 240, .inl f2wishes)), (r2mover, .inl (cyI, 12, .inl u.2.2.2.2.2.1)), (r2movedFrom, .inl (cyI, 12, .inl u.2.2.2.2.2.2.1)), (r2movedTo, .inl (cyI, 12, .inl u.2.2.2.2.2.2.2))] t.heap ∧ va_D (va_A [(a2, .inr (2, [.int v2canons, .int v2present, .int v2stalls, .ref r2there, .ref r2stallOf, .ref r2worth, .ref r2holder, .ref r2wishes, .int v2moves, .ref r2mover, .ref r2movedFrom, .ref r2movedTo])), (r2there, .inl (cyZ, 20, .inl f2there)), (r2stallOf, .inl (cyI, 20, .inl f2stallOf)), (r2worth, .inl (cyI, 12, .inl f2worth)), (r2holder, .inl (cyI, 12, .inl f2holder)), (r2wishes, .inl (cyZ, 240, .inl f2wishes)), (r2mover, .inl (cyI, 12, .inl f2mover)), (r2movedFrom, .inl (cyI, 12, .inl f2movedFrom)), (r2movedTo, .inl (cyI, 12, .inl f2movedTo))] sz) [(a2, .inr (2, [.int v2canons, .int u.1, .int v2stalls, .ref r2there, .ref r2stallOf, .ref r2worth, .ref r2holder, .ref r2wishes, .int u.2.2.2.2.1, .ref r2mover, .ref r2movedFrom, .ref r2movedTo])), (r2there, .inl (cyZ, 20, .inl u.2.1)), (r2stallOf, .inl (cyI, 20, .inl u.2.2.1)), (r2worth, .inl (cyI, 12, .inl f2worth)), (r2holder, .inl (cyI, 12, .inl u.2.2.2.1)), (r2wishes, .inl (cyZ, 240, .inl f2wishes)), (r2mover, .inl (cyI, 12, .inl u.2.2.2.2.2.1)), (r2movedFrom, .inl (cyI, 12, .inl u.2.2.2.2.2.2.1)), (r2movedTo, .inl (cyI, 12, .inl u.2.2.2.2.2.2.2))]) (va_A [(a2, .inr (2, [.int v2canons, .int v2present, .int v2stalls, .ref r2there, .ref r2stallOf, .ref r2worth, .ref r2holder, .ref r2wishes, .int v2moves, .ref r2mover, .ref r2movedFrom, .ref r2movedTo])), (r2there, .inl (cyZ, 20, .inl f2there)), (r2stallOf, .inl (cyI, 20, .inl f2stallOf)), (r2worth, .inl (cyI, 12, .inl f2worth)), (r2holder, .inl (cyI, 12, .inl f2holder)), (r2wishes, .inl (cyZ, 240, .inl f2wishes)), (r2mover, .inl (cyI, 12, .inl f2mover)), (r2movedFrom, .inl (cyI, 12, .inl f2movedFrom)), (r2movedTo, .inl (cyI, 12, .inl f2movedTo))] sz)) 0 0 (va_A [(a2, .inr (2, [.int v2canons, .int v2present, .int v2stalls, .ref r2there, .ref r2stallOf, .ref r2worth, .ref r2holder, .ref r2wishes, .int v2moves, .ref r2mover, .ref r2movedFrom, .ref r2movedTo])), (r2there, .inl (cyZ, 20, .inl f2there)), (r2stallOf, .inl (cyI, 20, .inl f2stallOf)), (r2worth, .inl (cyI, 12, .inl f2worth)), (r2holder, .inl (cyI, 12, .inl f2holder)), (r2wishes, .inl (cyZ, 240, .inl f2wishes)), (r2mover, .inl (cyI, 12, .inl f2mover)), (r2movedFrom, .inl (cyI, 12, .inl f2movedFrom)), (r2movedTo, .inl (cyI, 12, .inl f2movedTo))] sz) := by
  refine Met.ofW (cc := cX2_depart) (maxL := 3) (ret := (some .int)) (by decide) rfl ?_
  intro p e s m args below meth c s₁ B hml hv
  obtain ⟨rfl, hsz, hP, hK, hD0, hN⟩ := hv
  have hx := B.exec
  have hb := B.bytes
  have hr := B.returns
  have hts := atoms_spec (ws := wsX2_depart) B.pre
  have hown : s.vm.findClass RX2 = some m.cls := findClass_of_methodNamed B.named
  have hlocks := B.notSynchronized
  subst hsz
  have hD := hD0.self (sz := s.heap.size)
  generalize hAe : va_A [(a2, .inr (2, [.int v2canons, .int v2present, .int v2stalls, .ref r2there, .ref r2stallOf, .ref r2worth, .ref r2holder, .ref r2wishes, .int v2moves, .ref r2mover, .ref r2movedFrom, .ref r2movedTo])), (r2there, .inl (cyZ, 20, .inl f2there)), (r2stallOf, .inl (cyI, 20, .inl f2stallOf)), (r2worth, .inl (cyI, 12, .inl f2worth)), (r2holder, .inl (cyI, 12, .inl f2holder)), (r2wishes, .inl (cyZ, 240, .inl f2wishes)), (r2mover, .inl (cyI, 12, .inl f2mover)), (r2movedFrom, .inl (cyI, 12, .inl f2movedFrom)), (r2movedTo, .inl (cyI, 12, .inl f2movedTo))] s.heap.size = A at hD ⊢
  have hA : ∀ q : Nat, s.heap.size ≤ q → A q := fun q h => by rw [← hAe]; exact Or.inr h
  have hS : va_S A s.heap s.heap [] := va_S.rf
  have hiX2 : ∀ w ∈ u_ws RX2 TX2 12, w ∈ wsX2_depart := by decide +kernel
  have lk15 := hts (.fieldLink RX2 15 "StallBook$Chapter" "present" "I") (by decide +kernel)
  have lk21 := hts (.fieldLink RX2 21 "StallBook$Chapter" "there" "[Z") (by decide +kernel)
  have lk25 := hts (.fieldLink RX2 25 "StallBook$Chapter" "stallOf" "[I") (by decide +kernel)
  have lk32 := hts (.fieldLink RX2 32 "StallBook$Chapter" "holder" "[I") (by decide +kernel)
  have lk38 := hts (.fieldLink RX2 38 "StallBook$Chapter" "moves" "I") (by decide +kernel)
  delta wp_X2_depart at h
  have hl := lv_entry [.ref a2, .int p1] (n := 3) (Nat.le_of_ble_eq_true rfl)
  rw [lg_entry_eq]
  generalize (lg_sl [.ref a2, .int p1] ++ List.replicate (3 - (lg_sl [.ref a2, .int p1]).length) Slot.unset).toArray = ls at hl ⊢
  replace hl : lv_has ls 3 [(0, .ref a2), (1, .int p1)] := hl
  refine lv_aload_n hx hb dX2_depart_0 rfl (lv_at hl 0 rfl) ?_
  refine va_get (D := (dC, dI)) (ci := 2) (v := .ref r2stallOf) (C := RX2) (T := TX2) (N := 12) hx hb hts hiX2 hown hK hP 0 rfl rfl 4 (by decide) lk25 (fun _ h9 => h9) rfl dX2_depart_1 ?_
  refine lv_iload_n hx hb dX2_depart_4 rfl (lv_at hl 1 rfl) ?_
  refine va_iald hx hb hK hP 2 0 rfl rfl h.1 dX2_depart_5 ?_
  replace h := h.2
  refine lv_topi (fun x1 ex1 => ?_)
  replace h := h x1 ex1
  refine lv_istore_n (lv' := [(2, .int x1), (0, .ref a2), (1, .int p1)]) hx hb dX2_depart_6 rfl hl (by decide) rfl (fun ls hl => ?_)
  refine lv_aload_n hx hb dX2_depart_7 rfl (lv_at hl 1 rfl) ?_
  refine va_get (D := (dC, dI)) (ci := 2) (v := .ref r2there) (C := RX2) (T := TX2) (N := 12) hx hb hts hiX2 hown hK hP 0 rfl rfl 3 (by decide) lk21 (fun _ h9 => h9) rfl dX2_depart_8 ?_
  refine lv_iload_n hx hb dX2_depart_11 rfl (lv_at hl 2 rfl) ?_
  refine lv_iconst (v := 0) hx hb dX2_depart_12 (by decide) ?_
  refine va_zast hx hb hK hP hD hS 1 1 rfl rfl h.1 dX2_depart_13 (fun H locs hP hD hS => ?_)
  replace h := h.2
  replace hP : va_P (dC, dI) vwCl [(a2, .inr (2, [.int v2canons, .int v2present, .int v2stalls, .ref r2there, .ref r2stallOf, .ref r2worth, .ref r2holder, .ref r2wishes, .int v2moves, .ref r2mover, .ref r2movedFrom, .ref r2movedTo])), (r2there, .inl (cyZ, 20, .inl (upd f2there p1.toNatClampNeg (vp_nar .boolean 0)))), (r2stallOf, .inl (cyI, 20, .inl f2stallOf)), (r2worth, .inl (cyI, 12, .inl f2worth)), (r2holder, .inl (cyI, 12, .inl f2holder)), (r2wishes, .inl (cyZ, 240, .inl f2wishes)), (r2mover, .inl (cyI, 12, .inl f2mover)), (r2movedFrom, .inl (cyI, 12, .inl f2movedFrom)), (r2movedTo, .inl (cyI, 12, .inl f2movedTo))] H := hP
  replace hD : va_D A [(a2, .inr (2, [.int v2canons, .int v2present, .int v2stalls, .ref r2there, .ref r2stallOf, .ref r2worth, .ref r2holder, .ref r2wishes, .int v2moves, .ref r2mover, .ref r2movedFrom, .ref r2movedTo])), (r2there, .inl (cyZ, 20, .inl (upd f2there p1.toNatClampNeg (vp_nar .boolean 0)))), (r2stallOf, .inl (cyI, 20, .inl f2stallOf)), (r2worth, .inl (cyI, 12, .inl f2worth)), (r2holder, .inl (cyI, 12, .inl f2holder)), (r2wishes, .inl (cyZ, 240, .inl f2wishes)), (r2mover, .inl (cyI, 12, .inl f2mover)), (r2movedFrom, .inl (cyI, 12, .inl f2movedFrom)), (r2movedTo, .inl (cyI, 12, .inl f2movedTo))] := hD
  refine lv_aload_n hx hb dX2_depart_14 rfl (lv_at hl 1 rfl) ?_
  refine lv_dup hx hb dX2_depart_15 rfl ?_
  refine va_get (D := (dC, dI)) (ci := 2) (v := .int v2present) (C := RX2) (T := TX2) (N := 12) hx hb hts hiX2 hown hK hP 0 rfl rfl 1 (by decide) lk15 (fun _ h9 => h9) rfl dX2_depart_16 ?_
  refine lv_iconst (v := 1) hx hb dX2_depart_19 (by decide) ?_
  refine lv_isub hx hb dX2_depart_20 ?_
  refine va_put (D := (dC, dI)) (ci := 2) (v := .int (v2present - 1)) (ty := .int) (C := RX2) (T := TX2) (N := 12) hx hb hts hiX2 tyX2 tyX2_ok nmX2 hown hK hP hD hS 0 rfl rfl 1 (by decide) lk15 (fun _ h9 => h9) rfl (by decide +kernel) rfl rfl (Nat.le_of_ble_eq_true rfl) dX2_depart_21 (fun H locs hP hD hS => ?_)
  replace hP : va_P (dC, dI) vwCl [(a2, .inr (2, [.int v2canons, .int (v2present - 1), .int v2stalls, .ref r2there, .ref r2stallOf, .ref r2worth, .ref r2holder, .ref r2wishes, .int v2moves, .ref r2mover, .ref r2movedFrom, .ref r2movedTo])), (r2there, .inl (cyZ, 20, .inl (upd f2there p1.toNatClampNeg (vp_nar .boolean 0)))), (r2stallOf, .inl (cyI, 20, .inl f2stallOf)), (r2worth, .inl (cyI, 12, .inl f2worth)), (r2holder, .inl (cyI, 12, .inl f2holder)), (r2wishes, .inl (cyZ, 240, .inl f2wishes)), (r2mover, .inl (cyI, 12, .inl f2mover)), (r2movedFrom, .inl (cyI, 12, .inl f2movedFrom)), (r2movedTo, .inl (cyI, 12, .inl f2movedTo))] H := hP
  replace hD : va_D A [(a2, .inr (2, [.int v2canons, .int (v2present - 1), .int v2stalls, .ref r2there, .ref r2stallOf, .ref r2worth, .ref r2holder, .ref r2wishes, .int v2moves, .ref r2mover, .ref r2movedFrom, .ref r2movedTo])), (r2there, .inl (cyZ, 20, .inl (upd f2there p1.toNatClampNeg (vp_nar .boolean 0)))), (r2stallOf, .inl (cyI, 20, .inl f2stallOf)), (r2worth, .inl (cyI, 12, .inl f2worth)), (r2holder, .inl (cyI, 12, .inl f2holder)), (r2wishes, .inl (cyZ, 240, .inl f2wishes)), (r2mover, .inl (cyI, 12, .inl f2mover)), (r2movedFrom, .inl (cyI, 12, .inl f2movedFrom)), (r2movedTo, .inl (cyI, 12, .inl f2movedTo))] := hD
  refine lv_aload_n hx hb dX2_depart_24 rfl (lv_at hl 1 rfl) ?_
  refine va_get (D := (dC, dI)) (ci := 2) (v := .ref r2stallOf) (C := RX2) (T := TX2) (N := 12) hx hb hts hiX2 hown hK hP 0 rfl rfl 4 (by decide) lk25 (fun _ h9 => h9) rfl dX2_depart_25 ?_
  refine lv_iload_n hx hb dX2_depart_28 rfl (lv_at hl 2 rfl) ?_
  refine lv_iconst (v := (-1)) hx hb dX2_depart_29 (by decide) ?_
  refine va_iast hx hb hK hP hD hS 2 0 rfl rfl h.1 dX2_depart_30 (fun H locs hP hD hS => ?_)
  replace h := h.2
  replace hP : va_P (dC, dI) vwCl [(a2, .inr (2, [.int v2canons, .int (v2present - 1), .int v2stalls, .ref r2there, .ref r2stallOf, .ref r2worth, .ref r2holder, .ref r2wishes, .int v2moves, .ref r2mover, .ref r2movedFrom, .ref r2movedTo])), (r2there, .inl (cyZ, 20, .inl (upd f2there p1.toNatClampNeg (vp_nar .boolean 0)))), (r2stallOf, .inl (cyI, 20, .inl (upd f2stallOf p1.toNatClampNeg (-1)))), (r2worth, .inl (cyI, 12, .inl f2worth)), (r2holder, .inl (cyI, 12, .inl f2holder)), (r2wishes, .inl (cyZ, 240, .inl f2wishes)), (r2mover, .inl (cyI, 12, .inl f2mover)), (r2movedFrom, .inl (cyI, 12, .inl f2movedFrom)), (r2movedTo, .inl (cyI, 12, .inl f2movedTo))] H := hP
  replace hD : va_D A [(a2, .inr (2, [.int v2canons, .int (v2present - 1), .int v2stalls, .ref r2there, .ref r2stallOf, .ref r2worth, .ref r2holder, .ref r2wishes, .int v2moves, .ref r2mover, .ref r2movedFrom, .ref r2movedTo])), (r2there, .inl (cyZ, 20, .inl (upd f2there p1.toNatClampNeg (vp_nar .boolean 0)))), (r2stallOf, .inl (cyI, 20, .inl (upd f2stallOf p1.toNatClampNeg (-1)))), (r2worth, .inl (cyI, 12, .inl f2worth)), (r2holder, .inl (cyI, 12, .inl f2holder)), (r2wishes, .inl (cyZ, 240, .inl f2wishes)), (r2mover, .inl (cyI, 12, .inl f2mover)), (r2movedFrom, .inl (cyI, 12, .inl f2movedFrom)), (r2movedTo, .inl (cyI, 12, .inl f2movedTo))] := hD
  refine lv_iload_n hx hb dX2_depart_31 rfl (lv_at hl 0 rfl) ?_
  refine lv_iconst (v := (-1)) hx hb dX2_depart_32 (by decide) ?_
  refine lv_icmp_eq (tgt := 43) hx hb dX2_depart_33 (by decide) (fun c => ?_) (fun c => ?_)
  · replace h := h.1 c
    refine lv_aload_n hx hb dX2_depart_43 rfl (lv_at hl 1 rfl) ?_
    refine lv_iload_n hx hb dX2_depart_44 rfl (lv_at hl 0 rfl) ?_
    refine mc_v hP hD hS hA [0, 1, 2, 3, 4, 5, 6, 7, 8] [] [0, 1, 2, 3, 4, 5, 6, 7, 8] [] (fun (u3 : (Nat → Int32) × (Nat → Int32) × Int32 × (Nat → Int32) × (Nat → Int32) × (Nat → Int32)) => [(a2, .inr (2, [.int v2canons, .int (v2present - 1), .int v2stalls, .ref r2there, .ref r2stallOf, .ref r2worth, .ref r2holder, .ref r2wishes, .int u3.2.2.1, .ref r2mover, .ref r2movedFrom, .ref r2movedTo])), (r2there, .inl (cyZ, 20, .inl (upd f2there p1.toNatClampNeg (vp_nar .boolean 0)))), (r2stallOf, .inl (cyI, 20, .inl u3.1)), (r2worth, .inl (cyI, 12, .inl f2worth)), (r2holder, .inl (cyI, 12, .inl u3.2.1)), (r2wishes, .inl (cyZ, 240, .inl f2wishes)), (r2mover, .inl (cyI, 12, .inl u3.2.2.2.1)), (r2movedFrom, .inl (cyI, 12, .inl u3.2.2.2.2.1)), (r2movedTo, .inl (cyI, 12, .inl u3.2.2.2.2.2))]) rfl rfl (by decide) (by decide) (by decide) (fun _ => rfl) (fun _ => rfl) (va_runV (As := [.int x1]) (rest := []) ⟨hx, hb, hml, hown, hts⟩ (c_X2_fall l dC dI cyI cyZ cyB a2 r2there r2stallOf r2worth r2holder r2wishes r2mover r2movedFrom r2movedTo H.size v2canons (v2present - 1) v2stalls v2moves (upd f2there p1.toNatClampNeg (vp_nar .boolean 0)) (upd f2stallOf p1.toNatClampNeg (-1)) f2worth f2holder f2wishes f2mover f2movedFrom f2movedTo x1 _ h) (cwV 1 hts gX2_depart_X2_fall rfl rfl rfl (by decide +kernel) ⟨Nat.le_of_ble_eq_true rfl, Nat.le_of_ble_eq_true rfl⟩) ⟨MPre_blind, va_recv hK hP (ci := 2) (q0 := 0) rfl rfl, MPre_here [0, 1, 2, 3, 4, 5, 6, 7, 8] hP hD hK hN (by decide) rfl rfl⟩ rfl rfl hl.1 rfl (lv_room (Nat.le_of_ble_eq_true rfl)) dX2_depart_45 ⟨Nat.zero_le _, Nat.zero_le _⟩) (fun u3 H locs h hP hD hS => ?_)
    replace hP : va_P (dC, dI) vwCl [(a2, .inr (2, [.int v2canons, .int (v2present - 1), .int v2stalls, .ref r2there, .ref r2stallOf, .ref r2worth, .ref r2holder, .ref r2wishes, .int u3.2.2.1, .ref r2mover, .ref r2movedFrom, .ref r2movedTo])), (r2there, .inl (cyZ, 20, .inl (upd f2there p1.toNatClampNeg (vp_nar .boolean 0)))), (r2stallOf, .inl (cyI, 20, .inl u3.1)), (r2worth, .inl (cyI, 12, .inl f2worth)), (r2holder, .inl (cyI, 12, .inl u3.2.1)), (r2wishes, .inl (cyZ, 240, .inl f2wishes)), (r2mover, .inl (cyI, 12, .inl u3.2.2.2.1)), (r2movedFrom, .inl (cyI, 12, .inl u3.2.2.2.2.1)), (r2movedTo, .inl (cyI, 12, .inl u3.2.2.2.2.2))] H := hP
    replace hD : va_D A [(a2, .inr (2, [.int v2canons, .int (v2present - 1), .int v2stalls, .ref r2there, .ref r2stallOf, .ref r2worth, .ref r2holder, .ref r2wishes, .int u3.2.2.1, .ref r2mover, .ref r2movedFrom, .ref r2movedTo])), (r2there, .inl (cyZ, 20, .inl (upd f2there p1.toNatClampNeg (vp_nar .boolean 0)))), (r2stallOf, .inl (cyI, 20, .inl u3.1)), (r2worth, .inl (cyI, 12, .inl f2worth)), (r2holder, .inl (cyI, 12, .inl u3.2.1)), (r2wishes, .inl (cyZ, 240, .inl f2wishes)), (r2mover, .inl (cyI, 12, .inl u3.2.2.2.1)), (r2movedFrom, .inl (cyI, 12, .inl u3.2.2.2.2.1)), (r2movedTo, .inl (cyI, 12, .inl u3.2.2.2.2.2))] := hD
    refine lv_aload_n hx hb dX2_depart_48 rfl (lv_at hl 1 rfl) ?_
    refine va_get (D := (dC, dI)) (ci := 2) (v := .int u3.2.2.1) (C := RX2) (T := TX2) (N := 12) hx hb hts hiX2 hown hK hP 0 rfl rfl 8 (by decide) lk38 (fun _ h9 => h9) rfl dX2_depart_49 ?_
    exact W.iret (v := u3.2.2.1) hx hb hr (fun t ht hW => ⟨⟨u3.2.2.1, ((v2present - 1), (upd f2there p1.toNatClampNeg (vp_nar .boolean 0)), u3.1, u3.2.1, u3.2.2.1, u3.2.2.2.1, u3.2.2.2.2.1, u3.2.2.2.2.2), rfl, h, by rw [ht]; exact hP, hD⟩, hS.F ht⟩) hS.2.2 dX2_depart_52
  · replace h := h.2 c
    refine lv_aload_n hx hb dX2_depart_36 rfl (lv_at hl 1 rfl) ?_
    refine va_get (D := (dC, dI)) (ci := 2) (v := .ref r2holder) (C := RX2) (T := TX2) (N := 12) hx hb hts hiX2 hown hK hP 0 rfl rfl 6 (by decide) lk32 (fun _ h9 => h9) rfl dX2_depart_37 ?_
    refine lv_iload_n hx hb dX2_depart_40 rfl (lv_at hl 0 rfl) ?_
    refine lv_iconst (v := (-1)) hx hb dX2_depart_41 (by decide) ?_
    refine va_iast hx hb hK hP hD hS 4 0 rfl rfl h.1 dX2_depart_42 (fun H locs hP hD hS => ?_)
    replace h := h.2
    replace hP : va_P (dC, dI) vwCl [(a2, .inr (2, [.int v2canons, .int (v2present - 1), .int v2stalls, .ref r2there, .ref r2stallOf, .ref r2worth, .ref r2holder, .ref r2wishes, .int v2moves, .ref r2mover, .ref r2movedFrom, .ref r2movedTo])), (r2there, .inl (cyZ, 20, .inl (upd f2there p1.toNatClampNeg (vp_nar .boolean 0)))), (r2stallOf, .inl (cyI, 20, .inl (upd f2stallOf p1.toNatClampNeg (-1)))), (r2worth, .inl (cyI, 12, .inl f2worth)), (r2holder, .inl (cyI, 12, .inl (upd f2holder x1.toNatClampNeg (-1)))), (r2wishes, .inl (cyZ, 240, .inl f2wishes)), (r2mover, .inl (cyI, 12, .inl f2mover)), (r2movedFrom, .inl (cyI, 12, .inl f2movedFrom)), (r2movedTo, .inl (cyI, 12, .inl f2movedTo))] H := hP
    replace hD : va_D A [(a2, .inr (2, [.int v2canons, .int (v2present - 1), .int v2stalls, .ref r2there, .ref r2stallOf, .ref r2worth, .ref r2holder, .ref r2wishes, .int v2moves, .ref r2mover, .ref r2movedFrom, .ref r2movedTo])), (r2there, .inl (cyZ, 20, .inl (upd f2there p1.toNatClampNeg (vp_nar .boolean 0)))), (r2stallOf, .inl (cyI, 20, .inl (upd f2stallOf p1.toNatClampNeg (-1)))), (r2worth, .inl (cyI, 12, .inl f2worth)), (r2holder, .inl (cyI, 12, .inl (upd f2holder x1.toNatClampNeg (-1)))), (r2wishes, .inl (cyZ, 240, .inl f2wishes)), (r2mover, .inl (cyI, 12, .inl f2mover)), (r2movedFrom, .inl (cyI, 12, .inl f2movedFrom)), (r2movedTo, .inl (cyI, 12, .inl f2movedTo))] := hD
    refine lv_aload_n hx hb dX2_depart_43 rfl (lv_at hl 1 rfl) ?_
    refine lv_iload_n hx hb dX2_depart_44 rfl (lv_at hl 0 rfl) ?_
    refine mc_v hP hD hS hA [0, 1, 2, 3, 4, 5, 6, 7, 8] [] [0, 1, 2, 3, 4, 5, 6, 7, 8] [] (fun (u5 : (Nat → Int32) × (Nat → Int32) × Int32 × (Nat → Int32) × (Nat → Int32) × (Nat → Int32)) => [(a2, .inr (2, [.int v2canons, .int (v2present - 1), .int v2stalls, .ref r2there, .ref r2stallOf, .ref r2worth, .ref r2holder, .ref r2wishes, .int u5.2.2.1, .ref r2mover, .ref r2movedFrom, .ref r2movedTo])), (r2there, .inl (cyZ, 20, .inl (upd f2there p1.toNatClampNeg (vp_nar .boolean 0)))), (r2stallOf, .inl (cyI, 20, .inl u5.1)), (r2worth, .inl (cyI, 12, .inl f2worth)), (r2holder, .inl (cyI, 12, .inl u5.2.1)), (r2wishes, .inl (cyZ, 240, .inl f2wishes)), (r2mover, .inl (cyI, 12, .inl u5.2.2.2.1)), (r2movedFrom, .inl (cyI, 12, .inl u5.2.2.2.2.1)), (r2movedTo, .inl (cyI, 12, .inl u5.2.2.2.2.2))]) rfl rfl (by decide) (by decide) (by decide) (fun _ => rfl) (fun _ => rfl) (va_runV (As := [.int x1]) (rest := []) ⟨hx, hb, hml, hown, hts⟩ (c_X2_fall l dC dI cyI cyZ cyB a2 r2there r2stallOf r2worth r2holder r2wishes r2mover r2movedFrom r2movedTo H.size v2canons (v2present - 1) v2stalls v2moves (upd f2there p1.toNatClampNeg (vp_nar .boolean 0)) (upd f2stallOf p1.toNatClampNeg (-1)) f2worth (upd f2holder x1.toNatClampNeg (-1)) f2wishes f2mover f2movedFrom f2movedTo x1 _ h) (cwV 1 hts gX2_depart_X2_fall rfl rfl rfl (by decide +kernel) ⟨Nat.le_of_ble_eq_true rfl, Nat.le_of_ble_eq_true rfl⟩) ⟨MPre_blind, va_recv hK hP (ci := 2) (q0 := 0) rfl rfl, MPre_here [0, 1, 2, 3, 4, 5, 6, 7, 8] hP hD hK hN (by decide) rfl rfl⟩ rfl rfl hl.1 rfl (lv_room (Nat.le_of_ble_eq_true rfl)) dX2_depart_45 ⟨Nat.zero_le _, Nat.zero_le _⟩) (fun u5 H locs h hP hD hS => ?_)
    replace hP : va_P (dC, dI) vwCl [(a2, .inr (2, [.int v2canons, .int (v2present - 1), .int v2stalls, .ref r2there, .ref r2stallOf, .ref r2worth, .ref r2holder, .ref r2wishes, .int u5.2.2.1, .ref r2mover, .ref r2movedFrom, .ref r2movedTo])), (r2there, .inl (cyZ, 20, .inl (upd f2there p1.toNatClampNeg (vp_nar .boolean 0)))), (r2stallOf, .inl (cyI, 20, .inl u5.1)), (r2worth, .inl (cyI, 12, .inl f2worth)), (r2holder, .inl (cyI, 12, .inl u5.2.1)), (r2wishes, .inl (cyZ, 240, .inl f2wishes)), (r2mover, .inl (cyI, 12, .inl u5.2.2.2.1)), (r2movedFrom, .inl (cyI, 12, .inl u5.2.2.2.2.1)), (r2movedTo, .inl (cyI, 12, .inl u5.2.2.2.2.2))] H := hP
    replace hD : va_D A [(a2, .inr (2, [.int v2canons, .int (v2present - 1), .int v2stalls, .ref r2there, .ref r2stallOf, .ref r2worth, .ref r2holder, .ref r2wishes, .int u5.2.2.1, .ref r2mover, .ref r2movedFrom, .ref r2movedTo])), (r2there, .inl (cyZ, 20, .inl (upd f2there p1.toNatClampNeg (vp_nar .boolean 0)))), (r2stallOf, .inl (cyI, 20, .inl u5.1)), (r2worth, .inl (cyI, 12, .inl f2worth)), (r2holder, .inl (cyI, 12, .inl u5.2.1)), (r2wishes, .inl (cyZ, 240, .inl f2wishes)), (r2mover, .inl (cyI, 12, .inl u5.2.2.2.1)), (r2movedFrom, .inl (cyI, 12, .inl u5.2.2.2.2.1)), (r2movedTo, .inl (cyI, 12, .inl u5.2.2.2.2.2))] := hD
    refine lv_aload_n hx hb dX2_depart_48 rfl (lv_at hl 1 rfl) ?_
    refine va_get (D := (dC, dI)) (ci := 2) (v := .int u5.2.2.1) (C := RX2) (T := TX2) (N := 12) hx hb hts hiX2 hown hK hP 0 rfl rfl 8 (by decide) lk38 (fun _ h9 => h9) rfl dX2_depart_49 ?_
    exact W.iret (v := u5.2.2.1) hx hb hr (fun t ht hW => ⟨⟨u5.2.2.1, ((v2present - 1), (upd f2there p1.toNatClampNeg (vp_nar .boolean 0)), u5.1, u5.2.1, u5.2.2.1, u5.2.2.2.1, u5.2.2.2.2.1, u5.2.2.2.2.2), rfl, h, by rw [ht]; exact hP, hD⟩, hS.F ht⟩) hS.2.2 dX2_depart_52
def wp_X2_tellMove (p1 : Int32) (p2 : Int32) (v2moves : Int32) (f2mover : Nat → Int32) (f2movedFrom : Nat → Int32) (f2movedTo : Nat → Int32) (Post : Int32 → Unit → Prop) : Prop := (((p1 < 0) → (Post (-1) ())) ∧ ((¬ p1 < 0) → (((p1 < v2moves) → (((p2 = 0) → (vp_in p1 12 ∧ (Post (f2mover p1.toNatClampNeg) ()))) ∧ ((¬ p2 = 0) → (((p2 = 1) → (vp_in p1 12 ∧ (Post (f2movedFrom p1.toNatClampNeg) ()))) ∧ ((¬ p2 = 1) → (((p2 = 2) → (vp_in p1 12 ∧ (Post (f2movedTo p1.toNatClampNeg) ()))) ∧ ((¬ p2 = 2) → (Post (-1) ())))))))) ∧ ((¬ p1 < v2moves) → (Post (-1) ())))))
set_option maxHeartbeats 4000000 in
set_option maxRecDepth 100000 in
theorem c_X2_tellMove (l : Launch) (dC : Nat → ClassId) (dI : Nat → Nat → Nat) (cyI cyZ cyB : ClassId) (a2 : Nat) (r2there : Nat) (r2stallOf : Nat) (r2worth : Nat) (r2holder : Nat) (r2wishes : Nat) (r2mover : Nat) (r2movedFrom : Nat) (r2movedTo : Nat) (sz : Nat) (v2canons : Int32) (v2present : Int32) (v2stalls : Int32) (v2moves : Int32) (f2mover : Nat → Int32) (f2movedFrom : Nat → Int32) (f2movedTo : Nat → Int32) (p1 : Int32) (p2 : Int32) (Post : Int32 → Unit → Prop) (h : wp_X2_tellMove p1 p2 v2moves f2mover f2movedFrom f2movedTo Post) : Met l yX2_tellMove wsX2_tellMove ({ frames := 0, cells := 0, slots := 0, locals := 0 } : Room) (MPre (dC, dI) [(cyI, .int), (cyZ, .boolean), (cyB, .byte)] [.ref a2, .int p1, .int p2] sz [(a2, .inr (2, [.int v2canons, .int v2present, .int v2stalls, .ref r2there, .ref r2stallOf, .ref r2worth, .ref r2holder, .ref r2wishes, .int v2moves, .ref r2mover, .ref r2movedFrom, .ref r2movedTo])), (r2mover, .inl (cyI, 12, .inl f2mover)), (r2movedFrom, .inl (cyI, 12, .inl f2movedFrom)), (r2movedTo, .inl (cyI, 12, .inl f2movedTo))]) (va_Qi Post (fun (u : Unit) (t : State) => va_P (dC, dI) vwCl [(a2, .inr (2, [.int v2canons, .int v2present, .int v2stalls, .ref r2there, .ref r2stallOf, .ref r2worth, .ref r2holder, .ref r2wishes, .int v2moves, .ref r2mover, .ref r2movedFrom, .ref r2movedTo])), (r2mover, .inl (cyI, 12, .inl f2mover)), (r2movedFrom, .inl (cyI, 12, .inl f2movedFrom)), (r2movedTo, .inl (cyI, 12, .inl f2movedTo))] t.heap ∧ va_D (va_A [(a2, .inr (2, [.int v2canons, .int v2present, .int v2stalls, .ref r2there, .ref r2stallOf, .ref r2worth, .ref r2holder, .ref r2wishes, .int v2moves, .ref r2mover, .ref r2movedFrom, .ref r2movedTo])), (r2mover, .inl (cyI, 12, .inl f2mover)), (r2movedFrom, .inl (cyI, 12, .inl f2movedFrom)), (r2movedTo, .inl (cyI, 12, .inl f2movedTo))] sz) [(a2, .inr (2, [.int v2canons, .int v2present, .int v2stalls, .ref r2there, .ref r2stallOf, .ref r2worth, .ref r2holder, .ref r2wishes, .int v2moves, .ref r2mover, .ref r2movedFrom, .ref r2movedTo])), (r2mover, .inl (cyI, 12, .inl f2mover)), (r2movedFrom, .inl (cyI, 12, .inl f2movedFrom)), (r2movedTo, .inl (cyI, 12, .inl f2movedTo))]) (va_A [(a2, .inr (2, [.int v2canons, .int v2present, .int v2stalls, .ref r2there, .ref r2stallOf, .ref r2worth, .ref r2holder, .ref r2wishes, .int v2moves, .ref r2mover, .ref r2movedFrom, .ref r2movedTo])), (r2mover, .inl (cyI, 12, .inl f2mover)), (r2movedFrom, .inl (cyI, 12, .inl f2movedFrom)), (r2movedTo, .inl (cyI, 12, .inl f2movedTo))] sz)) 0 0 (va_A [(a2, .inr (2, [.int v2canons, .int v2present, .int v2stalls, .ref r2there, .ref r2stallOf, .ref r2worth, .ref r2holder, .ref r2wishes, .int v2moves, .ref r2mover, .ref r2movedFrom, .ref r2movedTo])), (r2mover, .inl (cyI, 12, .inl f2mover)), (r2movedFrom, .inl (cyI, 12, .inl f2movedFrom)), (r2movedTo, .inl (cyI, 12, .inl f2movedTo))] sz) := by
  refine Met.ofW (cc := cX2_tellMove) (maxL := 3) (ret := (some .int)) (by decide) rfl ?_
  intro p e s m args below meth c s₁ B hml hv
  obtain ⟨rfl, hsz, hP, hK, hD0, hN⟩ := hv
  have hx := B.exec
  have hb := B.bytes
  have hr := B.returns
  have hts := atoms_spec (ws := wsX2_tellMove) B.pre
  have hown : s.vm.findClass RX2 = some m.cls := findClass_of_methodNamed B.named
  have hlocks := B.notSynchronized
  subst hsz
  have hD := hD0.self (sz := s.heap.size)
  generalize hAe : va_A [(a2, .inr (2, [.int v2canons, .int v2present, .int v2stalls, .ref r2there, .ref r2stallOf, .ref r2worth, .ref r2holder, .ref r2wishes, .int v2moves, .ref r2mover, .ref r2movedFrom, .ref r2movedTo])), (r2mover, .inl (cyI, 12, .inl f2mover)), (r2movedFrom, .inl (cyI, 12, .inl f2movedFrom)), (r2movedTo, .inl (cyI, 12, .inl f2movedTo))] s.heap.size = A at hD ⊢
  have hA : ∀ q : Nat, s.heap.size ≤ q → A q := fun q h => by rw [← hAe]; exact Or.inr h
  have hS : va_S A s.heap s.heap [] := va_S.rf
  have hiX2 : ∀ w ∈ u_ws RX2 TX2 12, w ∈ wsX2_tellMove := by decide +kernel
  have lk38 := hts (.fieldLink RX2 38 "StallBook$Chapter" "moves" "I") (by decide +kernel)
  have lk41 := hts (.fieldLink RX2 41 "StallBook$Chapter" "mover" "[I") (by decide +kernel)
  have lk44 := hts (.fieldLink RX2 44 "StallBook$Chapter" "movedFrom" "[I") (by decide +kernel)
  have lk47 := hts (.fieldLink RX2 47 "StallBook$Chapter" "movedTo" "[I") (by decide +kernel)
  delta wp_X2_tellMove at h
  have hl := lv_entry [.ref a2, .int p1, .int p2] (n := 3) (Nat.le_of_ble_eq_true rfl)
  rw [lg_entry_eq]
  generalize (lg_sl [.ref a2, .int p1, .int p2] ++ List.replicate (3 - (lg_sl [.ref a2, .int p1, .int p2]).length) Slot.unset).toArray = ls at hl ⊢
  replace hl : lv_has ls 3 [(0, .ref a2), (1, .int p1), (2, .int p2)] := hl
  refine lv_iload_n hx hb dX2_tellMove_0 rfl (lv_at hl 1 rfl) ?_
  refine lv_if_lt (tgt := 12) hx hb dX2_tellMove_1 (by decide) (fun c => ?_) (fun c => ?_)
  · replace h := h.1 c
    refine lv_iconst (v := (-1)) hx hb dX2_tellMove_12 (by decide) ?_
    exact W.iret (v := (-1)) hx hb hr (fun t ht hW => ⟨⟨(-1), (), rfl, h, by rw [ht]; exact hP, hD⟩, hS.F ht⟩) hS.2.2 dX2_tellMove_13
  · replace h := h.2 c
    refine lv_iload_n hx hb dX2_tellMove_4 rfl (lv_at hl 1 rfl) ?_
    refine lv_aload_n hx hb dX2_tellMove_5 rfl (lv_at hl 0 rfl) ?_
    refine va_get (D := (dC, dI)) (ci := 2) (v := .int v2moves) (C := RX2) (T := TX2) (N := 12) hx hb hts hiX2 hown hK hP 0 rfl rfl 8 (by decide) lk38 (fun _ h9 => h9) rfl dX2_tellMove_6 ?_
    refine lv_icmp_lt (tgt := 14) hx hb dX2_tellMove_9 (by decide) (fun c => ?_) (fun c => ?_)
    · replace h := h.1 c
      refine lv_iload_n hx hb dX2_tellMove_14 rfl (lv_at hl 2 rfl) ?_
      by_cases c0 : p2 = 0
      · replace h := h.1 c0
        refine lv_tableIn (off := 25) (tgt := 40) hx hb dX2_tellMove_15 (by rw [c0]; decide) (by rw [c0]; decide) (by rw [c0]; rfl) (by decide) ?_
        refine lv_aload_n hx hb dX2_tellMove_40 rfl (lv_at hl 0 rfl) ?_
        refine va_get (D := (dC, dI)) (ci := 2) (v := .ref r2mover) (C := RX2) (T := TX2) (N := 12) hx hb hts hiX2 hown hK hP 0 rfl rfl 9 (by decide) lk41 (fun _ h9 => h9) rfl dX2_tellMove_41 ?_
        refine lv_iload_n hx hb dX2_tellMove_44 rfl (lv_at hl 1 rfl) ?_
        refine va_iald hx hb hK hP 1 0 rfl rfl h.1 dX2_tellMove_45 ?_
        replace h := h.2
        exact W.iret (v := (f2mover p1.toNatClampNeg)) hx hb hr (fun t ht hW => ⟨⟨(f2mover p1.toNatClampNeg), (), rfl, h, by rw [ht]; exact hP, hD⟩, hS.F ht⟩) hS.2.2 dX2_tellMove_46
      replace h := h.2 c0
      by_cases c1 : p2 = 1
      · replace h := h.1 c1
        refine lv_tableIn (off := 32) (tgt := 47) hx hb dX2_tellMove_15 (by rw [c1]; decide) (by rw [c1]; decide) (by rw [c1]; rfl) (by decide) ?_
        refine lv_aload_n hx hb dX2_tellMove_47 rfl (lv_at hl 0 rfl) ?_
        refine va_get (D := (dC, dI)) (ci := 2) (v := .ref r2movedFrom) (C := RX2) (T := TX2) (N := 12) hx hb hts hiX2 hown hK hP 0 rfl rfl 10 (by decide) lk44 (fun _ h9 => h9) rfl dX2_tellMove_48 ?_
        refine lv_iload_n hx hb dX2_tellMove_51 rfl (lv_at hl 1 rfl) ?_
        refine va_iald hx hb hK hP 2 0 rfl rfl h.1 dX2_tellMove_52 ?_
        replace h := h.2
        exact W.iret (v := (f2movedFrom p1.toNatClampNeg)) hx hb hr (fun t ht hW => ⟨⟨(f2movedFrom p1.toNatClampNeg), (), rfl, h, by rw [ht]; exact hP, hD⟩, hS.F ht⟩) hS.2.2 dX2_tellMove_53
      replace h := h.2 c1
      by_cases c2 : p2 = 2
      · replace h := h.1 c2
        refine lv_tableIn (off := 39) (tgt := 54) hx hb dX2_tellMove_15 (by rw [c2]; decide) (by rw [c2]; decide) (by rw [c2]; rfl) (by decide) ?_
        refine lv_aload_n hx hb dX2_tellMove_54 rfl (lv_at hl 0 rfl) ?_
        refine va_get (D := (dC, dI)) (ci := 2) (v := .ref r2movedTo) (C := RX2) (T := TX2) (N := 12) hx hb hts hiX2 hown hK hP 0 rfl rfl 11 (by decide) lk47 (fun _ h9 => h9) rfl dX2_tellMove_55 ?_
        refine lv_iload_n hx hb dX2_tellMove_58 rfl (lv_at hl 1 rfl) ?_
        refine va_iald hx hb hK hP 3 0 rfl rfl h.1 dX2_tellMove_59 ?_
        replace h := h.2
        exact W.iret (v := (f2movedTo p1.toNatClampNeg)) hx hb hr (fun t ht hW => ⟨⟨(f2movedTo p1.toNatClampNeg), (), rfl, h, by rw [ht]; exact hP, hD⟩, hS.F ht⟩) hS.2.2 dX2_tellMove_60
      replace h := h.2 c2
      refine lv_tableOut (tgt := 61) hx hb dX2_tellMove_15 (sw_out 2 (by decide) (fun k hk => by rcases (show k = 0 ∨ k = 1 ∨ k = 2 by omega) with rfl | rfl | rfl <;> assumption)) (by decide) ?_
      refine lv_iconst (v := (-1)) hx hb dX2_tellMove_61 (by decide) ?_
      exact W.iret (v := (-1)) hx hb hr (fun t ht hW => ⟨⟨(-1), (), rfl, h, by rw [ht]; exact hP, hD⟩, hS.F ht⟩) hS.2.2 dX2_tellMove_62
    · replace h := h.2 c
      refine lv_iconst (v := (-1)) hx hb dX2_tellMove_12 (by decide) ?_
      exact W.iret (v := (-1)) hx hb hr (fun t ht hW => ⟨⟨(-1), (), rfl, h, by rw [ht]; exact hP, hD⟩, hS.F ht⟩) hS.2.2 dX2_tellMove_13
