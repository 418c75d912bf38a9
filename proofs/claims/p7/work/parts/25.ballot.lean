def wp_X1_begin (v1isOpen : Int32) (v1wasAny : Int32) (f1castAs : Nat → Int32) (f1givenTo : Nat → Int32) (Post : Int32 × Int32 × (Nat → Int32) × (Nat → Int32) → Prop) : Prop := (wp_J7_fill_53178 0 20 f1castAs (fun (u2 : (Nat → Int32)) => (wp_J7_fill_53178 (-1) 20 f1givenTo (fun (u4 : (Nat → Int32)) => (Post (1, 1, u2, u4))))))
set_option maxHeartbeats 4000000 in
set_option maxRecDepth 100000 in
theorem c_X1_begin (l : Launch) (dC : Nat → ClassId) (dI : Nat → Nat → Nat) (cyI cyZ cyB : ClassId) (a1 : Nat) (a2 : Nat) (r1castAs : Nat) (r1givenTo : Nat) (sz : Nat) (v1isOpen : Int32) (v1wasAny : Int32) (v1ayes : Int32) (v1noes : Int32) (v1silent : Int32) (f1castAs : Nat → Int32) (f1givenTo : Nat → Int32)  (Post : Int32 × Int32 × (Nat → Int32) × (Nat → Int32) → Prop) (h : wp_X1_begin v1isOpen v1wasAny f1castAs f1givenTo Post) : Met l yX1_begin wsX1_begin ({ frames := 1, cells := 0, slots := 0, locals := 23 } : Room) (MPre (dC, dI) [(cyI, .int), (cyZ, .boolean), (cyB, .byte)] [.ref a1] sz [(a1, .inr (1, [.ref a2, .int v1isOpen, .int v1wasAny, .ref r1castAs, .ref r1givenTo, .int v1ayes, .int v1noes, .int v1silent])), (r1castAs, .inl (cyI, 20, .inl f1castAs)), (r1givenTo, .inl (cyI, 20, .inl f1givenTo))]) (va_Qv Post (fun (u : Int32 × Int32 × (Nat → Int32) × (Nat → Int32)) (t : State) => va_P (dC, dI) vwCl [(a1, .inr (1, [.ref a2, .int u.1, .int u.2.1, .ref r1castAs, .ref r1givenTo, .int v1ayes, .int v1noes, .int v1silent])), (r1castAs, .inl (cyI, 20, .inl u.2.2.1)), (r1givenTo, .inl (cyI, 20, .inl u.2.2.2))] t.heap ∧ va_D (va_A [(a1, .inr (1, [.ref a2, .int v1isOpen, .int v1wasAny, .ref r1castAs, .ref r1givenTo, .int v1ayes, .int v1noes, .int v1silent])), (r1castAs, .inl (cyI, 20, .inl f1castAs)), (r1givenTo, .inl (cyI, 20, .inl f1givenTo))] sz) [(a1, .inr (1, [.ref a2, .int u.1, .int u.2.1, .ref r1castAs, .ref r1givenTo, .int v1ayes, .int v1noes, .int v1silent])), (r1castAs, .inl (cyI, 20, .inl u.2.2.1)), (r1givenTo, .inl (cyI, 20, .inl u.2.2.2))]) (va_A [(a1, .inr (1, [.ref a2, .int v1isOpen, .int v1wasAny, .ref r1castAs, .ref r1givenTo, .int v1ayes, .int v1noes, .int v1silent])), (r1castAs, .inl (cyI, 20, .inl f1castAs)), (r1givenTo, .inl (cyI, 20, .inl f1givenTo))] sz)) 0 0 (va_A [(a1, .inr (1, [.ref a2, .int v1isOpen, .int v1wasAny, .ref r1castAs, .ref r1givenTo, .int v1ayes, .int v1noes, .int v1silent])), (r1castAs, .inl (cyI, 20, .inl f1castAs)), (r1givenTo, .inl (cyI, 20, .inl f1givenTo))] sz) := by
  refine Met.ofW (cc := cX1_begin) (maxL := 1) (ret := none) (by decide) rfl ?_
  intro p e s m args below meth c s₁ B hml hv
  obtain ⟨rfl, hsz, hP, hK, hD0, hN⟩ := hv
  have hx := B.exec
  have hb := B.bytes
  have hr := B.returns
  have hts := atoms_spec (ws := wsX1_begin) B.pre
  have hown : s.vm.findClass RX1 = some m.cls := findClass_of_methodNamed B.named
  have hlocks := B.notSynchronized
  subst hsz
  have hD := hD0.self (sz := s.heap.size)
  generalize hAe : va_A [(a1, .inr (1, [.ref a2, .int v1isOpen, .int v1wasAny, .ref r1castAs, .ref r1givenTo, .int v1ayes, .int v1noes, .int v1silent])), (r1castAs, .inl (cyI, 20, .inl f1castAs)), (r1givenTo, .inl (cyI, 20, .inl f1givenTo))] s.heap.size = A at hD ⊢
  have hA : ∀ q : Nat, s.heap.size ≤ q → A q := fun q h => by rw [← hAe]; exact Or.inr h
  have hS : va_S A s.heap s.heap [] := va_S.rf
  have hiX1 : ∀ w ∈ u_ws RX1 TX1 8, w ∈ wsX1_begin := by decide +kernel
  have lk9 := hts (.fieldLink RX1 9 "StallBook$Ballot" "isOpen" "Z") (by decide +kernel)
  have lk15 := hts (.fieldLink RX1 15 "StallBook$Ballot" "wasAny" "Z") (by decide +kernel)
  have lk18 := hts (.fieldLink RX1 18 "StallBook$Ballot" "castAs" "[I") (by decide +kernel)
  have lk22 := hts (.fieldLink RX1 22 "StallBook$Ballot" "givenTo" "[I") (by decide +kernel)
  delta wp_X1_begin at h
  have hl := lv_entry [.ref a1] (n := 1) (Nat.le_of_ble_eq_true rfl)
  rw [lg_entry_eq]
  generalize (lg_sl [.ref a1] ++ List.replicate (1 - (lg_sl [.ref a1]).length) Slot.unset).toArray = ls at hl ⊢
  replace hl : lv_has ls 1 [(0, .ref a1)] := hl
  refine lv_aload_n hx hb dX1_begin_0 rfl (lv_at hl 0 rfl) ?_
  refine lv_iconst (v := 1) hx hb dX1_begin_1 (by decide) ?_
  refine va_put (D := (dC, dI)) (ci := 1) (v := .int 1) (ty := .boolean) (C := RX1) (T := TX1) (N := 8) hx hb hts hiX1 tyX1 tyX1_ok nmX1 hown hK hP hD hS 0 rfl rfl 1 (by decide) lk9 (fun _ h9 => h9) rfl (by decide +kernel) rfl rfl (Nat.le_of_ble_eq_true rfl) dX1_begin_2 (fun H locs hP hD hS => ?_)
  replace hP : va_P (dC, dI) vwCl [(a1, .inr (1, [.ref a2, .int 1, .int v1wasAny, .ref r1castAs, .ref r1givenTo, .int v1ayes, .int v1noes, .int v1silent])), (r1castAs, .inl (cyI, 20, .inl f1castAs)), (r1givenTo, .inl (cyI, 20, .inl f1givenTo))] H := hP
  replace hD : va_D A [(a1, .inr (1, [.ref a2, .int 1, .int v1wasAny, .ref r1castAs, .ref r1givenTo, .int v1ayes, .int v1noes, .int v1silent])), (r1castAs, .inl (cyI, 20, .inl f1castAs)), (r1givenTo, .inl (cyI, 20, .inl f1givenTo))] := hD
  refine lv_aload_n hx hb dX1_begin_5 rfl (lv_at hl 0 rfl) ?_
  refine lv_iconst (v := 1) hx hb dX1_begin_6 (by decide) ?_
  refine va_put (D := (dC, dI)) (ci := 1) (v := .int 1) (ty := .boolean) (C := RX1) (T := TX1) (N := 8) hx hb hts hiX1 tyX1 tyX1_ok nmX1 hown hK hP hD hS 0 rfl rfl 2 (by decide) lk15 (fun _ h9 => h9) rfl (by decide +kernel) rfl rfl (Nat.le_of_ble_eq_true rfl) dX1_begin_7 (fun H locs hP hD hS => ?_)
  replace hP : va_P (dC, dI) vwCl [(a1, .inr (1, [.ref a2, .int 1, .int 1, .ref r1castAs, .ref r1givenTo, .int v1ayes, .int v1noes, .int v1silent])), (r1castAs, .inl (cyI, 20, .inl f1castAs)), (r1givenTo, .inl (cyI, 20, .inl f1givenTo))] H := hP
  replace hD : va_D A [(a1, .inr (1, [.ref a2, .int 1, .int 1, .ref r1castAs, .ref r1givenTo, .int v1ayes, .int v1noes, .int v1silent])), (r1castAs, .inl (cyI, 20, .inl f1castAs)), (r1givenTo, .inl (cyI, 20, .inl f1givenTo))] := hD
  refine lv_aload_n hx hb dX1_begin_10 rfl (lv_at hl 0 rfl) ?_
  refine va_get (D := (dC, dI)) (ci := 1) (v := .ref r1castAs) (C := RX1) (T := TX1) (N := 8) hx hb hts hiX1 hown hK hP 0 rfl rfl 3 (by decide) lk18 (fun _ h9 => h9) rfl dX1_begin_11 ?_
  refine lv_iconst (v := 0) hx hb dX1_begin_14 (by decide) ?_
  refine mc_v hP hD hS hA [1] [0, 2] [0, 2, 1] [(a1, .inr (1, [.ref a2, .int 1, .int 1, .ref r1castAs, .ref r1givenTo, .int v1ayes, .int v1noes, .int v1silent])), (r1givenTo, .inl (cyI, 20, .inl f1givenTo))] (fun (u2 : (Nat → Int32)) => [(a1, .inr (1, [.ref a2, .int 1, .int 1, .ref r1castAs, .ref r1givenTo, .int v1ayes, .int v1noes, .int v1silent])), (r1castAs, .inl (cyI, 20, .inl u2)), (r1givenTo, .inl (cyI, 20, .inl f1givenTo))]) rfl rfl (by decide) (by decide) (by decide) (fun _ => rfl) (fun _ => rfl) (va_runS (As := [.ref r1castAs, .int 0]) (rest := []) ⟨hx, hb, hml, hown, hts⟩ (c_J7_fill_53178 l dC dI cyI cyZ cyB r1castAs 20 H.size f1castAs 0 _ h) (va_cwS 2 hts gX1_begin_J7_fill_53178 rfl rfl rfl (by decide +kernel) ⟨Nat.le_of_ble_eq_true rfl, Nat.le_of_ble_eq_true rfl⟩) ⟨MPre_blind, MPre_here [1] hP hD hK hN (by decide) rfl rfl⟩ rfl rfl hl.1 rfl (lv_room (Nat.le_of_ble_eq_true rfl)) dX1_begin_15 ⟨Nat.zero_le _, Nat.zero_le _⟩) (fun u2 H locs h hP hD hS => ?_)
  replace hP : va_P (dC, dI) vwCl [(a1, .inr (1, [.ref a2, .int 1, .int 1, .ref r1castAs, .ref r1givenTo, .int v1ayes, .int v1noes, .int v1silent])), (r1castAs, .inl (cyI, 20, .inl u2)), (r1givenTo, .inl (cyI, 20, .inl f1givenTo))] H := hP
  replace hD : va_D A [(a1, .inr (1, [.ref a2, .int 1, .int 1, .ref r1castAs, .ref r1givenTo, .int v1ayes, .int v1noes, .int v1silent])), (r1castAs, .inl (cyI, 20, .inl u2)), (r1givenTo, .inl (cyI, 20, .inl f1givenTo))] := hD
  refine lv_aload_n hx hb dX1_begin_18 rfl (lv_at hl 0 rfl) ?_
  refine va_get (D := (dC, dI)) (ci := 1) (v := .ref r1givenTo) (C := RX1) (T := TX1) (N := 8) hx hb hts hiX1 hown hK hP 0 rfl rfl 4 (by decide) lk22 (fun _ h9 => h9) rfl dX1_begin_19 ?_
  refine lv_iconst (v := (-1)) hx hb dX1_begin_22 (by decide) ?_
  refine mc_v hP hD hS hA [2] [0, 1] [0, 1, 2] [(a1, .inr (1, [.ref a2, .int 1, .int 1, .ref r1castAs, .ref r1givenTo, .int v1ayes, .int v1noes, .int v1silent])), (r1castAs, .inl (cyI, 20, .inl u2))] (fun (u4 : (Nat → Int32)) => [(a1, .inr (1, [.ref a2, .int 1, .int 1, .ref r1castAs, .ref r1givenTo, .int v1ayes, .int v1noes, .int v1silent])), (r1castAs, .inl (cyI, 20, .inl u2)), (r1givenTo, .inl (cyI, 20, .inl u4))]) rfl rfl (by decide) (by decide) (by decide) (fun _ => rfl) (fun _ => rfl) (va_runS (As := [.ref r1givenTo, .int (-1)]) (rest := []) ⟨hx, hb, hml, hown, hts⟩ (c_J7_fill_53178 l dC dI cyI cyZ cyB r1givenTo 20 H.size f1givenTo (-1) _ h) (va_cwS 2 hts gX1_begin_J7_fill_53178 rfl rfl rfl (by decide +kernel) ⟨Nat.le_of_ble_eq_true rfl, Nat.le_of_ble_eq_true rfl⟩) ⟨MPre_blind, MPre_here [2] hP hD hK hN (by decide) rfl rfl⟩ rfl rfl hl.1 rfl (lv_room (Nat.le_of_ble_eq_true rfl)) dX1_begin_23 ⟨Nat.zero_le _, Nat.zero_le _⟩) (fun u4 H locs h hP hD hS => ?_)
  replace hP : va_P (dC, dI) vwCl [(a1, .inr (1, [.ref a2, .int 1, .int 1, .ref r1castAs, .ref r1givenTo, .int v1ayes, .int v1noes, .int v1silent])), (r1castAs, .inl (cyI, 20, .inl u2)), (r1givenTo, .inl (cyI, 20, .inl u4))] H := hP
  replace hD : va_D A [(a1, .inr (1, [.ref a2, .int 1, .int 1, .ref r1castAs, .ref r1givenTo, .int v1ayes, .int v1noes, .int v1silent])), (r1castAs, .inl (cyI, 20, .inl u2)), (r1givenTo, .inl (cyI, 20, .inl u4))] := hD
  exact W.vret hx hb hr (fun t ht hW => ⟨⟨(1, 1, u2, u4), rfl, h, by rw [ht]; exact hP, hD⟩, hS.F ht⟩) hS.2.2 dX1_begin_26
def wp_X1_cast (p1 : Int32) (p2 : Int32) (f1castAs : Nat → Int32) (f1givenTo : Nat → Int32) (Post : (Nat → Int32) × (Nat → Int32) → Prop) : Prop := (((p2 = 0) → (vp_in p1 20 ∧ (vp_in p1 20 ∧ (Post ((upd f1castAs p1.toNatClampNeg 2), (upd f1givenTo p1.toNatClampNeg (-1))))))) ∧ ((¬ p2 = 0) → (vp_in p1 20 ∧ (vp_in p1 20 ∧ (Post ((upd f1castAs p1.toNatClampNeg 1), (upd f1givenTo p1.toNatClampNeg (-1))))))))
set_option maxHeartbeats 4000000 in
set_option maxRecDepth 100000 in
theorem c_X1_cast (l : Launch) (dC : Nat → ClassId) (dI : Nat → Nat → Nat) (cyI cyZ cyB : ClassId) (a1 : Nat) (a2 : Nat) (r1castAs : Nat) (r1givenTo : Nat) (sz : Nat) (v1isOpen : Int32) (v1wasAny : Int32) (v1ayes : Int32) (v1noes : Int32) (v1silent : Int32) (f1castAs : Nat → Int32) (f1givenTo : Nat → Int32) (p1 : Int32) (p2 : Int32) (Post : (Nat → Int32) × (Nat → Int32) → Prop) (h : wp_X1_cast p1 p2 f1castAs f1givenTo Post) : Met l yX1_cast wsX1_cast ({ frames := 0, cells := 0, slots := 0, locals := 0 } : Room) (MPre (dC, dI) [(cyI, .int), (cyZ, .boolean), (cyB, .byte)] [.ref a1, .int p1, .int p2] sz [(a1, .inr (1, [.ref a2, .int v1isOpen, .int v1wasAny, .ref r1castAs, .ref r1givenTo, .int v1ayes, .int v1noes, .int v1silent])), (r1castAs, .inl (cyI, 20, .inl f1castAs)), (r1givenTo, .inl (cyI, 20, .inl f1givenTo))]) (va_Qv Post (fun (u : (Nat → Int32) × (Nat → Int32)) (t : State) => va_P (dC, dI) vwCl [(a1, .inr (1, [.ref a2, .int v1isOpen, .int v1wasAny, .ref r1castAs, .ref r1givenTo, .int v1ayes, .int v1noes, .int v1silent])), (r1castAs, .inl (cyI, 20, .inl u.1)), (r1givenTo, .inl (cyI, 20, .inl u.2))] t.heap ∧ va_D (va_A [(a1, .inr (1, [.ref a2, .int v1isOpen, .int v1wasAny, .ref r1castAs, .ref r1givenTo, .int v1ayes, .int v1noes, .int v1silent])), (r1castAs, .inl (cyI, 20, .inl f1castAs)), (r1givenTo, .inl (cyI, 20, .inl f1givenTo))] sz) [(a1, .inr (1, [.ref a2, .int v1isOpen, .int v1wasAny, .ref r1castAs, .ref r1givenTo, .int v1ayes, .int v1noes, .int v1silent])), (r1castAs, .inl (cyI, 20, .inl u.1)), (r1givenTo, .inl (cyI, 20, .inl u.2))]) (va_A [(a1, .inr (1, [.ref a2, .int v1isOpen, .int v1wasAny, .ref r1castAs, .ref r1givenTo, .int v1ayes, .int v1noes, .int v1silent])), (r1castAs, .inl (cyI, 20, .inl f1castAs)), (r1givenTo, .inl (cyI, 20, .inl f1givenTo))] sz)) 0 0 (va_A [(a1, .inr (1, [.ref a2, .int v1isOpen, .int v1wasAny, .ref r1castAs, .ref r1givenTo, .int v1ayes, .int v1noes, .int v1silent])), (r1castAs, .inl (cyI, 20, .inl f1castAs)), (r1givenTo, .inl (cyI, 20, .inl f1givenTo))] sz) := by
  refine Met.ofW (cc := cX1_cast) (maxL := 3) (ret := none) (by decide) rfl ?_
  intro p e s m args below meth c s₁ B hml hv
  obtain ⟨rfl, hsz, hP, hK, hD0, hN⟩ := hv
  have hx := B.exec
  have hb := B.bytes
  have hr := B.returns
  have hts := atoms_spec (ws := wsX1_cast) B.pre
  have hown : s.vm.findClass RX1 = some m.cls := findClass_of_methodNamed B.named
  have hlocks := B.notSynchronized
  subst hsz
  have hD := hD0.self (sz := s.heap.size)
  generalize hAe : va_A [(a1, .inr (1, [.ref a2, .int v1isOpen, .int v1wasAny, .ref r1castAs, .ref r1givenTo, .int v1ayes, .int v1noes, .int v1silent])), (r1castAs, .inl (cyI, 20, .inl f1castAs)), (r1givenTo, .inl (cyI, 20, .inl f1givenTo))] s.heap.size = A at hD ⊢
  have hA : ∀ q : Nat, s.heap.size ≤ q → A q := fun q h => by rw [← hAe]; exact Or.inr h
  have hS : va_S A s.heap s.heap [] := va_S.rf
  have hiX1 : ∀ w ∈ u_ws RX1 TX1 8, w ∈ wsX1_cast := by decide +kernel
  have lk18 := hts (.fieldLink RX1 18 "StallBook$Ballot" "castAs" "[I") (by decide +kernel)
  have lk22 := hts (.fieldLink RX1 22 "StallBook$Ballot" "givenTo" "[I") (by decide +kernel)
  delta wp_X1_cast at h
  have hl := lv_entry [.ref a1, .int p1, .int p2] (n := 3) (Nat.le_of_ble_eq_true rfl)
  rw [lg_entry_eq]
  generalize (lg_sl [.ref a1, .int p1, .int p2] ++ List.replicate (3 - (lg_sl [.ref a1, .int p1, .int p2]).length) Slot.unset).toArray = ls at hl ⊢
  replace hl : lv_has ls 3 [(0, .ref a1), (1, .int p1), (2, .int p2)] := hl
  refine lv_aload_n hx hb dX1_cast_0 rfl (lv_at hl 0 rfl) ?_
  refine va_get (D := (dC, dI)) (ci := 1) (v := .ref r1castAs) (C := RX1) (T := TX1) (N := 8) hx hb hts hiX1 hown hK hP 0 rfl rfl 3 (by decide) lk18 (fun _ h9 => h9) rfl dX1_cast_1 ?_
  refine lv_iload_n hx hb dX1_cast_4 rfl (lv_at hl 1 rfl) ?_
  refine lv_iload_n hx hb dX1_cast_5 rfl (lv_at hl 2 rfl) ?_
  refine lv_if_eq (tgt := 13) hx hb dX1_cast_6 (by decide) (fun c => ?_) (fun c => ?_)
  · replace h := h.1 c
    refine lv_iconst (v := 2) hx hb dX1_cast_13 (by decide) ?_
    refine va_iast hx hb hK hP hD hS 1 0 rfl rfl h.1 dX1_cast_14 (fun H locs hP hD hS => ?_)
    replace h := h.2
    replace hP : va_P (dC, dI) vwCl [(a1, .inr (1, [.ref a2, .int v1isOpen, .int v1wasAny, .ref r1castAs, .ref r1givenTo, .int v1ayes, .int v1noes, .int v1silent])), (r1castAs, .inl (cyI, 20, .inl (upd f1castAs p1.toNatClampNeg 2))), (r1givenTo, .inl (cyI, 20, .inl f1givenTo))] H := hP
    replace hD : va_D A [(a1, .inr (1, [.ref a2, .int v1isOpen, .int v1wasAny, .ref r1castAs, .ref r1givenTo, .int v1ayes, .int v1noes, .int v1silent])), (r1castAs, .inl (cyI, 20, .inl (upd f1castAs p1.toNatClampNeg 2))), (r1givenTo, .inl (cyI, 20, .inl f1givenTo))] := hD
    refine lv_aload_n hx hb dX1_cast_15 rfl (lv_at hl 0 rfl) ?_
    refine va_get (D := (dC, dI)) (ci := 1) (v := .ref r1givenTo) (C := RX1) (T := TX1) (N := 8) hx hb hts hiX1 hown hK hP 0 rfl rfl 4 (by decide) lk22 (fun _ h9 => h9) rfl dX1_cast_16 ?_
    refine lv_iload_n hx hb dX1_cast_19 rfl (lv_at hl 1 rfl) ?_
    refine lv_iconst (v := (-1)) hx hb dX1_cast_20 (by decide) ?_
    refine va_iast hx hb hK hP hD hS 2 0 rfl rfl h.1 dX1_cast_21 (fun H locs hP hD hS => ?_)
    replace h := h.2
    replace hP : va_P (dC, dI) vwCl [(a1, .inr (1, [.ref a2, .int v1isOpen, .int v1wasAny, .ref r1castAs, .ref r1givenTo, .int v1ayes, .int v1noes, .int v1silent])), (r1castAs, .inl (cyI, 20, .inl (upd f1castAs p1.toNatClampNeg 2))), (r1givenTo, .inl (cyI, 20, .inl (upd f1givenTo p1.toNatClampNeg (-1))))] H := hP
    replace hD : va_D A [(a1, .inr (1, [.ref a2, .int v1isOpen, .int v1wasAny, .ref r1castAs, .ref r1givenTo, .int v1ayes, .int v1noes, .int v1silent])), (r1castAs, .inl (cyI, 20, .inl (upd f1castAs p1.toNatClampNeg 2))), (r1givenTo, .inl (cyI, 20, .inl (upd f1givenTo p1.toNatClampNeg (-1))))] := hD
    exact W.vret hx hb hr (fun t ht hW => ⟨⟨((upd f1castAs p1.toNatClampNeg 2), (upd f1givenTo p1.toNatClampNeg (-1))), rfl, h, by rw [ht]; exact hP, hD⟩, hS.F ht⟩) hS.2.2 dX1_cast_22
  · replace h := h.2 c
    refine lv_iconst (v := 1) hx hb dX1_cast_9 (by decide) ?_
    refine lv_goto (tgt := 14) hx hb dX1_cast_10 (by decide) ?_
    refine va_iast hx hb hK hP hD hS 1 0 rfl rfl h.1 dX1_cast_14 (fun H locs hP hD hS => ?_)
    replace h := h.2
    replace hP : va_P (dC, dI) vwCl [(a1, .inr (1, [.ref a2, .int v1isOpen, .int v1wasAny, .ref r1castAs, .ref r1givenTo, .int v1ayes, .int v1noes, .int v1silent])), (r1castAs, .inl (cyI, 20, .inl (upd f1castAs p1.toNatClampNeg 1))), (r1givenTo, .inl (cyI, 20, .inl f1givenTo))] H := hP
    replace hD : va_D A [(a1, .inr (1, [.ref a2, .int v1isOpen, .int v1wasAny, .ref r1castAs, .ref r1givenTo, .int v1ayes, .int v1noes, .int v1silent])), (r1castAs, .inl (cyI, 20, .inl (upd f1castAs p1.toNatClampNeg 1))), (r1givenTo, .inl (cyI, 20, .inl f1givenTo))] := hD
    refine lv_aload_n hx hb dX1_cast_15 rfl (lv_at hl 0 rfl) ?_
    refine va_get (D := (dC, dI)) (ci := 1) (v := .ref r1givenTo) (C := RX1) (T := TX1) (N := 8) hx hb hts hiX1 hown hK hP 0 rfl rfl 4 (by decide) lk22 (fun _ h9 => h9) rfl dX1_cast_16 ?_
    refine lv_iload_n hx hb dX1_cast_19 rfl (lv_at hl 1 rfl) ?_
    refine lv_iconst (v := (-1)) hx hb dX1_cast_20 (by decide) ?_
    refine va_iast hx hb hK hP hD hS 2 0 rfl rfl h.1 dX1_cast_21 (fun H locs hP hD hS => ?_)
    replace h := h.2
    replace hP : va_P (dC, dI) vwCl [(a1, .inr (1, [.ref a2, .int v1isOpen, .int v1wasAny, .ref r1castAs, .ref r1givenTo, .int v1ayes, .int v1noes, .int v1silent])), (r1castAs, .inl (cyI, 20, .inl (upd f1castAs p1.toNatClampNeg 1))), (r1givenTo, .inl (cyI, 20, .inl (upd f1givenTo p1.toNatClampNeg (-1))))] H := hP
    replace hD : va_D A [(a1, .inr (1, [.ref a2, .int v1isOpen, .int v1wasAny, .ref r1castAs, .ref r1givenTo, .int v1ayes, .int v1noes, .int v1silent])), (r1castAs, .inl (cyI, 20, .inl (upd f1castAs p1.toNatClampNeg 1))), (r1givenTo, .inl (cyI, 20, .inl (upd f1givenTo p1.toNatClampNeg (-1))))] := hD
    exact W.vret hx hb hr (fun t ht hW => ⟨⟨((upd f1castAs p1.toNatClampNeg 1), (upd f1givenTo p1.toNatClampNeg (-1))), rfl, h, by rw [ht]; exact hP, hD⟩, hS.F ht⟩) hS.2.2 dX1_cast_22
def wp_X1_forget (p1 : Int32) (f1castAs : Nat → Int32) (f1givenTo : Nat → Int32) (Post : (Nat → Int32) × (Nat → Int32) → Prop) : Prop := (vp_in p1 20 ∧ (vp_in p1 20 ∧ (Post ((upd f1castAs p1.toNatClampNeg 0), (upd f1givenTo p1.toNatClampNeg (-1))))))
set_option maxHeartbeats 4000000 in
set_option maxRecDepth 100000 in
theorem c_X1_forget (l : Launch) (dC : Nat → ClassId) (dI : Nat → Nat → Nat) (cyI cyZ cyB : ClassId) (a1 : Nat) (a2 : Nat) (r1castAs : Nat) (r1givenTo : Nat) (sz : Nat) (v1isOpen : Int32) (v1wasAny : Int32) (v1ayes : Int32) (v1noes : Int32) (v1silent : Int32) (f1castAs : Nat → Int32) (f1givenTo : Nat → Int32) (p1 : Int32) (Post : (Nat → Int32) × (Nat → Int32) → Prop) (h : wp_X1_forget p1 f1castAs f1givenTo Post) : Met l yX1_forget wsX1_forget ({ frames := 0, cells := 0, slots := 0, locals := 0 } : Room) (MPre (dC, dI) [(cyI, .int), (cyZ, .boolean), (cyB, .byte)] [.ref a1, .int p1] sz [(a1, .inr (1, [.ref a2, .int v1isOpen, .int v1wasAny, .ref r1castAs, .ref r1givenTo, .int v1ayes, .int v1noes, .int v1silent])), (r1castAs, .inl (cyI, 20, .inl f1castAs)), (r1givenTo, .inl (cyI, 20, .inl f1givenTo))]) (va_Qv Post (fun (u : (Nat → Int32) × (Nat → Int32)) (t : State) => va_P (dC, dI) vwCl [(a1, .inr (1, [.ref a2, .int v1isOpen, .int v1wasAny, .ref r1castAs, .ref r1givenTo, .int v1ayes, .int v1noes, .int v1silent])), (r1castAs, .inl (cyI, 20, .inl u.1)), (r1givenTo, .inl (cyI, 20, .inl u.2))] t.heap ∧ va_D (va_A [(a1, .inr (1, [.ref a2, .int v1isOpen, .int v1wasAny, .ref r1castAs, .ref r1givenTo, .int v1ayes, .int v1noes, .int v1silent])), (r1castAs, .inl (cyI, 20, .inl f1castAs)), (r1givenTo, .inl (cyI, 20, .inl f1givenTo))] sz) [(a1, .inr (1, [.ref a2, .int v1isOpen, .int v1wasAny, .ref r1castAs, .ref r1givenTo, .int v1ayes, .int v1noes, .int v1silent])), (r1castAs, .inl (cyI, 20, .inl u.1)), (r1givenTo, .inl (cyI, 20, .inl u.2))]) (va_A [(a1, .inr (1, [.ref a2, .int v1isOpen, .int v1wasAny, .ref r1castAs, .ref r1givenTo, .int v1ayes, .int v1noes, .int v1silent])), (r1castAs, .inl (cyI, 20, .inl f1castAs)), (r1givenTo, .inl (cyI, 20, .inl f1givenTo))] sz)) 0 0 (va_A [(a1, .inr (1, [.ref a2, .int v1isOpen, .int v1wasAny, .ref r1castAs, .ref r1givenTo, .int v1ayes, .int v1noes, .int v1silent])), (r1castAs, .inl (cyI, 20, .inl f1castAs)), (r1givenTo, .inl (cyI, 20, .inl f1givenTo))] sz) := by
  refine Met.ofW (cc := cX1_forget) (maxL := 2) (ret := none) (by decide) rfl ?_
  intro p e s m args below meth c s₁ B hml hv
  obtain ⟨rfl, hsz, hP, hK, hD0, hN⟩ := hv
  have hx := B.exec
  have hb := B.bytes
  have hr := B.returns
  have hts := atoms_spec (ws := wsX1_forget) B.pre
  have hown : s.vm.findClass RX1 = some m.cls := findClass_of_methodNamed B.named
  have hlocks := B.notSynchronized
  subst hsz
  have hD := hD0.self (sz := s.heap.size)
  generalize hAe : va_A [(a1, .inr (1, [.ref a2, .int v1isOpen, .int v1wasAny, .ref r1castAs, .ref r1givenTo, .int v1ayes, .int v1noes, .int v1silent])), (r1castAs, .inl (cyI, 20, .inl f1castAs)), (r1givenTo, .inl (cyI, 20, .inl f1givenTo))] s.heap.size = A at hD ⊢
  have hA : ∀ q : Nat, s.heap.size ≤ q → A q := fun q h => by rw [← hAe]; exact Or.inr h
  have hS : va_S A s.heap s.heap [] := va_S.rf
  have hiX1 : ∀ w ∈ u_ws RX1 TX1 8, w ∈ wsX1_forget := by decide +kernel
  have lk18 := hts (.fieldLink RX1 18 "StallBook$Ballot" "castAs" "[I") (by decide +kernel)
  have lk22 := hts (.fieldLink RX1 22 "StallBook$Ballot" "givenTo" "[I") (by decide +kernel)
  delta wp_X1_forget at h
  have hl := lv_entry [.ref a1, .int p1] (n := 2) (Nat.le_of_ble_eq_true rfl)
  rw [lg_entry_eq]
  generalize (lg_sl [.ref a1, .int p1] ++ List.replicate (2 - (lg_sl [.ref a1, .int p1]).length) Slot.unset).toArray = ls at hl ⊢
  replace hl : lv_has ls 2 [(0, .ref a1), (1, .int p1)] := hl
  refine lv_aload_n hx hb dX1_forget_0 rfl (lv_at hl 0 rfl) ?_
  refine va_get (D := (dC, dI)) (ci := 1) (v := .ref r1castAs) (C := RX1) (T := TX1) (N := 8) hx hb hts hiX1 hown hK hP 0 rfl rfl 3 (by decide) lk18 (fun _ h9 => h9) rfl dX1_forget_1 ?_
  refine lv_iload_n hx hb dX1_forget_4 rfl (lv_at hl 1 rfl) ?_
  refine lv_iconst (v := 0) hx hb dX1_forget_5 (by decide) ?_
  refine va_iast hx hb hK hP hD hS 1 0 rfl rfl h.1 dX1_forget_6 (fun H locs hP hD hS => ?_)
  replace h := h.2
  replace hP : va_P (dC, dI) vwCl [(a1, .inr (1, [.ref a2, .int v1isOpen, .int v1wasAny, .ref r1castAs, .ref r1givenTo, .int v1ayes, .int v1noes, .int v1silent])), (r1castAs, .inl (cyI, 20, .inl (upd f1castAs p1.toNatClampNeg 0))), (r1givenTo, .inl (cyI, 20, .inl f1givenTo))] H := hP
  replace hD : va_D A [(a1, .inr (1, [.ref a2, .int v1isOpen, .int v1wasAny, .ref r1castAs, .ref r1givenTo, .int v1ayes, .int v1noes, .int v1silent])), (r1castAs, .inl (cyI, 20, .inl (upd f1castAs p1.toNatClampNeg 0))), (r1givenTo, .inl (cyI, 20, .inl f1givenTo))] := hD
  refine lv_aload_n hx hb dX1_forget_7 rfl (lv_at hl 0 rfl) ?_
  refine va_get (D := (dC, dI)) (ci := 1) (v := .ref r1givenTo) (C := RX1) (T := TX1) (N := 8) hx hb hts hiX1 hown hK hP 0 rfl rfl 4 (by decide) lk22 (fun _ h9 => h9) rfl dX1_forget_8 ?_
  refine lv_iload_n hx hb dX1_forget_11 rfl (lv_at hl 1 rfl) ?_
  refine lv_iconst (v := (-1)) hx hb dX1_forget_12 (by decide) ?_
  refine va_iast hx hb hK hP hD hS 2 0 rfl rfl h.1 dX1_forget_13 (fun H locs hP hD hS => ?_)
  replace h := h.2
  replace hP : va_P (dC, dI) vwCl [(a1, .inr (1, [.ref a2, .int v1isOpen, .int v1wasAny, .ref r1castAs, .ref r1givenTo, .int v1ayes, .int v1noes, .int v1silent])), (r1castAs, .inl (cyI, 20, .inl (upd f1castAs p1.toNatClampNeg 0))), (r1givenTo, .inl (cyI, 20, .inl (upd f1givenTo p1.toNatClampNeg (-1))))] H := hP
  replace hD : va_D A [(a1, .inr (1, [.ref a2, .int v1isOpen, .int v1wasAny, .ref r1castAs, .ref r1givenTo, .int v1ayes, .int v1noes, .int v1silent])), (r1castAs, .inl (cyI, 20, .inl (upd f1castAs p1.toNatClampNeg 0))), (r1givenTo, .inl (cyI, 20, .inl (upd f1givenTo p1.toNatClampNeg (-1))))] := hD
  exact W.vret hx hb hr (fun t ht hW => ⟨⟨((upd f1castAs p1.toNatClampNeg 0), (upd f1givenTo p1.toNatClampNeg (-1))), rfl, h, by rw [ht]; exact hP, hD⟩, hS.F ht⟩) hS.2.2 dX1_forget_14
def lp_X1_giversTo_5 (k1 : Int32) (k2 : Int32) (f1givenTo : Nat → Int32) (v2canons : Int32) (Post : Int32 → Unit → Prop) (K : Int32 → Int32 → Prop) : Nat → Int32 → Int32 → Prop
  | 0, _, _ => False
  | n + 1, y3, y4 => (((v2canons ≤ y4) → (K y3 y4)) ∧ ((¬ v2canons ≤ y4) → (((y4 = k2) → (∀ x1 : Int32, x1 = y4 + 1 → (lp_X1_giversTo_5 k1 k2 f1givenTo v2canons Post K n y3 x1))) ∧ ((¬ y4 = k2) → (vp_in y4 20 ∧ (((¬ (f1givenTo y4.toNatClampNeg) = k1) → (∀ x2 : Int32, x2 = y4 + 1 → (lp_X1_giversTo_5 k1 k2 f1givenTo v2canons Post K n y3 x2))) ∧ (((f1givenTo y4.toNatClampNeg) = k1) → (∀ x3 : Int32, x3 = y3 + 1 → (∀ x4 : Int32, x4 = y4 + 1 → (lp_X1_giversTo_5 k1 k2 f1givenTo v2canons Post K n x3 x4))))))))))
def wp_X1_giversTo (p1 : Int32) (p2 : Int32) (f1givenTo : Nat → Int32) (v2canons : Int32) (Post : Int32 → Unit → Prop) : Prop := (∃ n7 : Nat, lp_X1_giversTo_5 p1 p2 f1givenTo v2canons Post (fun (x5 : Int32) (x6 : Int32) => (Post x5 ())) n7 0 0)
set_option maxHeartbeats 4000000 in
set_option maxRecDepth 100000 in
theorem c_X1_giversTo (l : Launch) (dC : Nat → ClassId) (dI : Nat → Nat → Nat) (cyI cyZ cyB : ClassId) (a1 : Nat) (a2 : Nat) (r1castAs : Nat) (r1givenTo : Nat) (r2there : Nat) (r2stallOf : Nat) (r2worth : Nat) (r2holder : Nat) (r2wishes : Nat) (r2mover : Nat) (r2movedFrom : Nat) (r2movedTo : Nat) (sz : Nat) (v1isOpen : Int32) (v1wasAny : Int32) (v1ayes : Int32) (v1noes : Int32) (v1silent : Int32) (f1givenTo : Nat → Int32) (v2canons : Int32) (v2present : Int32) (v2stalls : Int32) (v2moves : Int32) (p1 : Int32) (p2 : Int32) (Post : Int32 → Unit → Prop) (h : wp_X1_giversTo p1 p2 f1givenTo v2canons Post) : Met l yX1_giversTo wsX1_giversTo ({ frames := 0, cells := 0, slots := 0, locals := 0 } : Room) (MPre (dC, dI) [(cyI, .int), (cyZ, .boolean), (cyB, .byte)] [.ref a1, .int p1, .int p2] sz [(a1, .inr (1, [.ref a2, .int v1isOpen, .int v1wasAny, .ref r1castAs, .ref r1givenTo, .int v1ayes, .int v1noes, .int v1silent])), (r1givenTo, .inl (cyI, 20, .inl f1givenTo)), (a2, .inr (2, [.int v2canons, .int v2present, .int v2stalls, .ref r2there, .ref r2stallOf, .ref r2worth, .ref r2holder, .ref r2wishes, .int v2moves, .ref r2mover, .ref r2movedFrom, .ref r2movedTo]))]) (va_Qi Post (fun (u : Unit) (t : State) => va_P (dC, dI) vwCl [(a1, .inr (1, [.ref a2, .int v1isOpen, .int v1wasAny, .ref r1castAs, .ref r1givenTo, .int v1ayes, .int v1noes, .int v1silent])), (r1givenTo, .inl (cyI, 20, .inl f1givenTo)), (a2, .inr (2, [.int v2canons, .int v2present, .int v2stalls, .ref r2there, .ref r2stallOf, .ref r2worth, .ref r2holder, .ref r2wishes, .int v2moves, .ref r2mover, .ref r2movedFrom, .ref r2movedTo]))] t.heap ∧ va_D (va_A [(a1, .inr (1, [.ref a2, .int v1isOpen, .int v1wasAny, .ref r1castAs, .ref r1givenTo, .int v1ayes, .int v1noes, .int v1silent])), (r1givenTo, .inl (cyI, 20, .inl f1givenTo)), (a2, .inr (2, [.int v2canons, .int v2present, .int v2stalls, .ref r2there, .ref r2stallOf, .ref r2worth, .ref r2holder, .ref r2wishes, .int v2moves, .ref r2mover, .ref r2movedFrom, .ref r2movedTo]))] sz) [(a1, .inr (1, [.ref a2, .int v1isOpen, .int v1wasAny, .ref r1castAs, .ref r1givenTo, .int v1ayes, .int v1noes, .int v1silent])), (r1givenTo, .inl (cyI, 20, .inl f1givenTo)), (a2, .inr (2, [.int v2canons, .int v2present, .int v2stalls, .ref r2there, .ref r2stallOf, .ref r2worth, .ref r2holder, .ref r2wishes, .int v2moves, .ref r2mover, .ref r2movedFrom, .ref r2movedTo]))]) (va_A [(a1, .inr (1, [.ref a2, .int v1isOpen, .int v1wasAny, .ref r1castAs, .ref r1givenTo, .int v1ayes, .int v1noes, .int v1silent])), (r1givenTo, .inl (cyI, 20, .inl f1givenTo)), (a2, .inr (2, [.int v2canons, .int v2present, .int v2stalls, .ref r2there, .ref r2stallOf, .ref r2worth, .ref r2holder, .ref r2wishes, .int v2moves, .ref r2mover, .ref r2movedFrom, .ref r2movedTo]))] sz)) 0 0 (va_A [(a1, .inr (1, [.ref a2, .int v1isOpen, .int v1wasAny, .ref r1castAs, .ref r1givenTo, .int v1ayes, .int v1noes, .int v1silent])), (r1givenTo, .inl (cyI, 20, .inl f1givenTo)), (a2, .inr (2, [.int v2canons, .int v2present, .int v2stalls, .ref r2there, .ref r2stallOf, .ref r2worth, .ref r2holder, .ref r2wishes, .int v2moves, .ref r2mover, .ref r2movedFrom, .ref r2movedTo]))] sz) := by
  refine Met.ofW (cc := cX1_giversTo) (maxL := 5) (ret := (some .int)) (by decide) rfl ?_
  intro p e s m args below meth c s₁ B hml hv
  obtain ⟨rfl, hsz, hP, hK, hD0, hN⟩ := hv
  have hx := B.exec
  have hb := B.bytes
  have hr := B.returns
  have hts := atoms_spec (ws := wsX1_giversTo) B.pre
  have hown : s.vm.findClass RX1 = some m.cls := findClass_of_methodNamed B.named
  have hlocks := B.notSynchronized
  subst hsz
  have hD := hD0.self (sz := s.heap.size)
  generalize hAe : va_A [(a1, .inr (1, [.ref a2, .int v1isOpen, .int v1wasAny, .ref r1castAs, .ref r1givenTo, .int v1ayes, .int v1noes, .int v1silent])), (r1givenTo, .inl (cyI, 20, .inl f1givenTo)), (a2, .inr (2, [.int v2canons, .int v2present, .int v2stalls, .ref r2there, .ref r2stallOf, .ref r2worth, .ref r2holder, .ref r2wishes, .int v2moves, .ref r2mover, .ref r2movedFrom, .ref r2movedTo]))] s.heap.size = A at hD ⊢
  have hA : ∀ q : Nat, s.heap.size ≤ q → A q := fun q h => by rw [← hAe]; exact Or.inr h
  have hS : va_S A s.heap s.heap [] := va_S.rf
  have hiX1 : ∀ w ∈ u_ws RX1 TX1 8, w ∈ wsX1_giversTo := by decide +kernel
  have hiX2 : ∀ w ∈ u_ws RX2 TX2 12, w ∈ wsX1_giversTo := by decide +kernel
  have lk22 := hts (.fieldLink RX1 22 "StallBook$Ballot" "givenTo" "[I") (by decide +kernel)
  have lk35 := hts (.fieldLink RX1 35 "StallBook$Ballot" "chapter" "LStallBook$Chapter;") (by decide +kernel)
  have lk55 : (Cond.fieldLinkNest RX1 55 "StallBook$Chapter" "canons" "I" "StallBook").before ([.ref a1, .int p1, .int p2] : List Value).toArray s = true := va_Nw.use rfl (hN.1 (RX1, 55, "StallBook$Chapter", "canons", "I") (by decide +kernel))
  have L5 : ∀ (k1 : Int32) (k2 : Int32) (f1givenTo : Nat → Int32) (v2canons : Int32) (K : Int32 → Int32 → Prop) (n : Nat) (y3 : Int32) (y4 : Int32) (H : Heap) (locs : List Loc) (ls : Array Slot), lp_X1_giversTo_5 k1 k2 f1givenTo v2canons Post K n y3 y4 → va_P (dC, dI) vwCl [(a1, .inr (1, [.ref a2, .int v1isOpen, .int v1wasAny, .ref r1castAs, .ref r1givenTo, .int v1ayes, .int v1noes, .int v1silent])), (r1givenTo, .inl (cyI, 20, .inl f1givenTo)), (a2, .inr (2, [.int v2canons, .int v2present, .int v2stalls, .ref r2there, .ref r2stallOf, .ref r2worth, .ref r2holder, .ref r2wishes, .int v2moves, .ref r2mover, .ref r2movedFrom, .ref r2movedTo]))] H → va_D A [(a1, .inr (1, [.ref a2, .int v1isOpen, .int v1wasAny, .ref r1castAs, .ref r1givenTo, .int v1ayes, .int v1noes, .int v1silent])), (r1givenTo, .inl (cyI, 20, .inl f1givenTo)), (a2, .inr (2, [.int v2canons, .int v2present, .int v2stalls, .ref r2there, .ref r2stallOf, .ref r2worth, .ref r2holder, .ref r2wishes, .int v2moves, .ref r2mover, .ref r2movedFrom, .ref r2movedTo]))] → va_S A s.heap H locs → lv_has ls 5 [(0, .ref a1), (1, .int k1), (2, .int k2), (3, .int y3), (4, .int y4)] → (∀ (y3 : Int32) (y4 : Int32) (H : Heap) (locs : List Loc) (ls : Array Slot), K y3 y4 → va_P (dC, dI) vwCl [(a1, .inr (1, [.ref a2, .int v1isOpen, .int v1wasAny, .ref r1castAs, .ref r1givenTo, .int v1ayes, .int v1noes, .int v1silent])), (r1givenTo, .inl (cyI, 20, .inl f1givenTo)), (a2, .inr (2, [.int v2canons, .int v2present, .int v2stalls, .ref r2there, .ref r2stallOf, .ref r2worth, .ref r2holder, .ref r2wishes, .int v2moves, .ref r2mover, .ref r2movedFrom, .ref r2movedTo]))] H → va_D A [(a1, .inr (1, [.ref a2, .int v1isOpen, .int v1wasAny, .ref r1castAs, .ref r1givenTo, .int v1ayes, .int v1noes, .int v1silent])), (r1givenTo, .inl (cyI, 20, .inl f1givenTo)), (a2, .inr (2, [.int v2canons, .int v2present, .int v2stalls, .ref r2there, .ref r2stallOf, .ref r2worth, .ref r2holder, .ref r2wishes, .int v2moves, .ref r2mover, .ref r2movedFrom, .ref r2movedTo]))] → va_S A s.heap H locs → lv_has ls 5 [(0, .ref a1), (1, .int k1), (2, .int k2), (3, .int y3), (4, .int y4)] → W p l e (headSpec wsX1_giversTo ({ frames := 0, cells := 0, slots := 0, locals := 0 } : Room)).room s m ([.ref a1, .int p1, .int p2] : List Value).toArray below meth c H locs 0 0 (MQ below (va_Qi Post (fun (u : Unit) (t : State) => va_P (dC, dI) vwCl [(a1, .inr (1, [.ref a2, .int v1isOpen, .int v1wasAny, .ref r1castAs, .ref r1givenTo, .int v1ayes, .int v1noes, .int v1silent])), (r1givenTo, .inl (cyI, 20, .inl f1givenTo)), (a2, .inr (2, [.int v2canons, .int v2present, .int v2stalls, .ref r2there, .ref r2stallOf, .ref r2worth, .ref r2holder, .ref r2wishes, .int v2moves, .ref r2mover, .ref r2movedFrom, .ref r2movedTo]))] t.heap ∧ va_D A [(a1, .inr (1, [.ref a2, .int v1isOpen, .int v1wasAny, .ref r1castAs, .ref r1givenTo, .int v1ayes, .int v1noes, .int v1silent])), (r1givenTo, .inl (cyI, 20, .inl f1givenTo)), (a2, .inr (2, [.int v2canons, .int v2present, .int v2stalls, .ref r2there, .ref r2stallOf, .ref r2worth, .ref r2holder, .ref r2wishes, .int v2moves, .ref r2mover, .ref r2movedFrom, .ref r2movedTo]))]) A) ([.ref a1, .int p1, .int p2] : List Value).toArray s 0 0 A) (F0 m 43 ls [])) → W p l e (headSpec wsX1_giversTo ({ frames := 0, cells := 0, slots := 0, locals := 0 } : Room)).room s m ([.ref a1, .int p1, .int p2] : List Value).toArray below meth c H locs 0 0 (MQ below (va_Qi Post (fun (u : Unit) (t : State) => va_P (dC, dI) vwCl [(a1, .inr (1, [.ref a2, .int v1isOpen, .int v1wasAny, .ref r1castAs, .ref r1givenTo, .int v1ayes, .int v1noes, .int v1silent])), (r1givenTo, .inl (cyI, 20, .inl f1givenTo)), (a2, .inr (2, [.int v2canons, .int v2present, .int v2stalls, .ref r2there, .ref r2stallOf, .ref r2worth, .ref r2holder, .ref r2wishes, .int v2moves, .ref r2mover, .ref r2movedFrom, .ref r2movedTo]))] t.heap ∧ va_D A [(a1, .inr (1, [.ref a2, .int v1isOpen, .int v1wasAny, .ref r1castAs, .ref r1givenTo, .int v1ayes, .int v1noes, .int v1silent])), (r1givenTo, .inl (cyI, 20, .inl f1givenTo)), (a2, .inr (2, [.int v2canons, .int v2present, .int v2stalls, .ref r2there, .ref r2stallOf, .ref r2worth, .ref r2holder, .ref r2wishes, .int v2moves, .ref r2mover, .ref r2movedFrom, .ref r2movedTo]))]) A) ([.ref a1, .int p1, .int p2] : List Value).toArray s 0 0 A) (F0 m 5 ls []) := by
    intro k1 k2 f1givenTo v2canons K n
    induction n with
    | zero =>
      intro y3 y4 H locs ls h
      exact (h : False).elim
    | succ n ih =>
      intro y3 y4 H locs ls h hP hD hS hl kk
      rw [lp_X1_giversTo_5] at h
      refine lv_iload hx hb dX1_giversTo_5 (lv_at hl 4 rfl) ?_
      refine lv_aload_n hx hb dX1_giversTo_7 rfl (lv_at hl 0 rfl) ?_
      refine va_get (D := (dC, dI)) (ci := 1) (v := .ref a2) (C := RX1) (T := TX1) (N := 8) hx hb hts hiX1 hown hK hP 0 rfl rfl 0 (by decide) lk35 (fun _ h9 => h9) rfl dX1_giversTo_8 ?_
      refine va_getN (D := (dC, dI)) (ci := 2) (v := .int v2canons) (C := RX2) (T := TX2) (N := 12) hx hb hts hiX2 hown hK hP 2 rfl rfl 0 (by decide) lk55 (fun _ h9 => h9) rfl dX1_giversTo_11 ?_
      refine lv_icmp_ge (tgt := 43) hx hb dX1_giversTo_14 (by decide) (fun c => ?_) (fun c => ?_)
      · replace h := h.1 c
        exact kk y3 y4 H locs ls h hP hD hS (lv_sub hl [0, 1, 2, 3, 4] rfl)
      · replace h := h.2 c
        refine lv_iload hx hb dX1_giversTo_17 (lv_at hl 4 rfl) ?_
        refine lv_iload_n hx hb dX1_giversTo_19 rfl (lv_at hl 2 rfl) ?_
        refine lv_icmp_eq (tgt := 37) hx hb dX1_giversTo_20 (by decide) (fun c => ?_) (fun c => ?_)
        · replace h := h.1 c
          obtain ⟨x1, ex1⟩ : ∃ y : Int32, y = y4 + 1 := ⟨_, rfl⟩
          replace h := h x1 ex1
          refine lv_iinc (v := x1) (lv' := [(4, .int x1), (0, .ref a1), (1, .int k1), (2, .int k2), (3, .int y3)]) hx hb dX1_giversTo_37 hl (k := 4) rfl (by rw [ex1]; rfl) (by decide) rfl (fun ls hl => ?_)
          refine lv_goto (tgt := 5) hx hb dX1_giversTo_40 (by decide) ?_
          exact ih y3 x1 H locs ls h hP hD hS (lv_sub hl [1, 2, 3, 4, 0] rfl) kk
        · replace h := h.2 c
          refine lv_aload_n hx hb dX1_giversTo_23 rfl (lv_at hl 0 rfl) ?_
          refine va_get (D := (dC, dI)) (ci := 1) (v := .ref r1givenTo) (C := RX1) (T := TX1) (N := 8) hx hb hts hiX1 hown hK hP 0 rfl rfl 4 (by decide) lk22 (fun _ h9 => h9) rfl dX1_giversTo_24 ?_
          refine lv_iload hx hb dX1_giversTo_27 (lv_at hl 4 rfl) ?_
          refine va_iald hx hb hK hP 1 0 rfl rfl h.1 dX1_giversTo_29 ?_
          replace h := h.2
          refine lv_iload_n hx hb dX1_giversTo_30 rfl (lv_at hl 1 rfl) ?_
          refine lv_icmp_ne (tgt := 37) hx hb dX1_giversTo_31 (by decide) (fun c => ?_) (fun c => ?_)
          · replace h := h.1 c
            obtain ⟨x2, ex2⟩ : ∃ y : Int32, y = y4 + 1 := ⟨_, rfl⟩
            replace h := h x2 ex2
            refine lv_iinc (v := x2) (lv' := [(4, .int x2), (0, .ref a1), (1, .int k1), (2, .int k2), (3, .int y3)]) hx hb dX1_giversTo_37 hl (k := 4) rfl (by rw [ex2]; rfl) (by decide) rfl (fun ls hl => ?_)
            refine lv_goto (tgt := 5) hx hb dX1_giversTo_40 (by decide) ?_
            exact ih y3 x2 H locs ls h hP hD hS (lv_sub hl [1, 2, 3, 4, 0] rfl) kk
          · replace h := h.2 c
            obtain ⟨x3, ex3⟩ : ∃ y : Int32, y = y3 + 1 := ⟨_, rfl⟩
            replace h := h x3 ex3
            refine lv_iinc (v := x3) (lv' := [(3, .int x3), (0, .ref a1), (1, .int k1), (2, .int k2), (4, .int y4)]) hx hb dX1_giversTo_34 hl (k := 3) rfl (by rw [ex3]; rfl) (by decide) rfl (fun ls hl => ?_)
            obtain ⟨x4, ex4⟩ : ∃ y : Int32, y = y4 + 1 := ⟨_, rfl⟩
            replace h := h x4 ex4
            refine lv_iinc (v := x4) (lv' := [(4, .int x4), (3, .int x3), (0, .ref a1), (1, .int k1), (2, .int k2)]) hx hb dX1_giversTo_37 hl (k := 4) rfl (by rw [ex4]; rfl) (by decide) rfl (fun ls hl => ?_)
            refine lv_goto (tgt := 5) hx hb dX1_giversTo_40 (by decide) ?_
            exact ih x3 x4 H locs ls h hP hD hS (lv_sub hl [2, 3, 4, 1, 0] rfl) kk
  delta wp_X1_giversTo at h
  have hl := lv_entry [.ref a1, .int p1, .int p2] (n := 5) (Nat.le_of_ble_eq_true rfl)
  rw [lg_entry_eq]
  generalize (lg_sl [.ref a1, .int p1, .int p2] ++ List.replicate (5 - (lg_sl [.ref a1, .int p1, .int p2]).length) Slot.unset).toArray = ls at hl ⊢
  replace hl : lv_has ls 5 [(0, .ref a1), (1, .int p1), (2, .int p2)] := hl
  refine lv_iconst (v := 0) hx hb dX1_giversTo_0 (by decide) ?_
  refine lv_istore_n (lv' := [(3, .int 0), (0, .ref a1), (1, .int p1), (2, .int p2)]) hx hb dX1_giversTo_1 rfl hl (by decide) rfl (fun ls hl => ?_)
  refine lv_iconst (v := 0) hx hb dX1_giversTo_2 (by decide) ?_
  refine lv_istore (lv' := [(4, .int 0), (3, .int 0), (0, .ref a1), (1, .int p1), (2, .int p2)]) hx hb dX1_giversTo_3 hl (by decide) rfl (fun ls hl => ?_)
  obtain ⟨n7, h⟩ := h
  refine L5 p1 p2 f1givenTo v2canons _ n7 0 0 s.heap [] ls h hP hD hS (lv_sub hl [2, 3, 4, 1, 0] rfl) (fun x5 x6 H locs ls h hP hD hS hl => ?_)
  refine lv_iload_n hx hb dX1_giversTo_43 rfl (lv_at hl 3 rfl) ?_
  exact W.iret (v := x5) hx hb hr (fun t ht hW => ⟨⟨x5, (), rfl, h, by rw [ht]; exact hP, hD⟩, hS.F ht⟩) hS.2.2 dX1_giversTo_44
def wp_X1_handOver (p1 : Int32) (p2 : Int32) (p3 : Int32) (f1castAs : Nat → Int32) (f1givenTo : Nat → Int32) (v2canons : Int32) (f2there : Nat → Int32) (Post : Int32 → (Nat → Int32) × (Nat → Int32) → Prop) : Prop := (((p1 = p2) → (Post 0 (f1castAs, f1givenTo))) ∧ ((¬ p1 = p2) → (wp_X2_isThere p1 v2canons f2there (fun (r1 : Int32) (u2 : Unit) => (((r1 = 0) → (Post 0 (f1castAs, f1givenTo))) ∧ ((¬ r1 = 0) → (wp_X2_isThere p2 v2canons f2there (fun (r3 : Int32) (u4 : Unit) => (((¬ r3 = 0) → (vp_in p2 20 ∧ (((¬ (f1givenTo p2.toNatClampNeg) = (-1)) → (Post 0 (f1castAs, f1givenTo))) ∧ (((f1givenTo p2.toNatClampNeg) = (-1)) → (wp_X1_giversTo p1 (-1) f1givenTo v2canons (fun (r5 : Int32) (u6 : Unit) => (((0 < r5) → (Post 0 (f1castAs, f1givenTo))) ∧ ((¬ 0 < r5) → (wp_X1_giversTo p2 p1 f1givenTo v2canons (fun (r7 : Int32) (u8 : Unit) => (((r7 < p3) → (vp_in p1 20 ∧ (vp_in p1 20 ∧ (Post 1 ((upd f1castAs p1.toNatClampNeg 0), (upd f1givenTo p1.toNatClampNeg p2)))))) ∧ ((¬ r7 < p3) → (Post 0 (f1castAs, f1givenTo)))))))))))))) ∧ ((r3 = 0) → (Post 0 (f1castAs, f1givenTo))))))))))))
set_option maxHeartbeats 4000000 in
set_option maxRecDepth 100000 in
theorem c_X1_handOver (l : Launch) (dC : Nat → ClassId) (dI : Nat → Nat → Nat) (cyI cyZ cyB : ClassId) (a1 : Nat) (a2 : Nat) (r1castAs : Nat) (r1givenTo : Nat) (r2there : Nat) (r2stallOf : Nat) (r2worth : Nat) (r2holder : Nat) (r2wishes : Nat) (r2mover : Nat) (r2movedFrom : Nat) (r2movedTo : Nat) (sz : Nat) (v1isOpen : Int32) (v1wasAny : Int32) (v1ayes : Int32) (v1noes : Int32) (v1silent : Int32) (f1castAs : Nat → Int32) (f1givenTo : Nat → Int32) (v2canons : Int32) (v2present : Int32) (v2stalls : Int32) (v2moves : Int32) (f2there : Nat → Int32) (p1 : Int32) (p2 : Int32) (p3 : Int32) (Post : Int32 → (Nat → Int32) × (Nat → Int32) → Prop) (h : wp_X1_handOver p1 p2 p3 f1castAs f1givenTo v2canons f2there Post) : Met l yX1_handOver wsX1_handOver ({ frames := 2, cells := 0, slots := 0, locals := 42 } : Room) (MPre (dC, dI) [(cyI, .int), (cyZ, .boolean), (cyB, .byte)] [.ref a1, .int p1, .int p2, .int p3] sz [(a1, .inr (1, [.ref a2, .int v1isOpen, .int v1wasAny, .ref r1castAs, .ref r1givenTo, .int v1ayes, .int v1noes, .int v1silent])), (r1castAs, .inl (cyI, 20, .inl f1castAs)), (r1givenTo, .inl (cyI, 20, .inl f1givenTo)), (a2, .inr (2, [.int v2canons, .int v2present, .int v2stalls, .ref r2there, .ref r2stallOf, .ref r2worth, .ref r2holder, .ref r2wishes, .int v2moves, .ref r2mover, .ref r2movedFrom, .ref r2movedTo])), (r2there, .inl (cyZ, 20, .inl f2there))]) (va_Qi Post (fun (u : (Nat → Int32) × (Nat → Int32)) (t : State) => va_P (dC, dI) vwCl [(a1, .inr (1, [.ref a2, .int v1isOpen, .int v1wasAny, .ref r1castAs, .ref r1givenTo, .int v1ayes, .int v1noes, .int v1silent])), (r1castAs, .inl (cyI, 20, .inl u.1)), (r1givenTo, .inl (cyI, 20, .inl u.2)), (a2, .inr (2, [.int v2canons, .int v2present, .int v2stalls, .ref r2there, .ref r2stallOf, .ref r2worth, .ref r2holder, .ref r2wishes, .int v2moves, .ref r2mover, .ref r2movedFrom, .ref r2movedTo])), (r2there, .inl (cyZ, 20, .inl f2there))] t.heap ∧ va_D (va_A [(a1, .inr (1, [.ref a2, .int v1isOpen, .int v1wasAny, .ref r1castAs, .ref r1givenTo, .int v1ayes, .int v1noes, .int v1silent])), (r1castAs, .inl (cyI, 20, .inl f1castAs)), (r1givenTo, .inl (cyI, 20, .inl f1givenTo)), (a2, .inr (2, [.int v2canons, .int v2present, .int v2stalls, .ref r2there, .ref r2stallOf, .ref r2worth, .ref r2holder, .ref r2wishes, .int v2moves, .ref r2mover, .ref r2movedFrom, .ref r2movedTo])), (r2there, .inl (cyZ, 20, .inl f2there))] sz) [(a1, .inr (1, [.ref a2, .int v1isOpen, .int v1wasAny, .ref r1castAs, .ref r1givenTo, .int v1ayes, .int v1noes, .int v1silent])), (r1castAs, .inl (cyI, 20, .inl u.1)), (r1givenTo, .inl (cyI, 20, .inl u.2)), (a2, .inr (2, [.int v2canons, .int v2present, .int v2stalls, .ref r2there, .ref r2stallOf, .ref r2worth, .ref r2holder, .ref r2wishes, .int v2moves, .ref r2mover, .ref r2movedFrom, .ref r2movedTo])), (r2there, .inl (cyZ, 20, .inl f2there))]) (va_A [(a1, .inr (1, [.ref a2, .int v1isOpen, .int v1wasAny, .ref r1castAs, .ref r1givenTo, .int v1ayes, .int v1noes, .int v1silent])), (r1castAs, .inl (cyI, 20, .inl f1castAs)), (r1givenTo, .inl (cyI, 20, .inl f1givenTo)), (a2, .inr (2, [.int v2canons, .int v2present, .int v2stalls, .ref r2there, .ref r2stallOf, .ref r2worth, .ref r2holder, .ref r2wishes, .int v2moves, .ref r2mover, .ref r2movedFrom, .ref r2movedTo])), (r2there, .inl (cyZ, 20, .inl f2there))] sz)) 0 0 (va_A [(a1, .inr (1, [.ref a2, .int v1isOpen, .int v1wasAny, .ref r1castAs, .ref r1givenTo, .int v1ayes, .int v1noes, .int v1silent])), (r1castAs, .inl (cyI, 20, .inl f1castAs)), (r1givenTo, .inl (cyI, 20, .inl f1givenTo)), (a2, .inr (2, [.int v2canons, .int v2present, .int v2stalls, .ref r2there, .ref r2stallOf, .ref r2worth, .ref r2holder, .ref r2wishes, .int v2moves, .ref r2mover, .ref r2movedFrom, .ref r2movedTo])), (r2there, .inl (cyZ, 20, .inl f2there))] sz) := by
  refine Met.ofW (cc := cX1_handOver) (maxL := 4) (ret := (some .boolean)) (by decide) rfl ?_
  intro p e s m args below meth c s₁ B hml hv
  obtain ⟨rfl, hsz, hP, hK, hD0, hN⟩ := hv
  have hx := B.exec
  have hb := B.bytes
  have hr := B.returns
  have hts := atoms_spec (ws := wsX1_handOver) B.pre
  have hown : s.vm.findClass RX1 = some m.cls := findClass_of_methodNamed B.named
  have hlocks := B.notSynchronized
  subst hsz
  have hD := hD0.self (sz := s.heap.size)
  generalize hAe : va_A [(a1, .inr (1, [.ref a2, .int v1isOpen, .int v1wasAny, .ref r1castAs, .ref r1givenTo, .int v1ayes, .int v1noes, .int v1silent])), (r1castAs, .inl (cyI, 20, .inl f1castAs)), (r1givenTo, .inl (cyI, 20, .inl f1givenTo)), (a2, .inr (2, [.int v2canons, .int v2present, .int v2stalls, .ref r2there, .ref r2stallOf, .ref r2worth, .ref r2holder, .ref r2wishes, .int v2moves, .ref r2mover, .ref r2movedFrom, .ref r2movedTo])), (r2there, .inl (cyZ, 20, .inl f2there))] s.heap.size = A at hD ⊢
  have hA : ∀ q : Nat, s.heap.size ≤ q → A q := fun q h => by rw [← hAe]; exact Or.inr h
  have hS : va_S A s.heap s.heap [] := va_S.rf
  have hiX1 : ∀ w ∈ u_ws RX1 TX1 8, w ∈ wsX1_handOver := by decide +kernel
  have lk18 := hts (.fieldLink RX1 18 "StallBook$Ballot" "castAs" "[I") (by decide +kernel)
  have lk22 := hts (.fieldLink RX1 22 "StallBook$Ballot" "givenTo" "[I") (by decide +kernel)
  have lk35 := hts (.fieldLink RX1 35 "StallBook$Ballot" "chapter" "LStallBook$Chapter;") (by decide +kernel)
  delta wp_X1_handOver at h
  have hl := lv_entry [.ref a1, .int p1, .int p2, .int p3] (n := 4) (Nat.le_of_ble_eq_true rfl)
  rw [lg_entry_eq]
  generalize (lg_sl [.ref a1, .int p1, .int p2, .int p3] ++ List.replicate (4 - (lg_sl [.ref a1, .int p1, .int p2, .int p3]).length) Slot.unset).toArray = ls at hl ⊢
  replace hl : lv_has ls 4 [(0, .ref a1), (1, .int p1), (2, .int p2), (3, .int p3)] := hl
  refine lv_iload_n hx hb dX1_handOver_0 rfl (lv_at hl 1 rfl) ?_
  refine lv_iload_n hx hb dX1_handOver_1 rfl (lv_at hl 2 rfl) ?_
  refine lv_icmp_eq (tgt := 27) hx hb dX1_handOver_2 (by decide) (fun c => ?_) (fun c => ?_)
  · replace h := h.1 c
    refine lv_iconst (v := 0) hx hb dX1_handOver_27 (by decide) ?_
    exact W.zret (v := 0) (ty := .boolean) hx hb hr rfl (fun t ht hW => ⟨⟨0, (f1castAs, f1givenTo), rfl, h, by rw [ht]; exact hP, hD⟩, hS.F ht⟩) hS.2.2 dX1_handOver_28
  · replace h := h.2 c
    refine lv_aload_n hx hb dX1_handOver_5 rfl (lv_at hl 0 rfl) ?_
    refine va_get (D := (dC, dI)) (ci := 1) (v := .ref a2) (C := RX1) (T := TX1) (N := 8) hx hb hts hiX1 hown hK hP 0 rfl rfl 0 (by decide) lk35 (fun _ h9 => h9) rfl dX1_handOver_6 ?_
    refine lv_iload_n hx hb dX1_handOver_9 rfl (lv_at hl 1 rfl) ?_
    refine mc_i hP hD hS hA [3, 4] [0, 1, 2] [0, 1, 2, 3, 4] [(a1, .inr (1, [.ref a2, .int v1isOpen, .int v1wasAny, .ref r1castAs, .ref r1givenTo, .int v1ayes, .int v1noes, .int v1silent])), (r1castAs, .inl (cyI, 20, .inl f1castAs)), (r1givenTo, .inl (cyI, 20, .inl f1givenTo))] (fun (u2 : Unit) => [(a1, .inr (1, [.ref a2, .int v1isOpen, .int v1wasAny, .ref r1castAs, .ref r1givenTo, .int v1ayes, .int v1noes, .int v1silent])), (r1castAs, .inl (cyI, 20, .inl f1castAs)), (r1givenTo, .inl (cyI, 20, .inl f1givenTo)), (a2, .inr (2, [.int v2canons, .int v2present, .int v2stalls, .ref r2there, .ref r2stallOf, .ref r2worth, .ref r2holder, .ref r2wishes, .int v2moves, .ref r2mover, .ref r2movedFrom, .ref r2movedTo])), (r2there, .inl (cyZ, 20, .inl f2there))]) rfl rfl (by decide) (by decide) (by decide) (fun _ => rfl) (fun _ => rfl) (va_runVN (C := RX2) (host := "StallBook") (As := [.int p1]) (rest := []) ⟨hx, hb, hml, hown, hts⟩ (c_X2_isThere l dC dI cyI cyZ cyB a2 r2there r2stallOf r2worth r2holder r2wishes r2mover r2movedFrom r2movedTo s.heap.size v2canons v2present v2stalls v2moves f2there p1 _ h) ⟨va_cnB 1 hts ggX1_handOver_X2_isThere rfl rfl rfl (hN.2 (RX1, 45, yX2_isThere) (by decide +kernel)) (hts (.initialized RX2) (by decide +kernel)) (by decide +kernel) ⟨Nat.le_of_ble_eq_true rfl, Nat.le_of_ble_eq_true rfl⟩, hts (.instanceMethod yX2_isThere) (by decide +kernel), hts (.selects RX2 yX2_isThere yX2_isThere) (by decide +kernel)⟩ ⟨MPre_blind, va_recv hK hP (ci := 2) (q0 := 3) rfl rfl, MPre_here [3, 4] hP hD hK hN (by decide) rfl rfl⟩ rfl rfl hl.1 rfl (lv_room (Nat.le_of_ble_eq_true rfl)) dX1_handOver_10 ⟨Nat.zero_le _, Nat.zero_le _⟩) (fun r1 u2 H locs h hP hD hS => ?_)
    replace hP : va_P (dC, dI) vwCl [(a1, .inr (1, [.ref a2, .int v1isOpen, .int v1wasAny, .ref r1castAs, .ref r1givenTo, .int v1ayes, .int v1noes, .int v1silent])), (r1castAs, .inl (cyI, 20, .inl f1castAs)), (r1givenTo, .inl (cyI, 20, .inl f1givenTo)), (a2, .inr (2, [.int v2canons, .int v2present, .int v2stalls, .ref r2there, .ref r2stallOf, .ref r2worth, .ref r2holder, .ref r2wishes, .int v2moves, .ref r2mover, .ref r2movedFrom, .ref r2movedTo])), (r2there, .inl (cyZ, 20, .inl f2there))] H := hP
    replace hD : va_D A [(a1, .inr (1, [.ref a2, .int v1isOpen, .int v1wasAny, .ref r1castAs, .ref r1givenTo, .int v1ayes, .int v1noes, .int v1silent])), (r1castAs, .inl (cyI, 20, .inl f1castAs)), (r1givenTo, .inl (cyI, 20, .inl f1givenTo)), (a2, .inr (2, [.int v2canons, .int v2present, .int v2stalls, .ref r2there, .ref r2stallOf, .ref r2worth, .ref r2holder, .ref r2wishes, .int v2moves, .ref r2mover, .ref r2movedFrom, .ref r2movedTo])), (r2there, .inl (cyZ, 20, .inl f2there))] := hD
    refine lv_if_eq (tgt := 27) hx hb dX1_handOver_13 (by decide) (fun c => ?_) (fun c => ?_)
    · replace h := h.1 c
      refine lv_iconst (v := 0) hx hb dX1_handOver_27 (by decide) ?_
      exact W.zret (v := 0) (ty := .boolean) hx hb hr rfl (fun t ht hW => ⟨⟨0, (f1castAs, f1givenTo), rfl, h, by rw [ht]; exact hP, hD⟩, hS.F ht⟩) hS.2.2 dX1_handOver_28
    · replace h := h.2 c
      refine lv_aload_n hx hb dX1_handOver_16 rfl (lv_at hl 0 rfl) ?_
      refine va_get (D := (dC, dI)) (ci := 1) (v := .ref a2) (C := RX1) (T := TX1) (N := 8) hx hb hts hiX1 hown hK hP 0 rfl rfl 0 (by decide) lk35 (fun _ h9 => h9) rfl dX1_handOver_17 ?_
      refine lv_iload_n hx hb dX1_handOver_20 rfl (lv_at hl 2 rfl) ?_
      refine mc_i hP hD hS hA [3, 4] [0, 1, 2] [0, 1, 2, 3, 4] [(a1, .inr (1, [.ref a2, .int v1isOpen, .int v1wasAny, .ref r1castAs, .ref r1givenTo, .int v1ayes, .int v1noes, .int v1silent])), (r1castAs, .inl (cyI, 20, .inl f1castAs)), (r1givenTo, .inl (cyI, 20, .inl f1givenTo))] (fun (u4 : Unit) => [(a1, .inr (1, [.ref a2, .int v1isOpen, .int v1wasAny, .ref r1castAs, .ref r1givenTo, .int v1ayes, .int v1noes, .int v1silent])), (r1castAs, .inl (cyI, 20, .inl f1castAs)), (r1givenTo, .inl (cyI, 20, .inl f1givenTo)), (a2, .inr (2, [.int v2canons, .int v2present, .int v2stalls, .ref r2there, .ref r2stallOf, .ref r2worth, .ref r2holder, .ref r2wishes, .int v2moves, .ref r2mover, .ref r2movedFrom, .ref r2movedTo])), (r2there, .inl (cyZ, 20, .inl f2there))]) rfl rfl (by decide) (by decide) (by decide) (fun _ => rfl) (fun _ => rfl) (va_runVN (C := RX2) (host := "StallBook") (As := [.int p2]) (rest := []) ⟨hx, hb, hml, hown, hts⟩ (c_X2_isThere l dC dI cyI cyZ cyB a2 r2there r2stallOf r2worth r2holder r2wishes r2mover r2movedFrom r2movedTo H.size v2canons v2present v2stalls v2moves f2there p2 _ h) ⟨va_cnB 1 hts ggX1_handOver_X2_isThere rfl rfl rfl (hN.2 (RX1, 45, yX2_isThere) (by decide +kernel)) (hts (.initialized RX2) (by decide +kernel)) (by decide +kernel) ⟨Nat.le_of_ble_eq_true rfl, Nat.le_of_ble_eq_true rfl⟩, hts (.instanceMethod yX2_isThere) (by decide +kernel), hts (.selects RX2 yX2_isThere yX2_isThere) (by decide +kernel)⟩ ⟨MPre_blind, va_recv hK hP (ci := 2) (q0 := 3) rfl rfl, MPre_here [3, 4] hP hD hK hN (by decide) rfl rfl⟩ rfl rfl hl.1 rfl (lv_room (Nat.le_of_ble_eq_true rfl)) dX1_handOver_21 ⟨Nat.zero_le _, Nat.zero_le _⟩) (fun r3 u4 H locs h hP hD hS => ?_)
      replace hP : va_P (dC, dI) vwCl [(a1, .inr (1, [.ref a2, .int v1isOpen, .int v1wasAny, .ref r1castAs, .ref r1givenTo, .int v1ayes, .int v1noes, .int v1silent])), (r1castAs, .inl (cyI, 20, .inl f1castAs)), (r1givenTo, .inl (cyI, 20, .inl f1givenTo)), (a2, .inr (2, [.int v2canons, .int v2present, .int v2stalls, .ref r2there, .ref r2stallOf, .ref r2worth, .ref r2holder, .ref r2wishes, .int v2moves, .ref r2mover, .ref r2movedFrom, .ref r2movedTo])), (r2there, .inl (cyZ, 20, .inl f2there))] H := hP
      replace hD : va_D A [(a1, .inr (1, [.ref a2, .int v1isOpen, .int v1wasAny, .ref r1castAs, .ref r1givenTo, .int v1ayes, .int v1noes, .int v1silent])), (r1castAs, .inl (cyI, 20, .inl f1castAs)), (r1givenTo, .inl (cyI, 20, .inl f1givenTo)), (a2, .inr (2, [.int v2canons, .int v2present, .int v2stalls, .ref r2there, .ref r2stallOf, .ref r2worth, .ref r2holder, .ref r2wishes, .int v2moves, .ref r2mover, .ref r2movedFrom, .ref r2movedTo])), (r2there, .inl (cyZ, 20, .inl f2there))] := hD
      refine lv_if_ne (tgt := 29) hx hb dX1_handOver_24 (by decide) (fun c => ?_) (fun c => ?_)
      · replace h := h.1 c
        refine lv_aload_n hx hb dX1_handOver_29 rfl (lv_at hl 0 rfl) ?_
        refine va_get (D := (dC, dI)) (ci := 1) (v := .ref r1givenTo) (C := RX1) (T := TX1) (N := 8) hx hb hts hiX1 hown hK hP 0 rfl rfl 4 (by decide) lk22 (fun _ h9 => h9) rfl dX1_handOver_30 ?_
        refine lv_iload_n hx hb dX1_handOver_33 rfl (lv_at hl 2 rfl) ?_
        refine va_iald hx hb hK hP 2 0 rfl rfl h.1 dX1_handOver_34 ?_
        replace h := h.2
        refine lv_iconst (v := (-1)) hx hb dX1_handOver_35 (by decide) ?_
        refine lv_icmp_ne (tgt := 58) hx hb dX1_handOver_36 (by decide) (fun c => ?_) (fun c => ?_)
        · replace h := h.1 c
          refine lv_iconst (v := 0) hx hb dX1_handOver_58 (by decide) ?_
          exact W.zret (v := 0) (ty := .boolean) hx hb hr rfl (fun t ht hW => ⟨⟨0, (f1castAs, f1givenTo), rfl, h, by rw [ht]; exact hP, hD⟩, hS.F ht⟩) hS.2.2 dX1_handOver_59
        · replace h := h.2 c
          refine lv_aload_n hx hb dX1_handOver_39 rfl (lv_at hl 0 rfl) ?_
          refine lv_iload_n hx hb dX1_handOver_40 rfl (lv_at hl 1 rfl) ?_
          refine lv_iconst (v := (-1)) hx hb dX1_handOver_41 (by decide) ?_
          refine mc_i hP hD hS hA [0, 2, 3] [1, 4] [2, 0, 3, 4, 1] [(r1castAs, .inl (cyI, 20, .inl f1castAs)), (r2there, .inl (cyZ, 20, .inl f2there))] (fun (u6 : Unit) => [(a1, .inr (1, [.ref a2, .int v1isOpen, .int v1wasAny, .ref r1castAs, .ref r1givenTo, .int v1ayes, .int v1noes, .int v1silent])), (r1castAs, .inl (cyI, 20, .inl f1castAs)), (r1givenTo, .inl (cyI, 20, .inl f1givenTo)), (a2, .inr (2, [.int v2canons, .int v2present, .int v2stalls, .ref r2there, .ref r2stallOf, .ref r2worth, .ref r2holder, .ref r2wishes, .int v2moves, .ref r2mover, .ref r2movedFrom, .ref r2movedTo])), (r2there, .inl (cyZ, 20, .inl f2there))]) rfl rfl (by decide) (by decide) (by decide) (fun _ => rfl) (fun _ => rfl) (va_runV (As := [.int p1, .int (-1)]) (rest := []) ⟨hx, hb, hml, hown, hts⟩ (c_X1_giversTo l dC dI cyI cyZ cyB a1 a2 r1castAs r1givenTo r2there r2stallOf r2worth r2holder r2wishes r2mover r2movedFrom r2movedTo H.size v1isOpen v1wasAny v1ayes v1noes v1silent f1givenTo v2canons v2present v2stalls v2moves p1 (-1) _ h) (cwV 2 hts gX1_handOver_X1_giversTo rfl rfl rfl (by decide +kernel) ⟨Nat.le_of_ble_eq_true rfl, Nat.le_of_ble_eq_true rfl⟩) ⟨MPre_blind, va_recv hK hP (ci := 1) (q0 := 0) rfl rfl, MPre_here [0, 2, 3] hP hD hK hN (by decide) rfl rfl⟩ rfl rfl hl.1 rfl (lv_room (Nat.le_of_ble_eq_true rfl)) dX1_handOver_42 ⟨Nat.zero_le _, Nat.zero_le _⟩) (fun r5 u6 H locs h hP hD hS => ?_)
          replace hP : va_P (dC, dI) vwCl [(a1, .inr (1, [.ref a2, .int v1isOpen, .int v1wasAny, .ref r1castAs, .ref r1givenTo, .int v1ayes, .int v1noes, .int v1silent])), (r1castAs, .inl (cyI, 20, .inl f1castAs)), (r1givenTo, .inl (cyI, 20, .inl f1givenTo)), (a2, .inr (2, [.int v2canons, .int v2present, .int v2stalls, .ref r2there, .ref r2stallOf, .ref r2worth, .ref r2holder, .ref r2wishes, .int v2moves, .ref r2mover, .ref r2movedFrom, .ref r2movedTo])), (r2there, .inl (cyZ, 20, .inl f2there))] H := hP
          replace hD : va_D A [(a1, .inr (1, [.ref a2, .int v1isOpen, .int v1wasAny, .ref r1castAs, .ref r1givenTo, .int v1ayes, .int v1noes, .int v1silent])), (r1castAs, .inl (cyI, 20, .inl f1castAs)), (r1givenTo, .inl (cyI, 20, .inl f1givenTo)), (a2, .inr (2, [.int v2canons, .int v2present, .int v2stalls, .ref r2there, .ref r2stallOf, .ref r2worth, .ref r2holder, .ref r2wishes, .int v2moves, .ref r2mover, .ref r2movedFrom, .ref r2movedTo])), (r2there, .inl (cyZ, 20, .inl f2there))] := hD
          refine lv_if_gt (tgt := 58) hx hb dX1_handOver_45 (by decide) (fun c => ?_) (fun c => ?_)
          · replace h := h.1 c
            refine lv_iconst (v := 0) hx hb dX1_handOver_58 (by decide) ?_
            exact W.zret (v := 0) (ty := .boolean) hx hb hr rfl (fun t ht hW => ⟨⟨0, (f1castAs, f1givenTo), rfl, h, by rw [ht]; exact hP, hD⟩, hS.F ht⟩) hS.2.2 dX1_handOver_59
          · replace h := h.2 c
            refine lv_aload_n hx hb dX1_handOver_48 rfl (lv_at hl 0 rfl) ?_
            refine lv_iload_n hx hb dX1_handOver_49 rfl (lv_at hl 2 rfl) ?_
            refine lv_iload_n hx hb dX1_handOver_50 rfl (lv_at hl 1 rfl) ?_
            refine mc_i hP hD hS hA [0, 2, 3] [1, 4] [2, 0, 3, 4, 1] [(r1castAs, .inl (cyI, 20, .inl f1castAs)), (r2there, .inl (cyZ, 20, .inl f2there))] (fun (u8 : Unit) => [(a1, .inr (1, [.ref a2, .int v1isOpen, .int v1wasAny, .ref r1castAs, .ref r1givenTo, .int v1ayes, .int v1noes, .int v1silent])), (r1castAs, .inl (cyI, 20, .inl f1castAs)), (r1givenTo, .inl (cyI, 20, .inl f1givenTo)), (a2, .inr (2, [.int v2canons, .int v2present, .int v2stalls, .ref r2there, .ref r2stallOf, .ref r2worth, .ref r2holder, .ref r2wishes, .int v2moves, .ref r2mover, .ref r2movedFrom, .ref r2movedTo])), (r2there, .inl (cyZ, 20, .inl f2there))]) rfl rfl (by decide) (by decide) (by decide) (fun _ => rfl) (fun _ => rfl) (va_runV (As := [.int p2, .int p1]) (rest := []) ⟨hx, hb, hml, hown, hts⟩ (c_X1_giversTo l dC dI cyI cyZ cyB a1 a2 r1castAs r1givenTo r2there r2stallOf r2worth r2holder r2wishes r2mover r2movedFrom r2movedTo H.size v1isOpen v1wasAny v1ayes v1noes v1silent f1givenTo v2canons v2present v2stalls v2moves p2 p1 _ h) (cwV 2 hts gX1_handOver_X1_giversTo rfl rfl rfl (by decide +kernel) ⟨Nat.le_of_ble_eq_true rfl, Nat.le_of_ble_eq_true rfl⟩) ⟨MPre_blind, va_recv hK hP (ci := 1) (q0 := 0) rfl rfl, MPre_here [0, 2, 3] hP hD hK hN (by decide) rfl rfl⟩ rfl rfl hl.1 rfl (lv_room (Nat.le_of_ble_eq_true rfl)) dX1_handOver_51 ⟨Nat.zero_le _, Nat.zero_le _⟩) (fun r7 u8 H locs h hP hD hS => ?_)
            replace hP : va_P (dC, dI) vwCl [(a1, .inr (1, [.ref a2, .int v1isOpen, .int v1wasAny, .ref r1castAs, .ref r1givenTo, .int v1ayes, .int v1noes, .int v1silent])), (r1castAs, .inl (cyI, 20, .inl f1castAs)), (r1givenTo, .inl (cyI, 20, .inl f1givenTo)), (a2, .inr (2, [.int v2canons, .int v2present, .int v2stalls, .ref r2there, .ref r2stallOf, .ref r2worth, .ref r2holder, .ref r2wishes, .int v2moves, .ref r2mover, .ref r2movedFrom, .ref r2movedTo])), (r2there, .inl (cyZ, 20, .inl f2there))] H := hP
            replace hD : va_D A [(a1, .inr (1, [.ref a2, .int v1isOpen, .int v1wasAny, .ref r1castAs, .ref r1givenTo, .int v1ayes, .int v1noes, .int v1silent])), (r1castAs, .inl (cyI, 20, .inl f1castAs)), (r1givenTo, .inl (cyI, 20, .inl f1givenTo)), (a2, .inr (2, [.int v2canons, .int v2present, .int v2stalls, .ref r2there, .ref r2stallOf, .ref r2worth, .ref r2holder, .ref r2wishes, .int v2moves, .ref r2mover, .ref r2movedFrom, .ref r2movedTo])), (r2there, .inl (cyZ, 20, .inl f2there))] := hD
            refine lv_iload_n hx hb dX1_handOver_54 rfl (lv_at hl 3 rfl) ?_
            refine lv_icmp_lt (tgt := 60) hx hb dX1_handOver_55 (by decide) (fun c => ?_) (fun c => ?_)
            · replace h := h.1 c
              refine lv_aload_n hx hb dX1_handOver_60 rfl (lv_at hl 0 rfl) ?_
              refine va_get (D := (dC, dI)) (ci := 1) (v := .ref r1castAs) (C := RX1) (T := TX1) (N := 8) hx hb hts hiX1 hown hK hP 0 rfl rfl 3 (by decide) lk18 (fun _ h9 => h9) rfl dX1_handOver_61 ?_
              refine lv_iload_n hx hb dX1_handOver_64 rfl (lv_at hl 1 rfl) ?_
              refine lv_iconst (v := 0) hx hb dX1_handOver_65 (by decide) ?_
              refine va_iast hx hb hK hP hD hS 1 0 rfl rfl h.1 dX1_handOver_66 (fun H locs hP hD hS => ?_)
              replace h := h.2
              replace hP : va_P (dC, dI) vwCl [(a1, .inr (1, [.ref a2, .int v1isOpen, .int v1wasAny, .ref r1castAs, .ref r1givenTo, .int v1ayes, .int v1noes, .int v1silent])), (r1castAs, .inl (cyI, 20, .inl (upd f1castAs p1.toNatClampNeg 0))), (r1givenTo, .inl (cyI, 20, .inl f1givenTo)), (a2, .inr (2, [.int v2canons, .int v2present, .int v2stalls, .ref r2there, .ref r2stallOf, .ref r2worth, .ref r2holder, .ref r2wishes, .int v2moves, .ref r2mover, .ref r2movedFrom, .ref r2movedTo])), (r2there, .inl (cyZ, 20, .inl f2there))] H := hP
              replace hD : va_D A [(a1, .inr (1, [.ref a2, .int v1isOpen, .int v1wasAny, .ref r1castAs, .ref r1givenTo, .int v1ayes, .int v1noes, .int v1silent])), (r1castAs, .inl (cyI, 20, .inl (upd f1castAs p1.toNatClampNeg 0))), (r1givenTo, .inl (cyI, 20, .inl f1givenTo)), (a2, .inr (2, [.int v2canons, .int v2present, .int v2stalls, .ref r2there, .ref r2stallOf, .ref r2worth, .ref r2holder, .ref r2wishes, .int v2moves, .ref r2mover, .ref r2movedFrom, .ref r2movedTo])), (r2there, .inl (cyZ, 20, .inl f2there))] := hD
              refine lv_aload_n hx hb dX1_handOver_67 rfl (lv_at hl 0 rfl) ?_
              refine va_get (D := (dC, dI)) (ci := 1) (v := .ref r1givenTo) (C := RX1) (T := TX1) (N := 8) hx hb hts hiX1 hown hK hP 0 rfl rfl 4 (by decide) lk22 (fun _ h9 => h9) rfl dX1_handOver_68 ?_
              refine lv_iload_n hx hb dX1_handOver_71 rfl (lv_at hl 1 rfl) ?_
              refine lv_iload_n hx hb dX1_handOver_72 rfl (lv_at hl 2 rfl) ?_
              refine va_iast hx hb hK hP hD hS 2 0 rfl rfl h.1 dX1_handOver_73 (fun H locs hP hD hS => ?_)
              replace h := h.2
              replace hP : va_P (dC, dI) vwCl [(a1, .inr (1, [.ref a2, .int v1isOpen, .int v1wasAny, .ref r1castAs, .ref r1givenTo, .int v1ayes, .int v1noes, .int v1silent])), (r1castAs, .inl (cyI, 20, .inl (upd f1castAs p1.toNatClampNeg 0))), (r1givenTo, .inl (cyI, 20, .inl (upd f1givenTo p1.toNatClampNeg p2))), (a2, .inr (2, [.int v2canons, .int v2present, .int v2stalls, .ref r2there, .ref r2stallOf, .ref r2worth, .ref r2holder, .ref r2wishes, .int v2moves, .ref r2mover, .ref r2movedFrom, .ref r2movedTo])), (r2there, .inl (cyZ, 20, .inl f2there))] H := hP
              replace hD : va_D A [(a1, .inr (1, [.ref a2, .int v1isOpen, .int v1wasAny, .ref r1castAs, .ref r1givenTo, .int v1ayes, .int v1noes, .int v1silent])), (r1castAs, .inl (cyI, 20, .inl (upd f1castAs p1.toNatClampNeg 0))), (r1givenTo, .inl (cyI, 20, .inl (upd f1givenTo p1.toNatClampNeg p2))), (a2, .inr (2, [.int v2canons, .int v2present, .int v2stalls, .ref r2there, .ref r2stallOf, .ref r2worth, .ref r2holder, .ref r2wishes, .int v2moves, .ref r2mover, .ref r2movedFrom, .ref r2movedTo])), (r2there, .inl (cyZ, 20, .inl f2there))] := hD
              refine lv_iconst (v := 1) hx hb dX1_handOver_74 (by decide) ?_
              exact W.zret (v := 1) (ty := .boolean) hx hb hr rfl (fun t ht hW => ⟨⟨1, ((upd f1castAs p1.toNatClampNeg 0), (upd f1givenTo p1.toNatClampNeg p2)), rfl, h, by rw [ht]; exact hP, hD⟩, hS.F ht⟩) hS.2.2 dX1_handOver_75
            · replace h := h.2 c
              refine lv_iconst (v := 0) hx hb dX1_handOver_58 (by decide) ?_
              exact W.zret (v := 0) (ty := .boolean) hx hb hr rfl (fun t ht hW => ⟨⟨0, (f1castAs, f1givenTo), rfl, h, by rw [ht]; exact hP, hD⟩, hS.F ht⟩) hS.2.2 dX1_handOver_59
      · replace h := h.2 c
        refine lv_iconst (v := 0) hx hb dX1_handOver_27 (by decide) ?_
        exact W.zret (v := 0) (ty := .boolean) hx hb hr rfl (fun t ht hW => ⟨⟨0, (f1castAs, f1givenTo), rfl, h, by rw [ht]; exact hP, hD⟩, hS.F ht⟩) hS.2.2 dX1_handOver_28
def wp_X1_countOne (p1 : Int32) (f1castAs : Nat → Int32) (f1givenTo : Nat → Int32) (v1ayes : Int32) (v1noes : Int32) (v1silent : Int32) (Post : Int32 × Int32 × Int32 → Prop) : Prop := (vp_in p1 20 ∧ (∀ x1 : Int32, x1 = (f1givenTo p1.toNatClampNeg) → (((¬ x1 = (-1)) → (vp_in x1 20 ∧ (∀ x2 : Int32, x2 = (f1castAs x1.toNatClampNeg) → (((¬ x2 = 1) → (((¬ x2 = 2) → (Post (v1ayes, v1noes, (v1silent + 1)))) ∧ ((x2 = 2) → (Post (v1ayes, (v1noes + 1), v1silent))))) ∧ ((x2 = 1) → (Post ((v1ayes + 1), v1noes, v1silent))))))) ∧ ((x1 = (-1)) → (vp_in p1 20 ∧ (∀ x3 : Int32, x3 = (f1castAs p1.toNatClampNeg) → (((¬ x3 = 1) → (((¬ x3 = 2) → (Post (v1ayes, v1noes, (v1silent + 1)))) ∧ ((x3 = 2) → (Post (v1ayes, (v1noes + 1), v1silent))))) ∧ ((x3 = 1) → (Post ((v1ayes + 1), v1noes, v1silent))))))))))
set_option maxHeartbeats 4000000 in
set_option maxRecDepth 100000 in
theorem c_X1_countOne (l : Launch) (dC : Nat → ClassId) (dI : Nat → Nat → Nat) (cyI cyZ cyB : ClassId) (a1 : Nat) (a2 : Nat) (r1castAs : Nat) (r1givenTo : Nat) (sz : Nat) (v1isOpen : Int32) (v1wasAny : Int32) (v1ayes : Int32) (v1noes : Int32) (v1silent : Int32) (f1castAs : Nat → Int32) (f1givenTo : Nat → Int32) (p1 : Int32) (Post : Int32 × Int32 × Int32 → Prop) (h : wp_X1_countOne p1 f1castAs f1givenTo v1ayes v1noes v1silent Post) : Met l yX1_countOne wsX1_countOne ({ frames := 0, cells := 0, slots := 0, locals := 0 } : Room) (MPre (dC, dI) [(cyI, .int), (cyZ, .boolean), (cyB, .byte)] [.ref a1, .int p1] sz [(a1, .inr (1, [.ref a2, .int v1isOpen, .int v1wasAny, .ref r1castAs, .ref r1givenTo, .int v1ayes, .int v1noes, .int v1silent])), (r1castAs, .inl (cyI, 20, .inl f1castAs)), (r1givenTo, .inl (cyI, 20, .inl f1givenTo))]) (va_Qv Post (fun (u : Int32 × Int32 × Int32) (t : State) => va_P (dC, dI) vwCl [(a1, .inr (1, [.ref a2, .int v1isOpen, .int v1wasAny, .ref r1castAs, .ref r1givenTo, .int u.1, .int u.2.1, .int u.2.2])), (r1castAs, .inl (cyI, 20, .inl f1castAs)), (r1givenTo, .inl (cyI, 20, .inl f1givenTo))] t.heap ∧ va_D (va_A [(a1, .inr (1, [.ref a2, .int v1isOpen, .int v1wasAny, .ref r1castAs, .ref r1givenTo, .int v1ayes, .int v1noes, .int v1silent])), (r1castAs, .inl (cyI, 20, .inl f1castAs)), (r1givenTo, .inl (cyI, 20, .inl f1givenTo))] sz) [(a1, .inr (1, [.ref a2, .int v1isOpen, .int v1wasAny, .ref r1castAs, .ref r1givenTo, .int u.1, .int u.2.1, .int u.2.2])), (r1castAs, .inl (cyI, 20, .inl f1castAs)), (r1givenTo, .inl (cyI, 20, .inl f1givenTo))]) (va_A [(a1, .inr (1, [.ref a2, .int v1isOpen, .int v1wasAny, .ref r1castAs, .ref r1givenTo, .int v1ayes, .int v1noes, .int v1silent])), (r1castAs, .inl (cyI, 20, .inl f1castAs)), (r1givenTo, .inl (cyI, 20, .inl f1givenTo))] sz)) 0 0 (va_A [(a1, .inr (1, [.ref a2, .int v1isOpen, .int v1wasAny, .ref r1castAs, .ref r1givenTo, .int v1ayes, .int v1noes, .int v1silent])), (r1castAs, .inl (cyI, 20, .inl f1castAs)), (r1givenTo, .inl (cyI, 20, .inl f1givenTo))] sz) := by
  refine Met.ofW (cc := cX1_countOne) (maxL := 4) (ret := none) (by decide) rfl ?_
  intro p e s m args below meth c s₁ B hml hv
  obtain ⟨rfl, hsz, hP, hK, hD0, hN⟩ := hv
  have hx := B.exec
  have hb := B.bytes
  have hr := B.returns
  have hts := atoms_spec (ws := wsX1_countOne) B.pre
  have hown : s.vm.findClass RX1 = some m.cls := findClass_of_methodNamed B.named
  have hlocks := B.notSynchronized
  subst hsz
  have hD := hD0.self (sz := s.heap.size)
  generalize hAe : va_A [(a1, .inr (1, [.ref a2, .int v1isOpen, .int v1wasAny, .ref r1castAs, .ref r1givenTo, .int v1ayes, .int v1noes, .int v1silent])), (r1castAs, .inl (cyI, 20, .inl f1castAs)), (r1givenTo, .inl (cyI, 20, .inl f1givenTo))] s.heap.size = A at hD ⊢
  have hA : ∀ q : Nat, s.heap.size ≤ q → A q := fun q h => by rw [← hAe]; exact Or.inr h
  have hS : va_S A s.heap s.heap [] := va_S.rf
  have hiX1 : ∀ w ∈ u_ws RX1 TX1 8, w ∈ wsX1_countOne := by decide +kernel
  have lk18 := hts (.fieldLink RX1 18 "StallBook$Ballot" "castAs" "[I") (by decide +kernel)
  have lk22 := hts (.fieldLink RX1 22 "StallBook$Ballot" "givenTo" "[I") (by decide +kernel)
  have lk25 := hts (.fieldLink RX1 25 "StallBook$Ballot" "ayes" "I") (by decide +kernel)
  have lk29 := hts (.fieldLink RX1 29 "StallBook$Ballot" "noes" "I") (by decide +kernel)
  have lk32 := hts (.fieldLink RX1 32 "StallBook$Ballot" "silent" "I") (by decide +kernel)
  delta wp_X1_countOne at h
  have hl := lv_entry [.ref a1, .int p1] (n := 4) (Nat.le_of_ble_eq_true rfl)
  rw [lg_entry_eq]
  generalize (lg_sl [.ref a1, .int p1] ++ List.replicate (4 - (lg_sl [.ref a1, .int p1]).length) Slot.unset).toArray = ls at hl ⊢
  replace hl : lv_has ls 4 [(0, .ref a1), (1, .int p1)] := hl
  refine lv_aload_n hx hb dX1_countOne_0 rfl (lv_at hl 0 rfl) ?_
  refine va_get (D := (dC, dI)) (ci := 1) (v := .ref r1givenTo) (C := RX1) (T := TX1) (N := 8) hx hb hts hiX1 hown hK hP 0 rfl rfl 4 (by decide) lk22 (fun _ h9 => h9) rfl dX1_countOne_1 ?_
  refine lv_iload_n hx hb dX1_countOne_4 rfl (lv_at hl 1 rfl) ?_
  refine va_iald hx hb hK hP 2 0 rfl rfl h.1 dX1_countOne_5 ?_
  replace h := h.2
  refine lv_topi (fun x1 ex1 => ?_)
  replace h := h x1 ex1
  refine lv_istore_n (lv' := [(2, .int x1), (0, .ref a1), (1, .int p1)]) hx hb dX1_countOne_6 rfl hl (by decide) rfl (fun ls hl => ?_)
  refine lv_iload_n hx hb dX1_countOne_7 rfl (lv_at hl 0 rfl) ?_
  refine lv_iconst (v := (-1)) hx hb dX1_countOne_8 (by decide) ?_
  refine lv_icmp_ne (tgt := 21) hx hb dX1_countOne_9 (by decide) (fun c => ?_) (fun c => ?_)
  · replace h := h.1 c
    refine lv_aload_n hx hb dX1_countOne_21 rfl (lv_at hl 1 rfl) ?_
    refine va_get (D := (dC, dI)) (ci := 1) (v := .ref r1castAs) (C := RX1) (T := TX1) (N := 8) hx hb hts hiX1 hown hK hP 0 rfl rfl 3 (by decide) lk18 (fun _ h9 => h9) rfl dX1_countOne_22 ?_
    refine lv_iload_n hx hb dX1_countOne_25 rfl (lv_at hl 0 rfl) ?_
    refine va_iald hx hb hK hP 1 0 rfl rfl h.1 dX1_countOne_26 ?_
    replace h := h.2
    refine lv_topi (fun x2 ex2 => ?_)
    replace h := h x2 ex2
    refine lv_istore_n (lv' := [(3, .int x2), (2, .int x1), (0, .ref a1), (1, .int p1)]) hx hb dX1_countOne_27 rfl hl (by decide) rfl (fun ls hl => ?_)
    refine lv_iload_n hx hb dX1_countOne_28 rfl (lv_at hl 0 rfl) ?_
    refine lv_iconst (v := 1) hx hb dX1_countOne_29 (by decide) ?_
    refine lv_icmp_ne (tgt := 46) hx hb dX1_countOne_30 (by decide) (fun c => ?_) (fun c => ?_)
    · replace h := h.1 c
      refine lv_iload_n hx hb dX1_countOne_46 rfl (lv_at hl 0 rfl) ?_
      refine lv_iconst (v := 2) hx hb dX1_countOne_47 (by decide) ?_
      refine lv_icmp_ne (tgt := 64) hx hb dX1_countOne_48 (by decide) (fun c => ?_) (fun c => ?_)
      · replace h := h.1 c
        refine lv_aload_n hx hb dX1_countOne_64 rfl (lv_at hl 2 rfl) ?_
        refine lv_dup hx hb dX1_countOne_65 rfl ?_
        refine va_get (D := (dC, dI)) (ci := 1) (v := .int v1silent) (C := RX1) (T := TX1) (N := 8) hx hb hts hiX1 hown hK hP 0 rfl rfl 7 (by decide) lk32 (fun _ h9 => h9) rfl dX1_countOne_66 ?_
        refine lv_iconst (v := 1) hx hb dX1_countOne_69 (by decide) ?_
        refine lv_iadd hx hb dX1_countOne_70 ?_
        refine va_put (D := (dC, dI)) (ci := 1) (v := .int (v1silent + 1)) (ty := .int) (C := RX1) (T := TX1) (N := 8) hx hb hts hiX1 tyX1 tyX1_ok nmX1 hown hK hP hD hS 0 rfl rfl 7 (by decide) lk32 (fun _ h9 => h9) rfl (by decide +kernel) rfl rfl (Nat.le_of_ble_eq_true rfl) dX1_countOne_71 (fun H locs hP hD hS => ?_)
        replace hP : va_P (dC, dI) vwCl [(a1, .inr (1, [.ref a2, .int v1isOpen, .int v1wasAny, .ref r1castAs, .ref r1givenTo, .int v1ayes, .int v1noes, .int (v1silent + 1)])), (r1castAs, .inl (cyI, 20, .inl f1castAs)), (r1givenTo, .inl (cyI, 20, .inl f1givenTo))] H := hP
        replace hD : va_D A [(a1, .inr (1, [.ref a2, .int v1isOpen, .int v1wasAny, .ref r1castAs, .ref r1givenTo, .int v1ayes, .int v1noes, .int (v1silent + 1)])), (r1castAs, .inl (cyI, 20, .inl f1castAs)), (r1givenTo, .inl (cyI, 20, .inl f1givenTo))] := hD
        exact W.vret hx hb hr (fun t ht hW => ⟨⟨(v1ayes, v1noes, (v1silent + 1)), rfl, h, by rw [ht]; exact hP, hD⟩, hS.F ht⟩) hS.2.2 dX1_countOne_74
      · replace h := h.2 c
        refine lv_aload_n hx hb dX1_countOne_51 rfl (lv_at hl 2 rfl) ?_
        refine lv_dup hx hb dX1_countOne_52 rfl ?_
        refine va_get (D := (dC, dI)) (ci := 1) (v := .int v1noes) (C := RX1) (T := TX1) (N := 8) hx hb hts hiX1 hown hK hP 0 rfl rfl 6 (by decide) lk29 (fun _ h9 => h9) rfl dX1_countOne_53 ?_
        refine lv_iconst (v := 1) hx hb dX1_countOne_56 (by decide) ?_
        refine lv_iadd hx hb dX1_countOne_57 ?_
        refine va_put (D := (dC, dI)) (ci := 1) (v := .int (v1noes + 1)) (ty := .int) (C := RX1) (T := TX1) (N := 8) hx hb hts hiX1 tyX1 tyX1_ok nmX1 hown hK hP hD hS 0 rfl rfl 6 (by decide) lk29 (fun _ h9 => h9) rfl (by decide +kernel) rfl rfl (Nat.le_of_ble_eq_true rfl) dX1_countOne_58 (fun H locs hP hD hS => ?_)
        replace hP : va_P (dC, dI) vwCl [(a1, .inr (1, [.ref a2, .int v1isOpen, .int v1wasAny, .ref r1castAs, .ref r1givenTo, .int v1ayes, .int (v1noes + 1), .int v1silent])), (r1castAs, .inl (cyI, 20, .inl f1castAs)), (r1givenTo, .inl (cyI, 20, .inl f1givenTo))] H := hP
        replace hD : va_D A [(a1, .inr (1, [.ref a2, .int v1isOpen, .int v1wasAny, .ref r1castAs, .ref r1givenTo, .int v1ayes, .int (v1noes + 1), .int v1silent])), (r1castAs, .inl (cyI, 20, .inl f1castAs)), (r1givenTo, .inl (cyI, 20, .inl f1givenTo))] := hD
        refine lv_goto (tgt := 74) hx hb dX1_countOne_61 (by decide) ?_
        exact W.vret hx hb hr (fun t ht hW => ⟨⟨(v1ayes, (v1noes + 1), v1silent), rfl, h, by rw [ht]; exact hP, hD⟩, hS.F ht⟩) hS.2.2 dX1_countOne_74
    · replace h := h.2 c
      refine lv_aload_n hx hb dX1_countOne_33 rfl (lv_at hl 2 rfl) ?_
      refine lv_dup hx hb dX1_countOne_34 rfl ?_
      refine va_get (D := (dC, dI)) (ci := 1) (v := .int v1ayes) (C := RX1) (T := TX1) (N := 8) hx hb hts hiX1 hown hK hP 0 rfl rfl 5 (by decide) lk25 (fun _ h9 => h9) rfl dX1_countOne_35 ?_
      refine lv_iconst (v := 1) hx hb dX1_countOne_38 (by decide) ?_
      refine lv_iadd hx hb dX1_countOne_39 ?_
      refine va_put (D := (dC, dI)) (ci := 1) (v := .int (v1ayes + 1)) (ty := .int) (C := RX1) (T := TX1) (N := 8) hx hb hts hiX1 tyX1 tyX1_ok nmX1 hown hK hP hD hS 0 rfl rfl 5 (by decide) lk25 (fun _ h9 => h9) rfl (by decide +kernel) rfl rfl (Nat.le_of_ble_eq_true rfl) dX1_countOne_40 (fun H locs hP hD hS => ?_)
      replace hP : va_P (dC, dI) vwCl [(a1, .inr (1, [.ref a2, .int v1isOpen, .int v1wasAny, .ref r1castAs, .ref r1givenTo, .int (v1ayes + 1), .int v1noes, .int v1silent])), (r1castAs, .inl (cyI, 20, .inl f1castAs)), (r1givenTo, .inl (cyI, 20, .inl f1givenTo))] H := hP
      replace hD : va_D A [(a1, .inr (1, [.ref a2, .int v1isOpen, .int v1wasAny, .ref r1castAs, .ref r1givenTo, .int (v1ayes + 1), .int v1noes, .int v1silent])), (r1castAs, .inl (cyI, 20, .inl f1castAs)), (r1givenTo, .inl (cyI, 20, .inl f1givenTo))] := hD
      refine lv_goto (tgt := 74) hx hb dX1_countOne_43 (by decide) ?_
      exact W.vret hx hb hr (fun t ht hW => ⟨⟨((v1ayes + 1), v1noes, v1silent), rfl, h, by rw [ht]; exact hP, hD⟩, hS.F ht⟩) hS.2.2 dX1_countOne_74
  · replace h := h.2 c
    refine lv_aload_n hx hb dX1_countOne_12 rfl (lv_at hl 1 rfl) ?_
    refine va_get (D := (dC, dI)) (ci := 1) (v := .ref r1castAs) (C := RX1) (T := TX1) (N := 8) hx hb hts hiX1 hown hK hP 0 rfl rfl 3 (by decide) lk18 (fun _ h9 => h9) rfl dX1_countOne_13 ?_
    refine lv_iload_n hx hb dX1_countOne_16 rfl (lv_at hl 2 rfl) ?_
    refine va_iald hx hb hK hP 1 0 rfl rfl h.1 dX1_countOne_17 ?_
    replace h := h.2
    refine lv_goto (tgt := 27) hx hb dX1_countOne_18 (by decide) ?_
    refine lv_topi (fun x3 ex3 => ?_)
    replace h := h x3 ex3
    refine lv_istore_n (lv' := [(3, .int x3), (2, .int x1), (0, .ref a1), (1, .int p1)]) hx hb dX1_countOne_27 rfl hl (by decide) rfl (fun ls hl => ?_)
    refine lv_iload_n hx hb dX1_countOne_28 rfl (lv_at hl 0 rfl) ?_
    refine lv_iconst (v := 1) hx hb dX1_countOne_29 (by decide) ?_
    refine lv_icmp_ne (tgt := 46) hx hb dX1_countOne_30 (by decide) (fun c => ?_) (fun c => ?_)
    · replace h := h.1 c
      refine lv_iload_n hx hb dX1_countOne_46 rfl (lv_at hl 0 rfl) ?_
      refine lv_iconst (v := 2) hx hb dX1_countOne_47 (by decide) ?_
      refine lv_icmp_ne (tgt := 64) hx hb dX1_countOne_48 (by decide) (fun c => ?_) (fun c => ?_)
      · replace h := h.1 c
        refine lv_aload_n hx hb dX1_countOne_64 rfl (lv_at hl 2 rfl) ?_
        refine lv_dup hx hb dX1_countOne_65 rfl ?_
        refine va_get (D := (dC, dI)) (ci := 1) (v := .int v1silent) (C := RX1) (T := TX1) (N := 8) hx hb hts hiX1 hown hK hP 0 rfl rfl 7 (by decide) lk32 (fun _ h9 => h9) rfl dX1_countOne_66 ?_
        refine lv_iconst (v := 1) hx hb dX1_countOne_69 (by decide) ?_
        refine lv_iadd hx hb dX1_countOne_70 ?_
        refine va_put (D := (dC, dI)) (ci := 1) (v := .int (v1silent + 1)) (ty := .int) (C := RX1) (T := TX1) (N := 8) hx hb hts hiX1 tyX1 tyX1_ok nmX1 hown hK hP hD hS 0 rfl rfl 7 (by decide) lk32 (fun _ h9 => h9) rfl (by decide +kernel) rfl rfl (Nat.le_of_ble_eq_true rfl) dX1_countOne_71 (fun H locs hP hD hS => ?_)
        replace hP : va_P (dC, dI) vwCl [(a1, .inr (1, [.ref a2, .int v1isOpen, .int v1wasAny, .ref r1castAs, .ref r1givenTo, .int v1ayes, .int v1noes, .int (v1silent + 1)])), (r1castAs, .inl (cyI, 20, .inl f1castAs)), (r1givenTo, .inl (cyI, 20, .inl f1givenTo))] H := hP
        replace hD : va_D A [(a1, .inr (1, [.ref a2, .int v1isOpen, .int v1wasAny, .ref r1castAs, .ref r1givenTo, .int v1ayes, .int v1noes, .int (v1silent + 1)])), (r1castAs, .inl (cyI, 20, .inl f1castAs)), (r1givenTo, .inl (cyI, 20, .inl f1givenTo))] := hD
        exact W.vret hx hb hr (fun t ht hW => ⟨⟨(v1ayes, v1noes, (v1silent + 1)), rfl, h, by rw [ht]; exact hP, hD⟩, hS.F ht⟩) hS.2.2 dX1_countOne_74
      · replace h := h.2 c
        refine lv_aload_n hx hb dX1_countOne_51 rfl (lv_at hl 2 rfl) ?_
        refine lv_dup hx hb dX1_countOne_52 rfl ?_
        refine va_get (D := (dC, dI)) (ci := 1) (v := .int v1noes) (C := RX1) (T := TX1) (N := 8) hx hb hts hiX1 hown hK hP 0 rfl rfl 6 (by decide) lk29 (fun _ h9 => h9) rfl dX1_countOne_53 ?_
        refine lv_iconst (v := 1) hx hb dX1_countOne_56 (by decide) ?_
        refine lv_iadd hx hb dX1_countOne_57 ?_
        refine va_put (D := (dC, dI)) (ci := 1) (v := .int (v1noes + 1)) (ty := .int) (C := RX1) (T := TX1) (N := 8) hx hb hts hiX1 tyX1 tyX1_ok nmX1 hown hK hP hD hS 0 rfl rfl 6 (by decide) lk29 (fun _ h9 => h9) rfl (by decide +kernel) rfl rfl (Nat.le_of_ble_eq_true rfl) dX1_countOne_58 (fun H locs hP hD hS => ?_)
        replace hP : va_P (dC, dI) vwCl [(a1, .inr (1, [.ref a2, .int v1isOpen, .int v1wasAny, .ref r1castAs, .ref r1givenTo, .int v1ayes, .int (v1noes + 1), .int v1silent])), (r1castAs, .inl (cyI, 20, .inl f1castAs)), (r1givenTo, .inl (cyI, 20, .inl f1givenTo))] H := hP
        replace hD : va_D A [(a1, .inr (1, [.ref a2, .int v1isOpen, .int v1wasAny, .ref r1castAs, .ref r1givenTo, .int v1ayes, .int (v1noes + 1), .int v1silent])), (r1castAs, .inl (cyI, 20, .inl f1castAs)), (r1givenTo, .inl (cyI, 20, .inl f1givenTo))] := hD
        refine lv_goto (tgt := 74) hx hb dX1_countOne_61 (by decide) ?_
        exact W.vret hx hb hr (fun t ht hW => ⟨⟨(v1ayes, (v1noes + 1), v1silent), rfl, h, by rw [ht]; exact hP, hD⟩, hS.F ht⟩) hS.2.2 dX1_countOne_74
    · replace h := h.2 c
      refine lv_aload_n hx hb dX1_countOne_33 rfl (lv_at hl 2 rfl) ?_
      refine lv_dup hx hb dX1_countOne_34 rfl ?_
      refine va_get (D := (dC, dI)) (ci := 1) (v := .int v1ayes) (C := RX1) (T := TX1) (N := 8) hx hb hts hiX1 hown hK hP 0 rfl rfl 5 (by decide) lk25 (fun _ h9 => h9) rfl dX1_countOne_35 ?_
      refine lv_iconst (v := 1) hx hb dX1_countOne_38 (by decide) ?_
      refine lv_iadd hx hb dX1_countOne_39 ?_
      refine va_put (D := (dC, dI)) (ci := 1) (v := .int (v1ayes + 1)) (ty := .int) (C := RX1) (T := TX1) (N := 8) hx hb hts hiX1 tyX1 tyX1_ok nmX1 hown hK hP hD hS 0 rfl rfl 5 (by decide) lk25 (fun _ h9 => h9) rfl (by decide +kernel) rfl rfl (Nat.le_of_ble_eq_true rfl) dX1_countOne_40 (fun H locs hP hD hS => ?_)
      replace hP : va_P (dC, dI) vwCl [(a1, .inr (1, [.ref a2, .int v1isOpen, .int v1wasAny, .ref r1castAs, .ref r1givenTo, .int (v1ayes + 1), .int v1noes, .int v1silent])), (r1castAs, .inl (cyI, 20, .inl f1castAs)), (r1givenTo, .inl (cyI, 20, .inl f1givenTo))] H := hP
      replace hD : va_D A [(a1, .inr (1, [.ref a2, .int v1isOpen, .int v1wasAny, .ref r1castAs, .ref r1givenTo, .int (v1ayes + 1), .int v1noes, .int v1silent])), (r1castAs, .inl (cyI, 20, .inl f1castAs)), (r1givenTo, .inl (cyI, 20, .inl f1givenTo))] := hD
      refine lv_goto (tgt := 74) hx hb dX1_countOne_43 (by decide) ?_
      exact W.vret hx hb hr (fun t ht hW => ⟨⟨((v1ayes + 1), v1noes, v1silent), rfl, h, by rw [ht]; exact hP, hD⟩, hS.F ht⟩) hS.2.2 dX1_countOne_74
def lp_X1_countUp_17 (f1castAs : Nat → Int32) (f1givenTo : Nat → Int32) (v2canons : Int32) (f2there : Nat → Int32) (Post : Int32 × Int32 × Int32 → Prop) (K : Int32 → Int32 → Int32 → Int32 → Prop) : Nat → Int32 → Int32 → Int32 → Int32 → Prop
  | 0, _, _, _, _ => False
  | n + 1, y1, v1ayes, v1noes, v1silent => (((v2canons ≤ y1) → (K y1 v1ayes v1noes v1silent)) ∧ ((¬ v2canons ≤ y1) → (wp_X2_isThere y1 v2canons f2there (fun (r1 : Int32) (u2 : Unit) => (((r1 = 0) → (∀ x3 : Int32, x3 = y1 + 1 → (lp_X1_countUp_17 f1castAs f1givenTo v2canons f2there Post K n x3 v1ayes v1noes v1silent))) ∧ ((¬ r1 = 0) → (wp_X1_countOne y1 f1castAs f1givenTo v1ayes v1noes v1silent (fun (u5 : Int32 × Int32 × Int32) => (∀ x6 : Int32, x6 = y1 + 1 → (lp_X1_countUp_17 f1castAs f1givenTo v2canons f2there Post K n x6 u5.1 u5.2.1 u5.2.2))))))))))
def wp_X1_countUp (f1castAs : Nat → Int32) (f1givenTo : Nat → Int32) (v1ayes : Int32) (v1noes : Int32) (v1silent : Int32) (v2canons : Int32) (f2there : Nat → Int32) (Post : Int32 × Int32 × Int32 → Prop) : Prop := (∃ n11 : Nat, lp_X1_countUp_17 f1castAs f1givenTo v2canons f2there Post (fun (x7 : Int32) (x8 : Int32) (x9 : Int32) (x10 : Int32) => (Post (x8, x9, x10))) n11 0 0 0 0)
set_option maxHeartbeats 4000000 in
set_option maxRecDepth 100000 in
theorem c_X1_countUp (l : Launch) (dC : Nat → ClassId) (dI : Nat → Nat → Nat) (cyI cyZ cyB : ClassId) (a1 : Nat) (a2 : Nat) (r1castAs : Nat) (r1givenTo : Nat) (r2there : Nat) (r2stallOf : Nat) (r2worth : Nat) (r2holder : Nat) (r2wishes : Nat) (r2mover : Nat) (r2movedFrom : Nat) (r2movedTo : Nat) (sz : Nat) (v1isOpen : Int32) (v1wasAny : Int32) (v1ayes : Int32) (v1noes : Int32) (v1silent : Int32) (f1castAs : Nat → Int32) (f1givenTo : Nat → Int32) (v2canons : Int32) (v2present : Int32) (v2stalls : Int32) (v2moves : Int32) (f2there : Nat → Int32)  (Post : Int32 × Int32 × Int32 → Prop) (h : wp_X1_countUp f1castAs f1givenTo v1ayes v1noes v1silent v2canons f2there Post) : Met l yX1_countUp wsX1_countUp ({ frames := 2, cells := 0, slots := 0, locals := 42 } : Room) (MPre (dC, dI) [(cyI, .int), (cyZ, .boolean), (cyB, .byte)] [.ref a1] sz [(a1, .inr (1, [.ref a2, .int v1isOpen, .int v1wasAny, .ref r1castAs, .ref r1givenTo, .int v1ayes, .int v1noes, .int v1silent])), (r1castAs, .inl (cyI, 20, .inl f1castAs)), (r1givenTo, .inl (cyI, 20, .inl f1givenTo)), (a2, .inr (2, [.int v2canons, .int v2present, .int v2stalls, .ref r2there, .ref r2stallOf, .ref r2worth, .ref r2holder, .ref r2wishes, .int v2moves, .ref r2mover, .ref r2movedFrom, .ref r2movedTo])), (r2there, .inl (cyZ, 20, .inl f2there))]) (va_Qv Post (fun (u : Int32 × Int32 × Int32) (t : State) => va_P (dC, dI) vwCl [(a1, .inr (1, [.ref a2, .int v1isOpen, .int v1wasAny, .ref r1castAs, .ref r1givenTo, .int u.1, .int u.2.1, .int u.2.2])), (r1castAs, .inl (cyI, 20, .inl f1castAs)), (r1givenTo, .inl (cyI, 20, .inl f1givenTo)), (a2, .inr (2, [.int v2canons, .int v2present, .int v2stalls, .ref r2there, .ref r2stallOf, .ref r2worth, .ref r2holder, .ref r2wishes, .int v2moves, .ref r2mover, .ref r2movedFrom, .ref r2movedTo])), (r2there, .inl (cyZ, 20, .inl f2there))] t.heap ∧ va_D (va_A [(a1, .inr (1, [.ref a2, .int v1isOpen, .int v1wasAny, .ref r1castAs, .ref r1givenTo, .int v1ayes, .int v1noes, .int v1silent])), (r1castAs, .inl (cyI, 20, .inl f1castAs)), (r1givenTo, .inl (cyI, 20, .inl f1givenTo)), (a2, .inr (2, [.int v2canons, .int v2present, .int v2stalls, .ref r2there, .ref r2stallOf, .ref r2worth, .ref r2holder, .ref r2wishes, .int v2moves, .ref r2mover, .ref r2movedFrom, .ref r2movedTo])), (r2there, .inl (cyZ, 20, .inl f2there))] sz) [(a1, .inr (1, [.ref a2, .int v1isOpen, .int v1wasAny, .ref r1castAs, .ref r1givenTo, .int u.1, .int u.2.1, .int u.2.2])), (r1castAs, .inl (cyI, 20, .inl f1castAs)), (r1givenTo, .inl (cyI, 20, .inl f1givenTo)), (a2, .inr (2, [.int v2canons, .int v2present, .int v2stalls, .ref r2there, .ref r2stallOf, .ref r2worth, .ref r2holder, .ref r2wishes, .int v2moves, .ref r2mover, .ref r2movedFrom, .ref r2movedTo])), (r2there, .inl (cyZ, 20, .inl f2there))]) (va_A [(a1, .inr (1, [.ref a2, .int v1isOpen, .int v1wasAny, .ref r1castAs, .ref r1givenTo, .int v1ayes, .int v1noes, .int v1silent])), (r1castAs, .inl (cyI, 20, .inl f1castAs)), (r1givenTo, .inl (cyI, 20, .inl f1givenTo)), (a2, .inr (2, [.int v2canons, .int v2present, .int v2stalls, .ref r2there, .ref r2stallOf, .ref r2worth, .ref r2holder, .ref r2wishes, .int v2moves, .ref r2mover, .ref r2movedFrom, .ref r2movedTo])), (r2there, .inl (cyZ, 20, .inl f2there))] sz)) 0 0 (va_A [(a1, .inr (1, [.ref a2, .int v1isOpen, .int v1wasAny, .ref r1castAs, .ref r1givenTo, .int v1ayes, .int v1noes, .int v1silent])), (r1castAs, .inl (cyI, 20, .inl f1castAs)), (r1givenTo, .inl (cyI, 20, .inl f1givenTo)), (a2, .inr (2, [.int v2canons, .int v2present, .int v2stalls, .ref r2there, .ref r2stallOf, .ref r2worth, .ref r2holder, .ref r2wishes, .int v2moves, .ref r2mover, .ref r2movedFrom, .ref r2movedTo])), (r2there, .inl (cyZ, 20, .inl f2there))] sz) := by
  refine Met.ofW (cc := cX1_countUp) (maxL := 2) (ret := none) (by decide) rfl ?_
  intro p e s m args below meth c s₁ B hml hv
  obtain ⟨rfl, hsz, hP, hK, hD0, hN⟩ := hv
  have hx := B.exec
  have hb := B.bytes
  have hr := B.returns
  have hts := atoms_spec (ws := wsX1_countUp) B.pre
  have hown : s.vm.findClass RX1 = some m.cls := findClass_of_methodNamed B.named
  have hlocks := B.notSynchronized
  subst hsz
  have hD := hD0.self (sz := s.heap.size)
  generalize hAe : va_A [(a1, .inr (1, [.ref a2, .int v1isOpen, .int v1wasAny, .ref r1castAs, .ref r1givenTo, .int v1ayes, .int v1noes, .int v1silent])), (r1castAs, .inl (cyI, 20, .inl f1castAs)), (r1givenTo, .inl (cyI, 20, .inl f1givenTo)), (a2, .inr (2, [.int v2canons, .int v2present, .int v2stalls, .ref r2there, .ref r2stallOf, .ref r2worth, .ref r2holder, .ref r2wishes, .int v2moves, .ref r2mover, .ref r2movedFrom, .ref r2movedTo])), (r2there, .inl (cyZ, 20, .inl f2there))] s.heap.size = A at hD ⊢
  have hA : ∀ q : Nat, s.heap.size ≤ q → A q := fun q h => by rw [← hAe]; exact Or.inr h
  have hS : va_S A s.heap s.heap [] := va_S.rf
  have hiX1 : ∀ w ∈ u_ws RX1 TX1 8, w ∈ wsX1_countUp := by decide +kernel
  have hiX2 : ∀ w ∈ u_ws RX2 TX2 12, w ∈ wsX1_countUp := by decide +kernel
  have lk25 := hts (.fieldLink RX1 25 "StallBook$Ballot" "ayes" "I") (by decide +kernel)
  have lk29 := hts (.fieldLink RX1 29 "StallBook$Ballot" "noes" "I") (by decide +kernel)
  have lk32 := hts (.fieldLink RX1 32 "StallBook$Ballot" "silent" "I") (by decide +kernel)
  have lk35 := hts (.fieldLink RX1 35 "StallBook$Ballot" "chapter" "LStallBook$Chapter;") (by decide +kernel)
  have lk55 : (Cond.fieldLinkNest RX1 55 "StallBook$Chapter" "canons" "I" "StallBook").before ([.ref a1] : List Value).toArray s = true := va_Nw.use rfl (hN.1 (RX1, 55, "StallBook$Chapter", "canons", "I") (by decide +kernel))
  have L17 : ∀ (f1castAs : Nat → Int32) (f1givenTo : Nat → Int32) (v2canons : Int32) (f2there : Nat → Int32) (K : Int32 → Int32 → Int32 → Int32 → Prop) (n : Nat) (y1 : Int32) (v1ayes : Int32) (v1noes : Int32) (v1silent : Int32) (H : Heap) (locs : List Loc) (ls : Array Slot), lp_X1_countUp_17 f1castAs f1givenTo v2canons f2there Post K n y1 v1ayes v1noes v1silent → va_P (dC, dI) vwCl [(a1, .inr (1, [.ref a2, .int v1isOpen, .int v1wasAny, .ref r1castAs, .ref r1givenTo, .int v1ayes, .int v1noes, .int v1silent])), (r1castAs, .inl (cyI, 20, .inl f1castAs)), (r1givenTo, .inl (cyI, 20, .inl f1givenTo)), (a2, .inr (2, [.int v2canons, .int v2present, .int v2stalls, .ref r2there, .ref r2stallOf, .ref r2worth, .ref r2holder, .ref r2wishes, .int v2moves, .ref r2mover, .ref r2movedFrom, .ref r2movedTo])), (r2there, .inl (cyZ, 20, .inl f2there))] H → va_D A [(a1, .inr (1, [.ref a2, .int v1isOpen, .int v1wasAny, .ref r1castAs, .ref r1givenTo, .int v1ayes, .int v1noes, .int v1silent])), (r1castAs, .inl (cyI, 20, .inl f1castAs)), (r1givenTo, .inl (cyI, 20, .inl f1givenTo)), (a2, .inr (2, [.int v2canons, .int v2present, .int v2stalls, .ref r2there, .ref r2stallOf, .ref r2worth, .ref r2holder, .ref r2wishes, .int v2moves, .ref r2mover, .ref r2movedFrom, .ref r2movedTo])), (r2there, .inl (cyZ, 20, .inl f2there))] → va_S A s.heap H locs → lv_has ls 2 [(0, .ref a1), (1, .int y1)] → (∀ (y1 : Int32) (v1ayes : Int32) (v1noes : Int32) (v1silent : Int32) (H : Heap) (locs : List Loc) (ls : Array Slot), K y1 v1ayes v1noes v1silent → va_P (dC, dI) vwCl [(a1, .inr (1, [.ref a2, .int v1isOpen, .int v1wasAny, .ref r1castAs, .ref r1givenTo, .int v1ayes, .int v1noes, .int v1silent])), (r1castAs, .inl (cyI, 20, .inl f1castAs)), (r1givenTo, .inl (cyI, 20, .inl f1givenTo)), (a2, .inr (2, [.int v2canons, .int v2present, .int v2stalls, .ref r2there, .ref r2stallOf, .ref r2worth, .ref r2holder, .ref r2wishes, .int v2moves, .ref r2mover, .ref r2movedFrom, .ref r2movedTo])), (r2there, .inl (cyZ, 20, .inl f2there))] H → va_D A [(a1, .inr (1, [.ref a2, .int v1isOpen, .int v1wasAny, .ref r1castAs, .ref r1givenTo, .int v1ayes, .int v1noes, .int v1silent])), (r1castAs, .inl (cyI, 20, .inl f1castAs)), (r1givenTo, .inl (cyI, 20, .inl f1givenTo)), (a2, .inr (2, [.int v2canons, .int v2present, .int v2stalls, .ref r2there, .ref r2stallOf, .ref r2worth, .ref r2holder, .ref r2wishes, .int v2moves, .ref r2mover, .ref r2movedFrom, .ref r2movedTo])), (r2there, .inl (cyZ, 20, .inl f2there))] → va_S A s.heap H locs → lv_has ls 2 [(0, .ref a1), (1, .int y1)] → W p l e (headSpec wsX1_countUp ({ frames := 2, cells := 0, slots := 0, locals := 42 } : Room)).room s m ([.ref a1] : List Value).toArray below meth c H locs 0 0 (MQ below (va_Qv Post (fun (u : Int32 × Int32 × Int32) (t : State) => va_P (dC, dI) vwCl [(a1, .inr (1, [.ref a2, .int v1isOpen, .int v1wasAny, .ref r1castAs, .ref r1givenTo, .int u.1, .int u.2.1, .int u.2.2])), (r1castAs, .inl (cyI, 20, .inl f1castAs)), (r1givenTo, .inl (cyI, 20, .inl f1givenTo)), (a2, .inr (2, [.int v2canons, .int v2present, .int v2stalls, .ref r2there, .ref r2stallOf, .ref r2worth, .ref r2holder, .ref r2wishes, .int v2moves, .ref r2mover, .ref r2movedFrom, .ref r2movedTo])), (r2there, .inl (cyZ, 20, .inl f2there))] t.heap ∧ va_D A [(a1, .inr (1, [.ref a2, .int v1isOpen, .int v1wasAny, .ref r1castAs, .ref r1givenTo, .int u.1, .int u.2.1, .int u.2.2])), (r1castAs, .inl (cyI, 20, .inl f1castAs)), (r1givenTo, .inl (cyI, 20, .inl f1givenTo)), (a2, .inr (2, [.int v2canons, .int v2present, .int v2stalls, .ref r2there, .ref r2stallOf, .ref r2worth, .ref r2holder, .ref r2wishes, .int v2moves, .ref r2mover, .ref r2movedFrom, .ref r2movedTo])), (r2there, .inl (cyZ, 20, .inl f2there))]) A) ([.ref a1] : List Value).toArray s 0 0 A) (F0 m 50 ls [])) → W p l e (headSpec wsX1_countUp ({ frames := 2, cells := 0, slots := 0, locals := 42 } : Room)).room s m ([.ref a1] : List Value).toArray below meth c H locs 0 0 (MQ below (va_Qv Post (fun (u : Int32 × Int32 × Int32) (t : State) => va_P (dC, dI) vwCl [(a1, .inr (1, [.ref a2, .int v1isOpen, .int v1wasAny, .ref r1castAs, .ref r1givenTo, .int u.1, .int u.2.1, .int u.2.2])), (r1castAs, .inl (cyI, 20, .inl f1castAs)), (r1givenTo, .inl (cyI, 20, .inl f1givenTo)), (a2, .inr (2, [.int v2canons, .int v2present, .int v2stalls, .ref r2there, .ref r2stallOf, .ref r2worth, .ref r2holder, .ref r2wishes, .int v2moves, .ref r2mover, .ref r2movedFrom, .ref r2movedTo])), (r2there, .inl (cyZ, 20, .inl f2there))] t.heap ∧ va_D A [(a1, .inr (1, [.ref a2, .int v1isOpen, .int v1wasAny, .ref r1castAs, .ref r1givenTo, .int u.1, .int u.2.1, .int u.2.2])), (r1castAs, .inl (cyI, 20, .inl f1castAs)), (r1givenTo, .inl (cyI, 20, .inl f1givenTo)), (a2, .inr (2, [.int v2canons, .int v2present, .int v2stalls, .ref r2there, .ref r2stallOf, .ref r2worth, .ref r2holder, .ref r2wishes, .int v2moves, .ref r2mover, .ref r2movedFrom, .ref r2movedTo])), (r2there, .inl (cyZ, 20, .inl f2there))]) A) ([.ref a1] : List Value).toArray s 0 0 A) (F0 m 17 ls []) := by
    intro f1castAs f1givenTo v2canons f2there K n
    induction n with
    | zero =>
      intro y1 v1ayes v1noes v1silent H locs ls h
      exact (h : False).elim
    | succ n ih =>
      intro y1 v1ayes v1noes v1silent H locs ls h hP hD hS hl kk
      rw [lp_X1_countUp_17] at h
      refine lv_iload_n hx hb dX1_countUp_17 rfl (lv_at hl 1 rfl) ?_
      refine lv_aload_n hx hb dX1_countUp_18 rfl (lv_at hl 0 rfl) ?_
      refine va_get (D := (dC, dI)) (ci := 1) (v := .ref a2) (C := RX1) (T := TX1) (N := 8) hx hb hts hiX1 hown hK hP 0 rfl rfl 0 (by decide) lk35 (fun _ h9 => h9) rfl dX1_countUp_19 ?_
      refine va_getN (D := (dC, dI)) (ci := 2) (v := .int v2canons) (C := RX2) (T := TX2) (N := 12) hx hb hts hiX2 hown hK hP 3 rfl rfl 0 (by decide) lk55 (fun _ h9 => h9) rfl dX1_countUp_22 ?_
      refine lv_icmp_ge (tgt := 50) hx hb dX1_countUp_25 (by decide) (fun c => ?_) (fun c => ?_)
      · replace h := h.1 c
        exact kk y1 v1ayes v1noes v1silent H locs ls h hP hD hS (lv_sub hl [0, 1] rfl)
      · replace h := h.2 c
        refine lv_aload_n hx hb dX1_countUp_28 rfl (lv_at hl 0 rfl) ?_
        refine va_get (D := (dC, dI)) (ci := 1) (v := .ref a2) (C := RX1) (T := TX1) (N := 8) hx hb hts hiX1 hown hK hP 0 rfl rfl 0 (by decide) lk35 (fun _ h9 => h9) rfl dX1_countUp_29 ?_
        refine lv_iload_n hx hb dX1_countUp_32 rfl (lv_at hl 1 rfl) ?_
        refine mc_i hP hD hS hA [3, 4] [0, 1, 2] [0, 1, 2, 3, 4] [(a1, .inr (1, [.ref a2, .int v1isOpen, .int v1wasAny, .ref r1castAs, .ref r1givenTo, .int v1ayes, .int v1noes, .int v1silent])), (r1castAs, .inl (cyI, 20, .inl f1castAs)), (r1givenTo, .inl (cyI, 20, .inl f1givenTo))] (fun (u2 : Unit) => [(a1, .inr (1, [.ref a2, .int v1isOpen, .int v1wasAny, .ref r1castAs, .ref r1givenTo, .int v1ayes, .int v1noes, .int v1silent])), (r1castAs, .inl (cyI, 20, .inl f1castAs)), (r1givenTo, .inl (cyI, 20, .inl f1givenTo)), (a2, .inr (2, [.int v2canons, .int v2present, .int v2stalls, .ref r2there, .ref r2stallOf, .ref r2worth, .ref r2holder, .ref r2wishes, .int v2moves, .ref r2mover, .ref r2movedFrom, .ref r2movedTo])), (r2there, .inl (cyZ, 20, .inl f2there))]) rfl rfl (by decide) (by decide) (by decide) (fun _ => rfl) (fun _ => rfl) (va_runVN (C := RX2) (host := "StallBook") (As := [.int y1]) (rest := []) ⟨hx, hb, hml, hown, hts⟩ (c_X2_isThere l dC dI cyI cyZ cyB a2 r2there r2stallOf r2worth r2holder r2wishes r2mover r2movedFrom r2movedTo H.size v2canons v2present v2stalls v2moves f2there y1 _ h) ⟨va_cnB 1 hts ggX1_countUp_X2_isThere rfl rfl rfl (hN.2 (RX1, 45, yX2_isThere) (by decide +kernel)) (hts (.initialized RX2) (by decide +kernel)) (by decide +kernel) ⟨Nat.le_of_ble_eq_true rfl, Nat.le_of_ble_eq_true rfl⟩, hts (.instanceMethod yX2_isThere) (by decide +kernel), hts (.selects RX2 yX2_isThere yX2_isThere) (by decide +kernel)⟩ ⟨MPre_blind, va_recv hK hP (ci := 2) (q0 := 3) rfl rfl, MPre_here [3, 4] hP hD hK hN (by decide) rfl rfl⟩ rfl rfl hl.1 rfl (lv_room (Nat.le_of_ble_eq_true rfl)) dX1_countUp_33 ⟨Nat.zero_le _, Nat.zero_le _⟩) (fun r1 u2 H locs h hP hD hS => ?_)
        replace hP : va_P (dC, dI) vwCl [(a1, .inr (1, [.ref a2, .int v1isOpen, .int v1wasAny, .ref r1castAs, .ref r1givenTo, .int v1ayes, .int v1noes, .int v1silent])), (r1castAs, .inl (cyI, 20, .inl f1castAs)), (r1givenTo, .inl (cyI, 20, .inl f1givenTo)), (a2, .inr (2, [.int v2canons, .int v2present, .int v2stalls, .ref r2there, .ref r2stallOf, .ref r2worth, .ref r2holder, .ref r2wishes, .int v2moves, .ref r2mover, .ref r2movedFrom, .ref r2movedTo])), (r2there, .inl (cyZ, 20, .inl f2there))] H := hP
        replace hD : va_D A [(a1, .inr (1, [.ref a2, .int v1isOpen, .int v1wasAny, .ref r1castAs, .ref r1givenTo, .int v1ayes, .int v1noes, .int v1silent])), (r1castAs, .inl (cyI, 20, .inl f1castAs)), (r1givenTo, .inl (cyI, 20, .inl f1givenTo)), (a2, .inr (2, [.int v2canons, .int v2present, .int v2stalls, .ref r2there, .ref r2stallOf, .ref r2worth, .ref r2holder, .ref r2wishes, .int v2moves, .ref r2mover, .ref r2movedFrom, .ref r2movedTo])), (r2there, .inl (cyZ, 20, .inl f2there))] := hD
        refine lv_if_eq (tgt := 44) hx hb dX1_countUp_36 (by decide) (fun c => ?_) (fun c => ?_)
        · replace h := h.1 c
          obtain ⟨x3, ex3⟩ : ∃ y : Int32, y = y1 + 1 := ⟨_, rfl⟩
          replace h := h x3 ex3
          refine lv_iinc (v := x3) (lv' := [(1, .int x3), (0, .ref a1)]) hx hb dX1_countUp_44 hl (k := 1) rfl (by rw [ex3]; rfl) (by decide) rfl (fun ls hl => ?_)
          refine lv_goto (tgt := 17) hx hb dX1_countUp_47 (by decide) ?_
          exact ih x3 v1ayes v1noes v1silent H locs ls h hP hD hS (lv_sub hl [1, 0] rfl) kk
        · replace h := h.2 c
          refine lv_aload_n hx hb dX1_countUp_39 rfl (lv_at hl 0 rfl) ?_
          refine lv_iload_n hx hb dX1_countUp_40 rfl (lv_at hl 1 rfl) ?_
          refine mc_v hP hD hS hA [0, 1, 2] [3, 4] [2, 3, 4, 0, 1] [(a2, .inr (2, [.int v2canons, .int v2present, .int v2stalls, .ref r2there, .ref r2stallOf, .ref r2worth, .ref r2holder, .ref r2wishes, .int v2moves, .ref r2mover, .ref r2movedFrom, .ref r2movedTo])), (r2there, .inl (cyZ, 20, .inl f2there))] (fun (u5 : Int32 × Int32 × Int32) => [(a1, .inr (1, [.ref a2, .int v1isOpen, .int v1wasAny, .ref r1castAs, .ref r1givenTo, .int u5.1, .int u5.2.1, .int u5.2.2])), (r1castAs, .inl (cyI, 20, .inl f1castAs)), (r1givenTo, .inl (cyI, 20, .inl f1givenTo)), (a2, .inr (2, [.int v2canons, .int v2present, .int v2stalls, .ref r2there, .ref r2stallOf, .ref r2worth, .ref r2holder, .ref r2wishes, .int v2moves, .ref r2mover, .ref r2movedFrom, .ref r2movedTo])), (r2there, .inl (cyZ, 20, .inl f2there))]) rfl rfl (by decide) (by decide) (by decide) (fun _ => rfl) (fun _ => rfl) (va_runV (As := [.int y1]) (rest := []) ⟨hx, hb, hml, hown, hts⟩ (c_X1_countOne l dC dI cyI cyZ cyB a1 a2 r1castAs r1givenTo H.size v1isOpen v1wasAny v1ayes v1noes v1silent f1castAs f1givenTo y1 _ h) (cwV 1 hts gX1_countUp_X1_countOne rfl rfl rfl (by decide +kernel) ⟨Nat.le_of_ble_eq_true rfl, Nat.le_of_ble_eq_true rfl⟩) ⟨MPre_blind, va_recv hK hP (ci := 1) (q0 := 0) rfl rfl, MPre_here [0, 1, 2] hP hD hK hN (by decide) rfl rfl⟩ rfl rfl hl.1 rfl (lv_room (Nat.le_of_ble_eq_true rfl)) dX1_countUp_41 ⟨Nat.zero_le _, Nat.zero_le _⟩) (fun u5 H locs h hP hD hS => ?_)
          replace hP : va_P (dC, dI) vwCl [(a1, .inr (1, [.ref a2, .int v1isOpen, .int v1wasAny, .ref r1castAs, .ref r1givenTo, .int u5.1, .int u5.2.1, .int u5.2.2])), (r1castAs, .inl (cyI, 20, .inl f1castAs)), (r1givenTo, .inl (cyI, 20, .inl f1givenTo)), (a2, .inr (2, [.int v2canons, .int v2present, .int v2stalls, .ref r2there, .ref r2stallOf, .ref r2worth, .ref r2holder, .ref r2wishes, .int v2moves, .ref r2mover, .ref r2movedFrom, .ref r2movedTo])), (r2there, .inl (cyZ, 20, .inl f2there))] H := hP
          replace hD : va_D A [(a1, .inr (1, [.ref a2, .int v1isOpen, .int v1wasAny, .ref r1castAs, .ref r1givenTo, .int u5.1, .int u5.2.1, .int u5.2.2])), (r1castAs, .inl (cyI, 20, .inl f1castAs)), (r1givenTo, .inl (cyI, 20, .inl f1givenTo)), (a2, .inr (2, [.int v2canons, .int v2present, .int v2stalls, .ref r2there, .ref r2stallOf, .ref r2worth, .ref r2holder, .ref r2wishes, .int v2moves, .ref r2mover, .ref r2movedFrom, .ref r2movedTo])), (r2there, .inl (cyZ, 20, .inl f2there))] := hD
          obtain ⟨x6, ex6⟩ : ∃ y : Int32, y = y1 + 1 := ⟨_, rfl⟩
          replace h := h x6 ex6
          refine lv_iinc (v := x6) (lv' := [(1, .int x6), (0, .ref a1)]) hx hb dX1_countUp_44 hl (k := 1) rfl (by rw [ex6]; rfl) (by decide) rfl (fun ls hl => ?_)
          refine lv_goto (tgt := 17) hx hb dX1_countUp_47 (by decide) ?_
          exact ih x6 u5.1 u5.2.1 u5.2.2 H locs ls h hP hD hS (lv_sub hl [1, 0] rfl) kk
  delta wp_X1_countUp at h
  have hl := lv_entry [.ref a1] (n := 2) (Nat.le_of_ble_eq_true rfl)
  rw [lg_entry_eq]
  generalize (lg_sl [.ref a1] ++ List.replicate (2 - (lg_sl [.ref a1]).length) Slot.unset).toArray = ls at hl ⊢
  replace hl : lv_has ls 2 [(0, .ref a1)] := hl
  refine lv_aload_n hx hb dX1_countUp_0 rfl (lv_at hl 0 rfl) ?_
  refine lv_iconst (v := 0) hx hb dX1_countUp_1 (by decide) ?_
  refine va_put (D := (dC, dI)) (ci := 1) (v := .int 0) (ty := .int) (C := RX1) (T := TX1) (N := 8) hx hb hts hiX1 tyX1 tyX1_ok nmX1 hown hK hP hD hS 0 rfl rfl 5 (by decide) lk25 (fun _ h9 => h9) rfl (by decide +kernel) rfl rfl (Nat.le_of_ble_eq_true rfl) dX1_countUp_2 (fun H locs hP hD hS => ?_)
  replace hP : va_P (dC, dI) vwCl [(a1, .inr (1, [.ref a2, .int v1isOpen, .int v1wasAny, .ref r1castAs, .ref r1givenTo, .int 0, .int v1noes, .int v1silent])), (r1castAs, .inl (cyI, 20, .inl f1castAs)), (r1givenTo, .inl (cyI, 20, .inl f1givenTo)), (a2, .inr (2, [.int v2canons, .int v2present, .int v2stalls, .ref r2there, .ref r2stallOf, .ref r2worth, .ref r2holder, .ref r2wishes, .int v2moves, .ref r2mover, .ref r2movedFrom, .ref r2movedTo])), (r2there, .inl (cyZ, 20, .inl f2there))] H := hP
  replace hD : va_D A [(a1, .inr (1, [.ref a2, .int v1isOpen, .int v1wasAny, .ref r1castAs, .ref r1givenTo, .int 0, .int v1noes, .int v1silent])), (r1castAs, .inl (cyI, 20, .inl f1castAs)), (r1givenTo, .inl (cyI, 20, .inl f1givenTo)), (a2, .inr (2, [.int v2canons, .int v2present, .int v2stalls, .ref r2there, .ref r2stallOf, .ref r2worth, .ref r2holder, .ref r2wishes, .int v2moves, .ref r2mover, .ref r2movedFrom, .ref r2movedTo])), (r2there, .inl (cyZ, 20, .inl f2there))] := hD
  refine lv_aload_n hx hb dX1_countUp_5 rfl (lv_at hl 0 rfl) ?_
  refine lv_iconst (v := 0) hx hb dX1_countUp_6 (by decide) ?_
  refine va_put (D := (dC, dI)) (ci := 1) (v := .int 0) (ty := .int) (C := RX1) (T := TX1) (N := 8) hx hb hts hiX1 tyX1 tyX1_ok nmX1 hown hK hP hD hS 0 rfl rfl 6 (by decide) lk29 (fun _ h9 => h9) rfl (by decide +kernel) rfl rfl (Nat.le_of_ble_eq_true rfl) dX1_countUp_7 (fun H locs hP hD hS => ?_)
  replace hP : va_P (dC, dI) vwCl [(a1, .inr (1, [.ref a2, .int v1isOpen, .int v1wasAny, .ref r1castAs, .ref r1givenTo, .int 0, .int 0, .int v1silent])), (r1castAs, .inl (cyI, 20, .inl f1castAs)), (r1givenTo, .inl (cyI, 20, .inl f1givenTo)), (a2, .inr (2, [.int v2canons, .int v2present, .int v2stalls, .ref r2there, .ref r2stallOf, .ref r2worth, .ref r2holder, .ref r2wishes, .int v2moves, .ref r2mover, .ref r2movedFrom, .ref r2movedTo])), (r2there, .inl (cyZ, 20, .inl f2there))] H := hP
  replace hD : va_D A [(a1, .inr (1, [.ref a2, .int v1isOpen, .int v1wasAny, .ref r1castAs, .ref r1givenTo, .int 0, .int 0, .int v1silent])), (r1castAs, .inl (cyI, 20, .inl f1castAs)), (r1givenTo, .inl (cyI, 20, .inl f1givenTo)), (a2, .inr (2, [.int v2canons, .int v2present, .int v2stalls, .ref r2there, .ref r2stallOf, .ref r2worth, .ref r2holder, .ref r2wishes, .int v2moves, .ref r2mover, .ref r2movedFrom, .ref r2movedTo])), (r2there, .inl (cyZ, 20, .inl f2there))] := hD
  refine lv_aload_n hx hb dX1_countUp_10 rfl (lv_at hl 0 rfl) ?_
  refine lv_iconst (v := 0) hx hb dX1_countUp_11 (by decide) ?_
  refine va_put (D := (dC, dI)) (ci := 1) (v := .int 0) (ty := .int) (C := RX1) (T := TX1) (N := 8) hx hb hts hiX1 tyX1 tyX1_ok nmX1 hown hK hP hD hS 0 rfl rfl 7 (by decide) lk32 (fun _ h9 => h9) rfl (by decide +kernel) rfl rfl (Nat.le_of_ble_eq_true rfl) dX1_countUp_12 (fun H locs hP hD hS => ?_)
  replace hP : va_P (dC, dI) vwCl [(a1, .inr (1, [.ref a2, .int v1isOpen, .int v1wasAny, .ref r1castAs, .ref r1givenTo, .int 0, .int 0, .int 0])), (r1castAs, .inl (cyI, 20, .inl f1castAs)), (r1givenTo, .inl (cyI, 20, .inl f1givenTo)), (a2, .inr (2, [.int v2canons, .int v2present, .int v2stalls, .ref r2there, .ref r2stallOf, .ref r2worth, .ref r2holder, .ref r2wishes, .int v2moves, .ref r2mover, .ref r2movedFrom, .ref r2movedTo])), (r2there, .inl (cyZ, 20, .inl f2there))] H := hP
  replace hD : va_D A [(a1, .inr (1, [.ref a2, .int v1isOpen, .int v1wasAny, .ref r1castAs, .ref r1givenTo, .int 0, .int 0, .int 0])), (r1castAs, .inl (cyI, 20, .inl f1castAs)), (r1givenTo, .inl (cyI, 20, .inl f1givenTo)), (a2, .inr (2, [.int v2canons, .int v2present, .int v2stalls, .ref r2there, .ref r2stallOf, .ref r2worth, .ref r2holder, .ref r2wishes, .int v2moves, .ref r2mover, .ref r2movedFrom, .ref r2movedTo])), (r2there, .inl (cyZ, 20, .inl f2there))] := hD
  refine lv_iconst (v := 0) hx hb dX1_countUp_15 (by decide) ?_
  refine lv_istore_n (lv' := [(1, .int 0), (0, .ref a1)]) hx hb dX1_countUp_16 rfl hl (by decide) rfl (fun ls hl => ?_)
  obtain ⟨n11, h⟩ := h
  refine L17 f1castAs f1givenTo v2canons f2there _ n11 0 0 0 0 H locs ls h hP hD hS (lv_sub hl [1, 0] rfl) (fun x7 x8 x9 x10 H locs ls h hP hD hS hl => ?_)
  exact W.vret hx hb hr (fun t ht hW => ⟨⟨(x8, x9, x10), rfl, h, by rw [ht]; exact hP, hD⟩, hS.F ht⟩) hS.2.2 dX1_countUp_50
def wp_X1_finish (p1 : Int32) (v1isOpen : Int32) (f1castAs : Nat → Int32) (f1givenTo : Nat → Int32) (v1ayes : Int32) (v1noes : Int32) (v1silent : Int32) (v2canons : Int32) (v2present : Int32) (f2there : Nat → Int32) (Post : Int32 → Int32 × Int32 × Int32 × Int32 → Prop) : Prop := (wp_X1_countUp f1castAs f1givenTo v1ayes v1noes v1silent v2canons f2there (fun (u2 : Int32 × Int32 × Int32) => (((((u2.1 + u2.2.1) * 100) < (p1 * v2present)) → (Post 0 (0, u2.1, u2.2.1, u2.2.2))) ∧ ((¬ ((u2.1 + u2.2.1) * 100) < (p1 * v2present)) → (((u2.1 ≤ u2.2.1) → (Post 0 (0, u2.1, u2.2.1, u2.2.2))) ∧ ((¬ u2.1 ≤ u2.2.1) → (Post 1 (0, u2.1, u2.2.1, u2.2.2))))))))
set_option maxHeartbeats 4000000 in
set_option maxRecDepth 100000 in
theorem c_X1_finish (l : Launch) (dC : Nat → ClassId) (dI : Nat → Nat → Nat) (cyI cyZ cyB : ClassId) (a1 : Nat) (a2 : Nat) (r1castAs : Nat) (r1givenTo : Nat) (r2there : Nat) (r2stallOf : Nat) (r2worth : Nat) (r2holder : Nat) (r2wishes : Nat) (r2mover : Nat) (r2movedFrom : Nat) (r2movedTo : Nat) (sz : Nat) (v1isOpen : Int32) (v1wasAny : Int32) (v1ayes : Int32) (v1noes : Int32) (v1silent : Int32) (f1castAs : Nat → Int32) (f1givenTo : Nat → Int32) (v2canons : Int32) (v2present : Int32) (v2stalls : Int32) (v2moves : Int32) (f2there : Nat → Int32) (p1 : Int32) (Post : Int32 → Int32 × Int32 × Int32 × Int32 → Prop) (h : wp_X1_finish p1 v1isOpen f1castAs f1givenTo v1ayes v1noes v1silent v2canons v2present f2there Post) : Met l yX1_finish wsX1_finish ({ frames := 3, cells := 0, slots := 0, locals := 63 } : Room) (MPre (dC, dI) [(cyI, .int), (cyZ, .boolean), (cyB, .byte)] [.ref a1, .int p1] sz [(a1, .inr (1, [.ref a2, .int v1isOpen, .int v1wasAny, .ref r1castAs, .ref r1givenTo, .int v1ayes, .int v1noes, .int v1silent])), (r1castAs, .inl (cyI, 20, .inl f1castAs)), (r1givenTo, .inl (cyI, 20, .inl f1givenTo)), (a2, .inr (2, [.int v2canons, .int v2present, .int v2stalls, .ref r2there, .ref r2stallOf, .ref r2worth, .ref r2holder, .ref r2wishes, .int v2moves, .ref r2mover, .ref r2movedFrom, .ref r2movedTo])), (r2there, .inl (cyZ, 20, .inl f2there))]) (va_Qi Post (fun (u : Int32 × Int32 × Int32 × Int32) (t : State) => va_P (dC, dI) vwCl [(a1, .inr (1, [.ref a2, .int u.1, .int v1wasAny, .ref r1castAs, .ref r1givenTo, .int u.2.1, .int u.2.2.1, .int u.2.2.2])), (r1castAs, .inl (cyI, 20, .inl f1castAs)), (r1givenTo, .inl (cyI, 20, .inl f1givenTo)), (a2, .inr (2, [.int v2canons, .int v2present, .int v2stalls, .ref r2there, .ref r2stallOf, .ref r2worth, .ref r2holder, .ref r2wishes, .int v2moves, .ref r2mover, .ref r2movedFrom, .ref r2movedTo])), (r2there, .inl (cyZ, 20, .inl f2there))] t.heap ∧ va_D (va_A [(a1, .inr (1, [.ref a2, .int v1isOpen, .int v1wasAny, .ref r1castAs, .ref r1givenTo, .int v1ayes, .int v1noes, .int v1silent])), (r1castAs, .inl (cyI, 20, .inl f1castAs)), (r1givenTo, .inl (cyI, 20, .inl f1givenTo)), (a2, .inr (2, [.int v2canons, .int v2present, .int v2stalls, .ref r2there, .ref r2stallOf, .ref r2worth, .ref r2holder, .ref r2wishes, .int v2moves, .ref r2mover, .ref r2movedFrom, .ref r2movedTo])), (r2there, .inl (cyZ, 20, .inl f2there))] sz) [(a1, .inr (1, [.ref a2, .int u.1, .int v1wasAny, .ref r1castAs, .ref r1givenTo, .int u.2.1, .int u.2.2.1, .int u.2.2.2])), (r1castAs, .inl (cyI, 20, .inl f1castAs)), (r1givenTo, .inl (cyI, 20, .inl f1givenTo)), (a2, .inr (2, [.int v2canons, .int v2present, .int v2stalls, .ref r2there, .ref r2stallOf, .ref r2worth, .ref r2holder, .ref r2wishes, .int v2moves, .ref r2mover, .ref r2movedFrom, .ref r2movedTo])), (r2there, .inl (cyZ, 20, .inl f2there))]) (va_A [(a1, .inr (1, [.ref a2, .int v1isOpen, .int v1wasAny, .ref r1castAs, .ref r1givenTo, .int v1ayes, .int v1noes, .int v1silent])), (r1castAs, .inl (cyI, 20, .inl f1castAs)), (r1givenTo, .inl (cyI, 20, .inl f1givenTo)), (a2, .inr (2, [.int v2canons, .int v2present, .int v2stalls, .ref r2there, .ref r2stallOf, .ref r2worth, .ref r2holder, .ref r2wishes, .int v2moves, .ref r2mover, .ref r2movedFrom, .ref r2movedTo])), (r2there, .inl (cyZ, 20, .inl f2there))] sz)) 0 0 (va_A [(a1, .inr (1, [.ref a2, .int v1isOpen, .int v1wasAny, .ref r1castAs, .ref r1givenTo, .int v1ayes, .int v1noes, .int v1silent])), (r1castAs, .inl (cyI, 20, .inl f1castAs)), (r1givenTo, .inl (cyI, 20, .inl f1givenTo)), (a2, .inr (2, [.int v2canons, .int v2present, .int v2stalls, .ref r2there, .ref r2stallOf, .ref r2worth, .ref r2holder, .ref r2wishes, .int v2moves, .ref r2mover, .ref r2movedFrom, .ref r2movedTo])), (r2there, .inl (cyZ, 20, .inl f2there))] sz) := by
  refine Met.ofW (cc := cX1_finish) (maxL := 2) (ret := (some .boolean)) (by decide) rfl ?_
  intro p e s m args below meth c s₁ B hml hv
  obtain ⟨rfl, hsz, hP, hK, hD0, hN⟩ := hv
  have hx := B.exec
  have hb := B.bytes
  have hr := B.returns
  have hts := atoms_spec (ws := wsX1_finish) B.pre
  have hown : s.vm.findClass RX1 = some m.cls := findClass_of_methodNamed B.named
  have hlocks := B.notSynchronized
  subst hsz
  have hD := hD0.self (sz := s.heap.size)
  generalize hAe : va_A [(a1, .inr (1, [.ref a2, .int v1isOpen, .int v1wasAny, .ref r1castAs, .ref r1givenTo, .int v1ayes, .int v1noes, .int v1silent])), (r1castAs, .inl (cyI, 20, .inl f1castAs)), (r1givenTo, .inl (cyI, 20, .inl f1givenTo)), (a2, .inr (2, [.int v2canons, .int v2present, .int v2stalls, .ref r2there, .ref r2stallOf, .ref r2worth, .ref r2holder, .ref r2wishes, .int v2moves, .ref r2mover, .ref r2movedFrom, .ref r2movedTo])), (r2there, .inl (cyZ, 20, .inl f2there))] s.heap.size = A at hD ⊢
  have hA : ∀ q : Nat, s.heap.size ≤ q → A q := fun q h => by rw [← hAe]; exact Or.inr h
  have hS : va_S A s.heap s.heap [] := va_S.rf
  have hiX1 : ∀ w ∈ u_ws RX1 TX1 8, w ∈ wsX1_finish := by decide +kernel
  have hiX2 : ∀ w ∈ u_ws RX2 TX2 12, w ∈ wsX1_finish := by decide +kernel
  have lk9 := hts (.fieldLink RX1 9 "StallBook$Ballot" "isOpen" "Z") (by decide +kernel)
  have lk25 := hts (.fieldLink RX1 25 "StallBook$Ballot" "ayes" "I") (by decide +kernel)
  have lk29 := hts (.fieldLink RX1 29 "StallBook$Ballot" "noes" "I") (by decide +kernel)
  have lk35 := hts (.fieldLink RX1 35 "StallBook$Ballot" "chapter" "LStallBook$Chapter;") (by decide +kernel)
  have lk61 : (Cond.fieldLinkNest RX1 61 "StallBook$Chapter" "present" "I" "StallBook").before ([.ref a1, .int p1] : List Value).toArray s = true := va_Nw.use rfl (hN.1 (RX1, 61, "StallBook$Chapter", "present", "I") (by decide +kernel))
  delta wp_X1_finish at h
  have hl := lv_entry [.ref a1, .int p1] (n := 2) (Nat.le_of_ble_eq_true rfl)
  rw [lg_entry_eq]
  generalize (lg_sl [.ref a1, .int p1] ++ List.replicate (2 - (lg_sl [.ref a1, .int p1]).length) Slot.unset).toArray = ls at hl ⊢
  replace hl : lv_has ls 2 [(0, .ref a1), (1, .int p1)] := hl
  refine lv_aload_n hx hb dX1_finish_0 rfl (lv_at hl 0 rfl) ?_
  refine mc_v hP hD hS hA [0, 1, 2, 3, 4] [] [0, 1, 2, 3, 4] [] (fun (u2 : Int32 × Int32 × Int32) => [(a1, .inr (1, [.ref a2, .int v1isOpen, .int v1wasAny, .ref r1castAs, .ref r1givenTo, .int u2.1, .int u2.2.1, .int u2.2.2])), (r1castAs, .inl (cyI, 20, .inl f1castAs)), (r1givenTo, .inl (cyI, 20, .inl f1givenTo)), (a2, .inr (2, [.int v2canons, .int v2present, .int v2stalls, .ref r2there, .ref r2stallOf, .ref r2worth, .ref r2holder, .ref r2wishes, .int v2moves, .ref r2mover, .ref r2movedFrom, .ref r2movedTo])), (r2there, .inl (cyZ, 20, .inl f2there))]) rfl rfl (by decide) (by decide) (by decide) (fun _ => rfl) (fun _ => rfl) (va_runV (As := []) (rest := []) ⟨hx, hb, hml, hown, hts⟩ (c_X1_countUp l dC dI cyI cyZ cyB a1 a2 r1castAs r1givenTo r2there r2stallOf r2worth r2holder r2wishes r2mover r2movedFrom r2movedTo s.heap.size v1isOpen v1wasAny v1ayes v1noes v1silent f1castAs f1givenTo v2canons v2present v2stalls v2moves f2there  _ h) (cwV 0 hts gX1_finish_X1_countUp rfl rfl rfl (by decide +kernel) ⟨Nat.le_of_ble_eq_true rfl, Nat.le_of_ble_eq_true rfl⟩) ⟨MPre_blind, va_recv hK hP (ci := 1) (q0 := 0) rfl rfl, MPre_here [0, 1, 2, 3, 4] hP hD hK hN (by decide) rfl rfl⟩ rfl rfl hl.1 rfl (lv_room (Nat.le_of_ble_eq_true rfl)) dX1_finish_1 ⟨Nat.zero_le _, Nat.zero_le _⟩) (fun u2 H locs h hP hD hS => ?_)
  replace hP : va_P (dC, dI) vwCl [(a1, .inr (1, [.ref a2, .int v1isOpen, .int v1wasAny, .ref r1castAs, .ref r1givenTo, .int u2.1, .int u2.2.1, .int u2.2.2])), (r1castAs, .inl (cyI, 20, .inl f1castAs)), (r1givenTo, .inl (cyI, 20, .inl f1givenTo)), (a2, .inr (2, [.int v2canons, .int v2present, .int v2stalls, .ref r2there, .ref r2stallOf, .ref r2worth, .ref r2holder, .ref r2wishes, .int v2moves, .ref r2mover, .ref r2movedFrom, .ref r2movedTo])), (r2there, .inl (cyZ, 20, .inl f2there))] H := hP
  replace hD : va_D A [(a1, .inr (1, [.ref a2, .int v1isOpen, .int v1wasAny, .ref r1castAs, .ref r1givenTo, .int u2.1, .int u2.2.1, .int u2.2.2])), (r1castAs, .inl (cyI, 20, .inl f1castAs)), (r1givenTo, .inl (cyI, 20, .inl f1givenTo)), (a2, .inr (2, [.int v2canons, .int v2present, .int v2stalls, .ref r2there, .ref r2stallOf, .ref r2worth, .ref r2holder, .ref r2wishes, .int v2moves, .ref r2mover, .ref r2movedFrom, .ref r2movedTo])), (r2there, .inl (cyZ, 20, .inl f2there))] := hD
  refine lv_aload_n hx hb dX1_finish_4 rfl (lv_at hl 0 rfl) ?_
  refine lv_iconst (v := 0) hx hb dX1_finish_5 (by decide) ?_
  refine va_put (D := (dC, dI)) (ci := 1) (v := .int 0) (ty := .boolean) (C := RX1) (T := TX1) (N := 8) hx hb hts hiX1 tyX1 tyX1_ok nmX1 hown hK hP hD hS 0 rfl rfl 1 (by decide) lk9 (fun _ h9 => h9) rfl (by decide +kernel) rfl rfl (Nat.le_of_ble_eq_true rfl) dX1_finish_6 (fun H locs hP hD hS => ?_)
  replace hP : va_P (dC, dI) vwCl [(a1, .inr (1, [.ref a2, .int 0, .int v1wasAny, .ref r1castAs, .ref r1givenTo, .int u2.1, .int u2.2.1, .int u2.2.2])), (r1castAs, .inl (cyI, 20, .inl f1castAs)), (r1givenTo, .inl (cyI, 20, .inl f1givenTo)), (a2, .inr (2, [.int v2canons, .int v2present, .int v2stalls, .ref r2there, .ref r2stallOf, .ref r2worth, .ref r2holder, .ref r2wishes, .int v2moves, .ref r2mover, .ref r2movedFrom, .ref r2movedTo])), (r2there, .inl (cyZ, 20, .inl f2there))] H := hP
  replace hD : va_D A [(a1, .inr (1, [.ref a2, .int 0, .int v1wasAny, .ref r1castAs, .ref r1givenTo, .int u2.1, .int u2.2.1, .int u2.2.2])), (r1castAs, .inl (cyI, 20, .inl f1castAs)), (r1givenTo, .inl (cyI, 20, .inl f1givenTo)), (a2, .inr (2, [.int v2canons, .int v2present, .int v2stalls, .ref r2there, .ref r2stallOf, .ref r2worth, .ref r2holder, .ref r2wishes, .int v2moves, .ref r2mover, .ref r2movedFrom, .ref r2movedTo])), (r2there, .inl (cyZ, 20, .inl f2there))] := hD
  refine lv_aload_n hx hb dX1_finish_9 rfl (lv_at hl 0 rfl) ?_
  refine va_get (D := (dC, dI)) (ci := 1) (v := .int u2.1) (C := RX1) (T := TX1) (N := 8) hx hb hts hiX1 hown hK hP 0 rfl rfl 5 (by decide) lk25 (fun _ h9 => h9) rfl dX1_finish_10 ?_
  refine lv_aload_n hx hb dX1_finish_13 rfl (lv_at hl 0 rfl) ?_
  refine va_get (D := (dC, dI)) (ci := 1) (v := .int u2.2.1) (C := RX1) (T := TX1) (N := 8) hx hb hts hiX1 hown hK hP 0 rfl rfl 6 (by decide) lk29 (fun _ h9 => h9) rfl dX1_finish_14 ?_
  refine lv_iadd hx hb dX1_finish_17 ?_
  refine lv_bipush (v := 100) hx hb dX1_finish_18 (by decide) ?_
  refine lv_imul hx hb dX1_finish_20 ?_
  refine lv_iload_n hx hb dX1_finish_21 rfl (lv_at hl 1 rfl) ?_
  refine lv_aload_n hx hb dX1_finish_22 rfl (lv_at hl 0 rfl) ?_
  refine va_get (D := (dC, dI)) (ci := 1) (v := .ref a2) (C := RX1) (T := TX1) (N := 8) hx hb hts hiX1 hown hK hP 0 rfl rfl 0 (by decide) lk35 (fun _ h9 => h9) rfl dX1_finish_23 ?_
  refine va_getN (D := (dC, dI)) (ci := 2) (v := .int v2present) (C := RX2) (T := TX2) (N := 12) hx hb hts hiX2 hown hK hP 3 rfl rfl 1 (by decide) lk61 (fun _ h9 => h9) rfl dX1_finish_26 ?_
  refine lv_imul hx hb dX1_finish_29 ?_
  refine lv_icmp_lt (tgt := 48) hx hb dX1_finish_30 (by decide) (fun c => ?_) (fun c => ?_)
  · replace h := h.1 c
    refine lv_iconst (v := 0) hx hb dX1_finish_48 (by decide) ?_
    exact W.zret (v := 0) (ty := .boolean) hx hb hr rfl (fun t ht hW => ⟨⟨0, (0, u2.1, u2.2.1, u2.2.2), rfl, h, by rw [ht]; exact hP, hD⟩, hS.F ht⟩) hS.2.2 dX1_finish_49
  · replace h := h.2 c
    refine lv_aload_n hx hb dX1_finish_33 rfl (lv_at hl 0 rfl) ?_
    refine va_get (D := (dC, dI)) (ci := 1) (v := .int u2.1) (C := RX1) (T := TX1) (N := 8) hx hb hts hiX1 hown hK hP 0 rfl rfl 5 (by decide) lk25 (fun _ h9 => h9) rfl dX1_finish_34 ?_
    refine lv_aload_n hx hb dX1_finish_37 rfl (lv_at hl 0 rfl) ?_
    refine va_get (D := (dC, dI)) (ci := 1) (v := .int u2.2.1) (C := RX1) (T := TX1) (N := 8) hx hb hts hiX1 hown hK hP 0 rfl rfl 6 (by decide) lk29 (fun _ h9 => h9) rfl dX1_finish_38 ?_
    refine lv_icmp_le (tgt := 48) hx hb dX1_finish_41 (by decide) (fun c => ?_) (fun c => ?_)
    · replace h := h.1 c
      refine lv_iconst (v := 0) hx hb dX1_finish_48 (by decide) ?_
      exact W.zret (v := 0) (ty := .boolean) hx hb hr rfl (fun t ht hW => ⟨⟨0, (0, u2.1, u2.2.1, u2.2.2), rfl, h, by rw [ht]; exact hP, hD⟩, hS.F ht⟩) hS.2.2 dX1_finish_49
    · replace h := h.2 c
      refine lv_iconst (v := 1) hx hb dX1_finish_44 (by decide) ?_
      refine lv_goto (tgt := 49) hx hb dX1_finish_45 (by decide) ?_
      exact W.zret (v := 1) (ty := .boolean) hx hb hr rfl (fun t ht hW => ⟨⟨1, (0, u2.1, u2.2.1, u2.2.2), rfl, h, by rw [ht]; exact hP, hD⟩, hS.F ht⟩) hS.2.2 dX1_finish_49
def wp_X1_tell (p1 : Int32) (v1isOpen : Int32) (v1wasAny : Int32) (f1castAs : Nat → Int32) (f1givenTo : Nat → Int32) (v1ayes : Int32) (v1noes : Int32) (v1silent : Int32) (v2canons : Int32) (f2there : Nat → Int32) (Post : Int32 → Int32 × Int32 × Int32 → Prop) : Prop := (((¬ v1wasAny = 0) → (((v1isOpen = 0) → (((p1 = 0) → (Post v1ayes (v1ayes, v1noes, v1silent))) ∧ ((¬ p1 = 0) → (((p1 = 1) → (Post v1noes (v1ayes, v1noes, v1silent))) ∧ ((¬ p1 = 1) → (((p1 = 2) → (Post v1silent (v1ayes, v1noes, v1silent))) ∧ ((¬ p1 = 2) → (((p1 = 3) → (((v1isOpen = 0) → (Post 0 (v1ayes, v1noes, v1silent))) ∧ ((¬ v1isOpen = 0) → (Post 1 (v1ayes, v1noes, v1silent))))) ∧ ((¬ p1 = 3) → (Post (-1) (v1ayes, v1noes, v1silent))))))))))) ∧ ((¬ v1isOpen = 0) → (wp_X1_countUp f1castAs f1givenTo v1ayes v1noes v1silent v2canons f2there (fun (u2 : Int32 × Int32 × Int32) => (((p1 = 0) → (Post u2.1 (u2.1, u2.2.1, u2.2.2))) ∧ ((¬ p1 = 0) → (((p1 = 1) → (Post u2.2.1 (u2.1, u2.2.1, u2.2.2))) ∧ ((¬ p1 = 1) → (((p1 = 2) → (Post u2.2.2 (u2.1, u2.2.1, u2.2.2))) ∧ ((¬ p1 = 2) → (((p1 = 3) → (((v1isOpen = 0) → (Post 0 (u2.1, u2.2.1, u2.2.2))) ∧ ((¬ v1isOpen = 0) → (Post 1 (u2.1, u2.2.1, u2.2.2))))) ∧ ((¬ p1 = 3) → (Post (-1) (u2.1, u2.2.1, u2.2.2))))))))))))))) ∧ ((v1wasAny = 0) → (Post (-1) (v1ayes, v1noes, v1silent))))
set_option maxHeartbeats 4000000 in
set_option maxRecDepth 100000 in
theorem c_X1_tell (l : Launch) (dC : Nat → ClassId) (dI : Nat → Nat → Nat) (cyI cyZ cyB : ClassId) (a1 : Nat) (a2 : Nat) (r1castAs : Nat) (r1givenTo : Nat) (r2there : Nat) (r2stallOf : Nat) (r2worth : Nat) (r2holder : Nat) (r2wishes : Nat) (r2mover : Nat) (r2movedFrom : Nat) (r2movedTo : Nat) (sz : Nat) (v1isOpen : Int32) (v1wasAny : Int32) (v1ayes : Int32) (v1noes : Int32) (v1silent : Int32) (f1castAs : Nat → Int32) (f1givenTo : Nat → Int32) (v2canons : Int32) (v2present : Int32) (v2stalls : Int32) (v2moves : Int32) (f2there : Nat → Int32) (p1 : Int32) (Post : Int32 → Int32 × Int32 × Int32 → Prop) (h : wp_X1_tell p1 v1isOpen v1wasAny f1castAs f1givenTo v1ayes v1noes v1silent v2canons f2there Post) : Met l yX1_tell wsX1_tell ({ frames := 3, cells := 0, slots := 0, locals := 63 } : Room) (MPre (dC, dI) [(cyI, .int), (cyZ, .boolean), (cyB, .byte)] [.ref a1, .int p1] sz [(a1, .inr (1, [.ref a2, .int v1isOpen, .int v1wasAny, .ref r1castAs, .ref r1givenTo, .int v1ayes, .int v1noes, .int v1silent])), (r1castAs, .inl (cyI, 20, .inl f1castAs)), (r1givenTo, .inl (cyI, 20, .inl f1givenTo)), (a2, .inr (2, [.int v2canons, .int v2present, .int v2stalls, .ref r2there, .ref r2stallOf, .ref r2worth, .ref r2holder, .ref r2wishes, .int v2moves, .ref r2mover, .ref r2movedFrom, .ref r2movedTo])), (r2there, .inl (cyZ, 20, .inl f2there))]) (va_Qi Post (fun (u : Int32 × Int32 × Int32) (t : State) => va_P (dC, dI) vwCl [(a1, .inr (1, [.ref a2, .int v1isOpen, .int v1wasAny, .ref r1castAs, .ref r1givenTo, .int u.1, .int u.2.1, .int u.2.2])), (r1castAs, .inl (cyI, 20, .inl f1castAs)), (r1givenTo, .inl (cyI, 20, .inl f1givenTo)), (a2, .inr (2, [.int v2canons, .int v2present, .int v2stalls, .ref r2there, .ref r2stallOf, .ref r2worth, .ref r2holder, .ref r2wishes, .int v2moves, .ref r2mover, .ref r2movedFrom, .ref r2movedTo])), (r2there, .inl (cyZ, 20, .inl f2there))] t.heap ∧ va_D (va_A [(a1, .inr (1, [.ref a2, .int v1isOpen, .int v1wasAny, .ref r1castAs, .ref r1givenTo, .int v1ayes, .int v1noes, .int v1silent])), (r1castAs, .inl (cyI, 20, .inl f1castAs)), (r1givenTo, .inl (cyI, 20, .inl f1givenTo)), (a2, .inr (2, [.int v2canons, .int v2present, .int v2stalls, .ref r2there, .ref r2stallOf, .ref r2worth, .ref r2holder, .ref r2wishes, .int v2moves, .ref r2mover, .ref r2movedFrom, .ref r2movedTo])), (r2there, .inl (cyZ, 20, .inl f2there))] sz) [(a1, .inr (1, [.ref a2, .int v1isOpen, .int v1wasAny, .ref r1castAs, .ref r1givenTo, .int u.1, .int u.2.1, .int u.2.2])), (r1castAs, .inl (cyI, 20, .inl f1castAs)), (r1givenTo, .inl (cyI, 20, .inl f1givenTo)), (a2, .inr (2, [.int v2canons, .int v2present, .int v2stalls, .ref r2there, .ref r2stallOf, .ref r2worth, .ref r2holder, .ref r2wishes, .int v2moves, .ref r2mover, .ref r2movedFrom, .ref r2movedTo])), (r2there, .inl (cyZ, 20, .inl f2there))]) (va_A [(a1, .inr (1, [.ref a2, .int v1isOpen, .int v1wasAny, .ref r1castAs, .ref r1givenTo, .int v1ayes, .int v1noes, .int v1silent])), (r1castAs, .inl (cyI, 20, .inl f1castAs)), (r1givenTo, .inl (cyI, 20, .inl f1givenTo)), (a2, .inr (2, [.int v2canons, .int v2present, .int v2stalls, .ref r2there, .ref r2stallOf, .ref r2worth, .ref r2holder, .ref r2wishes, .int v2moves, .ref r2mover, .ref r2movedFrom, .ref r2movedTo])), (r2there, .inl (cyZ, 20, .inl f2there))] sz)) 0 0 (va_A [(a1, .inr (1, [.ref a2, .int v1isOpen, .int v1wasAny, .ref r1castAs, .ref r1givenTo, .int v1ayes, .int v1noes, .int v1silent])), (r1castAs, .inl (cyI, 20, .inl f1castAs)), (r1givenTo, .inl (cyI, 20, .inl f1givenTo)), (a2, .inr (2, [.int v2canons, .int v2present, .int v2stalls, .ref r2there, .ref r2stallOf, .ref r2worth, .ref r2holder, .ref r2wishes, .int v2moves, .ref r2mover, .ref r2movedFrom, .ref r2movedTo])), (r2there, .inl (cyZ, 20, .inl f2there))] sz) := by
  refine Met.ofW (cc := cX1_tell) (maxL := 2) (ret := (some .int)) (by decide) rfl ?_
  intro p e s m args below meth c s₁ B hml hv
  obtain ⟨rfl, hsz, hP, hK, hD0, hN⟩ := hv
  have hx := B.exec
  have hb := B.bytes
  have hr := B.returns
  have hts := atoms_spec (ws := wsX1_tell) B.pre
  have hown : s.vm.findClass RX1 = some m.cls := findClass_of_methodNamed B.named
  have hlocks := B.notSynchronized
  subst hsz
  have hD := hD0.self (sz := s.heap.size)
  generalize hAe : va_A [(a1, .inr (1, [.ref a2, .int v1isOpen, .int v1wasAny, .ref r1castAs, .ref r1givenTo, .int v1ayes, .int v1noes, .int v1silent])), (r1castAs, .inl (cyI, 20, .inl f1castAs)), (r1givenTo, .inl (cyI, 20, .inl f1givenTo)), (a2, .inr (2, [.int v2canons, .int v2present, .int v2stalls, .ref r2there, .ref r2stallOf, .ref r2worth, .ref r2holder, .ref r2wishes, .int v2moves, .ref r2mover, .ref r2movedFrom, .ref r2movedTo])), (r2there, .inl (cyZ, 20, .inl f2there))] s.heap.size = A at hD ⊢
  have hA : ∀ q : Nat, s.heap.size ≤ q → A q := fun q h => by rw [← hAe]; exact Or.inr h
  have hS : va_S A s.heap s.heap [] := va_S.rf
  have hiX1 : ∀ w ∈ u_ws RX1 TX1 8, w ∈ wsX1_tell := by decide +kernel
  have lk9 := hts (.fieldLink RX1 9 "StallBook$Ballot" "isOpen" "Z") (by decide +kernel)
  have lk15 := hts (.fieldLink RX1 15 "StallBook$Ballot" "wasAny" "Z") (by decide +kernel)
  have lk25 := hts (.fieldLink RX1 25 "StallBook$Ballot" "ayes" "I") (by decide +kernel)
  have lk29 := hts (.fieldLink RX1 29 "StallBook$Ballot" "noes" "I") (by decide +kernel)
  have lk32 := hts (.fieldLink RX1 32 "StallBook$Ballot" "silent" "I") (by decide +kernel)
  delta wp_X1_tell at h
  have hl := lv_entry [.ref a1, .int p1] (n := 2) (Nat.le_of_ble_eq_true rfl)
  rw [lg_entry_eq]
  generalize (lg_sl [.ref a1, .int p1] ++ List.replicate (2 - (lg_sl [.ref a1, .int p1]).length) Slot.unset).toArray = ls at hl ⊢
  replace hl : lv_has ls 2 [(0, .ref a1), (1, .int p1)] := hl
  refine lv_aload_n hx hb dX1_tell_0 rfl (lv_at hl 0 rfl) ?_
  refine va_get (D := (dC, dI)) (ci := 1) (v := .int v1wasAny) (C := RX1) (T := TX1) (N := 8) hx hb hts hiX1 hown hK hP 0 rfl rfl 2 (by decide) lk15 (fun _ h9 => h9) rfl dX1_tell_1 ?_
  refine lv_if_ne (tgt := 9) hx hb dX1_tell_4 (by decide) (fun c => ?_) (fun c => ?_)
  · replace h := h.1 c
    refine lv_aload_n hx hb dX1_tell_9 rfl (lv_at hl 0 rfl) ?_
    refine va_get (D := (dC, dI)) (ci := 1) (v := .int v1isOpen) (C := RX1) (T := TX1) (N := 8) hx hb hts hiX1 hown hK hP 0 rfl rfl 1 (by decide) lk9 (fun _ h9 => h9) rfl dX1_tell_10 ?_
    refine lv_if_eq (tgt := 20) hx hb dX1_tell_13 (by decide) (fun c => ?_) (fun c => ?_)
    · replace h := h.1 c
      refine lv_iload_n hx hb dX1_tell_20 rfl (lv_at hl 1 rfl) ?_
      by_cases c0 : p1 = 0
      · replace h := h.1 c0
        refine lv_tableIn (off := 31) (tgt := 52) hx hb dX1_tell_21 (by rw [c0]; decide) (by rw [c0]; decide) (by rw [c0]; rfl) (by decide) ?_
        refine lv_aload_n hx hb dX1_tell_52 rfl (lv_at hl 0 rfl) ?_
        refine va_get (D := (dC, dI)) (ci := 1) (v := .int v1ayes) (C := RX1) (T := TX1) (N := 8) hx hb hts hiX1 hown hK hP 0 rfl rfl 5 (by decide) lk25 (fun _ h9 => h9) rfl dX1_tell_53 ?_
        exact W.iret (v := v1ayes) hx hb hr (fun t ht hW => ⟨⟨v1ayes, (v1ayes, v1noes, v1silent), rfl, h, by rw [ht]; exact hP, hD⟩, hS.F ht⟩) hS.2.2 dX1_tell_56
      replace h := h.2 c0
      by_cases c1 : p1 = 1
      · replace h := h.1 c1
        refine lv_tableIn (off := 36) (tgt := 57) hx hb dX1_tell_21 (by rw [c1]; decide) (by rw [c1]; decide) (by rw [c1]; rfl) (by decide) ?_
        refine lv_aload_n hx hb dX1_tell_57 rfl (lv_at hl 0 rfl) ?_
        refine va_get (D := (dC, dI)) (ci := 1) (v := .int v1noes) (C := RX1) (T := TX1) (N := 8) hx hb hts hiX1 hown hK hP 0 rfl rfl 6 (by decide) lk29 (fun _ h9 => h9) rfl dX1_tell_58 ?_
        exact W.iret (v := v1noes) hx hb hr (fun t ht hW => ⟨⟨v1noes, (v1ayes, v1noes, v1silent), rfl, h, by rw [ht]; exact hP, hD⟩, hS.F ht⟩) hS.2.2 dX1_tell_61
      replace h := h.2 c1
      by_cases c2 : p1 = 2
      · replace h := h.1 c2
        refine lv_tableIn (off := 41) (tgt := 62) hx hb dX1_tell_21 (by rw [c2]; decide) (by rw [c2]; decide) (by rw [c2]; rfl) (by decide) ?_
        refine lv_aload_n hx hb dX1_tell_62 rfl (lv_at hl 0 rfl) ?_
        refine va_get (D := (dC, dI)) (ci := 1) (v := .int v1silent) (C := RX1) (T := TX1) (N := 8) hx hb hts hiX1 hown hK hP 0 rfl rfl 7 (by decide) lk32 (fun _ h9 => h9) rfl dX1_tell_63 ?_
        exact W.iret (v := v1silent) hx hb hr (fun t ht hW => ⟨⟨v1silent, (v1ayes, v1noes, v1silent), rfl, h, by rw [ht]; exact hP, hD⟩, hS.F ht⟩) hS.2.2 dX1_tell_66
      replace h := h.2 c2
      by_cases c3 : p1 = 3
      · replace h := h.1 c3
        refine lv_tableIn (off := 46) (tgt := 67) hx hb dX1_tell_21 (by rw [c3]; decide) (by rw [c3]; decide) (by rw [c3]; rfl) (by decide) ?_
        refine lv_aload_n hx hb dX1_tell_67 rfl (lv_at hl 0 rfl) ?_
        refine va_get (D := (dC, dI)) (ci := 1) (v := .int v1isOpen) (C := RX1) (T := TX1) (N := 8) hx hb hts hiX1 hown hK hP 0 rfl rfl 1 (by decide) lk9 (fun _ h9 => h9) rfl dX1_tell_68 ?_
        refine lv_if_eq (tgt := 78) hx hb dX1_tell_71 (by decide) (fun c => ?_) (fun c => ?_)
        · replace h := h.1 c
          refine lv_iconst (v := 0) hx hb dX1_tell_78 (by decide) ?_
          exact W.iret (v := 0) hx hb hr (fun t ht hW => ⟨⟨0, (v1ayes, v1noes, v1silent), rfl, h, by rw [ht]; exact hP, hD⟩, hS.F ht⟩) hS.2.2 dX1_tell_79
        · replace h := h.2 c
          refine lv_iconst (v := 1) hx hb dX1_tell_74 (by decide) ?_
          refine lv_goto (tgt := 79) hx hb dX1_tell_75 (by decide) ?_
          exact W.iret (v := 1) hx hb hr (fun t ht hW => ⟨⟨1, (v1ayes, v1noes, v1silent), rfl, h, by rw [ht]; exact hP, hD⟩, hS.F ht⟩) hS.2.2 dX1_tell_79
      replace h := h.2 c3
      refine lv_tableOut (tgt := 80) hx hb dX1_tell_21 (sw_out 3 (by decide) (fun k hk => by rcases (show k = 0 ∨ k = 1 ∨ k = 2 ∨ k = 3 by omega) with rfl | rfl | rfl | rfl <;> assumption)) (by decide) ?_
      refine lv_iconst (v := (-1)) hx hb dX1_tell_80 (by decide) ?_
      exact W.iret (v := (-1)) hx hb hr (fun t ht hW => ⟨⟨(-1), (v1ayes, v1noes, v1silent), rfl, h, by rw [ht]; exact hP, hD⟩, hS.F ht⟩) hS.2.2 dX1_tell_81
    · replace h := h.2 c
      refine lv_aload_n hx hb dX1_tell_16 rfl (lv_at hl 0 rfl) ?_
      refine mc_v hP hD hS hA [0, 1, 2, 3, 4] [] [0, 1, 2, 3, 4] [] (fun (u2 : Int32 × Int32 × Int32) => [(a1, .inr (1, [.ref a2, .int v1isOpen, .int v1wasAny, .ref r1castAs, .ref r1givenTo, .int u2.1, .int u2.2.1, .int u2.2.2])), (r1castAs, .inl (cyI, 20, .inl f1castAs)), (r1givenTo, .inl (cyI, 20, .inl f1givenTo)), (a2, .inr (2, [.int v2canons, .int v2present, .int v2stalls, .ref r2there, .ref r2stallOf, .ref r2worth, .ref r2holder, .ref r2wishes, .int v2moves, .ref r2mover, .ref r2movedFrom, .ref r2movedTo])), (r2there, .inl (cyZ, 20, .inl f2there))]) rfl rfl (by decide) (by decide) (by decide) (fun _ => rfl) (fun _ => rfl) (va_runV (As := []) (rest := []) ⟨hx, hb, hml, hown, hts⟩ (c_X1_countUp l dC dI cyI cyZ cyB a1 a2 r1castAs r1givenTo r2there r2stallOf r2worth r2holder r2wishes r2mover r2movedFrom r2movedTo s.heap.size v1isOpen v1wasAny v1ayes v1noes v1silent f1castAs f1givenTo v2canons v2present v2stalls v2moves f2there  _ h) (cwV 0 hts gX1_tell_X1_countUp rfl rfl rfl (by decide +kernel) ⟨Nat.le_of_ble_eq_true rfl, Nat.le_of_ble_eq_true rfl⟩) ⟨MPre_blind, va_recv hK hP (ci := 1) (q0 := 0) rfl rfl, MPre_here [0, 1, 2, 3, 4] hP hD hK hN (by decide) rfl rfl⟩ rfl rfl hl.1 rfl (lv_room (Nat.le_of_ble_eq_true rfl)) dX1_tell_17 ⟨Nat.zero_le _, Nat.zero_le _⟩) (fun u2 H locs h hP hD hS => ?_)
      replace hP : va_P (dC, dI) vwCl [(a1, .inr (1, [.ref a2, .int v1isOpen, .int v1wasAny, .ref r1castAs, .ref r1givenTo, .int u2.1, .int u2.2.1, .int u2.2.2])), (r1castAs, .inl (cyI, 20, .inl f1castAs)), (r1givenTo, .inl (cyI, 20, .inl f1givenTo)), (a2, .inr (2, [.int v2canons, .int v2present, .int v2stalls, .ref r2there, .ref r2stallOf, .ref r2worth, .ref r2holder, .ref r2wishes, .int v2moves, .ref r2mover, .ref r2movedFrom, .ref r2movedTo])), (r2there, .inl (cyZ, 20, .inl f2there))] H := hP
      replace hD : va_D A [(a1, .inr (1, [.ref a2, .int v1isOpen, .int v1wasAny, .ref r1castAs, .ref r1givenTo, .int u2.1, .int u2.2.1, .int u2.2.2])), (r1castAs, .inl (cyI, 20, .inl f1castAs)), (r1givenTo, .inl (cyI, 20, .inl f1givenTo)), (a2, .inr (2, [.int v2canons, .int v2present, .int v2stalls, .ref r2there, .ref r2stallOf, .ref r2worth, .ref r2holder, .ref r2wishes, .int v2moves, .ref r2mover, .ref r2movedFrom, .ref r2movedTo])), (r2there, .inl (cyZ, 20, .inl f2there))] := hD
      refine lv_iload_n hx hb dX1_tell_20 rfl (lv_at hl 1 rfl) ?_
      by_cases c0 : p1 = 0
      · replace h := h.1 c0
        refine lv_tableIn (off := 31) (tgt := 52) hx hb dX1_tell_21 (by rw [c0]; decide) (by rw [c0]; decide) (by rw [c0]; rfl) (by decide) ?_
        refine lv_aload_n hx hb dX1_tell_52 rfl (lv_at hl 0 rfl) ?_
        refine va_get (D := (dC, dI)) (ci := 1) (v := .int u2.1) (C := RX1) (T := TX1) (N := 8) hx hb hts hiX1 hown hK hP 0 rfl rfl 5 (by decide) lk25 (fun _ h9 => h9) rfl dX1_tell_53 ?_
        exact W.iret (v := u2.1) hx hb hr (fun t ht hW => ⟨⟨u2.1, (u2.1, u2.2.1, u2.2.2), rfl, h, by rw [ht]; exact hP, hD⟩, hS.F ht⟩) hS.2.2 dX1_tell_56
      replace h := h.2 c0
      by_cases c1 : p1 = 1
      · replace h := h.1 c1
        refine lv_tableIn (off := 36) (tgt := 57) hx hb dX1_tell_21 (by rw [c1]; decide) (by rw [c1]; decide) (by rw [c1]; rfl) (by decide) ?_
        refine lv_aload_n hx hb dX1_tell_57 rfl (lv_at hl 0 rfl) ?_
        refine va_get (D := (dC, dI)) (ci := 1) (v := .int u2.2.1) (C := RX1) (T := TX1) (N := 8) hx hb hts hiX1 hown hK hP 0 rfl rfl 6 (by decide) lk29 (fun _ h9 => h9) rfl dX1_tell_58 ?_
        exact W.iret (v := u2.2.1) hx hb hr (fun t ht hW => ⟨⟨u2.2.1, (u2.1, u2.2.1, u2.2.2), rfl, h, by rw [ht]; exact hP, hD⟩, hS.F ht⟩) hS.2.2 dX1_tell_61
      replace h := h.2 c1
      by_cases c2 : p1 = 2
      · replace h := h.1 c2
        refine lv_tableIn (off := 41) (tgt := 62) hx hb dX1_tell_21 (by rw [c2]; decide) (by rw [c2]; decide) (by rw [c2]; rfl) (by decide) ?_
        refine lv_aload_n hx hb dX1_tell_62 rfl (lv_at hl 0 rfl) ?_
        refine va_get (D := (dC, dI)) (ci := 1) (v := .int u2.2.2) (C := RX1) (T := TX1) (N := 8) hx hb hts hiX1 hown hK hP 0 rfl rfl 7 (by decide) lk32 (fun _ h9 => h9) rfl dX1_tell_63 ?_
        exact W.iret (v := u2.2.2) hx hb hr (fun t ht hW => ⟨⟨u2.2.2, (u2.1, u2.2.1, u2.2.2), rfl, h, by rw [ht]; exact hP, hD⟩, hS.F ht⟩) hS.2.2 dX1_tell_66
      replace h := h.2 c2
      by_cases c3 : p1 = 3
      · replace h := h.1 c3
        refine lv_tableIn (off := 46) (tgt := 67) hx hb dX1_tell_21 (by rw [c3]; decide) (by rw [c3]; decide) (by rw [c3]; rfl) (by decide) ?_
        refine lv_aload_n hx hb dX1_tell_67 rfl (lv_at hl 0 rfl) ?_
        refine va_get (D := (dC, dI)) (ci := 1) (v := .int v1isOpen) (C := RX1) (T := TX1) (N := 8) hx hb hts hiX1 hown hK hP 0 rfl rfl 1 (by decide) lk9 (fun _ h9 => h9) rfl dX1_tell_68 ?_
        refine lv_if_eq (tgt := 78) hx hb dX1_tell_71 (by decide) (fun c => ?_) (fun c => ?_)
        · replace h := h.1 c
          refine lv_iconst (v := 0) hx hb dX1_tell_78 (by decide) ?_
          exact W.iret (v := 0) hx hb hr (fun t ht hW => ⟨⟨0, (u2.1, u2.2.1, u2.2.2), rfl, h, by rw [ht]; exact hP, hD⟩, hS.F ht⟩) hS.2.2 dX1_tell_79
        · replace h := h.2 c
          refine lv_iconst (v := 1) hx hb dX1_tell_74 (by decide) ?_
          refine lv_goto (tgt := 79) hx hb dX1_tell_75 (by decide) ?_
          exact W.iret (v := 1) hx hb hr (fun t ht hW => ⟨⟨1, (u2.1, u2.2.1, u2.2.2), rfl, h, by rw [ht]; exact hP, hD⟩, hS.F ht⟩) hS.2.2 dX1_tell_79
      replace h := h.2 c3
      refine lv_tableOut (tgt := 80) hx hb dX1_tell_21 (sw_out 3 (by decide) (fun k hk => by rcases (show k = 0 ∨ k = 1 ∨ k = 2 ∨ k = 3 by omega) with rfl | rfl | rfl | rfl <;> assumption)) (by decide) ?_
      refine lv_iconst (v := (-1)) hx hb dX1_tell_80 (by decide) ?_
      exact W.iret (v := (-1)) hx hb hr (fun t ht hW => ⟨⟨(-1), (u2.1, u2.2.1, u2.2.2), rfl, h, by rw [ht]; exact hP, hD⟩, hS.F ht⟩) hS.2.2 dX1_tell_81
  · replace h := h.2 c
    refine lv_iconst (v := (-1)) hx hb dX1_tell_7 (by decide) ?_
    exact W.iret (v := (-1)) hx hb hr (fun t ht hW => ⟨⟨(-1), (v1ayes, v1noes, v1silent), rfl, h, by rw [ht]; exact hP, hD⟩, hS.F ht⟩) hS.2.2 dX1_tell_8
