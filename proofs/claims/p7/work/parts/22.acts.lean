def wp_X0_make (p2 : Int32) (p3 : Int32) (v0made : Int32) (f0rules : Nat → Int32) (f0from : Nat → Int32) (f0knownFrom : Nat → Int32) (f5draft : Nat → Int32) (Post : Int32 → Int32 × (Nat → Int32) × (Nat → Int32) × (Nat → Int32) → Prop) : Prop := (((¬ v0made = 10) → ((¬ (0 : Int32) < 0 ∧ ¬ ((v0made + 1) * 13) < 0 ∧ ¬ (13 : Int32) < 0 ∧ (0 : Int32).toNatClampNeg + (13 : Int32).toNatClampNeg ≤ 13 ∧ ((v0made + 1) * 13).toNatClampNeg + (13 : Int32).toNatClampNeg ≤ 143) ∧ (vp_in v0made 10 ∧ (vp_in v0made 10 ∧ (Post v0made ((v0made + 1), (va_cpy f5draft f0rules (0 : Int32).toNatClampNeg ((v0made + 1) * 13).toNatClampNeg (13 : Int32).toNatClampNeg), (upd f0from v0made.toNatClampNeg p2), (upd f0knownFrom v0made.toNatClampNeg p3))))))) ∧ ((v0made = 10) → (Post (-1) (v0made, f0rules, f0from, f0knownFrom))))
set_option maxHeartbeats 4000000 in
set_option maxRecDepth 100000 in
theorem c_X0_make (l : Launch) (dC : Nat → ClassId) (dI : Nat → Nat → Nat) (cyI cyZ cyB : ClassId) (a0 : Nat) (r0rules : Nat) (r0from : Nat) (r0knownFrom : Nat) (r0undoneFrom : Nat) (r5draft : Nat) (sz : Nat) (v0made : Int32) (f0rules : Nat → Int32) (f0from : Nat → Int32) (f0knownFrom : Nat → Int32) (f5draft : Nat → Int32) (p2 : Int32) (p3 : Int32) (Post : Int32 → Int32 × (Nat → Int32) × (Nat → Int32) × (Nat → Int32) → Prop) (h : wp_X0_make p2 p3 v0made f0rules f0from f0knownFrom f5draft Post) : Met l yX0_make wsX0_make ({ frames := 1, cells := 0, slots := 0, locals := 48 } : Room) (MPre (dC, dI) [(cyI, .int), (cyZ, .boolean), (cyB, .byte)] [.ref a0, .ref r5draft, .int p2, .int p3] sz [(a0, .inr (0, [.int v0made, .ref r0rules, .ref r0from, .ref r0knownFrom, .ref r0undoneFrom])), (r0rules, .inl (cyI, 143, .inl f0rules)), (r0from, .inl (cyI, 10, .inl f0from)), (r0knownFrom, .inl (cyI, 10, .inl f0knownFrom)), (r5draft, .inl (cyI, 13, .inl f5draft))]) (va_Qi Post (fun (u : Int32 × (Nat → Int32) × (Nat → Int32) × (Nat → Int32)) (t : State) => va_P (dC, dI) vwCl [(a0, .inr (0, [.int u.1, .ref r0rules, .ref r0from, .ref r0knownFrom, .ref r0undoneFrom])), (r0rules, .inl (cyI, 143, .inl u.2.1)), (r0from, .inl (cyI, 10, .inl u.2.2.1)), (r0knownFrom, .inl (cyI, 10, .inl u.2.2.2)), (r5draft, .inl (cyI, 13, .inl f5draft))] t.heap ∧ va_D (va_A [(a0, .inr (0, [.int v0made, .ref r0rules, .ref r0from, .ref r0knownFrom, .ref r0undoneFrom])), (r0rules, .inl (cyI, 143, .inl f0rules)), (r0from, .inl (cyI, 10, .inl f0from)), (r0knownFrom, .inl (cyI, 10, .inl f0knownFrom)), (r5draft, .inl (cyI, 13, .inl f5draft))] sz) [(a0, .inr (0, [.int u.1, .ref r0rules, .ref r0from, .ref r0knownFrom, .ref r0undoneFrom])), (r0rules, .inl (cyI, 143, .inl u.2.1)), (r0from, .inl (cyI, 10, .inl u.2.2.1)), (r0knownFrom, .inl (cyI, 10, .inl u.2.2.2)), (r5draft, .inl (cyI, 13, .inl f5draft))]) (va_A [(a0, .inr (0, [.int v0made, .ref r0rules, .ref r0from, .ref r0knownFrom, .ref r0undoneFrom])), (r0rules, .inl (cyI, 143, .inl f0rules)), (r0from, .inl (cyI, 10, .inl f0from)), (r0knownFrom, .inl (cyI, 10, .inl f0knownFrom)), (r5draft, .inl (cyI, 13, .inl f5draft))] sz)) 0 0 (va_A [(a0, .inr (0, [.int v0made, .ref r0rules, .ref r0from, .ref r0knownFrom, .ref r0undoneFrom])), (r0rules, .inl (cyI, 143, .inl f0rules)), (r0from, .inl (cyI, 10, .inl f0from)), (r0knownFrom, .inl (cyI, 10, .inl f0knownFrom)), (r5draft, .inl (cyI, 13, .inl f5draft))] sz) := by
  refine Met.ofW (cc := cX0_make) (maxL := 5) (ret := (some .int)) (by decide) rfl ?_
  intro p e s m args below meth c s₁ B hml hv
  obtain ⟨rfl, hsz, hP, hK, hD0, hN⟩ := hv
  have hx := B.exec
  have hb := B.bytes
  have hr := B.returns
  have hts := atoms_spec (ws := wsX0_make) B.pre
  have hown : s.vm.findClass RX0 = some m.cls := findClass_of_methodNamed B.named
  have hlocks := B.notSynchronized
  subst hsz
  have hD := hD0.self (sz := s.heap.size)
  generalize hAe : va_A [(a0, .inr (0, [.int v0made, .ref r0rules, .ref r0from, .ref r0knownFrom, .ref r0undoneFrom])), (r0rules, .inl (cyI, 143, .inl f0rules)), (r0from, .inl (cyI, 10, .inl f0from)), (r0knownFrom, .inl (cyI, 10, .inl f0knownFrom)), (r5draft, .inl (cyI, 13, .inl f5draft))] s.heap.size = A at hD ⊢
  have hA : ∀ q : Nat, s.heap.size ≤ q → A q := fun q h => by rw [← hAe]; exact Or.inr h
  have hS : va_S A s.heap s.heap [] := va_S.rf
  have hiX0 : ∀ w ∈ u_ws RX0 TX0 5, w ∈ wsX0_make := by decide +kernel
  have lk9 := hts (.fieldLink RX0 9 "StallBook$Acts" "made" "I") (by decide +kernel)
  have lk15 := hts (.fieldLink RX0 15 "StallBook$Acts" "rules" "[I") (by decide +kernel)
  have lk19 := hts (.fieldLink RX0 19 "StallBook$Acts" "from" "[I") (by decide +kernel)
  have lk22 := hts (.fieldLink RX0 22 "StallBook$Acts" "knownFrom" "[I") (by decide +kernel)
  have lk31 := hts (.methodLink RX0 31 arraycopyName) (by decide +kernel)
  delta wp_X0_make at h
  have hl := lv_entry [.ref a0, .ref r5draft, .int p2, .int p3] (n := 5) (Nat.le_of_ble_eq_true rfl)
  rw [lg_entry_eq]
  generalize (lg_sl [.ref a0, .ref r5draft, .int p2, .int p3] ++ List.replicate (5 - (lg_sl [.ref a0, .ref r5draft, .int p2, .int p3]).length) Slot.unset).toArray = ls at hl ⊢
  replace hl : lv_has ls 5 [(0, .ref a0), (1, .ref r5draft), (2, .int p2), (3, .int p3)] := hl
  refine lv_aload_n hx hb dX0_make_0 rfl (lv_at hl 0 rfl) ?_
  refine va_get (D := (dC, dI)) (ci := 0) (v := .int v0made) (C := RX0) (T := TX0) (N := 5) hx hb hts hiX0 hown hK hP 0 rfl rfl 0 (by decide) lk9 (fun _ h9 => h9) rfl dX0_make_1 ?_
  refine lv_bipush (v := 10) hx hb dX0_make_4 (by decide) ?_
  refine lv_icmp_ne (tgt := 11) hx hb dX0_make_6 (by decide) (fun c => ?_) (fun c => ?_)
  · replace h := h.1 c
    refine lv_aload_n hx hb dX0_make_11 rfl (lv_at hl 0 rfl) ?_
    refine va_get (D := (dC, dI)) (ci := 0) (v := .int v0made) (C := RX0) (T := TX0) (N := 5) hx hb hts hiX0 hown hK hP 0 rfl rfl 0 (by decide) lk9 (fun _ h9 => h9) rfl dX0_make_12 ?_
    refine lv_istore (lv' := [(4, .int v0made), (0, .ref a0), (1, .ref r5draft), (2, .int p2), (3, .int p3)]) hx hb dX0_make_15 hl (by decide) rfl (fun ls hl => ?_)
    refine lv_aload_n hx hb dX0_make_17 rfl (lv_at hl 1 rfl) ?_
    refine lv_dup hx hb dX0_make_18 rfl ?_
    refine va_get (D := (dC, dI)) (ci := 0) (v := .int v0made) (C := RX0) (T := TX0) (N := 5) hx hb hts hiX0 hown hK hP 0 rfl rfl 0 (by decide) lk9 (fun _ h9 => h9) rfl dX0_make_19 ?_
    refine lv_iconst (v := 1) hx hb dX0_make_22 (by decide) ?_
    refine lv_iadd hx hb dX0_make_23 ?_
    refine va_put (D := (dC, dI)) (ci := 0) (v := .int (v0made + 1)) (ty := .int) (C := RX0) (T := TX0) (N := 5) hx hb hts hiX0 tyX0 tyX0_ok nmX0 hown hK hP hD hS 0 rfl rfl 0 (by decide) lk9 (fun _ h9 => h9) rfl (by decide +kernel) rfl rfl (Nat.le_of_ble_eq_true rfl) dX0_make_24 (fun H locs hP hD hS => ?_)
    replace hP : va_P (dC, dI) vwCl [(a0, .inr (0, [.int (v0made + 1), .ref r0rules, .ref r0from, .ref r0knownFrom, .ref r0undoneFrom])), (r0rules, .inl (cyI, 143, .inl f0rules)), (r0from, .inl (cyI, 10, .inl f0from)), (r0knownFrom, .inl (cyI, 10, .inl f0knownFrom)), (r5draft, .inl (cyI, 13, .inl f5draft))] H := hP
    replace hD : va_D A [(a0, .inr (0, [.int (v0made + 1), .ref r0rules, .ref r0from, .ref r0knownFrom, .ref r0undoneFrom])), (r0rules, .inl (cyI, 143, .inl f0rules)), (r0from, .inl (cyI, 10, .inl f0from)), (r0knownFrom, .inl (cyI, 10, .inl f0knownFrom)), (r5draft, .inl (cyI, 13, .inl f5draft))] := hD
    refine lv_aload_n hx hb dX0_make_27 rfl (lv_at hl 2 rfl) ?_
    refine lv_iconst (v := 0) hx hb dX0_make_28 (by decide) ?_
    refine lv_aload_n hx hb dX0_make_29 rfl (lv_at hl 1 rfl) ?_
    refine va_get (D := (dC, dI)) (ci := 0) (v := .ref r0rules) (C := RX0) (T := TX0) (N := 5) hx hb hts hiX0 hown hK hP 0 rfl rfl 1 (by decide) lk15 (fun _ h9 => h9) rfl dX0_make_30 ?_
    refine lv_iload hx hb dX0_make_33 (lv_at hl 0 rfl) ?_
    refine lv_iconst (v := 1) hx hb dX0_make_35 (by decide) ?_
    refine lv_iadd hx hb dX0_make_36 ?_
    refine lv_bipush (v := 13) hx hb dX0_make_37 (by decide) ?_
    refine lv_imul hx hb dX0_make_39 ?_
    refine lv_bipush (v := 13) hx hb dX0_make_40 (by decide) ?_
    refine va_copyi hx hb (hml.trans hl.1.symm) hown lk31 (hts (.native arraycopyName) (by decide +kernel)) (hts (.static arraycopyName) (by decide +kernel)) (hts (.initialized "java/lang/System") (by decide +kernel)) hK hP hD hS 4 1 0 0 rfl rfl rfl rfl rfl h.1.1 h.1.2.1 h.1.2.2.1 h.1.2.2.2.1 h.1.2.2.2.2 (fun _ _ => rfl) (Nat.le_of_ble_eq_true rfl) (Nat.le_of_ble_eq_true rfl) dX0_make_42 (fun H locs hP hD hS => ?_)
    replace h := h.2
    replace hP : va_P (dC, dI) vwCl [(a0, .inr (0, [.int (v0made + 1), .ref r0rules, .ref r0from, .ref r0knownFrom, .ref r0undoneFrom])), (r0rules, .inl (cyI, 143, .inl (va_cpy f5draft f0rules (0 : Int32).toNatClampNeg ((v0made + 1) * 13).toNatClampNeg (13 : Int32).toNatClampNeg))), (r0from, .inl (cyI, 10, .inl f0from)), (r0knownFrom, .inl (cyI, 10, .inl f0knownFrom)), (r5draft, .inl (cyI, 13, .inl f5draft))] H := hP
    replace hD : va_D A [(a0, .inr (0, [.int (v0made + 1), .ref r0rules, .ref r0from, .ref r0knownFrom, .ref r0undoneFrom])), (r0rules, .inl (cyI, 143, .inl (va_cpy f5draft f0rules (0 : Int32).toNatClampNeg ((v0made + 1) * 13).toNatClampNeg (13 : Int32).toNatClampNeg))), (r0from, .inl (cyI, 10, .inl f0from)), (r0knownFrom, .inl (cyI, 10, .inl f0knownFrom)), (r5draft, .inl (cyI, 13, .inl f5draft))] := hD
    refine lv_aload_n hx hb dX0_make_45 rfl (lv_at hl 1 rfl) ?_
    refine va_get (D := (dC, dI)) (ci := 0) (v := .ref r0from) (C := RX0) (T := TX0) (N := 5) hx hb hts hiX0 hown hK hP 0 rfl rfl 2 (by decide) lk19 (fun _ h9 => h9) rfl dX0_make_46 ?_
    refine lv_iload hx hb dX0_make_49 (lv_at hl 0 rfl) ?_
    refine lv_iload_n hx hb dX0_make_51 rfl (lv_at hl 3 rfl) ?_
    refine va_iast hx hb hK hP hD hS 2 0 rfl rfl h.1 dX0_make_52 (fun H locs hP hD hS => ?_)
    replace h := h.2
    replace hP : va_P (dC, dI) vwCl [(a0, .inr (0, [.int (v0made + 1), .ref r0rules, .ref r0from, .ref r0knownFrom, .ref r0undoneFrom])), (r0rules, .inl (cyI, 143, .inl (va_cpy f5draft f0rules (0 : Int32).toNatClampNeg ((v0made + 1) * 13).toNatClampNeg (13 : Int32).toNatClampNeg))), (r0from, .inl (cyI, 10, .inl (upd f0from v0made.toNatClampNeg p2))), (r0knownFrom, .inl (cyI, 10, .inl f0knownFrom)), (r5draft, .inl (cyI, 13, .inl f5draft))] H := hP
    replace hD : va_D A [(a0, .inr (0, [.int (v0made + 1), .ref r0rules, .ref r0from, .ref r0knownFrom, .ref r0undoneFrom])), (r0rules, .inl (cyI, 143, .inl (va_cpy f5draft f0rules (0 : Int32).toNatClampNeg ((v0made + 1) * 13).toNatClampNeg (13 : Int32).toNatClampNeg))), (r0from, .inl (cyI, 10, .inl (upd f0from v0made.toNatClampNeg p2))), (r0knownFrom, .inl (cyI, 10, .inl f0knownFrom)), (r5draft, .inl (cyI, 13, .inl f5draft))] := hD
    refine lv_aload_n hx hb dX0_make_53 rfl (lv_at hl 1 rfl) ?_
    refine va_get (D := (dC, dI)) (ci := 0) (v := .ref r0knownFrom) (C := RX0) (T := TX0) (N := 5) hx hb hts hiX0 hown hK hP 0 rfl rfl 3 (by decide) lk22 (fun _ h9 => h9) rfl dX0_make_54 ?_
    refine lv_iload hx hb dX0_make_57 (lv_at hl 0 rfl) ?_
    refine lv_iload_n hx hb dX0_make_59 rfl (lv_at hl 4 rfl) ?_
    refine va_iast hx hb hK hP hD hS 3 0 rfl rfl h.1 dX0_make_60 (fun H locs hP hD hS => ?_)
    replace h := h.2
    replace hP : va_P (dC, dI) vwCl [(a0, .inr (0, [.int (v0made + 1), .ref r0rules, .ref r0from, .ref r0knownFrom, .ref r0undoneFrom])), (r0rules, .inl (cyI, 143, .inl (va_cpy f5draft f0rules (0 : Int32).toNatClampNeg ((v0made + 1) * 13).toNatClampNeg (13 : Int32).toNatClampNeg))), (r0from, .inl (cyI, 10, .inl (upd f0from v0made.toNatClampNeg p2))), (r0knownFrom, .inl (cyI, 10, .inl (upd f0knownFrom v0made.toNatClampNeg p3))), (r5draft, .inl (cyI, 13, .inl f5draft))] H := hP
    replace hD : va_D A [(a0, .inr (0, [.int (v0made + 1), .ref r0rules, .ref r0from, .ref r0knownFrom, .ref r0undoneFrom])), (r0rules, .inl (cyI, 143, .inl (va_cpy f5draft f0rules (0 : Int32).toNatClampNeg ((v0made + 1) * 13).toNatClampNeg (13 : Int32).toNatClampNeg))), (r0from, .inl (cyI, 10, .inl (upd f0from v0made.toNatClampNeg p2))), (r0knownFrom, .inl (cyI, 10, .inl (upd f0knownFrom v0made.toNatClampNeg p3))), (r5draft, .inl (cyI, 13, .inl f5draft))] := hD
    refine lv_iload hx hb dX0_make_61 (lv_at hl 0 rfl) ?_
    exact W.iret (v := v0made) hx hb hr (fun t ht hW => ⟨⟨v0made, ((v0made + 1), (va_cpy f5draft f0rules (0 : Int32).toNatClampNeg ((v0made + 1) * 13).toNatClampNeg (13 : Int32).toNatClampNeg), (upd f0from v0made.toNatClampNeg p2), (upd f0knownFrom v0made.toNatClampNeg p3)), rfl, h, by rw [ht]; exact hP, hD⟩, hS.F ht⟩) hS.2.2 dX0_make_63
  · replace h := h.2 c
    refine lv_iconst (v := (-1)) hx hb dX0_make_9 (by decide) ?_
    exact W.iret (v := (-1)) hx hb hr (fun t ht hW => ⟨⟨(-1), (v0made, f0rules, f0from, f0knownFrom), rfl, h, by rw [ht]; exact hP, hD⟩, hS.F ht⟩) hS.2.2 dX0_make_10
def wp_X0_strike (p1 : Int32) (p2 : Int32) (v0made : Int32) (f0undoneFrom : Nat → Int32) (Post : Int32 → (Nat → Int32) → Prop) : Prop := (((p1 < 0) → (Post 0 f0undoneFrom)) ∧ ((¬ p1 < 0) → (((v0made ≤ p1) → (Post 0 f0undoneFrom)) ∧ ((¬ v0made ≤ p1) → (vp_in p1 10 ∧ ((((f0undoneFrom p1.toNatClampNeg) = 400) → (vp_in p1 10 ∧ (Post 1 (upd f0undoneFrom p1.toNatClampNeg p2)))) ∧ ((¬ (f0undoneFrom p1.toNatClampNeg) = 400) → (Post 0 f0undoneFrom))))))))
set_option maxHeartbeats 4000000 in
set_option maxRecDepth 100000 in
theorem c_X0_strike (l : Launch) (dC : Nat → ClassId) (dI : Nat → Nat → Nat) (cyI cyZ cyB : ClassId) (a0 : Nat) (r0rules : Nat) (r0from : Nat) (r0knownFrom : Nat) (r0undoneFrom : Nat) (sz : Nat) (v0made : Int32) (f0undoneFrom : Nat → Int32) (p1 : Int32) (p2 : Int32) (Post : Int32 → (Nat → Int32) → Prop) (h : wp_X0_strike p1 p2 v0made f0undoneFrom Post) : Met l yX0_strike wsX0_strike ({ frames := 0, cells := 0, slots := 0, locals := 0 } : Room) (MPre (dC, dI) [(cyI, .int), (cyZ, .boolean), (cyB, .byte)] [.ref a0, .int p1, .int p2] sz [(a0, .inr (0, [.int v0made, .ref r0rules, .ref r0from, .ref r0knownFrom, .ref r0undoneFrom])), (r0undoneFrom, .inl (cyI, 10, .inl f0undoneFrom))]) (va_Qi Post (fun (u : (Nat → Int32)) (t : State) => va_P (dC, dI) vwCl [(a0, .inr (0, [.int v0made, .ref r0rules, .ref r0from, .ref r0knownFrom, .ref r0undoneFrom])), (r0undoneFrom, .inl (cyI, 10, .inl u))] t.heap ∧ va_D (va_A [(a0, .inr (0, [.int v0made, .ref r0rules, .ref r0from, .ref r0knownFrom, .ref r0undoneFrom])), (r0undoneFrom, .inl (cyI, 10, .inl f0undoneFrom))] sz) [(a0, .inr (0, [.int v0made, .ref r0rules, .ref r0from, .ref r0knownFrom, .ref r0undoneFrom])), (r0undoneFrom, .inl (cyI, 10, .inl u))]) (va_A [(a0, .inr (0, [.int v0made, .ref r0rules, .ref r0from, .ref r0knownFrom, .ref r0undoneFrom])), (r0undoneFrom, .inl (cyI, 10, .inl f0undoneFrom))] sz)) 0 0 (va_A [(a0, .inr (0, [.int v0made, .ref r0rules, .ref r0from, .ref r0knownFrom, .ref r0undoneFrom])), (r0undoneFrom, .inl (cyI, 10, .inl f0undoneFrom))] sz) := by
  refine Met.ofW (cc := cX0_strike) (maxL := 3) (ret := (some .boolean)) (by decide) rfl ?_
  intro p e s m args below meth c s₁ B hml hv
  obtain ⟨rfl, hsz, hP, hK, hD0, hN⟩ := hv
  have hx := B.exec
  have hb := B.bytes
  have hr := B.returns
  have hts := atoms_spec (ws := wsX0_strike) B.pre
  have hown : s.vm.findClass RX0 = some m.cls := findClass_of_methodNamed B.named
  have hlocks := B.notSynchronized
  subst hsz
  have hD := hD0.self (sz := s.heap.size)
  generalize hAe : va_A [(a0, .inr (0, [.int v0made, .ref r0rules, .ref r0from, .ref r0knownFrom, .ref r0undoneFrom])), (r0undoneFrom, .inl (cyI, 10, .inl f0undoneFrom))] s.heap.size = A at hD ⊢
  have hA : ∀ q : Nat, s.heap.size ≤ q → A q := fun q h => by rw [← hAe]; exact Or.inr h
  have hS : va_S A s.heap s.heap [] := va_S.rf
  have hiX0 : ∀ w ∈ u_ws RX0 TX0 5, w ∈ wsX0_strike := by decide +kernel
  have lk9 := hts (.fieldLink RX0 9 "StallBook$Acts" "made" "I") (by decide +kernel)
  have lk25 := hts (.fieldLink RX0 25 "StallBook$Acts" "undoneFrom" "[I") (by decide +kernel)
  delta wp_X0_strike at h
  have hl := lv_entry [.ref a0, .int p1, .int p2] (n := 3) (Nat.le_of_ble_eq_true rfl)
  rw [lg_entry_eq]
  generalize (lg_sl [.ref a0, .int p1, .int p2] ++ List.replicate (3 - (lg_sl [.ref a0, .int p1, .int p2]).length) Slot.unset).toArray = ls at hl ⊢
  replace hl : lv_has ls 3 [(0, .ref a0), (1, .int p1), (2, .int p2)] := hl
  refine lv_iload_n hx hb dX0_strike_0 rfl (lv_at hl 1 rfl) ?_
  refine lv_if_lt (tgt := 24) hx hb dX0_strike_1 (by decide) (fun c => ?_) (fun c => ?_)
  · replace h := h.1 c
    refine lv_iconst (v := 0) hx hb dX0_strike_24 (by decide) ?_
    exact W.zret (v := 0) (ty := .boolean) hx hb hr rfl (fun t ht hW => ⟨⟨0, f0undoneFrom, rfl, h, by rw [ht]; exact hP, hD⟩, hS.F ht⟩) hS.2.2 dX0_strike_25
  · replace h := h.2 c
    refine lv_iload_n hx hb dX0_strike_4 rfl (lv_at hl 1 rfl) ?_
    refine lv_aload_n hx hb dX0_strike_5 rfl (lv_at hl 0 rfl) ?_
    refine va_get (D := (dC, dI)) (ci := 0) (v := .int v0made) (C := RX0) (T := TX0) (N := 5) hx hb hts hiX0 hown hK hP 0 rfl rfl 0 (by decide) lk9 (fun _ h9 => h9) rfl dX0_strike_6 ?_
    refine lv_icmp_ge (tgt := 24) hx hb dX0_strike_9 (by decide) (fun c => ?_) (fun c => ?_)
    · replace h := h.1 c
      refine lv_iconst (v := 0) hx hb dX0_strike_24 (by decide) ?_
      exact W.zret (v := 0) (ty := .boolean) hx hb hr rfl (fun t ht hW => ⟨⟨0, f0undoneFrom, rfl, h, by rw [ht]; exact hP, hD⟩, hS.F ht⟩) hS.2.2 dX0_strike_25
    · replace h := h.2 c
      refine lv_aload_n hx hb dX0_strike_12 rfl (lv_at hl 0 rfl) ?_
      refine va_get (D := (dC, dI)) (ci := 0) (v := .ref r0undoneFrom) (C := RX0) (T := TX0) (N := 5) hx hb hts hiX0 hown hK hP 0 rfl rfl 4 (by decide) lk25 (fun _ h9 => h9) rfl dX0_strike_13 ?_
      refine lv_iload_n hx hb dX0_strike_16 rfl (lv_at hl 1 rfl) ?_
      refine va_iald hx hb hK hP 1 0 rfl rfl h.1 dX0_strike_17 ?_
      replace h := h.2
      refine lv_sipush (v := 400) hx hb dX0_strike_18 (by decide) ?_
      refine lv_icmp_eq (tgt := 26) hx hb dX0_strike_21 (by decide) (fun c => ?_) (fun c => ?_)
      · replace h := h.1 c
        refine lv_aload_n hx hb dX0_strike_26 rfl (lv_at hl 0 rfl) ?_
        refine va_get (D := (dC, dI)) (ci := 0) (v := .ref r0undoneFrom) (C := RX0) (T := TX0) (N := 5) hx hb hts hiX0 hown hK hP 0 rfl rfl 4 (by decide) lk25 (fun _ h9 => h9) rfl dX0_strike_27 ?_
        refine lv_iload_n hx hb dX0_strike_30 rfl (lv_at hl 1 rfl) ?_
        refine lv_iload_n hx hb dX0_strike_31 rfl (lv_at hl 2 rfl) ?_
        refine va_iast hx hb hK hP hD hS 1 0 rfl rfl h.1 dX0_strike_32 (fun H locs hP hD hS => ?_)
        replace h := h.2
        replace hP : va_P (dC, dI) vwCl [(a0, .inr (0, [.int v0made, .ref r0rules, .ref r0from, .ref r0knownFrom, .ref r0undoneFrom])), (r0undoneFrom, .inl (cyI, 10, .inl (upd f0undoneFrom p1.toNatClampNeg p2)))] H := hP
        replace hD : va_D A [(a0, .inr (0, [.int v0made, .ref r0rules, .ref r0from, .ref r0knownFrom, .ref r0undoneFrom])), (r0undoneFrom, .inl (cyI, 10, .inl (upd f0undoneFrom p1.toNatClampNeg p2)))] := hD
        refine lv_iconst (v := 1) hx hb dX0_strike_33 (by decide) ?_
        exact W.zret (v := 1) (ty := .boolean) hx hb hr rfl (fun t ht hW => ⟨⟨1, (upd f0undoneFrom p1.toNatClampNeg p2), rfl, h, by rw [ht]; exact hP, hD⟩, hS.F ht⟩) hS.2.2 dX0_strike_34
      · replace h := h.2 c
        refine lv_iconst (v := 0) hx hb dX0_strike_24 (by decide) ?_
        exact W.zret (v := 0) (ty := .boolean) hx hb hr rfl (fun t ht hW => ⟨⟨0, f0undoneFrom, rfl, h, by rw [ht]; exact hP, hD⟩, hS.F ht⟩) hS.2.2 dX0_strike_25
def wp_X0_isUndone (p1 : Int32) (p2 : Int32) (f0undoneFrom : Nat → Int32) (Post : Int32 → Unit → Prop) : Prop := (vp_in p1 10 ∧ ((((f0undoneFrom p1.toNatClampNeg) = 400) → (Post 0 ())) ∧ ((¬ (f0undoneFrom p1.toNatClampNeg) = 400) → (vp_in p1 10 ∧ (((p2 < (f0undoneFrom p1.toNatClampNeg)) → (Post 0 ())) ∧ ((¬ p2 < (f0undoneFrom p1.toNatClampNeg)) → (Post 1 ())))))))
set_option maxHeartbeats 4000000 in
set_option maxRecDepth 100000 in
theorem c_X0_isUndone (l : Launch) (dC : Nat → ClassId) (dI : Nat → Nat → Nat) (cyI cyZ cyB : ClassId) (a0 : Nat) (r0rules : Nat) (r0from : Nat) (r0knownFrom : Nat) (r0undoneFrom : Nat) (sz : Nat) (v0made : Int32) (f0undoneFrom : Nat → Int32) (p1 : Int32) (p2 : Int32) (Post : Int32 → Unit → Prop) (h : wp_X0_isUndone p1 p2 f0undoneFrom Post) : Met l yX0_isUndone wsX0_isUndone ({ frames := 0, cells := 0, slots := 0, locals := 0 } : Room) (MPre (dC, dI) [(cyI, .int), (cyZ, .boolean), (cyB, .byte)] [.ref a0, .int p1, .int p2] sz [(a0, .inr (0, [.int v0made, .ref r0rules, .ref r0from, .ref r0knownFrom, .ref r0undoneFrom])), (r0undoneFrom, .inl (cyI, 10, .inl f0undoneFrom))]) (va_Qi Post (fun (u : Unit) (t : State) => va_P (dC, dI) vwCl [(a0, .inr (0, [.int v0made, .ref r0rules, .ref r0from, .ref r0knownFrom, .ref r0undoneFrom])), (r0undoneFrom, .inl (cyI, 10, .inl f0undoneFrom))] t.heap ∧ va_D (va_A [(a0, .inr (0, [.int v0made, .ref r0rules, .ref r0from, .ref r0knownFrom, .ref r0undoneFrom])), (r0undoneFrom, .inl (cyI, 10, .inl f0undoneFrom))] sz) [(a0, .inr (0, [.int v0made, .ref r0rules, .ref r0from, .ref r0knownFrom, .ref r0undoneFrom])), (r0undoneFrom, .inl (cyI, 10, .inl f0undoneFrom))]) (va_A [(a0, .inr (0, [.int v0made, .ref r0rules, .ref r0from, .ref r0knownFrom, .ref r0undoneFrom])), (r0undoneFrom, .inl (cyI, 10, .inl f0undoneFrom))] sz)) 0 0 (va_A [(a0, .inr (0, [.int v0made, .ref r0rules, .ref r0from, .ref r0knownFrom, .ref r0undoneFrom])), (r0undoneFrom, .inl (cyI, 10, .inl f0undoneFrom))] sz) := by
  refine Met.ofW (cc := cX0_isUndone) (maxL := 3) (ret := (some .boolean)) (by decide) rfl ?_
  intro p e s m args below meth c s₁ B hml hv
  obtain ⟨rfl, hsz, hP, hK, hD0, hN⟩ := hv
  have hx := B.exec
  have hb := B.bytes
  have hr := B.returns
  have hts := atoms_spec (ws := wsX0_isUndone) B.pre
  have hown : s.vm.findClass RX0 = some m.cls := findClass_of_methodNamed B.named
  have hlocks := B.notSynchronized
  subst hsz
  have hD := hD0.self (sz := s.heap.size)
  generalize hAe : va_A [(a0, .inr (0, [.int v0made, .ref r0rules, .ref r0from, .ref r0knownFrom, .ref r0undoneFrom])), (r0undoneFrom, .inl (cyI, 10, .inl f0undoneFrom))] s.heap.size = A at hD ⊢
  have hA : ∀ q : Nat, s.heap.size ≤ q → A q := fun q h => by rw [← hAe]; exact Or.inr h
  have hS : va_S A s.heap s.heap [] := va_S.rf
  have hiX0 : ∀ w ∈ u_ws RX0 TX0 5, w ∈ wsX0_isUndone := by decide +kernel
  have lk25 := hts (.fieldLink RX0 25 "StallBook$Acts" "undoneFrom" "[I") (by decide +kernel)
  delta wp_X0_isUndone at h
  have hl := lv_entry [.ref a0, .int p1, .int p2] (n := 3) (Nat.le_of_ble_eq_true rfl)
  rw [lg_entry_eq]
  generalize (lg_sl [.ref a0, .int p1, .int p2] ++ List.replicate (3 - (lg_sl [.ref a0, .int p1, .int p2]).length) Slot.unset).toArray = ls at hl ⊢
  replace hl : lv_has ls 3 [(0, .ref a0), (1, .int p1), (2, .int p2)] := hl
  refine lv_aload_n hx hb dX0_isUndone_0 rfl (lv_at hl 0 rfl) ?_
  refine va_get (D := (dC, dI)) (ci := 0) (v := .ref r0undoneFrom) (C := RX0) (T := TX0) (N := 5) hx hb hts hiX0 hown hK hP 0 rfl rfl 4 (by decide) lk25 (fun _ h9 => h9) rfl dX0_isUndone_1 ?_
  refine lv_iload_n hx hb dX0_isUndone_4 rfl (lv_at hl 1 rfl) ?_
  refine va_iald hx hb hK hP 1 0 rfl rfl h.1 dX0_isUndone_5 ?_
  replace h := h.2
  refine lv_sipush (v := 400) hx hb dX0_isUndone_6 (by decide) ?_
  refine lv_icmp_eq (tgt := 26) hx hb dX0_isUndone_9 (by decide) (fun c => ?_) (fun c => ?_)
  · replace h := h.1 c
    refine lv_iconst (v := 0) hx hb dX0_isUndone_26 (by decide) ?_
    exact W.zret (v := 0) (ty := .boolean) hx hb hr rfl (fun t ht hW => ⟨⟨0, (), rfl, h, by rw [ht]; exact hP, hD⟩, hS.F ht⟩) hS.2.2 dX0_isUndone_27
  · replace h := h.2 c
    refine lv_aload_n hx hb dX0_isUndone_12 rfl (lv_at hl 0 rfl) ?_
    refine va_get (D := (dC, dI)) (ci := 0) (v := .ref r0undoneFrom) (C := RX0) (T := TX0) (N := 5) hx hb hts hiX0 hown hK hP 0 rfl rfl 4 (by decide) lk25 (fun _ h9 => h9) rfl dX0_isUndone_13 ?_
    refine lv_iload_n hx hb dX0_isUndone_16 rfl (lv_at hl 1 rfl) ?_
    refine va_iald hx hb hK hP 1 0 rfl rfl h.1 dX0_isUndone_17 ?_
    replace h := h.2
    refine lv_iload_n hx hb dX0_isUndone_18 rfl (lv_at hl 2 rfl) ?_
    refine lv_icmp_gt (tgt := 26) hx hb dX0_isUndone_19 (by decide) (fun c => ?_) (fun c => ?_)
    · replace h := h.1 c
      refine lv_iconst (v := 0) hx hb dX0_isUndone_26 (by decide) ?_
      exact W.zret (v := 0) (ty := .boolean) hx hb hr rfl (fun t ht hW => ⟨⟨0, (), rfl, h, by rw [ht]; exact hP, hD⟩, hS.F ht⟩) hS.2.2 dX0_isUndone_27
    · replace h := h.2 c
      refine lv_iconst (v := 1) hx hb dX0_isUndone_22 (by decide) ?_
      refine lv_goto (tgt := 27) hx hb dX0_isUndone_23 (by decide) ?_
      exact W.zret (v := 1) (ty := .boolean) hx hb hr rfl (fun t ht hW => ⟨⟨1, (), rfl, h, by rw [ht]; exact hP, hD⟩, hS.F ht⟩) hS.2.2 dX0_isUndone_27
def lp_X0_inForce_5 (k1 : Int32) (k2 : Int32) (v0made : Int32) (f0from : Nat → Int32) (f0knownFrom : Nat → Int32) (f0undoneFrom : Nat → Int32) (Post : Int32 → Unit → Prop) (K : Int32 → Int32 → Prop) : Nat → Int32 → Int32 → Prop
  | 0, _, _ => False
  | n + 1, y3, y4 => (((v0made ≤ y4) → (K y3 y4)) ∧ ((¬ v0made ≤ y4) → (vp_in y4 10 ∧ (((k2 < (f0knownFrom y4.toNatClampNeg)) → (∀ x1 : Int32, x1 = y4 + 1 → (lp_X0_inForce_5 k1 k2 v0made f0from f0knownFrom f0undoneFrom Post K n y3 x1))) ∧ ((¬ k2 < (f0knownFrom y4.toNatClampNeg)) → (wp_X0_isUndone y4 k2 f0undoneFrom (fun (r2 : Int32) (u3 : Unit) => (((¬ r2 = 0) → (∀ x4 : Int32, x4 = y4 + 1 → (lp_X0_inForce_5 k1 k2 v0made f0from f0knownFrom f0undoneFrom Post K n y3 x4))) ∧ ((r2 = 0) → (vp_in y4 10 ∧ (((k1 < (f0from y4.toNatClampNeg)) → (∀ x5 : Int32, x5 = y4 + 1 → (lp_X0_inForce_5 k1 k2 v0made f0from f0knownFrom f0undoneFrom Post K n y3 x5))) ∧ ((¬ k1 < (f0from y4.toNatClampNeg)) → (((y3 = (-1)) → (∀ x6 : Int32, x6 = y4 + 1 → (lp_X0_inForce_5 k1 k2 v0made f0from f0knownFrom f0undoneFrom Post K n y4 x6))) ∧ ((¬ y3 = (-1)) → (vp_in y4 10 ∧ (vp_in y3 10 ∧ ((((f0from y4.toNatClampNeg) < (f0from y3.toNatClampNeg)) → (∀ x7 : Int32, x7 = y4 + 1 → (lp_X0_inForce_5 k1 k2 v0made f0from f0knownFrom f0undoneFrom Post K n y3 x7))) ∧ ((¬ (f0from y4.toNatClampNeg) < (f0from y3.toNatClampNeg)) → (∀ x8 : Int32, x8 = y4 + 1 → (lp_X0_inForce_5 k1 k2 v0made f0from f0knownFrom f0undoneFrom Post K n y4 x8))))))))))))))))))))
def wp_X0_inForce (p1 : Int32) (p2 : Int32) (v0made : Int32) (f0from : Nat → Int32) (f0knownFrom : Nat → Int32) (f0undoneFrom : Nat → Int32) (Post : Int32 → Unit → Prop) : Prop := (∃ n11 : Nat, lp_X0_inForce_5 p1 p2 v0made f0from f0knownFrom f0undoneFrom Post (fun (x9 : Int32) (x10 : Int32) => (Post x9 ())) n11 (-1) 0)
set_option maxHeartbeats 4000000 in
set_option maxRecDepth 100000 in
theorem c_X0_inForce (l : Launch) (dC : Nat → ClassId) (dI : Nat → Nat → Nat) (cyI cyZ cyB : ClassId) (a0 : Nat) (r0rules : Nat) (r0from : Nat) (r0knownFrom : Nat) (r0undoneFrom : Nat) (sz : Nat) (v0made : Int32) (f0from : Nat → Int32) (f0knownFrom : Nat → Int32) (f0undoneFrom : Nat → Int32) (p1 : Int32) (p2 : Int32) (Post : Int32 → Unit → Prop) (h : wp_X0_inForce p1 p2 v0made f0from f0knownFrom f0undoneFrom Post) : Met l yX0_inForce wsX0_inForce ({ frames := 1, cells := 0, slots := 0, locals := 22 } : Room) (MPre (dC, dI) [(cyI, .int), (cyZ, .boolean), (cyB, .byte)] [.ref a0, .int p1, .int p2] sz [(a0, .inr (0, [.int v0made, .ref r0rules, .ref r0from, .ref r0knownFrom, .ref r0undoneFrom])), (r0from, .inl (cyI, 10, .inl f0from)), (r0knownFrom, .inl (cyI, 10, .inl f0knownFrom)), (r0undoneFrom, .inl (cyI, 10, .inl f0undoneFrom))]) (va_Qi Post (fun (u : Unit) (t : State) => va_P (dC, dI) vwCl [(a0, .inr (0, [.int v0made, .ref r0rules, .ref r0from, .ref r0knownFrom, .ref r0undoneFrom])), (r0from, .inl (cyI, 10, .inl f0from)), (r0knownFrom, .inl (cyI, 10, .inl f0knownFrom)), (r0undoneFrom, .inl (cyI, 10, .inl f0undoneFrom))] t.heap ∧ va_D (va_A [(a0, .inr (0, [.int v0made, .ref r0rules, .ref r0from, .ref r0knownFrom, .ref r0undoneFrom])), (r0from, .inl (cyI, 10, .inl f0from)), (r0knownFrom, .inl (cyI, 10, .inl f0knownFrom)), (r0undoneFrom, .inl (cyI, 10, .inl f0undoneFrom))] sz) [(a0, .inr (0, [.int v0made, .ref r0rules, .ref r0from, .ref r0knownFrom, .ref r0undoneFrom])), (r0from, .inl (cyI, 10, .inl f0from)), (r0knownFrom, .inl (cyI, 10, .inl f0knownFrom)), (r0undoneFrom, .inl (cyI, 10, .inl f0undoneFrom))]) (va_A [(a0, .inr (0, [.int v0made, .ref r0rules, .ref r0from, .ref r0knownFrom, .ref r0undoneFrom])), (r0from, .inl (cyI, 10, .inl f0from)), (r0knownFrom, .inl (cyI, 10, .inl f0knownFrom)), (r0undoneFrom, .inl (cyI, 10, .inl f0undoneFrom))] sz)) 0 0 (va_A [(a0, .inr (0, [.int v0made, .ref r0rules, .ref r0from, .ref r0knownFrom, .ref r0undoneFrom])), (r0from, .inl (cyI, 10, .inl f0from)), (r0knownFrom, .inl (cyI, 10, .inl f0knownFrom)), (r0undoneFrom, .inl (cyI, 10, .inl f0undoneFrom))] sz) := by
  refine Met.ofW (cc := cX0_inForce) (maxL := 6) (ret := (some .int)) (by decide) rfl ?_
  intro p e s m args below meth c s₁ B hml hv
  obtain ⟨rfl, hsz, hP, hK, hD0, hN⟩ := hv
  have hx := B.exec
  have hb := B.bytes
  have hr := B.returns
  have hts := atoms_spec (ws := wsX0_inForce) B.pre
  have hown : s.vm.findClass RX0 = some m.cls := findClass_of_methodNamed B.named
  have hlocks := B.notSynchronized
  subst hsz
  have hD := hD0.self (sz := s.heap.size)
  generalize hAe : va_A [(a0, .inr (0, [.int v0made, .ref r0rules, .ref r0from, .ref r0knownFrom, .ref r0undoneFrom])), (r0from, .inl (cyI, 10, .inl f0from)), (r0knownFrom, .inl (cyI, 10, .inl f0knownFrom)), (r0undoneFrom, .inl (cyI, 10, .inl f0undoneFrom))] s.heap.size = A at hD ⊢
  have hA : ∀ q : Nat, s.heap.size ≤ q → A q := fun q h => by rw [← hAe]; exact Or.inr h
  have hS : va_S A s.heap s.heap [] := va_S.rf
  have hiX0 : ∀ w ∈ u_ws RX0 TX0 5, w ∈ wsX0_inForce := by decide +kernel
  have lk9 := hts (.fieldLink RX0 9 "StallBook$Acts" "made" "I") (by decide +kernel)
  have lk19 := hts (.fieldLink RX0 19 "StallBook$Acts" "from" "[I") (by decide +kernel)
  have lk22 := hts (.fieldLink RX0 22 "StallBook$Acts" "knownFrom" "[I") (by decide +kernel)
  have L5 : ∀ (k1 : Int32) (k2 : Int32) (v0made : Int32) (f0from : Nat → Int32) (f0knownFrom : Nat → Int32) (f0undoneFrom : Nat → Int32) (K : Int32 → Int32 → Prop) (n : Nat) (y3 : Int32) (y4 : Int32) (H : Heap) (locs : List Loc) (ls : Array Slot), lp_X0_inForce_5 k1 k2 v0made f0from f0knownFrom f0undoneFrom Post K n y3 y4 → va_P (dC, dI) vwCl [(a0, .inr (0, [.int v0made, .ref r0rules, .ref r0from, .ref r0knownFrom, .ref r0undoneFrom])), (r0from, .inl (cyI, 10, .inl f0from)), (r0knownFrom, .inl (cyI, 10, .inl f0knownFrom)), (r0undoneFrom, .inl (cyI, 10, .inl f0undoneFrom))] H → va_D A [(a0, .inr (0, [.int v0made, .ref r0rules, .ref r0from, .ref r0knownFrom, .ref r0undoneFrom])), (r0from, .inl (cyI, 10, .inl f0from)), (r0knownFrom, .inl (cyI, 10, .inl f0knownFrom)), (r0undoneFrom, .inl (cyI, 10, .inl f0undoneFrom))] → va_S A s.heap H locs → lv_has ls 6 [(0, .ref a0), (1, .int k1), (2, .int k2), (3, .int y3), (4, .int y4)] → (∀ (y3 : Int32) (y4 : Int32) (H : Heap) (locs : List Loc) (ls : Array Slot), K y3 y4 → va_P (dC, dI) vwCl [(a0, .inr (0, [.int v0made, .ref r0rules, .ref r0from, .ref r0knownFrom, .ref r0undoneFrom])), (r0from, .inl (cyI, 10, .inl f0from)), (r0knownFrom, .inl (cyI, 10, .inl f0knownFrom)), (r0undoneFrom, .inl (cyI, 10, .inl f0undoneFrom))] H → va_D A [(a0, .inr (0, [.int v0made, .ref r0rules, .ref r0from, .ref r0knownFrom, .ref r0undoneFrom])), (r0from, .inl (cyI, 10, .inl f0from)), (r0knownFrom, .inl (cyI, 10, .inl f0knownFrom)), (r0undoneFrom, .inl (cyI, 10, .inl f0undoneFrom))] → va_S A s.heap H locs → lv_has ls 6 [(0, .ref a0), (1, .int k1), (2, .int k2), (3, .int y3), (4, .int y4)] → W p l e (headSpec wsX0_inForce ({ frames := 1, cells := 0, slots := 0, locals := 22 } : Room)).room s m ([.ref a0, .int p1, .int p2] : List Value).toArray below meth c H locs 0 0 (MQ below (va_Qi Post (fun (u : Unit) (t : State) => va_P (dC, dI) vwCl [(a0, .inr (0, [.int v0made, .ref r0rules, .ref r0from, .ref r0knownFrom, .ref r0undoneFrom])), (r0from, .inl (cyI, 10, .inl f0from)), (r0knownFrom, .inl (cyI, 10, .inl f0knownFrom)), (r0undoneFrom, .inl (cyI, 10, .inl f0undoneFrom))] t.heap ∧ va_D A [(a0, .inr (0, [.int v0made, .ref r0rules, .ref r0from, .ref r0knownFrom, .ref r0undoneFrom])), (r0from, .inl (cyI, 10, .inl f0from)), (r0knownFrom, .inl (cyI, 10, .inl f0knownFrom)), (r0undoneFrom, .inl (cyI, 10, .inl f0undoneFrom))]) A) ([.ref a0, .int p1, .int p2] : List Value).toArray s 0 0 A) (F0 m 88 ls [])) → W p l e (headSpec wsX0_inForce ({ frames := 1, cells := 0, slots := 0, locals := 22 } : Room)).room s m ([.ref a0, .int p1, .int p2] : List Value).toArray below meth c H locs 0 0 (MQ below (va_Qi Post (fun (u : Unit) (t : State) => va_P (dC, dI) vwCl [(a0, .inr (0, [.int v0made, .ref r0rules, .ref r0from, .ref r0knownFrom, .ref r0undoneFrom])), (r0from, .inl (cyI, 10, .inl f0from)), (r0knownFrom, .inl (cyI, 10, .inl f0knownFrom)), (r0undoneFrom, .inl (cyI, 10, .inl f0undoneFrom))] t.heap ∧ va_D A [(a0, .inr (0, [.int v0made, .ref r0rules, .ref r0from, .ref r0knownFrom, .ref r0undoneFrom])), (r0from, .inl (cyI, 10, .inl f0from)), (r0knownFrom, .inl (cyI, 10, .inl f0knownFrom)), (r0undoneFrom, .inl (cyI, 10, .inl f0undoneFrom))]) A) ([.ref a0, .int p1, .int p2] : List Value).toArray s 0 0 A) (F0 m 5 ls []) := by
    intro k1 k2 v0made f0from f0knownFrom f0undoneFrom K n
    induction n with
    | zero =>
      intro y3 y4 H locs ls h
      exact (h : False).elim
    | succ n ih =>
      intro y3 y4 H locs ls h hP hD hS hl kk
      rw [lp_X0_inForce_5] at h
      refine lv_iload hx hb dX0_inForce_5 (lv_at hl 4 rfl) ?_
      refine lv_aload_n hx hb dX0_inForce_7 rfl (lv_at hl 0 rfl) ?_
      refine va_get (D := (dC, dI)) (ci := 0) (v := .int v0made) (C := RX0) (T := TX0) (N := 5) hx hb hts hiX0 hown hK hP 0 rfl rfl 0 (by decide) lk9 (fun _ h9 => h9) rfl dX0_inForce_8 ?_
      refine lv_icmp_ge (tgt := 88) hx hb dX0_inForce_11 (by decide) (fun c => ?_) (fun c => ?_)
      · replace h := h.1 c
        exact kk y3 y4 H locs ls h hP hD hS (lv_sub hl [0, 1, 2, 3, 4] rfl)
      · replace h := h.2 c
        refine lv_aload_n hx hb dX0_inForce_14 rfl (lv_at hl 0 rfl) ?_
        refine va_get (D := (dC, dI)) (ci := 0) (v := .ref r0knownFrom) (C := RX0) (T := TX0) (N := 5) hx hb hts hiX0 hown hK hP 0 rfl rfl 3 (by decide) lk22 (fun _ h9 => h9) rfl dX0_inForce_15 ?_
        refine lv_iload hx hb dX0_inForce_18 (lv_at hl 4 rfl) ?_
        refine va_iald hx hb hK hP 2 0 rfl rfl h.1 dX0_inForce_20 ?_
        replace h := h.2
        refine lv_iload_n hx hb dX0_inForce_21 rfl (lv_at hl 2 rfl) ?_
        refine lv_icmp_gt (tgt := 39) hx hb dX0_inForce_22 (by decide) (fun c => ?_) (fun c => ?_)
        · replace h := h.1 c
          refine lv_iconst (v := 0) hx hb dX0_inForce_39 (by decide) ?_
          refine lv_istore (lv' := [(5, .int 0), (0, .ref a0), (1, .int k1), (2, .int k2), (3, .int y3), (4, .int y4)]) hx hb dX0_inForce_40 hl (by decide) rfl (fun ls hl => ?_)
          refine lv_iload hx hb dX0_inForce_42 (lv_at hl 0 rfl) ?_
          refine lv_if_eq (tgt := 82) hx hb dX0_inForce_44 (by decide) (fun c => ?_) (fun c => ?_)
          · clear c
            obtain ⟨x1, ex1⟩ : ∃ y : Int32, y = y4 + 1 := ⟨_, rfl⟩
            replace h := h x1 ex1
            refine lv_iinc (v := x1) (lv' := [(4, .int x1), (5, .int 0), (0, .ref a0), (1, .int k1), (2, .int k2), (3, .int y3)]) hx hb dX0_inForce_82 hl (k := 5) rfl (by rw [ex1]; rfl) (by decide) rfl (fun ls hl => ?_)
            refine lv_goto (tgt := 5) hx hb dX0_inForce_85 (by decide) ?_
            exact ih y3 x1 H locs ls h hP hD hS (lv_sub hl [2, 3, 4, 5, 0] rfl) kk
          · exact absurd c (by decide)
        · replace h := h.2 c
          refine lv_aload_n hx hb dX0_inForce_25 rfl (lv_at hl 0 rfl) ?_
          refine lv_iload hx hb dX0_inForce_26 (lv_at hl 4 rfl) ?_
          refine lv_iload_n hx hb dX0_inForce_28 rfl (lv_at hl 2 rfl) ?_
          refine mc_i hP hD hS hA [0, 3] [1, 2] [2, 0, 1, 3] [(r0from, .inl (cyI, 10, .inl f0from)), (r0knownFrom, .inl (cyI, 10, .inl f0knownFrom))] (fun (u3 : Unit) => [(a0, .inr (0, [.int v0made, .ref r0rules, .ref r0from, .ref r0knownFrom, .ref r0undoneFrom])), (r0from, .inl (cyI, 10, .inl f0from)), (r0knownFrom, .inl (cyI, 10, .inl f0knownFrom)), (r0undoneFrom, .inl (cyI, 10, .inl f0undoneFrom))]) rfl rfl (by decide) (by decide) (by decide) (fun _ => rfl) (fun _ => rfl) (va_runV (As := [.int y4, .int k2]) (rest := []) ⟨hx, hb, hml, hown, hts⟩ (c_X0_isUndone l dC dI cyI cyZ cyB a0 r0rules r0from r0knownFrom r0undoneFrom H.size v0made f0undoneFrom y4 k2 _ h) (cwV 2 hts gX0_inForce_X0_isUndone rfl rfl rfl (by decide +kernel) ⟨Nat.le_of_ble_eq_true rfl, Nat.le_of_ble_eq_true rfl⟩) ⟨MPre_blind, va_recv hK hP (ci := 0) (q0 := 0) rfl rfl, MPre_here [0, 3] hP hD hK hN (by decide) rfl rfl⟩ rfl rfl hl.1 rfl (lv_room (Nat.le_of_ble_eq_true rfl)) dX0_inForce_29 ⟨Nat.zero_le _, Nat.zero_le _⟩) (fun r2 u3 H locs h hP hD hS => ?_)
          replace hP : va_P (dC, dI) vwCl [(a0, .inr (0, [.int v0made, .ref r0rules, .ref r0from, .ref r0knownFrom, .ref r0undoneFrom])), (r0from, .inl (cyI, 10, .inl f0from)), (r0knownFrom, .inl (cyI, 10, .inl f0knownFrom)), (r0undoneFrom, .inl (cyI, 10, .inl f0undoneFrom))] H := hP
          replace hD : va_D A [(a0, .inr (0, [.int v0made, .ref r0rules, .ref r0from, .ref r0knownFrom, .ref r0undoneFrom])), (r0from, .inl (cyI, 10, .inl f0from)), (r0knownFrom, .inl (cyI, 10, .inl f0knownFrom)), (r0undoneFrom, .inl (cyI, 10, .inl f0undoneFrom))] := hD
          refine lv_if_ne (tgt := 39) hx hb dX0_inForce_32 (by decide) (fun c => ?_) (fun c => ?_)
          · replace h := h.1 c
            refine lv_iconst (v := 0) hx hb dX0_inForce_39 (by decide) ?_
            refine lv_istore (lv' := [(5, .int 0), (0, .ref a0), (1, .int k1), (2, .int k2), (3, .int y3), (4, .int y4)]) hx hb dX0_inForce_40 hl (by decide) rfl (fun ls hl => ?_)
            refine lv_iload hx hb dX0_inForce_42 (lv_at hl 0 rfl) ?_
            refine lv_if_eq (tgt := 82) hx hb dX0_inForce_44 (by decide) (fun c => ?_) (fun c => ?_)
            · clear c
              obtain ⟨x4, ex4⟩ : ∃ y : Int32, y = y4 + 1 := ⟨_, rfl⟩
              replace h := h x4 ex4
              refine lv_iinc (v := x4) (lv' := [(4, .int x4), (5, .int 0), (0, .ref a0), (1, .int k1), (2, .int k2), (3, .int y3)]) hx hb dX0_inForce_82 hl (k := 5) rfl (by rw [ex4]; rfl) (by decide) rfl (fun ls hl => ?_)
              refine lv_goto (tgt := 5) hx hb dX0_inForce_85 (by decide) ?_
              exact ih y3 x4 H locs ls h hP hD hS (lv_sub hl [2, 3, 4, 5, 0] rfl) kk
            · exact absurd c (by decide)
          · replace h := h.2 c
            refine lv_iconst (v := 1) hx hb dX0_inForce_35 (by decide) ?_
            refine lv_goto (tgt := 40) hx hb dX0_inForce_36 (by decide) ?_
            refine lv_istore (lv' := [(5, .int 1), (0, .ref a0), (1, .int k1), (2, .int k2), (3, .int y3), (4, .int y4)]) hx hb dX0_inForce_40 hl (by decide) rfl (fun ls hl => ?_)
            refine lv_iload hx hb dX0_inForce_42 (lv_at hl 0 rfl) ?_
            refine lv_if_eq (tgt := 82) hx hb dX0_inForce_44 (by decide) (fun c => ?_) (fun c => ?_)
            · exact absurd c (by decide)
            · clear c
              refine lv_aload_n hx hb dX0_inForce_47 rfl (lv_at hl 1 rfl) ?_
              refine va_get (D := (dC, dI)) (ci := 0) (v := .ref r0from) (C := RX0) (T := TX0) (N := 5) hx hb hts hiX0 hown hK hP 0 rfl rfl 2 (by decide) lk19 (fun _ h9 => h9) rfl dX0_inForce_48 ?_
              refine lv_iload hx hb dX0_inForce_51 (lv_at hl 5 rfl) ?_
              refine va_iald hx hb hK hP 1 0 rfl rfl h.1 dX0_inForce_53 ?_
              replace h := h.2
              refine lv_iload_n hx hb dX0_inForce_54 rfl (lv_at hl 2 rfl) ?_
              refine lv_icmp_gt (tgt := 82) hx hb dX0_inForce_55 (by decide) (fun c => ?_) (fun c => ?_)
              · replace h := h.1 c
                obtain ⟨x5, ex5⟩ : ∃ y : Int32, y = y4 + 1 := ⟨_, rfl⟩
                replace h := h x5 ex5
                refine lv_iinc (v := x5) (lv' := [(4, .int x5), (5, .int 1), (0, .ref a0), (1, .int k1), (2, .int k2), (3, .int y3)]) hx hb dX0_inForce_82 hl (k := 5) rfl (by rw [ex5]; rfl) (by decide) rfl (fun ls hl => ?_)
                refine lv_goto (tgt := 5) hx hb dX0_inForce_85 (by decide) ?_
                exact ih y3 x5 H locs ls h hP hD hS (lv_sub hl [2, 3, 4, 5, 0] rfl) kk
              · replace h := h.2 c
                refine lv_iload_n hx hb dX0_inForce_58 rfl (lv_at hl 4 rfl) ?_
                refine lv_iconst (v := (-1)) hx hb dX0_inForce_59 (by decide) ?_
                refine lv_icmp_eq (tgt := 79) hx hb dX0_inForce_60 (by decide) (fun c => ?_) (fun c => ?_)
                · replace h := h.1 c
                  refine lv_iload hx hb dX0_inForce_79 (lv_at hl 5 rfl) ?_
                  refine lv_istore_n (lv' := [(3, .int y4), (5, .int 1), (0, .ref a0), (1, .int k1), (2, .int k2), (4, .int y4)]) hx hb dX0_inForce_81 rfl hl (by decide) rfl (fun ls hl => ?_)
                  obtain ⟨x6, ex6⟩ : ∃ y : Int32, y = y4 + 1 := ⟨_, rfl⟩
                  replace h := h x6 ex6
                  refine lv_iinc (v := x6) (lv' := [(4, .int x6), (3, .int y4), (5, .int 1), (0, .ref a0), (1, .int k1), (2, .int k2)]) hx hb dX0_inForce_82 hl (k := 5) rfl (by rw [ex6]; rfl) (by decide) rfl (fun ls hl => ?_)
                  refine lv_goto (tgt := 5) hx hb dX0_inForce_85 (by decide) ?_
                  exact ih y4 x6 H locs ls h hP hD hS (lv_sub hl [3, 4, 5, 1, 0] rfl) kk
                · replace h := h.2 c
                  refine lv_aload_n hx hb dX0_inForce_63 rfl (lv_at hl 1 rfl) ?_
                  refine va_get (D := (dC, dI)) (ci := 0) (v := .ref r0from) (C := RX0) (T := TX0) (N := 5) hx hb hts hiX0 hown hK hP 0 rfl rfl 2 (by decide) lk19 (fun _ h9 => h9) rfl dX0_inForce_64 ?_
                  refine lv_iload hx hb dX0_inForce_67 (lv_at hl 5 rfl) ?_
                  refine va_iald hx hb hK hP 1 0 rfl rfl h.1 dX0_inForce_69 ?_
                  replace h := h.2
                  refine lv_aload_n hx hb dX0_inForce_70 rfl (lv_at hl 1 rfl) ?_
                  refine va_get (D := (dC, dI)) (ci := 0) (v := .ref r0from) (C := RX0) (T := TX0) (N := 5) hx hb hts hiX0 hown hK hP 0 rfl rfl 2 (by decide) lk19 (fun _ h9 => h9) rfl dX0_inForce_71 ?_
                  refine lv_iload_n hx hb dX0_inForce_74 rfl (lv_at hl 4 rfl) ?_
                  refine va_iald hx hb hK hP 1 0 rfl rfl h.1 dX0_inForce_75 ?_
                  replace h := h.2
                  refine lv_icmp_lt (tgt := 82) hx hb dX0_inForce_76 (by decide) (fun c => ?_) (fun c => ?_)
                  · replace h := h.1 c
                    obtain ⟨x7, ex7⟩ : ∃ y : Int32, y = y4 + 1 := ⟨_, rfl⟩
                    replace h := h x7 ex7
                    refine lv_iinc (v := x7) (lv' := [(4, .int x7), (5, .int 1), (0, .ref a0), (1, .int k1), (2, .int k2), (3, .int y3)]) hx hb dX0_inForce_82 hl (k := 5) rfl (by rw [ex7]; rfl) (by decide) rfl (fun ls hl => ?_)
                    refine lv_goto (tgt := 5) hx hb dX0_inForce_85 (by decide) ?_
                    exact ih y3 x7 H locs ls h hP hD hS (lv_sub hl [2, 3, 4, 5, 0] rfl) kk
                  · replace h := h.2 c
                    refine lv_iload hx hb dX0_inForce_79 (lv_at hl 5 rfl) ?_
                    refine lv_istore_n (lv' := [(3, .int y4), (5, .int 1), (0, .ref a0), (1, .int k1), (2, .int k2), (4, .int y4)]) hx hb dX0_inForce_81 rfl hl (by decide) rfl (fun ls hl => ?_)
                    obtain ⟨x8, ex8⟩ : ∃ y : Int32, y = y4 + 1 := ⟨_, rfl⟩
                    replace h := h x8 ex8
                    refine lv_iinc (v := x8) (lv' := [(4, .int x8), (3, .int y4), (5, .int 1), (0, .ref a0), (1, .int k1), (2, .int k2)]) hx hb dX0_inForce_82 hl (k := 5) rfl (by rw [ex8]; rfl) (by decide) rfl (fun ls hl => ?_)
                    refine lv_goto (tgt := 5) hx hb dX0_inForce_85 (by decide) ?_
                    exact ih y4 x8 H locs ls h hP hD hS (lv_sub hl [3, 4, 5, 1, 0] rfl) kk
  delta wp_X0_inForce at h
  have hl := lv_entry [.ref a0, .int p1, .int p2] (n := 6) (Nat.le_of_ble_eq_true rfl)
  rw [lg_entry_eq]
  generalize (lg_sl [.ref a0, .int p1, .int p2] ++ List.replicate (6 - (lg_sl [.ref a0, .int p1, .int p2]).length) Slot.unset).toArray = ls at hl ⊢
  replace hl : lv_has ls 6 [(0, .ref a0), (1, .int p1), (2, .int p2)] := hl
  refine lv_iconst (v := (-1)) hx hb dX0_inForce_0 (by decide) ?_
  refine lv_istore_n (lv' := [(3, .int (-1)), (0, .ref a0), (1, .int p1), (2, .int p2)]) hx hb dX0_inForce_1 rfl hl (by decide) rfl (fun ls hl => ?_)
  refine lv_iconst (v := 0) hx hb dX0_inForce_2 (by decide) ?_
  refine lv_istore (lv' := [(4, .int 0), (3, .int (-1)), (0, .ref a0), (1, .int p1), (2, .int p2)]) hx hb dX0_inForce_3 hl (by decide) rfl (fun ls hl => ?_)
  obtain ⟨n11, h⟩ := h
  refine L5 p1 p2 v0made f0from f0knownFrom f0undoneFrom _ n11 (-1) 0 s.heap [] ls h hP hD hS (lv_sub hl [2, 3, 4, 1, 0] rfl) (fun x9 x10 H locs ls h hP hD hS hl => ?_)
  refine lv_iload_n hx hb dX0_inForce_88 rfl (lv_at hl 3 rfl) ?_
  exact W.iret (v := x9) hx hb hr (fun t ht hW => ⟨⟨x9, (), rfl, h, by rw [ht]; exact hP, hD⟩, hS.F ht⟩) hS.2.2 dX0_inForce_89
def wp_X0_number (p1 : Int32) (p2 : Int32) (f0rules : Nat → Int32) (Post : Int32 → Unit → Prop) : Prop := (vp_in (((p1 + 1) * 13) + p2) 143 ∧ (Post (f0rules (((p1 + 1) * 13) + p2).toNatClampNeg) ()))
set_option maxHeartbeats 4000000 in
set_option maxRecDepth 100000 in
theorem c_X0_number (l : Launch) (dC : Nat → ClassId) (dI : Nat → Nat → Nat) (cyI cyZ cyB : ClassId) (a0 : Nat) (r0rules : Nat) (r0from : Nat) (r0knownFrom : Nat) (r0undoneFrom : Nat) (sz : Nat) (v0made : Int32) (f0rules : Nat → Int32) (p1 : Int32) (p2 : Int32) (Post : Int32 → Unit → Prop) (h : wp_X0_number p1 p2 f0rules Post) : Met l yX0_number wsX0_number ({ frames := 0, cells := 0, slots := 0, locals := 0 } : Room) (MPre (dC, dI) [(cyI, .int), (cyZ, .boolean), (cyB, .byte)] [.ref a0, .int p1, .int p2] sz [(a0, .inr (0, [.int v0made, .ref r0rules, .ref r0from, .ref r0knownFrom, .ref r0undoneFrom])), (r0rules, .inl (cyI, 143, .inl f0rules))]) (va_Qi Post (fun (u : Unit) (t : State) => va_P (dC, dI) vwCl [(a0, .inr (0, [.int v0made, .ref r0rules, .ref r0from, .ref r0knownFrom, .ref r0undoneFrom])), (r0rules, .inl (cyI, 143, .inl f0rules))] t.heap ∧ va_D (va_A [(a0, .inr (0, [.int v0made, .ref r0rules, .ref r0from, .ref r0knownFrom, .ref r0undoneFrom])), (r0rules, .inl (cyI, 143, .inl f0rules))] sz) [(a0, .inr (0, [.int v0made, .ref r0rules, .ref r0from, .ref r0knownFrom, .ref r0undoneFrom])), (r0rules, .inl (cyI, 143, .inl f0rules))]) (va_A [(a0, .inr (0, [.int v0made, .ref r0rules, .ref r0from, .ref r0knownFrom, .ref r0undoneFrom])), (r0rules, .inl (cyI, 143, .inl f0rules))] sz)) 0 0 (va_A [(a0, .inr (0, [.int v0made, .ref r0rules, .ref r0from, .ref r0knownFrom, .ref r0undoneFrom])), (r0rules, .inl (cyI, 143, .inl f0rules))] sz) := by
  refine Met.ofW (cc := cX0_number) (maxL := 3) (ret := (some .int)) (by decide) rfl ?_
  intro p e s m args below meth c s₁ B hml hv
  obtain ⟨rfl, hsz, hP, hK, hD0, hN⟩ := hv
  have hx := B.exec
  have hb := B.bytes
  have hr := B.returns
  have hts := atoms_spec (ws := wsX0_number) B.pre
  have hown : s.vm.findClass RX0 = some m.cls := findClass_of_methodNamed B.named
  have hlocks := B.notSynchronized
  subst hsz
  have hD := hD0.self (sz := s.heap.size)
  generalize hAe : va_A [(a0, .inr (0, [.int v0made, .ref r0rules, .ref r0from, .ref r0knownFrom, .ref r0undoneFrom])), (r0rules, .inl (cyI, 143, .inl f0rules))] s.heap.size = A at hD ⊢
  have hA : ∀ q : Nat, s.heap.size ≤ q → A q := fun q h => by rw [← hAe]; exact Or.inr h
  have hS : va_S A s.heap s.heap [] := va_S.rf
  have hiX0 : ∀ w ∈ u_ws RX0 TX0 5, w ∈ wsX0_number := by decide +kernel
  have lk15 := hts (.fieldLink RX0 15 "StallBook$Acts" "rules" "[I") (by decide +kernel)
  delta wp_X0_number at h
  have hl := lv_entry [.ref a0, .int p1, .int p2] (n := 3) (Nat.le_of_ble_eq_true rfl)
  rw [lg_entry_eq]
  generalize (lg_sl [.ref a0, .int p1, .int p2] ++ List.replicate (3 - (lg_sl [.ref a0, .int p1, .int p2]).length) Slot.unset).toArray = ls at hl ⊢
  replace hl : lv_has ls 3 [(0, .ref a0), (1, .int p1), (2, .int p2)] := hl
  refine lv_aload_n hx hb dX0_number_0 rfl (lv_at hl 0 rfl) ?_
  refine va_get (D := (dC, dI)) (ci := 0) (v := .ref r0rules) (C := RX0) (T := TX0) (N := 5) hx hb hts hiX0 hown hK hP 0 rfl rfl 1 (by decide) lk15 (fun _ h9 => h9) rfl dX0_number_1 ?_
  refine lv_iload_n hx hb dX0_number_4 rfl (lv_at hl 1 rfl) ?_
  refine lv_iconst (v := 1) hx hb dX0_number_5 (by decide) ?_
  refine lv_iadd hx hb dX0_number_6 ?_
  refine lv_bipush (v := 13) hx hb dX0_number_7 (by decide) ?_
  refine lv_imul hx hb dX0_number_9 ?_
  refine lv_iload_n hx hb dX0_number_10 rfl (lv_at hl 2 rfl) ?_
  refine lv_iadd hx hb dX0_number_11 ?_
  refine va_iald hx hb hK hP 1 0 rfl rfl h.1 dX0_number_12 ?_
  replace h := h.2
  exact W.iret (v := (f0rules (((p1 + 1) * 13) + p2).toNatClampNeg)) hx hb hr (fun t ht hW => ⟨⟨(f0rules (((p1 + 1) * 13) + p2).toNatClampNeg), (), rfl, h, by rw [ht]; exact hP, hD⟩, hS.F ht⟩) hS.2.2 dX0_number_13
def wp_X0_pointsFor (p1 : Int32) (p2 : Int32) (p3 : Int32) (f0rules : Nat → Int32) (Post : Int32 → Unit → Prop) : Prop := (((¬ p3 = 0) → (wp_X0_number p1 (6 + p2) f0rules (fun (r1 : Int32) (u2 : Unit) => (wp_X0_number p1 (p3 - 1) f0rules (fun (r3 : Int32) (u4 : Unit) => (Post (r1 * r3) ())))))) ∧ ((p3 = 0) → (Post 0 ())))
set_option maxHeartbeats 4000000 in
set_option maxRecDepth 100000 in
theorem c_X0_pointsFor (l : Launch) (dC : Nat → ClassId) (dI : Nat → Nat → Nat) (cyI cyZ cyB : ClassId) (a0 : Nat) (r0rules : Nat) (r0from : Nat) (r0knownFrom : Nat) (r0undoneFrom : Nat) (sz : Nat) (v0made : Int32) (f0rules : Nat → Int32) (p1 : Int32) (p2 : Int32) (p3 : Int32) (Post : Int32 → Unit → Prop) (h : wp_X0_pointsFor p1 p2 p3 f0rules Post) : Met l yX0_pointsFor wsX0_pointsFor ({ frames := 1, cells := 0, slots := 0, locals := 22 } : Room) (MPre (dC, dI) [(cyI, .int), (cyZ, .boolean), (cyB, .byte)] [.ref a0, .int p1, .int p2, .int p3] sz [(a0, .inr (0, [.int v0made, .ref r0rules, .ref r0from, .ref r0knownFrom, .ref r0undoneFrom])), (r0rules, .inl (cyI, 143, .inl f0rules))]) (va_Qi Post (fun (u : Unit) (t : State) => va_P (dC, dI) vwCl [(a0, .inr (0, [.int v0made, .ref r0rules, .ref r0from, .ref r0knownFrom, .ref r0undoneFrom])), (r0rules, .inl (cyI, 143, .inl f0rules))] t.heap ∧ va_D (va_A [(a0, .inr (0, [.int v0made, .ref r0rules, .ref r0from, .ref r0knownFrom, .ref r0undoneFrom])), (r0rules, .inl (cyI, 143, .inl f0rules))] sz) [(a0, .inr (0, [.int v0made, .ref r0rules, .ref r0from, .ref r0knownFrom, .ref r0undoneFrom])), (r0rules, .inl (cyI, 143, .inl f0rules))]) (va_A [(a0, .inr (0, [.int v0made, .ref r0rules, .ref r0from, .ref r0knownFrom, .ref r0undoneFrom])), (r0rules, .inl (cyI, 143, .inl f0rules))] sz)) 0 0 (va_A [(a0, .inr (0, [.int v0made, .ref r0rules, .ref r0from, .ref r0knownFrom, .ref r0undoneFrom])), (r0rules, .inl (cyI, 143, .inl f0rules))] sz) := by
  refine Met.ofW (cc := cX0_pointsFor) (maxL := 4) (ret := (some .int)) (by decide) rfl ?_
  intro p e s m args below meth c s₁ B hml hv
  obtain ⟨rfl, hsz, hP, hK, hD0, hN⟩ := hv
  have hx := B.exec
  have hb := B.bytes
  have hr := B.returns
  have hts := atoms_spec (ws := wsX0_pointsFor) B.pre
  have hown : s.vm.findClass RX0 = some m.cls := findClass_of_methodNamed B.named
  have hlocks := B.notSynchronized
  subst hsz
  have hD := hD0.self (sz := s.heap.size)
  generalize hAe : va_A [(a0, .inr (0, [.int v0made, .ref r0rules, .ref r0from, .ref r0knownFrom, .ref r0undoneFrom])), (r0rules, .inl (cyI, 143, .inl f0rules))] s.heap.size = A at hD ⊢
  have hA : ∀ q : Nat, s.heap.size ≤ q → A q := fun q h => by rw [← hAe]; exact Or.inr h
  have hS : va_S A s.heap s.heap [] := va_S.rf
  delta wp_X0_pointsFor at h
  have hl := lv_entry [.ref a0, .int p1, .int p2, .int p3] (n := 4) (Nat.le_of_ble_eq_true rfl)
  rw [lg_entry_eq]
  generalize (lg_sl [.ref a0, .int p1, .int p2, .int p3] ++ List.replicate (4 - (lg_sl [.ref a0, .int p1, .int p2, .int p3]).length) Slot.unset).toArray = ls at hl ⊢
  replace hl : lv_has ls 4 [(0, .ref a0), (1, .int p1), (2, .int p2), (3, .int p3)] := hl
  refine lv_iload_n hx hb dX0_pointsFor_0 rfl (lv_at hl 3 rfl) ?_
  refine lv_if_ne (tgt := 8) hx hb dX0_pointsFor_1 (by decide) (fun c => ?_) (fun c => ?_)
  · replace h := h.1 c
    refine lv_aload_n hx hb dX0_pointsFor_8 rfl (lv_at hl 0 rfl) ?_
    refine lv_iload_n hx hb dX0_pointsFor_9 rfl (lv_at hl 1 rfl) ?_
    refine lv_bipush (v := 6) hx hb dX0_pointsFor_10 (by decide) ?_
    refine lv_iload_n hx hb dX0_pointsFor_12 rfl (lv_at hl 2 rfl) ?_
    refine lv_iadd hx hb dX0_pointsFor_13 ?_
    refine mc_i hP hD hS hA [0, 1] [] [0, 1] [] (fun (u2 : Unit) => [(a0, .inr (0, [.int v0made, .ref r0rules, .ref r0from, .ref r0knownFrom, .ref r0undoneFrom])), (r0rules, .inl (cyI, 143, .inl f0rules))]) rfl rfl (by decide) (by decide) (by decide) (fun _ => rfl) (fun _ => rfl) (va_runV (As := [.int p1, .int (6 + p2)]) (rest := []) ⟨hx, hb, hml, hown, hts⟩ (c_X0_number l dC dI cyI cyZ cyB a0 r0rules r0from r0knownFrom r0undoneFrom s.heap.size v0made f0rules p1 (6 + p2) _ h) (cwV 2 hts gX0_pointsFor_X0_number rfl rfl rfl (by decide +kernel) ⟨Nat.le_of_ble_eq_true rfl, Nat.le_of_ble_eq_true rfl⟩) ⟨MPre_blind, va_recv hK hP (ci := 0) (q0 := 0) rfl rfl, MPre_here [0, 1] hP hD hK hN (by decide) rfl rfl⟩ rfl rfl hl.1 rfl (lv_room (Nat.le_of_ble_eq_true rfl)) dX0_pointsFor_14 ⟨Nat.zero_le _, Nat.zero_le _⟩) (fun r1 u2 H locs h hP hD hS => ?_)
    replace hP : va_P (dC, dI) vwCl [(a0, .inr (0, [.int v0made, .ref r0rules, .ref r0from, .ref r0knownFrom, .ref r0undoneFrom])), (r0rules, .inl (cyI, 143, .inl f0rules))] H := hP
    replace hD : va_D A [(a0, .inr (0, [.int v0made, .ref r0rules, .ref r0from, .ref r0knownFrom, .ref r0undoneFrom])), (r0rules, .inl (cyI, 143, .inl f0rules))] := hD
    refine lv_aload_n hx hb dX0_pointsFor_17 rfl (lv_at hl 0 rfl) ?_
    refine lv_iload_n hx hb dX0_pointsFor_18 rfl (lv_at hl 1 rfl) ?_
    refine lv_iload_n hx hb dX0_pointsFor_19 rfl (lv_at hl 3 rfl) ?_
    refine lv_iconst (v := 1) hx hb dX0_pointsFor_20 (by decide) ?_
    refine lv_isub hx hb dX0_pointsFor_21 ?_
    refine mc_i hP hD hS hA [0, 1] [] [0, 1] [] (fun (u4 : Unit) => [(a0, .inr (0, [.int v0made, .ref r0rules, .ref r0from, .ref r0knownFrom, .ref r0undoneFrom])), (r0rules, .inl (cyI, 143, .inl f0rules))]) rfl rfl (by decide) (by decide) (by decide) (fun _ => rfl) (fun _ => rfl) (va_runV (As := [.int p1, .int (p3 - 1)]) (rest := [.int r1]) ⟨hx, hb, hml, hown, hts⟩ (c_X0_number l dC dI cyI cyZ cyB a0 r0rules r0from r0knownFrom r0undoneFrom H.size v0made f0rules p1 (p3 - 1) _ h) (cwV 2 hts gX0_pointsFor_X0_number rfl rfl rfl (by decide +kernel) ⟨Nat.le_of_ble_eq_true rfl, Nat.le_of_ble_eq_true rfl⟩) ⟨MPre_blind, va_recv hK hP (ci := 0) (q0 := 0) rfl rfl, MPre_here [0, 1] hP hD hK hN (by decide) rfl rfl⟩ rfl rfl hl.1 rfl (lv_room (Nat.le_of_ble_eq_true rfl)) dX0_pointsFor_22 ⟨Nat.zero_le _, Nat.zero_le _⟩) (fun r3 u4 H locs h hP hD hS => ?_)
    replace hP : va_P (dC, dI) vwCl [(a0, .inr (0, [.int v0made, .ref r0rules, .ref r0from, .ref r0knownFrom, .ref r0undoneFrom])), (r0rules, .inl (cyI, 143, .inl f0rules))] H := hP
    replace hD : va_D A [(a0, .inr (0, [.int v0made, .ref r0rules, .ref r0from, .ref r0knownFrom, .ref r0undoneFrom])), (r0rules, .inl (cyI, 143, .inl f0rules))] := hD
    refine lv_imul hx hb dX0_pointsFor_25 ?_
    exact W.iret (v := (r1 * r3)) hx hb hr (fun t ht hW => ⟨⟨(r1 * r3), (), rfl, h, by rw [ht]; exact hP, hD⟩, hS.F ht⟩) hS.2.2 dX0_pointsFor_26
  · replace h := h.2 c
    refine lv_iconst (v := 0) hx hb dX0_pointsFor_4 (by decide) ?_
    refine lv_goto (tgt := 26) hx hb dX0_pointsFor_5 (by decide) ?_
    exact W.iret (v := 0) hx hb hr (fun t ht hW => ⟨⟨0, (), rfl, h, by rw [ht]; exact hP, hD⟩, hS.F ht⟩) hS.2.2 dX0_pointsFor_26
