def wp_X3_addMark (p1 : Int32) (p2 : Int32) (p3 : Int32) (p4 : Int32) (p5 : Int32) (v3told : Int32) (f3newest : Nat → Int32) (f3older : Nat → Int32) (f3whose : Nat → Int32) (f3hourOf : Nat → Int32) (f3kind : Nat → Int32) (f3knownFrom : Nat → Int32) (Post : Int32 → Int32 × (Nat → Int32) × (Nat → Int32) × (Nat → Int32) × (Nat → Int32) × (Nat → Int32) × (Nat → Int32) → Prop) : Prop := (((¬ v3told = 400) → (vp_in v3told 400 ∧ (vp_in v3told 400 ∧ (vp_in v3told 400 ∧ (vp_in v3told 400 ∧ (vp_in p2 400 ∧ (vp_in v3told 400 ∧ (vp_in p2 400 ∧ (Post (v3told + 1) ((v3told + 1), (upd f3newest p2.toNatClampNeg v3told), (upd f3older v3told.toNatClampNeg (f3newest p2.toNatClampNeg)), (upd f3whose v3told.toNatClampNeg p1), (upd f3hourOf v3told.toNatClampNeg p3), (upd f3kind v3told.toNatClampNeg p4), (upd f3knownFrom v3told.toNatClampNeg p5))))))))))) ∧ ((v3told = 400) → (Post (-1) (v3told, f3newest, f3older, f3whose, f3hourOf, f3kind, f3knownFrom))))
set_option maxHeartbeats 4000000 in
set_option maxRecDepth 100000 in
theorem c_X3_addMark (l : Launch) (dC : Nat → ClassId) (dI : Nat → Nat → Nat) (cyI cyZ cyB : ClassId) (a3 : Nat) (r3newest : Nat) (r3older : Nat) (r3whose : Nat) (r3hourOf : Nat) (r3kind : Nat) (r3knownFrom : Nat) (r3tally : Nat) (r3hoursSeen : Nat) (sz : Nat) (v3told : Int32) (f3newest : Nat → Int32) (f3older : Nat → Int32) (f3whose : Nat → Int32) (f3hourOf : Nat → Int32) (f3kind : Nat → Int32) (f3knownFrom : Nat → Int32) (p1 : Int32) (p2 : Int32) (p3 : Int32) (p4 : Int32) (p5 : Int32) (Post : Int32 → Int32 × (Nat → Int32) × (Nat → Int32) × (Nat → Int32) × (Nat → Int32) × (Nat → Int32) × (Nat → Int32) → Prop) (h : wp_X3_addMark p1 p2 p3 p4 p5 v3told f3newest f3older f3whose f3hourOf f3kind f3knownFrom Post) : Met l yX3_addMark wsX3_addMark ({ frames := 0, cells := 0, slots := 0, locals := 0 } : Room) (MPre (dC, dI) [(cyI, .int), (cyZ, .boolean), (cyB, .byte)] [.ref a3, .int p1, .int p2, .int p3, .int p4, .int p5] sz [(a3, .inr (3, [.int v3told, .ref r3newest, .ref r3older, .ref r3whose, .ref r3hourOf, .ref r3kind, .ref r3knownFrom, .ref r3tally, .ref r3hoursSeen])), (r3newest, .inl (cyI, 400, .inl f3newest)), (r3older, .inl (cyI, 400, .inl f3older)), (r3whose, .inl (cyI, 400, .inl f3whose)), (r3hourOf, .inl (cyI, 400, .inl f3hourOf)), (r3kind, .inl (cyI, 400, .inl f3kind)), (r3knownFrom, .inl (cyI, 400, .inl f3knownFrom))]) (va_Qi Post (fun (u : Int32 × (Nat → Int32) × (Nat → Int32) × (Nat → Int32) × (Nat → Int32) × (Nat → Int32) × (Nat → Int32)) (t : State) => va_P (dC, dI) vwCl [(a3, .inr (3, [.int u.1, .ref r3newest, .ref r3older, .ref r3whose, .ref r3hourOf, .ref r3kind, .ref r3knownFrom, .ref r3tally, .ref r3hoursSeen])), (r3newest, .inl (cyI, 400, .inl u.2.1)), (r3older, .inl (cyI, 400, .inl u.2.2.1)), (r3whose, .inl (cyI, 400, .inl u.2.2.2.1)), (r3hourOf, .inl (cyI, 400, .inl u.2.2.2.2.1)), (r3kind, .inl (cyI, 400, .inl u.2.2.2.2.2.1)), (r3knownFrom, .inl (cyI, 400, .inl u.2.2.2.2.2.2))] t.heap ∧ va_D (va_A [(a3, .inr (3, [.int v3told, .ref r3newest, .ref r3older, .ref r3whose, .ref r3hourOf, .ref r3kind, .ref r3knownFrom, .ref r3tally, .ref r3hoursSeen])), (r3newest, .inl (cyI, 400, .inl f3newest)), (r3older, .inl (cyI, 400, .inl f3older)), (r3whose, .inl (cyI, 400, .inl f3whose)), (r3hourOf, .inl (cyI, 400, .inl f3hourOf)), (r3kind, .inl (cyI, 400, .inl f3kind)), (r3knownFrom, .inl (cyI, 400, .inl f3knownFrom))] sz) [(a3, .inr (3, [.int u.1, .ref r3newest, .ref r3older, .ref r3whose, .ref r3hourOf, .ref r3kind, .ref r3knownFrom, .ref r3tally, .ref r3hoursSeen])), (r3newest, .inl (cyI, 400, .inl u.2.1)), (r3older, .inl (cyI, 400, .inl u.2.2.1)), (r3whose, .inl (cyI, 400, .inl u.2.2.2.1)), (r3hourOf, .inl (cyI, 400, .inl u.2.2.2.2.1)), (r3kind, .inl (cyI, 400, .inl u.2.2.2.2.2.1)), (r3knownFrom, .inl (cyI, 400, .inl u.2.2.2.2.2.2))]) (va_A [(a3, .inr (3, [.int v3told, .ref r3newest, .ref r3older, .ref r3whose, .ref r3hourOf, .ref r3kind, .ref r3knownFrom, .ref r3tally, .ref r3hoursSeen])), (r3newest, .inl (cyI, 400, .inl f3newest)), (r3older, .inl (cyI, 400, .inl f3older)), (r3whose, .inl (cyI, 400, .inl f3whose)), (r3hourOf, .inl (cyI, 400, .inl f3hourOf)), (r3kind, .inl (cyI, 400, .inl f3kind)), (r3knownFrom, .inl (cyI, 400, .inl f3knownFrom))] sz)) 0 0 (va_A [(a3, .inr (3, [.int v3told, .ref r3newest, .ref r3older, .ref r3whose, .ref r3hourOf, .ref r3kind, .ref r3knownFrom, .ref r3tally, .ref r3hoursSeen])), (r3newest, .inl (cyI, 400, .inl f3newest)), (r3older, .inl (cyI, 400, .inl f3older)), (r3whose, .inl (cyI, 400, .inl f3whose)), (r3hourOf, .inl (cyI, 400, .inl f3hourOf)), (r3kind, .inl (cyI, 400, .inl f3kind)), (r3knownFrom, .inl (cyI, 400, .inl f3knownFrom))] sz) := by
  refine Met.ofW (cc := cX3_addMark) (maxL := 6) (ret := (some .int)) (by decide) rfl ?_
  intro p e s m args below meth c s₁ B hml hv
  obtain ⟨rfl, hsz, hP, hK, hD0, hN⟩ := hv
  have hx := B.exec
  have hb := B.bytes
  have hr := B.returns
  have hts := atoms_spec (ws := wsX3_addMark) B.pre
  have hown : s.vm.findClass RX3 = some m.cls := findClass_of_methodNamed B.named
  have hlocks := B.notSynchronized
  subst hsz
  have hD := hD0.self (sz := s.heap.size)
  generalize hAe : va_A [(a3, .inr (3, [.int v3told, .ref r3newest, .ref r3older, .ref r3whose, .ref r3hourOf, .ref r3kind, .ref r3knownFrom, .ref r3tally, .ref r3hoursSeen])), (r3newest, .inl (cyI, 400, .inl f3newest)), (r3older, .inl (cyI, 400, .inl f3older)), (r3whose, .inl (cyI, 400, .inl f3whose)), (r3hourOf, .inl (cyI, 400, .inl f3hourOf)), (r3kind, .inl (cyI, 400, .inl f3kind)), (r3knownFrom, .inl (cyI, 400, .inl f3knownFrom))] s.heap.size = A at hD ⊢
  have hA : ∀ q : Nat, s.heap.size ≤ q → A q := fun q h => by rw [← hAe]; exact Or.inr h
  have hS : va_S A s.heap s.heap [] := va_S.rf
  have hiX3 : ∀ w ∈ u_ws RX3 TX3 9, w ∈ wsX3_addMark := by decide +kernel
  have lk9 := hts (.fieldLink RX3 9 "StallBook$Choir" "told" "I") (by decide +kernel)
  have lk15 := hts (.fieldLink RX3 15 "StallBook$Choir" "newest" "[I") (by decide +kernel)
  have lk19 := hts (.fieldLink RX3 19 "StallBook$Choir" "older" "[I") (by decide +kernel)
  have lk22 := hts (.fieldLink RX3 22 "StallBook$Choir" "whose" "[I") (by decide +kernel)
  have lk25 := hts (.fieldLink RX3 25 "StallBook$Choir" "hourOf" "[I") (by decide +kernel)
  have lk28 := hts (.fieldLink RX3 28 "StallBook$Choir" "kind" "[I") (by decide +kernel)
  have lk31 := hts (.fieldLink RX3 31 "StallBook$Choir" "knownFrom" "[I") (by decide +kernel)
  delta wp_X3_addMark at h
  have hl := lv_entry [.ref a3, .int p1, .int p2, .int p3, .int p4, .int p5] (n := 6) (Nat.le_of_ble_eq_true rfl)
  rw [lg_entry_eq]
  generalize (lg_sl [.ref a3, .int p1, .int p2, .int p3, .int p4, .int p5] ++ List.replicate (6 - (lg_sl [.ref a3, .int p1, .int p2, .int p3, .int p4, .int p5]).length) Slot.unset).toArray = ls at hl ⊢
  replace hl : lv_has ls 6 [(0, .ref a3), (1, .int p1), (2, .int p2), (3, .int p3), (4, .int p4), (5, .int p5)] := hl
  refine lv_aload_n hx hb dX3_addMark_0 rfl (lv_at hl 0 rfl) ?_
  refine va_get (D := (dC, dI)) (ci := 3) (v := .int v3told) (C := RX3) (T := TX3) (N := 9) hx hb hts hiX3 hown hK hP 0 rfl rfl 0 (by decide) lk9 (fun _ h9 => h9) rfl dX3_addMark_1 ?_
  refine lv_sipush (v := 400) hx hb dX3_addMark_4 (by decide) ?_
  refine lv_icmp_ne (tgt := 12) hx hb dX3_addMark_7 (by decide) (fun c => ?_) (fun c => ?_)
  · replace h := h.1 c
    refine lv_aload_n hx hb dX3_addMark_12 rfl (lv_at hl 0 rfl) ?_
    refine va_get (D := (dC, dI)) (ci := 3) (v := .ref r3whose) (C := RX3) (T := TX3) (N := 9) hx hb hts hiX3 hown hK hP 0 rfl rfl 3 (by decide) lk22 (fun _ h9 => h9) rfl dX3_addMark_13 ?_
    refine lv_aload_n hx hb dX3_addMark_16 rfl (lv_at hl 0 rfl) ?_
    refine va_get (D := (dC, dI)) (ci := 3) (v := .int v3told) (C := RX3) (T := TX3) (N := 9) hx hb hts hiX3 hown hK hP 0 rfl rfl 0 (by decide) lk9 (fun _ h9 => h9) rfl dX3_addMark_17 ?_
    refine lv_iload_n hx hb dX3_addMark_20 rfl (lv_at hl 1 rfl) ?_
    refine va_iast hx hb hK hP hD hS 3 0 rfl rfl h.1 dX3_addMark_21 (fun H locs hP hD hS => ?_)
    replace h := h.2
    replace hP : va_P (dC, dI) vwCl [(a3, .inr (3, [.int v3told, .ref r3newest, .ref r3older, .ref r3whose, .ref r3hourOf, .ref r3kind, .ref r3knownFrom, .ref r3tally, .ref r3hoursSeen])), (r3newest, .inl (cyI, 400, .inl f3newest)), (r3older, .inl (cyI, 400, .inl f3older)), (r3whose, .inl (cyI, 400, .inl (upd f3whose v3told.toNatClampNeg p1))), (r3hourOf, .inl (cyI, 400, .inl f3hourOf)), (r3kind, .inl (cyI, 400, .inl f3kind)), (r3knownFrom, .inl (cyI, 400, .inl f3knownFrom))] H := hP
    replace hD : va_D A [(a3, .inr (3, [.int v3told, .ref r3newest, .ref r3older, .ref r3whose, .ref r3hourOf, .ref r3kind, .ref r3knownFrom, .ref r3tally, .ref r3hoursSeen])), (r3newest, .inl (cyI, 400, .inl f3newest)), (r3older, .inl (cyI, 400, .inl f3older)), (r3whose, .inl (cyI, 400, .inl (upd f3whose v3told.toNatClampNeg p1))), (r3hourOf, .inl (cyI, 400, .inl f3hourOf)), (r3kind, .inl (cyI, 400, .inl f3kind)), (r3knownFrom, .inl (cyI, 400, .inl f3knownFrom))] := hD
    refine lv_aload_n hx hb dX3_addMark_22 rfl (lv_at hl 0 rfl) ?_
    refine va_get (D := (dC, dI)) (ci := 3) (v := .ref r3hourOf) (C := RX3) (T := TX3) (N := 9) hx hb hts hiX3 hown hK hP 0 rfl rfl 4 (by decide) lk25 (fun _ h9 => h9) rfl dX3_addMark_23 ?_
    refine lv_aload_n hx hb dX3_addMark_26 rfl (lv_at hl 0 rfl) ?_
    refine va_get (D := (dC, dI)) (ci := 3) (v := .int v3told) (C := RX3) (T := TX3) (N := 9) hx hb hts hiX3 hown hK hP 0 rfl rfl 0 (by decide) lk9 (fun _ h9 => h9) rfl dX3_addMark_27 ?_
    refine lv_iload_n hx hb dX3_addMark_30 rfl (lv_at hl 3 rfl) ?_
    refine va_iast hx hb hK hP hD hS 4 0 rfl rfl h.1 dX3_addMark_31 (fun H locs hP hD hS => ?_)
    replace h := h.2
    replace hP : va_P (dC, dI) vwCl [(a3, .inr (3, [.int v3told, .ref r3newest, .ref r3older, .ref r3whose, .ref r3hourOf, .ref r3kind, .ref r3knownFrom, .ref r3tally, .ref r3hoursSeen])), (r3newest, .inl (cyI, 400, .inl f3newest)), (r3older, .inl (cyI, 400, .inl f3older)), (r3whose, .inl (cyI, 400, .inl (upd f3whose v3told.toNatClampNeg p1))), (r3hourOf, .inl (cyI, 400, .inl (upd f3hourOf v3told.toNatClampNeg p3))), (r3kind, .inl (cyI, 400, .inl f3kind)), (r3knownFrom, .inl (cyI, 400, .inl f3knownFrom))] H := hP
    replace hD : va_D A [(a3, .inr (3, [.int v3told, .ref r3newest, .ref r3older, .ref r3whose, .ref r3hourOf, .ref r3kind, .ref r3knownFrom, .ref r3tally, .ref r3hoursSeen])), (r3newest, .inl (cyI, 400, .inl f3newest)), (r3older, .inl (cyI, 400, .inl f3older)), (r3whose, .inl (cyI, 400, .inl (upd f3whose v3told.toNatClampNeg p1))), (r3hourOf, .inl (cyI, 400, .inl (upd f3hourOf v3told.toNatClampNeg p3))), (r3kind, .inl (cyI, 400, .inl f3kind)), (r3knownFrom, .inl (cyI, 400, .inl f3knownFrom))] := hD
    refine lv_aload_n hx hb dX3_addMark_32 rfl (lv_at hl 0 rfl) ?_
    refine va_get (D := (dC, dI)) (ci := 3) (v := .ref r3kind) (C := RX3) (T := TX3) (N := 9) hx hb hts hiX3 hown hK hP 0 rfl rfl 5 (by decide) lk28 (fun _ h9 => h9) rfl dX3_addMark_33 ?_
    refine lv_aload_n hx hb dX3_addMark_36 rfl (lv_at hl 0 rfl) ?_
    refine va_get (D := (dC, dI)) (ci := 3) (v := .int v3told) (C := RX3) (T := TX3) (N := 9) hx hb hts hiX3 hown hK hP 0 rfl rfl 0 (by decide) lk9 (fun _ h9 => h9) rfl dX3_addMark_37 ?_
    refine lv_iload hx hb dX3_addMark_40 (lv_at hl 4 rfl) ?_
    refine va_iast hx hb hK hP hD hS 5 0 rfl rfl h.1 dX3_addMark_42 (fun H locs hP hD hS => ?_)
    replace h := h.2
    replace hP : va_P (dC, dI) vwCl [(a3, .inr (3, [.int v3told, .ref r3newest, .ref r3older, .ref r3whose, .ref r3hourOf, .ref r3kind, .ref r3knownFrom, .ref r3tally, .ref r3hoursSeen])), (r3newest, .inl (cyI, 400, .inl f3newest)), (r3older, .inl (cyI, 400, .inl f3older)), (r3whose, .inl (cyI, 400, .inl (upd f3whose v3told.toNatClampNeg p1))), (r3hourOf, .inl (cyI, 400, .inl (upd f3hourOf v3told.toNatClampNeg p3))), (r3kind, .inl (cyI, 400, .inl (upd f3kind v3told.toNatClampNeg p4))), (r3knownFrom, .inl (cyI, 400, .inl f3knownFrom))] H := hP
    replace hD : va_D A [(a3, .inr (3, [.int v3told, .ref r3newest, .ref r3older, .ref r3whose, .ref r3hourOf, .ref r3kind, .ref r3knownFrom, .ref r3tally, .ref r3hoursSeen])), (r3newest, .inl (cyI, 400, .inl f3newest)), (r3older, .inl (cyI, 400, .inl f3older)), (r3whose, .inl (cyI, 400, .inl (upd f3whose v3told.toNatClampNeg p1))), (r3hourOf, .inl (cyI, 400, .inl (upd f3hourOf v3told.toNatClampNeg p3))), (r3kind, .inl (cyI, 400, .inl (upd f3kind v3told.toNatClampNeg p4))), (r3knownFrom, .inl (cyI, 400, .inl f3knownFrom))] := hD
    refine lv_aload_n hx hb dX3_addMark_43 rfl (lv_at hl 0 rfl) ?_
    refine va_get (D := (dC, dI)) (ci := 3) (v := .ref r3knownFrom) (C := RX3) (T := TX3) (N := 9) hx hb hts hiX3 hown hK hP 0 rfl rfl 6 (by decide) lk31 (fun _ h9 => h9) rfl dX3_addMark_44 ?_
    refine lv_aload_n hx hb dX3_addMark_47 rfl (lv_at hl 0 rfl) ?_
    refine va_get (D := (dC, dI)) (ci := 3) (v := .int v3told) (C := RX3) (T := TX3) (N := 9) hx hb hts hiX3 hown hK hP 0 rfl rfl 0 (by decide) lk9 (fun _ h9 => h9) rfl dX3_addMark_48 ?_
    refine lv_iload hx hb dX3_addMark_51 (lv_at hl 5 rfl) ?_
    refine va_iast hx hb hK hP hD hS 6 0 rfl rfl h.1 dX3_addMark_53 (fun H locs hP hD hS => ?_)
    replace h := h.2
    replace hP : va_P (dC, dI) vwCl [(a3, .inr (3, [.int v3told, .ref r3newest, .ref r3older, .ref r3whose, .ref r3hourOf, .ref r3kind, .ref r3knownFrom, .ref r3tally, .ref r3hoursSeen])), (r3newest, .inl (cyI, 400, .inl f3newest)), (r3older, .inl (cyI, 400, .inl f3older)), (r3whose, .inl (cyI, 400, .inl (upd f3whose v3told.toNatClampNeg p1))), (r3hourOf, .inl (cyI, 400, .inl (upd f3hourOf v3told.toNatClampNeg p3))), (r3kind, .inl (cyI, 400, .inl (upd f3kind v3told.toNatClampNeg p4))), (r3knownFrom, .inl (cyI, 400, .inl (upd f3knownFrom v3told.toNatClampNeg p5)))] H := hP
    replace hD : va_D A [(a3, .inr (3, [.int v3told, .ref r3newest, .ref r3older, .ref r3whose, .ref r3hourOf, .ref r3kind, .ref r3knownFrom, .ref r3tally, .ref r3hoursSeen])), (r3newest, .inl (cyI, 400, .inl f3newest)), (r3older, .inl (cyI, 400, .inl f3older)), (r3whose, .inl (cyI, 400, .inl (upd f3whose v3told.toNatClampNeg p1))), (r3hourOf, .inl (cyI, 400, .inl (upd f3hourOf v3told.toNatClampNeg p3))), (r3kind, .inl (cyI, 400, .inl (upd f3kind v3told.toNatClampNeg p4))), (r3knownFrom, .inl (cyI, 400, .inl (upd f3knownFrom v3told.toNatClampNeg p5)))] := hD
    refine lv_aload_n hx hb dX3_addMark_54 rfl (lv_at hl 0 rfl) ?_
    refine va_get (D := (dC, dI)) (ci := 3) (v := .ref r3older) (C := RX3) (T := TX3) (N := 9) hx hb hts hiX3 hown hK hP 0 rfl rfl 2 (by decide) lk19 (fun _ h9 => h9) rfl dX3_addMark_55 ?_
    refine lv_aload_n hx hb dX3_addMark_58 rfl (lv_at hl 0 rfl) ?_
    refine va_get (D := (dC, dI)) (ci := 3) (v := .int v3told) (C := RX3) (T := TX3) (N := 9) hx hb hts hiX3 hown hK hP 0 rfl rfl 0 (by decide) lk9 (fun _ h9 => h9) rfl dX3_addMark_59 ?_
    refine lv_aload_n hx hb dX3_addMark_62 rfl (lv_at hl 0 rfl) ?_
    refine va_get (D := (dC, dI)) (ci := 3) (v := .ref r3newest) (C := RX3) (T := TX3) (N := 9) hx hb hts hiX3 hown hK hP 0 rfl rfl 1 (by decide) lk15 (fun _ h9 => h9) rfl dX3_addMark_63 ?_
    refine lv_iload_n hx hb dX3_addMark_66 rfl (lv_at hl 2 rfl) ?_
    refine va_iald hx hb hK hP 1 0 rfl rfl h.1 dX3_addMark_67 ?_
    replace h := h.2
    refine va_iast hx hb hK hP hD hS 2 0 rfl rfl h.1 dX3_addMark_68 (fun H locs hP hD hS => ?_)
    replace h := h.2
    replace hP : va_P (dC, dI) vwCl [(a3, .inr (3, [.int v3told, .ref r3newest, .ref r3older, .ref r3whose, .ref r3hourOf, .ref r3kind, .ref r3knownFrom, .ref r3tally, .ref r3hoursSeen])), (r3newest, .inl (cyI, 400, .inl f3newest)), (r3older, .inl (cyI, 400, .inl (upd f3older v3told.toNatClampNeg (f3newest p2.toNatClampNeg)))), (r3whose, .inl (cyI, 400, .inl (upd f3whose v3told.toNatClampNeg p1))), (r3hourOf, .inl (cyI, 400, .inl (upd f3hourOf v3told.toNatClampNeg p3))), (r3kind, .inl (cyI, 400, .inl (upd f3kind v3told.toNatClampNeg p4))), (r3knownFrom, .inl (cyI, 400, .inl (upd f3knownFrom v3told.toNatClampNeg p5)))] H := hP
    replace hD : va_D A [(a3, .inr (3, [.int v3told, .ref r3newest, .ref r3older, .ref r3whose, .ref r3hourOf, .ref r3kind, .ref r3knownFrom, .ref r3tally, .ref r3hoursSeen])), (r3newest, .inl (cyI, 400, .inl f3newest)), (r3older, .inl (cyI, 400, .inl (upd f3older v3told.toNatClampNeg (f3newest p2.toNatClampNeg)))), (r3whose, .inl (cyI, 400, .inl (upd f3whose v3told.toNatClampNeg p1))), (r3hourOf, .inl (cyI, 400, .inl (upd f3hourOf v3told.toNatClampNeg p3))), (r3kind, .inl (cyI, 400, .inl (upd f3kind v3told.toNatClampNeg p4))), (r3knownFrom, .inl (cyI, 400, .inl (upd f3knownFrom v3told.toNatClampNeg p5)))] := hD
    refine lv_aload_n hx hb dX3_addMark_69 rfl (lv_at hl 0 rfl) ?_
    refine va_get (D := (dC, dI)) (ci := 3) (v := .ref r3newest) (C := RX3) (T := TX3) (N := 9) hx hb hts hiX3 hown hK hP 0 rfl rfl 1 (by decide) lk15 (fun _ h9 => h9) rfl dX3_addMark_70 ?_
    refine lv_iload_n hx hb dX3_addMark_73 rfl (lv_at hl 2 rfl) ?_
    refine lv_aload_n hx hb dX3_addMark_74 rfl (lv_at hl 0 rfl) ?_
    refine va_get (D := (dC, dI)) (ci := 3) (v := .int v3told) (C := RX3) (T := TX3) (N := 9) hx hb hts hiX3 hown hK hP 0 rfl rfl 0 (by decide) lk9 (fun _ h9 => h9) rfl dX3_addMark_75 ?_
    refine va_iast hx hb hK hP hD hS 1 0 rfl rfl h.1 dX3_addMark_78 (fun H locs hP hD hS => ?_)
    replace h := h.2
    replace hP : va_P (dC, dI) vwCl [(a3, .inr (3, [.int v3told, .ref r3newest, .ref r3older, .ref r3whose, .ref r3hourOf, .ref r3kind, .ref r3knownFrom, .ref r3tally, .ref r3hoursSeen])), (r3newest, .inl (cyI, 400, .inl (upd f3newest p2.toNatClampNeg v3told))), (r3older, .inl (cyI, 400, .inl (upd f3older v3told.toNatClampNeg (f3newest p2.toNatClampNeg)))), (r3whose, .inl (cyI, 400, .inl (upd f3whose v3told.toNatClampNeg p1))), (r3hourOf, .inl (cyI, 400, .inl (upd f3hourOf v3told.toNatClampNeg p3))), (r3kind, .inl (cyI, 400, .inl (upd f3kind v3told.toNatClampNeg p4))), (r3knownFrom, .inl (cyI, 400, .inl (upd f3knownFrom v3told.toNatClampNeg p5)))] H := hP
    replace hD : va_D A [(a3, .inr (3, [.int v3told, .ref r3newest, .ref r3older, .ref r3whose, .ref r3hourOf, .ref r3kind, .ref r3knownFrom, .ref r3tally, .ref r3hoursSeen])), (r3newest, .inl (cyI, 400, .inl (upd f3newest p2.toNatClampNeg v3told))), (r3older, .inl (cyI, 400, .inl (upd f3older v3told.toNatClampNeg (f3newest p2.toNatClampNeg)))), (r3whose, .inl (cyI, 400, .inl (upd f3whose v3told.toNatClampNeg p1))), (r3hourOf, .inl (cyI, 400, .inl (upd f3hourOf v3told.toNatClampNeg p3))), (r3kind, .inl (cyI, 400, .inl (upd f3kind v3told.toNatClampNeg p4))), (r3knownFrom, .inl (cyI, 400, .inl (upd f3knownFrom v3told.toNatClampNeg p5)))] := hD
    refine lv_aload_n hx hb dX3_addMark_79 rfl (lv_at hl 0 rfl) ?_
    refine lv_dup hx hb dX3_addMark_80 rfl ?_
    refine va_get (D := (dC, dI)) (ci := 3) (v := .int v3told) (C := RX3) (T := TX3) (N := 9) hx hb hts hiX3 hown hK hP 0 rfl rfl 0 (by decide) lk9 (fun _ h9 => h9) rfl dX3_addMark_81 ?_
    refine lv_iconst (v := 1) hx hb dX3_addMark_84 (by decide) ?_
    refine lv_iadd hx hb dX3_addMark_85 ?_
    refine va_put (D := (dC, dI)) (ci := 3) (v := .int (v3told + 1)) (ty := .int) (C := RX3) (T := TX3) (N := 9) hx hb hts hiX3 tyX3 tyX3_ok nmX3 hown hK hP hD hS 0 rfl rfl 0 (by decide) lk9 (fun _ h9 => h9) rfl (by decide +kernel) rfl rfl (Nat.le_of_ble_eq_true rfl) dX3_addMark_86 (fun H locs hP hD hS => ?_)
    replace hP : va_P (dC, dI) vwCl [(a3, .inr (3, [.int (v3told + 1), .ref r3newest, .ref r3older, .ref r3whose, .ref r3hourOf, .ref r3kind, .ref r3knownFrom, .ref r3tally, .ref r3hoursSeen])), (r3newest, .inl (cyI, 400, .inl (upd f3newest p2.toNatClampNeg v3told))), (r3older, .inl (cyI, 400, .inl (upd f3older v3told.toNatClampNeg (f3newest p2.toNatClampNeg)))), (r3whose, .inl (cyI, 400, .inl (upd f3whose v3told.toNatClampNeg p1))), (r3hourOf, .inl (cyI, 400, .inl (upd f3hourOf v3told.toNatClampNeg p3))), (r3kind, .inl (cyI, 400, .inl (upd f3kind v3told.toNatClampNeg p4))), (r3knownFrom, .inl (cyI, 400, .inl (upd f3knownFrom v3told.toNatClampNeg p5)))] H := hP
    replace hD : va_D A [(a3, .inr (3, [.int (v3told + 1), .ref r3newest, .ref r3older, .ref r3whose, .ref r3hourOf, .ref r3kind, .ref r3knownFrom, .ref r3tally, .ref r3hoursSeen])), (r3newest, .inl (cyI, 400, .inl (upd f3newest p2.toNatClampNeg v3told))), (r3older, .inl (cyI, 400, .inl (upd f3older v3told.toNatClampNeg (f3newest p2.toNatClampNeg)))), (r3whose, .inl (cyI, 400, .inl (upd f3whose v3told.toNatClampNeg p1))), (r3hourOf, .inl (cyI, 400, .inl (upd f3hourOf v3told.toNatClampNeg p3))), (r3kind, .inl (cyI, 400, .inl (upd f3kind v3told.toNatClampNeg p4))), (r3knownFrom, .inl (cyI, 400, .inl (upd f3knownFrom v3told.toNatClampNeg p5)))] := hD
    refine lv_aload_n hx hb dX3_addMark_89 rfl (lv_at hl 0 rfl) ?_
    refine va_get (D := (dC, dI)) (ci := 3) (v := .int (v3told + 1)) (C := RX3) (T := TX3) (N := 9) hx hb hts hiX3 hown hK hP 0 rfl rfl 0 (by decide) lk9 (fun _ h9 => h9) rfl dX3_addMark_90 ?_
    exact W.iret (v := (v3told + 1)) hx hb hr (fun t ht hW => ⟨⟨(v3told + 1), ((v3told + 1), (upd f3newest p2.toNatClampNeg v3told), (upd f3older v3told.toNatClampNeg (f3newest p2.toNatClampNeg)), (upd f3whose v3told.toNatClampNeg p1), (upd f3hourOf v3told.toNatClampNeg p3), (upd f3kind v3told.toNatClampNeg p4), (upd f3knownFrom v3told.toNatClampNeg p5)), rfl, h, by rw [ht]; exact hP, hD⟩, hS.F ht⟩) hS.2.2 dX3_addMark_93
  · replace h := h.2 c
    refine lv_iconst (v := (-1)) hx hb dX3_addMark_10 (by decide) ?_
    exact W.iret (v := (-1)) hx hb hr (fun t ht hW => ⟨⟨(-1), (v3told, f3newest, f3older, f3whose, f3hourOf, f3kind, f3knownFrom), rfl, h, by rw [ht]; exact hP, hD⟩, hS.F ht⟩) hS.2.2 dX3_addMark_11
def wp_X3_hasMarks (p1 : Int32) (f3newest : Nat → Int32) (Post : Int32 → Unit → Prop) : Prop := (vp_in p1 400 ∧ ((((f3newest p1.toNatClampNeg) = (-1)) → (Post 0 ())) ∧ ((¬ (f3newest p1.toNatClampNeg) = (-1)) → (Post 1 ()))))
set_option maxHeartbeats 4000000 in
set_option maxRecDepth 100000 in
theorem c_X3_hasMarks (l : Launch) (dC : Nat → ClassId) (dI : Nat → Nat → Nat) (cyI cyZ cyB : ClassId) (a3 : Nat) (r3newest : Nat) (r3older : Nat) (r3whose : Nat) (r3hourOf : Nat) (r3kind : Nat) (r3knownFrom : Nat) (r3tally : Nat) (r3hoursSeen : Nat) (sz : Nat) (v3told : Int32) (f3newest : Nat → Int32) (p1 : Int32) (Post : Int32 → Unit → Prop) (h : wp_X3_hasMarks p1 f3newest Post) : Met l yX3_hasMarks wsX3_hasMarks ({ frames := 0, cells := 0, slots := 0, locals := 0 } : Room) (MPre (dC, dI) [(cyI, .int), (cyZ, .boolean), (cyB, .byte)] [.ref a3, .int p1] sz [(a3, .inr (3, [.int v3told, .ref r3newest, .ref r3older, .ref r3whose, .ref r3hourOf, .ref r3kind, .ref r3knownFrom, .ref r3tally, .ref r3hoursSeen])), (r3newest, .inl (cyI, 400, .inl f3newest))]) (va_Qi Post (fun (u : Unit) (t : State) => va_P (dC, dI) vwCl [(a3, .inr (3, [.int v3told, .ref r3newest, .ref r3older, .ref r3whose, .ref r3hourOf, .ref r3kind, .ref r3knownFrom, .ref r3tally, .ref r3hoursSeen])), (r3newest, .inl (cyI, 400, .inl f3newest))] t.heap ∧ va_D (va_A [(a3, .inr (3, [.int v3told, .ref r3newest, .ref r3older, .ref r3whose, .ref r3hourOf, .ref r3kind, .ref r3knownFrom, .ref r3tally, .ref r3hoursSeen])), (r3newest, .inl (cyI, 400, .inl f3newest))] sz) [(a3, .inr (3, [.int v3told, .ref r3newest, .ref r3older, .ref r3whose, .ref r3hourOf, .ref r3kind, .ref r3knownFrom, .ref r3tally, .ref r3hoursSeen])), (r3newest, .inl (cyI, 400, .inl f3newest))]) (va_A [(a3, .inr (3, [.int v3told, .ref r3newest, .ref r3older, .ref r3whose, .ref r3hourOf, .ref r3kind, .ref r3knownFrom, .ref r3tally, .ref r3hoursSeen])), (r3newest, .inl (cyI, 400, .inl f3newest))] sz)) 0 0 (va_A [(a3, .inr (3, [.int v3told, .ref r3newest, .ref r3older, .ref r3whose, .ref r3hourOf, .ref r3kind, .ref r3knownFrom, .ref r3tally, .ref r3hoursSeen])), (r3newest, .inl (cyI, 400, .inl f3newest))] sz) := by
  refine Met.ofW (cc := cX3_hasMarks) (maxL := 2) (ret := (some .boolean)) (by decide) rfl ?_
  intro p e s m args below meth c s₁ B hml hv
  obtain ⟨rfl, hsz, hP, hK, hD0, hN⟩ := hv
  have hx := B.exec
  have hb := B.bytes
  have hr := B.returns
  have hts := atoms_spec (ws := wsX3_hasMarks) B.pre
  have hown : s.vm.findClass RX3 = some m.cls := findClass_of_methodNamed B.named
  have hlocks := B.notSynchronized
  subst hsz
  have hD := hD0.self (sz := s.heap.size)
  generalize hAe : va_A [(a3, .inr (3, [.int v3told, .ref r3newest, .ref r3older, .ref r3whose, .ref r3hourOf, .ref r3kind, .ref r3knownFrom, .ref r3tally, .ref r3hoursSeen])), (r3newest, .inl (cyI, 400, .inl f3newest))] s.heap.size = A at hD ⊢
  have hA : ∀ q : Nat, s.heap.size ≤ q → A q := fun q h => by rw [← hAe]; exact Or.inr h
  have hS : va_S A s.heap s.heap [] := va_S.rf
  have hiX3 : ∀ w ∈ u_ws RX3 TX3 9, w ∈ wsX3_hasMarks := by decide +kernel
  have lk15 := hts (.fieldLink RX3 15 "StallBook$Choir" "newest" "[I") (by decide +kernel)
  delta wp_X3_hasMarks at h
  have hl := lv_entry [.ref a3, .int p1] (n := 2) (Nat.le_of_ble_eq_true rfl)
  rw [lg_entry_eq]
  generalize (lg_sl [.ref a3, .int p1] ++ List.replicate (2 - (lg_sl [.ref a3, .int p1]).length) Slot.unset).toArray = ls at hl ⊢
  replace hl : lv_has ls 2 [(0, .ref a3), (1, .int p1)] := hl
  refine lv_aload_n hx hb dX3_hasMarks_0 rfl (lv_at hl 0 rfl) ?_
  refine va_get (D := (dC, dI)) (ci := 3) (v := .ref r3newest) (C := RX3) (T := TX3) (N := 9) hx hb hts hiX3 hown hK hP 0 rfl rfl 1 (by decide) lk15 (fun _ h9 => h9) rfl dX3_hasMarks_1 ?_
  refine lv_iload_n hx hb dX3_hasMarks_4 rfl (lv_at hl 1 rfl) ?_
  refine va_iald hx hb hK hP 1 0 rfl rfl h.1 dX3_hasMarks_5 ?_
  replace h := h.2
  refine lv_iconst (v := (-1)) hx hb dX3_hasMarks_6 (by decide) ?_
  refine lv_icmp_eq (tgt := 14) hx hb dX3_hasMarks_7 (by decide) (fun c => ?_) (fun c => ?_)
  · replace h := h.1 c
    refine lv_iconst (v := 0) hx hb dX3_hasMarks_14 (by decide) ?_
    exact W.zret (v := 0) (ty := .boolean) hx hb hr rfl (fun t ht hW => ⟨⟨0, (), rfl, h, by rw [ht]; exact hP, hD⟩, hS.F ht⟩) hS.2.2 dX3_hasMarks_15
  · replace h := h.2 c
    refine lv_iconst (v := 1) hx hb dX3_hasMarks_10 (by decide) ?_
    refine lv_goto (tgt := 15) hx hb dX3_hasMarks_11 (by decide) ?_
    exact W.zret (v := 1) (ty := .boolean) hx hb hr rfl (fun t ht hW => ⟨⟨1, (), rfl, h, by rw [ht]; exact hP, hD⟩, hS.F ht⟩) hS.2.2 dX3_hasMarks_15
def lp_X3_lastMark_11 (k1 : Int32) (k2 : Int32) (k3 : Int32) (k4 : Int32) (f3newest : Nat → Int32) (f3older : Nat → Int32) (f3whose : Nat → Int32) (f3hourOf : Nat → Int32) (f3kind : Nat → Int32) (f3knownFrom : Nat → Int32) (Post : Int32 → Unit → Prop) (K : Int32 → Int32 → Prop) : Nat → Int32 → Int32 → Prop
  | 0, _, _ => False
  | n + 1, y5, y6 => (((400 ≤ y6) → (K y5 y6)) ∧ ((¬ 400 ≤ y6) → (((y5 = (-1)) → (K y5 y6)) ∧ ((¬ y5 = (-1)) → (vp_in y5 400 ∧ (((¬ (f3whose y5.toNatClampNeg) = k1) → (vp_in y5 400 ∧ (∀ x1 : Int32, x1 = (f3older y5.toNatClampNeg) → (∀ x2 : Int32, x2 = y6 + 1 → (lp_X3_lastMark_11 k1 k2 k3 k4 f3newest f3older f3whose f3hourOf f3kind f3knownFrom Post K n x1 x2))))) ∧ (((f3whose y5.toNatClampNeg) = k1) → (vp_in y5 400 ∧ (((¬ (f3hourOf y5.toNatClampNeg) = k3) → (vp_in y5 400 ∧ (∀ x3 : Int32, x3 = (f3older y5.toNatClampNeg) → (∀ x4 : Int32, x4 = y6 + 1 → (lp_X3_lastMark_11 k1 k2 k3 k4 f3newest f3older f3whose f3hourOf f3kind f3knownFrom Post K n x3 x4))))) ∧ (((f3hourOf y5.toNatClampNeg) = k3) → (vp_in y5 400 ∧ (((k4 < (f3knownFrom y5.toNatClampNeg)) → (vp_in y5 400 ∧ (∀ x5 : Int32, x5 = (f3older y5.toNatClampNeg) → (∀ x6 : Int32, x6 = y6 + 1 → (lp_X3_lastMark_11 k1 k2 k3 k4 f3newest f3older f3whose f3hourOf f3kind f3knownFrom Post K n x5 x6))))) ∧ ((¬ k4 < (f3knownFrom y5.toNatClampNeg)) → (vp_in y5 400 ∧ (Post (f3kind y5.toNatClampNeg) ())))))))))))))))
def wp_X3_lastMark (p1 : Int32) (p2 : Int32) (p3 : Int32) (p4 : Int32) (f3newest : Nat → Int32) (f3older : Nat → Int32) (f3whose : Nat → Int32) (f3hourOf : Nat → Int32) (f3kind : Nat → Int32) (f3knownFrom : Nat → Int32) (Post : Int32 → Unit → Prop) : Prop := (vp_in p2 400 ∧ (∀ x7 : Int32, x7 = (f3newest p2.toNatClampNeg) → (∃ n10 : Nat, lp_X3_lastMark_11 p1 p2 p3 p4 f3newest f3older f3whose f3hourOf f3kind f3knownFrom Post (fun (x8 : Int32) (x9 : Int32) => (Post 0 ())) n10 x7 0)))
set_option maxHeartbeats 4000000 in
set_option maxRecDepth 100000 in
theorem c_X3_lastMark (l : Launch) (dC : Nat → ClassId) (dI : Nat → Nat → Nat) (cyI cyZ cyB : ClassId) (a3 : Nat) (r3newest : Nat) (r3older : Nat) (r3whose : Nat) (r3hourOf : Nat) (r3kind : Nat) (r3knownFrom : Nat) (r3tally : Nat) (r3hoursSeen : Nat) (sz : Nat) (v3told : Int32) (f3newest : Nat → Int32) (f3older : Nat → Int32) (f3whose : Nat → Int32) (f3hourOf : Nat → Int32) (f3kind : Nat → Int32) (f3knownFrom : Nat → Int32) (p1 : Int32) (p2 : Int32) (p3 : Int32) (p4 : Int32) (Post : Int32 → Unit → Prop) (h : wp_X3_lastMark p1 p2 p3 p4 f3newest f3older f3whose f3hourOf f3kind f3knownFrom Post) : Met l yX3_lastMark wsX3_lastMark ({ frames := 0, cells := 0, slots := 0, locals := 0 } : Room) (MPre (dC, dI) [(cyI, .int), (cyZ, .boolean), (cyB, .byte)] [.ref a3, .int p1, .int p2, .int p3, .int p4] sz [(a3, .inr (3, [.int v3told, .ref r3newest, .ref r3older, .ref r3whose, .ref r3hourOf, .ref r3kind, .ref r3knownFrom, .ref r3tally, .ref r3hoursSeen])), (r3newest, .inl (cyI, 400, .inl f3newest)), (r3older, .inl (cyI, 400, .inl f3older)), (r3whose, .inl (cyI, 400, .inl f3whose)), (r3hourOf, .inl (cyI, 400, .inl f3hourOf)), (r3kind, .inl (cyI, 400, .inl f3kind)), (r3knownFrom, .inl (cyI, 400, .inl f3knownFrom))]) (va_Qi Post (fun (u : Unit) (t : State) => va_P (dC, dI) vwCl [(a3, .inr (3, [.int v3told, .ref r3newest, .ref r3older, .ref r3whose, .ref r3hourOf, .ref r3kind, .ref r3knownFrom, .ref r3tally, .ref r3hoursSeen])), (r3newest, .inl (cyI, 400, .inl f3newest)), (r3older, .inl (cyI, 400, .inl f3older)), (r3whose, .inl (cyI, 400, .inl f3whose)), (r3hourOf, .inl (cyI, 400, .inl f3hourOf)), (r3kind, .inl (cyI, 400, .inl f3kind)), (r3knownFrom, .inl (cyI, 400, .inl f3knownFrom))] t.heap ∧ va_D (va_A [(a3, .inr (3, [.int v3told, .ref r3newest, .ref r3older, .ref r3whose, .ref r3hourOf, .ref r3kind, .ref r3knownFrom, .ref r3tally, .ref r3hoursSeen])), (r3newest, .inl (cyI, 400, .inl f3newest)), (r3older, .inl (cyI, 400, .inl f3older)), (r3whose, .inl (cyI, 400, .inl f3whose)), (r3hourOf, .inl (cyI, 400, .inl f3hourOf)), (r3kind, .inl (cyI, 400, .inl f3kind)), (r3knownFrom, .inl (cyI, 400, .inl f3knownFrom))] sz) [(a3, .inr (3, [.int v3told, .ref r3newest, .ref r3older, .ref r3whose, .ref r3hourOf, .ref r3kind, .ref r3knownFrom, .ref r3tally, .ref r3hoursSeen])), (r3newest, .inl (cyI, 400, .inl f3newest)), (r3older, .inl (cyI, 400, .inl f3older)), (r3whose, .inl (cyI, 400, .inl f3whose)), (r3hourOf, .inl (cyI, 400, .inl f3hourOf)), (r3kind, .inl (cyI, 400, .inl f3kind)), (r3knownFrom, .inl (cyI, 400, .inl f3knownFrom))]) (va_A [(a3, .inr (3, [.int v3told, .ref r3newest, .ref r3older, .ref r3whose, .ref r3hourOf, .ref r3kind, .ref r3knownFrom, .ref r3tally, .ref r3hoursSeen])), (r3newest, .inl (cyI, 400, .inl f3newest)), (r3older, .inl (cyI, 400, .inl f3older)), (r3whose, .inl (cyI, 400, .inl f3whose)), (r3hourOf, .inl (cyI, 400, .inl f3hourOf)), (r3kind, .inl (cyI, 400, .inl f3kind)), (r3knownFrom, .inl (cyI, 400, .inl f3knownFrom))] sz)) 0 0 (va_A [(a3, .inr (3, [.int v3told, .ref r3newest, .ref r3older, .ref r3whose, .ref r3hourOf, .ref r3kind, .ref r3knownFrom, .ref r3tally, .ref r3hoursSeen])), (r3newest, .inl (cyI, 400, .inl f3newest)), (r3older, .inl (cyI, 400, .inl f3older)), (r3whose, .inl (cyI, 400, .inl f3whose)), (r3hourOf, .inl (cyI, 400, .inl f3hourOf)), (r3kind, .inl (cyI, 400, .inl f3kind)), (r3knownFrom, .inl (cyI, 400, .inl f3knownFrom))] sz) := by
  refine Met.ofW (cc := cX3_lastMark) (maxL := 7) (ret := (some .int)) (by decide) rfl ?_
  intro p e s m args below meth c s₁ B hml hv
  obtain ⟨rfl, hsz, hP, hK, hD0, hN⟩ := hv
  have hx := B.exec
  have hb := B.bytes
  have hr := B.returns
  have hts := atoms_spec (ws := wsX3_lastMark) B.pre
  have hown : s.vm.findClass RX3 = some m.cls := findClass_of_methodNamed B.named
  have hlocks := B.notSynchronized
  subst hsz
  have hD := hD0.self (sz := s.heap.size)
  generalize hAe : va_A [(a3, .inr (3, [.int v3told, .ref r3newest, .ref r3older, .ref r3whose, .ref r3hourOf, .ref r3kind, .ref r3knownFrom, .ref r3tally, .ref r3hoursSeen])), (r3newest, .inl (cyI, 400, .inl f3newest)), (r3older, .inl (cyI, 400, .inl f3older)), (r3whose, .inl (cyI, 400, .inl f3whose)), (r3hourOf, .inl (cyI, 400, .inl f3hourOf)), (r3kind, .inl (cyI, 400, .inl f3kind)), (r3knownFrom, .inl (cyI, 400, .inl f3knownFrom))] s.heap.size = A at hD ⊢
  have hA : ∀ q : Nat, s.heap.size ≤ q → A q := fun q h => by rw [← hAe]; exact Or.inr h
  have hS : va_S A s.heap s.heap [] := va_S.rf
  have hiX3 : ∀ w ∈ u_ws RX3 TX3 9, w ∈ wsX3_lastMark := by decide +kernel
  have lk15 := hts (.fieldLink RX3 15 "StallBook$Choir" "newest" "[I") (by decide +kernel)
  have lk19 := hts (.fieldLink RX3 19 "StallBook$Choir" "older" "[I") (by decide +kernel)
  have lk22 := hts (.fieldLink RX3 22 "StallBook$Choir" "whose" "[I") (by decide +kernel)
  have lk25 := hts (.fieldLink RX3 25 "StallBook$Choir" "hourOf" "[I") (by decide +kernel)
  have lk28 := hts (.fieldLink RX3 28 "StallBook$Choir" "kind" "[I") (by decide +kernel)
  have lk31 := hts (.fieldLink RX3 31 "StallBook$Choir" "knownFrom" "[I") (by decide +kernel)
  have L11 : ∀ (k1 : Int32) (k2 : Int32) (k3 : Int32) (k4 : Int32) (f3newest : Nat → Int32) (f3older : Nat → Int32) (f3whose : Nat → Int32) (f3hourOf : Nat → Int32) (f3kind : Nat → Int32) (f3knownFrom : Nat → Int32) (K : Int32 → Int32 → Prop) (n : Nat) (y5 : Int32) (y6 : Int32) (H : Heap) (locs : List Loc) (ls : Array Slot), lp_X3_lastMark_11 k1 k2 k3 k4 f3newest f3older f3whose f3hourOf f3kind f3knownFrom Post K n y5 y6 → va_P (dC, dI) vwCl [(a3, .inr (3, [.int v3told, .ref r3newest, .ref r3older, .ref r3whose, .ref r3hourOf, .ref r3kind, .ref r3knownFrom, .ref r3tally, .ref r3hoursSeen])), (r3newest, .inl (cyI, 400, .inl f3newest)), (r3older, .inl (cyI, 400, .inl f3older)), (r3whose, .inl (cyI, 400, .inl f3whose)), (r3hourOf, .inl (cyI, 400, .inl f3hourOf)), (r3kind, .inl (cyI, 400, .inl f3kind)), (r3knownFrom, .inl (cyI, 400, .inl f3knownFrom))] H → va_D A [(a3, .inr (3, [.int v3told, .ref r3newest, .ref r3older, .ref r3whose, .ref r3hourOf, .ref r3kind, .ref r3knownFrom, .ref r3tally, .ref r3hoursSeen])), (r3newest, .inl (cyI, 400, .inl f3newest)), (r3older, .inl (cyI, 400, .inl f3older)), (r3whose, .inl (cyI, 400, .inl f3whose)), (r3hourOf, .inl (cyI, 400, .inl f3hourOf)), (r3kind, .inl (cyI, 400, .inl f3kind)), (r3knownFrom, .inl (cyI, 400, .inl f3knownFrom))] → va_S A s.heap H locs → lv_has ls 7 [(0, .ref a3), (1, .int k1), (2, .int k2), (3, .int k3), (4, .int k4), (5, .int y5), (6, .int y6)] → (∀ (y5 : Int32) (y6 : Int32) (H : Heap) (locs : List Loc) (ls : Array Slot), K y5 y6 → va_P (dC, dI) vwCl [(a3, .inr (3, [.int v3told, .ref r3newest, .ref r3older, .ref r3whose, .ref r3hourOf, .ref r3kind, .ref r3knownFrom, .ref r3tally, .ref r3hoursSeen])), (r3newest, .inl (cyI, 400, .inl f3newest)), (r3older, .inl (cyI, 400, .inl f3older)), (r3whose, .inl (cyI, 400, .inl f3whose)), (r3hourOf, .inl (cyI, 400, .inl f3hourOf)), (r3kind, .inl (cyI, 400, .inl f3kind)), (r3knownFrom, .inl (cyI, 400, .inl f3knownFrom))] H → va_D A [(a3, .inr (3, [.int v3told, .ref r3newest, .ref r3older, .ref r3whose, .ref r3hourOf, .ref r3kind, .ref r3knownFrom, .ref r3tally, .ref r3hoursSeen])), (r3newest, .inl (cyI, 400, .inl f3newest)), (r3older, .inl (cyI, 400, .inl f3older)), (r3whose, .inl (cyI, 400, .inl f3whose)), (r3hourOf, .inl (cyI, 400, .inl f3hourOf)), (r3kind, .inl (cyI, 400, .inl f3kind)), (r3knownFrom, .inl (cyI, 400, .inl f3knownFrom))] → va_S A s.heap H locs → lv_has ls 7 [(0, .ref a3), (1, .int k1), (2, .int k2), (3, .int k3), (4, .int k4), (5, .int y5), (6, .int y6)] → W p l e (headSpec wsX3_lastMark ({ frames := 0, cells := 0, slots := 0, locals := 0 } : Room)).room s m ([.ref a3, .int p1, .int p2, .int p3, .int p4] : List Value).toArray below meth c H locs 0 0 (MQ below (va_Qi Post (fun (u : Unit) (t : State) => va_P (dC, dI) vwCl [(a3, .inr (3, [.int v3told, .ref r3newest, .ref r3older, .ref r3whose, .ref r3hourOf, .ref r3kind, .ref r3knownFrom, .ref r3tally, .ref r3hoursSeen])), (r3newest, .inl (cyI, 400, .inl f3newest)), (r3older, .inl (cyI, 400, .inl f3older)), (r3whose, .inl (cyI, 400, .inl f3whose)), (r3hourOf, .inl (cyI, 400, .inl f3hourOf)), (r3kind, .inl (cyI, 400, .inl f3kind)), (r3knownFrom, .inl (cyI, 400, .inl f3knownFrom))] t.heap ∧ va_D A [(a3, .inr (3, [.int v3told, .ref r3newest, .ref r3older, .ref r3whose, .ref r3hourOf, .ref r3kind, .ref r3knownFrom, .ref r3tally, .ref r3hoursSeen])), (r3newest, .inl (cyI, 400, .inl f3newest)), (r3older, .inl (cyI, 400, .inl f3older)), (r3whose, .inl (cyI, 400, .inl f3whose)), (r3hourOf, .inl (cyI, 400, .inl f3hourOf)), (r3kind, .inl (cyI, 400, .inl f3kind)), (r3knownFrom, .inl (cyI, 400, .inl f3knownFrom))]) A) ([.ref a3, .int p1, .int p2, .int p3, .int p4] : List Value).toArray s 0 0 A) (F0 m 82 ls [])) → W p l e (headSpec wsX3_lastMark ({ frames := 0, cells := 0, slots := 0, locals := 0 } : Room)).room s m ([.ref a3, .int p1, .int p2, .int p3, .int p4] : List Value).toArray below meth c H locs 0 0 (MQ below (va_Qi Post (fun (u : Unit) (t : State) => va_P (dC, dI) vwCl [(a3, .inr (3, [.int v3told, .ref r3newest, .ref r3older, .ref r3whose, .ref r3hourOf, .ref r3kind, .ref r3knownFrom, .ref r3tally, .ref r3hoursSeen])), (r3newest, .inl (cyI, 400, .inl f3newest)), (r3older, .inl (cyI, 400, .inl f3older)), (r3whose, .inl (cyI, 400, .inl f3whose)), (r3hourOf, .inl (cyI, 400, .inl f3hourOf)), (r3kind, .inl (cyI, 400, .inl f3kind)), (r3knownFrom, .inl (cyI, 400, .inl f3knownFrom))] t.heap ∧ va_D A [(a3, .inr (3, [.int v3told, .ref r3newest, .ref r3older, .ref r3whose, .ref r3hourOf, .ref r3kind, .ref r3knownFrom, .ref r3tally, .ref r3hoursSeen])), (r3newest, .inl (cyI, 400, .inl f3newest)), (r3older, .inl (cyI, 400, .inl f3older)), (r3whose, .inl (cyI, 400, .inl f3whose)), (r3hourOf, .inl (cyI, 400, .inl f3hourOf)), (r3kind, .inl (cyI, 400, .inl f3kind)), (r3knownFrom, .inl (cyI, 400, .inl f3knownFrom))]) A) ([.ref a3, .int p1, .int p2, .int p3, .int p4] : List Value).toArray s 0 0 A) (F0 m 11 ls []) := by
    intro k1 k2 k3 k4 f3newest f3older f3whose f3hourOf f3kind f3knownFrom K n
    induction n with
    | zero =>
      intro y5 y6 H locs ls h
      exact (h : False).elim
    | succ n ih =>
      intro y5 y6 H locs ls h hP hD hS hl kk
      rw [lp_X3_lastMark_11] at h
      refine lv_iload hx hb dX3_lastMark_11 (lv_at hl 6 rfl) ?_
      refine lv_sipush (v := 400) hx hb dX3_lastMark_13 (by decide) ?_
      refine lv_icmp_ge (tgt := 82) hx hb dX3_lastMark_16 (by decide) (fun c => ?_) (fun c => ?_)
      · replace h := h.1 c
        exact kk y5 y6 H locs ls h hP hD hS (lv_sub hl [0, 1, 2, 3, 4, 5, 6] rfl)
      · replace h := h.2 c
        refine lv_iload hx hb dX3_lastMark_19 (lv_at hl 5 rfl) ?_
        refine lv_iconst (v := (-1)) hx hb dX3_lastMark_21 (by decide) ?_
        refine lv_icmp_eq (tgt := 82) hx hb dX3_lastMark_22 (by decide) (fun c => ?_) (fun c => ?_)
        · replace h := h.1 c
          exact kk y5 y6 H locs ls h hP hD hS (lv_sub hl [0, 1, 2, 3, 4, 5, 6] rfl)
        · replace h := h.2 c
          refine lv_aload_n hx hb dX3_lastMark_25 rfl (lv_at hl 0 rfl) ?_
          refine va_get (D := (dC, dI)) (ci := 3) (v := .ref r3whose) (C := RX3) (T := TX3) (N := 9) hx hb hts hiX3 hown hK hP 0 rfl rfl 3 (by decide) lk22 (fun _ h9 => h9) rfl dX3_lastMark_26 ?_
          refine lv_iload hx hb dX3_lastMark_29 (lv_at hl 5 rfl) ?_
          refine va_iald hx hb hK hP 3 0 rfl rfl h.1 dX3_lastMark_31 ?_
          replace h := h.2
          refine lv_iload_n hx hb dX3_lastMark_32 rfl (lv_at hl 1 rfl) ?_
          refine lv_icmp_ne (tgt := 67) hx hb dX3_lastMark_33 (by decide) (fun c => ?_) (fun c => ?_)
          · replace h := h.1 c
            refine lv_aload_n hx hb dX3_lastMark_67 rfl (lv_at hl 0 rfl) ?_
            refine va_get (D := (dC, dI)) (ci := 3) (v := .ref r3older) (C := RX3) (T := TX3) (N := 9) hx hb hts hiX3 hown hK hP 0 rfl rfl 2 (by decide) lk19 (fun _ h9 => h9) rfl dX3_lastMark_68 ?_
            refine lv_iload hx hb dX3_lastMark_71 (lv_at hl 5 rfl) ?_
            refine va_iald hx hb hK hP 2 0 rfl rfl h.1 dX3_lastMark_73 ?_
            replace h := h.2
            refine lv_topi (fun x1 ex1 => ?_)
            replace h := h x1 ex1
            refine lv_istore (lv' := [(5, .int x1), (0, .ref a3), (1, .int k1), (2, .int k2), (3, .int k3), (4, .int k4), (6, .int y6)]) hx hb dX3_lastMark_74 hl (by decide) rfl (fun ls hl => ?_)
            obtain ⟨x2, ex2⟩ : ∃ y : Int32, y = y6 + 1 := ⟨_, rfl⟩
            replace h := h x2 ex2
            refine lv_iinc (v := x2) (lv' := [(6, .int x2), (5, .int x1), (0, .ref a3), (1, .int k1), (2, .int k2), (3, .int k3), (4, .int k4)]) hx hb dX3_lastMark_76 hl (k := 6) rfl (by rw [ex2]; rfl) (by decide) rfl (fun ls hl => ?_)
            refine lv_goto (tgt := 11) hx hb dX3_lastMark_79 (by decide) ?_
            exact ih x1 x2 H locs ls h hP hD hS (lv_sub hl [2, 3, 4, 5, 6, 1, 0] rfl) kk
          · replace h := h.2 c
            refine lv_aload_n hx hb dX3_lastMark_36 rfl (lv_at hl 0 rfl) ?_
            refine va_get (D := (dC, dI)) (ci := 3) (v := .ref r3hourOf) (C := RX3) (T := TX3) (N := 9) hx hb hts hiX3 hown hK hP 0 rfl rfl 4 (by decide) lk25 (fun _ h9 => h9) rfl dX3_lastMark_37 ?_
            refine lv_iload hx hb dX3_lastMark_40 (lv_at hl 5 rfl) ?_
            refine va_iald hx hb hK hP 4 0 rfl rfl h.1 dX3_lastMark_42 ?_
            replace h := h.2
            refine lv_iload_n hx hb dX3_lastMark_43 rfl (lv_at hl 3 rfl) ?_
            refine lv_icmp_ne (tgt := 67) hx hb dX3_lastMark_44 (by decide) (fun c => ?_) (fun c => ?_)
            · replace h := h.1 c
              refine lv_aload_n hx hb dX3_lastMark_67 rfl (lv_at hl 0 rfl) ?_
              refine va_get (D := (dC, dI)) (ci := 3) (v := .ref r3older) (C := RX3) (T := TX3) (N := 9) hx hb hts hiX3 hown hK hP 0 rfl rfl 2 (by decide) lk19 (fun _ h9 => h9) rfl dX3_lastMark_68 ?_
              refine lv_iload hx hb dX3_lastMark_71 (lv_at hl 5 rfl) ?_
              refine va_iald hx hb hK hP 2 0 rfl rfl h.1 dX3_lastMark_73 ?_
              replace h := h.2
              refine lv_topi (fun x3 ex3 => ?_)
              replace h := h x3 ex3
              refine lv_istore (lv' := [(5, .int x3), (0, .ref a3), (1, .int k1), (2, .int k2), (3, .int k3), (4, .int k4), (6, .int y6)]) hx hb dX3_lastMark_74 hl (by decide) rfl (fun ls hl => ?_)
              obtain ⟨x4, ex4⟩ : ∃ y : Int32, y = y6 + 1 := ⟨_, rfl⟩
              replace h := h x4 ex4
              refine lv_iinc (v := x4) (lv' := [(6, .int x4), (5, .int x3), (0, .ref a3), (1, .int k1), (2, .int k2), (3, .int k3), (4, .int k4)]) hx hb dX3_lastMark_76 hl (k := 6) rfl (by rw [ex4]; rfl) (by decide) rfl (fun ls hl => ?_)
              refine lv_goto (tgt := 11) hx hb dX3_lastMark_79 (by decide) ?_
              exact ih x3 x4 H locs ls h hP hD hS (lv_sub hl [2, 3, 4, 5, 6, 1, 0] rfl) kk
            · replace h := h.2 c
              refine lv_aload_n hx hb dX3_lastMark_47 rfl (lv_at hl 0 rfl) ?_
              refine va_get (D := (dC, dI)) (ci := 3) (v := .ref r3knownFrom) (C := RX3) (T := TX3) (N := 9) hx hb hts hiX3 hown hK hP 0 rfl rfl 6 (by decide) lk31 (fun _ h9 => h9) rfl dX3_lastMark_48 ?_
              refine lv_iload hx hb dX3_lastMark_51 (lv_at hl 5 rfl) ?_
              refine va_iald hx hb hK hP 6 0 rfl rfl h.1 dX3_lastMark_53 ?_
              replace h := h.2
              refine lv_iload hx hb dX3_lastMark_54 (lv_at hl 4 rfl) ?_
              refine lv_icmp_gt (tgt := 67) hx hb dX3_lastMark_56 (by decide) (fun c => ?_) (fun c => ?_)
              · replace h := h.1 c
                refine lv_aload_n hx hb dX3_lastMark_67 rfl (lv_at hl 0 rfl) ?_
                refine va_get (D := (dC, dI)) (ci := 3) (v := .ref r3older) (C := RX3) (T := TX3) (N := 9) hx hb hts hiX3 hown hK hP 0 rfl rfl 2 (by decide) lk19 (fun _ h9 => h9) rfl dX3_lastMark_68 ?_
                refine lv_iload hx hb dX3_lastMark_71 (lv_at hl 5 rfl) ?_
                refine va_iald hx hb hK hP 2 0 rfl rfl h.1 dX3_lastMark_73 ?_
                replace h := h.2
                refine lv_topi (fun x5 ex5 => ?_)
                replace h := h x5 ex5
                refine lv_istore (lv' := [(5, .int x5), (0, .ref a3), (1, .int k1), (2, .int k2), (3, .int k3), (4, .int k4), (6, .int y6)]) hx hb dX3_lastMark_74 hl (by decide) rfl (fun ls hl => ?_)
                obtain ⟨x6, ex6⟩ : ∃ y : Int32, y = y6 + 1 := ⟨_, rfl⟩
                replace h := h x6 ex6
                refine lv_iinc (v := x6) (lv' := [(6, .int x6), (5, .int x5), (0, .ref a3), (1, .int k1), (2, .int k2), (3, .int k3), (4, .int k4)]) hx hb dX3_lastMark_76 hl (k := 6) rfl (by rw [ex6]; rfl) (by decide) rfl (fun ls hl => ?_)
                refine lv_goto (tgt := 11) hx hb dX3_lastMark_79 (by decide) ?_
                exact ih x5 x6 H locs ls h hP hD hS (lv_sub hl [2, 3, 4, 5, 6, 1, 0] rfl) kk
              · replace h := h.2 c
                refine lv_aload_n hx hb dX3_lastMark_59 rfl (lv_at hl 0 rfl) ?_
                refine va_get (D := (dC, dI)) (ci := 3) (v := .ref r3kind) (C := RX3) (T := TX3) (N := 9) hx hb hts hiX3 hown hK hP 0 rfl rfl 5 (by decide) lk28 (fun _ h9 => h9) rfl dX3_lastMark_60 ?_
                refine lv_iload hx hb dX3_lastMark_63 (lv_at hl 5 rfl) ?_
                refine va_iald hx hb hK hP 5 0 rfl rfl h.1 dX3_lastMark_65 ?_
                replace h := h.2
                exact W.iret (v := (f3kind y5.toNatClampNeg)) hx hb hr (fun t ht hW => ⟨⟨(f3kind y5.toNatClampNeg), (), rfl, h, by rw [ht]; exact hP, hD⟩, hS.F ht⟩) hS.2.2 dX3_lastMark_66
  delta wp_X3_lastMark at h
  have hl := lv_entry [.ref a3, .int p1, .int p2, .int p3, .int p4] (n := 7) (Nat.le_of_ble_eq_true rfl)
  rw [lg_entry_eq]
  generalize (lg_sl [.ref a3, .int p1, .int p2, .int p3, .int p4] ++ List.replicate (7 - (lg_sl [.ref a3, .int p1, .int p2, .int p3, .int p4]).length) Slot.unset).toArray = ls at hl ⊢
  replace hl : lv_has ls 7 [(0, .ref a3), (1, .int p1), (2, .int p2), (3, .int p3), (4, .int p4)] := hl
  refine lv_aload_n hx hb dX3_lastMark_0 rfl (lv_at hl 0 rfl) ?_
  refine va_get (D := (dC, dI)) (ci := 3) (v := .ref r3newest) (C := RX3) (T := TX3) (N := 9) hx hb hts hiX3 hown hK hP 0 rfl rfl 1 (by decide) lk15 (fun _ h9 => h9) rfl dX3_lastMark_1 ?_
  refine lv_iload_n hx hb dX3_lastMark_4 rfl (lv_at hl 2 rfl) ?_
  refine va_iald hx hb hK hP 1 0 rfl rfl h.1 dX3_lastMark_5 ?_
  replace h := h.2
  refine lv_topi (fun x7 ex7 => ?_)
  replace h := h x7 ex7
  refine lv_istore (lv' := [(5, .int x7), (0, .ref a3), (1, .int p1), (2, .int p2), (3, .int p3), (4, .int p4)]) hx hb dX3_lastMark_6 hl (by decide) rfl (fun ls hl => ?_)
  refine lv_iconst (v := 0) hx hb dX3_lastMark_8 (by decide) ?_
  refine lv_istore (lv' := [(6, .int 0), (5, .int x7), (0, .ref a3), (1, .int p1), (2, .int p2), (3, .int p3), (4, .int p4)]) hx hb dX3_lastMark_9 hl (by decide) rfl (fun ls hl => ?_)
  obtain ⟨n10, h⟩ := h
  refine L11 p1 p2 p3 p4 f3newest f3older f3whose f3hourOf f3kind f3knownFrom _ n10 x7 0 s.heap [] ls h hP hD hS (lv_sub hl [2, 3, 4, 5, 6, 1, 0] rfl) (fun x8 x9 H locs ls h hP hD hS hl => ?_)
  refine lv_iconst (v := 0) hx hb dX3_lastMark_82 (by decide) ?_
  exact W.iret (v := 0) hx hb hr (fun t ht hW => ⟨⟨0, (), rfl, h, by rw [ht]; exact hP, hD⟩, hS.F ht⟩) hS.2.2 dX3_lastMark_83
def wp_X3_isFirstSeen (p1 : Int32) (f3whose : Nat → Int32) (f3hourOf : Nat → Int32) (f3hoursSeen : Nat → Int32) (Post : Int32 → (Nat → Int32) → Prop) : Prop := (vp_in p1 400 ∧ (∀ x1 : Int32, x1 = (1 <<< ((f3hourOf p1.toNatClampNeg) &&& 31)) → (vp_in p1 400 ∧ (∀ x2 : Int32, x2 = (f3whose p1.toNatClampNeg) → (vp_in x2 20 ∧ (((¬ ((f3hoursSeen x2.toNatClampNeg) &&& x1) = 0) → (vp_in x2 20 ∧ (vp_in x2 20 ∧ (Post 0 (upd f3hoursSeen x2.toNatClampNeg ((f3hoursSeen x2.toNatClampNeg) ||| x1)))))) ∧ ((((f3hoursSeen x2.toNatClampNeg) &&& x1) = 0) → (vp_in x2 20 ∧ (vp_in x2 20 ∧ (Post 1 (upd f3hoursSeen x2.toNatClampNeg ((f3hoursSeen x2.toNatClampNeg) ||| x1))))))))))))
set_option maxHeartbeats 4000000 in
set_option maxRecDepth 100000 in
theorem c_X3_isFirstSeen (l : Launch) (dC : Nat → ClassId) (dI : Nat → Nat → Nat) (cyI cyZ cyB : ClassId) (a3 : Nat) (r3newest : Nat) (r3older : Nat) (r3whose : Nat) (r3hourOf : Nat) (r3kind : Nat) (r3knownFrom : Nat) (r3tally : Nat) (r3hoursSeen : Nat) (sz : Nat) (v3told : Int32) (f3whose : Nat → Int32) (f3hourOf : Nat → Int32) (f3hoursSeen : Nat → Int32) (p1 : Int32) (Post : Int32 → (Nat → Int32) → Prop) (h : wp_X3_isFirstSeen p1 f3whose f3hourOf f3hoursSeen Post) : Met l yX3_isFirstSeen wsX3_isFirstSeen ({ frames := 0, cells := 0, slots := 0, locals := 0 } : Room) (MPre (dC, dI) [(cyI, .int), (cyZ, .boolean), (cyB, .byte)] [.ref a3, .int p1] sz [(a3, .inr (3, [.int v3told, .ref r3newest, .ref r3older, .ref r3whose, .ref r3hourOf, .ref r3kind, .ref r3knownFrom, .ref r3tally, .ref r3hoursSeen])), (r3whose, .inl (cyI, 400, .inl f3whose)), (r3hourOf, .inl (cyI, 400, .inl f3hourOf)), (r3hoursSeen, .inl (cyI, 20, .inl f3hoursSeen))]) (va_Qi Post (fun (u : (Nat → Int32)) (t : State) => va_P (dC, dI) vwCl [(a3, .inr (3, [.int v3told, .ref r3newest, .ref r3older, .ref r3whose, .ref r3hourOf, .ref r3kind, .ref r3knownFrom, .ref r3tally, .ref r3hoursSeen])), (r3whose, .inl (cyI, 400, .inl f3whose)), (r3hourOf, .inl (cyI, 400, .inl f3hourOf)), (r3hoursSeen, .inl (cyI, 20, .inl u))] t.heap ∧ va_D (va_A [(a3, .inr (3, [.int v3told, .ref r3newest, .ref r3older, .ref r3whose, .ref r3hourOf, .ref r3kind, .ref r3knownFrom, .ref r3tally, .ref r3hoursSeen])), (r3whose, .inl (cyI, 400, .inl f3whose)), (r3hourOf, .inl (cyI, 400, .inl f3hourOf)), (r3hoursSeen, .inl (cyI, 20, .inl f3hoursSeen))] sz) [(a3, .inr (3, [.int v3told, .ref r3newest, .ref r3older, .ref r3whose, .ref r3hourOf, .ref r3kind, .ref r3knownFrom, .ref r3tally, .ref r3hoursSeen])), (r3whose, .inl (cyI, 400, .inl f3whose)), (r3hourOf, .inl (cyI, 400, .inl f3hourOf)), (r3hoursSeen, .inl (cyI, 20, .inl u))]) (va_A [(a3, .inr (3, [.int v3told, .ref r3newest, .ref r3older, .ref r3whose, .ref r3hourOf, .ref r3kind, .ref r3knownFrom, .ref r3tally, .ref r3hoursSeen])), (r3whose, .inl (cyI, 400, .inl f3whose)), (r3hourOf, .inl (cyI, 400, .inl f3hourOf)), (r3hoursSeen, .inl (cyI, 20, .inl f3hoursSeen))] sz)) 0 0 (va_A [(a3, .inr (3, [.int v3told, .ref r3newest, .ref r3older, .ref r3whose, .ref r3hourOf, .ref r3kind, .ref r3knownFrom, .ref r3tally, .ref r3hoursSeen])), (r3whose, .inl (cyI, 400, .inl f3whose)), (r3hourOf, .inl (cyI, 400, .inl f3hourOf)), (r3hoursSeen, .inl (cyI, 20, .inl f3hoursSeen))] sz) := by
  refine Met.ofW (cc := cX3_isFirstSeen) (maxL := 5) (ret := (some .boolean)) (by decide) rfl ?_
  intro p e s m args below meth c s₁ B hml hv
  obtain ⟨rfl, hsz, hP, hK, hD0, hN⟩ := hv
  have hx := B.exec
  have hb := B.bytes
  have hr := B.returns
  have hts := atoms_spec (ws := wsX3_isFirstSeen) B.pre
  have hown : s.vm.findClass RX3 = some m.cls := findClass_of_methodNamed B.named
  have hlocks := B.notSynchronized
  subst hsz
  have hD := hD0.self (sz := s.heap.size)
  generalize hAe : va_A [(a3, .inr (3, [.int v3told, .ref r3newest, .ref r3older, .ref r3whose, .ref r3hourOf, .ref r3kind, .ref r3knownFrom, .ref r3tally, .ref r3hoursSeen])), (r3whose, .inl (cyI, 400, .inl f3whose)), (r3hourOf, .inl (cyI, 400, .inl f3hourOf)), (r3hoursSeen, .inl (cyI, 20, .inl f3hoursSeen))] s.heap.size = A at hD ⊢
  have hA : ∀ q : Nat, s.heap.size ≤ q → A q := fun q h => by rw [← hAe]; exact Or.inr h
  have hS : va_S A s.heap s.heap [] := va_S.rf
  have hiX3 : ∀ w ∈ u_ws RX3 TX3 9, w ∈ wsX3_isFirstSeen := by decide +kernel
  have lk22 := hts (.fieldLink RX3 22 "StallBook$Choir" "whose" "[I") (by decide +kernel)
  have lk25 := hts (.fieldLink RX3 25 "StallBook$Choir" "hourOf" "[I") (by decide +kernel)
  have lk37 := hts (.fieldLink RX3 37 "StallBook$Choir" "hoursSeen" "[I") (by decide +kernel)
  delta wp_X3_isFirstSeen at h
  have hl := lv_entry [.ref a3, .int p1] (n := 5) (Nat.le_of_ble_eq_true rfl)
  rw [lg_entry_eq]
  generalize (lg_sl [.ref a3, .int p1] ++ List.replicate (5 - (lg_sl [.ref a3, .int p1]).length) Slot.unset).toArray = ls at hl ⊢
  replace hl : lv_has ls 5 [(0, .ref a3), (1, .int p1)] := hl
  refine lv_iconst (v := 1) hx hb dX3_isFirstSeen_0 (by decide) ?_
  refine lv_aload_n hx hb dX3_isFirstSeen_1 rfl (lv_at hl 0 rfl) ?_
  refine va_get (D := (dC, dI)) (ci := 3) (v := .ref r3hourOf) (C := RX3) (T := TX3) (N := 9) hx hb hts hiX3 hown hK hP 0 rfl rfl 4 (by decide) lk25 (fun _ h9 => h9) rfl dX3_isFirstSeen_2 ?_
  refine lv_iload_n hx hb dX3_isFirstSeen_5 rfl (lv_at hl 1 rfl) ?_
  refine va_iald hx hb hK hP 2 0 rfl rfl h.1 dX3_isFirstSeen_6 ?_
  replace h := h.2
  refine lv_ishl hx hb dX3_isFirstSeen_7 ?_
  refine lv_topi (fun x1 ex1 => ?_)
  replace h := h x1 ex1
  refine lv_istore_n (lv' := [(2, .int x1), (0, .ref a3), (1, .int p1)]) hx hb dX3_isFirstSeen_8 rfl hl (by decide) rfl (fun ls hl => ?_)
  refine lv_aload_n hx hb dX3_isFirstSeen_9 rfl (lv_at hl 1 rfl) ?_
  refine va_get (D := (dC, dI)) (ci := 3) (v := .ref r3whose) (C := RX3) (T := TX3) (N := 9) hx hb hts hiX3 hown hK hP 0 rfl rfl 3 (by decide) lk22 (fun _ h9 => h9) rfl dX3_isFirstSeen_10 ?_
  refine lv_iload_n hx hb dX3_isFirstSeen_13 rfl (lv_at hl 2 rfl) ?_
  refine va_iald hx hb hK hP 1 0 rfl rfl h.1 dX3_isFirstSeen_14 ?_
  replace h := h.2
  refine lv_topi (fun x2 ex2 => ?_)
  replace h := h x2 ex2
  refine lv_istore_n (lv' := [(3, .int x2), (2, .int x1), (0, .ref a3), (1, .int p1)]) hx hb dX3_isFirstSeen_15 rfl hl (by decide) rfl (fun ls hl => ?_)
  refine lv_aload_n hx hb dX3_isFirstSeen_16 rfl (lv_at hl 2 rfl) ?_
  refine va_get (D := (dC, dI)) (ci := 3) (v := .ref r3hoursSeen) (C := RX3) (T := TX3) (N := 9) hx hb hts hiX3 hown hK hP 0 rfl rfl 8 (by decide) lk37 (fun _ h9 => h9) rfl dX3_isFirstSeen_17 ?_
  refine lv_iload_n hx hb dX3_isFirstSeen_20 rfl (lv_at hl 0 rfl) ?_
  refine va_iald hx hb hK hP 3 0 rfl rfl h.1 dX3_isFirstSeen_21 ?_
  replace h := h.2
  refine lv_iload_n hx hb dX3_isFirstSeen_22 rfl (lv_at hl 1 rfl) ?_
  refine lv_iand hx hb dX3_isFirstSeen_23 ?_
  refine lv_if_ne (tgt := 31) hx hb dX3_isFirstSeen_24 (by decide) (fun c => ?_) (fun c => ?_)
  · replace h := h.1 c
    refine lv_iconst (v := 0) hx hb dX3_isFirstSeen_31 (by decide) ?_
    refine lv_istore (lv' := [(4, .int 0), (3, .int x2), (2, .int x1), (0, .ref a3), (1, .int p1)]) hx hb dX3_isFirstSeen_32 hl (by decide) rfl (fun ls hl => ?_)
    refine lv_aload_n hx hb dX3_isFirstSeen_34 rfl (lv_at hl 3 rfl) ?_
    refine va_get (D := (dC, dI)) (ci := 3) (v := .ref r3hoursSeen) (C := RX3) (T := TX3) (N := 9) hx hb hts hiX3 hown hK hP 0 rfl rfl 8 (by decide) lk37 (fun _ h9 => h9) rfl dX3_isFirstSeen_35 ?_
    refine lv_iload_n hx hb dX3_isFirstSeen_38 rfl (lv_at hl 1 rfl) ?_
    refine lv_dup2_11 hx hb dX3_isFirstSeen_39 rfl rfl ?_
    refine va_iald hx hb hK hP 3 0 rfl rfl h.1 dX3_isFirstSeen_40 ?_
    replace h := h.2
    refine lv_iload_n hx hb dX3_isFirstSeen_41 rfl (lv_at hl 2 rfl) ?_
    refine lv_ior hx hb dX3_isFirstSeen_42 ?_
    refine va_iast hx hb hK hP hD hS 3 0 rfl rfl h.1 dX3_isFirstSeen_43 (fun H locs hP hD hS => ?_)
    replace h := h.2
    replace hP : va_P (dC, dI) vwCl [(a3, .inr (3, [.int v3told, .ref r3newest, .ref r3older, .ref r3whose, .ref r3hourOf, .ref r3kind, .ref r3knownFrom, .ref r3tally, .ref r3hoursSeen])), (r3whose, .inl (cyI, 400, .inl f3whose)), (r3hourOf, .inl (cyI, 400, .inl f3hourOf)), (r3hoursSeen, .inl (cyI, 20, .inl (upd f3hoursSeen x2.toNatClampNeg ((f3hoursSeen x2.toNatClampNeg) ||| x1))))] H := hP
    replace hD : va_D A [(a3, .inr (3, [.int v3told, .ref r3newest, .ref r3older, .ref r3whose, .ref r3hourOf, .ref r3kind, .ref r3knownFrom, .ref r3tally, .ref r3hoursSeen])), (r3whose, .inl (cyI, 400, .inl f3whose)), (r3hourOf, .inl (cyI, 400, .inl f3hourOf)), (r3hoursSeen, .inl (cyI, 20, .inl (upd f3hoursSeen x2.toNatClampNeg ((f3hoursSeen x2.toNatClampNeg) ||| x1))))] := hD
    refine lv_iload hx hb dX3_isFirstSeen_44 (lv_at hl 0 rfl) ?_
    exact W.zret (v := 0) (ty := .boolean) hx hb hr rfl (fun t ht hW => ⟨⟨0, (upd f3hoursSeen x2.toNatClampNeg ((f3hoursSeen x2.toNatClampNeg) ||| x1)), rfl, h, by rw [ht]; exact hP, hD⟩, hS.F ht⟩) hS.2.2 dX3_isFirstSeen_46
  · replace h := h.2 c
    refine lv_iconst (v := 1) hx hb dX3_isFirstSeen_27 (by decide) ?_
    refine lv_goto (tgt := 32) hx hb dX3_isFirstSeen_28 (by decide) ?_
    refine lv_istore (lv' := [(4, .int 1), (3, .int x2), (2, .int x1), (0, .ref a3), (1, .int p1)]) hx hb dX3_isFirstSeen_32 hl (by decide) rfl (fun ls hl => ?_)
    refine lv_aload_n hx hb dX3_isFirstSeen_34 rfl (lv_at hl 3 rfl) ?_
    refine va_get (D := (dC, dI)) (ci := 3) (v := .ref r3hoursSeen) (C := RX3) (T := TX3) (N := 9) hx hb hts hiX3 hown hK hP 0 rfl rfl 8 (by decide) lk37 (fun _ h9 => h9) rfl dX3_isFirstSeen_35 ?_
    refine lv_iload_n hx hb dX3_isFirstSeen_38 rfl (lv_at hl 1 rfl) ?_
    refine lv_dup2_11 hx hb dX3_isFirstSeen_39 rfl rfl ?_
    refine va_iald hx hb hK hP 3 0 rfl rfl h.1 dX3_isFirstSeen_40 ?_
    replace h := h.2
    refine lv_iload_n hx hb dX3_isFirstSeen_41 rfl (lv_at hl 2 rfl) ?_
    refine lv_ior hx hb dX3_isFirstSeen_42 ?_
    refine va_iast hx hb hK hP hD hS 3 0 rfl rfl h.1 dX3_isFirstSeen_43 (fun H locs hP hD hS => ?_)
    replace h := h.2
    replace hP : va_P (dC, dI) vwCl [(a3, .inr (3, [.int v3told, .ref r3newest, .ref r3older, .ref r3whose, .ref r3hourOf, .ref r3kind, .ref r3knownFrom, .ref r3tally, .ref r3hoursSeen])), (r3whose, .inl (cyI, 400, .inl f3whose)), (r3hourOf, .inl (cyI, 400, .inl f3hourOf)), (r3hoursSeen, .inl (cyI, 20, .inl (upd f3hoursSeen x2.toNatClampNeg ((f3hoursSeen x2.toNatClampNeg) ||| x1))))] H := hP
    replace hD : va_D A [(a3, .inr (3, [.int v3told, .ref r3newest, .ref r3older, .ref r3whose, .ref r3hourOf, .ref r3kind, .ref r3knownFrom, .ref r3tally, .ref r3hoursSeen])), (r3whose, .inl (cyI, 400, .inl f3whose)), (r3hourOf, .inl (cyI, 400, .inl f3hourOf)), (r3hoursSeen, .inl (cyI, 20, .inl (upd f3hoursSeen x2.toNatClampNeg ((f3hoursSeen x2.toNatClampNeg) ||| x1))))] := hD
    refine lv_iload hx hb dX3_isFirstSeen_44 (lv_at hl 0 rfl) ?_
    exact W.zret (v := 1) (ty := .boolean) hx hb hr rfl (fun t ht hW => ⟨⟨1, (upd f3hoursSeen x2.toNatClampNeg ((f3hoursSeen x2.toNatClampNeg) ||| x1)), rfl, h, by rw [ht]; exact hP, hD⟩, hS.F ht⟩) hS.2.2 dX3_isFirstSeen_46
def lp_X3_tallyUp_38 (k1 : Int32) (k2 : Int32) (k4 : Int32) (v0made : Int32) (f0rules : Nat → Int32) (f0from : Nat → Int32) (f0knownFrom : Nat → Int32) (f0undoneFrom : Nat → Int32) (f3newest : Nat → Int32) (f3older : Nat → Int32) (f3whose : Nat → Int32) (f3hourOf : Nat → Int32) (f3kind : Nat → Int32) (f3knownFrom : Nat → Int32) (Post : Int32 → (Nat → Int32) × (Nat → Int32) → Prop) (K : Int32 → Int32 → Int32 → (Nat → Int32) → (Nat → Int32) → Prop) : Nat → Int32 → Int32 → Int32 → (Nat → Int32) → (Nat → Int32) → Prop
  | 0, _, _, _, _, _ => False
  | n + 1, y5, y6, y7, f3tally, f3hoursSeen => (((400 ≤ y7) → (K y5 y6 y7 f3tally f3hoursSeen)) ∧ ((¬ 400 ≤ y7) → (((y6 = (-1)) → (K y5 y6 y7 f3tally f3hoursSeen)) ∧ ((¬ y6 = (-1)) → (vp_in y6 400 ∧ (((k2 < (f3knownFrom y6.toNatClampNeg)) → (vp_in y6 400 ∧ (∀ x1 : Int32, x1 = (f3older y6.toNatClampNeg) → (∀ x2 : Int32, x2 = y7 + 1 → (lp_X3_tallyUp_38 k1 k2 k4 v0made f0rules f0from f0knownFrom f0undoneFrom f3newest f3older f3whose f3hourOf f3kind f3knownFrom Post K n y5 x1 x2 f3tally f3hoursSeen))))) ∧ ((¬ k2 < (f3knownFrom y6.toNatClampNeg)) → (wp_X3_isFirstSeen y6 f3whose f3hourOf f3hoursSeen (fun (r3 : Int32) (u4 : (Nat → Int32)) => (((r3 = 0) → (vp_in y6 400 ∧ (∀ x5 : Int32, x5 = (f3older y6.toNatClampNeg) → (∀ x6 : Int32, x6 = y7 + 1 → (lp_X3_tallyUp_38 k1 k2 k4 v0made f0rules f0from f0knownFrom f0undoneFrom f3newest f3older f3whose f3hourOf f3kind f3knownFrom Post K n y5 x5 x6 f3tally u4))))) ∧ ((¬ r3 = 0) → (vp_in y6 400 ∧ (vp_in y6 400 ∧ (wp_X0_pointsFor k4 (f3hourOf y6.toNatClampNeg) (f3kind y6.toNatClampNeg) f0rules (fun (r7 : Int32) (u8 : Unit) => (vp_in y6 400 ∧ (vp_in (f3whose y6.toNatClampNeg) 20 ∧ (vp_in (f3whose y6.toNatClampNeg) 20 ∧ (∀ x9 : Int32, x9 = (y5 + r7) → (vp_in y6 400 ∧ (∀ x10 : Int32, x10 = (f3older y6.toNatClampNeg) → (∀ x11 : Int32, x11 = y7 + 1 → (lp_X3_tallyUp_38 k1 k2 k4 v0made f0rules f0from f0knownFrom f0undoneFrom f3newest f3older f3whose f3hourOf f3kind f3knownFrom Post K n x9 x10 x11 (upd f3tally (f3whose y6.toNatClampNeg).toNatClampNeg ((f3tally (f3whose y6.toNatClampNeg).toNatClampNeg) + r7)) u4)))))))))))))))))))))))
def wp_X3_tallyUp (p1 : Int32) (p2 : Int32) (v0made : Int32) (f0rules : Nat → Int32) (f0from : Nat → Int32) (f0knownFrom : Nat → Int32) (f0undoneFrom : Nat → Int32) (f3newest : Nat → Int32) (f3older : Nat → Int32) (f3whose : Nat → Int32) (f3hourOf : Nat → Int32) (f3kind : Nat → Int32) (f3knownFrom : Nat → Int32) (f3tally : Nat → Int32) (f3hoursSeen : Nat → Int32) (Post : Int32 → (Nat → Int32) × (Nat → Int32) → Prop) : Prop := (wp_J7_fill_53178 0 20 f3tally (fun (u13 : (Nat → Int32)) => (wp_J7_fill_53178 0 20 f3hoursSeen (fun (u15 : (Nat → Int32)) => (wp_X0_inForce p1 p2 v0made f0from f0knownFrom f0undoneFrom (fun (r16 : Int32) (u17 : Unit) => (vp_in p1 400 ∧ (∀ x18 : Int32, x18 = (f3newest p1.toNatClampNeg) → (∃ n24 : Nat, lp_X3_tallyUp_38 p1 p2 r16 v0made f0rules f0from f0knownFrom f0undoneFrom f3newest f3older f3whose f3hourOf f3kind f3knownFrom Post (fun (x19 : Int32) (x20 : Int32) (x21 : Int32) (g22 : Nat → Int32) (g23 : Nat → Int32) => (Post x19 (g22, g23))) n24 0 x18 0 u13 u15)))))))))
set_option maxHeartbeats 4000000 in
set_option maxRecDepth 100000 in
theorem c_X3_tallyUp (l : Launch) (dC : Nat → ClassId) (dI : Nat → Nat → Nat) (cyI cyZ cyB : ClassId) (a0 : Nat) (r0rules : Nat) (r0from : Nat) (r0knownFrom : Nat) (r0undoneFrom : Nat) (a3 : Nat) (r3newest : Nat) (r3older : Nat) (r3whose : Nat) (r3hourOf : Nat) (r3kind : Nat) (r3knownFrom : Nat) (r3tally : Nat) (r3hoursSeen : Nat) (sz : Nat) (v0made : Int32) (f0rules : Nat → Int32) (f0from : Nat → Int32) (f0knownFrom : Nat → Int32) (f0undoneFrom : Nat → Int32) (v3told : Int32) (f3newest : Nat → Int32) (f3older : Nat → Int32) (f3whose : Nat → Int32) (f3hourOf : Nat → Int32) (f3kind : Nat → Int32) (f3knownFrom : Nat → Int32) (f3tally : Nat → Int32) (f3hoursSeen : Nat → Int32) (p1 : Int32) (p2 : Int32) (Post : Int32 → (Nat → Int32) × (Nat → Int32) → Prop) (h : wp_X3_tallyUp p1 p2 v0made f0rules f0from f0knownFrom f0undoneFrom f3newest f3older f3whose f3hourOf f3kind f3knownFrom f3tally f3hoursSeen Post) : Met l yX3_tallyUp wsX3_tallyUp ({ frames := 2, cells := 0, slots := 0, locals := 47 } : Room) (MPre (dC, dI) [(cyI, .int), (cyZ, .boolean), (cyB, .byte)] [.ref a3, .int p1, .int p2, .ref a0] sz [(a0, .inr (0, [.int v0made, .ref r0rules, .ref r0from, .ref r0knownFrom, .ref r0undoneFrom])), (r0rules, .inl (cyI, 143, .inl f0rules)), (r0from, .inl (cyI, 10, .inl f0from)), (r0knownFrom, .inl (cyI, 10, .inl f0knownFrom)), (r0undoneFrom, .inl (cyI, 10, .inl f0undoneFrom)), (a3, .inr (3, [.int v3told, .ref r3newest, .ref r3older, .ref r3whose, .ref r3hourOf, .ref r3kind, .ref r3knownFrom, .ref r3tally, .ref r3hoursSeen])), (r3newest, .inl (cyI, 400, .inl f3newest)), (r3older, .inl (cyI, 400, .inl f3older)), (r3whose, .inl (cyI, 400, .inl f3whose)), (r3hourOf, .inl (cyI, 400, .inl f3hourOf)), (r3kind, .inl (cyI, 400, .inl f3kind)), (r3knownFrom, .inl (cyI, 400, .inl f3knownFrom)), (r3tally, .inl (cyI, 20, .inl f3tally)), (r3hoursSeen, .inl (cyI, 20, .inl f3hoursSeen))]) (va_Qi Post (fun (u : (Nat → Int32) × (Nat → Int32)) (t : State) => va_P (dC, dI) vwCl [(a0, .inr (0, [.int v0made, .ref r0rules, .ref r0from, .ref r0knownFrom, .ref r0undoneFrom])), (r0rules, .inl (cyI, 143, .inl f0rules)), (r0from, .inl (cyI, 10, .inl f0from)), (r0knownFrom, .inl (cyI, 10, .inl f0knownFrom)), (r0undoneFrom, .inl (cyI, 10, .inl f0undoneFrom)), (a3, .inr (3, [.int v3told, .ref r3newest, .ref r3older, .ref r3whose, .ref r3hourOf, .ref r3kind, .ref r3knownFrom, .ref r3tally, .ref r3hoursSeen])), (r3newest, .inl (cyI, 400, .inl f3newest)), (r3older, .inl (cyI, 400, .inl f3older)), (r3whose, .inl (cyI, 400, .inl f3whose)), (r3hourOf, .inl (cyI, 400, .inl f3hourOf)), (r3kind, .inl (cyI, 400, .inl f3kind)), (r3knownFrom, .inl (cyI, 400, .inl f3knownFrom)), (r3tally, .inl (cyI, 20, .inl u.1)), (r3hoursSeen, .inl (cyI, 20, .inl u.2))] t.heap ∧ va_D (va_A [(a0, .inr (0, [.int v0made, .ref r0rules, .ref r0from, .ref r0knownFrom, .ref r0undoneFrom])), (r0rules, .inl (cyI, 143, .inl f0rules)), (r0from, .inl (cyI, 10, .inl f0from)), (r0knownFrom, .inl (cyI, 10, .inl f0knownFrom)), (r0undoneFrom, .inl (cyI, 10, .inl f0undoneFrom)), (a3, .inr (3, [.int v3told, .ref r3newest, .ref r3older, .ref r3whose, .ref r3hourOf, .ref r3kind, .ref r3knownFrom, .ref r3tally, .ref r3hoursSeen])), (r3newest, .inl (cyI, 400, .inl f3newest)), (r3older, .inl (cyI, 400, .inl f3older)), (r3whose, .inl (cyI, 400, .inl f3whose)), (r3hourOf, .inl (cyI, 400, .inl f3hourOf)), (r3kind, .inl (cyI, 400, .inl f3kind)), (r3knownFrom, .inl (cyI, 400, .inl f3knownFrom)), (r3tally, .inl (cyI, 20, .inl f3tally)), (r3hoursSeen, .inl (cyI, 20, .inl f3hoursSeen))] sz) [(a0, .inr (0, [.int v0made, .ref r0rules, .ref r0from, .ref r0knownFrom, .ref r0undoneFrom])), (r0rules, .inl (cyI, 143, .inl f0rules)), (r0from, .inl (cyI, 10, .inl f0from)), (r0knownFrom, .inl (cyI, 10, .inl f0knownFrom)), (r0undoneFrom, .inl (cyI, 10, .inl f0undoneFrom)), (a3, .inr (3, [.int v3told, .ref r3newest, .ref r3older, .ref r3whose, .ref r3hourOf, .ref r3kind, .ref r3knownFrom, .ref r3tally, .ref r3hoursSeen])), (r3newest, .inl (cyI, 400, .inl f3newest)), (r3older, .inl (cyI, 400, .inl f3older)), (r3whose, .inl (cyI, 400, .inl f3whose)), (r3hourOf, .inl (cyI, 400, .inl f3hourOf)), (r3kind, .inl (cyI, 400, .inl f3kind)), (r3knownFrom, .inl (cyI, 400, .inl f3knownFrom)), (r3tally, .inl (cyI, 20, .inl u.1)), (r3hoursSeen, .inl (cyI, 20, .inl u.2))]) (va_A [(a0, .inr (0, [.int v0made, .ref r0rules, .ref r0from, .ref r0knownFrom, .ref r0undoneFrom])), (r0rules, .inl (cyI, 143, .inl f0rules)), (r0from, .inl (cyI, 10, .inl f0from)), (r0knownFrom, .inl (cyI, 10, .inl f0knownFrom)), (r0undoneFrom, .inl (cyI, 10, .inl f0undoneFrom)), (a3, .inr (3, [.int v3told, .ref r3newest, .ref r3older, .ref r3whose, .ref r3hourOf, .ref r3kind, .ref r3knownFrom, .ref r3tally, .ref r3hoursSeen])), (r3newest, .inl (cyI, 400, .inl f3newest)), (r3older, .inl (cyI, 400, .inl f3older)), (r3whose, .inl (cyI, 400, .inl f3whose)), (r3hourOf, .inl (cyI, 400, .inl f3hourOf)), (r3kind, .inl (cyI, 400, .inl f3kind)), (r3knownFrom, .inl (cyI, 400, .inl f3knownFrom)), (r3tally, .inl (cyI, 20, .inl f3tally)), (r3hoursSeen, .inl (cyI, 20, .inl f3hoursSeen))] sz)) 0 0 (va_A [(a0, .inr (0, [.int v0made, .ref r0rules, .ref r0from, .ref r0knownFrom, .ref r0undoneFrom])), (r0rules, .inl (cyI, 143, .inl f0rules)), (r0from, .inl (cyI, 10, .inl f0from)), (r0knownFrom, .inl (cyI, 10, .inl f0knownFrom)), (r0undoneFrom, .inl (cyI, 10, .inl f0undoneFrom)), (a3, .inr (3, [.int v3told, .ref r3newest, .ref r3older, .ref r3whose, .ref r3hourOf, .ref r3kind, .ref r3knownFrom, .ref r3tally, .ref r3hoursSeen])), (r3newest, .inl (cyI, 400, .inl f3newest)), (r3older, .inl (cyI, 400, .inl f3older)), (r3whose, .inl (cyI, 400, .inl f3whose)), (r3hourOf, .inl (cyI, 400, .inl f3hourOf)), (r3kind, .inl (cyI, 400, .inl f3kind)), (r3knownFrom, .inl (cyI, 400, .inl f3knownFrom)), (r3tally, .inl (cyI, 20, .inl f3tally)), (r3hoursSeen, .inl (cyI, 20, .inl f3hoursSeen))] sz) := by
  refine Met.ofW (cc := cX3_tallyUp) (maxL := 9) (ret := (some .int)) (by decide) rfl ?_
  intro p e s m args below meth c s₁ B hml hv
  obtain ⟨rfl, hsz, hP, hK, hD0, hN⟩ := hv
  have hx := B.exec
  have hb := B.bytes
  have hr := B.returns
  have hts := atoms_spec (ws := wsX3_tallyUp) B.pre
  have hown : s.vm.findClass RX3 = some m.cls := findClass_of_methodNamed B.named
  have hlocks := B.notSynchronized
  subst hsz
  have hD := hD0.self (sz := s.heap.size)
  generalize hAe : va_A [(a0, .inr (0, [.int v0made, .ref r0rules, .ref r0from, .ref r0knownFrom, .ref r0undoneFrom])), (r0rules, .inl (cyI, 143, .inl f0rules)), (r0from, .inl (cyI, 10, .inl f0from)), (r0knownFrom, .inl (cyI, 10, .inl f0knownFrom)), (r0undoneFrom, .inl (cyI, 10, .inl f0undoneFrom)), (a3, .inr (3, [.int v3told, .ref r3newest, .ref r3older, .ref r3whose, .ref r3hourOf, .ref r3kind, .ref r3knownFrom, .ref r3tally, .ref r3hoursSeen])), (r3newest, .inl (cyI, 400, .inl f3newest)), (r3older, .inl (cyI, 400, .inl f3older)), (r3whose, .inl (cyI, 400, .inl f3whose)), (r3hourOf, .inl (cyI, 400, .inl f3hourOf)), (r3kind, .inl (cyI, 400, .inl f3kind)), (r3knownFrom, .inl (cyI, 400, .inl f3knownFrom)), (r3tally, .inl (cyI, 20, .inl f3tally)), (r3hoursSeen, .inl (cyI, 20, .inl f3hoursSeen))] s.heap.size = A at hD ⊢
  have hA : ∀ q : Nat, s.heap.size ≤ q → A q := fun q h => by rw [← hAe]; exact Or.inr h
  have hS : va_S A s.heap s.heap [] := va_S.rf
  have hiX3 : ∀ w ∈ u_ws RX3 TX3 9, w ∈ wsX3_tallyUp := by decide +kernel
  have lk15 := hts (.fieldLink RX3 15 "StallBook$Choir" "newest" "[I") (by decide +kernel)
  have lk19 := hts (.fieldLink RX3 19 "StallBook$Choir" "older" "[I") (by decide +kernel)
  have lk22 := hts (.fieldLink RX3 22 "StallBook$Choir" "whose" "[I") (by decide +kernel)
  have lk25 := hts (.fieldLink RX3 25 "StallBook$Choir" "hourOf" "[I") (by decide +kernel)
  have lk28 := hts (.fieldLink RX3 28 "StallBook$Choir" "kind" "[I") (by decide +kernel)
  have lk31 := hts (.fieldLink RX3 31 "StallBook$Choir" "knownFrom" "[I") (by decide +kernel)
  have lk34 := hts (.fieldLink RX3 34 "StallBook$Choir" "tally" "[I") (by decide +kernel)
  have lk37 := hts (.fieldLink RX3 37 "StallBook$Choir" "hoursSeen" "[I") (by decide +kernel)
  have L38 : ∀ (k1 : Int32) (k2 : Int32) (k4 : Int32) (v0made : Int32) (f0rules : Nat → Int32) (f0from : Nat → Int32) (f0knownFrom : Nat → Int32) (f0undoneFrom : Nat → Int32) (f3newest : Nat → Int32) (f3older : Nat → Int32) (f3whose : Nat → Int32) (f3hourOf : Nat → Int32) (f3kind : Nat → Int32) (f3knownFrom : Nat → Int32) (K : Int32 → Int32 → Int32 → (Nat → Int32) → (Nat → Int32) → Prop) (n : Nat) (y5 : Int32) (y6 : Int32) (y7 : Int32) (f3tally : Nat → Int32) (f3hoursSeen : Nat → Int32) (H : Heap) (locs : List Loc) (ls : Array Slot), lp_X3_tallyUp_38 k1 k2 k4 v0made f0rules f0from f0knownFrom f0undoneFrom f3newest f3older f3whose f3hourOf f3kind f3knownFrom Post K n y5 y6 y7 f3tally f3hoursSeen → va_P (dC, dI) vwCl [(a0, .inr (0, [.int v0made, .ref r0rules, .ref r0from, .ref r0knownFrom, .ref r0undoneFrom])), (r0rules, .inl (cyI, 143, .inl f0rules)), (r0from, .inl (cyI, 10, .inl f0from)), (r0knownFrom, .inl (cyI, 10, .inl f0knownFrom)), (r0undoneFrom, .inl (cyI, 10, .inl f0undoneFrom)), (a3, .inr (3, [.int v3told, .ref r3newest, .ref r3older, .ref r3whose, .ref r3hourOf, .ref r3kind, .ref r3knownFrom, .ref r3tally, .ref r3hoursSeen])), (r3newest, .inl (cyI, 400, .inl f3newest)), (r3older, .inl (cyI, 400, .inl f3older)), (r3whose, .inl (cyI, 400, .inl f3whose)), (r3hourOf, .inl (cyI, 400, .inl f3hourOf)), (r3kind, .inl (cyI, 400, .inl f3kind)), (r3knownFrom, .inl (cyI, 400, .inl f3knownFrom)), (r3tally, .inl (cyI, 20, .inl f3tally)), (r3hoursSeen, .inl (cyI, 20, .inl f3hoursSeen))] H → va_D A [(a0, .inr (0, [.int v0made, .ref r0rules, .ref r0from, .ref r0knownFrom, .ref r0undoneFrom])), (r0rules, .inl (cyI, 143, .inl f0rules)), (r0from, .inl (cyI, 10, .inl f0from)), (r0knownFrom, .inl (cyI, 10, .inl f0knownFrom)), (r0undoneFrom, .inl (cyI, 10, .inl f0undoneFrom)), (a3, .inr (3, [.int v3told, .ref r3newest, .ref r3older, .ref r3whose, .ref r3hourOf, .ref r3kind, .ref r3knownFrom, .ref r3tally, .ref r3hoursSeen])), (r3newest, .inl (cyI, 400, .inl f3newest)), (r3older, .inl (cyI, 400, .inl f3older)), (r3whose, .inl (cyI, 400, .inl f3whose)), (r3hourOf, .inl (cyI, 400, .inl f3hourOf)), (r3kind, .inl (cyI, 400, .inl f3kind)), (r3knownFrom, .inl (cyI, 400, .inl f3knownFrom)), (r3tally, .inl (cyI, 20, .inl f3tally)), (r3hoursSeen, .inl (cyI, 20, .inl f3hoursSeen))] → va_S A s.heap H locs → lv_has ls 9 [(0, .ref a3), (1, .int k1), (2, .int k2), (3, .ref a0), (4, .int k4), (5, .int y5), (6, .int y6), (7, .int y7)] → (∀ (y5 : Int32) (y6 : Int32) (y7 : Int32) (f3tally : Nat → Int32) (f3hoursSeen : Nat → Int32) (H : Heap) (locs : List Loc) (ls : Array Slot), K y5 y6 y7 f3tally f3hoursSeen → va_P (dC, dI) vwCl [(a0, .inr (0, [.int v0made, .ref r0rules, .ref r0from, .ref r0knownFrom, .ref r0undoneFrom])), (r0rules, .inl (cyI, 143, .inl f0rules)), (r0from, .inl (cyI, 10, .inl f0from)), (r0knownFrom, .inl (cyI, 10, .inl f0knownFrom)), (r0undoneFrom, .inl (cyI, 10, .inl f0undoneFrom)), (a3, .inr (3, [.int v3told, .ref r3newest, .ref r3older, .ref r3whose, .ref r3hourOf, .ref r3kind, .ref r3knownFrom, .ref r3tally, .ref r3hoursSeen])), (r3newest, .inl (cyI, 400, .inl f3newest)), (r3older, .inl (cyI, 400, .inl f3older)), (r3whose, .inl (cyI, 400, .inl f3whose)), (r3hourOf, .inl (cyI, 400, .inl f3hourOf)), (r3kind, .inl (cyI, 400, .inl f3kind)), (r3knownFrom, .inl (cyI, 400, .inl f3knownFrom)), (r3tally, .inl (cyI, 20, .inl f3tally)), (r3hoursSeen, .inl (cyI, 20, .inl f3hoursSeen))] H → va_D A [(a0, .inr (0, [.int v0made, .ref r0rules, .ref r0from, .ref r0knownFrom, .ref r0undoneFrom])), (r0rules, .inl (cyI, 143, .inl f0rules)), (r0from, .inl (cyI, 10, .inl f0from)), (r0knownFrom, .inl (cyI, 10, .inl f0knownFrom)), (r0undoneFrom, .inl (cyI, 10, .inl f0undoneFrom)), (a3, .inr (3, [.int v3told, .ref r3newest, .ref r3older, .ref r3whose, .ref r3hourOf, .ref r3kind, .ref r3knownFrom, .ref r3tally, .ref r3hoursSeen])), (r3newest, .inl (cyI, 400, .inl f3newest)), (r3older, .inl (cyI, 400, .inl f3older)), (r3whose, .inl (cyI, 400, .inl f3whose)), (r3hourOf, .inl (cyI, 400, .inl f3hourOf)), (r3kind, .inl (cyI, 400, .inl f3kind)), (r3knownFrom, .inl (cyI, 400, .inl f3knownFrom)), (r3tally, .inl (cyI, 20, .inl f3tally)), (r3hoursSeen, .inl (cyI, 20, .inl f3hoursSeen))] → va_S A s.heap H locs → lv_has ls 9 [(0, .ref a3), (1, .int k1), (2, .int k2), (3, .ref a0), (4, .int k4), (5, .int y5), (6, .int y6), (7, .int y7)] → W p l e (headSpec wsX3_tallyUp ({ frames := 2, cells := 0, slots := 0, locals := 47 } : Room)).room s m ([.ref a3, .int p1, .int p2, .ref a0] : List Value).toArray below meth c H locs 0 0 (MQ below (va_Qi Post (fun (u : (Nat → Int32) × (Nat → Int32)) (t : State) => va_P (dC, dI) vwCl [(a0, .inr (0, [.int v0made, .ref r0rules, .ref r0from, .ref r0knownFrom, .ref r0undoneFrom])), (r0rules, .inl (cyI, 143, .inl f0rules)), (r0from, .inl (cyI, 10, .inl f0from)), (r0knownFrom, .inl (cyI, 10, .inl f0knownFrom)), (r0undoneFrom, .inl (cyI, 10, .inl f0undoneFrom)), (a3, .inr (3, [.int v3told, .ref r3newest, .ref r3older, .ref r3whose, .ref r3hourOf, .ref r3kind, .ref r3knownFrom, .ref r3tally, .ref r3hoursSeen])), (r3newest, .inl (cyI, 400, .inl f3newest)), (r3older, .inl (cyI, 400, .inl f3older)), (r3whose, .inl (cyI, 400, .inl f3whose)), (r3hourOf, .inl (cyI, 400, .inl f3hourOf)), (r3kind, .inl (cyI, 400, .inl f3kind)), (r3knownFrom, .inl (cyI, 400, .inl f3knownFrom)), (r3tally, .inl (cyI, 20, .inl u.1)), (r3hoursSeen, .inl (cyI, 20, .inl u.2))] t.heap ∧ va_D A [(a0, .inr (0, [.int v0made, .ref r0rules, .ref r0from, .ref r0knownFrom, .ref r0undoneFrom])), (r0rules, .inl (cyI, 143, .inl f0rules)), (r0from, .inl (cyI, 10, .inl f0from)), (r0knownFrom, .inl (cyI, 10, .inl f0knownFrom)), (r0undoneFrom, .inl (cyI, 10, .inl f0undoneFrom)), (a3, .inr (3, [.int v3told, .ref r3newest, .ref r3older, .ref r3whose, .ref r3hourOf, .ref r3kind, .ref r3knownFrom, .ref r3tally, .ref r3hoursSeen])), (r3newest, .inl (cyI, 400, .inl f3newest)), (r3older, .inl (cyI, 400, .inl f3older)), (r3whose, .inl (cyI, 400, .inl f3whose)), (r3hourOf, .inl (cyI, 400, .inl f3hourOf)), (r3kind, .inl (cyI, 400, .inl f3kind)), (r3knownFrom, .inl (cyI, 400, .inl f3knownFrom)), (r3tally, .inl (cyI, 20, .inl u.1)), (r3hoursSeen, .inl (cyI, 20, .inl u.2))]) A) ([.ref a3, .int p1, .int p2, .ref a0] : List Value).toArray s 0 0 A) (F0 m 133 ls [])) → W p l e (headSpec wsX3_tallyUp ({ frames := 2, cells := 0, slots := 0, locals := 47 } : Room)).room s m ([.ref a3, .int p1, .int p2, .ref a0] : List Value).toArray below meth c H locs 0 0 (MQ below (va_Qi Post (fun (u : (Nat → Int32) × (Nat → Int32)) (t : State) => va_P (dC, dI) vwCl [(a0, .inr (0, [.int v0made, .ref r0rules, .ref r0from, .ref r0knownFrom, .ref r0undoneFrom])), (r0rules, .inl (cyI, 143, .inl f0rules)), (r0from, .inl (cyI, 10, .inl f0from)), (r0knownFrom, .inl (cyI, 10, .inl f0knownFrom)), (r0undoneFrom, .inl (cyI, 10, .inl f0undoneFrom)), (a3, .inr (3, [.int v3told, .ref r3newest, .ref r3older, .ref r3whose, .ref r3hourOf, .ref r3kind, .ref r3knownFrom, .ref r3tally, .ref r3hoursSeen])), (r3newest, .inl (cyI, 400, .inl f3newest)), (r3older, .inl (cyI, 400, .inl f3older)), (r3whose, .inl (cyI, 400, .inl f3whose)), (r3hourOf, .inl (cyI, 400, .inl f3hourOf)), (r3kind, .inl (cyI, 400, .inl f3kind)), (r3knownFrom, .inl (cyI, 400, .inl f3knownFrom)), (r3tally, .inl (cyI, 20, .inl u.1)), (r3hoursSeen, .inl (cyI, 20, .inl u.2))] t.heap ∧ va_D A [(a0, .inr (0, [.int v0made, .ref r0rules, .ref r0from, .ref r0knownFrom, .ref r0undoneFrom])), (r0rules, .inl (cyI, 143, .inl f0rules)), (r0from, .inl (cyI, 10, .inl f0from)), (r0knownFrom, .inl (cyI, 10, .inl f0knownFrom)), (r0undoneFrom, .inl (cyI, 10, .inl f0undoneFrom)), (a3, .inr (3, [.int v3told, .ref r3newest, .ref r3older, .ref r3whose, .ref r3hourOf, .ref r3kind, .ref r3knownFrom, .ref r3tally, .ref r3hoursSeen])), (r3newest, .inl (cyI, 400, .inl f3newest)), (r3older, .inl (cyI, 400, .inl f3older)), (r3whose, .inl (cyI, 400, .inl f3whose)), (r3hourOf, .inl (cyI, 400, .inl f3hourOf)), (r3kind, .inl (cyI, 400, .inl f3kind)), (r3knownFrom, .inl (cyI, 400, .inl f3knownFrom)), (r3tally, .inl (cyI, 20, .inl u.1)), (r3hoursSeen, .inl (cyI, 20, .inl u.2))]) A) ([.ref a3, .int p1, .int p2, .ref a0] : List Value).toArray s 0 0 A) (F0 m 38 ls []) := by
    intro k1 k2 k4 v0made f0rules f0from f0knownFrom f0undoneFrom f3newest f3older f3whose f3hourOf f3kind f3knownFrom K n
    induction n with
    | zero =>
      intro y5 y6 y7 f3tally f3hoursSeen H locs ls h
      exact (h : False).elim
    | succ n ih =>
      intro y5 y6 y7 f3tally f3hoursSeen H locs ls h hP hD hS hl kk
      rw [lp_X3_tallyUp_38] at h
      refine lv_iload hx hb dX3_tallyUp_38 (lv_at hl 7 rfl) ?_
      refine lv_sipush (v := 400) hx hb dX3_tallyUp_40 (by decide) ?_
      refine lv_icmp_ge (tgt := 133) hx hb dX3_tallyUp_43 (by decide) (fun c => ?_) (fun c => ?_)
      · replace h := h.1 c
        exact kk y5 y6 y7 f3tally f3hoursSeen H locs ls h hP hD hS (lv_sub hl [0, 1, 2, 3, 4, 5, 6, 7] rfl)
      · replace h := h.2 c
        refine lv_iload hx hb dX3_tallyUp_46 (lv_at hl 6 rfl) ?_
        refine lv_iconst (v := (-1)) hx hb dX3_tallyUp_48 (by decide) ?_
        refine lv_icmp_eq (tgt := 133) hx hb dX3_tallyUp_49 (by decide) (fun c => ?_) (fun c => ?_)
        · replace h := h.1 c
          exact kk y5 y6 y7 f3tally f3hoursSeen H locs ls h hP hD hS (lv_sub hl [0, 1, 2, 3, 4, 5, 6, 7] rfl)
        · replace h := h.2 c
          refine lv_aload_n hx hb dX3_tallyUp_52 rfl (lv_at hl 0 rfl) ?_
          refine va_get (D := (dC, dI)) (ci := 3) (v := .ref r3knownFrom) (C := RX3) (T := TX3) (N := 9) hx hb hts hiX3 hown hK hP 5 rfl rfl 6 (by decide) lk31 (fun _ h9 => h9) rfl dX3_tallyUp_53 ?_
          refine lv_iload hx hb dX3_tallyUp_56 (lv_at hl 6 rfl) ?_
          refine va_iald hx hb hK hP 11 0 rfl rfl h.1 dX3_tallyUp_58 ?_
          replace h := h.2
          refine lv_iload_n hx hb dX3_tallyUp_59 rfl (lv_at hl 2 rfl) ?_
          refine lv_icmp_gt (tgt := 118) hx hb dX3_tallyUp_60 (by decide) (fun c => ?_) (fun c => ?_)
          · replace h := h.1 c
            refine lv_aload_n hx hb dX3_tallyUp_118 rfl (lv_at hl 0 rfl) ?_
            refine va_get (D := (dC, dI)) (ci := 3) (v := .ref r3older) (C := RX3) (T := TX3) (N := 9) hx hb hts hiX3 hown hK hP 5 rfl rfl 2 (by decide) lk19 (fun _ h9 => h9) rfl dX3_tallyUp_119 ?_
            refine lv_iload hx hb dX3_tallyUp_122 (lv_at hl 6 rfl) ?_
            refine va_iald hx hb hK hP 7 0 rfl rfl h.1 dX3_tallyUp_124 ?_
            replace h := h.2
            refine lv_topi (fun x1 ex1 => ?_)
            replace h := h x1 ex1
            refine lv_istore (lv' := [(6, .int x1), (0, .ref a3), (1, .int k1), (2, .int k2), (3, .ref a0), (4, .int k4), (5, .int y5), (7, .int y7)]) hx hb dX3_tallyUp_125 hl (by decide) rfl (fun ls hl => ?_)
            obtain ⟨x2, ex2⟩ : ∃ y : Int32, y = y7 + 1 := ⟨_, rfl⟩
            replace h := h x2 ex2
            refine lv_iinc (v := x2) (lv' := [(7, .int x2), (6, .int x1), (0, .ref a3), (1, .int k1), (2, .int k2), (3, .ref a0), (4, .int k4), (5, .int y5)]) hx hb dX3_tallyUp_127 hl (k := 7) rfl (by rw [ex2]; rfl) (by decide) rfl (fun ls hl => ?_)
            refine lv_goto (tgt := 38) hx hb dX3_tallyUp_130 (by decide) ?_
            exact ih y5 x1 x2 f3tally f3hoursSeen H locs ls h hP hD hS (lv_sub hl [2, 3, 4, 5, 6, 7, 1, 0] rfl) kk
          · replace h := h.2 c
            refine lv_aload_n hx hb dX3_tallyUp_63 rfl (lv_at hl 0 rfl) ?_
            refine lv_iload hx hb dX3_tallyUp_64 (lv_at hl 6 rfl) ?_
            refine mc_i hP hD hS hA [5, 8, 9, 13] [0, 1, 2, 3, 4, 6, 7, 10, 11, 12] [0, 1, 2, 3, 4, 10, 5, 6, 11, 12, 7, 8, 9, 13] [(a0, .inr (0, [.int v0made, .ref r0rules, .ref r0from, .ref r0knownFrom, .ref r0undoneFrom])), (r0rules, .inl (cyI, 143, .inl f0rules)), (r0from, .inl (cyI, 10, .inl f0from)), (r0knownFrom, .inl (cyI, 10, .inl f0knownFrom)), (r0undoneFrom, .inl (cyI, 10, .inl f0undoneFrom)), (r3newest, .inl (cyI, 400, .inl f3newest)), (r3older, .inl (cyI, 400, .inl f3older)), (r3kind, .inl (cyI, 400, .inl f3kind)), (r3knownFrom, .inl (cyI, 400, .inl f3knownFrom)), (r3tally, .inl (cyI, 20, .inl f3tally))] (fun (u4 : (Nat → Int32)) => [(a0, .inr (0, [.int v0made, .ref r0rules, .ref r0from, .ref r0knownFrom, .ref r0undoneFrom])), (r0rules, .inl (cyI, 143, .inl f0rules)), (r0from, .inl (cyI, 10, .inl f0from)), (r0knownFrom, .inl (cyI, 10, .inl f0knownFrom)), (r0undoneFrom, .inl (cyI, 10, .inl f0undoneFrom)), (a3, .inr (3, [.int v3told, .ref r3newest, .ref r3older, .ref r3whose, .ref r3hourOf, .ref r3kind, .ref r3knownFrom, .ref r3tally, .ref r3hoursSeen])), (r3newest, .inl (cyI, 400, .inl f3newest)), (r3older, .inl (cyI, 400, .inl f3older)), (r3whose, .inl (cyI, 400, .inl f3whose)), (r3hourOf, .inl (cyI, 400, .inl f3hourOf)), (r3kind, .inl (cyI, 400, .inl f3kind)), (r3knownFrom, .inl (cyI, 400, .inl f3knownFrom)), (r3tally, .inl (cyI, 20, .inl f3tally)), (r3hoursSeen, .inl (cyI, 20, .inl u4))]) rfl rfl (by decide) (by decide) (by decide) (fun _ => rfl) (fun _ => rfl) (va_runV (As := [.int y6]) (rest := []) ⟨hx, hb, hml, hown, hts⟩ (c_X3_isFirstSeen l dC dI cyI cyZ cyB a3 r3newest r3older r3whose r3hourOf r3kind r3knownFrom r3tally r3hoursSeen H.size v3told f3whose f3hourOf f3hoursSeen y6 _ h) (cwV 1 hts gX3_tallyUp_X3_isFirstSeen rfl rfl rfl (by decide +kernel) ⟨Nat.le_of_ble_eq_true rfl, Nat.le_of_ble_eq_true rfl⟩) ⟨MPre_blind, va_recv hK hP (ci := 3) (q0 := 5) rfl rfl, MPre_here [5, 8, 9, 13] hP hD hK hN (by decide) rfl rfl⟩ rfl rfl hl.1 rfl (lv_room (Nat.le_of_ble_eq_true rfl)) dX3_tallyUp_66 ⟨Nat.zero_le _, Nat.zero_le _⟩) (fun r3 u4 H locs h hP hD hS => ?_)
            replace hP : va_P (dC, dI) vwCl [(a0, .inr (0, [.int v0made, .ref r0rules, .ref r0from, .ref r0knownFrom, .ref r0undoneFrom])), (r0rules, .inl (cyI, 143, .inl f0rules)), (r0from, .inl (cyI, 10, .inl f0from)), (r0knownFrom, .inl (cyI, 10, .inl f0knownFrom)), (r0undoneFrom, .inl (cyI, 10, .inl f0undoneFrom)), (a3, .inr (3, [.int v3told, .ref r3newest, .ref r3older, .ref r3whose, .ref r3hourOf, .ref r3kind, .ref r3knownFrom, .ref r3tally, .ref r3hoursSeen])), (r3newest, .inl (cyI, 400, .inl f3newest)), (r3older, .inl (cyI, 400, .inl f3older)), (r3whose, .inl (cyI, 400, .inl f3whose)), (r3hourOf, .inl (cyI, 400, .inl f3hourOf)), (r3kind, .inl (cyI, 400, .inl f3kind)), (r3knownFrom, .inl (cyI, 400, .inl f3knownFrom)), (r3tally, .inl (cyI, 20, .inl f3tally)), (r3hoursSeen, .inl (cyI, 20, .inl u4))] H := hP
            replace hD : va_D A [(a0, .inr (0, [.int v0made, .ref r0rules, .ref r0from, .ref r0knownFrom, .ref r0undoneFrom])), (r0rules, .inl (cyI, 143, .inl f0rules)), (r0from, .inl (cyI, 10, .inl f0from)), (r0knownFrom, .inl (cyI, 10, .inl f0knownFrom)), (r0undoneFrom, .inl (cyI, 10, .inl f0undoneFrom)), (a3, .inr (3, [.int v3told, .ref r3newest, .ref r3older, .ref r3whose, .ref r3hourOf, .ref r3kind, .ref r3knownFrom, .ref r3tally, .ref r3hoursSeen])), (r3newest, .inl (cyI, 400, .inl f3newest)), (r3older, .inl (cyI, 400, .inl f3older)), (r3whose, .inl (cyI, 400, .inl f3whose)), (r3hourOf, .inl (cyI, 400, .inl f3hourOf)), (r3kind, .inl (cyI, 400, .inl f3kind)), (r3knownFrom, .inl (cyI, 400, .inl f3knownFrom)), (r3tally, .inl (cyI, 20, .inl f3tally)), (r3hoursSeen, .inl (cyI, 20, .inl u4))] := hD
            refine lv_if_eq (tgt := 118) hx hb dX3_tallyUp_69 (by decide) (fun c => ?_) (fun c => ?_)
            · replace h := h.1 c
              refine lv_aload_n hx hb dX3_tallyUp_118 rfl (lv_at hl 0 rfl) ?_
              refine va_get (D := (dC, dI)) (ci := 3) (v := .ref r3older) (C := RX3) (T := TX3) (N := 9) hx hb hts hiX3 hown hK hP 5 rfl rfl 2 (by decide) lk19 (fun _ h9 => h9) rfl dX3_tallyUp_119 ?_
              refine lv_iload hx hb dX3_tallyUp_122 (lv_at hl 6 rfl) ?_
              refine va_iald hx hb hK hP 7 0 rfl rfl h.1 dX3_tallyUp_124 ?_
              replace h := h.2
              refine lv_topi (fun x5 ex5 => ?_)
              replace h := h x5 ex5
              refine lv_istore (lv' := [(6, .int x5), (0, .ref a3), (1, .int k1), (2, .int k2), (3, .ref a0), (4, .int k4), (5, .int y5), (7, .int y7)]) hx hb dX3_tallyUp_125 hl (by decide) rfl (fun ls hl => ?_)
              obtain ⟨x6, ex6⟩ : ∃ y : Int32, y = y7 + 1 := ⟨_, rfl⟩
              replace h := h x6 ex6
              refine lv_iinc (v := x6) (lv' := [(7, .int x6), (6, .int x5), (0, .ref a3), (1, .int k1), (2, .int k2), (3, .ref a0), (4, .int k4), (5, .int y5)]) hx hb dX3_tallyUp_127 hl (k := 7) rfl (by rw [ex6]; rfl) (by decide) rfl (fun ls hl => ?_)
              refine lv_goto (tgt := 38) hx hb dX3_tallyUp_130 (by decide) ?_
              exact ih y5 x5 x6 f3tally u4 H locs ls h hP hD hS (lv_sub hl [2, 3, 4, 5, 6, 7, 1, 0] rfl) kk
            · replace h := h.2 c
              refine lv_aload_n hx hb dX3_tallyUp_72 rfl (lv_at hl 3 rfl) ?_
              refine lv_iload hx hb dX3_tallyUp_73 (lv_at hl 4 rfl) ?_
              refine lv_aload_n hx hb dX3_tallyUp_75 rfl (lv_at hl 0 rfl) ?_
              refine va_get (D := (dC, dI)) (ci := 3) (v := .ref r3hourOf) (C := RX3) (T := TX3) (N := 9) hx hb hts hiX3 hown hK hP 5 rfl rfl 4 (by decide) lk25 (fun _ h9 => h9) rfl dX3_tallyUp_76 ?_
              refine lv_iload hx hb dX3_tallyUp_79 (lv_at hl 6 rfl) ?_
              refine va_iald hx hb hK hP 9 0 rfl rfl h.1 dX3_tallyUp_81 ?_
              replace h := h.2
              refine lv_aload_n hx hb dX3_tallyUp_82 rfl (lv_at hl 0 rfl) ?_
              refine va_get (D := (dC, dI)) (ci := 3) (v := .ref r3kind) (C := RX3) (T := TX3) (N := 9) hx hb hts hiX3 hown hK hP 5 rfl rfl 5 (by decide) lk28 (fun _ h9 => h9) rfl dX3_tallyUp_83 ?_
              refine lv_iload hx hb dX3_tallyUp_86 (lv_at hl 6 rfl) ?_
              refine va_iald hx hb hK hP 10 0 rfl rfl h.1 dX3_tallyUp_88 ?_
              replace h := h.2
              refine mc_i hP hD hS hA [0, 1] [2, 3, 4, 5, 6, 7, 8, 9, 10, 11, 12, 13] [12, 13, 0, 1, 2, 3, 4, 5, 6, 7, 8, 9, 10, 11] [(r0from, .inl (cyI, 10, .inl f0from)), (r0knownFrom, .inl (cyI, 10, .inl f0knownFrom)), (r0undoneFrom, .inl (cyI, 10, .inl f0undoneFrom)), (a3, .inr (3, [.int v3told, .ref r3newest, .ref r3older, .ref r3whose, .ref r3hourOf, .ref r3kind, .ref r3knownFrom, .ref r3tally, .ref r3hoursSeen])), (r3newest, .inl (cyI, 400, .inl f3newest)), (r3older, .inl (cyI, 400, .inl f3older)), (r3whose, .inl (cyI, 400, .inl f3whose)), (r3hourOf, .inl (cyI, 400, .inl f3hourOf)), (r3kind, .inl (cyI, 400, .inl f3kind)), (r3knownFrom, .inl (cyI, 400, .inl f3knownFrom)), (r3tally, .inl (cyI, 20, .inl f3tally)), (r3hoursSeen, .inl (cyI, 20, .inl u4))] (fun (u8 : Unit) => [(a0, .inr (0, [.int v0made, .ref r0rules, .ref r0from, .ref r0knownFrom, .ref r0undoneFrom])), (r0rules, .inl (cyI, 143, .inl f0rules)), (r0from, .inl (cyI, 10, .inl f0from)), (r0knownFrom, .inl (cyI, 10, .inl f0knownFrom)), (r0undoneFrom, .inl (cyI, 10, .inl f0undoneFrom)), (a3, .inr (3, [.int v3told, .ref r3newest, .ref r3older, .ref r3whose, .ref r3hourOf, .ref r3kind, .ref r3knownFrom, .ref r3tally, .ref r3hoursSeen])), (r3newest, .inl (cyI, 400, .inl f3newest)), (r3older, .inl (cyI, 400, .inl f3older)), (r3whose, .inl (cyI, 400, .inl f3whose)), (r3hourOf, .inl (cyI, 400, .inl f3hourOf)), (r3kind, .inl (cyI, 400, .inl f3kind)), (r3knownFrom, .inl (cyI, 400, .inl f3knownFrom)), (r3tally, .inl (cyI, 20, .inl f3tally)), (r3hoursSeen, .inl (cyI, 20, .inl u4))]) rfl rfl (by decide) (by decide) (by decide) (fun _ => rfl) (fun _ => rfl) (va_runVN (C := RX0) (host := "StallBook") (As := [.int k4, .int (f3hourOf y6.toNatClampNeg), .int (f3kind y6.toNatClampNeg)]) (rest := []) ⟨hx, hb, hml, hown, hts⟩ (c_X0_pointsFor l dC dI cyI cyZ cyB a0 r0rules r0from r0knownFrom r0undoneFrom H.size v0made f0rules k4 (f3hourOf y6.toNatClampNeg) (f3kind y6.toNatClampNeg) _ h) ⟨va_cnB 3 hts ggX3_tallyUp_X0_pointsFor rfl rfl rfl (hN.2 (RX3, 56, yX0_pointsFor) (by decide +kernel)) (hts (.initialized RX0) (by decide +kernel)) (by decide +kernel) ⟨Nat.le_of_ble_eq_true rfl, Nat.le_of_ble_eq_true rfl⟩, hts (.instanceMethod yX0_pointsFor) (by decide +kernel), hts (.selects RX0 yX0_pointsFor yX0_pointsFor) (by decide +kernel)⟩ ⟨MPre_blind, va_recv hK hP (ci := 0) (q0 := 0) rfl rfl, MPre_here [0, 1] hP hD hK hN (by decide) rfl rfl⟩ rfl rfl hl.1 rfl (lv_room (Nat.le_of_ble_eq_true rfl)) dX3_tallyUp_89 ⟨Nat.zero_le _, Nat.zero_le _⟩) (fun r7 u8 H locs h hP hD hS => ?_)
              replace hP : va_P (dC, dI) vwCl [(a0, .inr (0, [.int v0made, .ref r0rules, .ref r0from, .ref r0knownFrom, .ref r0undoneFrom])), (r0rules, .inl (cyI, 143, .inl f0rules)), (r0from, .inl (cyI, 10, .inl f0from)), (r0knownFrom, .inl (cyI, 10, .inl f0knownFrom)), (r0undoneFrom, .inl (cyI, 10, .inl f0undoneFrom)), (a3, .inr (3, [.int v3told, .ref r3newest, .ref r3older, .ref r3whose, .ref r3hourOf, .ref r3kind, .ref r3knownFrom, .ref r3tally, .ref r3hoursSeen])), (r3newest, .inl (cyI, 400, .inl f3newest)), (r3older, .inl (cyI, 400, .inl f3older)), (r3whose, .inl (cyI, 400, .inl f3whose)), (r3hourOf, .inl (cyI, 400, .inl f3hourOf)), (r3kind, .inl (cyI, 400, .inl f3kind)), (r3knownFrom, .inl (cyI, 400, .inl f3knownFrom)), (r3tally, .inl (cyI, 20, .inl f3tally)), (r3hoursSeen, .inl (cyI, 20, .inl u4))] H := hP
              replace hD : va_D A [(a0, .inr (0, [.int v0made, .ref r0rules, .ref r0from, .ref r0knownFrom, .ref r0undoneFrom])), (r0rules, .inl (cyI, 143, .inl f0rules)), (r0from, .inl (cyI, 10, .inl f0from)), (r0knownFrom, .inl (cyI, 10, .inl f0knownFrom)), (r0undoneFrom, .inl (cyI, 10, .inl f0undoneFrom)), (a3, .inr (3, [.int v3told, .ref r3newest, .ref r3older, .ref r3whose, .ref r3hourOf, .ref r3kind, .ref r3knownFrom, .ref r3tally, .ref r3hoursSeen])), (r3newest, .inl (cyI, 400, .inl f3newest)), (r3older, .inl (cyI, 400, .inl f3older)), (r3whose, .inl (cyI, 400, .inl f3whose)), (r3hourOf, .inl (cyI, 400, .inl f3hourOf)), (r3kind, .inl (cyI, 400, .inl f3kind)), (r3knownFrom, .inl (cyI, 400, .inl f3knownFrom)), (r3tally, .inl (cyI, 20, .inl f3tally)), (r3hoursSeen, .inl (cyI, 20, .inl u4))] := hD
              refine lv_istore (lv' := [(8, .int r7), (0, .ref a3), (1, .int k1), (2, .int k2), (3, .ref a0), (4, .int k4), (5, .int y5), (6, .int y6), (7, .int y7)]) hx hb dX3_tallyUp_92 hl (by decide) rfl (fun ls hl => ?_)
              refine lv_aload_n hx hb dX3_tallyUp_94 rfl (lv_at hl 1 rfl) ?_
              refine va_get (D := (dC, dI)) (ci := 3) (v := .ref r3tally) (C := RX3) (T := TX3) (N := 9) hx hb hts hiX3 hown hK hP 5 rfl rfl 7 (by decide) lk34 (fun _ h9 => h9) rfl dX3_tallyUp_95 ?_
              refine lv_aload_n hx hb dX3_tallyUp_98 rfl (lv_at hl 1 rfl) ?_
              refine va_get (D := (dC, dI)) (ci := 3) (v := .ref r3whose) (C := RX3) (T := TX3) (N := 9) hx hb hts hiX3 hown hK hP 5 rfl rfl 3 (by decide) lk22 (fun _ h9 => h9) rfl dX3_tallyUp_99 ?_
              refine lv_iload hx hb dX3_tallyUp_102 (lv_at hl 7 rfl) ?_
              refine va_iald hx hb hK hP 8 0 rfl rfl h.1 dX3_tallyUp_104 ?_
              replace h := h.2
              refine lv_dup2_11 hx hb dX3_tallyUp_105 rfl rfl ?_
              refine va_iald hx hb hK hP 12 0 rfl rfl h.1 dX3_tallyUp_106 ?_
              replace h := h.2
              refine lv_iload hx hb dX3_tallyUp_107 (lv_at hl 0 rfl) ?_
              refine lv_iadd hx hb dX3_tallyUp_109 ?_
              refine va_iast hx hb hK hP hD hS 12 0 rfl rfl h.1 dX3_tallyUp_110 (fun H locs hP hD hS => ?_)
              replace h := h.2
              replace hP : va_P (dC, dI) vwCl [(a0, .inr (0, [.int v0made, .ref r0rules, .ref r0from, .ref r0knownFrom, .ref r0undoneFrom])), (r0rules, .inl (cyI, 143, .inl f0rules)), (r0from, .inl (cyI, 10, .inl f0from)), (r0knownFrom, .inl (cyI, 10, .inl f0knownFrom)), (r0undoneFrom, .inl (cyI, 10, .inl f0undoneFrom)), (a3, .inr (3, [.int v3told, .ref r3newest, .ref r3older, .ref r3whose, .ref r3hourOf, .ref r3kind, .ref r3knownFrom, .ref r3tally, .ref r3hoursSeen])), (r3newest, .inl (cyI, 400, .inl f3newest)), (r3older, .inl (cyI, 400, .inl f3older)), (r3whose, .inl (cyI, 400, .inl f3whose)), (r3hourOf, .inl (cyI, 400, .inl f3hourOf)), (r3kind, .inl (cyI, 400, .inl f3kind)), (r3knownFrom, .inl (cyI, 400, .inl f3knownFrom)), (r3tally, .inl (cyI, 20, .inl (upd f3tally (f3whose y6.toNatClampNeg).toNatClampNeg ((f3tally (f3whose y6.toNatClampNeg).toNatClampNeg) + r7)))), (r3hoursSeen, .inl (cyI, 20, .inl u4))] H := hP
              replace hD : va_D A [(a0, .inr (0, [.int v0made, .ref r0rules, .ref r0from, .ref r0knownFrom, .ref r0undoneFrom])), (r0rules, .inl (cyI, 143, .inl f0rules)), (r0from, .inl (cyI, 10, .inl f0from)), (r0knownFrom, .inl (cyI, 10, .inl f0knownFrom)), (r0undoneFrom, .inl (cyI, 10, .inl f0undoneFrom)), (a3, .inr (3, [.int v3told, .ref r3newest, .ref r3older, .ref r3whose, .ref r3hourOf, .ref r3kind, .ref r3knownFrom, .ref r3tally, .ref r3hoursSeen])), (r3newest, .inl (cyI, 400, .inl f3newest)), (r3older, .inl (cyI, 400, .inl f3older)), (r3whose, .inl (cyI, 400, .inl f3whose)), (r3hourOf, .inl (cyI, 400, .inl f3hourOf)), (r3kind, .inl (cyI, 400, .inl f3kind)), (r3knownFrom, .inl (cyI, 400, .inl f3knownFrom)), (r3tally, .inl (cyI, 20, .inl (upd f3tally (f3whose y6.toNatClampNeg).toNatClampNeg ((f3tally (f3whose y6.toNatClampNeg).toNatClampNeg) + r7)))), (r3hoursSeen, .inl (cyI, 20, .inl u4))] := hD
              refine lv_iload hx hb dX3_tallyUp_111 (lv_at hl 6 rfl) ?_
              refine lv_iload hx hb dX3_tallyUp_113 (lv_at hl 0 rfl) ?_
              refine lv_iadd hx hb dX3_tallyUp_115 ?_
              refine lv_topi (fun x9 ex9 => ?_)
              replace h := h x9 ex9
              refine lv_istore (lv' := [(5, .int x9), (8, .int r7), (0, .ref a3), (1, .int k1), (2, .int k2), (3, .ref a0), (4, .int k4), (6, .int y6), (7, .int y7)]) hx hb dX3_tallyUp_116 hl (by decide) rfl (fun ls hl => ?_)
              refine lv_aload_n hx hb dX3_tallyUp_118 rfl (lv_at hl 2 rfl) ?_
              refine va_get (D := (dC, dI)) (ci := 3) (v := .ref r3older) (C := RX3) (T := TX3) (N := 9) hx hb hts hiX3 hown hK hP 5 rfl rfl 2 (by decide) lk19 (fun _ h9 => h9) rfl dX3_tallyUp_119 ?_
              refine lv_iload hx hb dX3_tallyUp_122 (lv_at hl 7 rfl) ?_
              refine va_iald hx hb hK hP 7 0 rfl rfl h.1 dX3_tallyUp_124 ?_
              replace h := h.2
              refine lv_topi (fun x10 ex10 => ?_)
              replace h := h x10 ex10
              refine lv_istore (lv' := [(6, .int x10), (5, .int x9), (8, .int r7), (0, .ref a3), (1, .int k1), (2, .int k2), (3, .ref a0), (4, .int k4), (7, .int y7)]) hx hb dX3_tallyUp_125 hl (by decide) rfl (fun ls hl => ?_)
              obtain ⟨x11, ex11⟩ : ∃ y : Int32, y = y7 + 1 := ⟨_, rfl⟩
              replace h := h x11 ex11
              refine lv_iinc (v := x11) (lv' := [(7, .int x11), (6, .int x10), (5, .int x9), (8, .int r7), (0, .ref a3), (1, .int k1), (2, .int k2), (3, .ref a0), (4, .int k4)]) hx hb dX3_tallyUp_127 hl (k := 8) rfl (by rw [ex11]; rfl) (by decide) rfl (fun ls hl => ?_)
              refine lv_goto (tgt := 38) hx hb dX3_tallyUp_130 (by decide) ?_
              exact ih x9 x10 x11 (upd f3tally (f3whose y6.toNatClampNeg).toNatClampNeg ((f3tally (f3whose y6.toNatClampNeg).toNatClampNeg) + r7)) u4 H locs ls h hP hD hS (lv_sub hl [4, 5, 6, 7, 8, 2, 1, 0] rfl) kk
  delta wp_X3_tallyUp at h
  have hl := lv_entry [.ref a3, .int p1, .int p2, .ref a0] (n := 9) (Nat.le_of_ble_eq_true rfl)
  rw [lg_entry_eq]
  generalize (lg_sl [.ref a3, .int p1, .int p2, .ref a0] ++ List.replicate (9 - (lg_sl [.ref a3, .int p1, .int p2, .ref a0]).length) Slot.unset).toArray = ls at hl ⊢
  replace hl : lv_has ls 9 [(0, .ref a3), (1, .int p1), (2, .int p2), (3, .ref a0)] := hl
  refine lv_aload_n hx hb dX3_tallyUp_0 rfl (lv_at hl 0 rfl) ?_
  refine va_get (D := (dC, dI)) (ci := 3) (v := .ref r3tally) (C := RX3) (T := TX3) (N := 9) hx hb hts hiX3 hown hK hP 5 rfl rfl 7 (by decide) lk34 (fun _ h9 => h9) rfl dX3_tallyUp_1 ?_
  refine lv_iconst (v := 0) hx hb dX3_tallyUp_4 (by decide) ?_
  refine mc_v hP hD hS hA [12] [0, 1, 2, 3, 4, 5, 6, 7, 8, 9, 10, 11, 13] [0, 1, 2, 3, 4, 5, 6, 7, 8, 9, 10, 11, 13, 12] [(a0, .inr (0, [.int v0made, .ref r0rules, .ref r0from, .ref r0knownFrom, .ref r0undoneFrom])), (r0rules, .inl (cyI, 143, .inl f0rules)), (r0from, .inl (cyI, 10, .inl f0from)), (r0knownFrom, .inl (cyI, 10, .inl f0knownFrom)), (r0undoneFrom, .inl (cyI, 10, .inl f0undoneFrom)), (a3, .inr (3, [.int v3told, .ref r3newest, .ref r3older, .ref r3whose, .ref r3hourOf, .ref r3kind, .ref r3knownFrom, .ref r3tally, .ref r3hoursSeen])), (r3newest, .inl (cyI, 400, .inl f3newest)), (r3older, .inl (cyI, 400, .inl f3older)), (r3whose, .inl (cyI, 400, .inl f3whose)), (r3hourOf, .inl (cyI, 400, .inl f3hourOf)), (r3kind, .inl (cyI, 400, .inl f3kind)), (r3knownFrom, .inl (cyI, 400, .inl f3knownFrom)), (r3hoursSeen, .inl (cyI, 20, .inl f3hoursSeen))] (fun (u13 : (Nat → Int32)) => [(a0, .inr (0, [.int v0made, .ref r0rules, .ref r0from, .ref r0knownFrom, .ref r0undoneFrom])), (r0rules, .inl (cyI, 143, .inl f0rules)), (r0from, .inl (cyI, 10, .inl f0from)), (r0knownFrom, .inl (cyI, 10, .inl f0knownFrom)), (r0undoneFrom, .inl (cyI, 10, .inl f0undoneFrom)), (a3, .inr (3, [.int v3told, .ref r3newest, .ref r3older, .ref r3whose, .ref r3hourOf, .ref r3kind, .ref r3knownFrom, .ref r3tally, .ref r3hoursSeen])), (r3newest, .inl (cyI, 400, .inl f3newest)), (r3older, .inl (cyI, 400, .inl f3older)), (r3whose, .inl (cyI, 400, .inl f3whose)), (r3hourOf, .inl (cyI, 400, .inl f3hourOf)), (r3kind, .inl (cyI, 400, .inl f3kind)), (r3knownFrom, .inl (cyI, 400, .inl f3knownFrom)), (r3tally, .inl (cyI, 20, .inl u13)), (r3hoursSeen, .inl (cyI, 20, .inl f3hoursSeen))]) rfl rfl (by decide) (by decide) (by decide) (fun _ => rfl) (fun _ => rfl) (va_runS (As := [.ref r3tally, .int 0]) (rest := []) ⟨hx, hb, hml, hown, hts⟩ (c_J7_fill_53178 l dC dI cyI cyZ cyB r3tally 20 s.heap.size f3tally 0 _ h) (va_cwS 2 hts gX3_tallyUp_J7_fill_53178 rfl rfl rfl (by decide +kernel) ⟨Nat.le_of_ble_eq_true rfl, Nat.le_of_ble_eq_true rfl⟩) ⟨MPre_blind, MPre_here [12] hP hD hK hN (by decide) rfl rfl⟩ rfl rfl hl.1 rfl (lv_room (Nat.le_of_ble_eq_true rfl)) dX3_tallyUp_5 ⟨Nat.zero_le _, Nat.zero_le _⟩) (fun u13 H locs h hP hD hS => ?_)
  replace hP : va_P (dC, dI) vwCl [(a0, .inr (0, [.int v0made, .ref r0rules, .ref r0from, .ref r0knownFrom, .ref r0undoneFrom])), (r0rules, .inl (cyI, 143, .inl f0rules)), (r0from, .inl (cyI, 10, .inl f0from)), (r0knownFrom, .inl (cyI, 10, .inl f0knownFrom)), (r0undoneFrom, .inl (cyI, 10, .inl f0undoneFrom)), (a3, .inr (3, [.int v3told, .ref r3newest, .ref r3older, .ref r3whose, .ref r3hourOf, .ref r3kind, .ref r3knownFrom, .ref r3tally, .ref r3hoursSeen])), (r3newest, .inl (cyI, 400, .inl f3newest)), (r3older, .inl (cyI, 400, .inl f3older)), (r3whose, .inl (cyI, 400, .inl f3whose)), (r3hourOf, .inl (cyI, 400, .inl f3hourOf)), (r3kind, .inl (cyI, 400, .inl f3kind)), (r3knownFrom, .inl (cyI, 400, .inl f3knownFrom)), (r3tally, .inl (cyI, 20, .inl u13)), (r3hoursSeen, .inl (cyI, 20, .inl f3hoursSeen))] H := hP
  replace hD : va_D A [(a0, .inr (0, [.int v0made, .ref r0rules, .ref r0from, .ref r0knownFrom, .ref r0undoneFrom])), (r0rules, .inl (cyI, 143, .inl f0rules)), (r0from, .inl (cyI, 10, .inl f0from)), (r0knownFrom, .inl (cyI, 10, .inl f0knownFrom)), (r0undoneFrom, .inl (cyI, 10, .inl f0undoneFrom)), (a3, .inr (3, [.int v3told, .ref r3newest, .ref r3older, .ref r3whose, .ref r3hourOf, .ref r3kind, .ref r3knownFrom, .ref r3tally, .ref r3hoursSeen])), (r3newest, .inl (cyI, 400, .inl f3newest)), (r3older, .inl (cyI, 400, .inl f3older)), (r3whose, .inl (cyI, 400, .inl f3whose)), (r3hourOf, .inl (cyI, 400, .inl f3hourOf)), (r3kind, .inl (cyI, 400, .inl f3kind)), (r3knownFrom, .inl (cyI, 400, .inl f3knownFrom)), (r3tally, .inl (cyI, 20, .inl u13)), (r3hoursSeen, .inl (cyI, 20, .inl f3hoursSeen))] := hD
  refine lv_aload_n hx hb dX3_tallyUp_8 rfl (lv_at hl 0 rfl) ?_
  refine va_get (D := (dC, dI)) (ci := 3) (v := .ref r3hoursSeen) (C := RX3) (T := TX3) (N := 9) hx hb hts hiX3 hown hK hP 5 rfl rfl 8 (by decide) lk37 (fun _ h9 => h9) rfl dX3_tallyUp_9 ?_
  refine lv_iconst (v := 0) hx hb dX3_tallyUp_12 (by decide) ?_
  refine mc_v hP hD hS hA [13] [0, 1, 2, 3, 4, 5, 6, 7, 8, 9, 10, 11, 12] [0, 1, 2, 3, 4, 5, 6, 7, 8, 9, 10, 11, 12, 13] [(a0, .inr (0, [.int v0made, .ref r0rules, .ref r0from, .ref r0knownFrom, .ref r0undoneFrom])), (r0rules, .inl (cyI, 143, .inl f0rules)), (r0from, .inl (cyI, 10, .inl f0from)), (r0knownFrom, .inl (cyI, 10, .inl f0knownFrom)), (r0undoneFrom, .inl (cyI, 10, .inl f0undoneFrom)), (a3, .inr (3, [.int v3told, .ref r3newest, .ref r3older, .ref r3whose, .ref r3hourOf, .ref r3kind, .ref r3knownFrom, .ref r3tally, .ref r3hoursSeen])), (r3newest, .inl (cyI, 400, .inl f3newest)), (r3older, .inl (cyI, 400, .inl f3older)), (r3whose, .inl (cyI, 400, .inl f3whose)), (r3hourOf, .inl (cyI, 400, .inl f3hourOf)), (r3kind, .inl (cyI, 400, .inl f3kind)), (r3knownFrom, .inl (cyI, 400, .inl f3knownFrom)), (r3tally, .inl (cyI, 20, .inl u13))] (fun (u15 : (Nat → Int32)) => [(a0, .inr (0, [.int v0made, .ref r0rules, .ref r0from, .ref r0knownFrom, .ref r0undoneFrom])), (r0rules, .inl (cyI, 143, .inl f0rules)), (r0from, .inl (cyI, 10, .inl f0from)), (r0knownFrom, .inl (cyI, 10, .inl f0knownFrom)), (r0undoneFrom, .inl (cyI, 10, .inl f0undoneFrom)), (a3, .inr (3, [.int v3told, .ref r3newest, .ref r3older, .ref r3whose, .ref r3hourOf, .ref r3kind, .ref r3knownFrom, .ref r3tally, .ref r3hoursSeen])), (r3newest, .inl (cyI, 400, .inl f3newest)), (r3older, .inl (cyI, 400, .inl f3older)), (r3whose, .inl (cyI, 400, .inl f3whose)), (r3hourOf, .inl (cyI, 400, .inl f3hourOf)), (r3kind, .inl (cyI, 400, .inl f3kind)), (r3knownFrom, .inl (cyI, 400, .inl f3knownFrom)), (r3tally, .inl (cyI, 20, .inl u13)), (r3hoursSeen, .inl (cyI, 20, .inl u15))]) rfl rfl (by decide) (by decide) (by decide) (fun _ => rfl) (fun _ => rfl) (va_runS (As := [.ref r3hoursSeen, .int 0]) (rest := []) ⟨hx, hb, hml, hown, hts⟩ (c_J7_fill_53178 l dC dI cyI cyZ cyB r3hoursSeen 20 H.size f3hoursSeen 0 _ h) (va_cwS 2 hts gX3_tallyUp_J7_fill_53178 rfl rfl rfl (by decide +kernel) ⟨Nat.le_of_ble_eq_true rfl, Nat.le_of_ble_eq_true rfl⟩) ⟨MPre_blind, MPre_here [13] hP hD hK hN (by decide) rfl rfl⟩ rfl rfl hl.1 rfl (lv_room (Nat.le_of_ble_eq_true rfl)) dX3_tallyUp_13 ⟨Nat.zero_le _, Nat.zero_le _⟩) (fun u15 H locs h hP hD hS => ?_)
  replace hP : va_P (dC, dI) vwCl [(a0, .inr (0, [.int v0made, .ref r0rules, .ref r0from, .ref r0knownFrom, .ref r0undoneFrom])), (r0rules, .inl (cyI, 143, .inl f0rules)), (r0from, .inl (cyI, 10, .inl f0from)), (r0knownFrom, .inl (cyI, 10, .inl f0knownFrom)), (r0undoneFrom, .inl (cyI, 10, .inl f0undoneFrom)), (a3, .inr (3, [.int v3told, .ref r3newest, .ref r3older, .ref r3whose, .ref r3hourOf, .ref r3kind, .ref r3knownFrom, .ref r3tally, .ref r3hoursSeen])), (r3newest, .inl (cyI, 400, .inl f3newest)), (r3older, .inl (cyI, 400, .inl f3older)), (r3whose, .inl (cyI, 400, .inl f3whose)), (r3hourOf, .inl (cyI, 400, .inl f3hourOf)), (r3kind, .inl (cyI, 400, .inl f3kind)), (r3knownFrom, .inl (cyI, 400, .inl f3knownFrom)), (r3tally, .inl (cyI, 20, .inl u13)), (r3hoursSeen, .inl (cyI, 20, .inl u15))] H := hP
  replace hD : va_D A [(a0, .inr (0, [.int v0made, .ref r0rules, .ref r0from, .ref r0knownFrom, .ref r0undoneFrom])), (r0rules, .inl (cyI, 143, .inl f0rules)), (r0from, .inl (cyI, 10, .inl f0from)), (r0knownFrom, .inl (cyI, 10, .inl f0knownFrom)), (r0undoneFrom, .inl (cyI, 10, .inl f0undoneFrom)), (a3, .inr (3, [.int v3told, .ref r3newest, .ref r3older, .ref r3whose, .ref r3hourOf, .ref r3kind, .ref r3knownFrom, .ref r3tally, .ref r3hoursSeen])), (r3newest, .inl (cyI, 400, .inl f3newest)), (r3older, .inl (cyI, 400, .inl f3older)), (r3whose, .inl (cyI, 400, .inl f3whose)), (r3hourOf, .inl (cyI, 400, .inl f3hourOf)), (r3kind, .inl (cyI, 400, .inl f3kind)), (r3knownFrom, .inl (cyI, 400, .inl f3knownFrom)), (r3tally, .inl (cyI, 20, .inl u13)), (r3hoursSeen, .inl (cyI, 20, .inl u15))] := hD
  refine lv_aload_n hx hb dX3_tallyUp_16 rfl (lv_at hl 3 rfl) ?_
  refine lv_iload_n hx hb dX3_tallyUp_17 rfl (lv_at hl 1 rfl) ?_
  refine lv_iload_n hx hb dX3_tallyUp_18 rfl (lv_at hl 2 rfl) ?_
  refine mc_i hP hD hS hA [0, 2, 3, 4] [1, 5, 6, 7, 8, 9, 10, 11, 12, 13] [10, 0, 11, 12, 13, 1, 2, 3, 4, 5, 6, 7, 8, 9] [(r0rules, .inl (cyI, 143, .inl f0rules)), (a3, .inr (3, [.int v3told, .ref r3newest, .ref r3older, .ref r3whose, .ref r3hourOf, .ref r3kind, .ref r3knownFrom, .ref r3tally, .ref r3hoursSeen])), (r3newest, .inl (cyI, 400, .inl f3newest)), (r3older, .inl (cyI, 400, .inl f3older)), (r3whose, .inl (cyI, 400, .inl f3whose)), (r3hourOf, .inl (cyI, 400, .inl f3hourOf)), (r3kind, .inl (cyI, 400, .inl f3kind)), (r3knownFrom, .inl (cyI, 400, .inl f3knownFrom)), (r3tally, .inl (cyI, 20, .inl u13)), (r3hoursSeen, .inl (cyI, 20, .inl u15))] (fun (u17 : Unit) => [(a0, .inr (0, [.int v0made, .ref r0rules, .ref r0from, .ref r0knownFrom, .ref r0undoneFrom])), (r0rules, .inl (cyI, 143, .inl f0rules)), (r0from, .inl (cyI, 10, .inl f0from)), (r0knownFrom, .inl (cyI, 10, .inl f0knownFrom)), (r0undoneFrom, .inl (cyI, 10, .inl f0undoneFrom)), (a3, .inr (3, [.int v3told, .ref r3newest, .ref r3older, .ref r3whose, .ref r3hourOf, .ref r3kind, .ref r3knownFrom, .ref r3tally, .ref r3hoursSeen])), (r3newest, .inl (cyI, 400, .inl f3newest)), (r3older, .inl (cyI, 400, .inl f3older)), (r3whose, .inl (cyI, 400, .inl f3whose)), (r3hourOf, .inl (cyI, 400, .inl f3hourOf)), (r3kind, .inl (cyI, 400, .inl f3kind)), (r3knownFrom, .inl (cyI, 400, .inl f3knownFrom)), (r3tally, .inl (cyI, 20, .inl u13)), (r3hoursSeen, .inl (cyI, 20, .inl u15))]) rfl rfl (by decide) (by decide) (by decide) (fun _ => rfl) (fun _ => rfl) (va_runVN (C := RX0) (host := "StallBook") (As := [.int p1, .int p2]) (rest := []) ⟨hx, hb, hml, hown, hts⟩ (c_X0_inForce l dC dI cyI cyZ cyB a0 r0rules r0from r0knownFrom r0undoneFrom H.size v0made f0from f0knownFrom f0undoneFrom p1 p2 _ h) ⟨va_cnB 2 hts ggX3_tallyUp_X0_inForce rfl rfl rfl (hN.2 (RX3, 46, yX0_inForce) (by decide +kernel)) (hts (.initialized RX0) (by decide +kernel)) (by decide +kernel) ⟨Nat.le_of_ble_eq_true rfl, Nat.le_of_ble_eq_true rfl⟩, hts (.instanceMethod yX0_inForce) (by decide +kernel), hts (.selects RX0 yX0_inForce yX0_inForce) (by decide +kernel)⟩ ⟨MPre_blind, va_recv hK hP (ci := 0) (q0 := 0) rfl rfl, MPre_here [0, 2, 3, 4] hP hD hK hN (by decide) rfl rfl⟩ rfl rfl hl.1 rfl (lv_room (Nat.le_of_ble_eq_true rfl)) dX3_tallyUp_19 ⟨Nat.zero_le _, Nat.zero_le _⟩) (fun r16 u17 H locs h hP hD hS => ?_)
  replace hP : va_P (dC, dI) vwCl [(a0, .inr (0, [.int v0made, .ref r0rules, .ref r0from, .ref r0knownFrom, .ref r0undoneFrom])), (r0rules, .inl (cyI, 143, .inl f0rules)), (r0from, .inl (cyI, 10, .inl f0from)), (r0knownFrom, .inl (cyI, 10, .inl f0knownFrom)), (r0undoneFrom, .inl (cyI, 10, .inl f0undoneFrom)), (a3, .inr (3, [.int v3told, .ref r3newest, .ref r3older, .ref r3whose, .ref r3hourOf, .ref r3kind, .ref r3knownFrom, .ref r3tally, .ref r3hoursSeen])), (r3newest, .inl (cyI, 400, .inl f3newest)), (r3older, .inl (cyI, 400, .inl f3older)), (r3whose, .inl (cyI, 400, .inl f3whose)), (r3hourOf, .inl (cyI, 400, .inl f3hourOf)), (r3kind, .inl (cyI, 400, .inl f3kind)), (r3knownFrom, .inl (cyI, 400, .inl f3knownFrom)), (r3tally, .inl (cyI, 20, .inl u13)), (r3hoursSeen, .inl (cyI, 20, .inl u15))] H := hP
  replace hD : va_D A [(a0, .inr (0, [.int v0made, .ref r0rules, .ref r0from, .ref r0knownFrom, .ref r0undoneFrom])), (r0rules, .inl (cyI, 143, .inl f0rules)), (r0from, .inl (cyI, 10, .inl f0from)), (r0knownFrom, .inl (cyI, 10, .inl f0knownFrom)), (r0undoneFrom, .inl (cyI, 10, .inl f0undoneFrom)), (a3, .inr (3, [.int v3told, .ref r3newest, .ref r3older, .ref r3whose, .ref r3hourOf, .ref r3kind, .ref r3knownFrom, .ref r3tally, .ref r3hoursSeen])), (r3newest, .inl (cyI, 400, .inl f3newest)), (r3older, .inl (cyI, 400, .inl f3older)), (r3whose, .inl (cyI, 400, .inl f3whose)), (r3hourOf, .inl (cyI, 400, .inl f3hourOf)), (r3kind, .inl (cyI, 400, .inl f3kind)), (r3knownFrom, .inl (cyI, 400, .inl f3knownFrom)), (r3tally, .inl (cyI, 20, .inl u13)), (r3hoursSeen, .inl (cyI, 20, .inl u15))] := hD
  refine lv_istore (lv' := [(4, .int r16), (0, .ref a3), (1, .int p1), (2, .int p2), (3, .ref a0)]) hx hb dX3_tallyUp_22 hl (by decide) rfl (fun ls hl => ?_)
  refine lv_iconst (v := 0) hx hb dX3_tallyUp_24 (by decide) ?_
  refine lv_istore (lv' := [(5, .int 0), (4, .int r16), (0, .ref a3), (1, .int p1), (2, .int p2), (3, .ref a0)]) hx hb dX3_tallyUp_25 hl (by decide) rfl (fun ls hl => ?_)
  refine lv_aload_n hx hb dX3_tallyUp_27 rfl (lv_at hl 2 rfl) ?_
  refine va_get (D := (dC, dI)) (ci := 3) (v := .ref r3newest) (C := RX3) (T := TX3) (N := 9) hx hb hts hiX3 hown hK hP 5 rfl rfl 1 (by decide) lk15 (fun _ h9 => h9) rfl dX3_tallyUp_28 ?_
  refine lv_iload_n hx hb dX3_tallyUp_31 rfl (lv_at hl 3 rfl) ?_
  refine va_iald hx hb hK hP 6 0 rfl rfl h.1 dX3_tallyUp_32 ?_
  replace h := h.2
  refine lv_topi (fun x18 ex18 => ?_)
  replace h := h x18 ex18
  refine lv_istore (lv' := [(6, .int x18), (5, .int 0), (4, .int r16), (0, .ref a3), (1, .int p1), (2, .int p2), (3, .ref a0)]) hx hb dX3_tallyUp_33 hl (by decide) rfl (fun ls hl => ?_)
  refine lv_iconst (v := 0) hx hb dX3_tallyUp_35 (by decide) ?_
  refine lv_istore (lv' := [(7, .int 0), (6, .int x18), (5, .int 0), (4, .int r16), (0, .ref a3), (1, .int p1), (2, .int p2), (3, .ref a0)]) hx hb dX3_tallyUp_36 hl (by decide) rfl (fun ls hl => ?_)
  obtain ⟨n24, h⟩ := h
  refine L38 p1 p2 r16 v0made f0rules f0from f0knownFrom f0undoneFrom f3newest f3older f3whose f3hourOf f3kind f3knownFrom _ n24 0 x18 0 u13 u15 H locs ls h hP hD hS (lv_sub hl [4, 5, 6, 7, 3, 2, 1, 0] rfl) (fun x19 x20 x21 g22 g23 H locs ls h hP hD hS hl => ?_)
  refine lv_iload hx hb dX3_tallyUp_133 (lv_at hl 5 rfl) ?_
  exact W.iret (v := x19) hx hb hr (fun t ht hW => ⟨⟨x19, (g22, g23), rfl, h, by rw [ht]; exact hP, hD⟩, hS.F ht⟩) hS.2.2 dX3_tallyUp_135
