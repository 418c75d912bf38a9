set_option maxHeartbeats 16000000 in
set_option maxRecDepth 100000 in
theorem c_X2_init (l : Launch) (dC : Nat → ClassId) (dI : Nat → Nat → Nat) (cyI cyZ cyB : ClassId) (a2 : Nat)  (sz : Nat) : Met l yX2_init wsX2_init ({ frames := 1, cells := 8, slots := 340, locals := 12 } : Room) (MPre (dC, dI) [(cyI, .int), (cyZ, .boolean), (cyB, .byte)] [.ref a2] sz [(a2, .inr (2, [.int 0, .int 0, .int 0, .null, .null, .null, .null, .null, .int 0, .null, .null, .null]))]) (va_Qv (fun (u : Nat × Nat × Nat × Nat × Nat × Nat × Nat × Nat) => True) (fun (u : Nat × Nat × Nat × Nat × Nat × Nat × Nat × Nat) (t : State) => va_P (dC, dI) vwCl [(a2, .inr (2, [.int 0, .int 0, .int 0, .ref u.1, .ref u.2.1, .ref u.2.2.1, .ref u.2.2.2.1, .ref u.2.2.2.2.1, .int 0, .ref u.2.2.2.2.2.1, .ref u.2.2.2.2.2.2.1, .ref u.2.2.2.2.2.2.2])), (u.1, .inl (cyZ, 20, .inl (fun _ => 0))), (u.2.1, .inl (cyI, 20, .inl (fun _ => 0))), (u.2.2.1, .inl (cyI, 12, .inl (fun _ => 0))), (u.2.2.2.1, .inl (cyI, 12, .inl (fun _ => 0))), (u.2.2.2.2.1, .inl (cyZ, 240, .inl (fun _ => 0))), (u.2.2.2.2.2.1, .inl (cyI, 12, .inl (fun _ => 0))), (u.2.2.2.2.2.2.1, .inl (cyI, 12, .inl (fun _ => 0))), (u.2.2.2.2.2.2.2, .inl (cyI, 12, .inl (fun _ => 0)))] t.heap ∧ va_D (va_A [(a2, .inr (2, [.int 0, .int 0, .int 0, .null, .null, .null, .null, .null, .int 0, .null, .null, .null]))] sz) [(a2, .inr (2, [.int 0, .int 0, .int 0, .ref u.1, .ref u.2.1, .ref u.2.2.1, .ref u.2.2.2.1, .ref u.2.2.2.2.1, .int 0, .ref u.2.2.2.2.2.1, .ref u.2.2.2.2.2.2.1, .ref u.2.2.2.2.2.2.2])), (u.1, .inl (cyZ, 20, .inl (fun _ => 0))), (u.2.1, .inl (cyI, 20, .inl (fun _ => 0))), (u.2.2.1, .inl (cyI, 12, .inl (fun _ => 0))), (u.2.2.2.1, .inl (cyI, 12, .inl (fun _ => 0))), (u.2.2.2.2.1, .inl (cyZ, 240, .inl (fun _ => 0))), (u.2.2.2.2.2.1, .inl (cyI, 12, .inl (fun _ => 0))), (u.2.2.2.2.2.2.1, .inl (cyI, 12, .inl (fun _ => 0))), (u.2.2.2.2.2.2.2, .inl (cyI, 12, .inl (fun _ => 0)))]) (va_A [(a2, .inr (2, [.int 0, .int 0, .int 0, .null, .null, .null, .null, .null, .int 0, .null, .null, .null]))] sz)) 8 340 (va_A [(a2, .inr (2, [.int 0, .int 0, .int 0, .null, .null, .null, .null, .null, .int 0, .null, .null, .null]))] sz) := by
  refine Met.ofW (cc := cX2_init) (maxL := 1) (ret := none) (by decide) rfl ?_
  intro p e s m args below meth c s₁ B hml hv
  obtain ⟨rfl, hsz, hP, hK, hD0, hN⟩ := hv
  have hx := B.exec
  have hb := B.bytes
  have hr := B.returns
  have hts := atoms_spec (ws := wsX2_init) B.pre
  have hown : s.vm.findClass RX2 = some m.cls := findClass_of_methodNamed B.named
  have hlocks := B.notSynchronized
  have hin : meth.name = "<init>" := (name_of_methodNamed B.named B.method).1
  subst hsz
  have hD := hD0.self (sz := s.heap.size)
  generalize hAe : va_A [(a2, .inr (2, [.int 0, .int 0, .int 0, .null, .null, .null, .null, .null, .int 0, .null, .null, .null]))] s.heap.size = A at hD ⊢
  have hA : ∀ q : Nat, s.heap.size ≤ q → A q := fun q h => by rw [← hAe]; exact Or.inr h
  have hS : va_S A s.heap s.heap [] := va_S.rf
  have hiX2 : ∀ w ∈ u_ws RX2 TX2 12, w ∈ wsX2_init := by decide +kernel
  have lk9 := hts (.fieldLink RX2 9 "StallBook$Chapter" "canons" "I") (by decide +kernel)
  have lk15 := hts (.fieldLink RX2 15 "StallBook$Chapter" "present" "I") (by decide +kernel)
  have lk18 := hts (.fieldLink RX2 18 "StallBook$Chapter" "stalls" "I") (by decide +kernel)
  have lk21 := hts (.fieldLink RX2 21 "StallBook$Chapter" "there" "[Z") (by decide +kernel)
  have lk25 := hts (.fieldLink RX2 25 "StallBook$Chapter" "stallOf" "[I") (by decide +kernel)
  have lk29 := hts (.fieldLink RX2 29 "StallBook$Chapter" "worth" "[I") (by decide +kernel)
  have lk32 := hts (.fieldLink RX2 32 "StallBook$Chapter" "holder" "[I") (by decide +kernel)
  have lk35 := hts (.fieldLink RX2 35 "StallBook$Chapter" "wishes" "[Z") (by decide +kernel)
  have lk38 := hts (.fieldLink RX2 38 "StallBook$Chapter" "moves" "I") (by decide +kernel)
  have lk41 := hts (.fieldLink RX2 41 "StallBook$Chapter" "mover" "[I") (by decide +kernel)
  have lk44 := hts (.fieldLink RX2 44 "StallBook$Chapter" "movedFrom" "[I") (by decide +kernel)
  have lk47 := hts (.fieldLink RX2 47 "StallBook$Chapter" "movedTo" "[I") (by decide +kernel)
  have hl := lv_entry [.ref a2] (n := 1) (Nat.le_of_ble_eq_true rfl)
  rw [lg_entry_eq]
  generalize (lg_sl [.ref a2] ++ List.replicate (1 - (lg_sl [.ref a2]).length) Slot.unset).toArray = ls at hl ⊢
  replace hl : lv_has ls 1 [(0, .ref a2)] := hl
  refine lv_aload_n hx hb dX2_init_0 rfl (lv_at hl 0 rfl) ?_
  refine W.objInit hx hb hown (hts (.methodLink RX2 3 objectInit) (by decide +kernel)) (hts (.instanceMethod objectInit) (by decide +kernel)) (hts (.code objectInit ⟨#[0xb1]⟩ 1 none) (List.mem_of_getElem? (i := 3) rfl)) rfl (by rw [hml]; exact hl.1) rfl dX2_init_1 (Nat.le_of_ble_eq_true rfl) (Nat.le_of_ble_eq_true rfl) ?_
  refine W.eq (g2 := F0 m 4 ls []) rfl ?_
  refine lv_aload_n hx hb dX2_init_4 rfl (lv_at hl 0 rfl) ?_
  refine lv_iconst (v := 0) hx hb dX2_init_5 (by decide) ?_
  refine va_put (D := (dC, dI)) (ci := 2) (v := .int 0) (ty := .int) (C := RX2) (T := TX2) (N := 12) hx hb hts hiX2 tyX2 tyX2_ok nmX2 hown hK hP hD hS 0 rfl rfl 0 (by decide) lk9 (fun _ h9 => h9) rfl (by decide +kernel) rfl rfl (Nat.le_of_ble_eq_true rfl) dX2_init_6 (fun H locs hP hD hS => ?_)
  replace hP : va_P (dC, dI) vwCl [(a2, .inr (2, [.int 0, .int 0, .int 0, .null, .null, .null, .null, .null, .int 0, .null, .null, .null]))] H := hP
  replace hD : va_D A [(a2, .inr (2, [.int 0, .int 0, .int 0, .null, .null, .null, .null, .null, .int 0, .null, .null, .null]))] := hD
  refine lv_aload_n hx hb dX2_init_9 rfl (lv_at hl 0 rfl) ?_
  refine lv_iconst (v := 0) hx hb dX2_init_10 (by decide) ?_
  refine va_put (D := (dC, dI)) (ci := 2) (v := .int 0) (ty := .int) (C := RX2) (T := TX2) (N := 12) hx hb hts hiX2 tyX2 tyX2_ok nmX2 hown hK hP hD hS 0 rfl rfl 1 (by decide) lk15 (fun _ h9 => h9) rfl (by decide +kernel) rfl rfl (Nat.le_of_ble_eq_true rfl) dX2_init_11 (fun H locs hP hD hS => ?_)
  replace hP : va_P (dC, dI) vwCl [(a2, .inr (2, [.int 0, .int 0, .int 0, .null, .null, .null, .null, .null, .int 0, .null, .null, .null]))] H := hP
  replace hD : va_D A [(a2, .inr (2, [.int 0, .int 0, .int 0, .null, .null, .null, .null, .null, .int 0, .null, .null, .null]))] := hD
  refine lv_aload_n hx hb dX2_init_14 rfl (lv_at hl 0 rfl) ?_
  refine lv_iconst (v := 0) hx hb dX2_init_15 (by decide) ?_
  refine va_put (D := (dC, dI)) (ci := 2) (v := .int 0) (ty := .int) (C := RX2) (T := TX2) (N := 12) hx hb hts hiX2 tyX2 tyX2_ok nmX2 hown hK hP hD hS 0 rfl rfl 2 (by decide) lk18 (fun _ h9 => h9) rfl (by decide +kernel) rfl rfl (Nat.le_of_ble_eq_true rfl) dX2_init_16 (fun H locs hP hD hS => ?_)
  replace hP : va_P (dC, dI) vwCl [(a2, .inr (2, [.int 0, .int 0, .int 0, .null, .null, .null, .null, .null, .int 0, .null, .null, .null]))] H := hP
  replace hD : va_D A [(a2, .inr (2, [.int 0, .int 0, .int 0, .null, .null, .null, .null, .null, .int 0, .null, .null, .null]))] := hD
  refine lv_aload_n hx hb dX2_init_19 rfl (lv_at hl 0 rfl) ?_
  refine lv_bipush (v := 20) hx hb dX2_init_20 (by decide) ?_
  refine va_newa (atype := .boolean) (ty := .boolean) (N' := 20) (a0 := (20, .inl (fun _ => 0))) hx hb (hts (.arrayClass .boolean) (by decide +kernel)) rfl hK hP hD hS hA (fun cA => vp_cell_i cA 20 (fun _ => 0)) (by decide) (by decide) (by decide) (Nat.le_of_ble_eq_true rfl) (Nat.le_of_ble_eq_true rfl) dX2_init_22 (fun q1 cA H hK1 hP hD hS => ?_)
  have hu : cA = cyZ := uncyZ hK hK1
  rw [hu] at hP hD
  clear hK1 hu
  replace hP : va_P (dC, dI) vwCl [(a2, .inr (2, [.int 0, .int 0, .int 0, .null, .null, .null, .null, .null, .int 0, .null, .null, .null])), (q1, .inl (cyZ, 20, .inl (fun _ => 0)))] H := hP
  replace hD : va_D A [(a2, .inr (2, [.int 0, .int 0, .int 0, .null, .null, .null, .null, .null, .int 0, .null, .null, .null])), (q1, .inl (cyZ, 20, .inl (fun _ => 0)))] := hD
  refine W.widen (k := 1) (n := 20) (by decide) (by decide) ?_
  refine va_putF (D := (dC, dI)) (ci := 2) (v := .ref q1) (ty := (.array .boolean)) (C := RX2) (T := TX2) (N := 12) hx hb hts hiX2 tyX2 tyX2_ok nmX2 hown hK hP hD hS 0 rfl rfl 3 (by decide) lk21 (fun _ h9 => h9) rfl hin rfl (by decide +kernel) rfl rfl (Nat.le_of_ble_eq_true rfl) dX2_init_24 (fun H locs hP hD hS => ?_)
  replace hP : va_P (dC, dI) vwCl [(a2, .inr (2, [.int 0, .int 0, .int 0, .ref q1, .null, .null, .null, .null, .int 0, .null, .null, .null])), (q1, .inl (cyZ, 20, .inl (fun _ => 0)))] H := hP
  replace hD : va_D A [(a2, .inr (2, [.int 0, .int 0, .int 0, .ref q1, .null, .null, .null, .null, .int 0, .null, .null, .null])), (q1, .inl (cyZ, 20, .inl (fun _ => 0)))] := hD
  refine lv_aload_n hx hb dX2_init_27 rfl (lv_at hl 0 rfl) ?_
  refine lv_bipush (v := 20) hx hb dX2_init_28 (by decide) ?_
  refine va_newa (atype := .int) (ty := .int) (N' := 20) (a0 := (20, .inl (fun _ => 0))) hx hb (hts (.arrayClass .int) (by decide +kernel)) rfl hK hP hD hS hA (fun cA => vp_cell_i cA 20 (fun _ => 0)) (by decide) (by decide) (by decide) (Nat.le_of_ble_eq_true rfl) (Nat.le_of_ble_eq_true rfl) dX2_init_30 (fun q2 cA H hK1 hP hD hS => ?_)
  have hu : cA = cyI := uncyI hK hK1
  rw [hu] at hP hD
  clear hK1 hu
  replace hP : va_P (dC, dI) vwCl [(a2, .inr (2, [.int 0, .int 0, .int 0, .ref q1, .null, .null, .null, .null, .int 0, .null, .null, .null])), (q1, .inl (cyZ, 20, .inl (fun _ => 0))), (q2, .inl (cyI, 20, .inl (fun _ => 0)))] H := hP
  replace hD : va_D A [(a2, .inr (2, [.int 0, .int 0, .int 0, .ref q1, .null, .null, .null, .null, .int 0, .null, .null, .null])), (q1, .inl (cyZ, 20, .inl (fun _ => 0))), (q2, .inl (cyI, 20, .inl (fun _ => 0)))] := hD
  refine W.widen (k := 2) (n := 40) (by decide) (by decide) ?_
  refine va_putF (D := (dC, dI)) (ci := 2) (v := .ref q2) (ty := (.array .int)) (C := RX2) (T := TX2) (N := 12) hx hb hts hiX2 tyX2 tyX2_ok nmX2 hown hK hP hD hS 0 rfl rfl 4 (by decide) lk25 (fun _ h9 => h9) rfl hin rfl (by decide +kernel) rfl rfl (Nat.le_of_ble_eq_true rfl) dX2_init_32 (fun H locs hP hD hS => ?_)
  replace hP : va_P (dC, dI) vwCl [(a2, .inr (2, [.int 0, .int 0, .int 0, .ref q1, .ref q2, .null, .null, .null, .int 0, .null, .null, .null])), (q1, .inl (cyZ, 20, .inl (fun _ => 0))), (q2, .inl (cyI, 20, .inl (fun _ => 0)))] H := hP
  replace hD : va_D A [(a2, .inr (2, [.int 0, .int 0, .int 0, .ref q1, .ref q2, .null, .null, .null, .int 0, .null, .null, .null])), (q1, .inl (cyZ, 20, .inl (fun _ => 0))), (q2, .inl (cyI, 20, .inl (fun _ => 0)))] := hD
  refine lv_aload_n hx hb dX2_init_35 rfl (lv_at hl 0 rfl) ?_
  refine lv_bipush (v := 12) hx hb dX2_init_36 (by decide) ?_
  refine va_newa (atype := .int) (ty := .int) (N' := 12) (a0 := (12, .inl (fun _ => 0))) hx hb (hts (.arrayClass .int) (by decide +kernel)) rfl hK hP hD hS hA (fun cA => vp_cell_i cA 12 (fun _ => 0)) (by decide) (by decide) (by decide) (Nat.le_of_ble_eq_true rfl) (Nat.le_of_ble_eq_true rfl) dX2_init_38 (fun q3 cA H hK1 hP hD hS => ?_)
  have hu : cA = cyI := uncyI hK hK1
  rw [hu] at hP hD
  clear hK1 hu
  replace hP : va_P (dC, dI) vwCl [(a2, .inr (2, [.int 0, .int 0, .int 0, .ref q1, .ref q2, .null, .null, .null, .int 0, .null, .null, .null])), (q1, .inl (cyZ, 20, .inl (fun _ => 0))), (q2, .inl (cyI, 20, .inl (fun _ => 0))), (q3, .inl (cyI, 12, .inl (fun _ => 0)))] H := hP
  replace hD : va_D A [(a2, .inr (2, [.int 0, .int 0, .int 0, .ref q1, .ref q2, .null, .null, .null, .int 0, .null, .null, .null])), (q1, .inl (cyZ, 20, .inl (fun _ => 0))), (q2, .inl (cyI, 20, .inl (fun _ => 0))), (q3, .inl (cyI, 12, .inl (fun _ => 0)))] := hD
  refine W.widen (k := 3) (n := 52) (by decide) (by decide) ?_
  refine va_putF (D := (dC, dI)) (ci := 2) (v := .ref q3) (ty := (.array .int)) (C := RX2) (T := TX2) (N := 12) hx hb hts hiX2 tyX2 tyX2_ok nmX2 hown hK hP hD hS 0 rfl rfl 5 (by decide) lk29 (fun _ h9 => h9) rfl hin rfl (by decide +kernel) rfl rfl (Nat.le_of_ble_eq_true rfl) dX2_init_40 (fun H locs hP hD hS => ?_)
  replace hP : va_P (dC, dI) vwCl [(a2, .inr (2, [.int 0, .int 0, .int 0, .ref q1, .ref q2, .ref q3, .null, .null, .int 0, .null, .null, .null])), (q1, .inl (cyZ, 20, .inl (fun _ => 0))), (q2, .inl (cyI, 20, .inl (fun _ => 0))), (q3, .inl (cyI, 12, .inl (fun _ => 0)))] H := hP
  replace hD : va_D A [(a2, .inr (2, [.int 0, .int 0, .int 0, .ref q1, .ref q2, .ref q3, .null, .null, .int 0, .null, .null, .null])), (q1, .inl (cyZ, 20, .inl (fun _ => 0))), (q2, .inl (cyI, 20, .inl (fun _ => 0))), (q3, .inl (cyI, 12, .inl (fun _ => 0)))] := hD
  refine lv_aload_n hx hb dX2_init_43 rfl (lv_at hl 0 rfl) ?_
  refine lv_bipush (v := 12) hx hb dX2_init_44 (by decide) ?_
  refine va_newa (atype := .int) (ty := .int) (N' := 12) (a0 := (12, .inl (fun _ => 0))) hx hb (hts (.arrayClass .int) (by decide +kernel)) rfl hK hP hD hS hA (fun cA => vp_cell_i cA 12 (fun _ => 0)) (by decide) (by decide) (by decide) (Nat.le_of_ble_eq_true rfl) (Nat.le_of_ble_eq_true rfl) dX2_init_46 (fun q4 cA H hK1 hP hD hS => ?_)
  have hu : cA = cyI := uncyI hK hK1
  rw [hu] at hP hD
  clear hK1 hu
  replace hP : va_P (dC, dI) vwCl [(a2, .inr (2, [.int 0, .int 0, .int 0, .ref q1, .ref q2, .ref q3, .null, .null, .int 0, .null, .null, .null])), (q1, .inl (cyZ, 20, .inl (fun _ => 0))), (q2, .inl (cyI, 20, .inl (fun _ => 0))), (q3, .inl (cyI, 12, .inl (fun _ => 0))), (q4, .inl (cyI, 12, .inl (fun _ => 0)))] H := hP
  replace hD : va_D A [(a2, .inr (2, [.int 0, .int 0, .int 0, .ref q1, .ref q2, .ref q3, .null, .null, .int 0, .null, .null, .null])), (q1, .inl (cyZ, 20, .inl (fun _ => 0))), (q2, .inl (cyI, 20, .inl (fun _ => 0))), (q3, .inl (cyI, 12, .inl (fun _ => 0))), (q4, .inl (cyI, 12, .inl (fun _ => 0)))] := hD
  refine W.widen (k := 4) (n := 64) (by decide) (by decide) ?_
  refine va_putF (D := (dC, dI)) (ci := 2) (v := .ref q4) (ty := (.array .int)) (C := RX2) (T := TX2) (N := 12) hx hb hts hiX2 tyX2 tyX2_ok nmX2 hown hK hP hD hS 0 rfl rfl 6 (by decide) lk32 (fun _ h9 => h9) rfl hin rfl (by decide +kernel) rfl rfl (Nat.le_of_ble_eq_true rfl) dX2_init_48 (fun H locs hP hD hS => ?_)
  replace hP : va_P (dC, dI) vwCl [(a2, .inr (2, [.int 0, .int 0, .int 0, .ref q1, .ref q2, .ref q3, .ref q4, .null, .int 0, .null, .null, .null])), (q1, .inl (cyZ, 20, .inl (fun _ => 0))), (q2, .inl (cyI, 20, .inl (fun _ => 0))), (q3, .inl (cyI, 12, .inl (fun _ => 0))), (q4, .inl (cyI, 12, .inl (fun _ => 0)))] H := hP
  replace hD : va_D A [(a2, .inr (2, [.int 0, .int 0, .int 0, .ref q1, .ref q2, .ref q3, .ref q4, .null, .int 0, .null, .null, .null])), (q1, .inl (cyZ, 20, .inl (fun _ => 0))), (q2, .inl (cyI, 20, .inl (fun _ => 0))), (q3, .inl (cyI, 12, .inl (fun _ => 0))), (q4, .inl (cyI, 12, .inl (fun _ => 0)))] := hD
  refine lv_aload_n hx hb dX2_init_51 rfl (lv_at hl 0 rfl) ?_
  refine lv_sipush (v := 240) hx hb dX2_init_52 (by decide) ?_
  refine va_newa (atype := .boolean) (ty := .boolean) (N' := 240) (a0 := (240, .inl (fun _ => 0))) hx hb (hts (.arrayClass .boolean) (by decide +kernel)) rfl hK hP hD hS hA (fun cA => vp_cell_i cA 240 (fun _ => 0)) (by decide) (by decide) (by decide) (Nat.le_of_ble_eq_true rfl) (Nat.le_of_ble_eq_true rfl) dX2_init_55 (fun q5 cA H hK1 hP hD hS => ?_)
  have hu : cA = cyZ := uncyZ hK hK1
  rw [hu] at hP hD
  clear hK1 hu
  replace hP : va_P (dC, dI) vwCl [(a2, .inr (2, [.int 0, .int 0, .int 0, .ref q1, .ref q2, .ref q3, .ref q4, .null, .int 0, .null, .null, .null])), (q1, .inl (cyZ, 20, .inl (fun _ => 0))), (q2, .inl (cyI, 20, .inl (fun _ => 0))), (q3, .inl (cyI, 12, .inl (fun _ => 0))), (q4, .inl (cyI, 12, .inl (fun _ => 0))), (q5, .inl (cyZ, 240, .inl (fun _ => 0)))] H := hP
  replace hD : va_D A [(a2, .inr (2, [.int 0, .int 0, .int 0, .ref q1, .ref q2, .ref q3, .ref q4, .null, .int 0, .null, .null, .null])), (q1, .inl (cyZ, 20, .inl (fun _ => 0))), (q2, .inl (cyI, 20, .inl (fun _ => 0))), (q3, .inl (cyI, 12, .inl (fun _ => 0))), (q4, .inl (cyI, 12, .inl (fun _ => 0))), (q5, .inl (cyZ, 240, .inl (fun _ => 0)))] := hD
  refine W.widen (k := 5) (n := 304) (by decide) (by decide) ?_
  refine va_putF (D := (dC, dI)) (ci := 2) (v := .ref q5) (ty := (.array .boolean)) (C := RX2) (T := TX2) (N := 12) hx hb hts hiX2 tyX2 tyX2_ok nmX2 hown hK hP hD hS 0 rfl rfl 7 (by decide) lk35 (fun _ h9 => h9) rfl hin rfl (by decide +kernel) rfl rfl (Nat.le_of_ble_eq_true rfl) dX2_init_57 (fun H locs hP hD hS => ?_)
  replace hP : va_P (dC, dI) vwCl [(a2, .inr (2, [.int 0, .int 0, .int 0, .ref q1, .ref q2, .ref q3, .ref q4, .ref q5, .int 0, .null, .null, .null])), (q1, .inl (cyZ, 20, .inl (fun _ => 0))), (q2, .inl (cyI, 20, .inl (fun _ => 0))), (q3, .inl (cyI, 12, .inl (fun _ => 0))), (q4, .inl (cyI, 12, .inl (fun _ => 0))), (q5, .inl (cyZ, 240, .inl (fun _ => 0)))] H := hP
  replace hD : va_D A [(a2, .inr (2, [.int 0, .int 0, .int 0, .ref q1, .ref q2, .ref q3, .ref q4, .ref q5, .int 0, .null, .null, .null])), (q1, .inl (cyZ, 20, .inl (fun _ => 0))), (q2, .inl (cyI, 20, .inl (fun _ => 0))), (q3, .inl (cyI, 12, .inl (fun _ => 0))), (q4, .inl (cyI, 12, .inl (fun _ => 0))), (q5, .inl (cyZ, 240, .inl (fun _ => 0)))] := hD
  refine lv_aload_n hx hb dX2_init_60 rfl (lv_at hl 0 rfl) ?_
  refine lv_iconst (v := 0) hx hb dX2_init_61 (by decide) ?_
  refine va_put (D := (dC, dI)) (ci := 2) (v := .int 0) (ty := .int) (C := RX2) (T := TX2) (N := 12) hx hb hts hiX2 tyX2 tyX2_ok nmX2 hown hK hP hD hS 0 rfl rfl 8 (by decide) lk38 (fun _ h9 => h9) rfl (by decide +kernel) rfl rfl (Nat.le_of_ble_eq_true rfl) dX2_init_62 (fun H locs hP hD hS => ?_)
  replace hP : va_P (dC, dI) vwCl [(a2, .inr (2, [.int 0, .int 0, .int 0, .ref q1, .ref q2, .ref q3, .ref q4, .ref q5, .int 0, .null, .null, .null])), (q1, .inl (cyZ, 20, .inl (fun _ => 0))), (q2, .inl (cyI, 20, .inl (fun _ => 0))), (q3, .inl (cyI, 12, .inl (fun _ => 0))), (q4, .inl (cyI, 12, .inl (fun _ => 0))), (q5, .inl (cyZ, 240, .inl (fun _ => 0)))] H := hP
  replace hD : va_D A [(a2, .inr (2, [.int 0, .int 0, .int 0, .ref q1, .ref q2, .ref q3, .ref q4, .ref q5, .int 0, .null, .null, .null])), (q1, .inl (cyZ, 20, .inl (fun _ => 0))), (q2, .inl (cyI, 20, .inl (fun _ => 0))), (q3, .inl (cyI, 12, .inl (fun _ => 0))), (q4, .inl (cyI, 12, .inl (fun _ => 0))), (q5, .inl (cyZ, 240, .inl (fun _ => 0)))] := hD
  refine lv_aload_n hx hb dX2_init_65 rfl (lv_at hl 0 rfl) ?_
  refine lv_bipush (v := 12) hx hb dX2_init_66 (by decide) ?_
  refine va_newa (atype := .int) (ty := .int) (N' := 12) (a0 := (12, .inl (fun _ => 0))) hx hb (hts (.arrayClass .int) (by decide +kernel)) rfl hK hP hD hS hA (fun cA => vp_cell_i cA 12 (fun _ => 0)) (by decide) (by decide) (by decide) (Nat.le_of_ble_eq_true rfl) (Nat.le_of_ble_eq_true rfl) dX2_init_68 (fun q6 cA H hK1 hP hD hS => ?_)
  have hu : cA = cyI := uncyI hK hK1
  rw [hu] at hP hD
  clear hK1 hu
  replace hP : va_P (dC, dI) vwCl [(a2, .inr (2, [.int 0, .int 0, .int 0, .ref q1, .ref q2, .ref q3, .ref q4, .ref q5, .int 0, .null, .null, .null])), (q1, .inl (cyZ, 20, .inl (fun _ => 0))), (q2, .inl (cyI, 20, .inl (fun _ => 0))), (q3, .inl (cyI, 12, .inl (fun _ => 0))), (q4, .inl (cyI, 12, .inl (fun _ => 0))), (q5, .inl (cyZ, 240, .inl (fun _ => 0))), (q6, .inl (cyI, 12, .inl (fun _ => 0)))] H := hP
  replace hD : va_D A [(a2, .inr (2, [.int 0, .int 0, .int 0, .ref q1, .ref q2, .ref q3, .ref q4, .ref q5, .int 0, .null, .null, .null])), (q1, .inl (cyZ, 20, .inl (fun _ => 0))), (q2, .inl (cyI, 20, .inl (fun _ => 0))), (q3, .inl (cyI, 12, .inl (fun _ => 0))), (q4, .inl (cyI, 12, .inl (fun _ => 0))), (q5, .inl (cyZ, 240, .inl (fun _ => 0))), (q6, .inl (cyI, 12, .inl (fun _ => 0)))] := hD
  refine W.widen (k := 6) (n := 316) (by decide) (by decide) ?_
  refine va_putF (D := (dC, dI)) (ci := 2) (v := .ref q6) (ty := (.array .int)) (C := RX2) (T := TX2) (N := 12) hx hb hts hiX2 tyX2 tyX2_ok nmX2 hown hK hP hD hS 0 rfl rfl 9 (by decide) lk41 (fun _ h9 => h9) rfl hin rfl (by decide +kernel) rfl rfl (Nat.le_of_ble_eq_true rfl) dX2_init_70 (fun H locs hP hD hS => ?_)
  replace hP : va_P (dC, dI) vwCl [(a2, .inr (2, [.int 0, .int 0, .int 0, .ref q1, .ref q2, .ref q3, .ref q4, .ref q5, .int 0, .ref q6, .null, .null])), (q1, .inl (cyZ, 20, .inl (fun _ => 0))), (q2, .inl (cyI, 20, .inl (fun _ => 0))), (q3, .inl (cyI, 12, .inl (fun _ => 0))), (q4, .inl (cyI, 12, .inl (fun _ => 0))), (q5, .inl (cyZ, 240, .inl (fun _ => 0))), (q6, .inl (cyI, 12, .inl (fun _ => 0)))] H := hP
  replace hD : va_D A [(a2, .inr (2, [.int 0, .int 0, .int 0, .ref q1, .ref q2, .ref q3, .ref q4, .ref q5, .int 0, .ref q6, .null, .null])), (q1, .inl (cyZ, 20, .inl (fun _ => 0))), (q2, .inl (cyI, 20, .inl (fun _ => 0))), (q3, .inl (cyI, 12, .inl (fun _ => 0))), (q4, .inl (cyI, 12, .inl (fun _ => 0))), (q5, .inl (cyZ, 240, .inl (fun _ => 0))), (q6, .inl (cyI, 12, .inl (fun _ => 0)))] := hD
  refine lv_aload_n hx hb dX2_init_73 rfl (lv_at hl 0 rfl) ?_
  refine lv_bipush (v := 12) hx hb dX2_init_74 (by decide) ?_
  refine va_newa (atype := .int) (ty := .int) (N' := 12) (a0 := (12, .inl (fun _ => 0))) hx hb (hts (.arrayClass .int) (by decide +kernel)) rfl hK hP hD hS hA (fun cA => vp_cell_i cA 12 (fun _ => 0)) (by decide) (by decide) (by decide) (Nat.le_of_ble_eq_true rfl) (Nat.le_of_ble_eq_true rfl) dX2_init_76 (fun q7 cA H hK1 hP hD hS => ?_)
  have hu : cA = cyI := uncyI hK hK1
  rw [hu] at hP hD
  clear hK1 hu
  replace hP : va_P (dC, dI) vwCl [(a2, .inr (2, [.int 0, .int 0, .int 0, .ref q1, .ref q2, .ref q3, .ref q4, .ref q5, .int 0, .ref q6, .null, .null])), (q1, .inl (cyZ, 20, .inl (fun _ => 0))), (q2, .inl (cyI, 20, .inl (fun _ => 0))), (q3, .inl (cyI, 12, .inl (fun _ => 0))), (q4, .inl (cyI, 12, .inl (fun _ => 0))), (q5, .inl (cyZ, 240, .inl (fun _ => 0))), (q6, .inl (cyI, 12, .inl (fun _ => 0))), (q7, .inl (cyI, 12, .inl (fun _ => 0)))] H := hP
  replace hD : va_D A [(a2, .inr (2, [.int 0, .int 0, .int 0, .ref q1, .ref q2, .ref q3, .ref q4, .ref q5, .int 0, .ref q6, .null, .null])), (q1, .inl (cyZ, 20, .inl (fun _ => 0))), (q2, .inl (cyI, 20, .inl (fun _ => 0))), (q3, .inl (cyI, 12, .inl (fun _ => 0))), (q4, .inl (cyI, 12, .inl (fun _ => 0))), (q5, .inl (cyZ, 240, .inl (fun _ => 0))), (q6, .inl (cyI, 12, .inl (fun _ => 0))), (q7, .inl (cyI, 12, .inl (fun _ => 0)))] := hD
  refine W.widen (k := 7) (n := 328) (by decide) (by decide) ?_
  refine va_putF (D := (dC, dI)) (ci := 2) (v := .ref q7) (ty := (.array .int)) (C := RX2) (T := TX2) (N := 12) hx hb hts hiX2 tyX2 tyX2_ok nmX2 hown hK hP hD hS 0 rfl rfl 10 (by decide) lk44 (fun _ h9 => h9) rfl hin rfl (by decide +kernel) rfl rfl (Nat.le_of_ble_eq_true rfl) dX2_init_78 (fun H locs hP hD hS => ?_)
  replace hP : va_P (dC, dI) vwCl [(a2, .inr (2, [.int 0, .int 0, .int 0, .ref q1, .ref q2, .ref q3, .ref q4, .ref q5, .int 0, .ref q6, .ref q7, .null])), (q1, .inl (cyZ, 20, .inl (fun _ => 0))), (q2, .inl (cyI, 20, .inl (fun _ => 0))), (q3, .inl (cyI, 12, .inl (fun _ => 0))), (q4, .inl (cyI, 12, .inl (fun _ => 0))), (q5, .inl (cyZ, 240, .inl (fun _ => 0))), (q6, .inl (cyI, 12, .inl (fun _ => 0))), (q7, .inl (cyI, 12, .inl (fun _ => 0)))] H := hP
  replace hD : va_D A [(a2, .inr (2, [.int 0, .int 0, .int 0, .ref q1, .ref q2, .ref q3, .ref q4, .ref q5, .int 0, .ref q6, .ref q7, .null])), (q1, .inl (cyZ, 20, .inl (fun _ => 0))), (q2, .inl (cyI, 20, .inl (fun _ => 0))), (q3, .inl (cyI, 12, .inl (fun _ => 0))), (q4, .inl (cyI, 12, .inl (fun _ => 0))), (q5, .inl (cyZ, 240, .inl (fun _ => 0))), (q6, .inl (cyI, 12, .inl (fun _ => 0))), (q7, .inl (cyI, 12, .inl (fun _ => 0)))] := hD
  refine lv_aload_n hx hb dX2_init_81 rfl (lv_at hl 0 rfl) ?_
  refine lv_bipush (v := 12) hx hb dX2_init_82 (by decide) ?_
  refine va_newa (atype := .int) (ty := .int) (N' := 12) (a0 := (12, .inl (fun _ => 0))) hx hb (hts (.arrayClass .int) (by decide +kernel)) rfl hK hP hD hS hA (fun cA => vp_cell_i cA 12 (fun _ => 0)) (by decide) (by decide) (by decide) (Nat.le_of_ble_eq_true rfl) (Nat.le_of_ble_eq_true rfl) dX2_init_84 (fun q8 cA H hK1 hP hD hS => ?_)
  have hu : cA = cyI := uncyI hK hK1
  rw [hu] at hP hD
  clear hK1 hu
  replace hP : va_P (dC, dI) vwCl [(a2, .inr (2, [.int 0, .int 0, .int 0, .ref q1, .ref q2, .ref q3, .ref q4, .ref q5, .int 0, .ref q6, .ref q7, .null])), (q1, .inl (cyZ, 20, .inl (fun _ => 0))), (q2, .inl (cyI, 20, .inl (fun _ => 0))), (q3, .inl (cyI, 12, .inl (fun _ => 0))), (q4, .inl (cyI, 12, .inl (fun _ => 0))), (q5, .inl (cyZ, 240, .inl (fun _ => 0))), (q6, .inl (cyI, 12, .inl (fun _ => 0))), (q7, .inl (cyI, 12, .inl (fun _ => 0))), (q8, .inl (cyI, 12, .inl (fun _ => 0)))] H := hP
  replace hD : va_D A [(a2, .inr (2, [.int 0, .int 0, .int 0, .ref q1, .ref q2, .ref q3, .ref q4, .ref q5, .int 0, .ref q6, .ref q7, .null])), (q1, .inl (cyZ, 20, .inl (fun _ => 0))), (q2, .inl (cyI, 20, .inl (fun _ => 0))), (q3, .inl (cyI, 12, .inl (fun _ => 0))), (q4, .inl (cyI, 12, .inl (fun _ => 0))), (q5, .inl (cyZ, 240, .inl (fun _ => 0))), (q6, .inl (cyI, 12, .inl (fun _ => 0))), (q7, .inl (cyI, 12, .inl (fun _ => 0))), (q8, .inl (cyI, 12, .inl (fun _ => 0)))] := hD
  refine W.widen (k := 8) (n := 340) (by decide) (by decide) ?_
  refine va_putF (D := (dC, dI)) (ci := 2) (v := .ref q8) (ty := (.array .int)) (C := RX2) (T := TX2) (N := 12) hx hb hts hiX2 tyX2 tyX2_ok nmX2 hown hK hP hD hS 0 rfl rfl 11 (by decide) lk47 (fun _ h9 => h9) rfl hin rfl (by decide +kernel) rfl rfl (Nat.le_of_ble_eq_true rfl) dX2_init_86 (fun H locs hP hD hS => ?_)
  replace hP : va_P (dC, dI) vwCl [(a2, .inr (2, [.int 0, .int 0, .int 0, .ref q1, .ref q2, .ref q3, .ref q4, .ref q5, .int 0, .ref q6, .ref q7, .ref q8])), (q1, .inl (cyZ, 20, .inl (fun _ => 0))), (q2, .inl (cyI, 20, .inl (fun _ => 0))), (q3, .inl (cyI, 12, .inl (fun _ => 0))), (q4, .inl (cyI, 12, .inl (fun _ => 0))), (q5, .inl (cyZ, 240, .inl (fun _ => 0))), (q6, .inl (cyI, 12, .inl (fun _ => 0))), (q7, .inl (cyI, 12, .inl (fun _ => 0))), (q8, .inl (cyI, 12, .inl (fun _ => 0)))] H := hP
  replace hD : va_D A [(a2, .inr (2, [.int 0, .int 0, .int 0, .ref q1, .ref q2, .ref q3, .ref q4, .ref q5, .int 0, .ref q6, .ref q7, .ref q8])), (q1, .inl (cyZ, 20, .inl (fun _ => 0))), (q2, .inl (cyI, 20, .inl (fun _ => 0))), (q3, .inl (cyI, 12, .inl (fun _ => 0))), (q4, .inl (cyI, 12, .inl (fun _ => 0))), (q5, .inl (cyZ, 240, .inl (fun _ => 0))), (q6, .inl (cyI, 12, .inl (fun _ => 0))), (q7, .inl (cyI, 12, .inl (fun _ => 0))), (q8, .inl (cyI, 12, .inl (fun _ => 0)))] := hD
  refine W.widen (k := 8) (n := 340) (by decide) (by decide) ?_
  exact W.vret hx hb hr (fun t ht _ => ⟨⟨(q1, q2, q3, q4, q5, q6, q7, q8), rfl, trivial, by rw [ht]; exact hP, hD⟩, hS.F ht⟩) hS.2.2 dX2_init_89
set_option maxHeartbeats 16000000 in
set_option maxRecDepth 100000 in
theorem c_X0_init (l : Launch) (dC : Nat → ClassId) (dI : Nat → Nat → Nat) (cyI cyZ cyB : ClassId) (a0 : Nat)  (tW : Nat) (sz : Nat) : Met l yX0_init wsX0_init ({ frames := 1, cells := 4, slots := 173, locals := 40 } : Room) (MPreS (dC, dI) [(cyI, .int), (cyZ, .boolean), (cyB, .byte)] [.ref a0] sz [(a0, .inr (0, [.int 0, .null, .null, .null, .null]))] tW) (va_Qv (fun (u : Nat × Nat × Nat × Nat × (Nat → Int32) × (Nat → Int32)) => (u.2.2.2.2.1 = va_cpy fW (fun _ => 0) (0 : Int32).toNatClampNeg (0 : Int32).toNatClampNeg (13 : Int32).toNatClampNeg) ∧ (∀ j, j < 10 → u.2.2.2.2.2 j = 400)) (fun (u : Nat × Nat × Nat × Nat × (Nat → Int32) × (Nat → Int32)) (t : State) => va_P (dC, dI) vwCl [(a0, .inr (0, [.int 0, .ref u.1, .ref u.2.1, .ref u.2.2.1, .ref u.2.2.2.1])), (u.1, .inl (cyI, 143, .inl u.2.2.2.2.1)), (u.2.1, .inl (cyI, 10, .inl (fun _ => 0))), (u.2.2.1, .inl (cyI, 10, .inl (fun _ => 0))), (u.2.2.2.1, .inl (cyI, 10, .inl u.2.2.2.2.2))] t.heap ∧ va_D (va_A [(a0, .inr (0, [.int 0, .null, .null, .null, .null]))] sz) [(a0, .inr (0, [.int 0, .ref u.1, .ref u.2.1, .ref u.2.2.1, .ref u.2.2.2.1])), (u.1, .inl (cyI, 143, .inl u.2.2.2.2.1)), (u.2.1, .inl (cyI, 10, .inl (fun _ => 0))), (u.2.2.1, .inl (cyI, 10, .inl (fun _ => 0))), (u.2.2.2.1, .inl (cyI, 10, .inl u.2.2.2.2.2))]) (va_A [(a0, .inr (0, [.int 0, .null, .null, .null, .null]))] sz)) 4 173 (va_A [(a0, .inr (0, [.int 0, .null, .null, .null, .null]))] sz) := by
  refine Met.ofW (cc := cX0_init) (maxL := 1) (ret := none) (by decide) rfl ?_
  intro p e s m args below meth c s₁ B hml hv
  obtain ⟨rfl, hsz, hP, hK, hD0, hN, hW⟩ := hv
  have hx := B.exec
  have hb := B.bytes
  have hr := B.returns
  have hts := atoms_spec (ws := wsX0_init) B.pre
  have hown : s.vm.findClass RX0 = some m.cls := findClass_of_methodNamed B.named
  have hlocks := B.notSynchronized
  have hin : meth.name = "<init>" := (name_of_methodNamed B.named B.method).1
  subst hsz
  have hD := hD0.self (sz := s.heap.size)
  generalize hAe : va_A [(a0, .inr (0, [.int 0, .null, .null, .null, .null]))] s.heap.size = A at hD hW ⊢
  have hA : ∀ q : Nat, s.heap.size ≤ q → A q := fun q h => by rw [← hAe]; exact Or.inr h
  have hS : va_S A s.heap s.heap [] := va_S.rf
  have hiX0 : ∀ w ∈ u_ws RX0 TX0 5, w ∈ wsX0_init := by decide +kernel
  have lk9 := hts (.fieldLink RX0 9 "StallBook$Acts" "made" "I") (by decide +kernel)
  have lk15 := hts (.fieldLink RX0 15 "StallBook$Acts" "rules" "[I") (by decide +kernel)
  have lk19 := hts (.fieldLink RX0 19 "StallBook$Acts" "from" "[I") (by decide +kernel)
  have lk22 := hts (.fieldLink RX0 22 "StallBook$Acts" "knownFrom" "[I") (by decide +kernel)
  have lk25 := hts (.fieldLink RX0 25 "StallBook$Acts" "undoneFrom" "[I") (by decide +kernel)
  have lk28 : (Cond.fieldLinkNest RX0 28 "StallBook" "WITHOUT" "[I" "StallBook").before ([.ref a0] : List Value).toArray s = true := va_Nw.use rfl (hN.1 (RX0, 28, "StallBook", "WITHOUT", "[I") (by decide +kernel))
  have lk31 := hts (.methodLink RX0 31 arraycopyName) (by decide +kernel)
  have hl := lv_entry [.ref a0] (n := 1) (Nat.le_of_ble_eq_true rfl)
  rw [lg_entry_eq]
  generalize (lg_sl [.ref a0] ++ List.replicate (1 - (lg_sl [.ref a0]).length) Slot.unset).toArray = ls at hl ⊢
  replace hl : lv_has ls 1 [(0, .ref a0)] := hl
  refine lv_aload_n hx hb dX0_init_0 rfl (lv_at hl 0 rfl) ?_
  refine W.objInit hx hb hown (hts (.methodLink RX0 3 objectInit) (by decide +kernel)) (hts (.instanceMethod objectInit) (by decide +kernel)) (hts (.code objectInit ⟨#[0xb1]⟩ 1 none) (List.mem_of_getElem? (i := 3) rfl)) rfl (by rw [hml]; exact hl.1) rfl dX0_init_1 (Nat.le_of_ble_eq_true rfl) (Nat.le_of_ble_eq_true rfl) ?_
  refine W.eq (g2 := F0 m 4 ls []) rfl ?_
  refine lv_aload_n hx hb dX0_init_4 rfl (lv_at hl 0 rfl) ?_
  refine lv_iconst (v := 0) hx hb dX0_init_5 (by decide) ?_
  refine va_put (D := (dC, dI)) (ci := 0) (v := .int 0) (ty := .int) (C := RX0) (T := TX0) (N := 5) hx hb hts hiX0 tyX0 tyX0_ok nmX0 hown hK hP hD hS 0 rfl rfl 0 (by decide) lk9 (fun _ h9 => h9) rfl (by decide +kernel) rfl rfl (Nat.le_of_ble_eq_true rfl) dX0_init_6 (fun H locs hP hD hS => ?_)
  replace hP : va_P (dC, dI) vwCl [(a0, .inr (0, [.int 0, .null, .null, .null, .null]))] H := hP
  replace hD : va_D A [(a0, .inr (0, [.int 0, .null, .null, .null, .null]))] := hD
  refine lv_aload_n hx hb dX0_init_9 rfl (lv_at hl 0 rfl) ?_
  refine lv_sipush (v := 143) hx hb dX0_init_10 (by decide) ?_
  refine va_newa (atype := .int) (ty := .int) (N' := 143) (a0 := (143, .inl (fun _ => 0))) hx hb (hts (.arrayClass .int) (by decide +kernel)) rfl hK hP hD hS hA (fun cA => vp_cell_i cA 143 (fun _ => 0)) (by decide) (by decide) (by decide) (Nat.le_of_ble_eq_true rfl) (Nat.le_of_ble_eq_true rfl) dX0_init_13 (fun q1 cA H hK1 hP hD hS => ?_)
  have hu : cA = cyI := uncyI hK hK1
  rw [hu] at hP hD
  clear hK1 hu
  replace hP : va_P (dC, dI) vwCl [(a0, .inr (0, [.int 0, .null, .null, .null, .null])), (q1, .inl (cyI, 143, .inl (fun _ => 0)))] H := hP
  replace hD : va_D A [(a0, .inr (0, [.int 0, .null, .null, .null, .null])), (q1, .inl (cyI, 143, .inl (fun _ => 0)))] := hD
  refine W.widen (k := 1) (n := 143) (by decide) (by decide) ?_
  refine va_putF (D := (dC, dI)) (ci := 0) (v := .ref q1) (ty := (.array .int)) (C := RX0) (T := TX0) (N := 5) hx hb hts hiX0 tyX0 tyX0_ok nmX0 hown hK hP hD hS 0 rfl rfl 1 (by decide) lk15 (fun _ h9 => h9) rfl hin rfl (by decide +kernel) rfl rfl (Nat.le_of_ble_eq_true rfl) dX0_init_15 (fun H locs hP hD hS => ?_)
  replace hP : va_P (dC, dI) vwCl [(a0, .inr (0, [.int 0, .ref q1, .null, .null, .null])), (q1, .inl (cyI, 143, .inl (fun _ => 0)))] H := hP
  replace hD : va_D A [(a0, .inr (0, [.int 0, .ref q1, .null, .null, .null])), (q1, .inl (cyI, 143, .inl (fun _ => 0)))] := hD
  refine lv_aload_n hx hb dX0_init_18 rfl (lv_at hl 0 rfl) ?_
  refine lv_bipush (v := 10) hx hb dX0_init_19 (by decide) ?_
  refine va_newa (atype := .int) (ty := .int) (N' := 10) (a0 := (10, .inl (fun _ => 0))) hx hb (hts (.arrayClass .int) (by decide +kernel)) rfl hK hP hD hS hA (fun cA => vp_cell_i cA 10 (fun _ => 0)) (by decide) (by decide) (by decide) (Nat.le_of_ble_eq_true rfl) (Nat.le_of_ble_eq_true rfl) dX0_init_21 (fun q2 cA H hK1 hP hD hS => ?_)
  have hu : cA = cyI := uncyI hK hK1
  rw [hu] at hP hD
  clear hK1 hu
  replace hP : va_P (dC, dI) vwCl [(a0, .inr (0, [.int 0, .ref q1, .null, .null, .null])), (q1, .inl (cyI, 143, .inl (fun _ => 0))), (q2, .inl (cyI, 10, .inl (fun _ => 0)))] H := hP
  replace hD : va_D A [(a0, .inr (0, [.int 0, .ref q1, .null, .null, .null])), (q1, .inl (cyI, 143, .inl (fun _ => 0))), (q2, .inl (cyI, 10, .inl (fun _ => 0)))] := hD
  refine W.widen (k := 2) (n := 153) (by decide) (by decide) ?_
  refine va_putF (D := (dC, dI)) (ci := 0) (v := .ref q2) (ty := (.array .int)) (C := RX0) (T := TX0) (N := 5) hx hb hts hiX0 tyX0 tyX0_ok nmX0 hown hK hP hD hS 0 rfl rfl 2 (by decide) lk19 (fun _ h9 => h9) rfl hin rfl (by decide +kernel) rfl rfl (Nat.le_of_ble_eq_true rfl) dX0_init_23 (fun H locs hP hD hS => ?_)
  replace hP : va_P (dC, dI) vwCl [(a0, .inr (0, [.int 0, .ref q1, .ref q2, .null, .null])), (q1, .inl (cyI, 143, .inl (fun _ => 0))), (q2, .inl (cyI, 10, .inl (fun _ => 0)))] H := hP
  replace hD : va_D A [(a0, .inr (0, [.int 0, .ref q1, .ref q2, .null, .null])), (q1, .inl (cyI, 143, .inl (fun _ => 0))), (q2, .inl (cyI, 10, .inl (fun _ => 0)))] := hD
  refine lv_aload_n hx hb dX0_init_26 rfl (lv_at hl 0 rfl) ?_
  refine lv_bipush (v := 10) hx hb dX0_init_27 (by decide) ?_
  refine va_newa (atype := .int) (ty := .int) (N' := 10) (a0 := (10, .inl (fun _ => 0))) hx hb (hts (.arrayClass .int) (by decide +kernel)) rfl hK hP hD hS hA (fun cA => vp_cell_i cA 10 (fun _ => 0)) (by decide) (by decide) (by decide) (Nat.le_of_ble_eq_true rfl) (Nat.le_of_ble_eq_true rfl) dX0_init_29 (fun q3 cA H hK1 hP hD hS => ?_)
  have hu : cA = cyI := uncyI hK hK1
  rw [hu] at hP hD
  clear hK1 hu
  replace hP : va_P (dC, dI) vwCl [(a0, .inr (0, [.int 0, .ref q1, .ref q2, .null, .null])), (q1, .inl (cyI, 143, .inl (fun _ => 0))), (q2, .inl (cyI, 10, .inl (fun _ => 0))), (q3, .inl (cyI, 10, .inl (fun _ => 0)))] H := hP
  replace hD : va_D A [(a0, .inr (0, [.int 0, .ref q1, .ref q2, .null, .null])), (q1, .inl (cyI, 143, .inl (fun _ => 0))), (q2, .inl (cyI, 10, .inl (fun _ => 0))), (q3, .inl (cyI, 10, .inl (fun _ => 0)))] := hD
  refine W.widen (k := 3) (n := 163) (by decide) (by decide) ?_
  refine va_putF (D := (dC, dI)) (ci := 0) (v := .ref q3) (ty := (.array .int)) (C := RX0) (T := TX0) (N := 5) hx hb hts hiX0 tyX0 tyX0_ok nmX0 hown hK hP hD hS 0 rfl rfl 3 (by decide) lk22 (fun _ h9 => h9) rfl hin rfl (by decide +kernel) rfl rfl (Nat.le_of_ble_eq_true rfl) dX0_init_31 (fun H locs hP hD hS => ?_)
  replace hP : va_P (dC, dI) vwCl [(a0, .inr (0, [.int 0, .ref q1, .ref q2, .ref q3, .null])), (q1, .inl (cyI, 143, .inl (fun _ => 0))), (q2, .inl (cyI, 10, .inl (fun _ => 0))), (q3, .inl (cyI, 10, .inl (fun _ => 0)))] H := hP
  replace hD : va_D A [(a0, .inr (0, [.int 0, .ref q1, .ref q2, .ref q3, .null])), (q1, .inl (cyI, 143, .inl (fun _ => 0))), (q2, .inl (cyI, 10, .inl (fun _ => 0))), (q3, .inl (cyI, 10, .inl (fun _ => 0)))] := hD
  refine lv_aload_n hx hb dX0_init_34 rfl (lv_at hl 0 rfl) ?_
  refine lv_bipush (v := 10) hx hb dX0_init_35 (by decide) ?_
  refine va_newa (atype := .int) (ty := .int) (N' := 10) (a0 := (10, .inl (fun _ => 0))) hx hb (hts (.arrayClass .int) (by decide +kernel)) rfl hK hP hD hS hA (fun cA => vp_cell_i cA 10 (fun _ => 0)) (by decide) (by decide) (by decide) (Nat.le_of_ble_eq_true rfl) (Nat.le_of_ble_eq_true rfl) dX0_init_37 (fun q4 cA H hK1 hP hD hS => ?_)
  have hu : cA = cyI := uncyI hK hK1
  rw [hu] at hP hD
  clear hK1 hu
  replace hP : va_P (dC, dI) vwCl [(a0, .inr (0, [.int 0, .ref q1, .ref q2, .ref q3, .null])), (q1, .inl (cyI, 143, .inl (fun _ => 0))), (q2, .inl (cyI, 10, .inl (fun _ => 0))), (q3, .inl (cyI, 10, .inl (fun _ => 0))), (q4, .inl (cyI, 10, .inl (fun _ => 0)))] H := hP
  replace hD : va_D A [(a0, .inr (0, [.int 0, .ref q1, .ref q2, .ref q3, .null])), (q1, .inl (cyI, 143, .inl (fun _ => 0))), (q2, .inl (cyI, 10, .inl (fun _ => 0))), (q3, .inl (cyI, 10, .inl (fun _ => 0))), (q4, .inl (cyI, 10, .inl (fun _ => 0)))] := hD
  refine W.widen (k := 4) (n := 173) (by decide) (by decide) ?_
  refine va_putF (D := (dC, dI)) (ci := 0) (v := .ref q4) (ty := (.array .int)) (C := RX0) (T := TX0) (N := 5) hx hb hts hiX0 tyX0 tyX0_ok nmX0 hown hK hP hD hS 0 rfl rfl 4 (by decide) lk25 (fun _ h9 => h9) rfl hin rfl (by decide +kernel) rfl rfl (Nat.le_of_ble_eq_true rfl) dX0_init_39 (fun H locs hP hD hS => ?_)
  replace hP : va_P (dC, dI) vwCl [(a0, .inr (0, [.int 0, .ref q1, .ref q2, .ref q3, .ref q4])), (q1, .inl (cyI, 143, .inl (fun _ => 0))), (q2, .inl (cyI, 10, .inl (fun _ => 0))), (q3, .inl (cyI, 10, .inl (fun _ => 0))), (q4, .inl (cyI, 10, .inl (fun _ => 0)))] H := hP
  replace hD : va_D A [(a0, .inr (0, [.int 0, .ref q1, .ref q2, .ref q3, .ref q4])), (q1, .inl (cyI, 143, .inl (fun _ => 0))), (q2, .inl (cyI, 10, .inl (fun _ => 0))), (q3, .inl (cyI, 10, .inl (fun _ => 0))), (q4, .inl (cyI, 10, .inl (fun _ => 0)))] := hD
  refine va_getsN (C := "StallBook") (host := "StallBook") hx hb hW.1 hS hown lk28 (fun _ h9 => h9) dX0_init_42 ?_
  refine lv_iconst (v := 0) hx hb dX0_init_45 (by decide) ?_
  refine lv_aload_n hx hb dX0_init_46 rfl (lv_at hl 0 rfl) ?_
  refine va_get (D := (dC, dI)) (ci := 0) (v := .ref q1) (C := RX0) (T := TX0) (N := 5) hx hb hts hiX0 hown hK hP 0 rfl rfl 1 (by decide) lk15 (fun _ h9 => h9) rfl dX0_init_47 ?_
  refine lv_iconst (v := 0) hx hb dX0_init_50 (by decide) ?_
  refine lv_bipush (v := 13) hx hb dX0_init_51 (by decide) ?_
  refine va_copyx hx hb (hml.trans hl.1.symm) hown lk31 (hts (.native arraycopyName) (by decide +kernel)) (hts (.static arraycopyName) (by decide +kernel)) (hts (.initialized "java/lang/System") (by decide +kernel)) hK hP hD hS hW.2.1 hW.2.2.1 hW.2.2.2 1 0 rfl rfl (by decide) (by decide) (by decide) (by decide) (by decide) (Nat.le_of_ble_eq_true rfl) (Nat.le_of_ble_eq_true rfl) dX0_init_53 (fun H locs hP hD hS => ?_)
  obtain ⟨g5, hg5⟩ : ∃ g : Nat → Int32, g = va_cpy fW (fun _ => 0) (0 : Int32).toNatClampNeg (0 : Int32).toNatClampNeg (13 : Int32).toNatClampNeg := ⟨_, rfl⟩
  rw [← hg5] at hP hD
  replace hP : va_P (dC, dI) vwCl [(a0, .inr (0, [.int 0, .ref q1, .ref q2, .ref q3, .ref q4])), (q1, .inl (cyI, 143, .inl g5)), (q2, .inl (cyI, 10, .inl (fun _ => 0))), (q3, .inl (cyI, 10, .inl (fun _ => 0))), (q4, .inl (cyI, 10, .inl (fun _ => 0)))] H := hP
  replace hD : va_D A [(a0, .inr (0, [.int 0, .ref q1, .ref q2, .ref q3, .ref q4])), (q1, .inl (cyI, 143, .inl g5)), (q2, .inl (cyI, 10, .inl (fun _ => 0))), (q3, .inl (cyI, 10, .inl (fun _ => 0))), (q4, .inl (cyI, 10, .inl (fun _ => 0)))] := hD
  refine lv_aload_n hx hb dX0_init_56 rfl (lv_at hl 0 rfl) ?_
  refine va_get (D := (dC, dI)) (ci := 0) (v := .ref q4) (C := RX0) (T := TX0) (N := 5) hx hb hts hiX0 hown hK hP 0 rfl rfl 4 (by decide) lk25 (fun _ h9 => h9) rfl dX0_init_57 ?_
  refine lv_sipush (v := 400) hx hb dX0_init_60 (by decide) ?_
  refine mc_vn hP hD hS hA [4] [0, 1, 2, 3] [0, 1, 2, 3, 4] [(a0, .inr (0, [.int 0, .ref q1, .ref q2, .ref q3, .ref q4])), (q1, .inl (cyI, 143, .inl g5)), (q2, .inl (cyI, 10, .inl (fun _ => 0))), (q3, .inl (cyI, 10, .inl (fun _ => 0)))] (fun (g6 : Nat → Int32) => [(a0, .inr (0, [.int 0, .ref q1, .ref q2, .ref q3, .ref q4])), (q1, .inl (cyI, 143, .inl g5)), (q2, .inl (cyI, 10, .inl (fun _ => 0))), (q3, .inl (cyI, 10, .inl (fun _ => 0))), (q4, .inl (cyI, 10, .inl g6))]) rfl rfl (by decide) (by decide) (by decide) (fun _ => rfl) (fun _ => rfl) (va_runS (As := [.ref q4, .int 400]) (rest := []) ⟨hx, hb, hml, hown, hts⟩ (c_J7_fill_53178 l dC dI cyI cyZ cyB q4 10 H.size (fun _ => 0) 400 _ (fill_ok 400 10 (fun _ => 0) (by decide))) (va_cwS 2 hts gX0_init_J7_fill_53178 rfl rfl rfl (by decide +kernel) ⟨Nat.le_of_ble_eq_true rfl, Nat.le_of_ble_eq_true rfl⟩) ⟨MPre_blind, MPre_here [4] hP hD hK hN (by decide) rfl rfl⟩ rfl rfl hl.1 rfl (lv_room (Nat.le_of_ble_eq_true rfl)) dX0_init_63 ⟨Nat.le_of_ble_eq_true rfl, Nat.le_of_ble_eq_true rfl⟩) (fun g6 H locs hg6 hP hD hS => ?_)
  replace hP : va_P (dC, dI) vwCl [(a0, .inr (0, [.int 0, .ref q1, .ref q2, .ref q3, .ref q4])), (q1, .inl (cyI, 143, .inl g5)), (q2, .inl (cyI, 10, .inl (fun _ => 0))), (q3, .inl (cyI, 10, .inl (fun _ => 0))), (q4, .inl (cyI, 10, .inl g6))] H := hP
  replace hD : va_D A [(a0, .inr (0, [.int 0, .ref q1, .ref q2, .ref q3, .ref q4])), (q1, .inl (cyI, 143, .inl g5)), (q2, .inl (cyI, 10, .inl (fun _ => 0))), (q3, .inl (cyI, 10, .inl (fun _ => 0))), (q4, .inl (cyI, 10, .inl g6))] := hD
  refine W.widen (k := 4) (n := 173) (by decide) (by decide) ?_
  refine W.widen (k := 4) (n := 173) (by decide) (by decide) ?_
  exact W.vret hx hb hr (fun t ht _ => ⟨⟨(q1, q2, q3, q4, g5, g6), rfl, ⟨hg5, hg6⟩, by rw [ht]; exact hP, hD⟩, hS.F ht⟩) hS.2.2 dX0_init_66
set_option maxHeartbeats 16000000 in
set_option maxRecDepth 100000 in
theorem c_X3_init (l : Launch) (dC : Nat → ClassId) (dI : Nat → Nat → Nat) (cyI cyZ cyB : ClassId) (a3 : Nat)  (sz : Nat) : Met l yX3_init wsX3_init ({ frames := 1, cells := 8, slots := 2440, locals := 23 } : Room) (MPre (dC, dI) [(cyI, .int), (cyZ, .boolean), (cyB, .byte)] [.ref a3] sz [(a3, .inr (3, [.int 0, .null, .null, .null, .null, .null, .null, .null, .null]))]) (va_Qv (fun (u : Nat × Nat × Nat × Nat × Nat × Nat × Nat × Nat × (Nat → Int32)) => (∀ j, j < 400 → u.2.2.2.2.2.2.2.2 j = (-1))) (fun (u : Nat × Nat × Nat × Nat × Nat × Nat × Nat × Nat × (Nat → Int32)) (t : State) => va_P (dC, dI) vwCl [(a3, .inr (3, [.int 0, .ref u.1, .ref u.2.1, .ref u.2.2.1, .ref u.2.2.2.1, .ref u.2.2.2.2.1, .ref u.2.2.2.2.2.1, .ref u.2.2.2.2.2.2.1, .ref u.2.2.2.2.2.2.2.1])), (u.1, .inl (cyI, 400, .inl u.2.2.2.2.2.2.2.2)), (u.2.1, .inl (cyI, 400, .inl (fun _ => 0))), (u.2.2.1, .inl (cyI, 400, .inl (fun _ => 0))), (u.2.2.2.1, .inl (cyI, 400, .inl (fun _ => 0))), (u.2.2.2.2.1, .inl (cyI, 400, .inl (fun _ => 0))), (u.2.2.2.2.2.1, .inl (cyI, 400, .inl (fun _ => 0))), (u.2.2.2.2.2.2.1, .inl (cyI, 20, .inl (fun _ => 0))), (u.2.2.2.2.2.2.2.1, .inl (cyI, 20, .inl (fun _ => 0)))] t.heap ∧ va_D (va_A [(a3, .inr (3, [.int 0, .null, .null, .null, .null, .null, .null, .null, .null]))] sz) [(a3, .inr (3, [.int 0, .ref u.1, .ref u.2.1, .ref u.2.2.1, .ref u.2.2.2.1, .ref u.2.2.2.2.1, .ref u.2.2.2.2.2.1, .ref u.2.2.2.2.2.2.1, .ref u.2.2.2.2.2.2.2.1])), (u.1, .inl (cyI, 400, .inl u.2.2.2.2.2.2.2.2)), (u.2.1, .inl (cyI, 400, .inl (fun _ => 0))), (u.2.2.1, .inl (cyI, 400, .inl (fun _ => 0))), (u.2.2.2.1, .inl (cyI, 400, .inl (fun _ => 0))), (u.2.2.2.2.1, .inl (cyI, 400, .inl (fun _ => 0))), (u.2.2.2.2.2.1, .inl (cyI, 400, .inl (fun _ => 0))), (u.2.2.2.2.2.2.1, .inl (cyI, 20, .inl (fun _ => 0))), (u.2.2.2.2.2.2.2.1, .inl (cyI, 20, .inl (fun _ => 0)))]) (va_A [(a3, .inr (3, [.int 0, .null, .null, .null, .null, .null, .null, .null, .null]))] sz)) 8 2440 (va_A [(a3, .inr (3, [.int 0, .null, .null, .null, .null, .null, .null, .null, .null]))] sz) := by
  refine Met.ofW (cc := cX3_init) (maxL := 1) (ret := none) (by decide) rfl ?_
  intro p e s m args below meth c s₁ B hml hv
  obtain ⟨rfl, hsz, hP, hK, hD0, hN⟩ := hv
  have hx := B.exec
  have hb := B.bytes
  have hr := B.returns
  have hts := atoms_spec (ws := wsX3_init) B.pre
  have hown : s.vm.findClass RX3 = some m.cls := findClass_of_methodNamed B.named
  have hlocks := B.notSynchronized
  have hin : meth.name = "<init>" := (name_of_methodNamed B.named B.method).1
  subst hsz
  have hD := hD0.self (sz := s.heap.size)
  generalize hAe : va_A [(a3, .inr (3, [.int 0, .null, .null, .null, .null, .null, .null, .null, .null]))] s.heap.size = A at hD ⊢
  have hA : ∀ q : Nat, s.heap.size ≤ q → A q := fun q h => by rw [← hAe]; exact Or.inr h
  have hS : va_S A s.heap s.heap [] := va_S.rf
  have hiX3 : ∀ w ∈ u_ws RX3 TX3 9, w ∈ wsX3_init := by decide +kernel
  have lk9 := hts (.fieldLink RX3 9 "StallBook$Choir" "told" "I") (by decide +kernel)
  have lk15 := hts (.fieldLink RX3 15 "StallBook$Choir" "newest" "[I") (by decide +kernel)
  have lk19 := hts (.fieldLink RX3 19 "StallBook$Choir" "older" "[I") (by decide +kernel)
  have lk22 := hts (.fieldLink RX3 22 "StallBook$Choir" "whose" "[I") (by decide +kernel)
  have lk25 := hts (.fieldLink RX3 25 "StallBook$Choir" "hourOf" "[I") (by decide +kernel)
  have lk28 := hts (.fieldLink RX3 28 "StallBook$Choir" "kind" "[I") (by decide +kernel)
  have lk31 := hts (.fieldLink RX3 31 "StallBook$Choir" "knownFrom" "[I") (by decide +kernel)
  have lk34 := hts (.fieldLink RX3 34 "StallBook$Choir" "tally" "[I") (by decide +kernel)
  have lk37 := hts (.fieldLink RX3 37 "StallBook$Choir" "hoursSeen" "[I") (by decide +kernel)
  have hl := lv_entry [.ref a3] (n := 1) (Nat.le_of_ble_eq_true rfl)
  rw [lg_entry_eq]
  generalize (lg_sl [.ref a3] ++ List.replicate (1 - (lg_sl [.ref a3]).length) Slot.unset).toArray = ls at hl ⊢
  replace hl : lv_has ls 1 [(0, .ref a3)] := hl
  refine lv_aload_n hx hb dX3_init_0 rfl (lv_at hl 0 rfl) ?_
  refine W.objInit hx hb hown (hts (.methodLink RX3 3 objectInit) (by decide +kernel)) (hts (.instanceMethod objectInit) (by decide +kernel)) (hts (.code objectInit ⟨#[0xb1]⟩ 1 none) (List.mem_of_getElem? (i := 3) rfl)) rfl (by rw [hml]; exact hl.1) rfl dX3_init_1 (Nat.le_of_ble_eq_true rfl) (Nat.le_of_ble_eq_true rfl) ?_
  refine W.eq (g2 := F0 m 4 ls []) rfl ?_
  refine lv_aload_n hx hb dX3_init_4 rfl (lv_at hl 0 rfl) ?_
  refine lv_iconst (v := 0) hx hb dX3_init_5 (by decide) ?_
  refine va_put (D := (dC, dI)) (ci := 3) (v := .int 0) (ty := .int) (C := RX3) (T := TX3) (N := 9) hx hb hts hiX3 tyX3 tyX3_ok nmX3 hown hK hP hD hS 0 rfl rfl 0 (by decide) lk9 (fun _ h9 => h9) rfl (by decide +kernel) rfl rfl (Nat.le_of_ble_eq_true rfl) dX3_init_6 (fun H locs hP hD hS => ?_)
  replace hP : va_P (dC, dI) vwCl [(a3, .inr (3, [.int 0, .null, .null, .null, .null, .null, .null, .null, .null]))] H := hP
  replace hD : va_D A [(a3, .inr (3, [.int 0, .null, .null, .null, .null, .null, .null, .null, .null]))] := hD
  refine lv_aload_n hx hb dX3_init_9 rfl (lv_at hl 0 rfl) ?_
  refine lv_sipush (v := 400) hx hb dX3_init_10 (by decide) ?_
  refine va_newa (atype := .int) (ty := .int) (N' := 400) (a0 := (400, .inl (fun _ => 0))) hx hb (hts (.arrayClass .int) (by decide +kernel)) rfl hK hP hD hS hA (fun cA => vp_cell_i cA 400 (fun _ => 0)) (by decide) (by decide) (by decide) (Nat.le_of_ble_eq_true rfl) (Nat.le_of_ble_eq_true rfl) dX3_init_13 (fun q1 cA H hK1 hP hD hS => ?_)
  have hu : cA = cyI := uncyI hK hK1
  rw [hu] at hP hD
  clear hK1 hu
  replace hP : va_P (dC, dI) vwCl [(a3, .inr (3, [.int 0, .null, .null, .null, .null, .null, .null, .null, .null])), (q1, .inl (cyI, 400, .inl (fun _ => 0)))] H := hP
  replace hD : va_D A [(a3, .inr (3, [.int 0, .null, .null, .null, .null, .null, .null, .null, .null])), (q1, .inl (cyI, 400, .inl (fun _ => 0)))] := hD
  refine W.widen (k := 1) (n := 400) (by decide) (by decide) ?_
  refine va_putF (D := (dC, dI)) (ci := 3) (v := .ref q1) (ty := (.array .int)) (C := RX3) (T := TX3) (N := 9) hx hb hts hiX3 tyX3 tyX3_ok nmX3 hown hK hP hD hS 0 rfl rfl 1 (by decide) lk15 (fun _ h9 => h9) rfl hin rfl (by decide +kernel) rfl rfl (Nat.le_of_ble_eq_true rfl) dX3_init_15 (fun H locs hP hD hS => ?_)
  replace hP : va_P (dC, dI) vwCl [(a3, .inr (3, [.int 0, .ref q1, .null, .null, .null, .null, .null, .null, .null])), (q1, .inl (cyI, 400, .inl (fun _ => 0)))] H := hP
  replace hD : va_D A [(a3, .inr (3, [.int 0, .ref q1, .null, .null, .null, .null, .null, .null, .null])), (q1, .inl (cyI, 400, .inl (fun _ => 0)))] := hD
  refine lv_aload_n hx hb dX3_init_18 rfl (lv_at hl 0 rfl) ?_
  refine lv_sipush (v := 400) hx hb dX3_init_19 (by decide) ?_
  refine va_newa (atype := .int) (ty := .int) (N' := 400) (a0 := (400, .inl (fun _ => 0))) hx hb (hts (.arrayClass .int) (by decide +kernel)) rfl hK hP hD hS hA (fun cA => vp_cell_i cA 400 (fun _ => 0)) (by decide) (by decide) (by decide) (Nat.le_of_ble_eq_true rfl) (Nat.le_of_ble_eq_true rfl) dX3_init_22 (fun q2 cA H hK1 hP hD hS => ?_)
  have hu : cA = cyI := uncyI hK hK1
  rw [hu] at hP hD
  clear hK1 hu
  replace hP : va_P (dC, dI) vwCl [(a3, .inr (3, [.int 0, .ref q1, .null, .null, .null, .null, .null, .null, .null])), (q1, .inl (cyI, 400, .inl (fun _ => 0))), (q2, .inl (cyI, 400, .inl (fun _ => 0)))] H := hP
  replace hD : va_D A [(a3, .inr (3, [.int 0, .ref q1, .null, .null, .null, .null, .null, .null, .null])), (q1, .inl (cyI, 400, .inl (fun _ => 0))), (q2, .inl (cyI, 400, .inl (fun _ => 0)))] := hD
  refine W.widen (k := 2) (n := 800) (by decide) (by decide) ?_
  refine va_putF (D := (dC, dI)) (ci := 3) (v := .ref q2) (ty := (.array .int)) (C := RX3) (T := TX3) (N := 9) hx hb hts hiX3 tyX3 tyX3_ok nmX3 hown hK hP hD hS 0 rfl rfl 2 (by decide) lk19 (fun _ h9 => h9) rfl hin rfl (by decide +kernel) rfl rfl (Nat.le_of_ble_eq_true rfl) dX3_init_24 (fun H locs hP hD hS => ?_)
  replace hP : va_P (dC, dI) vwCl [(a3, .inr (3, [.int 0, .ref q1, .ref q2, .null, .null, .null, .null, .null, .null])), (q1, .inl (cyI, 400, .inl (fun _ => 0))), (q2, .inl (cyI, 400, .inl (fun _ => 0)))] H := hP
  replace hD : va_D A [(a3, .inr (3, [.int 0, .ref q1, .ref q2, .null, .null, .null, .null, .null, .null])), (q1, .inl (cyI, 400, .inl (fun _ => 0))), (q2, .inl (cyI, 400, .inl (fun _ => 0)))] := hD
  refine lv_aload_n hx hb dX3_init_27 rfl (lv_at hl 0 rfl) ?_
  refine lv_sipush (v := 400) hx hb dX3_init_28 (by decide) ?_
  refine va_newa (atype := .int) (ty := .int) (N' := 400) (a0 := (400, .inl (fun _ => 0))) hx hb (hts (.arrayClass .int) (by decide +kernel)) rfl hK hP hD hS hA (fun cA => vp_cell_i cA 400 (fun _ => 0)) (by decide) (by decide) (by decide) (Nat.le_of_ble_eq_true rfl) (Nat.le_of_ble_eq_true rfl) dX3_init_31 (fun q3 cA H hK1 hP hD hS => ?_)
  have hu : cA = cyI := uncyI hK hK1
  rw [hu] at hP hD
  clear hK1 hu
  replace hP : va_P (dC, dI) vwCl [(a3, .inr (3, [.int 0, .ref q1, .ref q2, .null, .null, .null, .null, .null, .null])), (q1, .inl (cyI, 400, .inl (fun _ => 0))), (q2, .inl (cyI, 400, .inl (fun _ => 0))), (q3, .inl (cyI, 400, .inl (fun _ => 0)))] H := hP
  replace hD : va_D A [(a3, .inr (3, [.int 0, .ref q1, .ref q2, .null, .null, .null, .null, .null, .null])), (q1, .inl (cyI, 400, .inl (fun _ => 0))), (q2, .inl (cyI, 400, .inl (fun _ => 0))), (q3, .inl (cyI, 400, .inl (fun _ => 0)))] := hD
  refine W.widen (k := 3) (n := 1200) (by decide) (by decide) ?_
  refine va_putF (D := (dC, dI)) (ci := 3) (v := .ref q3) (ty := (.array .int)) (C := RX3) (T := TX3) (N := 9) hx hb hts hiX3 tyX3 tyX3_ok nmX3 hown hK hP hD hS 0 rfl rfl 3 (by decide) lk22 (fun _ h9 => h9) rfl hin rfl (by decide +kernel) rfl rfl (Nat.le_of_ble_eq_true rfl) dX3_init_33 (fun H locs hP hD hS => ?_)
  replace hP : va_P (dC, dI) vwCl [(a3, .inr (3, [.int 0, .ref q1, .ref q2, .ref q3, .null, .null, .null, .null, .null])), (q1, .inl (cyI, 400, .inl (fun _ => 0))), (q2, .inl (cyI, 400, .inl (fun _ => 0))), (q3, .inl (cyI, 400, .inl (fun _ => 0)))] H := hP
  replace hD : va_D A [(a3, .inr (3, [.int 0, .ref q1, .ref q2, .ref q3, .null, .null, .null, .null, .null])), (q1, .inl (cyI, 400, .inl (fun _ => 0))), (q2, .inl (cyI, 400, .inl (fun _ => 0))), (q3, .inl (cyI, 400, .inl (fun _ => 0)))] := hD
  refine lv_aload_n hx hb dX3_init_36 rfl (lv_at hl 0 rfl) ?_
  refine lv_sipush (v := 400) hx hb dX3_init_37 (by decide) ?_
  refine va_newa (atype := .int) (ty := .int) (N' := 400) (a0 := (400, .inl (fun _ => 0))) hx hb (hts (.arrayClass .int) (by decide +kernel)) rfl hK hP hD hS hA (fun cA => vp_cell_i cA 400 (fun _ => 0)) (by decide) (by decide) (by decide) (Nat.le_of_ble_eq_true rfl) (Nat.le_of_ble_eq_true rfl) dX3_init_40 (fun q4 cA H hK1 hP hD hS => ?_)
  have hu : cA = cyI := uncyI hK hK1
  rw [hu] at hP hD
  clear hK1 hu
  replace hP : va_P (dC, dI) vwCl [(a3, .inr (3, [.int 0, .ref q1, .ref q2, .ref q3, .null, .null, .null, .null, .null])), (q1, .inl (cyI, 400, .inl (fun _ => 0))), (q2, .inl (cyI, 400, .inl (fun _ => 0))), (q3, .inl (cyI, 400, .inl (fun _ => 0))), (q4, .inl (cyI, 400, .inl (fun _ => 0)))] H := hP
  replace hD : va_D A [(a3, .inr (3, [.int 0, .ref q1, .ref q2, .ref q3, .null, .null, .null, .null, .null])), (q1, .inl (cyI, 400, .inl (fun _ => 0))), (q2, .inl (cyI, 400, .inl (fun _ => 0))), (q3, .inl (cyI, 400, .inl (fun _ => 0))), (q4, .inl (cyI, 400, .inl (fun _ => 0)))] := hD
  refine W.widen (k := 4) (n := 1600) (by decide) (by decide) ?_
  refine va_putF (D := (dC, dI)) (ci := 3) (v := .ref q4) (ty := (.array .int)) (C := RX3) (T := TX3) (N := 9) hx hb hts hiX3 tyX3 tyX3_ok nmX3 hown hK hP hD hS 0 rfl rfl 4 (by decide) lk25 (fun _ h9 => h9) rfl hin rfl (by decide +kernel) rfl rfl (Nat.le_of_ble_eq_true rfl) dX3_init_42 (fun H locs hP hD hS => ?_)
  replace hP : va_P (dC, dI) vwCl [(a3, .inr (3, [.int 0, .ref q1, .ref q2, .ref q3, .ref q4, .null, .null, .null, .null])), (q1, .inl (cyI, 400, .inl (fun _ => 0))), (q2, .inl (cyI, 400, .inl (fun _ => 0))), (q3, .inl (cyI, 400, .inl (fun _ => 0))), (q4, .inl (cyI, 400, .inl (fun _ => 0)))] H := hP
  replace hD : va_D A [(a3, .inr (3, [.int 0, .ref q1, .ref q2, .ref q3, .ref q4, .null, .null, .null, .null])), (q1, .inl (cyI, 400, .inl (fun _ => 0))), (q2, .inl (cyI, 400, .inl (fun _ => 0))), (q3, .inl (cyI, 400, .inl (fun _ => 0))), (q4, .inl (cyI, 400, .inl (fun _ => 0)))] := hD
  refine lv_aload_n hx hb dX3_init_45 rfl (lv_at hl 0 rfl) ?_
  refine lv_sipush (v := 400) hx hb dX3_init_46 (by decide) ?_
  refine va_newa (atype := .int) (ty := .int) (N' := 400) (a0 := (400, .inl (fun _ => 0))) hx hb (hts (.arrayClass .int) (by decide +kernel)) rfl hK hP hD hS hA (fun cA => vp_cell_i cA 400 (fun _ => 0)) (by decide) (by decide) (by decide) (Nat.le_of_ble_eq_true rfl) (Nat.le_of_ble_eq_true rfl) dX3_init_49 (fun q5 cA H hK1 hP hD hS => ?_)
  have hu : cA = cyI := uncyI hK hK1
  rw [hu] at hP hD
  clear hK1 hu
  replace hP : va_P (dC, dI) vwCl [(a3, .inr (3, [.int 0, .ref q1, .ref q2, .ref q3, .ref q4, .null, .null, .null, .null])), (q1, .inl (cyI, 400, .inl (fun _ => 0))), (q2, .inl (cyI, 400, .inl (fun _ => 0))), (q3, .inl (cyI, 400, .inl (fun _ => 0))), (q4, .inl (cyI, 400, .inl (fun _ => 0))), (q5, .inl (cyI, 400, .inl (fun _ => 0)))] H := hP
  replace hD : va_D A [(a3, .inr (3, [.int 0, .ref q1, .ref q2, .ref q3, .ref q4, .null, .null, .null, .null])), (q1, .inl (cyI, 400, .inl (fun _ => 0))), (q2, .inl (cyI, 400, .inl (fun _ => 0))), (q3, .inl (cyI, 400, .inl (fun _ => 0))), (q4, .inl (cyI, 400, .inl (fun _ => 0))), (q5, .inl (cyI, 400, .inl (fun _ => 0)))] := hD
  refine W.widen (k := 5) (n := 2000) (by decide) (by decide) ?_
  refine va_putF (D := (dC, dI)) (ci := 3) (v := .ref q5) (ty := (.array .int)) (C := RX3) (T := TX3) (N := 9) hx hb hts hiX3 tyX3 tyX3_ok nmX3 hown hK hP hD hS 0 rfl rfl 5 (by decide) lk28 (fun _ h9 => h9) rfl hin rfl (by decide +kernel) rfl rfl (Nat.le_of_ble_eq_true rfl) dX3_init_51 (fun H locs hP hD hS => ?_)
  replace hP : va_P (dC, dI) vwCl [(a3, .inr (3, [.int 0, .ref q1, .ref q2, .ref q3, .ref q4, .ref q5, .null, .null, .null])), (q1, .inl (cyI, 400, .inl (fun _ => 0))), (q2, .inl (cyI, 400, .inl (fun _ => 0))), (q3, .inl (cyI, 400, .inl (fun _ => 0))), (q4, .inl (cyI, 400, .inl (fun _ => 0))), (q5, .inl (cyI, 400, .inl (fun _ => 0)))] H := hP
  replace hD : va_D A [(a3, .inr (3, [.int 0, .ref q1, .ref q2, .ref q3, .ref q4, .ref q5, .null, .null, .null])), (q1, .inl (cyI, 400, .inl (fun _ => 0))), (q2, .inl (cyI, 400, .inl (fun _ => 0))), (q3, .inl (cyI, 400, .inl (fun _ => 0))), (q4, .inl (cyI, 400, .inl (fun _ => 0))), (q5, .inl (cyI, 400, .inl (fun _ => 0)))] := hD
  refine lv_aload_n hx hb dX3_init_54 rfl (lv_at hl 0 rfl) ?_
  refine lv_sipush (v := 400) hx hb dX3_init_55 (by decide) ?_
  refine va_newa (atype := .int) (ty := .int) (N' := 400) (a0 := (400, .inl (fun _ => 0))) hx hb (hts (.arrayClass .int) (by decide +kernel)) rfl hK hP hD hS hA (fun cA => vp_cell_i cA 400 (fun _ => 0)) (by decide) (by decide) (by decide) (Nat.le_of_ble_eq_true rfl) (Nat.le_of_ble_eq_true rfl) dX3_init_58 (fun q6 cA H hK1 hP hD hS => ?_)
  have hu : cA = cyI := uncyI hK hK1
  rw [hu] at hP hD
  clear hK1 hu
  replace hP : va_P (dC, dI) vwCl [(a3, .inr (3, [.int 0, .ref q1, .ref q2, .ref q3, .ref q4, .ref q5, .null, .null, .null])), (q1, .inl (cyI, 400, .inl (fun _ => 0))), (q2, .inl (cyI, 400, .inl (fun _ => 0))), (q3, .inl (cyI, 400, .inl (fun _ => 0))), (q4, .inl (cyI, 400, .inl (fun _ => 0))), (q5, .inl (cyI, 400, .inl (fun _ => 0))), (q6, .inl (cyI, 400, .inl (fun _ => 0)))] H := hP
  replace hD : va_D A [(a3, .inr (3, [.int 0, .ref q1, .ref q2, .ref q3, .ref q4, .ref q5, .null, .null, .null])), (q1, .inl (cyI, 400, .inl (fun _ => 0))), (q2, .inl (cyI, 400, .inl (fun _ => 0))), (q3, .inl (cyI, 400, .inl (fun _ => 0))), (q4, .inl (cyI, 400, .inl (fun _ => 0))), (q5, .inl (cyI, 400, .inl (fun _ => 0))), (q6, .inl (cyI, 400, .inl (fun _ => 0)))] := hD
  refine W.widen (k := 6) (n := 2400) (by decide) (by decide) ?_
  refine va_putF (D := (dC, dI)) (ci := 3) (v := .ref q6) (ty := (.array .int)) (C := RX3) (T := TX3) (N := 9) hx hb hts hiX3 tyX3 tyX3_ok nmX3 hown hK hP hD hS 0 rfl rfl 6 (by decide) lk31 (fun _ h9 => h9) rfl hin rfl (by decide +kernel) rfl rfl (Nat.le_of_ble_eq_true rfl) dX3_init_60 (fun H locs hP hD hS => ?_)
  replace hP : va_P (dC, dI) vwCl [(a3, .inr (3, [.int 0, .ref q1, .ref q2, .ref q3, .ref q4, .ref q5, .ref q6, .null, .null])), (q1, .inl (cyI, 400, .inl (fun _ => 0))), (q2, .inl (cyI, 400, .inl (fun _ => 0))), (q3, .inl (cyI, 400, .inl (fun _ => 0))), (q4, .inl (cyI, 400, .inl (fun _ => 0))), (q5, .inl (cyI, 400, .inl (fun _ => 0))), (q6, .inl (cyI, 400, .inl (fun _ => 0)))] H := hP
  replace hD : va_D A [(a3, .inr (3, [.int 0, .ref q1, .ref q2, .ref q3, .ref q4, .ref q5, .ref q6, .null, .null])), (q1, .inl (cyI, 400, .inl (fun _ => 0))), (q2, .inl (cyI, 400, .inl (fun _ => 0))), (q3, .inl (cyI, 400, .inl (fun _ => 0))), (q4, .inl (cyI, 400, .inl (fun _ => 0))), (q5, .inl (cyI, 400, .inl (fun _ => 0))), (q6, .inl (cyI, 400, .inl (fun _ => 0)))] := hD
  refine lv_aload_n hx hb dX3_init_63 rfl (lv_at hl 0 rfl) ?_
  refine lv_bipush (v := 20) hx hb dX3_init_64 (by decide) ?_
  refine va_newa (atype := .int) (ty := .int) (N' := 20) (a0 := (20, .inl (fun _ => 0))) hx hb (hts (.arrayClass .int) (by decide +kernel)) rfl hK hP hD hS hA (fun cA => vp_cell_i cA 20 (fun _ => 0)) (by decide) (by decide) (by decide) (Nat.le_of_ble_eq_true rfl) (Nat.le_of_ble_eq_true rfl) dX3_init_66 (fun q7 cA H hK1 hP hD hS => ?_)
  have hu : cA = cyI := uncyI hK hK1
  rw [hu] at hP hD
  clear hK1 hu
  replace hP : va_P (dC, dI) vwCl [(a3, .inr (3, [.int 0, .ref q1, .ref q2, .ref q3, .ref q4, .ref q5, .ref q6, .null, .null])), (q1, .inl (cyI, 400, .inl (fun _ => 0))), (q2, .inl (cyI, 400, .inl (fun _ => 0))), (q3, .inl (cyI, 400, .inl (fun _ => 0))), (q4, .inl (cyI, 400, .inl (fun _ => 0))), (q5, .inl (cyI, 400, .inl (fun _ => 0))), (q6, .inl (cyI, 400, .inl (fun _ => 0))), (q7, .inl (cyI, 20, .inl (fun _ => 0)))] H := hP
  replace hD : va_D A [(a3, .inr (3, [.int 0, .ref q1, .ref q2, .ref q3, .ref q4, .ref q5, .ref q6, .null, .null])), (q1, .inl (cyI, 400, .inl (fun _ => 0))), (q2, .inl (cyI, 400, .inl (fun _ => 0))), (q3, .inl (cyI, 400, .inl (fun _ => 0))), (q4, .inl (cyI, 400, .inl (fun _ => 0))), (q5, .inl (cyI, 400, .inl (fun _ => 0))), (q6, .inl (cyI, 400, .inl (fun _ => 0))), (q7, .inl (cyI, 20, .inl (fun _ => 0)))] := hD
  refine W.widen (k := 7) (n := 2420) (by decide) (by decide) ?_
  refine va_putF (D := (dC, dI)) (ci := 3) (v := .ref q7) (ty := (.array .int)) (C := RX3) (T := TX3) (N := 9) hx hb hts hiX3 tyX3 tyX3_ok nmX3 hown hK hP hD hS 0 rfl rfl 7 (by decide) lk34 (fun _ h9 => h9) rfl hin rfl (by decide +kernel) rfl rfl (Nat.le_of_ble_eq_true rfl) dX3_init_68 (fun H locs hP hD hS => ?_)
  replace hP : va_P (dC, dI) vwCl [(a3, .inr (3, [.int 0, .ref q1, .ref q2, .ref q3, .ref q4, .ref q5, .ref q6, .ref q7, .null])), (q1, .inl (cyI, 400, .inl (fun _ => 0))), (q2, .inl (cyI, 400, .inl (fun _ => 0))), (q3, .inl (cyI, 400, .inl (fun _ => 0))), (q4, .inl (cyI, 400, .inl (fun _ => 0))), (q5, .inl (cyI, 400, .inl (fun _ => 0))), (q6, .inl (cyI, 400, .inl (fun _ => 0))), (q7, .inl (cyI, 20, .inl (fun _ => 0)))] H := hP
  replace hD : va_D A [(a3, .inr (3, [.int 0, .ref q1, .ref q2, .ref q3, .ref q4, .ref q5, .ref q6, .ref q7, .null])), (q1, .inl (cyI, 400, .inl (fun _ => 0))), (q2, .inl (cyI, 400, .inl (fun _ => 0))), (q3, .inl (cyI, 400, .inl (fun _ => 0))), (q4, .inl (cyI, 400, .inl (fun _ => 0))), (q5, .inl (cyI, 400, .inl (fun _ => 0))), (q6, .inl (cyI, 400, .inl (fun _ => 0))), (q7, .inl (cyI, 20, .inl (fun _ => 0)))] := hD
  refine lv_aload_n hx hb dX3_init_71 rfl (lv_at hl 0 rfl) ?_
  refine lv_bipush (v := 20) hx hb dX3_init_72 (by decide) ?_
  refine va_newa (atype := .int) (ty := .int) (N' := 20) (a0 := (20, .inl (fun _ => 0))) hx hb (hts (.arrayClass .int) (by decide +kernel)) rfl hK hP hD hS hA (fun cA => vp_cell_i cA 20 (fun _ => 0)) (by decide) (by decide) (by decide) (Nat.le_of_ble_eq_true rfl) (Nat.le_of_ble_eq_true rfl) dX3_init_74 (fun q8 cA H hK1 hP hD hS => ?_)
  have hu : cA = cyI := uncyI hK hK1
  rw [hu] at hP hD
  clear hK1 hu
  replace hP : va_P (dC, dI) vwCl [(a3, .inr (3, [.int 0, .ref q1, .ref q2, .ref q3, .ref q4, .ref q5, .ref q6, .ref q7, .null])), (q1, .inl (cyI, 400, .inl (fun _ => 0))), (q2, .inl (cyI, 400, .inl (fun _ => 0))), (q3, .inl (cyI, 400, .inl (fun _ => 0))), (q4, .inl (cyI, 400, .inl (fun _ => 0))), (q5, .inl (cyI, 400, .inl (fun _ => 0))), (q6, .inl (cyI, 400, .inl (fun _ => 0))), (q7, .inl (cyI, 20, .inl (fun _ => 0))), (q8, .inl (cyI, 20, .inl (fun _ => 0)))] H := hP
  replace hD : va_D A [(a3, .inr (3, [.int 0, .ref q1, .ref q2, .ref q3, .ref q4, .ref q5, .ref q6, .ref q7, .null])), (q1, .inl (cyI, 400, .inl (fun _ => 0))), (q2, .inl (cyI, 400, .inl (fun _ => 0))), (q3, .inl (cyI, 400, .inl (fun _ => 0))), (q4, .inl (cyI, 400, .inl (fun _ => 0))), (q5, .inl (cyI, 400, .inl (fun _ => 0))), (q6, .inl (cyI, 400, .inl (fun _ => 0))), (q7, .inl (cyI, 20, .inl (fun _ => 0))), (q8, .inl (cyI, 20, .inl (fun _ => 0)))] := hD
  refine W.widen (k := 8) (n := 2440) (by decide) (by decide) ?_
  refine va_putF (D := (dC, dI)) (ci := 3) (v := .ref q8) (ty := (.array .int)) (C := RX3) (T := TX3) (N := 9) hx hb hts hiX3 tyX3 tyX3_ok nmX3 hown hK hP hD hS 0 rfl rfl 8 (by decide) lk37 (fun _ h9 => h9) rfl hin rfl (by decide +kernel) rfl rfl (Nat.le_of_ble_eq_true rfl) dX3_init_76 (fun H locs hP hD hS => ?_)
  replace hP : va_P (dC, dI) vwCl [(a3, .inr (3, [.int 0, .ref q1, .ref q2, .ref q3, .ref q4, .ref q5, .ref q6, .ref q7, .ref q8])), (q1, .inl (cyI, 400, .inl (fun _ => 0))), (q2, .inl (cyI, 400, .inl (fun _ => 0))), (q3, .inl (cyI, 400, .inl (fun _ => 0))), (q4, .inl (cyI, 400, .inl (fun _ => 0))), (q5, .inl (cyI, 400, .inl (fun _ => 0))), (q6, .inl (cyI, 400, .inl (fun _ => 0))), (q7, .inl (cyI, 20, .inl (fun _ => 0))), (q8, .inl (cyI, 20, .inl (fun _ => 0)))] H := hP
  replace hD : va_D A [(a3, .inr (3, [.int 0, .ref q1, .ref q2, .ref q3, .ref q4, .ref q5, .ref q6, .ref q7, .ref q8])), (q1, .inl (cyI, 400, .inl (fun _ => 0))), (q2, .inl (cyI, 400, .inl (fun _ => 0))), (q3, .inl (cyI, 400, .inl (fun _ => 0))), (q4, .inl (cyI, 400, .inl (fun _ => 0))), (q5, .inl (cyI, 400, .inl (fun _ => 0))), (q6, .inl (cyI, 400, .inl (fun _ => 0))), (q7, .inl (cyI, 20, .inl (fun _ => 0))), (q8, .inl (cyI, 20, .inl (fun _ => 0)))] := hD
  refine lv_aload_n hx hb dX3_init_79 rfl (lv_at hl 0 rfl) ?_
  refine va_get (D := (dC, dI)) (ci := 3) (v := .ref q1) (C := RX3) (T := TX3) (N := 9) hx hb hts hiX3 hown hK hP 0 rfl rfl 1 (by decide) lk15 (fun _ h9 => h9) rfl dX3_init_80 ?_
  refine lv_iconst (v := (-1)) hx hb dX3_init_83 (by decide) ?_
  refine mc_vn hP hD hS hA [1] [0, 2, 3, 4, 5, 6, 7, 8] [0, 8, 1, 2, 3, 4, 5, 6, 7] [(a3, .inr (3, [.int 0, .ref q1, .ref q2, .ref q3, .ref q4, .ref q5, .ref q6, .ref q7, .ref q8])), (q2, .inl (cyI, 400, .inl (fun _ => 0))), (q3, .inl (cyI, 400, .inl (fun _ => 0))), (q4, .inl (cyI, 400, .inl (fun _ => 0))), (q5, .inl (cyI, 400, .inl (fun _ => 0))), (q6, .inl (cyI, 400, .inl (fun _ => 0))), (q7, .inl (cyI, 20, .inl (fun _ => 0))), (q8, .inl (cyI, 20, .inl (fun _ => 0)))] (fun (g9 : Nat → Int32) => [(a3, .inr (3, [.int 0, .ref q1, .ref q2, .ref q3, .ref q4, .ref q5, .ref q6, .ref q7, .ref q8])), (q1, .inl (cyI, 400, .inl g9)), (q2, .inl (cyI, 400, .inl (fun _ => 0))), (q3, .inl (cyI, 400, .inl (fun _ => 0))), (q4, .inl (cyI, 400, .inl (fun _ => 0))), (q5, .inl (cyI, 400, .inl (fun _ => 0))), (q6, .inl (cyI, 400, .inl (fun _ => 0))), (q7, .inl (cyI, 20, .inl (fun _ => 0))), (q8, .inl (cyI, 20, .inl (fun _ => 0)))]) rfl rfl (by decide) (by decide) (by decide) (fun _ => rfl) (fun _ => rfl) (va_runS (As := [.ref q1, .int (-1)]) (rest := []) ⟨hx, hb, hml, hown, hts⟩ (c_J7_fill_53178 l dC dI cyI cyZ cyB q1 400 H.size (fun _ => 0) (-1) _ (fill_ok (-1) 400 (fun _ => 0) (by decide))) (va_cwS 2 hts gX3_init_J7_fill_53178 rfl rfl rfl (by decide +kernel) ⟨Nat.le_of_ble_eq_true rfl, Nat.le_of_ble_eq_true rfl⟩) ⟨MPre_blind, MPre_here [1] hP hD hK hN (by decide) rfl rfl⟩ rfl rfl hl.1 rfl (lv_room (Nat.le_of_ble_eq_true rfl)) dX3_init_84 ⟨Nat.le_of_ble_eq_true rfl, Nat.le_of_ble_eq_true rfl⟩) (fun g9 H locs hg9 hP hD hS => ?_)
  replace hP : va_P (dC, dI) vwCl [(a3, .inr (3, [.int 0, .ref q1, .ref q2, .ref q3, .ref q4, .ref q5, .ref q6, .ref q7, .ref q8])), (q1, .inl (cyI, 400, .inl g9)), (q2, .inl (cyI, 400, .inl (fun _ => 0))), (q3, .inl (cyI, 400, .inl (fun _ => 0))), (q4, .inl (cyI, 400, .inl (fun _ => 0))), (q5, .inl (cyI, 400, .inl (fun _ => 0))), (q6, .inl (cyI, 400, .inl (fun _ => 0))), (q7, .inl (cyI, 20, .inl (fun _ => 0))), (q8, .inl (cyI, 20, .inl (fun _ => 0)))] H := hP
  replace hD : va_D A [(a3, .inr (3, [.int 0, .ref q1, .ref q2, .ref q3, .ref q4, .ref q5, .ref q6, .ref q7, .ref q8])), (q1, .inl (cyI, 400, .inl g9)), (q2, .inl (cyI, 400, .inl (fun _ => 0))), (q3, .inl (cyI, 400, .inl (fun _ => 0))), (q4, .inl (cyI, 400, .inl (fun _ => 0))), (q5, .inl (cyI, 400, .inl (fun _ => 0))), (q6, .inl (cyI, 400, .inl (fun _ => 0))), (q7, .inl (cyI, 20, .inl (fun _ => 0))), (q8, .inl (cyI, 20, .inl (fun _ => 0)))] := hD
  refine W.widen (k := 8) (n := 2440) (by decide) (by decide) ?_
  refine W.widen (k := 8) (n := 2440) (by decide) (by decide) ?_
  exact W.vret hx hb hr (fun t ht _ => ⟨⟨(q1, q2, q3, q4, q5, q6, q7, q8, g9), rfl, hg9, by rw [ht]; exact hP, hD⟩, hS.F ht⟩) hS.2.2 dX3_init_87
set_option maxHeartbeats 16000000 in
set_option maxRecDepth 100000 in
theorem c_X4_init (l : Launch) (dC : Nat → ClassId) (dI : Nat → Nat → Nat) (cyI cyZ cyB : ClassId) (a4 : Nat) (a3 : Nat) (a0 : Nat) (sz : Nat) : Met l yX4_init wsX4_init ({ frames := 1, cells := 4, slots := 460, locals := 23 } : Room) (MPre (dC, dI) [(cyI, .int), (cyZ, .boolean), (cyB, .byte)] [.ref a4, .ref a3, .ref a0] sz [(a4, .inr (4, [.null, .null, .null, .null, .null, .null, .int 0]))]) (va_Qv (fun (u : Nat × Nat × Nat × Nat × (Nat → Int32)) => (∀ j, j < 400 → u.2.2.2.2 j = (-1))) (fun (u : Nat × Nat × Nat × Nat × (Nat → Int32)) (t : State) => va_P (dC, dI) vwCl [(a4, .inr (4, [.ref a3, .ref a0, .ref u.1, .ref u.2.1, .ref u.2.2.1, .ref u.2.2.2.1, .int 0])), (u.1, .inl (cyI, 400, .inl u.2.2.2.2)), (u.2.1, .inl (cyI, 20, .inl (fun _ => 0))), (u.2.2.1, .inl (cyI, 20, .inl (fun _ => 0))), (u.2.2.2.1, .inl (cyI, 20, .inl (fun _ => 0)))] t.heap ∧ va_D (va_A [(a4, .inr (4, [.null, .null, .null, .null, .null, .null, .int 0]))] sz) [(a4, .inr (4, [.ref a3, .ref a0, .ref u.1, .ref u.2.1, .ref u.2.2.1, .ref u.2.2.2.1, .int 0])), (u.1, .inl (cyI, 400, .inl u.2.2.2.2)), (u.2.1, .inl (cyI, 20, .inl (fun _ => 0))), (u.2.2.1, .inl (cyI, 20, .inl (fun _ => 0))), (u.2.2.2.1, .inl (cyI, 20, .inl (fun _ => 0)))]) (va_A [(a4, .inr (4, [.null, .null, .null, .null, .null, .null, .int 0]))] sz)) 4 460 (va_A [(a4, .inr (4, [.null, .null, .null, .null, .null, .null, .int 0]))] sz) := by
  refine Met.ofW (cc := cX4_init) (maxL := 3) (ret := none) (by decide) rfl ?_
  intro p e s m args below meth c s₁ B hml hv
  obtain ⟨rfl, hsz, hP, hK, hD0, hN⟩ := hv
  have hx := B.exec
  have hb := B.bytes
  have hr := B.returns
  have hts := atoms_spec (ws := wsX4_init) B.pre
  have hown : s.vm.findClass RX4 = some m.cls := findClass_of_methodNamed B.named
  have hlocks := B.notSynchronized
  have hin : meth.name = "<init>" := (name_of_methodNamed B.named B.method).1
  subst hsz
  have hD := hD0.self (sz := s.heap.size)
  generalize hAe : va_A [(a4, .inr (4, [.null, .null, .null, .null, .null, .null, .int 0]))] s.heap.size = A at hD ⊢
  have hA : ∀ q : Nat, s.heap.size ≤ q → A q := fun q h => by rw [← hAe]; exact Or.inr h
  have hS : va_S A s.heap s.heap [] := va_S.rf
  have hiX4 : ∀ w ∈ u_ws RX4 TX4 7, w ∈ wsX4_init := by decide +kernel
  have lk9 := hts (.fieldLink RX4 9 "StallBook$Purse" "coins" "[I") (by decide +kernel)
  have lk15 := hts (.fieldLink RX4 15 "StallBook$Purse" "parts" "[I") (by decide +kernel)
  have lk18 := hts (.fieldLink RX4 18 "StallBook$Purse" "paidShares" "[I") (by decide +kernel)
  have lk21 := hts (.fieldLink RX4 21 "StallBook$Purse" "paidWorth" "[I") (by decide +kernel)
  have lk24 := hts (.fieldLink RX4 24 "StallBook$Purse" "fabric" "I") (by decide +kernel)
  have lk28 := hts (.fieldLink RX4 28 "StallBook$Purse" "choir" "LStallBook$Choir;") (by decide +kernel)
  have lk32 := hts (.fieldLink RX4 32 "StallBook$Purse" "acts" "LStallBook$Acts;") (by decide +kernel)
  have hl := lv_entry [.ref a4, .ref a3, .ref a0] (n := 3) (Nat.le_of_ble_eq_true rfl)
  rw [lg_entry_eq]
  generalize (lg_sl [.ref a4, .ref a3, .ref a0] ++ List.replicate (3 - (lg_sl [.ref a4, .ref a3, .ref a0]).length) Slot.unset).toArray = ls at hl ⊢
  replace hl : lv_has ls 3 [(0, .ref a4), (1, .ref a3), (2, .ref a0)] := hl
  refine lv_aload_n hx hb dX4_init_0 rfl (lv_at hl 0 rfl) ?_
  refine W.objInit hx hb hown (hts (.methodLink RX4 3 objectInit) (by decide +kernel)) (hts (.instanceMethod objectInit) (by decide +kernel)) (hts (.code objectInit ⟨#[0xb1]⟩ 1 none) (List.mem_of_getElem? (i := 3) rfl)) rfl (by rw [hml]; exact hl.1) rfl dX4_init_1 (Nat.le_of_ble_eq_true rfl) (Nat.le_of_ble_eq_true rfl) ?_
  refine W.eq (g2 := F0 m 4 ls []) rfl ?_
  refine lv_aload_n hx hb dX4_init_4 rfl (lv_at hl 0 rfl) ?_
  refine lv_sipush (v := 400) hx hb dX4_init_5 (by decide) ?_
  refine va_newa (atype := .int) (ty := .int) (N' := 400) (a0 := (400, .inl (fun _ => 0))) hx hb (hts (.arrayClass .int) (by decide +kernel)) rfl hK hP hD hS hA (fun cA => vp_cell_i cA 400 (fun _ => 0)) (by decide) (by decide) (by decide) (Nat.le_of_ble_eq_true rfl) (Nat.le_of_ble_eq_true rfl) dX4_init_8 (fun q1 cA H hK1 hP hD hS => ?_)
  have hu : cA = cyI := uncyI hK hK1
  rw [hu] at hP hD
  clear hK1 hu
  replace hP : va_P (dC, dI) vwCl [(a4, .inr (4, [.null, .null, .null, .null, .null, .null, .int 0])), (q1, .inl (cyI, 400, .inl (fun _ => 0)))] H := hP
  replace hD : va_D A [(a4, .inr (4, [.null, .null, .null, .null, .null, .null, .int 0])), (q1, .inl (cyI, 400, .inl (fun _ => 0)))] := hD
  refine W.widen (k := 1) (n := 400) (by decide) (by decide) ?_
  refine va_putF (D := (dC, dI)) (ci := 4) (v := .ref q1) (ty := (.array .int)) (C := RX4) (T := TX4) (N := 7) hx hb hts hiX4 tyX4 tyX4_ok nmX4 hown hK hP hD hS 0 rfl rfl 2 (by decide) lk9 (fun _ h9 => h9) rfl hin rfl (by decide +kernel) rfl rfl (Nat.le_of_ble_eq_true rfl) dX4_init_10 (fun H locs hP hD hS => ?_)
  replace hP : va_P (dC, dI) vwCl [(a4, .inr (4, [.null, .null, .ref q1, .null, .null, .null, .int 0])), (q1, .inl (cyI, 400, .inl (fun _ => 0)))] H := hP
  replace hD : va_D A [(a4, .inr (4, [.null, .null, .ref q1, .null, .null, .null, .int 0])), (q1, .inl (cyI, 400, .inl (fun _ => 0)))] := hD
  refine lv_aload_n hx hb dX4_init_13 rfl (lv_at hl 0 rfl) ?_
  refine lv_bipush (v := 20) hx hb dX4_init_14 (by decide) ?_
  refine va_newa (atype := .int) (ty := .int) (N' := 20) (a0 := (20, .inl (fun _ => 0))) hx hb (hts (.arrayClass .int) (by decide +kernel)) rfl hK hP hD hS hA (fun cA => vp_cell_i cA 20 (fun _ => 0)) (by decide) (by decide) (by decide) (Nat.le_of_ble_eq_true rfl) (Nat.le_of_ble_eq_true rfl) dX4_init_16 (fun q2 cA H hK1 hP hD hS => ?_)
  have hu : cA = cyI := uncyI hK hK1
  rw [hu] at hP hD
  clear hK1 hu
  replace hP : va_P (dC, dI) vwCl [(a4, .inr (4, [.null, .null, .ref q1, .null, .null, .null, .int 0])), (q1, .inl (cyI, 400, .inl (fun _ => 0))), (q2, .inl (cyI, 20, .inl (fun _ => 0)))] H := hP
  replace hD : va_D A [(a4, .inr (4, [.null, .null, .ref q1, .null, .null, .null, .int 0])), (q1, .inl (cyI, 400, .inl (fun _ => 0))), (q2, .inl (cyI, 20, .inl (fun _ => 0)))] := hD
  refine W.widen (k := 2) (n := 420) (by decide) (by decide) ?_
  refine va_putF (D := (dC, dI)) (ci := 4) (v := .ref q2) (ty := (.array .int)) (C := RX4) (T := TX4) (N := 7) hx hb hts hiX4 tyX4 tyX4_ok nmX4 hown hK hP hD hS 0 rfl rfl 3 (by decide) lk15 (fun _ h9 => h9) rfl hin rfl (by decide +kernel) rfl rfl (Nat.le_of_ble_eq_true rfl) dX4_init_18 (fun H locs hP hD hS => ?_)
  replace hP : va_P (dC, dI) vwCl [(a4, .inr (4, [.null, .null, .ref q1, .ref q2, .null, .null, .int 0])), (q1, .inl (cyI, 400, .inl (fun _ => 0))), (q2, .inl (cyI, 20, .inl (fun _ => 0)))] H := hP
  replace hD : va_D A [(a4, .inr (4, [.null, .null, .ref q1, .ref q2, .null, .null, .int 0])), (q1, .inl (cyI, 400, .inl (fun _ => 0))), (q2, .inl (cyI, 20, .inl (fun _ => 0)))] := hD
  refine lv_aload_n hx hb dX4_init_21 rfl (lv_at hl 0 rfl) ?_
  refine lv_bipush (v := 20) hx hb dX4_init_22 (by decide) ?_
  refine va_newa (atype := .int) (ty := .int) (N' := 20) (a0 := (20, .inl (fun _ => 0))) hx hb (hts (.arrayClass .int) (by decide +kernel)) rfl hK hP hD hS hA (fun cA => vp_cell_i cA 20 (fun _ => 0)) (by decide) (by decide) (by decide) (Nat.le_of_ble_eq_true rfl) (Nat.le_of_ble_eq_true rfl) dX4_init_24 (fun q3 cA H hK1 hP hD hS => ?_)
  have hu : cA = cyI := uncyI hK hK1
  rw [hu] at hP hD
  clear hK1 hu
  replace hP : va_P (dC, dI) vwCl [(a4, .inr (4, [.null, .null, .ref q1, .ref q2, .null, .null, .int 0])), (q1, .inl (cyI, 400, .inl (fun _ => 0))), (q2, .inl (cyI, 20, .inl (fun _ => 0))), (q3, .inl (cyI, 20, .inl (fun _ => 0)))] H := hP
  replace hD : va_D A [(a4, .inr (4, [.null, .null, .ref q1, .ref q2, .null, .null, .int 0])), (q1, .inl (cyI, 400, .inl (fun _ => 0))), (q2, .inl (cyI, 20, .inl (fun _ => 0))), (q3, .inl (cyI, 20, .inl (fun _ => 0)))] := hD
  refine W.widen (k := 3) (n := 440) (by decide) (by decide) ?_
  refine va_putF (D := (dC, dI)) (ci := 4) (v := .ref q3) (ty := (.array .int)) (C := RX4) (T := TX4) (N := 7) hx hb hts hiX4 tyX4 tyX4_ok nmX4 hown hK hP hD hS 0 rfl rfl 4 (by decide) lk18 (fun _ h9 => h9) rfl hin rfl (by decide +kernel) rfl rfl (Nat.le_of_ble_eq_true rfl) dX4_init_26 (fun H locs hP hD hS => ?_)
  replace hP : va_P (dC, dI) vwCl [(a4, .inr (4, [.null, .null, .ref q1, .ref q2, .ref q3, .null, .int 0])), (q1, .inl (cyI, 400, .inl (fun _ => 0))), (q2, .inl (cyI, 20, .inl (fun _ => 0))), (q3, .inl (cyI, 20, .inl (fun _ => 0)))] H := hP
  replace hD : va_D A [(a4, .inr (4, [.null, .null, .ref q1, .ref q2, .ref q3, .null, .int 0])), (q1, .inl (cyI, 400, .inl (fun _ => 0))), (q2, .inl (cyI, 20, .inl (fun _ => 0))), (q3, .inl (cyI, 20, .inl (fun _ => 0)))] := hD
  refine lv_aload_n hx hb dX4_init_29 rfl (lv_at hl 0 rfl) ?_
  refine lv_bipush (v := 20) hx hb dX4_init_30 (by decide) ?_
  refine va_newa (atype := .int) (ty := .int) (N' := 20) (a0 := (20, .inl (fun _ => 0))) hx hb (hts (.arrayClass .int) (by decide +kernel)) rfl hK hP hD hS hA (fun cA => vp_cell_i cA 20 (fun _ => 0)) (by decide) (by decide) (by decide) (Nat.le_of_ble_eq_true rfl) (Nat.le_of_ble_eq_true rfl) dX4_init_32 (fun q4 cA H hK1 hP hD hS => ?_)
  have hu : cA = cyI := uncyI hK hK1
  rw [hu] at hP hD
  clear hK1 hu
  replace hP : va_P (dC, dI) vwCl [(a4, .inr (4, [.null, .null, .ref q1, .ref q2, .ref q3, .null, .int 0])), (q1, .inl (cyI, 400, .inl (fun _ => 0))), (q2, .inl (cyI, 20, .inl (fun _ => 0))), (q3, .inl (cyI, 20, .inl (fun _ => 0))), (q4, .inl (cyI, 20, .inl (fun _ => 0)))] H := hP
  replace hD : va_D A [(a4, .inr (4, [.null, .null, .ref q1, .ref q2, .ref q3, .null, .int 0])), (q1, .inl (cyI, 400, .inl (fun _ => 0))), (q2, .inl (cyI, 20, .inl (fun _ => 0))), (q3, .inl (cyI, 20, .inl (fun _ => 0))), (q4, .inl (cyI, 20, .inl (fun _ => 0)))] := hD
  refine W.widen (k := 4) (n := 460) (by decide) (by decide) ?_
  refine va_putF (D := (dC, dI)) (ci := 4) (v := .ref q4) (ty := (.array .int)) (C := RX4) (T := TX4) (N := 7) hx hb hts hiX4 tyX4 tyX4_ok nmX4 hown hK hP hD hS 0 rfl rfl 5 (by decide) lk21 (fun _ h9 => h9) rfl hin rfl (by decide +kernel) rfl rfl (Nat.le_of_ble_eq_true rfl) dX4_init_34 (fun H locs hP hD hS => ?_)
  replace hP : va_P (dC, dI) vwCl [(a4, .inr (4, [.null, .null, .ref q1, .ref q2, .ref q3, .ref q4, .int 0])), (q1, .inl (cyI, 400, .inl (fun _ => 0))), (q2, .inl (cyI, 20, .inl (fun _ => 0))), (q3, .inl (cyI, 20, .inl (fun _ => 0))), (q4, .inl (cyI, 20, .inl (fun _ => 0)))] H := hP
  replace hD : va_D A [(a4, .inr (4, [.null, .null, .ref q1, .ref q2, .ref q3, .ref q4, .int 0])), (q1, .inl (cyI, 400, .inl (fun _ => 0))), (q2, .inl (cyI, 20, .inl (fun _ => 0))), (q3, .inl (cyI, 20, .inl (fun _ => 0))), (q4, .inl (cyI, 20, .inl (fun _ => 0)))] := hD
  refine lv_aload_n hx hb dX4_init_37 rfl (lv_at hl 0 rfl) ?_
  refine lv_iconst (v := 0) hx hb dX4_init_38 (by decide) ?_
  refine va_put (D := (dC, dI)) (ci := 4) (v := .int 0) (ty := .int) (C := RX4) (T := TX4) (N := 7) hx hb hts hiX4 tyX4 tyX4_ok nmX4 hown hK hP hD hS 0 rfl rfl 6 (by decide) lk24 (fun _ h9 => h9) rfl (by decide +kernel) rfl rfl (Nat.le_of_ble_eq_true rfl) dX4_init_39 (fun H locs hP hD hS => ?_)
  replace hP : va_P (dC, dI) vwCl [(a4, .inr (4, [.null, .null, .ref q1, .ref q2, .ref q3, .ref q4, .int 0])), (q1, .inl (cyI, 400, .inl (fun _ => 0))), (q2, .inl (cyI, 20, .inl (fun _ => 0))), (q3, .inl (cyI, 20, .inl (fun _ => 0))), (q4, .inl (cyI, 20, .inl (fun _ => 0)))] H := hP
  replace hD : va_D A [(a4, .inr (4, [.null, .null, .ref q1, .ref q2, .ref q3, .ref q4, .int 0])), (q1, .inl (cyI, 400, .inl (fun _ => 0))), (q2, .inl (cyI, 20, .inl (fun _ => 0))), (q3, .inl (cyI, 20, .inl (fun _ => 0))), (q4, .inl (cyI, 20, .inl (fun _ => 0)))] := hD
  refine lv_aload_n hx hb dX4_init_42 rfl (lv_at hl 0 rfl) ?_
  refine lv_aload_n hx hb dX4_init_43 rfl (lv_at hl 1 rfl) ?_
  refine va_putF (D := (dC, dI)) (ci := 4) (v := .ref a3) (ty := (.object "StallBook$Choir")) (C := RX4) (T := TX4) (N := 7) hx hb hts hiX4 tyX4 tyX4_ok nmX4 hown hK hP hD hS 0 rfl rfl 0 (by decide) lk28 (fun _ h9 => h9) rfl hin rfl (by decide +kernel) rfl rfl (Nat.le_of_ble_eq_true rfl) dX4_init_44 (fun H locs hP hD hS => ?_)
  replace hP : va_P (dC, dI) vwCl [(a4, .inr (4, [.ref a3, .null, .ref q1, .ref q2, .ref q3, .ref q4, .int 0])), (q1, .inl (cyI, 400, .inl (fun _ => 0))), (q2, .inl (cyI, 20, .inl (fun _ => 0))), (q3, .inl (cyI, 20, .inl (fun _ => 0))), (q4, .inl (cyI, 20, .inl (fun _ => 0)))] H := hP
  replace hD : va_D A [(a4, .inr (4, [.ref a3, .null, .ref q1, .ref q2, .ref q3, .ref q4, .int 0])), (q1, .inl (cyI, 400, .inl (fun _ => 0))), (q2, .inl (cyI, 20, .inl (fun _ => 0))), (q3, .inl (cyI, 20, .inl (fun _ => 0))), (q4, .inl (cyI, 20, .inl (fun _ => 0)))] := hD
  refine lv_aload_n hx hb dX4_init_47 rfl (lv_at hl 0 rfl) ?_
  refine lv_aload_n hx hb dX4_init_48 rfl (lv_at hl 2 rfl) ?_
  refine va_putF (D := (dC, dI)) (ci := 4) (v := .ref a0) (ty := (.object "StallBook$Acts")) (C := RX4) (T := TX4) (N := 7) hx hb hts hiX4 tyX4 tyX4_ok nmX4 hown hK hP hD hS 0 rfl rfl 1 (by decide) lk32 (fun _ h9 => h9) rfl hin rfl (by decide +kernel) rfl rfl (Nat.le_of_ble_eq_true rfl) dX4_init_49 (fun H locs hP hD hS => ?_)
  replace hP : va_P (dC, dI) vwCl [(a4, .inr (4, [.ref a3, .ref a0, .ref q1, .ref q2, .ref q3, .ref q4, .int 0])), (q1, .inl (cyI, 400, .inl (fun _ => 0))), (q2, .inl (cyI, 20, .inl (fun _ => 0))), (q3, .inl (cyI, 20, .inl (fun _ => 0))), (q4, .inl (cyI, 20, .inl (fun _ => 0)))] H := hP
  replace hD : va_D A [(a4, .inr (4, [.ref a3, .ref a0, .ref q1, .ref q2, .ref q3, .ref q4, .int 0])), (q1, .inl (cyI, 400, .inl (fun _ => 0))), (q2, .inl (cyI, 20, .inl (fun _ => 0))), (q3, .inl (cyI, 20, .inl (fun _ => 0))), (q4, .inl (cyI, 20, .inl (fun _ => 0)))] := hD
  refine lv_aload_n hx hb dX4_init_52 rfl (lv_at hl 0 rfl) ?_
  refine va_get (D := (dC, dI)) (ci := 4) (v := .ref q1) (C := RX4) (T := TX4) (N := 7) hx hb hts hiX4 hown hK hP 0 rfl rfl 2 (by decide) lk9 (fun _ h9 => h9) rfl dX4_init_53 ?_
  refine lv_iconst (v := (-1)) hx hb dX4_init_56 (by decide) ?_
  refine mc_vn hP hD hS hA [1] [0, 2, 3, 4] [0, 4, 1, 2, 3] [(a4, .inr (4, [.ref a3, .ref a0, .ref q1, .ref q2, .ref q3, .ref q4, .int 0])), (q2, .inl (cyI, 20, .inl (fun _ => 0))), (q3, .inl (cyI, 20, .inl (fun _ => 0))), (q4, .inl (cyI, 20, .inl (fun _ => 0)))] (fun (g5 : Nat → Int32) => [(a4, .inr (4, [.ref a3, .ref a0, .ref q1, .ref q2, .ref q3, .ref q4, .int 0])), (q1, .inl (cyI, 400, .inl g5)), (q2, .inl (cyI, 20, .inl (fun _ => 0))), (q3, .inl (cyI, 20, .inl (fun _ => 0))), (q4, .inl (cyI, 20, .inl (fun _ => 0)))]) rfl rfl (by decide) (by decide) (by decide) (fun _ => rfl) (fun _ => rfl) (va_runS (As := [.ref q1, .int (-1)]) (rest := []) ⟨hx, hb, hml, hown, hts⟩ (c_J7_fill_53178 l dC dI cyI cyZ cyB q1 400 H.size (fun _ => 0) (-1) _ (fill_ok (-1) 400 (fun _ => 0) (by decide))) (va_cwS 2 hts gX4_init_J7_fill_53178 rfl rfl rfl (by decide +kernel) ⟨Nat.le_of_ble_eq_true rfl, Nat.le_of_ble_eq_true rfl⟩) ⟨MPre_blind, MPre_here [1] hP hD hK hN (by decide) rfl rfl⟩ rfl rfl hl.1 rfl (lv_room (Nat.le_of_ble_eq_true rfl)) dX4_init_57 ⟨Nat.le_of_ble_eq_true rfl, Nat.le_of_ble_eq_true rfl⟩) (fun g5 H locs hg5 hP hD hS => ?_)
  replace hP : va_P (dC, dI) vwCl [(a4, .inr (4, [.ref a3, .ref a0, .ref q1, .ref q2, .ref q3, .ref q4, .int 0])), (q1, .inl (cyI, 400, .inl g5)), (q2, .inl (cyI, 20, .inl (fun _ => 0))), (q3, .inl (cyI, 20, .inl (fun _ => 0))), (q4, .inl (cyI, 20, .inl (fun _ => 0)))] H := hP
  replace hD : va_D A [(a4, .inr (4, [.ref a3, .ref a0, .ref q1, .ref q2, .ref q3, .ref q4, .int 0])), (q1, .inl (cyI, 400, .inl g5)), (q2, .inl (cyI, 20, .inl (fun _ => 0))), (q3, .inl (cyI, 20, .inl (fun _ => 0))), (q4, .inl (cyI, 20, .inl (fun _ => 0)))] := hD
  refine W.widen (k := 4) (n := 460) (by decide) (by decide) ?_
  refine W.widen (k := 4) (n := 460) (by decide) (by decide) ?_
  exact W.vret hx hb hr (fun t ht _ => ⟨⟨(q1, q2, q3, q4, g5), rfl, hg5, by rw [ht]; exact hP, hD⟩, hS.F ht⟩) hS.2.2 dX4_init_60
set_option maxHeartbeats 16000000 in
set_option maxRecDepth 100000 in
theorem c_X6_init (l : Launch) (dC : Nat → ClassId) (dI : Nat → Nat → Nat) (cyI cyZ cyB : ClassId) (a6 : Nat)  (sz : Nat) : Met l yX6_init wsX6_init ({ frames := 1, cells := 1, slots := 200, locals := 12 } : Room) (MPre (dC, dI) [(cyI, .int), (cyZ, .boolean), (cyB, .byte)] [.ref a6] sz [(a6, .inr (6, [.int 0, .null]))]) (va_Qv (fun (u : Nat) => True) (fun (u : Nat) (t : State) => va_P (dC, dI) vwCl [(a6, .inr (6, [.int 0, .ref u])), (u, .inl (cyB, 200, .inl (fun _ => 0)))] t.heap ∧ va_D (va_A [(a6, .inr (6, [.int 0, .null]))] sz) [(a6, .inr (6, [.int 0, .ref u])), (u, .inl (cyB, 200, .inl (fun _ => 0)))]) (va_A [(a6, .inr (6, [.int 0, .null]))] sz)) 1 200 (va_A [(a6, .inr (6, [.int 0, .null]))] sz) := by
  refine Met.ofW (cc := cX6_init) (maxL := 1) (ret := none) (by decide) rfl ?_
  intro p e s m args below meth c s₁ B hml hv
  obtain ⟨rfl, hsz, hP, hK, hD0, hN⟩ := hv
  have hx := B.exec
  have hb := B.bytes
  have hr := B.returns
  have hts := atoms_spec (ws := wsX6_init) B.pre
  have hown : s.vm.findClass RX6 = some m.cls := findClass_of_methodNamed B.named
  have hlocks := B.notSynchronized
  have hin : meth.name = "<init>" := (name_of_methodNamed B.named B.method).1
  subst hsz
  have hD := hD0.self (sz := s.heap.size)
  generalize hAe : va_A [(a6, .inr (6, [.int 0, .null]))] s.heap.size = A at hD ⊢
  have hA : ∀ q : Nat, s.heap.size ≤ q → A q := fun q h => by rw [← hAe]; exact Or.inr h
  have hS : va_S A s.heap s.heap [] := va_S.rf
  have hiX6 : ∀ w ∈ u_ws RX6 TX6 2, w ∈ wsX6_init := by decide +kernel
  have lk9 := hts (.fieldLink RX6 9 "StallBook$Tape" "length" "I") (by decide +kernel)
  have lk15 := hts (.fieldLink RX6 15 "StallBook$Tape" "bytes" "[B") (by decide +kernel)
  have hl := lv_entry [.ref a6] (n := 1) (Nat.le_of_ble_eq_true rfl)
  rw [lg_entry_eq]
  generalize (lg_sl [.ref a6] ++ List.replicate (1 - (lg_sl [.ref a6]).length) Slot.unset).toArray = ls at hl ⊢
  replace hl : lv_has ls 1 [(0, .ref a6)] := hl
  refine lv_aload_n hx hb dX6_init_0 rfl (lv_at hl 0 rfl) ?_
  refine W.objInit hx hb hown (hts (.methodLink RX6 3 objectInit) (by decide +kernel)) (hts (.instanceMethod objectInit) (by decide +kernel)) (hts (.code objectInit ⟨#[0xb1]⟩ 1 none) (List.mem_of_getElem? (i := 3) rfl)) rfl (by rw [hml]; exact hl.1) rfl dX6_init_1 (Nat.le_of_ble_eq_true rfl) (Nat.le_of_ble_eq_true rfl) ?_
  refine W.eq (g2 := F0 m 4 ls []) rfl ?_
  refine lv_aload_n hx hb dX6_init_4 rfl (lv_at hl 0 rfl) ?_
  refine lv_iconst (v := 0) hx hb dX6_init_5 (by decide) ?_
  refine va_put (D := (dC, dI)) (ci := 6) (v := .int 0) (ty := .int) (C := RX6) (T := TX6) (N := 2) hx hb hts hiX6 tyX6 tyX6_ok nmX6 hown hK hP hD hS 0 rfl rfl 0 (by decide) lk9 (fun _ h9 => h9) rfl (by decide +kernel) rfl rfl (Nat.le_of_ble_eq_true rfl) dX6_init_6 (fun H locs hP hD hS => ?_)
  replace hP : va_P (dC, dI) vwCl [(a6, .inr (6, [.int 0, .null]))] H := hP
  replace hD : va_D A [(a6, .inr (6, [.int 0, .null]))] := hD
  refine lv_aload_n hx hb dX6_init_9 rfl (lv_at hl 0 rfl) ?_
  refine lv_sipush (v := 200) hx hb dX6_init_10 (by decide) ?_
  refine va_newa (atype := .byte) (ty := .byte) (N' := 200) (a0 := (200, .inl (fun _ => 0))) hx hb (hts (.arrayClass .byte) (by decide +kernel)) rfl hK hP hD hS hA (fun cA => vp_cell_i cA 200 (fun _ => 0)) (by decide) (by decide) (by decide) (Nat.le_of_ble_eq_true rfl) (Nat.le_of_ble_eq_true rfl) dX6_init_13 (fun q1 cA H hK1 hP hD hS => ?_)
  have hu : cA = cyB := uncyB hK hK1
  rw [hu] at hP hD
  clear hK1 hu
  replace hP : va_P (dC, dI) vwCl [(a6, .inr (6, [.int 0, .null])), (q1, .inl (cyB, 200, .inl (fun _ => 0)))] H := hP
  replace hD : va_D A [(a6, .inr (6, [.int 0, .null])), (q1, .inl (cyB, 200, .inl (fun _ => 0)))] := hD
  refine W.widen (k := 1) (n := 200) (by decide) (by decide) ?_
  refine va_putF (D := (dC, dI)) (ci := 6) (v := .ref q1) (ty := (.array .byte)) (C := RX6) (T := TX6) (N := 2) hx hb hts hiX6 tyX6 tyX6_ok nmX6 hown hK hP hD hS 0 rfl rfl 1 (by decide) lk15 (fun _ h9 => h9) rfl hin rfl (by decide +kernel) rfl rfl (Nat.le_of_ble_eq_true rfl) dX6_init_15 (fun H locs hP hD hS => ?_)
  replace hP : va_P (dC, dI) vwCl [(a6, .inr (6, [.int 0, .ref q1])), (q1, .inl (cyB, 200, .inl (fun _ => 0)))] H := hP
  replace hD : va_D A [(a6, .inr (6, [.int 0, .ref q1])), (q1, .inl (cyB, 200, .inl (fun _ => 0)))] := hD
  refine W.widen (k := 1) (n := 200) (by decide) (by decide) ?_
  exact W.vret hx hb hr (fun t ht _ => ⟨⟨q1, rfl, trivial, by rw [ht]; exact hP, hD⟩, hS.F ht⟩) hS.2.2 dX6_init_18
set_option maxHeartbeats 16000000 in
set_option maxRecDepth 100000 in
theorem c_X5_init (l : Launch) (dC : Nat → ClassId) (dI : Nat → Nat → Nat) (cyI cyZ cyB : ClassId) (a5 : Nat) (a6 : Nat) (sz : Nat) : Met l yX5_init wsX5_init ({ frames := 1, cells := 1, slots := 13, locals := 12 } : Room) (MPre (dC, dI) [(cyI, .int), (cyZ, .boolean), (cyB, .byte)] [.ref a5, .ref a6] sz [(a5, .inr (5, [.null, .null, .int 0, .int 0, .int 0]))]) (va_Qv (fun (u : Nat) => True) (fun (u : Nat) (t : State) => va_P (dC, dI) vwCl [(a5, .inr (5, [.ref a6, .ref u, .int 0, .int 0, .int 0])), (u, .inl (cyI, 13, .inl (fun _ => 0)))] t.heap ∧ va_D (va_A [(a5, .inr (5, [.null, .null, .int 0, .int 0, .int 0]))] sz) [(a5, .inr (5, [.ref a6, .ref u, .int 0, .int 0, .int 0])), (u, .inl (cyI, 13, .inl (fun _ => 0)))]) (va_A [(a5, .inr (5, [.null, .null, .int 0, .int 0, .int 0]))] sz)) 1 13 (va_A [(a5, .inr (5, [.null, .null, .int 0, .int 0, .int 0]))] sz) := by
  refine Met.ofW (cc := cX5_init) (maxL := 2) (ret := none) (by decide) rfl ?_
  intro p e s m args below meth c s₁ B hml hv
  obtain ⟨rfl, hsz, hP, hK, hD0, hN⟩ := hv
  have hx := B.exec
  have hb := B.bytes
  have hr := B.returns
  have hts := atoms_spec (ws := wsX5_init) B.pre
  have hown : s.vm.findClass RX5 = some m.cls := findClass_of_methodNamed B.named
  have hlocks := B.notSynchronized
  have hin : meth.name = "<init>" := (name_of_methodNamed B.named B.method).1
  subst hsz
  have hD := hD0.self (sz := s.heap.size)
  generalize hAe : va_A [(a5, .inr (5, [.null, .null, .int 0, .int 0, .int 0]))] s.heap.size = A at hD ⊢
  have hA : ∀ q : Nat, s.heap.size ≤ q → A q := fun q h => by rw [← hAe]; exact Or.inr h
  have hS : va_S A s.heap s.heap [] := va_S.rf
  have hiX5 : ∀ w ∈ u_ws RX5 TX5 5, w ∈ wsX5_init := by decide +kernel
  have lk9 := hts (.fieldLink RX5 9 "StallBook$Reader" "draft" "[I") (by decide +kernel)
  have lk15 := hts (.fieldLink RX5 15 "StallBook$Reader" "place" "I") (by decide +kernel)
  have lk19 := hts (.fieldLink RX5 19 "StallBook$Reader" "slotsTold" "I") (by decide +kernel)
  have lk22 := hts (.fieldLink RX5 22 "StallBook$Reader" "fault" "I") (by decide +kernel)
  have lk25 := hts (.fieldLink RX5 25 "StallBook$Reader" "tape" "LStallBook$Tape;") (by decide +kernel)
  have hl := lv_entry [.ref a5, .ref a6] (n := 2) (Nat.le_of_ble_eq_true rfl)
  rw [lg_entry_eq]
  generalize (lg_sl [.ref a5, .ref a6] ++ List.replicate (2 - (lg_sl [.ref a5, .ref a6]).length) Slot.unset).toArray = ls at hl ⊢
  replace hl : lv_has ls 2 [(0, .ref a5), (1, .ref a6)] := hl
  refine lv_aload_n hx hb dX5_init_0 rfl (lv_at hl 0 rfl) ?_
  refine W.objInit hx hb hown (hts (.methodLink RX5 3 objectInit) (by decide +kernel)) (hts (.instanceMethod objectInit) (by decide +kernel)) (hts (.code objectInit ⟨#[0xb1]⟩ 1 none) (List.mem_of_getElem? (i := 3) rfl)) rfl (by rw [hml]; exact hl.1) rfl dX5_init_1 (Nat.le_of_ble_eq_true rfl) (Nat.le_of_ble_eq_true rfl) ?_
  refine W.eq (g2 := F0 m 4 ls []) rfl ?_
  refine lv_aload_n hx hb dX5_init_4 rfl (lv_at hl 0 rfl) ?_
  refine lv_bipush (v := 13) hx hb dX5_init_5 (by decide) ?_
  refine va_newa (atype := .int) (ty := .int) (N' := 13) (a0 := (13, .inl (fun _ => 0))) hx hb (hts (.arrayClass .int) (by decide +kernel)) rfl hK hP hD hS hA (fun cA => vp_cell_i cA 13 (fun _ => 0)) (by decide) (by decide) (by decide) (Nat.le_of_ble_eq_true rfl) (Nat.le_of_ble_eq_true rfl) dX5_init_7 (fun q1 cA H hK1 hP hD hS => ?_)
  have hu : cA = cyI := uncyI hK hK1
  rw [hu] at hP hD
  clear hK1 hu
  replace hP : va_P (dC, dI) vwCl [(a5, .inr (5, [.null, .null, .int 0, .int 0, .int 0])), (q1, .inl (cyI, 13, .inl (fun _ => 0)))] H := hP
  replace hD : va_D A [(a5, .inr (5, [.null, .null, .int 0, .int 0, .int 0])), (q1, .inl (cyI, 13, .inl (fun _ => 0)))] := hD
  refine W.widen (k := 1) (n := 13) (by decide) (by decide) ?_
  refine va_putF (D := (dC, dI)) (ci := 5) (v := .ref q1) (ty := (.array .int)) (C := RX5) (T := TX5) (N := 5) hx hb hts hiX5 tyX5 tyX5_ok nmX5 hown hK hP hD hS 0 rfl rfl 1 (by decide) lk9 (fun _ h9 => h9) rfl hin rfl (by decide +kernel) rfl rfl (Nat.le_of_ble_eq_true rfl) dX5_init_9 (fun H locs hP hD hS => ?_)
  replace hP : va_P (dC, dI) vwCl [(a5, .inr (5, [.null, .ref q1, .int 0, .int 0, .int 0])), (q1, .inl (cyI, 13, .inl (fun _ => 0)))] H := hP
  replace hD : va_D A [(a5, .inr (5, [.null, .ref q1, .int 0, .int 0, .int 0])), (q1, .inl (cyI, 13, .inl (fun _ => 0)))] := hD
  refine lv_aload_n hx hb dX5_init_12 rfl (lv_at hl 0 rfl) ?_
  refine lv_iconst (v := 0) hx hb dX5_init_13 (by decide) ?_
  refine va_put (D := (dC, dI)) (ci := 5) (v := .int 0) (ty := .int) (C := RX5) (T := TX5) (N := 5) hx hb hts hiX5 tyX5 tyX5_ok nmX5 hown hK hP hD hS 0 rfl rfl 2 (by decide) lk15 (fun _ h9 => h9) rfl (by decide +kernel) rfl rfl (Nat.le_of_ble_eq_true rfl) dX5_init_14 (fun H locs hP hD hS => ?_)
  replace hP : va_P (dC, dI) vwCl [(a5, .inr (5, [.null, .ref q1, .int 0, .int 0, .int 0])), (q1, .inl (cyI, 13, .inl (fun _ => 0)))] H := hP
  replace hD : va_D A [(a5, .inr (5, [.null, .ref q1, .int 0, .int 0, .int 0])), (q1, .inl (cyI, 13, .inl (fun _ => 0)))] := hD
  refine lv_aload_n hx hb dX5_init_17 rfl (lv_at hl 0 rfl) ?_
  refine lv_iconst (v := 0) hx hb dX5_init_18 (by decide) ?_
  refine va_put (D := (dC, dI)) (ci := 5) (v := .int 0) (ty := .int) (C := RX5) (T := TX5) (N := 5) hx hb hts hiX5 tyX5 tyX5_ok nmX5 hown hK hP hD hS 0 rfl rfl 3 (by decide) lk19 (fun _ h9 => h9) rfl (by decide +kernel) rfl rfl (Nat.le_of_ble_eq_true rfl) dX5_init_19 (fun H locs hP hD hS => ?_)
  replace hP : va_P (dC, dI) vwCl [(a5, .inr (5, [.null, .ref q1, .int 0, .int 0, .int 0])), (q1, .inl (cyI, 13, .inl (fun _ => 0)))] H := hP
  replace hD : va_D A [(a5, .inr (5, [.null, .ref q1, .int 0, .int 0, .int 0])), (q1, .inl (cyI, 13, .inl (fun _ => 0)))] := hD
  refine lv_aload_n hx hb dX5_init_22 rfl (lv_at hl 0 rfl) ?_
  refine lv_iconst (v := 0) hx hb dX5_init_23 (by decide) ?_
  refine va_put (D := (dC, dI)) (ci := 5) (v := .int 0) (ty := .int) (C := RX5) (T := TX5) (N := 5) hx hb hts hiX5 tyX5 tyX5_ok nmX5 hown hK hP hD hS 0 rfl rfl 4 (by decide) lk22 (fun _ h9 => h9) rfl (by decide +kernel) rfl rfl (Nat.le_of_ble_eq_true rfl) dX5_init_24 (fun H locs hP hD hS => ?_)
  replace hP : va_P (dC, dI) vwCl [(a5, .inr (5, [.null, .ref q1, .int 0, .int 0, .int 0])), (q1, .inl (cyI, 13, .inl (fun _ => 0)))] H := hP
  replace hD : va_D A [(a5, .inr (5, [.null, .ref q1, .int 0, .int 0, .int 0])), (q1, .inl (cyI, 13, .inl (fun _ => 0)))] := hD
  refine lv_aload_n hx hb dX5_init_27 rfl (lv_at hl 0 rfl) ?_
  refine lv_aload_n hx hb dX5_init_28 rfl (lv_at hl 1 rfl) ?_
  refine va_putF (D := (dC, dI)) (ci := 5) (v := .ref a6) (ty := (.object "StallBook$Tape")) (C := RX5) (T := TX5) (N := 5) hx hb hts hiX5 tyX5 tyX5_ok nmX5 hown hK hP hD hS 0 rfl rfl 0 (by decide) lk25 (fun _ h9 => h9) rfl hin rfl (by decide +kernel) rfl rfl (Nat.le_of_ble_eq_true rfl) dX5_init_29 (fun H locs hP hD hS => ?_)
  replace hP : va_P (dC, dI) vwCl [(a5, .inr (5, [.ref a6, .ref q1, .int 0, .int 0, .int 0])), (q1, .inl (cyI, 13, .inl (fun _ => 0)))] H := hP
  replace hD : va_D A [(a5, .inr (5, [.ref a6, .ref q1, .int 0, .int 0, .int 0])), (q1, .inl (cyI, 13, .inl (fun _ => 0)))] := hD
  refine W.widen (k := 1) (n := 13) (by decide) (by decide) ?_
  exact W.vret hx hb hr (fun t ht _ => ⟨⟨q1, rfl, trivial, by rw [ht]; exact hP, hD⟩, hS.F ht⟩) hS.2.2 dX5_init_32
set_option maxHeartbeats 16000000 in
set_option maxRecDepth 100000 in
theorem c_X1_init (l : Launch) (dC : Nat → ClassId) (dI : Nat → Nat → Nat) (cyI cyZ cyB : ClassId) (a1 : Nat) (a2 : Nat) (sz : Nat) : Met l yX1_init wsX1_init ({ frames := 1, cells := 2, slots := 40, locals := 12 } : Room) (MPre (dC, dI) [(cyI, .int), (cyZ, .boolean), (cyB, .byte)] [.ref a1, .ref a2] sz [(a1, .inr (1, [.null, .int 0, .int 0, .null, .null, .int 0, .int 0, .int 0]))]) (va_Qv (fun (u : Nat × Nat) => True) (fun (u : Nat × Nat) (t : State) => va_P (dC, dI) vwCl [(a1, .inr (1, [.ref a2, .int 0, .int 0, .ref u.1, .ref u.2, .int 0, .int 0, .int 0])), (u.1, .inl (cyI, 20, .inl (fun _ => 0))), (u.2, .inl (cyI, 20, .inl (fun _ => 0)))] t.heap ∧ va_D (va_A [(a1, .inr (1, [.null, .int 0, .int 0, .null, .null, .int 0, .int 0, .int 0]))] sz) [(a1, .inr (1, [.ref a2, .int 0, .int 0, .ref u.1, .ref u.2, .int 0, .int 0, .int 0])), (u.1, .inl (cyI, 20, .inl (fun _ => 0))), (u.2, .inl (cyI, 20, .inl (fun _ => 0)))]) (va_A [(a1, .inr (1, [.null, .int 0, .int 0, .null, .null, .int 0, .int 0, .int 0]))] sz)) 2 40 (va_A [(a1, .inr (1, [.null, .int 0, .int 0, .null, .null, .int 0, .int 0, .int 0]))] sz) := by
  refine Met.ofW (cc := cX1_init) (maxL := 2) (ret := none) (by decide) rfl ?_
  intro p e s m args below meth c s₁ B hml hv
  obtain ⟨rfl, hsz, hP, hK, hD0, hN⟩ := hv
  have hx := B.exec
  have hb := B.bytes
  have hr := B.returns
  have hts := atoms_spec (ws := wsX1_init) B.pre
  have hown : s.vm.findClass RX1 = some m.cls := findClass_of_methodNamed B.named
  have hlocks := B.notSynchronized
  have hin : meth.name = "<init>" := (name_of_methodNamed B.named B.method).1
  subst hsz
  have hD := hD0.self (sz := s.heap.size)
  generalize hAe : va_A [(a1, .inr (1, [.null, .int 0, .int 0, .null, .null, .int 0, .int 0, .int 0]))] s.heap.size = A at hD ⊢
  have hA : ∀ q : Nat, s.heap.size ≤ q → A q := fun q h => by rw [← hAe]; exact Or.inr h
  have hS : va_S A s.heap s.heap [] := va_S.rf
  have hiX1 : ∀ w ∈ u_ws RX1 TX1 8, w ∈ wsX1_init := by decide +kernel
  have lk9 := hts (.fieldLink RX1 9 "StallBook$Ballot" "isOpen" "Z") (by decide +kernel)
  have lk15 := hts (.fieldLink RX1 15 "StallBook$Ballot" "wasAny" "Z") (by decide +kernel)
  have lk18 := hts (.fieldLink RX1 18 "StallBook$Ballot" "castAs" "[I") (by decide +kernel)
  have lk22 := hts (.fieldLink RX1 22 "StallBook$Ballot" "givenTo" "[I") (by decide +kernel)
  have lk25 := hts (.fieldLink RX1 25 "StallBook$Ballot" "ayes" "I") (by decide +kernel)
  have lk29 := hts (.fieldLink RX1 29 "StallBook$Ballot" "noes" "I") (by decide +kernel)
  have lk32 := hts (.fieldLink RX1 32 "StallBook$Ballot" "silent" "I") (by decide +kernel)
  have lk35 := hts (.fieldLink RX1 35 "StallBook$Ballot" "chapter" "LStallBook$Chapter;") (by decide +kernel)
  have hl := lv_entry [.ref a1, .ref a2] (n := 2) (Nat.le_of_ble_eq_true rfl)
  rw [lg_entry_eq]
  generalize (lg_sl [.ref a1, .ref a2] ++ List.replicate (2 - (lg_sl [.ref a1, .ref a2]).length) Slot.unset).toArray = ls at hl ⊢
  replace hl : lv_has ls 2 [(0, .ref a1), (1, .ref a2)] := hl
  refine lv_aload_n hx hb dX1_init_0 rfl (lv_at hl 0 rfl) ?_
  refine W.objInit hx hb hown (hts (.methodLink RX1 3 objectInit) (by decide +kernel)) (hts (.instanceMethod objectInit) (by decide +kernel)) (hts (.code objectInit ⟨#[0xb1]⟩ 1 none) (List.mem_of_getElem? (i := 3) rfl)) rfl (by rw [hml]; exact hl.1) rfl dX1_init_1 (Nat.le_of_ble_eq_true rfl) (Nat.le_of_ble_eq_true rfl) ?_
  refine W.eq (g2 := F0 m 4 ls []) rfl ?_
  refine lv_aload_n hx hb dX1_init_4 rfl (lv_at hl 0 rfl) ?_
  refine lv_iconst (v := 0) hx hb dX1_init_5 (by decide) ?_
  refine va_put (D := (dC, dI)) (ci := 1) (v := .int 0) (ty := .boolean) (C := RX1) (T := TX1) (N := 8) hx hb hts hiX1 tyX1 tyX1_ok nmX1 hown hK hP hD hS 0 rfl rfl 1 (by decide) lk9 (fun _ h9 => h9) rfl (by decide +kernel) rfl rfl (Nat.le_of_ble_eq_true rfl) dX1_init_6 (fun H locs hP hD hS => ?_)
  replace hP : va_P (dC, dI) vwCl [(a1, .inr (1, [.null, .int 0, .int 0, .null, .null, .int 0, .int 0, .int 0]))] H := hP
  replace hD : va_D A [(a1, .inr (1, [.null, .int 0, .int 0, .null, .null, .int 0, .int 0, .int 0]))] := hD
  refine lv_aload_n hx hb dX1_init_9 rfl (lv_at hl 0 rfl) ?_
  refine lv_iconst (v := 0) hx hb dX1_init_10 (by decide) ?_
  refine va_put (D := (dC, dI)) (ci := 1) (v := .int 0) (ty := .boolean) (C := RX1) (T := TX1) (N := 8) hx hb hts hiX1 tyX1 tyX1_ok nmX1 hown hK hP hD hS 0 rfl rfl 2 (by decide) lk15 (fun _ h9 => h9) rfl (by decide +kernel) rfl rfl (Nat.le_of_ble_eq_true rfl) dX1_init_11 (fun H locs hP hD hS => ?_)
  replace hP : va_P (dC, dI) vwCl [(a1, .inr (1, [.null, .int 0, .int 0, .null, .null, .int 0, .int 0, .int 0]))] H := hP
  replace hD : va_D A [(a1, .inr (1, [.null, .int 0, .int 0, .null, .null, .int 0, .int 0, .int 0]))] := hD
  refine lv_aload_n hx hb dX1_init_14 rfl (lv_at hl 0 rfl) ?_
  refine lv_bipush (v := 20) hx hb dX1_init_15 (by decide) ?_
  refine va_newa (atype := .int) (ty := .int) (N' := 20) (a0 := (20, .inl (fun _ => 0))) hx hb (hts (.arrayClass .int) (by decide +kernel)) rfl hK hP hD hS hA (fun cA => vp_cell_i cA 20 (fun _ => 0)) (by decide) (by decide) (by decide) (Nat.le_of_ble_eq_true rfl) (Nat.le_of_ble_eq_true rfl) dX1_init_17 (fun q1 cA H hK1 hP hD hS => ?_)
  have hu : cA = cyI := uncyI hK hK1
  rw [hu] at hP hD
  clear hK1 hu
  replace hP : va_P (dC, dI) vwCl [(a1, .inr (1, [.null, .int 0, .int 0, .null, .null, .int 0, .int 0, .int 0])), (q1, .inl (cyI, 20, .inl (fun _ => 0)))] H := hP
  replace hD : va_D A [(a1, .inr (1, [.null, .int 0, .int 0, .null, .null, .int 0, .int 0, .int 0])), (q1, .inl (cyI, 20, .inl (fun _ => 0)))] := hD
  refine W.widen (k := 1) (n := 20) (by decide) (by decide) ?_
  refine va_putF (D := (dC, dI)) (ci := 1) (v := .ref q1) (ty := (.array .int)) (C := RX1) (T := TX1) (N := 8) hx hb hts hiX1 tyX1 tyX1_ok nmX1 hown hK hP hD hS 0 rfl rfl 3 (by decide) lk18 (fun _ h9 => h9) rfl hin rfl (by decide +kernel) rfl rfl (Nat.le_of_ble_eq_true rfl) dX1_init_19 (fun H locs hP hD hS => ?_)
  replace hP : va_P (dC, dI) vwCl [(a1, .inr (1, [.null, .int 0, .int 0, .ref q1, .null, .int 0, .int 0, .int 0])), (q1, .inl (cyI, 20, .inl (fun _ => 0)))] H := hP
  replace hD : va_D A [(a1, .inr (1, [.null, .int 0, .int 0, .ref q1, .null, .int 0, .int 0, .int 0])), (q1, .inl (cyI, 20, .inl (fun _ => 0)))] := hD
  refine lv_aload_n hx hb dX1_init_22 rfl (lv_at hl 0 rfl) ?_
  refine lv_bipush (v := 20) hx hb dX1_init_23 (by decide) ?_
  refine va_newa (atype := .int) (ty := .int) (N' := 20) (a0 := (20, .inl (fun _ => 0))) hx hb (hts (.arrayClass .int) (by decide +kernel)) rfl hK hP hD hS hA (fun cA => vp_cell_i cA 20 (fun _ => 0)) (by decide) (by decide) (by decide) (Nat.le_of_ble_eq_true rfl) (Nat.le_of_ble_eq_true rfl) dX1_init_25 (fun q2 cA H hK1 hP hD hS => ?_)
  have hu : cA = cyI := uncyI hK hK1
  rw [hu] at hP hD
  clear hK1 hu
  replace hP : va_P (dC, dI) vwCl [(a1, .inr (1, [.null, .int 0, .int 0, .ref q1, .null, .int 0, .int 0, .int 0])), (q1, .inl (cyI, 20, .inl (fun _ => 0))), (q2, .inl (cyI, 20, .inl (fun _ => 0)))] H := hP
  replace hD : va_D A [(a1, .inr (1, [.null, .int 0, .int 0, .ref q1, .null, .int 0, .int 0, .int 0])), (q1, .inl (cyI, 20, .inl (fun _ => 0))), (q2, .inl (cyI, 20, .inl (fun _ => 0)))] := hD
  refine W.widen (k := 2) (n := 40) (by decide) (by decide) ?_
  refine va_putF (D := (dC, dI)) (ci := 1) (v := .ref q2) (ty := (.array .int)) (C := RX1) (T := TX1) (N := 8) hx hb hts hiX1 tyX1 tyX1_ok nmX1 hown hK hP hD hS 0 rfl rfl 4 (by decide) lk22 (fun _ h9 => h9) rfl hin rfl (by decide +kernel) rfl rfl (Nat.le_of_ble_eq_true rfl) dX1_init_27 (fun H locs hP hD hS => ?_)
  replace hP : va_P (dC, dI) vwCl [(a1, .inr (1, [.null, .int 0, .int 0, .ref q1, .ref q2, .int 0, .int 0, .int 0])), (q1, .inl (cyI, 20, .inl (fun _ => 0))), (q2, .inl (cyI, 20, .inl (fun _ => 0)))] H := hP
  replace hD : va_D A [(a1, .inr (1, [.null, .int 0, .int 0, .ref q1, .ref q2, .int 0, .int 0, .int 0])), (q1, .inl (cyI, 20, .inl (fun _ => 0))), (q2, .inl (cyI, 20, .inl (fun _ => 0)))] := hD
  refine lv_aload_n hx hb dX1_init_30 rfl (lv_at hl 0 rfl) ?_
  refine lv_iconst (v := 0) hx hb dX1_init_31 (by decide) ?_
  refine va_put (D := (dC, dI)) (ci := 1) (v := .int 0) (ty := .int) (C := RX1) (T := TX1) (N := 8) hx hb hts hiX1 tyX1 tyX1_ok nmX1 hown hK hP hD hS 0 rfl rfl 5 (by decide) lk25 (fun _ h9 => h9) rfl (by decide +kernel) rfl rfl (Nat.le_of_ble_eq_true rfl) dX1_init_32 (fun H locs hP hD hS => ?_)
  replace hP : va_P (dC, dI) vwCl [(a1, .inr (1, [.null, .int 0, .int 0, .ref q1, .ref q2, .int 0, .int 0, .int 0])), (q1, .inl (cyI, 20, .inl (fun _ => 0))), (q2, .inl (cyI, 20, .inl (fun _ => 0)))] H := hP
  replace hD : va_D A [(a1, .inr (1, [.null, .int 0, .int 0, .ref q1, .ref q2, .int 0, .int 0, .int 0])), (q1, .inl (cyI, 20, .inl (fun _ => 0))), (q2, .inl (cyI, 20, .inl (fun _ => 0)))] := hD
  refine lv_aload_n hx hb dX1_init_35 rfl (lv_at hl 0 rfl) ?_
  refine lv_iconst (v := 0) hx hb dX1_init_36 (by decide) ?_
  refine va_put (D := (dC, dI)) (ci := 1) (v := .int 0) (ty := .int) (C := RX1) (T := TX1) (N := 8) hx hb hts hiX1 tyX1 tyX1_ok nmX1 hown hK hP hD hS 0 rfl rfl 6 (by decide) lk29 (fun _ h9 => h9) rfl (by decide +kernel) rfl rfl (Nat.le_of_ble_eq_true rfl) dX1_init_37 (fun H locs hP hD hS => ?_)
  replace hP : va_P (dC, dI) vwCl [(a1, .inr (1, [.null, .int 0, .int 0, .ref q1, .ref q2, .int 0, .int 0, .int 0])), (q1, .inl (cyI, 20, .inl (fun _ => 0))), (q2, .inl (cyI, 20, .inl (fun _ => 0)))] H := hP
  replace hD : va_D A [(a1, .inr (1, [.null, .int 0, .int 0, .ref q1, .ref q2, .int 0, .int 0, .int 0])), (q1, .inl (cyI, 20, .inl (fun _ => 0))), (q2, .inl (cyI, 20, .inl (fun _ => 0)))] := hD
  refine lv_aload_n hx hb dX1_init_40 rfl (lv_at hl 0 rfl) ?_
  refine lv_iconst (v := 0) hx hb dX1_init_41 (by decide) ?_
  refine va_put (D := (dC, dI)) (ci := 1) (v := .int 0) (ty := .int) (C := RX1) (T := TX1) (N := 8) hx hb hts hiX1 tyX1 tyX1_ok nmX1 hown hK hP hD hS 0 rfl rfl 7 (by decide) lk32 (fun _ h9 => h9) rfl (by decide +kernel) rfl rfl (Nat.le_of_ble_eq_true rfl) dX1_init_42 (fun H locs hP hD hS => ?_)
  replace hP : va_P (dC, dI) vwCl [(a1, .inr (1, [.null, .int 0, .int 0, .ref q1, .ref q2, .int 0, .int 0, .int 0])), (q1, .inl (cyI, 20, .inl (fun _ => 0))), (q2, .inl (cyI, 20, .inl (fun _ => 0)))] H := hP
  replace hD : va_D A [(a1, .inr (1, [.null, .int 0, .int 0, .ref q1, .ref q2, .int 0, .int 0, .int 0])), (q1, .inl (cyI, 20, .inl (fun _ => 0))), (q2, .inl (cyI, 20, .inl (fun _ => 0)))] := hD
  refine lv_aload_n hx hb dX1_init_45 rfl (lv_at hl 0 rfl) ?_
  refine lv_aload_n hx hb dX1_init_46 rfl (lv_at hl 1 rfl) ?_
  refine va_putF (D := (dC, dI)) (ci := 1) (v := .ref a2) (ty := (.object "StallBook$Chapter")) (C := RX1) (T := TX1) (N := 8) hx hb hts hiX1 tyX1 tyX1_ok nmX1 hown hK hP hD hS 0 rfl rfl 0 (by decide) lk35 (fun _ h9 => h9) rfl hin rfl (by decide +kernel) rfl rfl (Nat.le_of_ble_eq_true rfl) dX1_init_47 (fun H locs hP hD hS => ?_)
  replace hP : va_P (dC, dI) vwCl [(a1, .inr (1, [.ref a2, .int 0, .int 0, .ref q1, .ref q2, .int 0, .int 0, .int 0])), (q1, .inl (cyI, 20, .inl (fun _ => 0))), (q2, .inl (cyI, 20, .inl (fun _ => 0)))] H := hP
  replace hD : va_D A [(a1, .inr (1, [.ref a2, .int 0, .int 0, .ref q1, .ref q2, .int 0, .int 0, .int 0])), (q1, .inl (cyI, 20, .inl (fun _ => 0))), (q2, .inl (cyI, 20, .inl (fun _ => 0)))] := hD
  refine W.widen (k := 2) (n := 40) (by decide) (by decide) ?_
  exact W.vret hx hb hr (fun t ht _ => ⟨⟨(q1, q2), rfl, trivial, by rw [ht]; exact hP, hD⟩, hS.F ht⟩) hS.2.2 dX1_init_50
