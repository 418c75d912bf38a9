theorem nestFs_in : ∀ q ∈ nestFs, Cond.fieldLinkNest q.1 q.2.1 q.2.2.1 q.2.2.2.1 q.2.2.2.2 "StallBook" ∈ lw_tbl := by decide +kernel
theorem nestMs_in : ∀ q ∈ nestMs, Cond.methodLinkNest q.1 q.2.1 q.2.2 "StallBook" ∈ lw_tbl := by decide +kernel
theorem law_nN {s : State} {b : Nat} (hts : ∀ w ∈ lw_tbl, w.before #[Value.ref b] s = true) : nN s := ⟨fun q hq => va_Nw.of rfl (hts _ (nestFs_in q hq)), fun q hq => va_Nw.of rfl (hts _ (nestMs_in q hq))⟩
theorem law_arr {s : State} {args : Array Value} {ty : FieldType} (h : (Cond.arrayClass ty).before args s = true) : ∃ cA : ClassId, ArrOfT s cA ty ∧ s.vm.findClass ("[" ++ ty.toString) = some cA := by
  obtain ⟨cA, kA, comp, h1, h2, h3⟩ := Cond.arrayClass_spec h
  exact ⟨cA, fun n z => ⟨fun k h => (by cases h), kA, h2, comp, h3⟩, h1⟩
set_option maxRecDepth 20000 in
theorem law_K {s : State} {b : Nat} (hts : ∀ w ∈ lw_tbl, w.before #[Value.ref b] s = true) : ∃ (dC : Nat → ClassId) (dI : Nat → Nat → Nat) (cyI cyZ cyB : ClassId), va_K (dC, dI) vwCl [(cyI, .int), (cyZ, .boolean), (cyB, .byte)] s := by
  obtain ⟨c0, i0, k0⟩ := u_known (C := RX0) (T := TX0) (N := 5) (n := 5) hts inX0 (hts (.instantiable RX0 5) (by decide +kernel))
  obtain ⟨c1, i1, k1⟩ := u_known (C := RX1) (T := TX1) (N := 8) (n := 8) hts inX1 (hts (.instantiable RX1 8) (by decide +kernel))
  obtain ⟨c2, i2, k2⟩ := u_known (C := RX2) (T := TX2) (N := 12) (n := 12) hts inX2 (hts (.instantiable RX2 12) (by decide +kernel))
  obtain ⟨c3, i3, k3⟩ := u_known (C := RX3) (T := TX3) (N := 9) (n := 9) hts inX3 (hts (.instantiable RX3 9) (by decide +kernel))
  obtain ⟨c4, i4, k4⟩ := u_known (C := RX4) (T := TX4) (N := 7) (n := 7) hts inX4 (hts (.instantiable RX4 7) (by decide +kernel))
  obtain ⟨c5, i5, k5⟩ := u_known (C := RX5) (T := TX5) (N := 5) (n := 5) hts inX5 (hts (.instantiable RX5 5) (by decide +kernel))
  obtain ⟨c6, i6, k6⟩ := u_known (C := RX6) (T := TX6) (N := 2) (n := 2) hts inX6 (hts (.instantiable RX6 2) (by decide +kernel))
  obtain ⟨c7, i7, k7⟩ := u_known (C := RX7) (T := TX7) (N := 8) (n := 8) hts inX7 (hts (.instantiable RX7 8) (by decide +kernel))
  obtain ⟨c8, i8, k8⟩ := u_known (C := RX8) (T := TX8) (N := 51) (n := 51) hts inX8 (hts (.instantiable RX8 51) (by decide +kernel))
  obtain ⟨cyI, hI1, hI2⟩ := law_arr (hts (.arrayClass .int) (by decide +kernel))
  obtain ⟨cyZ, hZ1, hZ2⟩ := law_arr (hts (.arrayClass .boolean) (by decide +kernel))
  obtain ⟨cyB, hB1, hB2⟩ := law_arr (hts (.arrayClass .byte) (by decide +kernel))
  refine ⟨fun k => match k with | 0 => c0 | 1 => c1 | 2 => c2 | 3 => c3 | 4 => c4 | 5 => c5 | 6 => c6 | 7 => c7 | _ => c8, fun k => match k with | 0 => i0 | 1 => i1 | 2 => i2 | 3 => i3 | 4 => i4 | 5 => i5 | 6 => i6 | 7 => i7 | _ => i8, cyI, cyZ, cyB, ?_, ?_⟩
  · intro k q hq
    match k, hq with
    | 0, hq => cases hq; exact k0
    | 1, hq => cases hq; exact k1
    | 2, hq => cases hq; exact k2
    | 3, hq => cases hq; exact k3
    | 4, hq => cases hq; exact k4
    | 5, hq => cases hq; exact k5
    | 6, hq => cases hq; exact k6
    | 7, hq => cases hq; exact k7
    | 8, hq => cases hq; exact k8
    | k + 9, hq => simp [vwCl] at hq
  · intro k q hq
    match k, hq with
    | 0, hq => cases hq; exact ⟨hI1, hI2⟩
    | 1, hq => cases hq; exact ⟨hZ1, hZ2⟩
    | 2, hq => cases hq; exact ⟨hB1, hB2⟩
    | k + 3, hq => simp at hq
theorem len_small {args : Array Value} {s : State} {t : Term} {v : Value} {b : Nat} {cell : Cell} (hv : (Term.length t).eval args s none [] s = some v) (ht : t.eval args s none [] s = some (.ref b)) (harr : s.arrayAt? b = some cell) : cell.slots.size < 2 ^ 31 := by
  simp only [Term.eval, ht, harr, Option.bind_eq_bind, Option.bind_some] at hv
  by_cases hlt : cell.slots.size < 2147483648
  · exact hlt
  · simp [hlt] at hv
theorem arr_ext {cI : ClassId} {N : Nat} {f g : Nat → Value} (h : ∀ j, j < N → f j = g j) : arrV cI N f = arrV cI N g := by
  have e : (fun j : Fin N => f j.val) = (fun j : Fin N => g j.val) := funext (fun j => h j.val j.isLt)
  unfold arrV
  rw [e]
theorem at_eq {D : va_G} {cl : List vw_C} {a : Nat} {cy : ClassId} {n : Nat} {f g : Nat → Int32} {H : Heap} (h : ∀ j, j < n → f j = g j) (hq : va_at D cl (a, .inl (cy, n, .inl f)) H) : va_at D cl (a, .inl (cy, n, .inl g)) H := by
  have e : vp_cell cy (n, .inl f) = vp_cell cy (n, .inl g) := by
    rw [vp_cell_i, vp_cell_i]
    exact arr_ext (fun j hj => by rw [h j hj])
  have hq' : H[a]? = some (vp_cell cy (n, .inl f)) := hq
  rw [e] at hq'
  exact hq'
theorem law_s13 {s : State} {b : Nat} {nm : String} {f : Nat → Int32} (hl : (Cond.laysStatic "StallBook" nm "[I").before #[Value.ref b] s = true) (hini : (Cond.initialized "StallBook").before #[Value.ref b] s = true) (harr : (Cond.arrayOf (.static "StallBook" nm "[I") .int).before #[Value.ref b] s = true) (hlen0 : (Cond.eq (.length (.static "StallBook" nm "[I")) (.int 13)).before #[Value.ref b] s = true) (hel0 : ∀ j : Nat, j < 13 → (Cond.eq (.elem (.static "StallBook" nm "[I") (.int (Int32.ofNat j))) (.int (f j))).before #[Value.ref b] s = true) : ∃ t : Nat, va_Z "StallBook" nm "[I" (.ref t) (fun q => s.heap.size ≤ q) s s.heap ∧ va_X t 13 f s s.heap ∧ t < s.heap.size ∧ ¬ (fun q => s.heap.size ≤ q) t := by
  have hlen : (Term.length (.static "StallBook" nm "[I")).eval #[Value.ref b] s none [] s = some (.int (Int32.ofNat 13)) := va_eqt hlen0
  have hel : ∀ j : Nat, j < 13 → (Term.elem (.static "StallBook" nm "[I") (.int (Int32.ofNat j))).eval #[Value.ref b] s none [] s = some (.int (f j)) := fun j hj => va_eqt (hel0 j hj)
  have hA : ∀ a : Nat, a < s.heap.size → ¬ (fun q => s.heap.size ≤ q) a := fun a h => Nat.not_le.mpr h
  obtain ⟨t, ht, cell, hc, hof, hkn, hge, hsz, hv, hnA⟩ := va_Tof (f := fun j => .int (f j)) (A := fun q => s.heap.size ≤ q) (by decide) harr hlen hel hA
  obtain ⟨t', cell', ht', hat, -⟩ := Term.length_spec hlen
  have he : t' = t := Value.ref.inj (Option.some.inj (ht'.symm.trans ht))
  subst he
  obtain ⟨hcell', -, -, -⟩ := State.arrayAt?_spec hat
  have hcc : cell' = cell := Option.some.inj (hcell'.symm.trans hc)
  subst hcc
  have hsm : cell'.slots.size < 2 ^ 31 := len_small hlen ht' hat
  have h13 : cell'.slots.size = 13 := (nI_eq hsm (by decide)).mp hsz
  refine ⟨t', va_Zref hl hini ht hA, ⟨cell', hc, hof, hkn, h13, hv⟩, ?_, hnA⟩
  exact (Array.getElem?_eq_some_iff.mp hc).1
def tmS (i : Nat) : Term := .string "StallBook$Reader" (100 + 2 * i)
theorem en_w : ∀ j, j < 13 → Cond.eq (.elem (.static "StallBook" "WITHOUT" "[I") (.int (Int32.ofNat j))) (.int (fW j)) ∈ flatC (Jvm.Cond.and given_1 narrow_1) := by decide +kernel
theorem en_h : ∀ j, j < 13 → Cond.eq (.elem (.static "StallBook" "HIGHEST" "[I") (.int (Int32.ofNat j))) (.int (fH j)) ∈ flatC (Jvm.Cond.and given_1 narrow_1) := by decide +kernel
theorem en_1 : ∀ i, i < 7 → Cond.exactly (tmS i) "java/lang/String" ∈ flatC (Jvm.Cond.and given_1 narrow_1) := by decide +kernel
theorem en_2 : ∀ i, i < 7 → Cond.eq (.field (tmS i) "java/lang/String" "coder" "B") (.int 0) ∈ flatC (Jvm.Cond.and given_1 narrow_1) := by decide +kernel
theorem en_3 : ∀ i, i < 7 → Cond.arrayOf (.field (tmS i) "java/lang/String" "value" "[B") .byte ∈ flatC (Jvm.Cond.and given_1 narrow_1) := by decide +kernel
theorem en_4 : ∀ i, i < 7 → Cond.eq (.length (.field (tmS i) "java/lang/String" "value" "[B")) (.int (Int32.ofNat (sLen.getD i 0))) ∈ flatC (Jvm.Cond.and given_1 narrow_1) := by decide +kernel
theorem en_5 : ∀ i, i < 7 → ∀ j, j < sLen.getD i 0 → Cond.eq (.elem (.field (tmS i) "java/lang/String" "value" "[B") (.int (Int32.ofNat j))) (.int ((sByt.getD i []).getD j 0)) ∈ flatC (Jvm.Cond.and given_1 narrow_1) := by decide +kernel
theorem en_6 : ∀ i, i < 7 → ∀ j, j < 7 → i ≠ j → Cond.not (Cond.eq (tmS i) (tmS j)) ∈ flatC (Jvm.Cond.and given_1 narrow_1) ∨ Cond.not (Cond.eq (tmS j) (tmS i)) ∈ flatC (Jvm.Cond.and given_1 narrow_1) := by decide +kernel
theorem en_7 : ∀ i, i < 7 → Cond.stringRef "StallBook$Reader" (100 + 2 * i) (sTx.getD i (0, "")).2 ∈ lw_tbl := by decide +kernel
set_option maxRecDepth 20000 in
theorem law_eN {s : State} {b : Nat} (hts : ∀ w ∈ lw_tbl, w.before #[Value.ref b] s = true) (hgv : (Jvm.Cond.and given_1 narrow_1).before #[Value.ref b] s = true) : ∃ (tW tH : Nat) (adK adV : Nat → Nat), eN tW tH adK adV (fun q => s.heap.size ≤ q) s := by
  have hs := flat_of_before _ hgv
  have hA : ∀ a : Nat, a < s.heap.size → ¬ (fun q => s.heap.size ≤ q) a := fun a h => Nat.not_le.mpr h
  obtain ⟨tW, hW⟩ := law_s13 (nm := "WITHOUT") (f := fW) (hts _ (by decide +kernel)) (hts _ (by decide +kernel)) (hs _ (by decide +kernel)) (hs _ (by decide +kernel)) (fun j hj => hs _ (en_w j hj))
  obtain ⟨tH, hH⟩ := law_s13 (nm := "HIGHEST") (f := fH) (hts _ (by decide +kernel)) (hts _ (by decide +kernel)) (hs _ (by decide +kernel)) (hs _ (by decide +kernel)) (fun j hj => hs _ (en_h j hj))
  obtain ⟨adK, adV, hS, hev⟩ := vk_Sof (args := #[Value.ref b]) (s := s) (N := 7) (tm := tmS) (len := sLen) (byt := sByt) (A := fun q => s.heap.size ≤ q) (by decide) (fun i hi => hs _ (en_1 i hi)) (fun i hi => hs _ (en_2 i hi)) (fun i hi => hs _ (en_3 i hi)) (fun i hi => hs _ (en_4 i hi)) (fun i hi j hj => hs _ (en_5 i hi j hj)) (fun i j hi hj hij => (en_6 i hi j hj hij).imp (hs _) (hs _)) hA
  refine ⟨tW, tH, adK, adV, hW, hH, va_Zof (hts _ (by decide +kernel)) (hts _ (by decide +kernel)) (va_eqt (hs _ (by decide +kernel))) hA, va_Zqof (hts _ (by decide +kernel)) (hts _ (by decide +kernel)) (hs _ (by decide +kernel)) hA, hS, ?_⟩
  intro i q hq
  have hi : i < 7 := (List.getElem?_eq_some_iff.mp hq).1
  have h7 := hts _ (en_7 i hi)
  have h8 := hev i hi
  rcases (show i = 0 ∨ i = 1 ∨ i = 2 ∨ i = 3 ∨ i = 4 ∨ i = 5 ∨ i = 6 by omega) with rfl | rfl | rfl | rfl | rfl | rfl | rfl <;> (cases hq; exact vk_R.of h7 h8)
