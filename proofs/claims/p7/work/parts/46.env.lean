/-! what stands outside the cells: WITHOUT, HIGHEST, the words' Strings, COMPACT_STRINGS, the formatter -/
def fH : Nat → Int32 := fun j => ([9, 9, 9, 9, 100, 9, 9, 9, 9, 9, 9, 9, 9] : List Int32).getD j 0
def sH (tH : Nat) (A : Nat → Prop) (U : State) : Prop := va_Z "StallBook" "HIGHEST" "[I" (.ref tH) A U U.heap ∧ va_X tH 13 fH U U.heap ∧ tH < U.heap.size ∧ ¬ A tH
def sLen : List Nat := [5, 4, 3, 8, 6, 5, 4]
def sByt : List (List Int32) := [[99, 104, 111, 105, 114], [108, 97, 116, 101], [105, 108, 108], [98, 117, 115, 105, 110, 101, 115, 115], [113, 117, 111, 114, 117, 109], [112, 114, 111, 120, 121], [104, 111, 117, 114]]
def sTx : List (Nat × String) := [(100, "choir"), (102, "late"), (104, "ill"), (106, "business"), (108, "quorum"), (110, "proxy"), (112, "hour")]
def eN (tW tH : Nat) (adK adV : Nat → Nat) (A : Nat → Prop) (U : State) : Prop := sX tW A U ∧ sH tH A U ∧ va_Z "java/lang/String" "COMPACT_STRINGS" "Z" (.int 1) A U U.heap ∧ va_Zq "jdk/internal/util/Preconditions" "SIOOBE_FORMATTER" "Ljava/util/function/BiFunction;" A U U.heap ∧ vk_S 7 sLen sByt adK adV A U U.heap ∧ ∀ (i : Nat) (q : Nat × String), sTx[i]? = some q → vk_R "StallBook$Reader" q.1 q.2 (adK i) U
theorem eN_calling {tW tH : Nat} {adK adV : Nat → Nat} {A : Nat → Prop} {U V : State} (hv : V.vm = U.vm) (hh : V.heap = U.heap) (h : eN tW tH adK adV A U) : eN tW tH adK adV A V := by
  have hal : U.vm.Alike V.vm := by rw [hv]; exact Vm.Alike.refl U.vm
  obtain ⟨⟨a1, a2, a3, a4⟩, ⟨b1, b2, b3, b4⟩, c1, d1, e1, f1⟩ := h
  refine ⟨⟨?_, ?_, ?_, a4⟩, ⟨?_, ?_, ?_, b4⟩, ?_, ?_, ?_, fun i q hq => vk_R.same hv (f1 i q hq)⟩
  · rw [hh]; exact a1.moved hal
  · rw [hh]; exact va_X_moved hal a2
  · rw [hh]; exact a3
  · rw [hh]; exact b1.moved hal
  · rw [hh]; exact va_X_moved hal b2
  · rw [hh]; exact b3
  · rw [hh]; exact c1.moved hal
  · rw [hh]; exact d1.moved hal
  · rw [hh]; exact e1.moved hal
theorem eN_here {tW tH : Nat} {adK adV : Nat → Nat} {A B : Nat → Prop} {s U : State} {H : Heap} {locs : List Loc} (hS : va_S A s.heap H locs) (hAB : ∀ q, B q → A q) (hU : U.heap = H) (hW : s.WarmedH U.vm) (h : eN tW tH adK adV A s) : eN tW tH adK adV B U := by
  have hal := hW.alike
  obtain ⟨⟨a1, ⟨r1, x1, x2, x3, x4, x5⟩, a3, a4⟩, ⟨b1, ⟨r2, y1, y2, y3, y4, y5⟩, b3, b4⟩, c1, d1, e1, f1⟩ := h
  have hq : ∀ q : Nat, q < s.heap.size → ¬ A q → H[q]? = s.heap[q]? := hS.2.1
  refine ⟨⟨?_, ?_, ?_, fun h => a4 (hAB _ h)⟩, ⟨?_, ?_, ?_, fun h => b4 (hAB _ h)⟩, ?_, ?_, ?_, fun i q hq => vk_R.warm hW (f1 i q hq)⟩
  · rw [hU]; exact ((a1.kept hq).moved hal).narrow hAB
  · rw [hU]; exact va_X_moved hal ⟨r1, (hq _ a3 a4).trans x1, x2, x3, x4, x5⟩
  · rw [hU]; exact Nat.lt_of_lt_of_le a3 hS.1
  · rw [hU]; exact ((b1.kept hq).moved hal).narrow hAB
  · rw [hU]; exact va_X_moved hal ⟨r2, (hq _ b3 b4).trans y1, y2, y3, y4, y5⟩
  · rw [hU]; exact Nat.lt_of_lt_of_le b3 hS.1
  · rw [hU]; exact ((c1.kept hq).moved hal).narrow hAB
  · rw [hU]; exact ((d1.kept hq).moved hal).narrow hAB
  · rw [hU]; exact ((e1.kept hq).moved hal).narrow hAB
def MPreE (D : va_G) (tys : List (ClassId × FieldType)) (av : List Value) (sz : Nat) (ws : va_W) (tW tH : Nat) (adK adV : Nat → Nat) : Array Value → State → Prop := va_Pc av (fun U => U.heap.size = sz ∧ va_P D vwCl ws U.heap ∧ va_K D vwCl tys U ∧ va_D (fun _ => True) ws ∧ nN U ∧ eN tW tH adK adV (va_A ws sz) U)
theorem MPreE_blind {D : va_G} {tys : List (ClassId × FieldType)} {av : List Value} {sz tW tH : Nat} {adK adV : Nat → Nat} {ws : va_W} : FrameBlind (MPreE D tys av sz ws tW tH adK adV) := by
  intro a U g mk hq
  obtain ⟨q0, q1, qP, qK, qD, qN, qE⟩ := hq
  exact ⟨q0, q1, qP, va_K.moved (u := U) (U := U.calling g mk a) (Vm.Alike.refl U.vm) qK, qD, nN_same rfl qN, eN_calling rfl rfl qE⟩
theorem MPreE_here {D : va_G} {tys : List (ClassId × FieldType)} {av : List Value} {ws wc : va_W} {s : State} {H : Heap} {A : Nat → Prop} {tW tH : Nat} {adK adV : Nat → Nat} {locs : List Loc} (isC : List Nat) (hP : va_P D vwCl ws H) (hD : va_D A ws) (hK : va_K D vwCl tys s) (hN : nN s) (hE : eN tW tH adK adV A s) (hS : va_S A s.heap H locs) (hA : ∀ q, s.heap.size ≤ q → A q) (hn : va_nd isC = true) (hC : isC.map (fun i => ws[i]?) = wc.map some) (hC2 : isC.filterMap (fun i => ws[i]?) = wc) :
    ∀ U : State, U.heap = H → s.WarmedH U.vm → MPreE D tys av H.size wc tW tH adK adV av.toArray U := by
  intro U hU hWm
  have hF := va_free (wc := wc) hD hS hA isC hC
  exact ⟨rfl, by rw [hU], by rw [hU]; exact hP.sub isC hC2, va_K.moved hWm.alike hK, (hD.sub isC hn hC).weaken (fun _ _ _ _ => trivial), nN_warm hWm hN, eN_here hS hF hU hWm hE⟩
