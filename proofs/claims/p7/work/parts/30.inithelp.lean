theorem uncyI {D : va_G} {cl : List vw_C} {cyI cyZ cyB cA : ClassId} {s : State} (h : va_K D cl [(cyI, .int), (cyZ, .boolean), (cyB, .byte)] s) (h1 : va_K D cl ([(cyI, .int), (cyZ, .boolean), (cyB, .byte)] ++ [(cA, .int)]) s) : cA = cyI := Option.some.inj ((h1.2 3 _ rfl).2.symm.trans (h.2 0 _ rfl).2)
theorem uncyZ {D : va_G} {cl : List vw_C} {cyI cyZ cyB cA : ClassId} {s : State} (h : va_K D cl [(cyI, .int), (cyZ, .boolean), (cyB, .byte)] s) (h1 : va_K D cl ([(cyI, .int), (cyZ, .boolean), (cyB, .byte)] ++ [(cA, .boolean)]) s) : cA = cyZ := Option.some.inj ((h1.2 3 _ rfl).2.symm.trans (h.2 1 _ rfl).2)
theorem uncyB {D : va_G} {cl : List vw_C} {cyI cyZ cyB cA : ClassId} {s : State} (h : va_K D cl [(cyI, .int), (cyZ, .boolean), (cyB, .byte)] s) (h1 : va_K D cl ([(cyI, .int), (cyZ, .boolean), (cyB, .byte)] ++ [(cA, .byte)]) s) : cA = cyB := Option.some.inj ((h1.2 3 _ rfl).2.symm.trans (h.2 2 _ rfl).2)
def fW : Nat → Int32 := fun j => ([2, 1, 2, 1, 50, 2, 1, 1, 1, 1, 1, 1, 1] : List Int32).getD j 0
def sX (tW : Nat) (A : Nat → Prop) (U : State) : Prop := va_Z "StallBook" "WITHOUT" "[I" (.ref tW) A U U.heap ∧ va_X tW 13 fW U U.heap ∧ tW < U.heap.size ∧ ¬ A tW
def MPreS (D : va_G) (tys : List (ClassId × FieldType)) (av : List Value) (sz : Nat) (ws : va_W) (tW : Nat) : Array Value → State → Prop := va_Pc av (fun U => U.heap.size = sz ∧ va_P D vwCl ws U.heap ∧ va_K D vwCl tys U ∧ va_D (fun _ => True) ws ∧ nN U ∧ sX tW (va_A ws sz) U)
theorem va_X_moved {b L : Nat} {xs : Nat → Int32} {u U : State} {H : Heap} (hvm : u.vm.Alike U.vm) (h : va_X b L xs u H) : va_X b L xs U H := by
  obtain ⟨scr, h1, h2, h3, h4, h5⟩ := h
  exact ⟨scr, h1, State.isArrayOf_alike hvm h2, h3, h4, h5⟩
theorem MPreS_blind {D : va_G} {tys : List (ClassId × FieldType)} {av : List Value} {sz tW : Nat} {ws : va_W} : FrameBlind (MPreS D tys av sz ws tW) := by
  intro a U g mk hq
  obtain ⟨q0, q1, qP, qK, qD, qN, qZ, qX, ql, qA⟩ := hq
  exact ⟨q0, q1, qP, va_K.moved (u := U) (U := U.calling g mk a) (Vm.Alike.refl U.vm) qK, qD, nN_same rfl qN, va_Z.moved (u := U) (U := U.calling g mk a) (Vm.Alike.refl U.vm) qZ, va_X_moved (u := U) (U := U.calling g mk a) (Vm.Alike.refl U.vm) qX, ql, qA⟩
theorem MPreS_here {D : va_G} {tys : List (ClassId × FieldType)} {av : List Value} {ws wc : va_W} {s : State} {H : Heap} {A : Nat → Prop} {tW : Nat} {locs : List Loc} (isC : List Nat) (hP : va_P D vwCl ws H) (hD : va_D A ws) (hK : va_K D vwCl tys s) (hN : nN s) (hW : sX tW A s) (hS : va_S A s.heap H locs) (hA : ∀ q, s.heap.size ≤ q → A q) (hn : va_nd isC = true) (hC : isC.map (fun i => ws[i]?) = wc.map some) (hC2 : isC.filterMap (fun i => ws[i]?) = wc) :
    ∀ U : State, U.heap = H → s.WarmedH U.vm → MPreS D tys av H.size wc tW av.toArray U := by
  intro U hU hWm
  have hF := va_free (wc := wc) hD hS hA isC hC
  obtain ⟨wZ, ⟨scr, x1, x2, x3, x4, x5⟩, wl, wA⟩ := hW
  have hq : H[tW]? = s.heap[tW]? := hS.2.1 tW wl wA
  refine ⟨rfl, by rw [hU], by rw [hU]; exact hP.sub isC hC2, va_K.moved hWm.alike hK, (hD.sub isC hn hC).weaken (fun _ _ _ _ => trivial), nN_warm hWm hN, ?_, ?_, ?_, fun h => wA (hF _ h)⟩
  · rw [hU]
    exact (va_Z.moved hWm.alike (wZ.kept (fun q h1 h2 => hS.2.1 q h1 h2))).narrow hF
  · rw [hU]
    exact va_X_moved hWm.alike ⟨scr, hq.trans x1, x2, x3, x4, x5⟩
  · rw [hU]
    exact Nat.lt_of_lt_of_le wl hS.1
section
variable {p : Program} {l : Launch} {e : Env} {R : Room} {s : State} {m : MethodId} {args : Array Value} {below : List Frame} {meth : Method} {c : Code} {H H0 : Heap} {locs : List Loc} {cells slots mc ms : Nat} {Q : State → Prop} {pc : Nat} {ls : Array Slot} {st0 rest : List Value} {a : Array Value} {D : va_G} {cl : List vw_C} {A0 : Nat → Prop} {S : Type} {Ws Wc : va_W} {Wc' : S → va_W}
theorem mc_vn {post : S → Prop} (hP : va_P D cl Ws H) (hD : va_D A0 Ws) (hS : va_S A0 H0 H locs) (hA : ∀ q, H0.size ≤ q → A0 q) (isC isR perm : List Nat) (Wr : va_W) (W' : S → va_W)
    (hC : isC.map (fun i => Ws[i]?) = Wc.map some) (hR : isR.map (fun i => Ws[i]?) = Wr.map some) (hn : va_nd isR = true) (hdis : ∀ i ∈ isR, i ∉ isC) (hp1 : va_nd perm = true) (hp2 : ∀ u, perm.map (fun i => (Wr ++ Wc' u)[i]?) = (W' u).map some) (hp3 : ∀ u, perm.filterMap (fun i => (Wr ++ Wc' u)[i]?) = W' u)
    (hr : va_Run p l e R s m args below meth c H locs cells slots mc ms (F0 m pc ls st0) rest (va_Qv post (fun u t => va_P D cl (Wc' u) t.heap ∧ va_D (va_A Wc H.size) (Wc' u)) (va_A Wc H.size) a) (va_A Wc H.size))
    (kk : ∀ (u : S) (H1 : Heap) (locs1 : List Loc), post u → va_P D cl (W' u) H1 → va_D A0 (W' u) → va_S A0 H0 H1 locs1 → W p l e R s m args below meth c H1 locs1 (cells + mc) (slots + ms) Q (F0 m (pc + 3) ls rest)) : W p l e R s m args below meth c H locs cells slots Q (F0 m pc ls st0) := by
  have hF := va_free (wc := Wc) hD hS hA isC hC
  refine va_callv hr hS (fun q _ h => hF q h) hF (fun u t H1 locs1 ht hvm hw hB hz1 hk1 hS1 => ?_)
  obtain ⟨hP1, hD1⟩ := hB
  rw [ht] at hP1
  obtain ⟨hP2, hD2⟩ := va_join (wr := Wr) (w1 := Wc' u) hP hD isC isR hC hR hn hdis hk1 hF hP1 hD1
  exact kk u H1 locs1 hw (hP2.sub perm (hp3 u)) (hD2.sub perm hp1 (hp2 u)) hS1
end
theorem fill_lp (v : Int32) (N : Nat) (hN : N < 1000) (P : (Nat → Int32) → Prop) : ∀ (n i : Nat) (f : Nat → Int32), i ≤ N → N < i + n → (∀ j, j < i → f j = v) → lp_J7_fill_53178_5 v (nI N) N P (fun _ g => ∀ j, j < N → g j = v) n (nI i) f := by
  intro n
  induction n with
  | zero => intro i f h1 h2; omega
  | succ n ih =>
    intro i f h1 h2 h3
    rw [lp_J7_fill_53178_5]
    refine ⟨fun c => ?_, fun c => ⟨?_, fun x hx => ?_⟩⟩
    · have hi : N ≤ i := (nI_leI (by omega) (by omega)).mp c
      intro j hj
      exact h3 j (by omega)
    · have hi : i < N := Nat.lt_of_not_le (fun h => c ((nI_leI (by omega) (by omega)).mpr h))
      exact vp_in_nI hi (by omega)
    · have hi : i < N := Nat.lt_of_not_le (fun h => c ((nI_leI (by omega) (by omega)).mpr h))
      rw [hx, nI_1, nI_clamp (by omega)]
      refine ih (i + 1) _ (by omega) (by omega) (fun j hj => ?_)
      by_cases hji : j = i
      · rw [hji]; exact pk_us
      · rw [pk_un hji]; exact h3 j (by omega)
theorem fill_ok (v : Int32) (N : Nat) (f : Nat → Int32) (hN : N < 1000) : wp_J7_fill_53178 v N f (fun g => ∀ j, j < N → g j = v) := by
  rw [wp_J7_fill_53178]
  intro x hx
  rw [hx]
  exact ⟨1000, fill_lp v N hN _ 1000 0 f (by omega) (by omega) (fun j hj => by omega)⟩
