/-! helpers: a contract's start, links between nest mates, a call with its frame -/
def nestFs : List (String × Nat × String × String × String) := [(RX1, 55, "StallBook$Chapter", "canons", "I"), (RX4, 63, "StallBook$Chapter", "canons", "I"), (RX7, 220, "StallBook$Chapter", "canons", "I"), (RX1, 61, "StallBook$Chapter", "present", "I"), (RX7, 223, "StallBook$Chapter", "present", "I"), (RX7, 217, "StallBook$Chapter", "stalls", "I"), (RX7, 208, "StallBook$Chapter", "stallOf", "[I"), (RX0, 28, "StallBook", "WITHOUT", "[I"), (RX7, 166, "StallBook$Acts", "made", "I"), (RX7, 226, "StallBook$Choir", "told", "I"), (RX4, 48, "StallBook$Choir", "tally", "[I"), (RX7, 211, "StallBook$Purse", "paidShares", "[I"), (RX7, 214, "StallBook$Purse", "paidWorth", "[I"), (RX7, 229, "StallBook$Purse", "fabric", "I"), (RX5, 54, "StallBook$Tape", "length", "I"), (RX7, 156, "StallBook$Tape", "length", "I"), (RX7, 188, "StallBook$Reader", "draft", "[I"), (RX7, 162, "StallBook$Ballot", "isOpen", "Z"), (RX5, 29, "StallBook", "WITHOUT", "[I"), (RX5, 68, "StallBook", "HIGHEST", "[I")]
def nestMs : List (String × Nat × MethodName) := [(RX7, 9, yX2_init), (RX7, 18, yX0_init), (RX7, 25, yX3_init), (RX7, 32, yX4_init), (RX7, 41, yX6_init), (RX7, 48, yX5_init), (RX7, 57, yX1_init), (RX7, 72, yX2_addStall), (RX7, 76, yX2_addCanon), (RX7, 80, yX2_hasCanon), (RX7, 84, yX2_hasStall), (RX7, 87, yX2_setWish), (RX7, 91, yX2_isThere), (RX7, 94, yX2_sitDown), (RX7, 98, yX1_forget), (RX7, 102, yX2_depart), (RX7, 105, yX2_tellMove), (RX7, 112, yX3_addMark), (RX7, 120, yX4_fill), (RX7, 123, yX4_payShares), (RX4, 42, yX3_tallyUp), (RX3, 46, yX0_inForce), (RX3, 56, yX0_pointsFor), (RX7, 126, yX4_payWorth), (RX4, 68, yX2_worthOf), (RX7, 133, yX3_lastMark), (RX7, 137, yX4_pointsOf), (RX7, 141, yX4_shareOf), (RX7, 144, yX4_paidShareOf), (RX7, 147, yX4_owedTo), (RX4, 59, yX3_hasMarks), (RX7, 150, yX6_hasRoom), (RX7, 153, yX6_append), (RX7, 159, yX6_cutTo), (RX7, 169, yX5_read), (RX5, 41, yX6_at), (RX7, 172, yX1_begin), (RX7, 175, yX1_cast), (RX7, 199, yX0_inForce), (RX7, 202, yX0_number), (RX7, 182, yX1_handOver), (RX1, 45, yX2_isThere), (RX7, 185, yX1_finish), (RX7, 192, yX0_make), (RX7, 196, yX0_strike), (RX7, 205, yX1_tell), (RX7, 232, yX2_holderOf)]
def nN (U : State) : Prop := (∀ q ∈ nestFs, va_Nw (.fieldLinkNest q.1 q.2.1 q.2.2.1 q.2.2.2.1 q.2.2.2.2 "StallBook") U) ∧ ∀ q ∈ nestMs, va_Nw (.methodLinkNest q.1 q.2.1 q.2.2 "StallBook") U
theorem nN_same {u U : State} (h : u.vm = U.vm) (hn : nN u) : nN U := ⟨fun q hq => va_Nw.same rfl h (hn.1 q hq), fun q hq => va_Nw.same rfl h (hn.2 q hq)⟩
theorem nN_warm {s U : State} (hW : s.WarmedH U.vm) (hn : nN s) : nN U := ⟨fun q hq => va_Nw.warmF hW (hn.1 q hq), fun q hq => va_Nw.warmM hW (hn.2 q hq)⟩
def MPre (D : va_G) (tys : List (ClassId × FieldType)) (av : List Value) (sz : Nat) (ws : va_W) : Array Value → State → Prop := va_Pc av (fun U => U.heap.size = sz ∧ va_P D vwCl ws U.heap ∧ va_K D vwCl tys U ∧ va_D (fun _ => True) ws ∧ nN U)
theorem MPre_blind {D : va_G} {tys : List (ClassId × FieldType)} {av : List Value} {sz : Nat} {ws : va_W} : FrameBlind (MPre D tys av sz ws) := by
  intro a U g mk hq
  obtain ⟨q0, q1, qP, qK, qD, qN⟩ := hq
  exact ⟨q0, q1, qP, va_K.moved (u := U) (U := U.calling g mk a) (Vm.Alike.refl U.vm) qK, qD, nN_same rfl qN⟩
theorem MPre_here {D : va_G} {tys : List (ClassId × FieldType)} {av : List Value} {ws wc : va_W} {s : State} {H : Heap} {A : Nat → Prop} (isC : List Nat) (hP : va_P D vwCl ws H) (hD : va_D A ws) (hK : va_K D vwCl tys s) (hN : nN s) (hn : va_nd isC = true) (hC : isC.map (fun i => ws[i]?) = wc.map some) (hC2 : isC.filterMap (fun i => ws[i]?) = wc) :
    ∀ U : State, U.heap = H → s.WarmedH U.vm → MPre D tys av H.size wc av.toArray U := by
  intro U hU hW
  exact ⟨rfl, by rw [hU], by rw [hU]; exact hP.sub isC hC2, va_K.moved hW.alike hK, (hD.sub isC hn hC).weaken (fun _ _ _ _ => trivial), nN_warm hW hN⟩
section
variable {p : Program} {l : Launch} {e : Env} {R : Room} {s : State} {m : MethodId} {args : Array Value} {below : List Frame} {meth : Method} {c : Code} {H H0 : Heap} {locs : List Loc} {cells slots : Nat} {Q : State → Prop} {pc : Nat} {ls : Array Slot} {st0 rest : List Value} {a : Array Value} {D : va_G} {cl : List vw_C} {A0 : Nat → Prop} {S : Type} {Ws Wc : va_W} {Wc' : S → va_W}
theorem mc_i {post : Int32 → S → Prop} (hP : va_P D cl Ws H) (hD : va_D A0 Ws) (hS : va_S A0 H0 H locs) (hA : ∀ q, H0.size ≤ q → A0 q) (isC isR perm : List Nat) (Wr : va_W) (W' : S → va_W)
    (hC : isC.map (fun i => Ws[i]?) = Wc.map some) (hR : isR.map (fun i => Ws[i]?) = Wr.map some) (hn : va_nd isR = true) (hdis : ∀ i ∈ isR, i ∉ isC) (hp1 : va_nd perm = true) (hp2 : ∀ u, perm.map (fun i => (Wr ++ Wc' u)[i]?) = (W' u).map some) (hp3 : ∀ u, perm.filterMap (fun i => (Wr ++ Wc' u)[i]?) = W' u)
    (hr : va_Run p l e R s m args below meth c H locs cells slots 0 0 (F0 m pc ls st0) rest (va_Qi post (fun u t => va_P D cl (Wc' u) t.heap ∧ va_D (va_A Wc H.size) (Wc' u)) (va_A Wc H.size) a) (va_A Wc H.size))
    (kk : ∀ (r : Int32) (u : S) (H1 : Heap) (locs1 : List Loc), post r u → va_P D cl (W' u) H1 → va_D A0 (W' u) → va_S A0 H0 H1 locs1 → W p l e R s m args below meth c H1 locs1 cells slots Q (F0 m (pc + 3) ls (.int r :: rest))) : W p l e R s m args below meth c H locs cells slots Q (F0 m pc ls st0) := by
  have hF := va_free (wc := Wc) hD hS hA isC hC
  refine va_calli hr hS (fun q _ h => hF q h) hF (fun r u t H1 locs1 ht hvm hw hB hz1 hk1 hS1 => ?_)
  obtain ⟨hP1, hD1⟩ := hB
  rw [ht] at hP1
  obtain ⟨hP2, hD2⟩ := va_join (wr := Wr) (w1 := Wc' u) hP hD isC isR hC hR hn hdis hk1 hF hP1 hD1
  exact kk r u H1 locs1 hw (hP2.sub perm (hp3 u)) (hD2.sub perm hp1 (hp2 u)) hS1
theorem mc_v {post : S → Prop} (hP : va_P D cl Ws H) (hD : va_D A0 Ws) (hS : va_S A0 H0 H locs) (hA : ∀ q, H0.size ≤ q → A0 q) (isC isR perm : List Nat) (Wr : va_W) (W' : S → va_W)
    (hC : isC.map (fun i => Ws[i]?) = Wc.map some) (hR : isR.map (fun i => Ws[i]?) = Wr.map some) (hn : va_nd isR = true) (hdis : ∀ i ∈ isR, i ∉ isC) (hp1 : va_nd perm = true) (hp2 : ∀ u, perm.map (fun i => (Wr ++ Wc' u)[i]?) = (W' u).map some) (hp3 : ∀ u, perm.filterMap (fun i => (Wr ++ Wc' u)[i]?) = W' u)
    (hr : va_Run p l e R s m args below meth c H locs cells slots 0 0 (F0 m pc ls st0) rest (va_Qv post (fun u t => va_P D cl (Wc' u) t.heap ∧ va_D (va_A Wc H.size) (Wc' u)) (va_A Wc H.size) a) (va_A Wc H.size))
    (kk : ∀ (u : S) (H1 : Heap) (locs1 : List Loc), post u → va_P D cl (W' u) H1 → va_D A0 (W' u) → va_S A0 H0 H1 locs1 → W p l e R s m args below meth c H1 locs1 cells slots Q (F0 m (pc + 3) ls rest)) : W p l e R s m args below meth c H locs cells slots Q (F0 m pc ls st0) := by
  have hF := va_free (wc := Wc) hD hS hA isC hC
  refine va_callv hr hS (fun q _ h => hF q h) hF (fun u t H1 locs1 ht hvm hw hB hz1 hk1 hS1 => ?_)
  obtain ⟨hP1, hD1⟩ := hB
  rw [ht] at hP1
  obtain ⟨hP2, hD2⟩ := va_join (wr := Wr) (w1 := Wc' u) hP hD isC isR hC hR hn hdis hk1 hF hP1 hD1
  exact kk u H1 locs1 hw (hP2.sub perm (hp3 u)) (hD2.sub perm hp1 (hp2 u)) hS1
end
theorem sw_out {x : Int32} (hi : Nat) (hh : hi < 2 ^ 31) (h : ∀ k, k ≤ hi → ¬ x = nI k) : x.toInt < 0 ∨ (hi : Int) < x.toInt := by
  rcases Int.lt_or_le x.toInt 0 with h1 | h1
  · exact Or.inl h1
  · rcases Int.lt_or_le (hi : Int) x.toInt with h2 | h2
    · exact Or.inr h2
    · exfalso
      have hk : x.toInt.toNat ≤ hi := by omega
      refine h _ hk (Int32.toInt_inj.mp ?_)
      rw [nI_toInt (by omega)]
      omega
