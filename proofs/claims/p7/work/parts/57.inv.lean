theorem nb0 {x : Int32} (h : x = 0) : vp_nar .boolean x = x := by subst h; rfl
theorem nb1 {x : Int32} (h : x = 1) : vp_nar .boolean x = x := by subst h; rfl
theorem mc12 {x y : Int32} : (12 * x + y).toNatClampNeg = (x * 12 + y).toNatClampNeg := by rw [Int32.mul_comm]
def Inv (ci : Nat → Int32) (ca : Nat → Nat → Int32) (mi : Nat → Int32) (ma : Nat → Nat → Int32) : Prop := ((0 ≤ (ci 0) ∧ (ci 0) < 401)) ∧ ((0 ≤ (ci 1) ∧ (ci 1) < 21)) ∧ ((0 ≤ (ci 3) ∧ (ci 3) < 13)) ∧ ((0 ≤ (ci 4) ∧ (ci 4) < 13)) ∧ ((0 ≤ (ci 5) ∧ (ci 5) < 11)) ∧ ((0 ≤ (ci 6) ∧ (ci 6) < 401)) ∧ ((0 ≤ (ci 8) ∧ (ci 8) < 201)) ∧ (al (ca 1) (-1) 12) ∧ (al (ca 12) (-1) 400) ∧ (al (ca 13) (-1) 400) ∧ (al (ca 14) 0 20) ∧ (al (ca 15) 0 7) ∧ (al (ca 16) 0 5) ∧ (al (ca 27) (-1) 20) ∧ ((0 ≤ (mi 0) ∧ (mi 0) < 401)) ∧ ((0 ≤ (mi 1) ∧ (mi 1) < 13)) ∧ ((0 ≤ (mi 2) ∧ (mi 2) < 21)) ∧ ((0 ≤ (mi 4) ∧ (mi 4) < 401)) ∧ ((0 ≤ (mi 5) ∧ (mi 5) < 11)) ∧ ((0 ≤ (mi 6) ∧ (mi 6) < 21)) ∧ ((0 ≤ (mi 8) ∧ (mi 8) < 201)) ∧ (al (ma 3) (-1) 12) ∧ (al (ma 7) 0 20) ∧ (al (ma 9) 0 7) ∧ (al (ma 10) 0 5) ∧ (al (ma 30) (-1) 20) ∧ (al (ma 23) 0 5) ∧ ((¬ (mi 14) = 0 → (mi 5) < 10)) ∧ ((ci 0) = (mi 0)) ∧ ((ci 3) = (mi 1)) ∧ ((ci 1) = (mi 2)) ∧ ((ci 6) = (mi 4)) ∧ ((∀ j, (ca 4) j = (ma 4) j)) ∧ ((∀ j, ((ca 20) j = -1 ↔ (ma 13) j = 0))) ∧ ((ca 0) = (ma 2)) ∧ ((ca 1) = (ma 3)) ∧ ((ca 2) = (ma 0)) ∧ ((ca 3) = (ma 1)) ∧ ((ci 4) = (mi 6)) ∧ ((ca 5) = (ma 19)) ∧ ((ca 6) = (ma 20)) ∧ ((ca 7) = (ma 21)) ∧ (al (ca 3) (-1) 20)
theorem st_stall (ci : Nat → Int32) (ca : Nat → Nat → Int32) (mi : Nat → Int32) (ma : Nat → Nat → Int32) (p1 : Int32) (hI : Inv ci ca mi ma) (P : Int32 → Int32 × (Nat → Int32) × (Nat → Int32) × (Nat → Int32) × Int32 × (Nat → Int32) × (Nat → Int32) × (Nat → Int32) → Int32 → Int32 × (Nat → Int32) × (Nat → Int32) × (Nat → Int32) × Int32 × (Nat → Int32) × (Nat → Int32) × (Nat → Int32) × (Nat → Int32) → Prop) (h : ∀ r u q v, r = q → Inv (upd (upd ci 3 u.1) 4 u.2.2.2.2.1) (va_up (va_up (va_up (va_up (va_up (va_up ca 1 u.2.1) 2 u.2.2.1) 3 u.2.2.2.1) 5 u.2.2.2.2.2.1) 6 u.2.2.2.2.2.2.1) 7 u.2.2.2.2.2.2.2) (upd (upd mi 1 v.1) 6 v.2.2.2.2.1) (va_up (va_up (va_up (va_up (va_up (va_up (va_up ma 0 v.2.1) 1 v.2.2.1) 3 v.2.2.2.1) 19 v.2.2.2.2.2.1) 20 v.2.2.2.2.2.2.1) 21 v.2.2.2.2.2.2.2.1) 22 v.2.2.2.2.2.2.2.2) → P r u q v) : (wp_X7_stall p1 (ci 1) (ci 3) (ca 0) (ca 1) (ca 2) (ca 3) (ca 4) (ci 4) (ca 5) (ca 6) (ca 7) (ci 0) (fun (r : Int32) (u : Int32 × (Nat → Int32) × (Nat → Int32) × (Nat → Int32) × Int32 × (Nat → Int32) × (Nat → Int32) × (Nat → Int32)) => (wp_X8_stall p1 (mi 0) (mi 1) (ma 0) (ma 1) (mi 2) (ma 2) (ma 3) (ma 4) (mi 6) (ma 19) (ma 20) (ma 21) (ma 22) (fun (q : Int32) (v : Int32 × (Nat → Int32) × (Nat → Int32) × (Nat → Int32) × Int32 × (Nat → Int32) × (Nat → Int32) × (Nat → Int32) × (Nat → Int32)) => P r u q v)))) := by
  obtain ⟨xnow, xcan, xstl, xmov, xmade, xtold, xlen, xsof, xnew, xold, xwho, xhof, xknd, xgiv, mnow, mstl, mcan, mmk, mac, mmov, mtp, mso, mmo, mmh, mmi, mgi, mdm, moa, rnow, rstl, rcan, rmk, rwish, rbox, rthr, rsof, rwor, rhol, rmov, rmvr, rmvf, rmvt, xhol⟩ := hI
  have rwf : ca 4 = ma 4 := funext rwish
  have mhol : al (ma 1) (-1) 20 := by rw [← rhol]; exact xhol
  refine e_X7_stall _ _ _ _ _ _ _ _ _ _ _ _ _ _ xcan xstl xsof (fun r u hu => e_X8_stall _ _ _ _ _ _ _ _ _ _ _ _ _ _ _ mcan mstl mso mnow (fun q v hv => ?_))
  rcases hu with ⟨h1, h2, h3⟩ | ⟨h1, h2, h3, h4, h5, h6, h7, h8, h9, h10, h11⟩ <;> rcases hv with ⟨q1, q2, q3⟩ | ⟨q1, q2, q3, q4, q5, q6, q7, q8, q9, q10, q11⟩
  · have k_xstl : (0 ≤ u.1 ∧ u.1 < 13) := by rw [h3]; exact xstl
    have k_xmov : (0 ≤ u.2.2.2.2.1 ∧ u.2.2.2.2.1 < 13) := by rw [h3]; exact xmov
    have k_xsof : al u.2.1 (-1) 12 := by rw [h3]; exact xsof
    have k_mstl : (0 ≤ v.1 ∧ v.1 < 13) := by rw [q3]; exact mstl
    have k_mmov : (0 ≤ v.2.2.2.2.1 ∧ v.2.2.2.2.1 < 21) := by rw [q3]; exact mmov
    have k_mso : al v.2.2.2.1 (-1) 12 := by rw [q3]; exact mso
    have k_rstl : u.1 = v.1 := by rw [h3, q3]; exact rstl
    have k_rsof : u.2.1 = v.2.2.2.1 := by rw [h3, q3]; exact rsof
    have k_rwor : u.2.2.1 = v.2.1 := by rw [h3, q3]; exact rwor
    have k_rhol : u.2.2.2.1 = v.2.2.1 := by rw [h3, q3]; exact rhol
    have k_rmov : u.2.2.2.2.1 = v.2.2.2.2.1 := by rw [h3, q3]; exact rmov
    have k_rmvr : u.2.2.2.2.2.1 = v.2.2.2.2.2.1 := by rw [h3, q3]; exact rmvr
    have k_rmvf : u.2.2.2.2.2.2.1 = v.2.2.2.2.2.2.1 := by rw [h3, q3]; exact rmvf
    have k_rmvt : u.2.2.2.2.2.2.2 = v.2.2.2.2.2.2.2.1 := by rw [h3, q3]; exact rmvt
    have k_xhol : al u.2.2.2.1 (-1) 20 := by rw [h3]; exact xhol
    exact h r u q v (h1.trans q1.symm) ⟨xnow, xcan, k_xstl, k_xmov, xmade, xtold, xlen, k_xsof, xnew, xold, xwho, xhof, xknd, xgiv, mnow, k_mstl, mcan, mmk, mac, k_mmov, mtp, k_mso, mmo, mmh, mmi, mgi, mdm, moa, rnow, k_rstl, rcan, rmk, rwish, rbox, rthr, k_rsof, k_rwor, k_rhol, k_rmov, k_rmvr, k_rmvf, k_rmvt, k_xhol⟩
  · exfalso; clear h; grind
  · exfalso; clear h; grind
  · rw [← rcan, ← rthr, ← rwor, ← rwf, ← rstl, ← rsof, ← rhol, ← rmvr, ← rmvf, ← rmvt] at q11
    have e := FR_uniq _ _ _ _ _ _ _ _ _ _ h11 q11
    simp only [Prod.mk.injEq] at e
    obtain ⟨e1, e2, e3, e4, e5, e6⟩ := e
    have k_xstl : (0 ≤ u.1 ∧ u.1 < 13) := by rw [h6]; clear h11 q11 e1 e2 e4 e5 e6; grind
    have k_xmov : (0 ≤ u.2.2.2.2.1 ∧ u.2.2.2.2.1 < 13) := ⟨h9, h10⟩
    have k_xsof : al u.2.1 (-1) 12 := h8
    have k_mstl : (0 ≤ v.1 ∧ v.1 < 13) := by rw [q6]; clear h11 q11 e1 e2 e4 e5 e6; grind
    have k_mmov : (0 ≤ v.2.2.2.2.1 ∧ v.2.2.2.2.1 < 21) := ⟨q9, q10⟩
    have k_mso : al v.2.2.2.1 (-1) 12 := q8
    have k_rstl : u.1 = v.1 := by rw [h6, q6, rstl]
    have k_rsof : u.2.1 = v.2.2.2.1 := e1
    have k_rwor : u.2.2.1 = v.2.1 := by rw [h7, q7, rwor, rstl]
    have k_rhol : u.2.2.2.1 = v.2.2.1 := e2
    have k_rmov : u.2.2.2.2.1 = v.2.2.2.2.1 := e3
    have k_rmvr : u.2.2.2.2.2.1 = v.2.2.2.2.2.1 := e4
    have k_rmvf : u.2.2.2.2.2.2.1 = v.2.2.2.2.2.2.1 := e5
    have k_rmvt : u.2.2.2.2.2.2.2 = v.2.2.2.2.2.2.2.1 := e6
    have k_xhol : al u.2.2.2.1 (-1) 20 := by
      have w := FR_al xcan.2 _ _ _ _ _ _ _ _ _ h11
      exact w (al_upd xhol (by decide) (by decide))
    exact h r u q v (by rw [h1, q1, rstl]) ⟨xnow, xcan, k_xstl, k_xmov, xmade, xtold, xlen, k_xsof, xnew, xold, xwho, xhof, xknd, xgiv, mnow, k_mstl, mcan, mmk, mac, k_mmov, mtp, k_mso, mmo, mmh, mmi, mgi, mdm, moa, rnow, k_rstl, rcan, rmk, rwish, rbox, rthr, k_rsof, k_rwor, k_rhol, k_rmov, k_rmvr, k_rmvf, k_rmvt, k_xhol⟩
theorem st_canon (ci : Nat → Int32) (ca : Nat → Nat → Int32) (mi : Nat → Int32) (ma : Nat → Nat → Int32) (hI : Inv ci ca mi ma) (P : Int32 → Int32 × Int32 × (Nat → Int32) × (Nat → Int32) → Int32 → Int32 × (Nat → Int32) × (Nat → Int32) → Prop) (h : ∀ r u q v, r = q → Inv (upd (upd ci 1 u.1) 2 u.2.1) (va_up (va_up ca 0 u.2.2.1) 1 u.2.2.2) (upd mi 2 v.1) (va_up (va_up ma 2 v.2.1) 3 v.2.2) → P r u q v) : (wp_X7_canon (ci 1) (ci 2) (ca 0) (ca 1) (ci 0) (fun (r : Int32) (u : Int32 × Int32 × (Nat → Int32) × (Nat → Int32)) => (wp_X8_canon (mi 0) (mi 2) (ma 2) (ma 3) (fun (q : Int32) (v : Int32 × (Nat → Int32) × (Nat → Int32)) => P r u q v)))) := by
  obtain ⟨xnow, xcan, xstl, xmov, xmade, xtold, xlen, xsof, xnew, xold, xwho, xhof, xknd, xgiv, mnow, mstl, mcan, mmk, mac, mmov, mtp, mso, mmo, mmh, mmi, mgi, mdm, moa, rnow, rstl, rcan, rmk, rwish, rbox, rthr, rsof, rwor, rhol, rmov, rmvr, rmvf, rmvt, xhol⟩ := hI
  have rwf : ca 4 = ma 4 := funext rwish
  have mhol : al (ma 1) (-1) 20 := by rw [← rhol]; exact xhol
  refine e_X7_canon _ _ _ _ _ _ xcan (fun r u hu => e_X8_canon _ _ _ _ _ mcan mnow (fun q v hv => ?_))
  rcases hu with ⟨h1, h2, h3⟩ | ⟨h1, h2, h4, h3⟩ <;> rcases hv with ⟨q1, q2, q3⟩ | ⟨q1, q2, q4, q3⟩
  · have k_xcan : (0 ≤ u.1 ∧ u.1 < 21) := by rw [h3]; exact xcan
    have k_xsof : al u.2.2.2 (-1) 12 := by rw [h3]; exact xsof
    have k_mcan : (0 ≤ v.1 ∧ v.1 < 21) := by rw [q3]; exact mcan
    have k_mso : al v.2.2 (-1) 12 := by rw [q3]; exact mso
    have k_rcan : u.1 = v.1 := by rw [h3, q3]; exact rcan
    have k_rthr : u.2.2.1 = v.2.1 := by rw [h3, q3]; exact rthr
    have k_rsof : u.2.2.2 = v.2.2 := by rw [h3, q3]; exact rsof
    exact h r u q v (h1.trans q1.symm) ⟨xnow, k_xcan, xstl, xmov, xmade, xtold, xlen, k_xsof, xnew, xold, xwho, xhof, xknd, xgiv, mnow, mstl, k_mcan, mmk, mac, mmov, mtp, k_mso, mmo, mmh, mmi, mgi, mdm, moa, rnow, rstl, k_rcan, rmk, rwish, rbox, k_rthr, k_rsof, rwor, rhol, rmov, rmvr, rmvf, rmvt, xhol⟩
  · exfalso; clear h; grind
  · exfalso; clear h; grind
  · have k_xcan : (0 ≤ u.1 ∧ u.1 < 21) := by rw [h3]; show 0 ≤ ci 1 + 1 ∧ ci 1 + 1 < 21; clear h3 q3; grind
    have k_xsof : al u.2.2.2 (-1) 12 := by rw [h3]; exact al_upd xsof (by decide) (by decide)
    have k_mcan : (0 ≤ v.1 ∧ v.1 < 21) := by rw [q3]; show 0 ≤ mi 2 + 1 ∧ mi 2 + 1 < 21; clear h3 q3; grind
    have k_mso : al v.2.2 (-1) 12 := by rw [q3]; exact al_upd mso (by decide) (by decide)
    have k_rcan : u.1 = v.1 := by rw [h3, q3]; show ci 1 + 1 = mi 2 + 1; rw [rcan]
    have k_rthr : u.2.2.1 = v.2.1 := by rw [h3, q3]; show upd (ca 0) _ _ = upd (ma 2) _ _; rw [rthr, rcan]
    have k_rsof : u.2.2.2 = v.2.2 := by rw [h3, q3]; show upd (ca 1) _ _ = upd (ma 3) _ _; rw [rsof, rcan]
    exact h r u q v (by rw [h1, q1, rcan]) ⟨xnow, k_xcan, xstl, xmov, xmade, xtold, xlen, k_xsof, xnew, xold, xwho, xhof, xknd, xgiv, mnow, mstl, k_mcan, mmk, mac, mmov, mtp, k_mso, mmo, mmh, mmi, mgi, mdm, moa, rnow, rstl, k_rcan, rmk, rwish, rbox, k_rthr, k_rsof, rwor, rhol, rmov, rmvr, rmvf, rmvt, xhol⟩
theorem st_wish (ci : Nat → Int32) (ca : Nat → Nat → Int32) (mi : Nat → Int32) (ma : Nat → Nat → Int32) (p1 : Int32) (p2 : Int32) (p3 : Int32) (hI : Inv ci ca mi ma) (hz : p3 = 0 ∨ p3 = 1) (P : Int32 → (Nat → Int32) → Int32 → (Nat → Int32) → Prop) (h : ∀ r u q v, r = q → Inv ci (va_up ca 4 u) mi (va_up ma 4 v) → P r u q v) : (wp_X7_wish p1 p2 p3 (ci 1) (ci 3) (ca 4) (ci 0) (fun (r : Int32) (u : (Nat → Int32)) => (wp_X8_wish p1 p2 p3 (mi 0) (mi 1) (mi 2) (ma 4) (fun (q : Int32) (v : (Nat → Int32)) => P r u q v)))) := by
  obtain ⟨xnow, xcan, xstl, xmov, xmade, xtold, xlen, xsof, xnew, xold, xwho, xhof, xknd, xgiv, mnow, mstl, mcan, mmk, mac, mmov, mtp, mso, mmo, mmh, mmi, mgi, mdm, moa, rnow, rstl, rcan, rmk, rwish, rbox, rthr, rsof, rwor, rhol, rmov, rmvr, rmvf, rmvt, xhol⟩ := hI
  refine s_X7_wish _ _ _ _ _ _ _ _ ?_ ?_ (fun r u hu => s_X8_wish _ _ _ _ _ _ _ _ ?_ ?_ ?_ (fun q v hv => h r u q v ?_ ?_))
  all_goals (try assumption)
  · clear h
    grind [upd, nb0, nb1, mc12]
  · clear h
    have k_rwish : (∀ j, u j = v j) := by grind [upd, nb0, nb1, mc12]
    exact ⟨xnow, xcan, xstl, xmov, xmade, xtold, xlen, xsof, xnew, xold, xwho, xhof, xknd, xgiv, mnow, mstl, mcan, mmk, mac, mmov, mtp, mso, mmo, mmh, mmi, mgi, mdm, moa, rnow, rstl, rcan, rmk, k_rwish, rbox, rthr, rsof, rwor, rhol, rmov, rmvr, rmvf, rmvt, xhol⟩
theorem st_takes (ci : Nat → Int32) (ca : Nat → Nat → Int32) (mi : Nat → Int32) (ma : Nat → Nat → Int32) (p1 : Int32) (p2 : Int32) (hI : Inv ci ca mi ma) (P : Int32 → (Nat → Int32) × (Nat → Int32) → Int32 → (Nat → Int32) × (Nat → Int32) → Prop) (h : ∀ r u q v, r = q → Inv ci (va_up (va_up ca 1 u.1) 3 u.2) mi (va_up (va_up ma 1 v.1) 3 v.2) → P r u q v) : (wp_X7_takes p1 p2 (ci 1) (ci 3) (ca 0) (ca 1) (ca 3) (ci 0) (fun (r : Int32) (u : (Nat → Int32) × (Nat → Int32)) => (wp_X8_takes p1 p2 (mi 0) (mi 1) (ma 1) (mi 2) (ma 2) (ma 3) (fun (q : Int32) (v : (Nat → Int32) × (Nat → Int32)) => P r u q v)))) := by
  obtain ⟨xnow, xcan, xstl, xmov, xmade, xtold, xlen, xsof, xnew, xold, xwho, xhof, xknd, xgiv, mnow, mstl, mcan, mmk, mac, mmov, mtp, mso, mmo, mmh, mmi, mgi, mdm, moa, rnow, rstl, rcan, rmk, rwish, rbox, rthr, rsof, rwor, rhol, rmov, rmvr, rmvf, rmvt, xhol⟩ := hI
  have rwf : ca 4 = ma 4 := funext rwish
  have mhol : al (ma 1) (-1) 20 := by rw [← rhol]; exact xhol
  refine e_X7_takes _ _ _ _ _ _ _ _ _ xcan xstl (fun r u hu => e_X8_takes _ _ _ _ _ _ _ _ _ mcan mstl mso mhol mnow (fun q v hv => ?_))
  rcases hu with ⟨h1, h2, h3⟩ | ⟨h1, c1, c2, c3, c4, c5, c6, c7, c8, h3⟩ <;> rcases hv with ⟨q1, q2, q3⟩ | ⟨q1, d1, d2, d3, d4, d5, d6, d7, d8, q3⟩
  · have k_xsof : al u.1 (-1) 12 := by rw [h3]; exact xsof
    have k_mso : al v.2 (-1) 12 := by rw [q3]; exact mso
    have k_rsof : u.1 = v.2 := by rw [h3, q3]; exact rsof
    have k_rhol : u.2 = v.1 := by rw [h3, q3]; exact rhol
    have k_xhol : al u.2 (-1) 20 := by rw [h3]; exact xhol
    exact h r u q v (h1.trans q1.symm) ⟨xnow, xcan, xstl, xmov, xmade, xtold, xlen, k_xsof, xnew, xold, xwho, xhof, xknd, xgiv, mnow, mstl, mcan, mmk, mac, mmov, mtp, k_mso, mmo, mmh, mmi, mgi, mdm, moa, rnow, rstl, rcan, rmk, rwish, rbox, rthr, k_rsof, rwor, k_rhol, rmov, rmvr, rmvf, rmvt, k_xhol⟩
  · exfalso; clear h; grind
  · exfalso; clear h; grind
  · have e12 : p2 < 12 := by clear h3 q3; grind
    have e20 : p1 < 20 := by clear h3 q3; grind
    have em1 : -1 ≤ p1 ∧ -1 ≤ p2 := by clear h3 q3; grind
    have k_xsof : al u.1 (-1) 12 := by rw [h3]; exact al_upd xsof em1.2 e12
    have k_mso : al v.2 (-1) 12 := by rw [q3]; exact al_upd mso em1.2 e12
    have k_rsof : u.1 = v.2 := by rw [h3, q3]; show upd (ca 1) _ _ = upd (ma 3) _ _; rw [rsof]
    have k_rhol : u.2 = v.1 := by rw [h3, q3]; show upd (ca 3) _ _ = upd (ma 1) _ _; rw [rhol]
    have k_xhol : al u.2 (-1) 20 := by rw [h3]; exact al_upd xhol em1.1 e20
    exact h r u q v (h1.trans q1.symm) ⟨xnow, xcan, xstl, xmov, xmade, xtold, xlen, k_xsof, xnew, xold, xwho, xhof, xknd, xgiv, mnow, mstl, mcan, mmk, mac, mmov, mtp, k_mso, mmo, mmh, mmi, mgi, mdm, moa, rnow, rstl, rcan, rmk, rwish, rbox, rthr, k_rsof, rwor, k_rhol, rmov, rmvr, rmvf, rmvt, k_xhol⟩
theorem st_leaves (ci : Nat → Int32) (ca : Nat → Nat → Int32) (mi : Nat → Int32) (ma : Nat → Nat → Int32) (p1 : Int32) (hI : Inv ci ca mi ma) (P : Int32 → (Nat → Int32) × (Nat → Int32) × Int32 × (Nat → Int32) × (Nat → Int32) × (Nat → Int32) × Int32 × (Nat → Int32) × (Nat → Int32) × (Nat → Int32) → Int32 → (Nat → Int32) × (Nat → Int32) × (Nat → Int32) × Int32 × (Nat → Int32) × (Nat → Int32) × (Nat → Int32) × (Nat → Int32) × (Nat → Int32) × (Nat → Int32) → Prop) (h : ∀ r u q v, r = q → Inv (upd (upd ci 2 u.2.2.1) 4 u.2.2.2.2.2.2.1) (va_up (va_up (va_up (va_up (va_up (va_up (va_up (va_up ca 26 u.1) 27 u.2.1) 0 u.2.2.2.1) 1 u.2.2.2.2.1) 3 u.2.2.2.2.2.1) 5 u.2.2.2.2.2.2.2.1) 6 u.2.2.2.2.2.2.2.2.1) 7 u.2.2.2.2.2.2.2.2.2) (upd mi 6 v.2.2.2.1) (va_up (va_up (va_up (va_up (va_up (va_up (va_up (va_up (va_up ma 1 v.1) 2 v.2.1) 3 v.2.2.1) 19 v.2.2.2.2.1) 20 v.2.2.2.2.2.1) 21 v.2.2.2.2.2.2.1) 22 v.2.2.2.2.2.2.2.1) 29 v.2.2.2.2.2.2.2.2.1) 30 v.2.2.2.2.2.2.2.2.2) → P r u q v) : (wp_X7_leaves p1 (ca 26) (ca 27) (ci 1) (ci 2) (ca 0) (ca 1) (ca 2) (ca 3) (ca 4) (ci 4) (ca 5) (ca 6) (ca 7) (ci 0) (fun (r : Int32) (u : (Nat → Int32) × (Nat → Int32) × Int32 × (Nat → Int32) × (Nat → Int32) × (Nat → Int32) × Int32 × (Nat → Int32) × (Nat → Int32) × (Nat → Int32)) => (wp_X8_leaves p1 (mi 0) (ma 0) (ma 1) (mi 2) (ma 2) (ma 3) (ma 4) (mi 6) (ma 19) (ma 20) (ma 21) (ma 22) (mi 14) (ma 29) (ma 30) (fun (q : Int32) (v : (Nat → Int32) × (Nat → Int32) × (Nat → Int32) × Int32 × (Nat → Int32) × (Nat → Int32) × (Nat → Int32) × (Nat → Int32) × (Nat → Int32) × (Nat → Int32)) => P r u q v)))) := by
  obtain ⟨xnow, xcan, xstl, xmov, xmade, xtold, xlen, xsof, xnew, xold, xwho, xhof, xknd, xgiv, mnow, mstl, mcan, mmk, mac, mmov, mtp, mso, mmo, mmh, mmi, mgi, mdm, moa, rnow, rstl, rcan, rmk, rwish, rbox, rthr, rsof, rwor, rhol, rmov, rmvr, rmvf, rmvt, xhol⟩ := hI
  have rwf : ca 4 = ma 4 := funext rwish
  have mhol : al (ma 1) (-1) 20 := by rw [← rhol]; exact xhol
  refine e_X7_leaves _ _ _ _ _ _ _ _ _ _ _ _ _ _ _ _ xcan xsof xgiv (fun r u hu => e_X8_leaves _ _ _ _ _ _ _ _ _ _ _ _ _ _ _ _ _ mcan mso mgi mnow (fun q v hv => ?_))
  rcases hu with ⟨h1, h2, h3⟩ | ⟨h1, h2, h3, h4, h5, h6, h7, h8, h9, h10, h11⟩ <;> rcases hv with ⟨q1, q2, q3⟩ | ⟨q1, q2, q3, q4, q5, q6, q7, q8, q9, q10, q11⟩
  · have k_xmov : (0 ≤ u.2.2.2.2.2.2.1 ∧ u.2.2.2.2.2.2.1 < 13) := by rw [h3]; exact xmov
    have k_xsof : al u.2.2.2.2.1 (-1) 12 := by rw [h3]; exact xsof
    have k_xgiv : al u.2.1 (-1) 20 := by rw [h3]; exact xgiv
    have k_mmov : (0 ≤ v.2.2.2.1 ∧ v.2.2.2.1 < 21) := by rw [q3]; exact mmov
    have k_mso : al v.2.2.1 (-1) 12 := by rw [q3]; exact mso
    have k_mgi : al v.2.2.2.2.2.2.2.2.2 (-1) 20 := by rw [q3]; exact mgi
    have k_rthr : u.2.2.2.1 = v.2.1 := by rw [h3, q3]; exact rthr
    have k_rsof : u.2.2.2.2.1 = v.2.2.1 := by rw [h3, q3]; exact rsof
    have k_rhol : u.2.2.2.2.2.1 = v.1 := by rw [h3, q3]; exact rhol
    have k_rmov : u.2.2.2.2.2.2.1 = v.2.2.2.1 := by rw [h3, q3]; exact rmov
    have k_rmvr : u.2.2.2.2.2.2.2.1 = v.2.2.2.2.1 := by rw [h3, q3]; exact rmvr
    have k_rmvf : u.2.2.2.2.2.2.2.2.1 = v.2.2.2.2.2.1 := by rw [h3, q3]; exact rmvf
    have k_rmvt : u.2.2.2.2.2.2.2.2.2 = v.2.2.2.2.2.2.1 := by rw [h3, q3]; exact rmvt
    have k_xhol : al u.2.2.2.2.2.1 (-1) 20 := by rw [h3]; exact xhol
    exact h r u q v (h1.trans q1.symm) ⟨xnow, xcan, xstl, k_xmov, xmade, xtold, xlen, k_xsof, xnew, xold, xwho, xhof, xknd, k_xgiv, mnow, mstl, mcan, mmk, mac, k_mmov, mtp, k_mso, mmo, mmh, mmi, k_mgi, mdm, moa, rnow, rstl, rcan, rmk, rwish, rbox, k_rthr, k_rsof, rwor, k_rhol, k_rmov, k_rmvr, k_rmvf, k_rmvt, k_xhol⟩
  · exfalso; clear h; grind
  · exfalso; clear h; grind
  · rw [← rcan, ← rthr, ← rwor, ← rwf, ← rsof, ← rhol, ← rmvr, ← rmvf, ← rmvt] at q11
    have e := FR_uniq _ _ _ _ _ _ _ _ _ _ h11 q11
    simp only [Prod.mk.injEq] at e
    obtain ⟨e1, e2, e3, e4, e5, e6⟩ := e
    have k_xmov : (0 ≤ u.2.2.2.2.2.2.1 ∧ u.2.2.2.2.2.2.1 < 13) := ⟨h9, h10⟩
    have k_xsof : al u.2.2.2.2.1 (-1) 12 := h8
    have k_xgiv : al u.2.1 (-1) 20 := h5
    have k_mmov : (0 ≤ v.2.2.2.1 ∧ v.2.2.2.1 < 21) := ⟨q9, q10⟩
    have k_mso : al v.2.2.1 (-1) 12 := q8
    have k_mgi : al v.2.2.2.2.2.2.2.2.2 (-1) 20 := q5
    have k_rthr : u.2.2.2.1 = v.2.1 := by rw [h7, q7, rthr]
    have k_rsof : u.2.2.2.2.1 = v.2.2.1 := e1
    have k_rhol : u.2.2.2.2.2.1 = v.1 := e2
    have k_rmov : u.2.2.2.2.2.2.1 = v.2.2.2.1 := e3
    have k_rmvr : u.2.2.2.2.2.2.2.1 = v.2.2.2.2.1 := e4
    have k_rmvf : u.2.2.2.2.2.2.2.2.1 = v.2.2.2.2.2.1 := e5
    have k_rmvt : u.2.2.2.2.2.2.2.2.2 = v.2.2.2.2.2.2.1 := e6
    have k_xhol : al u.2.2.2.2.2.1 (-1) 20 := by
      have w := FR_al xcan.2 _ _ _ _ _ _ _ _ _ h11
      refine w ?_
      unfold hoF
      split
      · exact xhol
      · exact al_upd xhol (by decide) (by decide)
    exact h r u q v (by rw [h6, q6]; exact e3) ⟨xnow, xcan, xstl, k_xmov, xmade, xtold, xlen, k_xsof, xnew, xold, xwho, xhof, xknd, k_xgiv, mnow, mstl, mcan, mmk, mac, k_mmov, mtp, k_mso, mmo, mmh, mmi, k_mgi, mdm, moa, rnow, rstl, rcan, rmk, rwish, rbox, k_rthr, k_rsof, rwor, k_rhol, k_rmov, k_rmvr, k_rmvf, k_rmvt, k_xhol⟩
theorem st_moved (ci : Nat → Int32) (ca : Nat → Nat → Int32) (mi : Nat → Int32) (ma : Nat → Nat → Int32) (p1 : Int32) (p2 : Int32) (hI : Inv ci ca mi ma) (P : Int32 → Unit → Int32 → Unit → Prop) (h : ∀ r u q v, r = q → Inv ci ca mi ma → P r u q v) : (wp_X7_moved p1 p2 (ci 4) (ca 5) (ca 6) (ca 7) (fun (r : Int32) (u : Unit) => (wp_X8_moved p1 p2 (mi 6) (ma 19) (ma 20) (ma 21) (fun (q : Int32) (v : Unit) => P r u q v)))) := by
  obtain ⟨xnow, xcan, xstl, xmov, xmade, xtold, xlen, xsof, xnew, xold, xwho, xhof, xknd, xgiv, mnow, mstl, mcan, mmk, mac, mmov, mtp, mso, mmo, mmh, mmi, mgi, mdm, moa, rnow, rstl, rcan, rmk, rwish, rbox, rthr, rsof, rwor, rhol, rmov, rmvr, rmvf, rmvt, xhol⟩ := hI
  have rwf : ca 4 = ma 4 := funext rwish
  have mhol : al (ma 1) (-1) 20 := by rw [← rhol]; exact xhol
  refine e_X7_moved _ _ _ _ _ _ _ xmov (fun r u hu => e_X8_moved _ _ _ _ _ _ _ mmov (fun q v hv => ?_))
  have hrq : r = q := by clear h; grind
  exact h r u q v hrq ⟨xnow, xcan, xstl, xmov, xmade, xtold, xlen, xsof, xnew, xold, xwho, xhof, xknd, xgiv, mnow, mstl, mcan, mmk, mac, mmov, mtp, mso, mmo, mmh, mmi, mgi, mdm, moa, rnow, rstl, rcan, rmk, rwish, rbox, rthr, rsof, rwor, rhol, rmov, rmvr, rmvf, rmvt, xhol⟩
theorem st_mark (ci : Nat → Int32) (ca : Nat → Nat → Int32) (mi : Nat → Int32) (ma : Nat → Nat → Int32) (p1 : Int32) (p2 : Int32) (p3 : Int32) (p4 : Int32) (hI : Inv ci ca mi ma) (P : Int32 → Int32 × (Nat → Int32) × (Nat → Int32) × (Nat → Int32) × (Nat → Int32) × (Nat → Int32) × (Nat → Int32) → Int32 → Int32 × (Nat → Int32) × (Nat → Int32) × (Nat → Int32) × (Nat → Int32) × (Nat → Int32) → Prop) (h : ∀ r u q v, r = q → Inv (upd ci 6 u.1) (va_up (va_up (va_up (va_up (va_up (va_up ca 12 u.2.1) 13 u.2.2.1) 14 u.2.2.2.1) 15 u.2.2.2.2.1) 16 u.2.2.2.2.2.1) 17 u.2.2.2.2.2.2) (upd mi 4 v.1) (va_up (va_up (va_up (va_up (va_up ma 7 v.2.1) 8 v.2.2.1) 9 v.2.2.2.1) 10 v.2.2.2.2.1) 11 v.2.2.2.2.2) → P r u q v) : (wp_X7_mark p1 p2 p3 p4 (ci 1) (ci 6) (ca 12) (ca 13) (ca 14) (ca 15) (ca 16) (ca 17) (ci 0) (fun (r : Int32) (u : Int32 × (Nat → Int32) × (Nat → Int32) × (Nat → Int32) × (Nat → Int32) × (Nat → Int32) × (Nat → Int32)) => (wp_X8_mark p1 p2 p3 p4 (mi 0) (mi 2) (mi 4) (ma 7) (ma 8) (ma 9) (ma 10) (ma 11) (fun (q : Int32) (v : Int32 × (Nat → Int32) × (Nat → Int32) × (Nat → Int32) × (Nat → Int32) × (Nat → Int32)) => P r u q v)))) := by
  obtain ⟨xnow, xcan, xstl, xmov, xmade, xtold, xlen, xsof, xnew, xold, xwho, xhof, xknd, xgiv, mnow, mstl, mcan, mmk, mac, mmov, mtp, mso, mmo, mmh, mmi, mgi, mdm, moa, rnow, rstl, rcan, rmk, rwish, rbox, rthr, rsof, rwor, rhol, rmov, rmvr, rmvf, rmvt, xhol⟩ := hI
  refine s_X7_mark _ _ _ _ _ _ _ _ _ _ _ _ _ _ ?_ ?_ ?_ ?_ ?_ ?_ ?_ ?_ (fun r u hu => s_X8_mark _ _ _ _ _ _ _ _ _ _ _ _ _ ?_ ?_ ?_ ?_ ?_ ?_ (fun q v hv => h r u q v ?_ ?_))
  all_goals (try assumption)
  · clear h
    grind
  · clear h
    have k_xtold : (0 ≤ u.1 ∧ u.1 < 401) := by clear hv; grind
    have k_xnew : al u.2.1 (-1) 400 := by clear hv; grind
    have k_xold : al u.2.2.1 (-1) 400 := by clear hv; grind
    have k_xwho : al u.2.2.2.1 0 20 := by clear hv; grind
    have k_xhof : al u.2.2.2.2.1 0 7 := by clear hv; grind
    have k_xknd : al u.2.2.2.2.2.1 0 5 := by clear hv; grind
    have k_mmk : (0 ≤ v.1 ∧ v.1 < 401) := by clear hu; grind
    have k_mmo : al v.2.1 0 20 := by clear hu; grind
    have k_mmh : al v.2.2.2.1 0 7 := by clear hu; grind
    have k_mmi : al v.2.2.2.2.1 0 5 := by clear hu; grind
    have k_rmk : u.1 = v.1 := by grind
    exact ⟨xnow, xcan, xstl, xmov, xmade, k_xtold, xlen, xsof, k_xnew, k_xold, k_xwho, k_xhof, k_xknd, xgiv, mnow, mstl, mcan, k_mmk, mac, mmov, mtp, mso, k_mmo, k_mmh, k_mmi, mgi, mdm, moa, rnow, rstl, rcan, k_rmk, rwish, rbox, rthr, rsof, rwor, rhol, rmov, rmvr, rmvf, rmvt, xhol⟩
theorem st_box (ci : Nat → Int32) (ca : Nat → Nat → Int32) (mi : Nat → Int32) (ma : Nat → Nat → Int32) (p1 : Int32) (p2 : Int32) (hI : Inv ci ca mi ma) (P : Int32 → (Nat → Int32) → Int32 → (Nat → Int32) × (Nat → Int32) → Prop) (h : ∀ r u q v, r = q → Inv ci (va_up ca 20 u) mi (va_up (va_up ma 12 v.1) 13 v.2) → P r u q v) : (wp_X7_box p1 p2 (ca 20) (ci 0) (fun (r : Int32) (u : (Nat → Int32)) => (wp_X8_box p1 p2 (mi 0) (ma 12) (ma 13) (fun (q : Int32) (v : (Nat → Int32) × (Nat → Int32)) => P r u q v)))) := by
  obtain ⟨xnow, xcan, xstl, xmov, xmade, xtold, xlen, xsof, xnew, xold, xwho, xhof, xknd, xgiv, mnow, mstl, mcan, mmk, mac, mmov, mtp, mso, mmo, mmh, mmi, mgi, mdm, moa, rnow, rstl, rcan, rmk, rwish, rbox, rthr, rsof, rwor, rhol, rmov, rmvr, rmvf, rmvt, xhol⟩ := hI
  refine s_X7_box _ _ _ _ _ ?_ (fun r u hu => s_X8_box _ _ _ _ _ _ ?_ (fun q v hv => h r u q v ?_ ?_))
  all_goals (try assumption)
  · clear h
    grind [upd]
  · clear h
    have k_rbox : (∀ j, (u j = -1 ↔ v.2 j = 0)) := by grind [upd]
    exact ⟨xnow, xcan, xstl, xmov, xmade, xtold, xlen, xsof, xnew, xold, xwho, xhof, xknd, xgiv, mnow, mstl, mcan, mmk, mac, mmov, mtp, mso, mmo, mmh, mmi, mgi, mdm, moa, rnow, rstl, rcan, rmk, rwish, k_rbox, rthr, rsof, rwor, rhol, rmov, rmvr, rmvf, rmvt, xhol⟩
theorem st_night (ci : Nat → Int32) (ca : Nat → Nat → Int32) (mi : Nat → Int32) (ma : Nat → Nat → Int32) (hI : Inv ci ca mi ma) (P : Int32 → (Nat → Int32) × (Nat → Int32) × (Nat → Int32) × (Nat → Int32) × (Nat → Int32) × Int32 × Int32 → Int32 → Int32 × (Nat → Int32) × (Nat → Int32) × Int32 × (Nat → Int32) × (Nat → Int32) × (Nat → Int32) × (Nat → Int32) × Int32 → Prop) (h : ∀ r u q v, r = q → Inv (upd (upd ci 7 u.2.2.2.2.2.1) 0 u.2.2.2.2.2.2) (va_up (va_up (va_up (va_up (va_up ca 18 u.1) 19 u.2.1) 21 u.2.2.1) 22 u.2.2.2.1) 23 u.2.2.2.2.1) (upd (upd (upd mi 0 v.1) 3 v.2.2.2.1) 7 v.2.2.2.2.2.2.2.2) (va_up (va_up (va_up (va_up (va_up (va_up ma 5 v.2.1) 6 v.2.2.1) 14 v.2.2.2.2.1) 23 v.2.2.2.2.2.1) 24 v.2.2.2.2.2.2.1) 25 v.2.2.2.2.2.2.2.1) → P r u q v) : (wp_X7_night (ci 5) (ca 8) (ca 9) (ca 10) (ca 11) (ci 1) (ca 1) (ca 2) (ca 12) (ca 13) (ca 14) (ca 15) (ca 16) (ca 17) (ca 18) (ca 19) (ca 20) (ca 21) (ca 22) (ca 23) (ci 7) (ci 0) (fun (r : Int32) (u : (Nat → Int32) × (Nat → Int32) × (Nat → Int32) × (Nat → Int32) × (Nat → Int32) × Int32 × Int32) => (wp_X8_night (mi 0) (ma 0) (mi 2) (ma 3) (ma 5) (ma 6) (mi 3) (mi 4) (ma 7) (ma 8) (ma 9) (ma 10) (ma 11) (ma 12) (ma 14) (mi 5) (ma 15) (ma 16) (ma 17) (ma 18) (ma 23) (ma 24) (ma 25) (mi 7) (fun (q : Int32) (v : Int32 × (Nat → Int32) × (Nat → Int32) × Int32 × (Nat → Int32) × (Nat → Int32) × (Nat → Int32) × (Nat → Int32) × Int32) => P r u q v)))) := by
  obtain ⟨xnow, xcan, xstl, xmov, xmade, xtold, xlen, xsof, xnew, xold, xwho, xhof, xknd, xgiv, mnow, mstl, mcan, mmk, mac, mmov, mtp, mso, mmo, mmh, mmi, mgi, mdm, moa, rnow, rstl, rcan, rmk, rwish, rbox, rthr, rsof, rwor, rhol, rmov, rmvr, rmvf, rmvt, xhol⟩ := hI
  refine s_X7_night _ _ _ _ _ _ _ _ _ _ _ _ _ _ _ _ _ _ _ _ _ _ _ ?_ ?_ ?_ ?_ ?_ ?_ ?_ ?_ ?_ (fun r u hu => s_X8_night _ _ _ _ _ _ _ _ _ _ _ _ _ _ _ _ _ _ _ _ _ _ _ _ _ ?_ ?_ ?_ ?_ ?_ ?_ ?_ ?_ ?_ (fun q v hv => h r u q v ?_ ?_))
  all_goals (try assumption)
  · clear h
    grind
  · clear h
    have k_xnow : (0 ≤ u.2.2.2.2.2.2 ∧ u.2.2.2.2.2.2 < 401) := by clear hv; grind
    have k_mnow : (0 ≤ v.1 ∧ v.1 < 401) := by clear hu; grind
    have k_mdm : al v.2.2.2.2.2.1 0 5 := by clear hu; grind
    have k_rnow : u.2.2.2.2.2.2 = v.1 := by grind
    exact ⟨k_xnow, xcan, xstl, xmov, xmade, xtold, xlen, xsof, xnew, xold, xwho, xhof, xknd, xgiv, k_mnow, mstl, mcan, mmk, mac, mmov, mtp, mso, mmo, mmh, mmi, mgi, k_mdm, moa, k_rnow, rstl, rcan, rmk, rwish, rbox, rthr, rsof, rwor, rhol, rmov, rmvr, rmvf, rmvt, xhol⟩
theorem st_marked (ci : Nat → Int32) (ca : Nat → Nat → Int32) (mi : Nat → Int32) (ma : Nat → Nat → Int32) (p1 : Int32) (p2 : Int32) (p3 : Int32) (p4 : Int32) (hI : Inv ci ca mi ma) (P : Int32 → Unit → Int32 → Unit → Prop) (h : ∀ r u q v, Inv ci ca mi ma → P r u q v) : (wp_X7_marked p1 p2 p3 p4 (ci 1) (ca 12) (ca 13) (ca 14) (ca 15) (ca 16) (ca 17) (fun (r : Int32) (u : Unit) => (wp_X8_marked p1 p2 p3 p4 (mi 2) (mi 4) (ma 7) (ma 8) (ma 9) (ma 10) (ma 11) (fun (q : Int32) (v : Unit) => P r u q v)))) := by
  obtain ⟨xnow, xcan, xstl, xmov, xmade, xtold, xlen, xsof, xnew, xold, xwho, xhof, xknd, xgiv, mnow, mstl, mcan, mmk, mac, mmov, mtp, mso, mmo, mmh, mmi, mgi, mdm, moa, rnow, rstl, rcan, rmk, rwish, rbox, rthr, rsof, rwor, rhol, rmov, rmvr, rmvf, rmvt, xhol⟩ := hI
  refine s_X7_marked _ _ _ _ _ _ _ _ _ _ _ _ ?_ ?_ ?_ (fun r u hu => s_X8_marked _ _ _ _ _ _ _ _ _ _ _ _ ?_ ?_ (fun q v hv => h r u q v ?_))
  all_goals (try assumption)
  · clear h
    exact ⟨xnow, xcan, xstl, xmov, xmade, xtold, xlen, xsof, xnew, xold, xwho, xhof, xknd, xgiv, mnow, mstl, mcan, mmk, mac, mmov, mtp, mso, mmo, mmh, mmi, mgi, mdm, moa, rnow, rstl, rcan, rmk, rwish, rbox, rthr, rsof, rwor, rhol, rmov, rmvr, rmvf, rmvt, xhol⟩
theorem st_points (ci : Nat → Int32) (ca : Nat → Nat → Int32) (mi : Nat → Int32) (ma : Nat → Nat → Int32) (p1 : Int32) (p2 : Int32) (p3 : Int32) (hI : Inv ci ca mi ma) (P : Int32 → (Nat → Int32) × (Nat → Int32) → Int32 → (Nat → Int32) × (Nat → Int32) × Int32 → Prop) (h : ∀ r u q v, Inv ci (va_up (va_up ca 18 u.1) 19 u.2) (upd mi 7 v.2.2) (va_up (va_up ma 23 v.1) 24 v.2.1) → P r u q v) : (wp_X7_points p1 p2 p3 (ci 5) (ca 8) (ca 9) (ca 10) (ca 11) (ci 1) (ca 12) (ca 13) (ca 14) (ca 15) (ca 16) (ca 17) (ca 18) (ca 19) (fun (r : Int32) (u : (Nat → Int32) × (Nat → Int32)) => (wp_X8_points p1 p2 p3 (mi 2) (mi 4) (ma 7) (ma 8) (ma 9) (ma 10) (ma 11) (mi 5) (ma 15) (ma 16) (ma 17) (ma 18) (ma 23) (ma 24) (mi 7) (fun (q : Int32) (v : (Nat → Int32) × (Nat → Int32) × Int32) => P r u q v)))) := by
  obtain ⟨xnow, xcan, xstl, xmov, xmade, xtold, xlen, xsof, xnew, xold, xwho, xhof, xknd, xgiv, mnow, mstl, mcan, mmk, mac, mmov, mtp, mso, mmo, mmh, mmi, mgi, mdm, moa, rnow, rstl, rcan, rmk, rwish, rbox, rthr, rsof, rwor, rhol, rmov, rmvr, rmvf, rmvt, xhol⟩ := hI
  refine s_X7_points _ _ _ _ _ _ _ _ _ _ _ _ _ _ _ _ _ _ ?_ ?_ ?_ ?_ ?_ ?_ ?_ (fun r u hu => s_X8_points _ _ _ _ _ _ _ _ _ _ _ _ _ _ _ _ _ _ _ ?_ ?_ ?_ ?_ ?_ ?_ ?_ (fun q v hv => h r u q v ?_))
  all_goals (try assumption)
  · clear h
    have k_mdm : al v.1 0 5 := by clear hu; grind
    exact ⟨xnow, xcan, xstl, xmov, xmade, xtold, xlen, xsof, xnew, xold, xwho, xhof, xknd, xgiv, mnow, mstl, mcan, mmk, mac, mmov, mtp, mso, mmo, mmh, mmi, mgi, k_mdm, moa, rnow, rstl, rcan, rmk, rwish, rbox, rthr, rsof, rwor, rhol, rmov, rmvr, rmvf, rmvt, xhol⟩
theorem st_share (ci : Nat → Int32) (ca : Nat → Nat → Int32) (mi : Nat → Int32) (ma : Nat → Nat → Int32) (p1 : Int32) (p2 : Int32) (p3 : Int32) (hI : Inv ci ca mi ma) (P : Int32 → (Nat → Int32) × (Nat → Int32) × (Nat → Int32) → Int32 → (Nat → Int32) × (Nat → Int32) × (Nat → Int32) × Int32 → Prop) (h : ∀ r u q v, Inv ci (va_up (va_up (va_up ca 18 u.1) 19 u.2.1) 21 u.2.2) (upd mi 7 v.2.2.2) (va_up (va_up (va_up ma 23 v.1) 24 v.2.1) 25 v.2.2.1) → P r u q v) : (wp_X7_share p1 p2 p3 (ci 5) (ca 8) (ca 9) (ca 10) (ca 11) (ci 1) (ca 12) (ca 13) (ca 14) (ca 15) (ca 16) (ca 17) (ca 18) (ca 19) (ca 20) (ca 21) (fun (r : Int32) (u : (Nat → Int32) × (Nat → Int32) × (Nat → Int32)) => (wp_X8_share p1 p2 p3 (mi 2) (mi 4) (ma 7) (ma 8) (ma 9) (ma 10) (ma 11) (ma 12) (mi 5) (ma 15) (ma 16) (ma 17) (ma 18) (ma 23) (ma 24) (ma 25) (mi 7) (fun (q : Int32) (v : (Nat → Int32) × (Nat → Int32) × (Nat → Int32) × Int32) => P r u q v)))) := by
  obtain ⟨xnow, xcan, xstl, xmov, xmade, xtold, xlen, xsof, xnew, xold, xwho, xhof, xknd, xgiv, mnow, mstl, mcan, mmk, mac, mmov, mtp, mso, mmo, mmh, mmi, mgi, mdm, moa, rnow, rstl, rcan, rmk, rwish, rbox, rthr, rsof, rwor, rhol, rmov, rmvr, rmvf, rmvt, xhol⟩ := hI
  refine s_X7_share _ _ _ _ _ _ _ _ _ _ _ _ _ _ _ _ _ _ _ _ ?_ ?_ ?_ ?_ ?_ ?_ ?_ (fun r u hu => s_X8_share _ _ _ _ _ _ _ _ _ _ _ _ _ _ _ _ _ _ _ _ _ ?_ ?_ ?_ ?_ ?_ ?_ ?_ (fun q v hv => h r u q v ?_))
  all_goals (try assumption)
  · clear h
    have k_mdm : al v.1 0 5 := by clear hu; grind
    exact ⟨xnow, xcan, xstl, xmov, xmade, xtold, xlen, xsof, xnew, xold, xwho, xhof, xknd, xgiv, mnow, mstl, mcan, mmk, mac, mmov, mtp, mso, mmo, mmh, mmi, mgi, k_mdm, moa, rnow, rstl, rcan, rmk, rwish, rbox, rthr, rsof, rwor, rhol, rmov, rmvr, rmvf, rmvt, xhol⟩
theorem st_paid (ci : Nat → Int32) (ca : Nat → Nat → Int32) (mi : Nat → Int32) (ma : Nat → Nat → Int32) (p1 : Int32) (p2 : Int32) (hI : Inv ci ca mi ma) (P : Int32 → (Nat → Int32) × (Nat → Int32) × (Nat → Int32) → Int32 → Unit → Prop) (h : ∀ r u q v, Inv ci (va_up (va_up (va_up ca 18 u.1) 19 u.2.1) 21 u.2.2) mi ma → P r u q v) : (wp_X7_paid p1 p2 (ci 5) (ca 8) (ca 9) (ca 10) (ca 11) (ci 1) (ca 12) (ca 13) (ca 14) (ca 15) (ca 16) (ca 17) (ca 18) (ca 19) (ca 20) (ca 21) (ci 0) (fun (r : Int32) (u : (Nat → Int32) × (Nat → Int32) × (Nat → Int32)) => (wp_X8_paid p1 p2 (mi 0) (mi 2) (ma 14) (fun (q : Int32) (v : Unit) => P r u q v)))) := by
  obtain ⟨xnow, xcan, xstl, xmov, xmade, xtold, xlen, xsof, xnew, xold, xwho, xhof, xknd, xgiv, mnow, mstl, mcan, mmk, mac, mmov, mtp, mso, mmo, mmh, mmi, mgi, mdm, moa, rnow, rstl, rcan, rmk, rwish, rbox, rthr, rsof, rwor, rhol, rmov, rmvr, rmvf, rmvt, xhol⟩ := hI
  refine s_X7_paid _ _ _ _ _ _ _ _ _ _ _ _ _ _ _ _ _ _ _ _ ?_ ?_ ?_ ?_ ?_ ?_ ?_ ?_ (fun r u hu => s_X8_paid _ _ _ _ _ _ ?_ ?_ (fun q v hv => h r u q v ?_))
  all_goals (try assumption)
  · clear h
    exact ⟨xnow, xcan, xstl, xmov, xmade, xtold, xlen, xsof, xnew, xold, xwho, xhof, xknd, xgiv, mnow, mstl, mcan, mmk, mac, mmov, mtp, mso, mmo, mmh, mmi, mgi, mdm, moa, rnow, rstl, rcan, rmk, rwish, rbox, rthr, rsof, rwor, rhol, rmov, rmvr, rmvf, rmvt, xhol⟩
theorem st_back (ci : Nat → Int32) (ca : Nat → Nat → Int32) (mi : Nat → Int32) (ma : Nat → Nat → Int32) (p1 : Int32) (hI : Inv ci ca mi ma) (P : Int32 → (Nat → Int32) × (Nat → Int32) × (Nat → Int32) → Int32 → (Nat → Int32) × (Nat → Int32) × (Nat → Int32) × Int32 → Prop) (h : ∀ r u q v, Inv ci (va_up (va_up (va_up ca 18 u.1) 19 u.2.1) 21 u.2.2) (upd mi 7 v.2.2.2) (va_up (va_up (va_up ma 23 v.1) 24 v.2.1) 25 v.2.2.1) → P r u q v) : (wp_X7_back p1 (ci 5) (ca 8) (ca 9) (ca 10) (ca 11) (ci 1) (ca 12) (ca 13) (ca 14) (ca 15) (ca 16) (ca 17) (ca 18) (ca 19) (ca 20) (ca 21) (ca 22) (ci 0) (fun (r : Int32) (u : (Nat → Int32) × (Nat → Int32) × (Nat → Int32)) => (wp_X8_back p1 (mi 0) (mi 2) (mi 4) (ma 7) (ma 8) (ma 9) (ma 10) (ma 11) (ma 12) (ma 14) (mi 5) (ma 15) (ma 16) (ma 17) (ma 18) (ma 23) (ma 24) (ma 25) (mi 7) (fun (q : Int32) (v : (Nat → Int32) × (Nat → Int32) × (Nat → Int32) × Int32) => P r u q v)))) := by
  obtain ⟨xnow, xcan, xstl, xmov, xmade, xtold, xlen, xsof, xnew, xold, xwho, xhof, xknd, xgiv, mnow, mstl, mcan, mmk, mac, mmov, mtp, mso, mmo, mmh, mmi, mgi, mdm, moa, rnow, rstl, rcan, rmk, rwish, rbox, rthr, rsof, rwor, rhol, rmov, rmvr, rmvf, rmvt, xhol⟩ := hI
  refine s_X7_back _ _ _ _ _ _ _ _ _ _ _ _ _ _ _ _ _ _ _ _ ?_ ?_ ?_ ?_ ?_ ?_ ?_ ?_ (fun r u hu => s_X8_back _ _ _ _ _ _ _ _ _ _ _ _ _ _ _ _ _ _ _ _ _ ?_ ?_ ?_ ?_ ?_ ?_ ?_ ?_ (fun q v hv => h r u q v ?_))
  all_goals (try assumption)
  · clear h
    have k_mdm : al v.1 0 5 := by clear hu; grind
    exact ⟨xnow, xcan, xstl, xmov, xmade, xtold, xlen, xsof, xnew, xold, xwho, xhof, xknd, xgiv, mnow, mstl, mcan, mmk, mac, mmov, mtp, mso, mmo, mmh, mmi, mgi, k_mdm, moa, rnow, rstl, rcan, rmk, rwish, rbox, rthr, rsof, rwor, rhol, rmov, rmvr, rmvf, rmvt, xhol⟩
theorem st_feed (ci : Nat → Int32) (ca : Nat → Nat → Int32) (mi : Nat → Int32) (ma : Nat → Nat → Int32) (p1 : Int32) (p2 : Int32) (p3 : Int32) (p4 : Int32) (p5 : Int32) (hI : Inv ci ca mi ma) (P : Int32 → Int32 × (Nat → Int32) → Int32 → (Nat → Int32) × Int32 → Prop) (h : ∀ r u q v, Inv (upd ci 8 u.1) (va_up ca 24 u.2) (upd mi 8 v.2) (va_up ma 26 v.1) → P r u q v) : (wp_X7_feed p1 p2 p3 p4 p5 (ci 8) (ca 24) (fun (r : Int32) (u : Int32 × (Nat → Int32)) => (wp_X8_feed p1 p2 p3 p4 p5 (ma 26) (mi 8) (fun (q : Int32) (v : (Nat → Int32) × Int32) => P r u q v)))) := by
  obtain ⟨xnow, xcan, xstl, xmov, xmade, xtold, xlen, xsof, xnew, xold, xwho, xhof, xknd, xgiv, mnow, mstl, mcan, mmk, mac, mmov, mtp, mso, mmo, mmh, mmi, mgi, mdm, moa, rnow, rstl, rcan, rmk, rwish, rbox, rthr, rsof, rwor, rhol, rmov, rmvr, rmvf, rmvt, xhol⟩ := hI
  refine s_X7_feed _ _ _ _ _ _ _ _ ?_ (fun r u hu => s_X8_feed _ _ _ _ _ _ _ _ ?_ (fun q v hv => h r u q v ?_))
  all_goals (try assumption)
  · clear h
    have k_xlen : (0 ≤ u.1 ∧ u.1 < 201) := by clear hv; grind
    have k_mtp : (0 ≤ v.2 ∧ v.2 < 201) := by clear hu; grind
    exact ⟨xnow, xcan, xstl, xmov, xmade, xtold, k_xlen, xsof, xnew, xold, xwho, xhof, xknd, xgiv, mnow, mstl, mcan, mmk, mac, mmov, k_mtp, mso, mmo, mmh, mmi, mgi, mdm, moa, rnow, rstl, rcan, rmk, rwish, rbox, rthr, rsof, rwor, rhol, rmov, rmvr, rmvf, rmvt, xhol⟩
theorem st_end (ci : Nat → Int32) (ca : Nat → Nat → Int32) (mi : Nat → Int32) (ma : Nat → Nat → Int32) (p1 : Int32) (hI : Inv ci ca mi ma) (P : Int32 → Int32 → Int32 → Int32 → Prop) (h : ∀ r u q v, Inv (upd ci 8 u) ca (upd mi 8 v) ma → P r u q v) : (wp_X7_end p1 (ci 8) (fun (r : Int32) (u : Int32) => (wp_X8_end p1 (mi 8) (fun (q : Int32) (v : Int32) => P r u q v)))) := by
  obtain ⟨xnow, xcan, xstl, xmov, xmade, xtold, xlen, xsof, xnew, xold, xwho, xhof, xknd, xgiv, mnow, mstl, mcan, mmk, mac, mmov, mtp, mso, mmo, mmh, mmi, mgi, mdm, moa, rnow, rstl, rcan, rmk, rwish, rbox, rthr, rsof, rwor, rhol, rmov, rmvr, rmvf, rmvt, xhol⟩ := hI
  refine s_X7_end _ _ _ ?_ (fun r u hu => s_X8_end _ _ _ ?_ (fun q v hv => h r u q v ?_))
  all_goals (try assumption)
  · clear h
    have k_xlen : (0 ≤ u ∧ u < 201) := by clear hv; grind
    have k_mtp : (0 ≤ v ∧ v < 201) := by clear hu; grind
    exact ⟨xnow, xcan, xstl, xmov, xmade, xtold, k_xlen, xsof, xnew, xold, xwho, xhof, xknd, xgiv, mnow, mstl, mcan, mmk, mac, mmov, k_mtp, mso, mmo, mmh, mmi, mgi, mdm, moa, rnow, rstl, rcan, rmk, rwish, rbox, rthr, rsof, rwor, rhol, rmov, rmvr, rmvf, rmvt, xhol⟩
theorem st_open (ci : Nat → Int32) (ca : Nat → Nat → Int32) (mi : Nat → Int32) (ma : Nat → Nat → Int32) (hI : Inv ci ca mi ma) (P : Int32 → Int32 × Int32 × (Nat → Int32) × (Nat → Int32) × (Nat → Int32) × Int32 × Int32 × Int32 × Int32 → Int32 → Int32 × Int32 × Int32 × Int32 × Int32 × (Nat → Int32) × Int32 × Int32 × Int32 × (Nat → Int32) × (Nat → Int32) × (Nat → Int32) → Prop) (h : ∀ r u q v, Inv (upd (upd (upd (upd (upd (upd ci 12 u.1) 13 u.2.1) 9 u.2.2.2.2.2.1) 10 u.2.2.2.2.2.2.1) 11 u.2.2.2.2.2.2.2.1) 8 u.2.2.2.2.2.2.2.2) (va_up (va_up (va_up ca 26 u.2.2.1) 27 u.2.2.2.1) 25 u.2.2.2.2.1) (upd (upd (upd (upd (upd (upd (upd (upd mi 8 v.1) 9 v.2.1) 10 v.2.2.1) 11 v.2.2.2.1) 12 v.2.2.2.2.1) 13 v.2.2.2.2.2.2.1) 14 v.2.2.2.2.2.2.2.1) 15 v.2.2.2.2.2.2.2.2.1) (va_up (va_up (va_up (va_up ma 27 v.2.2.2.2.2.1) 29 v.2.2.2.2.2.2.2.2.2.1) 30 v.2.2.2.2.2.2.2.2.2.2.1) 31 v.2.2.2.2.2.2.2.2.2.2.2) → P r u q v) : (wp_X7_open (ci 5) (ci 12) (ci 13) (ca 26) (ca 27) (ca 25) (ci 9) (ci 10) (ci 11) (ci 8) (ca 24) (ci 0) (fun (r : Int32) (u : Int32 × Int32 × (Nat → Int32) × (Nat → Int32) × (Nat → Int32) × Int32 × Int32 × Int32 × Int32) => (wp_X8_open (mi 0) (mi 5) (ma 26) (mi 8) (mi 9) (mi 10) (mi 11) (mi 12) (ma 27) (ma 28) (mi 13) (mi 14) (mi 15) (ma 29) (ma 30) (ma 31) (fun (q : Int32) (v : Int32 × Int32 × Int32 × Int32 × Int32 × (Nat → Int32) × Int32 × Int32 × Int32 × (Nat → Int32) × (Nat → Int32) × (Nat → Int32)) => P r u q v)))) := by
  obtain ⟨xnow, xcan, xstl, xmov, xmade, xtold, xlen, xsof, xnew, xold, xwho, xhof, xknd, xgiv, mnow, mstl, mcan, mmk, mac, mmov, mtp, mso, mmo, mmh, mmi, mgi, mdm, moa, rnow, rstl, rcan, rmk, rwish, rbox, rthr, rsof, rwor, rhol, rmov, rmvr, rmvf, rmvt, xhol⟩ := hI
  refine s_X7_open _ _ _ _ _ _ _ _ _ _ _ _ _ ?_ ?_ ?_ (fun r u hu => s_X8_open _ _ _ _ _ _ _ _ _ _ _ _ _ _ _ _ _ ?_ ?_ ?_ ?_ (fun q v hv => h r u q v ?_))
  all_goals (try assumption)
  · clear h
    have k_xlen : (0 ≤ u.2.2.2.2.2.2.2.2 ∧ u.2.2.2.2.2.2.2.2 < 201) := by clear hv; grind
    have k_xgiv : al u.2.2.2.1 (-1) 20 := by clear hv; grind
    have k_mtp : (0 ≤ v.1 ∧ v.1 < 201) := by clear hu; grind
    have k_mgi : al v.2.2.2.2.2.2.2.2.2.2.1 (-1) 20 := by clear hu; grind
    have k_moa : (¬ v.2.2.2.2.2.2.2.1 = 0 → (mi 5) < 10) := by clear hu; grind
    exact ⟨xnow, xcan, xstl, xmov, xmade, xtold, k_xlen, xsof, xnew, xold, xwho, xhof, xknd, k_xgiv, mnow, mstl, mcan, mmk, mac, mmov, k_mtp, mso, mmo, mmh, mmi, k_mgi, mdm, k_moa, rnow, rstl, rcan, rmk, rwish, rbox, rthr, rsof, rwor, rhol, rmov, rmvr, rmvf, rmvt, xhol⟩
theorem st_votes (ci : Nat → Int32) (ca : Nat → Nat → Int32) (mi : Nat → Int32) (ma : Nat → Nat → Int32) (p1 : Int32) (p2 : Int32) (hI : Inv ci ca mi ma) (hz : p2 = 0 ∨ p2 = 1) (P : Int32 → (Nat → Int32) × (Nat → Int32) → Int32 → (Nat → Int32) × (Nat → Int32) → Prop) (h : ∀ r u q v, Inv ci (va_up (va_up ca 26 u.1) 27 u.2) mi (va_up (va_up ma 29 v.1) 30 v.2) → P r u q v) : (wp_X7_votes p1 p2 (ci 12) (ca 26) (ca 27) (ci 1) (ca 0) (ci 0) (fun (r : Int32) (u : (Nat → Int32) × (Nat → Int32)) => (wp_X8_votes p1 p2 (mi 0) (mi 2) (ma 2) (mi 14) (ma 29) (ma 30) (fun (q : Int32) (v : (Nat → Int32) × (Nat → Int32)) => P r u q v)))) := by
  obtain ⟨xnow, xcan, xstl, xmov, xmade, xtold, xlen, xsof, xnew, xold, xwho, xhof, xknd, xgiv, mnow, mstl, mcan, mmk, mac, mmov, mtp, mso, mmo, mmh, mmi, mgi, mdm, moa, rnow, rstl, rcan, rmk, rwish, rbox, rthr, rsof, rwor, rhol, rmov, rmvr, rmvf, rmvt, xhol⟩ := hI
  refine s_X7_votes _ _ _ _ _ _ _ _ _ ?_ ?_ (fun r u hu => s_X8_votes _ _ _ _ _ _ _ _ _ ?_ ?_ (fun q v hv => h r u q v ?_))
  all_goals (try assumption)
  · clear h
    have k_xgiv : al u.2 (-1) 20 := by clear hv; grind
    have k_mgi : al v.2 (-1) 20 := by clear hu; grind
    exact ⟨xnow, xcan, xstl, xmov, xmade, xtold, xlen, xsof, xnew, xold, xwho, xhof, xknd, k_xgiv, mnow, mstl, mcan, mmk, mac, mmov, mtp, mso, mmo, mmh, mmi, k_mgi, mdm, moa, rnow, rstl, rcan, rmk, rwish, rbox, rthr, rsof, rwor, rhol, rmov, rmvr, rmvf, rmvt, xhol⟩
theorem st_gives (ci : Nat → Int32) (ca : Nat → Nat → Int32) (mi : Nat → Int32) (ma : Nat → Nat → Int32) (p1 : Int32) (p2 : Int32) (hI : Inv ci ca mi ma) (P : Int32 → (Nat → Int32) × (Nat → Int32) → Int32 → (Nat → Int32) × (Nat → Int32) → Prop) (h : ∀ r u q v, Inv ci (va_up (va_up ca 26 u.1) 27 u.2) mi (va_up (va_up ma 29 v.1) 30 v.2) → P r u q v) : (wp_X7_gives p1 p2 (ci 5) (ca 8) (ca 9) (ca 10) (ca 11) (ci 12) (ca 26) (ca 27) (ci 1) (ca 0) (ci 0) (fun (r : Int32) (u : (Nat → Int32) × (Nat → Int32)) => (wp_X8_gives p1 p2 (mi 0) (mi 2) (ma 2) (mi 5) (ma 15) (ma 16) (ma 17) (ma 18) (mi 14) (ma 29) (ma 30) (fun (q : Int32) (v : (Nat → Int32) × (Nat → Int32)) => P r u q v)))) := by
  obtain ⟨xnow, xcan, xstl, xmov, xmade, xtold, xlen, xsof, xnew, xold, xwho, xhof, xknd, xgiv, mnow, mstl, mcan, mmk, mac, mmov, mtp, mso, mmo, mmh, mmi, mgi, mdm, moa, rnow, rstl, rcan, rmk, rwish, rbox, rthr, rsof, rwor, rhol, rmov, rmvr, rmvf, rmvt, xhol⟩ := hI
  refine s_X7_gives _ _ _ _ _ _ _ _ _ _ _ _ _ _ ?_ ?_ ?_ (fun r u hu => s_X8_gives _ _ _ _ _ _ _ _ _ _ _ _ _ _ ?_ ?_ ?_ (fun q v hv => h r u q v ?_))
  all_goals (try assumption)
  · clear h
    have k_xgiv : al u.2 (-1) 20 := by clear hv; grind
    have k_mgi : al v.2 (-1) 20 := by clear hu; grind
    exact ⟨xnow, xcan, xstl, xmov, xmade, xtold, xlen, xsof, xnew, xold, xwho, xhof, xknd, k_xgiv, mnow, mstl, mcan, mmk, mac, mmov, mtp, mso, mmo, mmh, mmi, k_mgi, mdm, moa, rnow, rstl, rcan, rmk, rwish, rbox, rthr, rsof, rwor, rhol, rmov, rmvr, rmvf, rmvt, xhol⟩
theorem st_close (ci : Nat → Int32) (ca : Nat → Nat → Int32) (mi : Nat → Int32) (ma : Nat → Nat → Int32) (p1 : Int32) (hI : Inv ci ca mi ma) (P : Int32 → Int32 × (Nat → Int32) × (Nat → Int32) × (Nat → Int32) × Int32 × Int32 × Int32 × Int32 → Int32 → Int32 × (Nat → Int32) × (Nat → Int32) × (Nat → Int32) × (Nat → Int32) × Int32 × Int32 × Int32 × Int32 → Prop) (h : ∀ r u q v, Inv (upd (upd (upd (upd (upd ci 5 u.1) 12 u.2.2.2.2.1) 14 u.2.2.2.2.2.1) 15 u.2.2.2.2.2.2.1) 16 u.2.2.2.2.2.2.2) (va_up (va_up (va_up ca 8 u.2.1) 9 u.2.2.1) 10 u.2.2.2.1) (upd (upd (upd (upd (upd mi 5 v.1) 14 v.2.2.2.2.2.1) 16 v.2.2.2.2.2.2.1) 17 v.2.2.2.2.2.2.2.1) 18 v.2.2.2.2.2.2.2.2) (va_up (va_up (va_up (va_up ma 15 v.2.1) 16 v.2.2.1) 17 v.2.2.2.1) 18 v.2.2.2.2.1) → P r u q v) : (wp_X7_close p1 (ci 5) (ca 8) (ca 9) (ca 10) (ca 11) (ci 12) (ca 26) (ca 27) (ci 14) (ci 15) (ci 16) (ci 1) (ci 2) (ca 0) (ca 25) (ci 0) (fun (r : Int32) (u : Int32 × (Nat → Int32) × (Nat → Int32) × (Nat → Int32) × Int32 × Int32 × Int32 × Int32) => (wp_X8_close p1 (mi 0) (mi 2) (ma 2) (mi 5) (ma 15) (ma 16) (ma 17) (ma 18) (mi 14) (ma 29) (ma 30) (ma 31) (mi 16) (mi 17) (mi 18) (fun (q : Int32) (v : Int32 × (Nat → Int32) × (Nat → Int32) × (Nat → Int32) × (Nat → Int32) × Int32 × Int32 × Int32 × Int32) => P r u q v)))) := by
  obtain ⟨xnow, xcan, xstl, xmov, xmade, xtold, xlen, xsof, xnew, xold, xwho, xhof, xknd, xgiv, mnow, mstl, mcan, mmk, mac, mmov, mtp, mso, mmo, mmh, mmi, mgi, mdm, moa, rnow, rstl, rcan, rmk, rwish, rbox, rthr, rsof, rwor, rhol, rmov, rmvr, rmvf, rmvt, xhol⟩ := hI
  refine s_X7_close _ _ _ _ _ _ _ _ _ _ _ _ _ _ _ _ _ _ ?_ ?_ ?_ (fun r u hu => s_X8_close _ _ _ _ _ _ _ _ _ _ _ _ _ _ _ _ _ ?_ ?_ ?_ ?_ (fun q v hv => h r u q v ?_))
  all_goals (try assumption)
  · clear h
    have k_xmade : (0 ≤ u.1 ∧ u.1 < 11) := by clear hv; grind
    have k_mac : (0 ≤ v.1 ∧ v.1 < 11) := by clear hu; grind
    have k_moa : (¬ v.2.2.2.2.2.1 = 0 → v.1 < 10) := by clear hu; grind
    exact ⟨xnow, xcan, xstl, xmov, k_xmade, xtold, xlen, xsof, xnew, xold, xwho, xhof, xknd, xgiv, mnow, mstl, mcan, mmk, k_mac, mmov, mtp, mso, mmo, mmh, mmi, mgi, mdm, k_moa, rnow, rstl, rcan, rmk, rwish, rbox, rthr, rsof, rwor, rhol, rmov, rmvr, rmvf, rmvt, xhol⟩
theorem st_undo (ci : Nat → Int32) (ca : Nat → Nat → Int32) (mi : Nat → Int32) (ma : Nat → Nat → Int32) (p1 : Int32) (hI : Inv ci ca mi ma) (P : Int32 → (Nat → Int32) → Int32 → (Nat → Int32) → Prop) (h : ∀ r u q v, Inv ci (va_up ca 11 u) mi (va_up ma 18 v) → P r u q v) : (wp_X7_undo p1 (ci 5) (ca 11) (ci 0) (fun (r : Int32) (u : (Nat → Int32)) => (wp_X8_undo p1 (mi 0) (mi 5) (ma 18) (fun (q : Int32) (v : (Nat → Int32)) => P r u q v)))) := by
  obtain ⟨xnow, xcan, xstl, xmov, xmade, xtold, xlen, xsof, xnew, xold, xwho, xhof, xknd, xgiv, mnow, mstl, mcan, mmk, mac, mmov, mtp, mso, mmo, mmh, mmi, mgi, mdm, moa, rnow, rstl, rcan, rmk, rwish, rbox, rthr, rsof, rwor, rhol, rmov, rmvr, rmvf, rmvt, xhol⟩ := hI
  refine s_X7_undo _ _ _ _ _ ?_ (fun r u hu => s_X8_undo _ _ _ _ _ ?_ (fun q v hv => h r u q v ?_))
  all_goals (try assumption)
  · clear h
    exact ⟨xnow, xcan, xstl, xmov, xmade, xtold, xlen, xsof, xnew, xold, xwho, xhof, xknd, xgiv, mnow, mstl, mcan, mmk, mac, mmov, mtp, mso, mmo, mmh, mmi, mgi, mdm, moa, rnow, rstl, rcan, rmk, rwish, rbox, rthr, rsof, rwor, rhol, rmov, rmvr, rmvf, rmvt, xhol⟩
theorem st_holds (ci : Nat → Int32) (ca : Nat → Nat → Int32) (mi : Nat → Int32) (ma : Nat → Nat → Int32) (p1 : Int32) (p2 : Int32) (p3 : Int32) (hI : Inv ci ca mi ma) (P : Int32 → Unit → Int32 → Unit → Prop) (h : ∀ r u q v, Inv ci ca mi ma → P r u q v) : (wp_X7_holds p1 p2 p3 (ci 5) (ca 8) (ca 9) (ca 10) (ca 11) (fun (r : Int32) (u : Unit) => (wp_X8_holds p1 p2 p3 (mi 5) (ma 15) (ma 16) (ma 17) (ma 18) (fun (q : Int32) (v : Unit) => P r u q v)))) := by
  obtain ⟨xnow, xcan, xstl, xmov, xmade, xtold, xlen, xsof, xnew, xold, xwho, xhof, xknd, xgiv, mnow, mstl, mcan, mmk, mac, mmov, mtp, mso, mmo, mmh, mmi, mgi, mdm, moa, rnow, rstl, rcan, rmk, rwish, rbox, rthr, rsof, rwor, rhol, rmov, rmvr, rmvf, rmvt, xhol⟩ := hI
  refine s_X7_holds _ _ _ _ _ _ _ _ _ ?_ (fun r u hu => s_X8_holds _ _ _ _ _ _ _ _ _ ?_ (fun q v hv => h r u q v ?_))
  all_goals (try assumption)
  · clear h
    exact ⟨xnow, xcan, xstl, xmov, xmade, xtold, xlen, xsof, xnew, xold, xwho, xhof, xknd, xgiv, mnow, mstl, mcan, mmk, mac, mmov, mtp, mso, mmo, mmh, mmi, mgi, mdm, moa, rnow, rstl, rcan, rmk, rwish, rbox, rthr, rsof, rwor, rhol, rmov, rmvr, rmvf, rmvt, xhol⟩
theorem st_vote (ci : Nat → Int32) (ca : Nat → Nat → Int32) (mi : Nat → Int32) (ma : Nat → Nat → Int32) (p1 : Int32) (hI : Inv ci ca mi ma) (P : Int32 → Int32 × Int32 × Int32 → Int32 → Int32 × Int32 × Int32 → Prop) (h : ∀ r u q v, Inv (upd (upd (upd ci 14 u.1) 15 u.2.1) 16 u.2.2) ca (upd (upd (upd mi 16 v.1) 17 v.2.1) 18 v.2.2) ma → P r u q v) : (wp_X7_vote p1 (ci 12) (ci 13) (ca 26) (ca 27) (ci 14) (ci 15) (ci 16) (ci 1) (ca 0) (fun (r : Int32) (u : Int32 × Int32 × Int32) => (wp_X8_vote p1 (mi 2) (ma 2) (mi 14) (mi 15) (ma 29) (ma 30) (mi 16) (mi 17) (mi 18) (fun (q : Int32) (v : Int32 × Int32 × Int32) => P r u q v)))) := by
  obtain ⟨xnow, xcan, xstl, xmov, xmade, xtold, xlen, xsof, xnew, xold, xwho, xhof, xknd, xgiv, mnow, mstl, mcan, mmk, mac, mmov, mtp, mso, mmo, mmh, mmi, mgi, mdm, moa, rnow, rstl, rcan, rmk, rwish, rbox, rthr, rsof, rwor, rhol, rmov, rmvr, rmvf, rmvt, xhol⟩ := hI
  refine s_X7_vote _ _ _ _ _ _ _ _ _ _ _ ?_ ?_ (fun r u hu => s_X8_vote _ _ _ _ _ _ _ _ _ _ _ ?_ ?_ (fun q v hv => h r u q v ?_))
  all_goals (try assumption)
  · clear h
    exact ⟨xnow, xcan, xstl, xmov, xmade, xtold, xlen, xsof, xnew, xold, xwho, xhof, xknd, xgiv, mnow, mstl, mcan, mmk, mac, mmov, mtp, mso, mmo, mmh, mmi, mgi, mdm, moa, rnow, rstl, rcan, rmk, rwish, rbox, rthr, rsof, rwor, rhol, rmov, rmvr, rmvf, rmvt, xhol⟩
theorem st_about (ci : Nat → Int32) (ca : Nat → Nat → Int32) (mi : Nat → Int32) (ma : Nat → Nat → Int32) (p1 : Int32) (p2 : Int32) (hI : Inv ci ca mi ma) (P : Int32 → Unit → Int32 → Unit → Prop) (h : ∀ r u q v, Inv ci ca mi ma → P r u q v) : (wp_X7_about p1 p2 (ci 1) (ca 0) (ca 1) (ca 22) (ca 23) (fun (r : Int32) (u : Unit) => (wp_X8_about p1 p2 (mi 2) (ma 2) (ma 3) (ma 5) (ma 6) (fun (q : Int32) (v : Unit) => P r u q v)))) := by
  obtain ⟨xnow, xcan, xstl, xmov, xmade, xtold, xlen, xsof, xnew, xold, xwho, xhof, xknd, xgiv, mnow, mstl, mcan, mmk, mac, mmov, mtp, mso, mmo, mmh, mmi, mgi, mdm, moa, rnow, rstl, rcan, rmk, rwish, rbox, rthr, rsof, rwor, rhol, rmov, rmvr, rmvf, rmvt, xhol⟩ := hI
  refine s_X7_about _ _ _ _ _ _ _ _ ?_ (fun r u hu => s_X8_about _ _ _ _ _ _ _ _ ?_ (fun q v hv => h r u q v ?_))
  all_goals (try assumption)
  · clear h
    exact ⟨xnow, xcan, xstl, xmov, xmade, xtold, xlen, xsof, xnew, xold, xwho, xhof, xknd, xgiv, mnow, mstl, mcan, mmk, mac, mmov, mtp, mso, mmo, mmh, mmi, mgi, mdm, moa, rnow, rstl, rcan, rmk, rwish, rbox, rthr, rsof, rwor, rhol, rmov, rmvr, rmvf, rmvt, xhol⟩
theorem st_count (ci : Nat → Int32) (ca : Nat → Nat → Int32) (mi : Nat → Int32) (ma : Nat → Nat → Int32) (p1 : Int32) (hI : Inv ci ca mi ma) (P : Int32 → Unit → Int32 → Unit → Prop) (h : ∀ r u q v, Inv ci ca mi ma → P r u q v) : (wp_X7_count p1 (ci 5) (ci 1) (ci 2) (ci 3) (ca 3) (ci 6) (ci 7) (ci 8) (ci 0) (fun (r : Int32) (u : Unit) => (wp_X8_count p1 (mi 0) (mi 1) (ma 1) (mi 2) (ma 2) (mi 3) (mi 4) (mi 5) (mi 8) (fun (q : Int32) (v : Unit) => P r u q v)))) := by
  obtain ⟨xnow, xcan, xstl, xmov, xmade, xtold, xlen, xsof, xnew, xold, xwho, xhof, xknd, xgiv, mnow, mstl, mcan, mmk, mac, mmov, mtp, mso, mmo, mmh, mmi, mgi, mdm, moa, rnow, rstl, rcan, rmk, rwish, rbox, rthr, rsof, rwor, rhol, rmov, rmvr, rmvf, rmvt, xhol⟩ := hI
  refine s_X7_count _ _ _ _ _ _ _ _ _ _ _ ?_ (fun r u hu => s_X8_count _ _ _ _ _ _ _ _ _ _ _ ?_ ?_ (fun q v hv => h r u q v ?_))
  all_goals (try assumption)
  · clear h
    exact ⟨xnow, xcan, xstl, xmov, xmade, xtold, xlen, xsof, xnew, xold, xwho, xhof, xknd, xgiv, mnow, mstl, mcan, mmk, mac, mmov, mtp, mso, mmo, mmh, mmi, mgi, mdm, moa, rnow, rstl, rcan, rmk, rwish, rbox, rthr, rsof, rwor, rhol, rmov, rmvr, rmvf, rmvt, xhol⟩
