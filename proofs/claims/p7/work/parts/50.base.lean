/-! pure rows: ranges, indices, measures -/
def al (f : Nat → Int32) (lo hi : Int32) : Prop := ∀ j, lo ≤ f j ∧ f j < hi
theorem vin {i m : Int32} {n : Nat} (h0 : 0 ≤ i) (h1 : i < m) (hm : m.toInt = n) : vp_in i n := by
  unfold vp_in
  rw [Int32.lt_iff_toInt_lt] at *
  rw [Int32.le_iff_toInt_le] at h0
  have h2 : i.toNatClampNeg = i.toInt.toNat := rfl
  rw [h2]
  have h3 : (0 : Int32).toInt = 0 := rfl
  omega
theorem vin10 {i : Int32} (h0 : 0 ≤ i) (h1 : i < 10) : vp_in i 10 := vin h0 h1 rfl
theorem vin12 {i : Int32} (h0 : 0 ≤ i) (h1 : i < 12) : vp_in i 12 := vin h0 h1 rfl
theorem vin13 {i : Int32} (h0 : 0 ≤ i) (h1 : i < 13) : vp_in i 13 := vin h0 h1 rfl
theorem vin20 {i : Int32} (h0 : 0 ≤ i) (h1 : i < 20) : vp_in i 20 := vin h0 h1 rfl
theorem vin56 {i : Int32} (h0 : 0 ≤ i) (h1 : i < 56) : vp_in i 56 := vin h0 h1 rfl
theorem vin130 {i : Int32} (h0 : 0 ≤ i) (h1 : i < 130) : vp_in i 130 := vin h0 h1 rfl
theorem vin140 {i : Int32} (h0 : 0 ≤ i) (h1 : i < 140) : vp_in i 140 := vin h0 h1 rfl
theorem vin143 {i : Int32} (h0 : 0 ≤ i) (h1 : i < 143) : vp_in i 143 := vin h0 h1 rfl
theorem vin200 {i : Int32} (h0 : 0 ≤ i) (h1 : i < 200) : vp_in i 200 := vin h0 h1 rfl
theorem vin240 {i : Int32} (h0 : 0 ≤ i) (h1 : i < 240) : vp_in i 240 := vin h0 h1 rfl
theorem vin400 {i : Int32} (h0 : 0 ≤ i) (h1 : i < 400) : vp_in i 400 := vin h0 h1 rfl
theorem vin8000 {i : Int32} (h0 : 0 ≤ i) (h1 : i < 8000) : vp_in i 8000 := vin h0 h1 rfl
def tn (x : Int32) : Nat := x.toInt.toNat
theorem mz {a a' : Int32} {n : Nat} (h0 : 0 ≤ a') (h1 : a' < a) (h : tn a < n + 1) : tn a' < n := by
  unfold tn at *
  rw [Int32.lt_iff_toInt_lt] at h1
  rw [Int32.le_iff_toInt_le] at h0
  have h3 : (0 : Int32).toInt = 0 := rfl
  omega
theorem al_upd {f : Nat → Int32} {lo hi x : Int32} {k : Nat} (h : al f lo hi) (h0 : lo ≤ x) (h1 : x < hi) : al (upd f k x) lo hi := by
  intro j
  unfold upd
  split
  · exact ⟨h0, h1⟩
  · exact h j
theorem vinA {i : Int32} {n : Nat} (hn : n < 2147483648) (h0 : 0 ≤ i) (h1 : i < nI n) : vp_in i n := vin h0 h1 (by
  show (Int32.ofNat n).toInt = n
  rw [Int32.toInt_ofNat', show Int32.size = 4294967296 from rfl, Int.bmod_eq_of_le (by omega) (by omega)])
theorem fil20 : (0 : Int32) ≤ nI 20 := by decide
theorem fil400 : (0 : Int32) ≤ nI 400 := by decide
theorem nar0 : narrow .boolean (.int 0) = .int 0 := rfl
theorem nar1 : narrow .boolean (.int 1) = .int 1 := rfl
def atv (p len : Int32) (f : Nat → Int32) : Int32 := if p < 0 then -1 else if len ≤ p then -1 else f p.toNatClampNeg &&& 255
