/-! INTERVALS of ints. -/
theorem iv_any (x : Int32) : iv x (-2147483648) 2147483647 := ⟨by have := x.le_toInt; omega, by have := x.toInt_lt; omega⟩
theorem iv.mono {x : Int32} {lo hi lo' hi' : Int} (h : iv x lo hi) (h1 : lo' ≤ lo) (h2 : hi ≤ hi') : iv x lo' hi' := ⟨Int.le_trans h1 h.1, Int.le_trans h.2 h2⟩
theorem iv_eq {x y : Int32} {lo hi : Int} (h : iv y lo hi) (e : x = y) : iv x lo hi := e ▸ h
theorem iv_bmod {z : Int} (h1 : -2147483648 ≤ z) (h2 : z ≤ 2147483647) : z.bmod (2 ^ 32) = z := Int.bmod_eq_of_le (by omega) (by omega)
theorem iv_add {a b x : Int32} {la ua lb ub lo hi : Int} (ha : iv a la ua) (hb : iv b lb ub) (e : x = a + b) (h : lo ≤ la + lb ∧ ua + ub ≤ hi ∧ -2147483648 ≤ la + lb ∧ ua + ub ≤ 2147483647) : iv x lo hi := by
  obtain ⟨h1, h2, h3, h4⟩ := h
  obtain ⟨a1, a2⟩ := ha
  obtain ⟨b1, b2⟩ := hb
  have e2 : x.toInt = a.toInt + b.toInt := by rw [e, Int32.toInt_add, iv_bmod (by omega) (by omega)]
  exact ⟨by omega, by omega⟩
theorem iv_add_eq {a b x : Int32} {la ua lb ub : Int} (ha : iv a la ua) (hb : iv b lb ub) (e : x = a + b) (h : -2147483648 ≤ la + lb ∧ ua + ub ≤ 2147483647) : x.toInt = a.toInt + b.toInt := by
  obtain ⟨h3, h4⟩ := h
  obtain ⟨a1, a2⟩ := ha
  obtain ⟨b1, b2⟩ := hb
  rw [e, Int32.toInt_add, iv_bmod (by omega) (by omega)]
theorem iv_sub {a b x : Int32} {la ua lb ub lo hi : Int} (ha : iv a la ua) (hb : iv b lb ub) (e : x = a - b) (h : lo ≤ la - ub ∧ ua - lb ≤ hi ∧ -2147483648 ≤ la - ub ∧ ua - lb ≤ 2147483647) : iv x lo hi := by
  obtain ⟨h1, h2, h3, h4⟩ := h
  obtain ⟨a1, a2⟩ := ha
  obtain ⟨b1, b2⟩ := hb
  have e2 : x.toInt = a.toInt - b.toInt := by rw [e, Int32.toInt_sub, iv_bmod (by omega) (by omega)]
  exact ⟨by omega, by omega⟩
theorem iv_sub_eq {a b x : Int32} {la ua lb ub : Int} (ha : iv a la ua) (hb : iv b lb ub) (e : x = a - b) (h : -2147483648 ≤ la - ub ∧ ua - lb ≤ 2147483647) : x.toInt = a.toInt - b.toInt := by
  obtain ⟨h3, h4⟩ := h
  obtain ⟨a1, a2⟩ := ha
  obtain ⟨b1, b2⟩ := hb
  rw [e, Int32.toInt_sub, iv_bmod (by omega) (by omega)]
theorem iv_mul {a b x : Int32} {la ua lb ub lo hi : Int} (ha : iv a la ua) (hb : iv b lb ub) (e : x = a * b) (h : 0 ≤ la ∧ 0 ≤ lb ∧ lo ≤ la * lb ∧ ua * ub ≤ hi ∧ ua * ub ≤ 2147483647) : iv x lo hi := by
  obtain ⟨p1, p2, h1, h2, h4⟩ := h
  obtain ⟨a1, a2⟩ := ha
  obtain ⟨b1, b2⟩ := hb
  have k1 : la * lb ≤ a.toInt * b.toInt := Int.mul_le_mul a1 b1 p2 (by omega)
  have k2 : a.toInt * b.toInt ≤ ua * ub := Int.mul_le_mul a2 b2 (by omega) (by omega)
  have k3 : 0 ≤ la * lb := Int.mul_nonneg p1 p2
  have e2 : x.toInt = a.toInt * b.toInt := by rw [e, Int32.toInt_mul, iv_bmod (by omega) (by omega)]
  exact ⟨by omega, by omega⟩
theorem iv_neg {a x : Int32} {la ua lo hi : Int} (ha : iv a la ua) (e : x = -a) (h : lo ≤ -ua ∧ -la ≤ hi ∧ -2147483647 ≤ la) : iv x lo hi := by
  obtain ⟨h1, h2, h3⟩ := h
  obtain ⟨a1, a2⟩ := ha
  have := a.toInt_lt
  have e2 : x.toInt = -a.toInt := by rw [e, Int32.toInt_neg, iv_bmod (by omega) (by omega)]
  exact ⟨by omega, by omega⟩
theorem iv_bv (x : Int32) : x.toInt = if x.toBitVec.toNat < 2147483648 then (x.toBitVec.toNat : Int) else (x.toBitVec.toNat : Int) - 4294967296 := by
  rw [← Int32.toInt_toBitVec, BitVec.toInt_eq_toNat_cond]
  split <;> split <;> omega
theorem iv_nat {x : Int32} {hi : Int} (h : iv x 0 hi) : x.toInt = (x.toBitVec.toNat : Int) ∧ (x.toBitVec.toNat : Int) ≤ hi := by
  obtain ⟨h1, h2⟩ := h
  have := iv_bv x
  have hl : x.toBitVec.toNat < 4294967296 := x.toBitVec.isLt
  split at this <;> omega
theorem iv_ofNat {x : Int32} {n : Nat} (h : x.toBitVec.toNat ≤ n) (hn : n ≤ 2147483647) : iv x 0 n := by
  have := iv_bv x
  rw [if_pos (by omega)] at this
  exact ⟨by omega, by omega⟩
theorem iv_and_r {a b x : Int32} {u : Int} (hb : iv b 0 u) (e : x = a &&& b) : iv x 0 u := by
  obtain ⟨h1, h2⟩ := iv_nat hb
  have k : x.toBitVec.toNat ≤ b.toBitVec.toNat := by rw [e, Int32.toBitVec_and, BitVec.toNat_and]; exact Nat.and_le_right
  have := b.toInt_lt
  exact (iv_ofNat k (by omega)).mono (Int.le_refl _) h2
theorem iv_and_l {a b x : Int32} {u : Int} (ha : iv a 0 u) (e : x = a &&& b) : iv x 0 u := by
  obtain ⟨h1, h2⟩ := iv_nat ha
  have k : x.toBitVec.toNat ≤ a.toBitVec.toNat := by rw [e, Int32.toBitVec_and, BitVec.toNat_and]; exact Nat.and_le_left
  have := a.toInt_lt
  exact (iv_ofNat k (by omega)).mono (Int.le_refl _) h2
theorem iv_or {a b x : Int32} (k : Nat) {hi : Int} (ha : iv a 0 (2 ^ k - 1 : Nat)) (hb : iv b 0 (2 ^ k - 1 : Nat)) (e : x = a ||| b) (hk : k ≤ 31) (hh : ((2 ^ k - 1 : Nat) : Int) ≤ hi) : iv x 0 hi := by
  obtain ⟨h1, h2⟩ := iv_nat ha
  obtain ⟨g1, g2⟩ := iv_nat hb
  have p : 2 ^ k ≤ 2 ^ 31 := Nat.pow_le_pow_right (by omega) hk
  have p0 : 0 < 2 ^ k := Nat.two_pow_pos k
  have q : x.toBitVec.toNat < 2 ^ k := by rw [e, Int32.toBitVec_or, BitVec.toNat_or]; exact Nat.or_lt_two_pow (by omega) (by omega)
  exact (iv_ofNat (n := 2 ^ k - 1) (by omega) (by omega)).mono (Int.le_refl _) hh
theorem iv_xor {a b x : Int32} (k : Nat) {hi : Int} (ha : iv a 0 (2 ^ k - 1 : Nat)) (hb : iv b 0 (2 ^ k - 1 : Nat)) (e : x = a ^^^ b) (hk : k ≤ 31) (hh : ((2 ^ k - 1 : Nat) : Int) ≤ hi) : iv x 0 hi := by
  obtain ⟨h1, h2⟩ := iv_nat ha
  obtain ⟨g1, g2⟩ := iv_nat hb
  have p : 2 ^ k ≤ 2 ^ 31 := Nat.pow_le_pow_right (by omega) hk
  have p0 : 0 < 2 ^ k := Nat.two_pow_pos k
  have q : x.toBitVec.toNat < 2 ^ k := by rw [e, Int32.toBitVec_xor, BitVec.toNat_xor]; exact Nat.xor_lt_two_pow (by omega) (by omega)
  exact (iv_ofNat (n := 2 ^ k - 1) (by omega) (by omega)).mono (Int.le_refl _) hh
theorem iv_s31 : ∀ n, n < 32 → ((nI n &&& 31).toBitVec.smod 32).toNat = n := by decide +kernel
theorem iv_of (x : Int32) {lo hi : Int} (h : iv x lo hi) (h0 : 0 ≤ lo) : ∃ n : Nat, x = nI n ∧ lo ≤ (n : Int) ∧ (n : Int) ≤ hi ∧ n < 2 ^ 31 := by
  obtain ⟨h1, h2⟩ := h
  obtain ⟨n, hn, rfl⟩ := nI_of (x := x) (by rw [Int32.lt_iff_toInt_lt]; show ¬ x.toInt < 0; omega)
  rw [nI_toInt hn] at h1 h2
  exact ⟨n, rfl, h1, h2, hn⟩
theorem iv_nI {n : Nat} {lo hi : Int} (hn : n < 2 ^ 31) (h1 : lo ≤ (n : Int)) (h2 : (n : Int) ≤ hi) : iv (nI n) lo hi := by
  unfold iv
  rw [nI_toInt hn]
  exact ⟨h1, h2⟩
theorem iv_shl {a b x : Int32} {la ua lb : Int} (ub : Nat) {lo hi : Int} (ha : iv a la ua) (hb : iv b lb ub) (e : x = a <<< (b &&& 31)) (h : 0 ≤ la ∧ 0 ≤ lb ∧ ub < 32 ∧ lo ≤ la ∧ ua * (2 ^ ub : Nat) ≤ hi ∧ ua * (2 ^ ub : Nat) ≤ 2147483647) : iv x lo hi := by
  obtain ⟨h0, h1, h2, h3, h4, h5⟩ := h
  obtain ⟨n, rfl, n1, n2, n3⟩ := iv_of a ha h0
  obtain ⟨k, rfl, k1, k2, k3⟩ := iv_of b hb h1
  have hk : k ≤ ub := by omega
  have hp : 2 ^ k ≤ 2 ^ ub := Nat.pow_le_pow_right (by omega) hk
  have hp0 : 0 < 2 ^ k := Nat.two_pow_pos k
  have hm : n * 2 ^ k ≤ n * 2 ^ ub := Nat.mul_le_mul_left _ hp
  have hm2 : ((n * 2 ^ ub : Nat) : Int) ≤ ua * (2 ^ ub : Nat) := by
    rw [Int.natCast_mul]
    exact Int.mul_le_mul_of_nonneg_right n2 (by omega)
  have hn1 : n ≤ n * 2 ^ k := Nat.le_mul_of_pos_right n hp0
  rw [e, pk_shlN (nI k &&& 31) k (iv_s31 k (by omega)) (by omega)]
  exact iv_nI (by omega) (by omega) (by omega)
theorem iv_shr {a b x : Int32} {ua lb ub : Int} (ha : iv a 0 ua) (hb : iv b lb ub) (e : x = a >>> (b &&& 31)) (h : 0 ≤ lb ∧ ub < 32) : iv x 0 ua := by
  obtain ⟨n, rfl, n1, n2, n3⟩ := iv_of a ha (by omega)
  obtain ⟨k, rfl, k1, k2, k3⟩ := iv_of b hb h.1
  rw [e, pk_shrN n3 (nI k &&& 31) k (iv_s31 k (by omega))]
  have hq : n / 2 ^ k ≤ n := Nat.div_le_self _ _
  generalize n / 2 ^ k = q at hq ⊢
  exact iv_nI (by omega) (by omega) (by omega)
theorem iv_shrk {a x : Int32} {ua : Int} (k : Nat) {hi : Nat} (ha : iv a 0 ua) (e : x = a >>> (nI k &&& 31)) (h : k < 32) (hh : ua < ((hi + 1) * 2 ^ k : Nat)) : iv x 0 hi := by
  obtain ⟨n, rfl, n1, n2, n3⟩ := iv_of a ha (by omega)
  rw [e, pk_shrN n3 (nI k &&& 31) k (iv_s31 k h)]
  have h1 : n / 2 ^ k ≤ n := Nat.div_le_self _ _
  have h2 : n / 2 ^ k < hi + 1 := by
    rw [Nat.div_lt_iff_lt_mul (Nat.two_pow_pos k)]
    omega
  generalize n / 2 ^ k = q at h1 h2 ⊢
  exact iv_nI (by omega) (by omega) (by omega)
theorem iv_lt_l {x y : Int32} {lx ux ly uy : Int} (c : x < y) (hx : iv x lx ux) (hy : iv y ly uy) : iv x lx (uy - 1) := ⟨hx.1, by have := Int32.lt_iff_toInt_lt.mp c; have := hy.2; omega⟩
theorem iv_lt_r {x y : Int32} {lx ux ly uy : Int} (c : x < y) (hx : iv x lx ux) (hy : iv y ly uy) : iv y (lx + 1) uy := ⟨by have := Int32.lt_iff_toInt_lt.mp c; have := hx.1; omega, hy.2⟩
theorem iv_le_l {x y : Int32} {lx ux ly uy : Int} (c : x ≤ y) (hx : iv x lx ux) (hy : iv y ly uy) : iv x lx uy := ⟨hx.1, by have := Int32.le_iff_toInt_le.mp c; have := hy.2; omega⟩
theorem iv_le_r {x y : Int32} {lx ux ly uy : Int} (c : x ≤ y) (hx : iv x lx ux) (hy : iv y ly uy) : iv y lx uy := ⟨by have := Int32.le_iff_toInt_le.mp c; have := hx.1; omega, hy.2⟩
theorem iv_nlt {x y : Int32} (c : ¬ x < y) : y ≤ x := Int32.not_lt.mp c
theorem iv_nle {x y : Int32} (c : ¬ x ≤ y) : y < x := Int32.not_le.mp c
theorem iv_ne_lo {x k : Int32} {lx ux : Int} (c : ¬ x = k) (hx : iv x lx ux) (hk : k.toInt = lx) : iv x (lx + 1) ux := ⟨by have h1 := hx.1; have : ¬ x.toInt = k.toInt := fun h => c (Int32.toInt_inj.mp h); omega, hx.2⟩
theorem iv_ne_hi {x k : Int32} {lx ux : Int} (c : ¬ x = k) (hx : iv x lx ux) (hk : k.toInt = ux) : iv x lx (ux - 1) := ⟨hx.1, by have h1 := hx.2; have : ¬ x.toInt = k.toInt := fun h => c (Int32.toInt_inj.mp h); omega⟩
theorem vp_iv {x : Int32} {lo hi : Int} {n : Nat} (h : iv x lo hi) (h0 : 0 ≤ lo ∧ hi < (n : Int)) : vp_in x n := vp_in_iff.mpr ⟨by have := h.1; omega, by have := h.2; omega⟩
theorem iv_ne0 {x : Int32} {lo hi : Int} (h : iv x lo hi) (h0 : 0 < lo ∨ hi < 0) : ¬ x = 0 := fun e => by
  subst e
  have h1 : lo ≤ 0 := h.1
  have h2 : 0 ≤ hi := h.2
  omega
theorem iv_div {a b x : Int32} {la ua lb ub lo hi : Int} (ha : iv a la ua) (hb : iv b lb ub) (e : x = a / b) (h : 0 ≤ la ∧ 0 < lb ∧ lo ≤ 0 ∧ ua ≤ hi) : iv x lo hi := by
  obtain ⟨h0, h1, h2, h3⟩ := h
  obtain ⟨n, rfl, n1, n2, n3⟩ := iv_of a ha h0
  obtain ⟨k, rfl, k1, k2, k3⟩ := iv_of b hb (by omega)
  rw [e, pk_div n3 (by omega) k3]
  have hq : n / k ≤ n := Nat.div_le_self _ _
  generalize n / k = q at hq ⊢
  exact iv_nI (by omega) (by omega) (by omega)
theorem iv_divk {a b x : Int32} {la ua : Int} {k : Nat} {lo hi : Int} (ha : iv a la ua) (hb : b = nI k) (e : x = a / b) (h : 0 ≤ la ∧ 0 < k ∧ k < 2 ^ 31 ∧ lo ≤ la / k ∧ ua / k ≤ hi) : iv x lo hi := by
  obtain ⟨h0, h1, h1b, h2, h3⟩ := h
  obtain ⟨n, rfl, n1, n2, n3⟩ := iv_of a ha h0
  subst hb
  rw [e, pk_div n3 h1 h1b]
  have q : n / k ≤ n := Nat.div_le_self _ _
  have g1 : la / (k : Int) ≤ (n : Int) / (k : Int) := Int.ediv_le_ediv (by omega) n1
  have g2 : (n : Int) / (k : Int) ≤ ua / (k : Int) := Int.ediv_le_ediv (by omega) n2
  exact iv_nI (by omega) (by rw [Int.natCast_ediv]; omega) (by rw [Int.natCast_ediv]; omega)
theorem iv_rem {a b x : Int32} {la ua lb ub : Int} (ha : iv a la ua) (hb : iv b lb ub) (e : x = a - a / b * b) (h : 0 ≤ la ∧ 0 < lb) : iv x 0 (ub - 1) := by
  obtain ⟨n, rfl, n1, n2, n3⟩ := iv_of a ha h.1
  obtain ⟨k, rfl, k1, k2, k3⟩ := iv_of b hb (by omega)
  rw [e, pk_rem n3 (by omega) k3]
  have : n % k < k := Nat.mod_lt _ (by omega)
  exact iv_nI (by omega) (by omega) (by omega)
theorem iv_min {a b x : Int32} {la ua lb ub lo hi : Int} (ha : iv a la ua) (hb : iv b lb ub) (e : x = if b < a then b else a) (h : lo ≤ la ∧ lo ≤ lb ∧ (ua ≤ hi ∨ ub ≤ hi)) : iv x lo hi := by
  obtain ⟨h1, h2, h3⟩ := h
  obtain ⟨a1, a2⟩ := ha
  obtain ⟨b1, b2⟩ := hb
  by_cases c : b < a
  · rw [if_pos c] at e
    have := Int32.lt_iff_toInt_lt.mp c
    subst e
    exact ⟨by omega, by omega⟩
  · rw [if_neg c] at e
    have := Int32.le_iff_toInt_le.mp (Int32.not_lt.mp c)
    subst e
    exact ⟨by omega, by omega⟩
theorem iv_max {a b x : Int32} {la ua lb ub lo hi : Int} (ha : iv a la ua) (hb : iv b lb ub) (e : x = if a < b then b else a) (h : (lo ≤ la ∨ lo ≤ lb) ∧ ua ≤ hi ∧ ub ≤ hi) : iv x lo hi := by
  obtain ⟨h1, h2, h3⟩ := h
  obtain ⟨a1, a2⟩ := ha
  obtain ⟨b1, b2⟩ := hb
  by_cases c : a < b
  · rw [if_pos c] at e
    have := Int32.lt_iff_toInt_lt.mp c
    subst e
    exact ⟨by omega, by omega⟩
  · rw [if_neg c] at e
    have := Int32.le_iff_toInt_le.mp (Int32.not_lt.mp c)
    subst e
    exact ⟨by omega, by omega⟩
theorem iv_bool {x : Int32} (h : iv x 0 1) : x = 0 ∨ x = 1 := by
  obtain ⟨n, rfl, n1, n2, n3⟩ := iv_of x h (by omega)
  have : n = 0 ∨ n = 1 := by omega
  rcases this with rfl | rfl
  · exact Or.inl rfl
  · exact Or.inr rfl
theorem iv_nz {x : Int32} (h : iv x 0 1) : narrow .boolean (.int x) = .int x := by
  rcases iv_bool h with rfl | rfl <;> decide
theorem iv_fz {x : Int32} (h : iv x 0 1) : fits .boolean (.int x) = true := by
  rcases iv_bool h with rfl | rfl <;> decide
theorem iv_abs {x : Int32} {lo hi : Int} {P : Prop} (h : iv x lo hi) (h0 : hi < lo) : P := by
  have h1 := h.1
  have h2 := h.2
  exact absurd h0 (by omega)
theorem iv_abs2 {x y : Int32} {lx ux ly uy : Int} {P : Prop} (e : x = y) (hx : iv x lx ux) (hy : iv y ly uy) (h0 : ux < ly ∨ uy < lx) : P := by
  subst e
  have a1 := hx.1
  have a2 := hx.2
  have b1 := hy.1
  have b2 := hy.2
  exact absurd h0 (by omega)
theorem iv_both {x : Int32} {lo hi lo' hi' : Int} (h : iv x lo hi) (h' : iv x lo' hi') : iv x (max lo lo') (min hi hi') := by
  have a1 := h.1
  have a2 := h.2
  have b1 := h'.1
  have b2 := h'.2
  exact ⟨by omega, by omega⟩
theorem iv_ge0 {x : Int32} {lo hi : Int} (h : iv x lo hi) (h0 : 0 ≤ lo) : 0 ≤ x := Int32.le_iff_toInt_le.mpr (Int.le_trans h0 h.1)
theorem iv_neg0 {x : Int32} {lo hi : Int} (h : iv x lo hi) (h0 : hi < 0) : ¬ 0 ≤ x := fun c => by
  have h1 : (0 : Int) ≤ x.toInt := Int32.le_iff_toInt_le.mp c
  have h2 := h.2
  omega
theorem iv_is0 {x : Int32} (h : iv x 0 0) : x = 0 := Int32.toInt_inj.mp (by have h1 := h.1; have h2 := h.2; show x.toInt = 0; omega)
theorem iv_range {x a b : Int32} {la ua lb ub : Int} (h1 : a ≤ x) (h2 : x ≤ b) (ha : iv a la ua) (hb : iv b lb ub) : iv x la ub := ⟨Int.le_trans ha.1 (Int32.le_iff_toInt_le.mp h1), Int.le_trans (Int32.le_iff_toInt_le.mp h2) hb.2⟩
theorem iv_bku {v a b : Int32} {lv uv la ua lb ub lo hi : Int} (e : v.toInt = a.toInt + b.toInt) (hv : iv v lv uv) (ha : iv a la ua) (hb : iv b lb ub) (h : (lo ≤ la ∨ lo ≤ lv - ub) ∧ (ua ≤ hi ∨ uv - lb ≤ hi)) : iv a lo hi := by
  have v1 := hv.1
  have v2 := hv.2
  have a1 := ha.1
  have a2 := ha.2
  have b1 := hb.1
  have b2 := hb.2
  exact ⟨by omega, by omega⟩
theorem iv_bkw {v a b : Int32} {lv uv la ua lb ub lo hi : Int} (e : v.toInt = a.toInt + b.toInt) (hv : iv v lv uv) (hb : iv b lb ub) (ha : iv a la ua) (h : (lo ≤ lb ∨ lo ≤ lv - ua) ∧ (ub ≤ hi ∨ uv - la ≤ hi)) : iv b lo hi := by
  have v1 := hv.1
  have v2 := hv.2
  have a1 := ha.1
  have a2 := ha.2
  have b1 := hb.1
  have b2 := hb.2
  exact ⟨by omega, by omega⟩
theorem iv_lcmp {x : Int32} {a b : Int64} (e : x = lg_cmp a b) : iv x (-1) 1 := by
  subst e
  unfold lg_cmp
  split
  · exact ⟨by decide, by decide⟩
  · split
    · exact ⟨by decide, by decide⟩
    · exact ⟨by decide, by decide⟩
theorem iv_lnz {x : Int32} {a : Int64} (e : x = lg_cmp a 0) (h : ¬ x = 0) : ¬ a = 0 := fun h0 => h (by subst h0; rw [e]; decide)
theorem iv_ushr (k : Nat) {x a : Int32} {hi : Int} (e : x = (a.toUInt32 >>> ((nI k).toUInt32 &&& Int32.toUInt32 31)).toInt32) (hk : 0 < k ∧ k < 32) (hh : ((2 ^ (32 - k) - 1 : Nat) : Int) ≤ hi) : iv x 0 hi := by
  have hs : ∀ n, n < 32 → (((nI n).toUInt32 &&& Int32.toUInt32 31).toBitVec % 32).toNat = n := by decide +kernel
  have h1 := pk_ushr a (nI k) k (hs k hk.2)
  have h2 : a.toBitVec.toNat < 2 ^ 32 := a.toBitVec.isLt
  have h3 : a.toBitVec.toNat / 2 ^ k < 2 ^ (32 - k) := by
    rw [Nat.div_lt_iff_lt_mul (Nat.two_pow_pos k), ← Nat.pow_add]
    rw [show 32 - k + k = 32 by omega]
    exact h2
  have h4 : 2 ^ (32 - k) ≤ 2 ^ 31 := Nat.pow_le_pow_right (by omega) (by omega)
  rw [e]
  exact (iv_ofNat (n := 2 ^ (32 - k) - 1) (by rw [h1]; omega) (by omega)).mono (Int.le_refl _) hh
theorem mu_up (k : Int) {y x : Int32} {HI : Int} {n : Nat} (h : (HI - y.toInt).toNat < n + 1) (e : x.toInt = y.toInt + k) (hk : 0 < k) (hx : x.toInt ≤ HI) : (HI - x.toInt).toNat < n := by omega
theorem mu_dn (k : Int) {y x : Int32} {LO : Int} {n : Nat} (h : (y.toInt - LO).toNat < n + 1) (e : x.toInt = y.toInt + (-k)) (hk : 0 < k) (hx : LO ≤ x.toInt) : (x.toInt - LO).toNat < n := by omega
theorem vp_len {n : Nat} {x i : Int32} {lo hi : Int} (e : Int32.ofNat n = x) (c : i < x) (hi' : iv i lo hi) (h0 : 0 ≤ lo) {N : Nat} (hn : n ≤ N) (hN : N < 2 ^ 31 := by decide) : vp_in i n := by
  have h1 := Int32.lt_iff_toInt_lt.mp c
  rw [← e, show (Int32.ofNat n).toInt = (n : Int) from nI_toInt (by omega)] at h1
  exact vp_in_iff.mpr ⟨Int.le_trans h0 hi'.1, h1⟩
theorem iv_ltne {i x : Int32} (h1 : i ≤ x) (h2 : ¬ i = x) : i < x := Int32.lt_iff_toInt_lt.mpr (by have a := Int32.le_iff_toInt_le.mp h1; have b : ¬ i.toInt = x.toInt := fun h => h2 (Int32.toInt_inj.mp h); omega)
