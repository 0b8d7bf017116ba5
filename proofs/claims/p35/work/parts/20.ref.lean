/-! THE REFERENCE: what its cells hold -/
/-- what a row of the town's numbers holds by its place -/
def rP (j : Nat) (v : Value) : Prop := if j = 0 then rI 0 6 v else if j = 1 then rI 0 12 v else if j = 2 then rI 0 10 v else rA v
def kP (j : Nat) (v : Value) : Prop := rP j v
def sP (j : Nat) (v : Value) : Prop := if j = 0 then rI 0 6 v else if j = 1 then rI 0 12 v else if j = 2 then rI 0 10 v else if j = 210 then rI 0 10 v else if 170 ≤ j ∧ j < 200 ∧ j % 3 = 0 then rI 0 11 v else rA v
def wP (j : Nat) (v : Value) : Prop := rP (j % 170) v
def iP (j : Nat) (v : Value) : Prop := sP (j % 211) v
theorem rI_int {lo hi : Int} {v : Value} (h : rI lo hi v) : ∃ x : Int32, v = .int x := by
  obtain ⟨x, e, -⟩ := h
  exact ⟨x, e⟩
theorem rP_any {j : Nat} {v : Value} (h : rP j v) : ∃ x : Int32, v = .int x := by
  unfold rP at h
  split at h
  · exact rI_int h
  · split at h
    · exact rI_int h
    · split at h
      · exact rI_int h
      · exact h
theorem kP_any {j : Nat} {v : Value} (h : kP j v) : ∃ x : Int32, v = .int x := rP_any h
theorem wP_any {j : Nat} {v : Value} (h : wP j v) : ∃ x : Int32, v = .int x := rP_any h
theorem sP_any {j : Nat} {v : Value} (h : sP j v) : ∃ x : Int32, v = .int x := by
  unfold sP at h
  split at h
  · exact rI_int h
  · split at h
    · exact rI_int h
    · split at h
      · exact rI_int h
      · split at h
        · exact rI_int h
        · split at h
          · exact rI_int h
          · exact h
theorem iP_any {j : Nat} {v : Value} (h : iP j v) : ∃ x : Int32, v = .int x := sP_any h
theorem iv_nn {i : Int32} {lo hi : Int} (h : iv i lo hi) (h0 : 0 ≤ lo) : (i.toNatClampNeg : Int) = i.toInt := by
  have h1 := h.1
  show ((i.toInt.toNat : Nat) : Int) = i.toInt
  omega
theorem iv_nc {i : Int32} {n : Nat} (h : iv i n n) : i.toNatClampNeg = n := by
  have h1 := h.1
  have h2 := h.2
  show i.toInt.toNat = n
  omega
theorem rP_rd0 {i : Int32} {v : Value} (h : rP i.toNatClampNeg v) (b : iv i 0 0) : rI 0 6 v := by
  rw [iv_nc (n := 0) b] at h
  exact h
theorem rP_rd1 {i : Int32} {v : Value} (h : rP i.toNatClampNeg v) (b : iv i 1 1) : rI 0 12 v := by
  rw [iv_nc (n := 1) b] at h
  exact h
theorem rP_rd2 {i : Int32} {v : Value} (h : rP i.toNatClampNeg v) (b : iv i 2 2) : rI 0 10 v := by
  rw [iv_nc (n := 2) b] at h
  exact h
theorem sP_rd0 {i : Int32} {v : Value} (h : sP i.toNatClampNeg v) (b : iv i 0 0) : rI 0 6 v := by
  rw [iv_nc (n := 0) b] at h
  exact h
theorem sP_rd1 {i : Int32} {v : Value} (h : sP i.toNatClampNeg v) (b : iv i 1 1) : rI 0 12 v := by
  rw [iv_nc (n := 1) b] at h
  exact h
theorem sP_rd2 {i : Int32} {v : Value} (h : sP i.toNatClampNeg v) (b : iv i 2 2) : rI 0 10 v := by
  rw [iv_nc (n := 2) b] at h
  exact h
theorem sP_rd210 {i : Int32} {v : Value} (h : sP i.toNatClampNeg v) (b : iv i 210 210) : rI 0 10 v := by
  rw [iv_nc (n := 210) b] at h
  exact h
theorem sP_hour {i : Int32} {v : Value} (h : sP i.toNatClampNeg v) {k : Int} (e : i.toInt = 171 + 3 * k) (h0 : 0 ≤ k) (h9 : k ≤ 9) : rI 0 11 v := by
  have hn : i.toNatClampNeg = (171 + 3 * k).toNat := by show i.toInt.toNat = _; rw [e]
  rw [hn] at h
  unfold sP at h
  rw [if_neg (by omega), if_neg (by omega), if_neg (by omega), if_neg (by omega), if_pos (by omega)] at h
  exact h
theorem sP_st {i x : Int32} {lo hi : Int} (b : iv i lo hi) (h : (3 ≤ lo ∧ hi < 170) ∨ (200 ≤ lo ∧ hi < 210)) : sP i.toNatClampNeg (.int x) := by
  have hn := iv_nn b (by omega)
  have b1 := b.1
  have b2 := b.2
  unfold sP
  rw [if_neg (by omega), if_neg (by omega), if_neg (by omega), if_neg (by omega), if_neg (by omega)]
  exact ⟨_, rfl⟩
theorem sP_st210 {x : Int32} (b : iv x 0 10) : sP (210 : Int32).toNatClampNeg (.int x) := ⟨x, rfl, b⟩
theorem sP_sth {i x : Int32} {k : Int} (e : i.toInt = 171 + 3 * k) (h0 : 0 ≤ k) (h9 : k ≤ 9) (b : iv x 0 11) : sP i.toNatClampNeg (.int x) := by
  have hn : i.toNatClampNeg = (171 + 3 * k).toNat := by show i.toInt.toNat = _; rw [e]
  rw [hn]
  unfold sP
  rw [if_neg (by omega), if_neg (by omega), if_neg (by omega), if_neg (by omega), if_pos (by omega)]
  exact ⟨x, rfl, b⟩
theorem sP_sto {i x : Int32} {k d : Int} (e : i.toInt = 170 + d + 3 * k) (h0 : 0 ≤ k) (h9 : k ≤ 9) (hd : d = 0 ∨ d = 2) : sP i.toNatClampNeg (.int x) := by
  have hn : i.toNatClampNeg = (170 + d + 3 * k).toNat := by show i.toInt.toNat = _; rw [e]
  rw [hn]
  unfold sP
  rw [if_neg (by omega), if_neg (by omega), if_neg (by omega), if_neg (by omega), if_neg (by omega)]
  exact ⟨x, rfl⟩
theorem rP_st {i x : Int32} {lo hi : Int} (b : iv i lo hi) (h : 3 ≤ lo) : rP i.toNatClampNeg (.int x) := by
  have hn := iv_nn b (by omega)
  have b1 := b.1
  unfold rP
  rw [if_neg (by omega), if_neg (by omega), if_neg (by omega)]
  exact ⟨_, rfl⟩
theorem rP_st0 {x : Int32} (b : iv x 0 6) : rP (0 : Int32).toNatClampNeg (.int x) := ⟨x, rfl, b⟩
theorem rP_st1 {x : Int32} (b : iv x 0 12) : rP (1 : Int32).toNatClampNeg (.int x) := ⟨x, rfl, b⟩
theorem rP_st2 {x : Int32} (b : iv x 0 10) : rP (2 : Int32).toNatClampNeg (.int x) := ⟨x, rfl, b⟩
theorem iv_00 {hi : Int} (h : 0 ≤ hi) : iv (0 : Int32) 0 hi := ⟨by decide, h⟩
theorem rP_zero (j : Nat) : rP j (.int 0) := by
  unfold rP
  split
  · exact ⟨0, rfl, iv_00 (by decide)⟩
  · split
    · exact ⟨0, rfl, iv_00 (by decide)⟩
    · split
      · exact ⟨0, rfl, iv_00 (by decide)⟩
      · exact ⟨0, rfl⟩
theorem sP_zero (j : Nat) : sP j (.int 0) := by
  unfold sP
  split
  · exact ⟨0, rfl, iv_00 (by decide)⟩
  · split
    · exact ⟨0, rfl, iv_00 (by decide)⟩
    · split
      · exact ⟨0, rfl, iv_00 (by decide)⟩
      · split
        · exact ⟨0, rfl, iv_00 (by decide)⟩
        · split
          · exact ⟨0, rfl, iv_00 (by decide)⟩
          · exact ⟨0, rfl⟩
theorem rP_ofs {j : Nat} {v : Value} (h : sP j v) (hj : j < 170) : rP j v := by
  unfold rP
  by_cases h0 : j = 0
  · subst h0
    exact h
  · by_cases h1 : j = 1
    · subst h1
      exact h
    · by_cases h2 : j = 2
      · subst h2
        exact h
      · rw [if_neg h0, if_neg h1, if_neg h2]
        exact sP_any h
theorem sP_ofr {j : Nat} {v : Value} (h : rP j v) (hj : j < 170) : sP j v := by
  unfold sP
  by_cases h0 : j = 0
  · subst h0
    exact h
  · by_cases h1 : j = 1
    · subst h1
      exact h
    · by_cases h2 : j = 2
      · subst h2
        exact h
      · rw [if_neg h0, if_neg h1, if_neg h2, if_neg (by omega), if_neg (by omega)]
        exact rP_any h
/-- a place in a row of rows -/
theorem iv_row {i x u k : Int32} {N M : Nat} (W : Nat) (hW : 0 < W ∧ W < 100000 ∧ M < 10000) (e1 : x = nI W * u) (e2 : i = x + k) (bu : iv u 0 M) (bk : iv k 0 N) (hN : N < W) (hT : W * M + N < 2147483647) : i.toInt = (W : Int) * u.toInt + k.toInt := by
  have hWi : iv (nI W) W W := iv_nI (by omega) (by omega) (by omega)
  have hT2 : (W : Int) * M + N < 2147483647 := by
    have h9 := Int.ofNat_lt.mpr hT
    rw [Int.natCast_add, Int.natCast_mul] at h9
    exact h9
  have hm : (W : Int) * M ≤ 2147483647 := by omega
  have hx : x.toInt = (W : Int) * u.toInt := by
    rw [e1, Int32.toInt_mul]
    have hw : (nI W).toInt = (W : Int) := by have := hWi.1; have := hWi.2; omega
    rw [hw]
    refine iv_bmod ?_ ?_
    · have := Int.mul_nonneg (show (0 : Int) ≤ W by omega) bu.1
      omega
    · exact Int.le_trans (Int.mul_le_mul_of_nonneg_left bu.2 (by omega)) hm
  have hx0 := Int.mul_nonneg (show (0 : Int) ≤ W by omega) bu.1
  have hx1 := Int.mul_le_mul_of_nonneg_left bu.2 (show (0 : Int) ≤ W by omega)
  have k0 := bk.1
  have k1 := bk.2
  rw [e2, Int32.toInt_add, hx]
  exact iv_bmod (by omega) (by omega)
theorem iv_rowm {i u k : Int32} {N M : Nat} {W : Nat} (e : i.toInt = (W : Int) * u.toInt + k.toInt) (bu : iv u 0 M) (bk : iv k 0 N) (hN : N < W) : i.toNatClampNeg % W = k.toNatClampNeg := by
  have h1 : (i.toNatClampNeg : Int) = (W : Int) * u.toNatClampNeg + k.toNatClampNeg := by
    show ((i.toInt.toNat : Nat) : Int) = (W : Int) * ((u.toInt.toNat : Nat) : Int) + ((k.toInt.toNat : Nat) : Int)
    have a1 := bu.1
    have a2 := bk.1
    rw [Int.toNat_of_nonneg a1, Int.toNat_of_nonneg a2, Int.toNat_of_nonneg (by rw [e]; have := Int.mul_nonneg (show (0 : Int) ≤ W by omega) a1; omega), e]
  have h2 : i.toNatClampNeg = W * u.toNatClampNeg + k.toNatClampNeg := by exact_mod_cast h1
  have h3 : k.toNatClampNeg < W := by
    have := bk.1
    have := bk.2
    show k.toInt.toNat < W
    omega
  rw [h2, Nat.mul_add_mod, Nat.mod_eq_of_lt h3]
/-- codes: what each does to the height of the pile -/
def c_st (c : Int32) (h0 h : Nat) : Prop := (c &&& 15 = 0 ∧ h = h0 + 1 ∧ h ≤ 60) ∨ (c &&& 15 = 1 ∧ h = h0 + 1 ∧ h ≤ 60 ∧ iv (c >>> (4 &&& 31)) 0 10) ∨ (c &&& 15 = 11 ∧ 1 ≤ h0 ∧ h = h0) ∨ (¬ c &&& 15 = 0 ∧ ¬ c &&& 15 = 1 ∧ ¬ c &&& 15 = 11 ∧ 2 ≤ h0 ∧ h + 1 = h0)
def c_x (S : Nat → Int32) : Nat → Nat → Nat → Nat → Prop
  | _, 0, h0, h => h0 = h
  | b, n + 1, h0, h => ∃ h1, c_st (S b) h0 h1 ∧ c_x S (b + 1) n h1 h
theorem c_x.push {S : Nat → Int32} {n : Nat} : ∀ {b h0 h1 h : Nat}, c_x S b n h0 h1 → c_st (S (b + n)) h1 h → c_x S b (n + 1) h0 h := by
  induction n with
  | zero =>
    intro b h0 h1 h g s
    cases (show h0 = h1 from g)
    exact ⟨h, s, rfl⟩
  | succ n ih =>
    intro b h0 h1 h g s
    obtain ⟨h2, s2, g2⟩ := g
    exact ⟨h2, s2, ih g2 (by rw [show b + 1 + n = b + (n + 1) by omega]; exact s)⟩
theorem c_x.same {S S' : Nat → Int32} {n : Nat} : ∀ {b h0 h : Nat}, c_x S b n h0 h → (∀ j, b ≤ j → j < b + n → S' j = S j) → c_x S' b n h0 h := by
  induction n with
  | zero => intro b h0 h g _; exact g
  | succ n ih =>
    intro b h0 h g q
    obtain ⟨h1, s, g⟩ := g
    exact ⟨h1, by rw [q b (Nat.le_refl _) (by omega)]; exact s, ih g (fun j h1 h2 => q j (by omega) (by omega))⟩
def c_g (S : Nat → Int32) (t : Nat) (b e : Int32) : Prop := iv b 0 400 ∧ iv e 0 400 ∧ b.toInt ≤ e.toInt ∧ c_x S (400 * t + b.toInt.toNat) (e.toInt - b.toInt).toNat 0 1
def moGood (S K C : Nat → Int32) : Prop := ∀ t : Nat, t < 6 → iv (C t) 0 12 ∧ ∀ c : Nat, (c : Int) < (C t).toInt → c_g S t (K (48 * t + 4 * c)) (K (48 * t + 4 * c + 1)) ∧ (K (48 * t + 4 * c + 2) < 0 ∨ c_g S t (K (48 * t + 4 * c + 2)) (K (48 * t + 4 * c + 3)))
abbrev moG : Type := (Value → Prop) × (Nat → Value → Prop) × (Nat → Value → Prop) × (Nat → Value → Prop) × (Nat → Int32) × (Nat → Int32) × (Nat → Int32)
def gx (G : moG) : Value → Prop := G.1
def gs (G : moG) : Nat → Value → Prop := G.2.1
def gX (G : moG) : Nat → Value → Prop := G.2.2.1
def gM (G : moG) : Nat → Value → Prop := G.2.2.2.1
def gS (G : moG) : Nat → Int32 := G.2.2.2.2.1
def gK (G : moG) : Nat → Int32 := G.2.2.2.2.2.1
def gC (G : moG) : Nat → Int32 := G.2.2.2.2.2.2
def moOk (G : moG) : Prop := (∀ v, gx G v → ∃ x : Int32, v = .int x) ∧ (∀ j v, gX G j v → ∃ x : Int32, v = .int x) ∧ (∀ j v, gM G j v → ∃ x : Int32, v = .int x) ∧ moGood (gS G) (gK G) (gC G) ∧ (∀ j v, gs G j v → sP j v)
theorem iv_ltn {i : Int32} {lo hi : Int} {n : Nat} (b : iv i lo hi) (h : 0 ≤ lo ∧ hi < (n : Int)) : i.toNatClampNeg < n := by
  have b1 := b.1
  have b2 := b.2
  show i.toInt.toNat < n
  omega
theorem wP_ofs {i u k : Int32} {v : Value} (M N : Nat) (h : sP k.toNatClampNeg v) (e : i.toInt = ((170 : Nat) : Int) * u.toInt + k.toInt) (bu : iv u 0 M) (bk : iv k 0 N) (hN : N < 170) : wP i.toNatClampNeg v := by
  unfold wP
  rw [iv_rowm e bu bk hN]
  exact rP_ofs h (iv_ltn bk ⟨by decide, by omega⟩)
theorem sP_ofw {i u k : Int32} {v : Value} (M N : Nat) (h : wP i.toNatClampNeg v) (e : i.toInt = ((170 : Nat) : Int) * u.toInt + k.toInt) (bu : iv u 0 M) (bk : iv k 0 N) (hN : N < 170) : sP k.toNatClampNeg v := by
  unfold wP at h
  rw [iv_rowm e bu bk hN] at h
  exact sP_ofr h (iv_ltn bk ⟨by decide, by omega⟩)
theorem iP_ofs {i u k : Int32} {v : Value} (M N : Nat) (h : sP k.toNatClampNeg v) (e : i.toInt = ((211 : Nat) : Int) * u.toInt + k.toInt) (bu : iv u 0 M) (bk : iv k 0 N) (hN : N < 211) : iP i.toNatClampNeg v := by
  unfold iP
  rw [iv_rowm e bu bk hN]
  exact h
theorem sP_ofi {i u k : Int32} {v : Value} (M N : Nat) (h : iP i.toNatClampNeg v) (e : i.toInt = ((211 : Nat) : Int) * u.toInt + k.toInt) (bu : iv u 0 M) (bk : iv k 0 N) (hN : N < 211) : sP k.toNatClampNeg v := by
  unfold iP at h
  rw [iv_rowm e bu bk hN] at h
  exact h
theorem wP_shift {i k x : Int32} {v : Value} (h : wP k.toNatClampNeg v) (e : i.toInt = k.toInt - 170) (b : iv k 170 3399) : wP i.toNatClampNeg v := by
  have b1 := b.1
  have hk : k.toNatClampNeg = i.toNatClampNeg + 170 := by
    show k.toInt.toNat = i.toInt.toNat + 170
    omega
  unfold wP at h ⊢
  rw [hk, Nat.add_mod_right] at h
  exact h
theorem iv_m3400 {i u k : Int32} {M N : Nat} (e : i.toInt = ((3400 : Nat) : Int) * u.toInt + k.toInt) (bu : iv u 0 M) (bk : iv k 0 N) : i.toNatClampNeg % 170 = k.toNatClampNeg % 170 := by
  have a1 := bu.1
  have a2 := bk.1
  have h1 : i.toNatClampNeg = 170 * (20 * u.toInt.toNat) + k.toNatClampNeg := by
    show i.toInt.toNat = 170 * (20 * u.toInt.toNat) + k.toInt.toNat
    omega
  rw [h1, Nat.mul_add_mod]
theorem wP_in {i u k : Int32} {v : Value} (M N : Nat) (h : wP k.toNatClampNeg v) (e : i.toInt = ((3400 : Nat) : Int) * u.toInt + k.toInt) (bu : iv u 0 M) (bk : iv k 0 N) : wP i.toNatClampNeg v := by
  unfold wP at h ⊢
  rw [iv_m3400 e bu bk]
  exact h
theorem wP_out {i u k : Int32} {v : Value} (M N : Nat) (h : wP i.toNatClampNeg v) (e : i.toInt = ((3400 : Nat) : Int) * u.toInt + k.toInt) (bu : iv u 0 M) (bk : iv k 0 N) : wP k.toNatClampNeg v := by
  unfold wP at h ⊢
  rw [iv_m3400 e bu bk] at h
  exact h
theorem iv_nzl {x : Int32} {y : Int64} {lo hi : Int} (e : x.toInt64 = y) (b : iv x lo hi) (h : 0 < lo) : ¬ y = 0 := fun h0 => by
  have h1 : y.toInt = x.toInt := by rw [← e, Int32.toInt_toInt64]
  rw [h0] at h1
  have h2 := b.1
  have h3 : (0 : Int64).toInt = 0 := rfl
  omega
theorem mu_bits {y x z : Int32} {n : Nat} (h : y.toUInt32.toNat < n + 1) (c : ¬ y = 0) (e1 : x = y - 1) (e2 : z = y &&& x) : z.toUInt32.toNat < n := by
  have hz : z.toUInt32.toNat ≤ x.toUInt32.toNat := by
    have : z.toUInt32 = y.toUInt32 &&& x.toUInt32 := by rw [e2]; rfl
    rw [this, UInt32.toNat_and]
    exact Nat.and_le_right
  have hy : y.toUInt32.toNat ≠ 0 := fun h0 => c (by
    have h1 : y.toUInt32 = 0 := UInt32.toNat_inj.mp h0
    have h2 : y.toUInt32.toInt32 = (0 : UInt32).toInt32 := by rw [h1]
    simpa using h2)
  have hx : x.toUInt32.toNat = y.toUInt32.toNat - 1 := by
    have h1 : x.toUInt32 = y.toUInt32 - 1 := by rw [e1]; rfl
    rw [h1, UInt32.toNat_sub_of_le]
    · rfl
    · rw [UInt32.le_iff_toNat_le]
      show 1 ≤ y.toUInt32.toNat
      omega
  omega
def hp_km (D : hp_D) (L : List (Nat × Nat)) (H H1 : Heap) : Prop := ∀ (b cj j : Nat) (w : Value), hp_f D H b cj j w → (cj = 12 ∧ (cj, j) ∉ L) → hp_f D H1 b cj j w
theorem hp_km.ar {D : hp_D} {L : List (Nat × Nat)} {H H1 H2 : Heap} (h : hp_km D L H H1) (g : hp_ar D H1 H2) : hp_km D L H H2 := fun b cj j w hw hm => g b cj j w (h b cj j w hw hm)
theorem hp_km.put {D : hp_D} {L : List (Nat × Nat)} {H H1 H2 : Heap} {a k : Nat} (h : hp_km D L H H1) (g : hp_wr D H1 H2 a 12 k) (hk : (12, k) ∈ L) : hp_km D L H H2 := fun b cj j w hw hm => g b cj j w (h b cj j w hw hm) (by
  obtain ⟨rfl, hm⟩ := hm
  exact Or.inr ⟨rfl, fun e => hm (by rw [e]; exact hk)⟩)
theorem hp_km.call {D : hp_D} {L L' : List (Nat × Nat)} {H H1 H2 : Heap} (h : hp_km D L H H1) (g : hp_km D L' H1 H2) (hs : ∀ x ∈ L', x ∈ L) : hp_km D L H H2 := fun b cj j w hw hm => g b cj j w (h b cj j w hw hm) ⟨hm.1, fun e => hm.2 (hs _ e)⟩
theorem iv_neq {x y : Int32} (h : ¬ x = y) : ¬ x.toInt = y.toInt := fun e => h (Int32.toInt_inj.mp e)
theorem rI_iv {x : Int32} {lo hi : Int} (h : rI lo hi (.int x)) : iv x lo hi := by
  obtain ⟨y, e, b⟩ := h
  cases e
  exact b
def tw_b (a : Int) : Int := 9 * a - a * (a - 1) / 2
theorem tw_step (a : Int) (h0 : 0 ≤ a) (h9 : a ≤ 9) : tw_b (a + 1) = tw_b a + (9 - a) := by
  rcases (show a = 0 ∨ a = 1 ∨ a = 2 ∨ a = 3 ∨ a = 4 ∨ a = 5 ∨ a = 6 ∨ a = 7 ∨ a = 8 ∨ a = 9 by omega) with h | h | h | h | h | h | h | h | h | h <;> subst h <;> decide
theorem tw_top (a : Int) (h0 : 0 ≤ a) (h9 : a ≤ 10) : tw_b a ≤ 45 := by
  rcases (show a = 0 ∨ a = 1 ∨ a = 2 ∨ a = 3 ∨ a = 4 ∨ a = 5 ∨ a = 6 ∨ a = 7 ∨ a = 8 ∨ a = 9 ∨ a = 10 by omega) with h | h | h | h | h | h | h | h | h | h | h <;> subst h <;> decide
theorem lcmp_ge {x : Int32} {a b : Int64} (e : x = lg_cmp a b) (h : 0 ≤ x) : b ≤ a := by
  by_cases g : a < b
  · have g1 := Int64.lt_iff_toInt_lt.mp g
    have hn : ¬ a > b := fun z => by
      have := Int64.lt_iff_toInt_lt.mp z
      omega
    have q : ¬ a = b := fun z => by
      rw [z] at g1
      omega
    rw [e] at h
    unfold lg_cmp at h
    rw [if_neg hn, if_neg q] at h
    exact absurd h (by decide)
  · exact Int64.not_lt.mp g
theorem lcmp_le {x : Int32} {a b : Int64} (e : x = lg_cmp a b) (h : x ≤ 0) : a ≤ b := by
  by_cases g : a > b
  · rw [e] at h
    unfold lg_cmp at h
    rw [if_pos g] at h
    exact absurd h (by decide)
  · exact Int64.not_lt.mp g
theorem iv_64lo {x : Int32} {y : Int64} {lo hi : Int} (e : x.toInt64 = y) (b : iv x lo hi) : lo ≤ y.toInt := by
  rw [← e, Int32.toInt_toInt64]
  exact b.1
theorem iv_64hi {x : Int32} {y : Int64} {lo hi : Int} (e : x.toInt64 = y) (b : iv x lo hi) : y.toInt ≤ hi := by
  rw [← e, Int32.toInt_toInt64]
  exact b.2
theorem iv_in64 {x : Int32} {y a b : Int64} {lo hi : Int} (e : x.toInt64 = y) (h1 : a ≤ y) (h2 : y ≤ b) (ha : lo ≤ a.toInt) (hb : b.toInt ≤ hi) : iv x lo hi := by
  have h3 : y.toInt = x.toInt := by rw [← e, Int32.toInt_toInt64]
  have h4 := Int64.le_iff_toInt_le.mp h1
  have h5 := Int64.le_iff_toInt_le.mp h2
  exact ⟨by omega, by omega⟩
theorem c_s0 {s v : Int32} {h h1 : Nat} (hc : (s = 0 ∧ h1 = h + 1 ∧ h1 ≤ 60) ∨ (s = 1 ∧ h1 = h + 1 ∧ h1 ≤ 60 ∧ iv v 0 10) ∨ (s = 11 ∧ 1 ≤ h ∧ h1 = h) ∨ (¬ s = 0 ∧ ¬ s = 1 ∧ ¬ s = 11 ∧ 2 ≤ h ∧ h1 + 1 = h)) (e : s = 0) : h1 = h + 1 ∧ h1 ≤ 60 := by
  subst e
  rcases hc with g | g | g | g
  · exact g.2
  · exact absurd g.1 (by decide)
  · exact absurd g.1 (by decide)
  · exact absurd rfl g.1
theorem c_s1 {s v : Int32} {h h1 : Nat} (hc : (s = 0 ∧ h1 = h + 1 ∧ h1 ≤ 60) ∨ (s = 1 ∧ h1 = h + 1 ∧ h1 ≤ 60 ∧ iv v 0 10) ∨ (s = 11 ∧ 1 ≤ h ∧ h1 = h) ∨ (¬ s = 0 ∧ ¬ s = 1 ∧ ¬ s = 11 ∧ 2 ≤ h ∧ h1 + 1 = h)) (e : s = 1) : h1 = h + 1 ∧ h1 ≤ 60 ∧ iv v 0 10 := by
  subst e
  rcases hc with g | g | g | g
  · exact absurd g.1 (by decide)
  · exact g.2
  · exact absurd g.1 (by decide)
  · exact absurd rfl g.2.1
theorem c_s11 {s v : Int32} {h h1 : Nat} (hc : (s = 0 ∧ h1 = h + 1 ∧ h1 ≤ 60) ∨ (s = 1 ∧ h1 = h + 1 ∧ h1 ≤ 60 ∧ iv v 0 10) ∨ (s = 11 ∧ 1 ≤ h ∧ h1 = h) ∨ (¬ s = 0 ∧ ¬ s = 1 ∧ ¬ s = 11 ∧ 2 ≤ h ∧ h1 + 1 = h)) (e : s = 11) : 1 ≤ h ∧ h1 = h := by
  subst e
  rcases hc with g | g | g | g
  · exact absurd g.1 (by decide)
  · exact absurd g.1 (by decide)
  · exact g.2
  · exact absurd rfl g.2.2.1
theorem c_sN {s v : Int32} {h h1 : Nat} (hc : (s = 0 ∧ h1 = h + 1 ∧ h1 ≤ 60) ∨ (s = 1 ∧ h1 = h + 1 ∧ h1 ≤ 60 ∧ iv v 0 10) ∨ (s = 11 ∧ 1 ≤ h ∧ h1 = h) ∨ (¬ s = 0 ∧ ¬ s = 1 ∧ ¬ s = 11 ∧ 2 ≤ h ∧ h1 + 1 = h)) (e0 : ¬ s = 0) (e1 : ¬ s = 1) (e2 : ¬ s = 11) : 2 ≤ h ∧ h1 + 1 = h := by
  rcases hc with g | g | g | g
  · exact absurd g.1 e0
  · exact absurd g.1 e1
  · exact absurd g.1 e2
  · exact g.2.2.2
theorem c_x_next {S : Nat → Int32} {B h : Nat} {i e : Int} (hc : c_x S (B + i.toNat) (e - i).toNat h 1) (h0 : 0 ≤ i) (hi : i < e) : ∃ h1, c_st (S (B + i.toNat)) h h1 ∧ c_x S (B + (i + 1).toNat) (e - (i + 1)).toNat h1 1 := by
  rw [show (e - i).toNat = (e - (i + 1)).toNat + 1 by omega] at hc
  obtain ⟨h1, a, b⟩ := hc
  rw [show B + i.toNat + 1 = B + (i + 1).toNat by omega] at b
  exact ⟨h1, a, b⟩
theorem c_x_end {S : Nat → Int32} {b h : Nat} {i e : Int} (hc : c_x S b (e - i).toNat h 1) (hi : e ≤ i) : h = 1 := by
  rw [show (e - i).toNat = 0 by omega] at hc
  exact hc
theorem iv_rowi {i u k : Int32} {N M : Nat} {W : Nat} (e : i.toInt = (W : Int) * u.toInt + k.toInt) (bu : iv u 0 M) (bk : iv k 0 N) : i.toNatClampNeg = W * u.toInt.toNat + k.toInt.toNat := by
  have a1 := bu.1
  have a2 := bk.1
  have h1 : (i.toNatClampNeg : Int) = (W : Int) * (u.toInt.toNat : Int) + (k.toInt.toNat : Int) := by
    show ((i.toInt.toNat : Nat) : Int) = (W : Int) * ((u.toInt.toNat : Nat) : Int) + ((k.toInt.toNat : Nat) : Int)
    rw [Int.toNat_of_nonneg a1, Int.toNat_of_nonneg a2, Int.toNat_of_nonneg (by rw [e]; have := Int.mul_nonneg (show (0 : Int) ≤ W by omega) a1; omega), e]
  exact_mod_cast h1
theorem iv_at48 {x y z F C : Int32} (e1 : x = 48 * F) (e2 : y = 4 * C) (e3 : z = x + y) (bF : iv F 0 5) (bC : iv C 0 11) : z.toInt = 48 * F.toInt + 4 * C.toInt := by
  have f1 := bF.1
  have f2 := bF.2
  have c1 := bC.1
  have c2 := bC.2
  have hx : x.toInt = 48 * F.toInt := by
    rw [e1, Int32.toInt_mul]
    exact iv_bmod (show _ ≤ 48 * F.toInt by omega) (show 48 * F.toInt ≤ _ by omega)
  have hy : y.toInt = 4 * C.toInt := by
    rw [e2, Int32.toInt_mul]
    exact iv_bmod (show _ ≤ 4 * C.toInt by omega) (show 4 * C.toInt ≤ _ by omega)
  rw [e3, Int32.toInt_add, hx, hy]
  exact iv_bmod (by omega) (by omega)
theorem iv_ofn {x : Int32} {h : Nat} {lo hi : Int} (e : h = x.toInt.toNat) (b : iv x 0 64) (h1 : lo ≤ (h : Int)) (h2 : (h : Int) ≤ hi) : iv x lo hi := by
  have := b.1
  exact ⟨by omega, by omega⟩
section HPZ
variable {p : Program} {l : Launch} {e : Env} {R : Room} {s : State} {m : MethodId} {args : Array Value} {below : List Frame} {meth : Method} {c : Code} {H : Heap} {locs : List Loc} {cells slots : Nat} {Q : State → Prop}
variable {cc : ByteArray} {pc : Nat} {ls : Array Slot} {rest : List Value} {D : hp_D} {T : hp_T} {a : Nat} {st0 : List Value} {av : Array Value} {mc ms : Nat}
theorem hp_callel {P : Int64 → State → State → Prop} (hr : va_Run p l e R s m args below meth c H locs cells slots mc ms (F0 m pc ls st0) rest (hq_e D T (fun v st t => ∃ r : Int64, v = some (.long r) ∧ P r st t) av) (hp_F T)) (hH : hp_w D T s H locs)
    (kk : ∀ (r : Int64) (st t : State) (H1 : Heap) (locs1 : List Loc), st.heap = H → t.heap = H1 → P r st t → hp_w D T s H1 locs1 → W p l e R s m args below meth c H1 locs1 (cells + mc) (slots + ms) Q (F0 m (pc + 3) ls (.long r :: rest))) : W p l e R s m args below meth c H locs cells slots Q (F0 m pc ls st0) :=
  hp_calle hr hH (fun v st t H1 locs1 e1 e2 hv hw => by obtain ⟨r, rfl, h⟩ := hv; exact kk r st t H1 locs1 e1 e2 h hw)
theorem hp_zald (hexec : p.tables.exec = Jvm.exec) (hb : c.code = cc) (hK : hp_K D s) (hH : hp_ok D T H) {n : Nat} {P : Nat → Value → Prop} (ha : T a = some (.inl (2, n, P))) {i : Int32} (hin : vp_in i n) (hdg : decode cc pc = .ok (.baload, 1))
    (kk : ∀ v : Value, P i.toNatClampNeg v → W p l e R s m args below meth c H locs cells slots Q (F0 m (pc + 1) ls (v :: rest))) : W p l e R s m args below meth c H locs cells slots Q (F0 m pc ls (.int i :: .ref a :: rest)) := by
  obtain ⟨cell, v, h1, h2, h3, h4, h5, h6⟩ := hp_ld hK hH ha rfl hin
  exact W.zald hexec hb h1 h2 h3 h4 h5 rfl rfl hdg (kk v h6)
end HPZ
theorem iv_m3 {x k : Int32} (e : x = 3 * k) (b : iv k 0 10) : x.toInt = 3 * k.toInt := by
  have b1 := b.1
  have b2 := b.2
  rw [e, Int32.toInt_mul]
  exact iv_bmod (show _ ≤ 3 * k.toInt by omega) (show 3 * k.toInt ≤ _ by omega)
/-- what stands in an array's cell now -/
def hp_et (D : hp_D) (t0 : Nat) (H : Heap) (a j : Nat) (v : Value) : Prop := ∃ (n : Nat) (f : Nat → Value), H[a]? = some (arrV (D.2.1 t0) n f) ∧ j < n ∧ f j = v
abbrev hp_e (D : hp_D) (H : Heap) (a j : Nat) (v : Value) : Prop := hp_et D 0 H a j v
theorem hp_et.kept {D : hp_D} {t0 : Nat} {H H1 : Heap} {a j : Nat} {v : Value} (h : hp_et D t0 H a j v) (hq : H1[a]? = H[a]?) : hp_et D t0 H1 a j v := by
  obtain ⟨n, f, h1, h2⟩ := h
  exact ⟨n, f, by rw [hq]; exact h1, h2⟩
theorem hp_et.uniq {D : hp_D} {H : Heap} {a j : Nat} {v w : Value} (h : hp_e D H a j v) (g : hp_e D H a j w) : v = w := by
  obtain ⟨n, f, h1, h2, h3⟩ := h
  obtain ⟨n', f', g1, g2, g3⟩ := g
  have e := Option.some.inj (h1.symm.trans g1)
  have r1 := arrV_read (D.2.1 0) f h2
  rw [e] at r1
  have e2 : n = n' := by
    have := congrArg (fun c : Cell => c.slots.size) e
    simpa [arrV_size] using this
  have r2 := arrV_read (D.2.1 0) f' (e2 ▸ h2)
  rw [← h3, ← g3]
  exact Option.some.inj (r1.symm.trans r2)
theorem hp_et.int {D : hp_D} {H : Heap} {a j : Nat} {x y : Int32} (h : hp_e D H a j (.int x)) (g : hp_e D H a j (.int y)) : x = y := by
  have := h.uniq g
  cases this
  rfl
theorem iv_nei {i : Int32} {lo hi : Int} {n : Nat} (b : iv i lo hi) (h : (n : Int) < lo ∨ hi < (n : Int)) (h0 : 0 ≤ lo) : n ≠ i.toNatClampNeg := fun e => by
  have := iv_nn b h0
  have := b.1
  have := b.2
  omega
section HPE
variable {p : Program} {l : Launch} {e : Env} {R : Room} {s : State} {m : MethodId} {args : Array Value} {below : List Frame} {meth : Method} {c : Code} {H : Heap} {locs : List Loc} {cells slots : Nat} {Q : State → Prop}
variable {cc : ByteArray} {pc : Nat} {ls : Array Slot} {rest : List Value} {D : hp_D} {T : hp_T} {a : Nat}
theorem hp_ialdE (hexec : p.tables.exec = Jvm.exec) (hb : c.code = cc) (hK : hp_K D s) (hH : hp_ok D T H) {n : Nat} {P : Nat → Value → Prop} (ha : T a = some (.inl (0, n, P))) {i : Int32} (hin : vp_in i n) (hdg : decode cc pc = .ok (.iaload, 1))
    (kk : ∀ v : Value, P i.toNatClampNeg v → hp_e D H a i.toNatClampNeg v → W p l e R s m args below meth c H locs cells slots Q (F0 m (pc + 1) ls (v :: rest))) : W p l e R s m args below meth c H locs cells slots Q (F0 m pc ls (.int i :: .ref a :: rest)) := by
  obtain ⟨f, h1, h2⟩ := hH a _ ha
  have hlt : i.toNatClampNeg < n := Nat.not_le.mp fun q => hin (Or.inr q)
  exact W.iald hexec hb h1 ((hK.2 0 _ rfl).1 n f) (fun q => by cases q) (by rw [arrV_size]; exact hin) (arrV_read _ _ hlt) rfl rfl hdg (kk _ (h2 _ hlt) ⟨n, f, h1, hlt, rfl⟩)
theorem hp_iastE (hexec : p.tables.exec = Jvm.exec) (hb : c.code = cc) (hK : hp_K D s) (hH : hp_w D T s H locs) {n : Nat} {P : Nat → Value → Prop} (ha : T a = some (.inl (0, n, P))) {i x : Int32} (hin : vp_in i n) (hx : P i.toNatClampNeg (.int x)) (hdg : decode cc pc = .ok (.iastore, 1))
    (kk : ∀ (H1 : Heap) (locs1 : List Loc), hp_w D T s H1 locs1 → hp_ar D H H1 → (∀ q, q ≠ a → H1[q]? = H[q]?) → (∀ j v, j ≠ i.toNatClampNeg → hp_e D H a j v → hp_e D H1 a j v) → hp_e D H1 a i.toNatClampNeg (.int x) → W p l e R s m args below meth c H1 locs1 cells slots Q (F0 m (pc + 1) ls rest)) : W p l e R s m args below meth c H locs cells slots Q (F0 m pc ls (.int x :: .int i :: .ref a :: rest)) := by
  obtain ⟨f, h1, h2⟩ := hH.1 a _ ha
  have hlt : i.toNatClampNeg < n := Nat.not_le.mp fun q => hin (Or.inr q)
  refine W.iast hexec hb h1 ((hK.2 0 _ rfl).1 n f) (fun q => by cases q) (by rw [arrV_size]; exact hin) rfl rfl hdg fun H1 e z oq => ?_
  obtain ⟨g1, g2⟩ := hp_ast hK hH ha rfl h1 h2 hx e z oq
  rw [arrV_store] at e
  refine kk H1 _ g1 g2 oq (fun j v hj he => ?_) ⟨n, _, e, hlt, by simp [updV]⟩
  obtain ⟨n', f', r1, r2, r3⟩ := he
  have e2 := Option.some.inj (h1.symm.trans r1)
  have e3 : n = n' := by
    have := congrArg (fun c : Cell => c.slots.size) e2
    simpa [arrV_size] using this
  subst e3
  have e4 : f j = f' j := by
    have a1 := arrV_read (D.2.1 0) f r2
    rw [e2, arrV_read (D.2.1 0) f' r2] at a1
    exact (Option.some.inj a1).symm
  exact ⟨n, _, e, r2, by simp [updV, hj, e4, r3]⟩
theorem hp_zastE (hexec : p.tables.exec = Jvm.exec) (hb : c.code = cc) (hK : hp_K D s) (hH : hp_w D T s H locs) {n : Nat} {P : Nat → Value → Prop} (ha : T a = some (.inl (2, n, P))) {i x : Int32} (hin : vp_in i n) (hx : P i.toNatClampNeg (.int x)) (hnz : narrow .boolean (.int x) = .int x) (hdg : decode cc pc = .ok (.bastore, 1))
    (kk : ∀ (H1 : Heap) (locs1 : List Loc), hp_w D T s H1 locs1 → hp_ar D H H1 → (∀ q, q ≠ a → H1[q]? = H[q]?) → hp_et D 2 H1 a i.toNatClampNeg (.int x) → W p l e R s m args below meth c H1 locs1 cells slots Q (F0 m (pc + 1) ls rest)) : W p l e R s m args below meth c H locs cells slots Q (F0 m pc ls (.int x :: .int i :: .ref a :: rest)) := by
  obtain ⟨f, h1, h2⟩ := hH.1 a _ ha
  have hlt : i.toNatClampNeg < n := Nat.not_le.mp fun q => hin (Or.inr q)
  refine W.zast hexec hb h1 ((hK.2 2 _ rfl).1 n f) (fun q => by cases q) (by rw [arrV_size]; exact hin) rfl rfl hdg fun H1 e z oq => ?_
  rw [hnz] at e
  obtain ⟨g1, g2⟩ := hp_ast hK hH ha rfl h1 h2 hx e z oq
  rw [arrV_store] at e
  exact kk H1 _ g1 g2 oq ⟨n, _, e, hlt, by simp [updV]⟩
theorem hp_ne_len {t t' n n' b : Nat} {P P' : Nat → Value → Prop} (ha : T a = some (.inl (t, n, P))) (hb : T b = some (.inl (t', n', P'))) (h : n ≠ n' ∨ t ≠ t') : a ≠ b := fun e => by
  rw [e, hb] at ha
  have h1 := Option.some.inj ha
  have h2 := Sum.inl.inj h1
  have h3 := congrArg (fun q : Nat × Nat × (Nat → Value → Prop) => q.1) h2
  have h4 := congrArg (fun q : Nat × Nat × (Nat → Value → Prop) => q.2.1) h2
  rcases h with h | h
  · exact h h4.symm
  · exact h h3.symm
end HPE
theorem lcmp_lt {x : Int32} {a b : Int64} (e : x = lg_cmp a b) (h : x < 0) : ¬ b ≤ a := fun g => by
  have g1 := Int64.le_iff_toInt_le.mp g
  rw [e] at h
  unfold lg_cmp at h
  by_cases q : a > b
  · rw [if_pos q] at h
    exact absurd h (by decide)
  · by_cases q2 : a = b
    · rw [if_neg q, if_pos q2] at h
      exact absurd h (by decide)
    · have q3 := Int64.le_iff_toInt_le.mp (Int64.not_lt.mp q)
      exact q2 (Int64.toInt_inj.mp (by omega))
theorem lcmp_gt {x : Int32} {a b : Int64} (e : x = lg_cmp a b) (h : 0 < x) : ¬ a ≤ b := fun g => by
  have g1 := Int64.le_iff_toInt_le.mp g
  rw [e] at h
  unfold lg_cmp at h
  have q : ¬ a > b := fun z => by
    have := Int64.lt_iff_toInt_lt.mp z
    omega
  rw [if_neg q] at h
  split at h
  · exact absurd h (by decide)
  · exact absurd h (by decide)
theorem iv_64in {x : Int32} {y a b : Int64} {lo hi : Int} (e : x.toInt64 = y) (bx : iv x lo hi) (ha : a.toInt ≤ lo) (hb : hi ≤ b.toInt) : a ≤ y ∧ y ≤ b := by
  have h3 : y.toInt = x.toInt := by rw [← e, Int32.toInt_toInt64]
  have h1 := bx.1
  have h2 := bx.2
  exact ⟨Int64.le_iff_toInt_le.mpr (by omega), Int64.le_iff_toInt_le.mpr (by omega)⟩
theorem mo_addr {T : hp_T} {a ci ci' k q q' : Nat} {Ps Qs : List (Value → Prop)} (h : T a = some (.inr (ci, Ps))) (hk : Ps[k]? = some (rR q)) (g : T a = some (.inr (ci', Qs))) (gk : Qs[k]? = some (rR q')) : q = q' := by
  have h1 := Option.some.inj (h.symm.trans g)
  have h2 := congrArg Prod.snd (Sum.inr.inj h1)
  have h3 : Ps = Qs := h2
  rw [h3, gk] at hk
  have h4 := congrFun (Option.some.inj hk) (.ref q)
  have h5 : rR q (.ref q) := rfl
  rw [← h4] at h5
  cases (show Value.ref q = .ref q' from h5)
  rfl
theorem or_ge {a b x : Int32} {u w : Int} (e : x = a ||| b) (ha : iv a 0 u) (hb : iv b 0 w) (hu : u ≤ 1023 := by decide) (hw : w ≤ 1023 := by decide) : a.toInt ≤ x.toInt := by
  have hx : iv x 0 1023 := iv_or 10 (ha.mono (by decide) hu) (hb.mono (by decide) hw) e (by decide) (by decide)
  have h1 := (iv_nat ha).1
  have h2 := (iv_nat hx).1
  have h3 : a.toBitVec.toNat ≤ x.toBitVec.toNat := by
    have : x.toBitVec = a.toBitVec ||| b.toBitVec := by rw [e]; rfl
    rw [this, BitVec.toNat_or]
    exact Nat.left_le_or
  omega
theorem isl_tab : ∀ n, n < 1024 → n ≠ 0 → ¬ (nI n &&& (nI n &&& (-(nI n)))) = 0 := by decide +kernel
theorem isl_0 {l i x : Int32} {u : Int} (e1 : x = -l) (e2 : i = l &&& x) (h : ¬ l = 0) (b : iv l 0 u) (hu : u ≤ 1023 := by decide) : ¬ (l &&& i) = 0 := by
  obtain ⟨n, rfl, h1, h2, h3⟩ := iv_of l b (by decide)
  rw [e2, e1]
  refine isl_tab n (by omega) (fun z => h (by rw [z]; rfl))
theorem isl_or {l i m j : Int32} (e : j = i ||| m) (h : ¬ (l &&& i) = 0) : ¬ (l &&& j) = 0 := fun z => h (by
  have h1 : (l &&& j).toBitVec = 0#32 := by rw [z]; rfl
  have h2 : (l &&& j).toBitVec = l.toBitVec &&& (i.toBitVec ||| m.toBitVec) := by rw [e]; rfl
  have h3 : (l &&& i).toBitVec = l.toBitVec &&& i.toBitVec := rfl
  have h4 : (l &&& i).toBitVec = 0#32 := by
    rw [h3]
    rw [h2] at h1
    apply BitVec.eq_of_getLsbD_eq
    intro k hk
    have h5 := congrArg (fun v => v.getLsbD k) h1
    simp only [BitVec.getLsbD_and, BitVec.getLsbD_or, BitVec.getLsbD_zero] at h5 ⊢
    cases hl : l.toBitVec.getLsbD k <;> cases hi : i.toBitVec.getLsbD k <;> simp_all
  exact Int32.toBitVec_inj.mp h4)
theorem isl_dec {l i x k : Int32} {u : Int} {n : Nat} (e1 : x = i ^^^ (-1)) (e2 : k = l &&& x) (h : ¬ (l &&& i) = 0) (b : iv l 0 u) (hm : l.toInt.toNat < n + 1) : k.toInt.toNat < n := by
  have hk : iv k 0 u := iv_and_l b e2
  have a1 := (iv_nat b).1
  have a2 := (iv_nat hk).1
  have h1 : k.toBitVec = l.toBitVec &&& x.toBitVec := by rw [e2]; rfl
  have h2 : k.toBitVec.toNat ≤ l.toBitVec.toNat := by
    rw [h1, BitVec.toNat_and]
    exact Nat.and_le_left
  have h3 : k.toBitVec.toNat ≠ l.toBitVec.toNat := fun z => h (by
    have z1 : k.toBitVec = l.toBitVec := BitVec.eq_of_toNat_eq z
    have z2 : x.toBitVec = i.toBitVec ^^^ (BitVec.allOnes 32) := by rw [e1]; rfl
    refine Int32.toBitVec_inj.mp ?_
    show l.toBitVec &&& i.toBitVec = 0#32
    apply BitVec.eq_of_getLsbD_eq
    intro q hq
    have h5 := congrArg (fun v => v.getLsbD q) (z1.symm.trans h1)
    simp only [z2, BitVec.getLsbD_and, BitVec.getLsbD_xor, BitVec.getLsbD_allOnes, BitVec.getLsbD_zero] at h5 ⊢
    cases hl : l.toBitVec.getLsbD q <;> cases hi : i.toBitVec.getLsbD q <;> simp_all)
  have := b.1
  omega
def isMo (T : hp_T) (a : Nat) (Gm : moG) : Prop := ∃ m_tape m_sign m_len m_clause m_clauses m_read m_opn m_stack m_word m_said m_was m_fitting m_sums m_sort m_sumsBy m_oneOf m_otherOf m_kept m_images m_acts m_iUnd m_iFor m_iX m_made : Nat, moOk Gm ∧ T a = some (.inr (12, [(rR m_tape), (rI 0 400), (rI 0 6), (rR m_sign), (rR m_len), (rR m_clause), (rR m_clauses), (rR m_read), (rI 0 400), rA, rA, (rI 0 6), rA, rA, rA, (rR m_opn), (rI 0 400), (rR m_stack), (rI 0 64), (rR m_word), (rR m_said), (rI (-1) 5), (gx Gm), (rR m_was), (rI 0 20), (rR m_fitting), (rI 0 1024), (rR m_sums), (rR m_sort), (rR m_sumsBy), (rR m_oneOf), (rR m_otherOf), (rI 0 45), rA, rA, rA, (rR m_kept), rL, (rR m_images), (rR m_acts), (rR m_iUnd), (rR m_iFor), (rR m_iX), (rR m_made)])) ∧ T m_tape = some (.inl (1, 400, (fun _ => rA))) ∧ T m_sign = some (.inl (0, 2400, (fun j => rV (.int (gS Gm j))))) ∧ T m_len = some (.inl (0, 7, (fun _ => (rI 0 400)))) ∧ T m_clause = some (.inl (0, 288, (fun j => rV (.int (gK Gm j))))) ∧ T m_clauses = some (.inl (0, 6, (fun j => rV (.int (gC Gm j))))) ∧ T m_read = some (.inl (0, 170, rP)) ∧ T m_opn = some (.inl (0, 400, (fun _ => rA))) ∧ T m_stack = some (.inl (3, 64, (fun _ => rL))) ∧ T m_word = some (.inl (3, 11, (fun _ => rL))) ∧ T m_said = some (.inl (0, 211, (gs Gm))) ∧ T m_was = some (.inl (0, 3400, wP)) ∧ T m_fitting = some (.inl (0, 1024, (fun _ => (rI 0 1023)))) ∧ T m_sums = some (.inl (0, 1024, (fun _ => rA))) ∧ T m_sort = some (.inl (0, 1536, (fun _ => rA))) ∧ T m_sumsBy = some (.inl (0, 3072, (fun _ => rA))) ∧ T m_oneOf = some (.inl (0, 45, (fun _ => rA))) ∧ T m_otherOf = some (.inl (0, 45, (fun _ => rA))) ∧ T m_kept = some (.inl (0, 130, kP)) ∧ T m_images = some (.inl (0, 844, iP)) ∧ T m_acts = some (.inl (0, 13600, wP)) ∧ T m_iUnd = some (.inl (0, 4, (fun _ => (rI 0 20)))) ∧ T m_iFor = some (.inl (0, 4, (fun _ => (rI (-1) 5)))) ∧ T m_iX = some (.inl (0, 4, (gX Gm))) ∧ T m_made = some (.inl (2, 4, (gM Gm)))
