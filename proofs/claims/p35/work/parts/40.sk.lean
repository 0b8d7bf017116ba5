/-! SHOOK: the two who meet are among those gathered -/
theorem iv_m12 {x u : Int32} (e : x = 12 * u) (b : iv u 0 9) : x.toInt = 12 * u.toInt := by
  have b1 := b.1
  have b2 := b.2
  rw [e, Int32.toInt_mul]
  exact iv_bmod (show _ ≤ 12 * u.toInt by omega) (show 12 * u.toInt ≤ _ by omega)
def mI (F : Nat → Int32) (a b h : Nat) : Prop := F (10 + 12 * a + h) = F (10 + 12 * b + h) ∧ ¬ F (10 + 12 * a + h) = 99
def meP (F : Nat → Int32) (a b : Nat) : Prop := ∃ j : Nat, (j : Int) < (F 1).toInt ∧ mI F a b j
theorem meP.sym {F : Nat → Int32} {a b : Nat} (h : meP F a b) : meP F b a := by
  obtain ⟨j, h1, h2, h3⟩ := h
  exact ⟨j, h1, h2.symm, by rw [← h2]; exact h3⟩
def gp (F f g : Nat → Int32) (tw u v : Int) : Prop := ∀ a b : Nat, ((a : Int) < u ∨ ((a : Int) = u ∧ (b : Int) < v)) → a < b → (b : Int) < (F 2).toInt → meP F a b → ∃ k : Nat, (k : Int) < tw ∧ (f k).toInt = (a : Int) ∧ (g k).toInt = (b : Int)
def gt (D : hp_D) (H : Heap) (A : Nat → Nat) (F : Nat → Int32) (tw u v : Int) : Prop := ∃ f g : Nat → Int32, hp_c D H (A 15) 45 f ∧ hp_c D H (A 16) 45 g ∧ gp F f g tw u v
theorem gp_0 {F f g : Nat → Int32} {tw : Int} : gp F f g tw 0 0 := fun a b h _ _ _ => by omega
theorem gp_row {F f g : Nat → Int32} {tw u v : Int} (h : gp F f g tw u 0) (hv : v = u + 1) : gp F f g tw u v := fun a b h1 h2 h3 h4 => h a b (by omega) h2 h3 h4
theorem gp_no {F f g : Nat → Int32} {tw u v w : Int} (h : gp F f g tw u v) (hu : 0 ≤ u) (hv : 0 ≤ v) (hw : w = v + 1) (hm : ¬ meP F u.toNat v.toNat) : gp F f g tw u w := fun a b h1 h2 h3 h4 => by
  by_cases e : (a : Int) = u ∧ (b : Int) = v
  · exact absurd (by rw [show u.toNat = a by omega, show v.toNat = b by omega]; exact h4) hm
  · exact h a b (by omega) h2 h3 h4
theorem gp_yes {F f g : Nat → Int32} {tw tw' u v w : Int} {t a0 b0 : Int32} (h : gp F f g tw u v) (ht : t.toInt = tw) (h0 : 0 ≤ tw) (htw : tw' = tw + 1) (ha : a0.toInt = u) (hb : b0.toInt = v) (hw : w = v + 1) : gp F (fun j => if j = t.toNatClampNeg then a0 else f j) (fun j => if j = t.toNatClampNeg then b0 else g j) tw' u w := fun a b h1 h2 h3 h4 => by
  have e9 : t.toNatClampNeg = tw.toNat := iv_tn ht
  by_cases e : (a : Int) = u ∧ (b : Int) = v
  · refine ⟨tw.toNat, by omega, ?_, ?_⟩
    · show (if tw.toNat = t.toNatClampNeg then a0 else f tw.toNat).toInt = (a : Int)
      rw [if_pos e9.symm]
      omega
    · show (if tw.toNat = t.toNatClampNeg then b0 else g tw.toNat).toInt = (b : Int)
      rw [if_pos e9.symm]
      omega
  · obtain ⟨k, k1, k2, k3⟩ := h a b (by omega) h2 h3 h4
    refine ⟨k, by omega, ?_, ?_⟩
    · show (if k = t.toNatClampNeg then a0 else f k).toInt = (a : Int)
      rw [if_neg (by omega)]
      exact k2
    · show (if k = t.toNatClampNeg then b0 else g k).toInt = (b : Int)
      rw [if_neg (by omega)]
      exact k3
theorem gp_next {F f g : Nat → Int32} {tw u v u' : Int} (h : gp F f g tw u v) (hv : (F 2).toInt ≤ v) (hu : u' = u + 1) : gp F f g tw u' 0 := fun a b h1 h2 h3 h4 => h a b (by omega) h2 h3 h4
theorem gp_all {F f g : Nat → Int32} {tw u : Int} (h : gp F f g tw u 0) (hu : (F 2).toInt ≤ u) : gp F f g tw (F 2).toInt 0 := fun a b h1 h2 h3 h4 => h a b (by omega) h2 h3 h4
theorem gp_find {F f g : Nat → Int32} {tw : Int} {x y : Int32} (h : gp F f g tw (F 2).toInt 0) (hx : 0 ≤ x.toInt ∧ x.toInt < (F 2).toInt) (hy : 0 ≤ y.toInt ∧ y.toInt < (F 2).toInt) (hne : ¬ x = y) (hm : meP F x.toInt.toNat y.toInt.toNat) : ∃ k : Nat, (k : Int) < tw ∧ ((f k = x ∧ g k = y) ∨ (f k = y ∧ g k = x)) := by
  have hne2 := iv_neq hne
  rcases (show x.toInt < y.toInt ∨ y.toInt < x.toInt by omega) with q | q
  · obtain ⟨k, k1, k2, k3⟩ := h x.toInt.toNat y.toInt.toNat (by omega) (by omega) (by omega) hm
    exact ⟨k, k1, Or.inl ⟨Int32.toInt_inj.mp (by omega), Int32.toInt_inj.mp (by omega)⟩⟩
  · obtain ⟨k, k1, k2, k3⟩ := h y.toInt.toNat x.toInt.toNat (by omega) (by omega) (by omega) hm.sym
    exact ⟨k, k1, Or.inr ⟨Int32.toInt_inj.mp (by omega), Int32.toInt_inj.mp (by omega)⟩⟩
