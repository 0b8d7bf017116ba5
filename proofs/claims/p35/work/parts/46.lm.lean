/-! IMAGE and BACK of the reference -/
theorem hp_et.val {D : hp_D} {H : Heap} {t0 n a j : Nat} {v : Value} {g : Nat → Value} (h : hp_et D t0 H a j v) (hg : H[a]? = some (arrV (D.2.1 t0) n g)) (hj : j < n) : g j = v := by
  obtain ⟨m, f, h1, h2, h3⟩ := h
  have e := Option.some.inj (hg.symm.trans h1)
  have a1 := arrV_read (D.2.1 t0) g hj
  rw [e, arrV_read (D.2.1 t0) f h2] at a1
  rw [← Option.some.inj a1]
  exact h3
theorem rI_nV {lo hi : Int} {y : Int32} (h0 : lo ≤ 0 ∧ 1 ≤ hi) (h : rI lo hi = rV (.int y)) : False := by
  have z0 : (0 : Int32).toInt = 0 := rfl
  have z1 : (1 : Int32).toInt = 1 := rfl
  have a0 : rV (.int y) (.int 0) := by
    rw [← h]
    exact ⟨0, rfl, by omega, by omega⟩
  have a1 : rV (.int y) (.int 1) := by
    rw [← h]
    exact ⟨1, rfl, by omega, by omega⟩
  have e : Value.int 0 = .int 1 := Eq.trans a0 (Eq.symm a1)
  cases e
theorem isMA.nX {T : hp_T} {a : Nat} {A : Nat → Nat} {Gm : moG} {X : Nat → Int32} (i : isMA T a A Gm) (e3 : ∀ j, gX Gm j = rV (.int (X j))) : A 20 ≠ A 22 ∧ A 21 ≠ A 22 := by
  obtain ⟨gok, h0a, h0, h1, h2, h3, h4, h5, h6, h7, h8, h9, h10, h11, h12, h13, h14, h15, h16, h17, h18, h19, h20, h21, h22, h23⟩ := id i
  refine ⟨fun z => ?_, fun z => ?_⟩
  · rw [z, h22] at h20
    have e := congrArg (fun c : Nat × Nat × (Nat → Value → Prop) => c.2.2 0) (Sum.inl.inj (Option.some.inj h20))
    exact rI_nV (lo := 0) (hi := 20) (by decide) (e.symm.trans (e3 0))
  · rw [z, h22] at h21
    have e := congrArg (fun c : Nat × Nat × (Nat → Value → Prop) => c.2.2 0) (Sum.inl.inj (Option.some.inj h21))
    exact rI_nV (lo := -1) (hi := 5) (by decide) (e.symm.trans (e3 0))
def upI (X : Nat → Int32) (k : Nat) (y : Int32) : Nat → Int32 := fun j => if j = k then y else X j
theorem upI_s {X : Nat → Int32} {k : Nat} {y : Int32} : upI X k y k = y := if_pos rfl
theorem upI_n {X : Nat → Int32} {k j : Nat} {y : Int32} (h : ¬ j = k) : upI X k y j = X j := if_neg h
/-- all but one place is known -/
def loX (X : Nat → Int32) (k j : Nat) (v : Value) : Prop := (∃ y : Int32, v = .int y) ∧ (¬ j = k → v = .int (X j))
theorem iv_in3 {k : Int32} (h0 : ¬ k < 0) (h4 : k < 4) : iv k 0 3 := by
  have r0 : iv k 0 2147483647 := (iv_le_r (iv_nlt h0) (show iv 0 0 0 from ⟨by decide, by decide⟩) (iv_any k)).mono (by decide) (by decide)
  exact (iv_lt_l h4 r0 (show iv 4 4 4 from ⟨by decide, by decide⟩)).mono (by decide) (by decide)
theorem iv_lo0 {k : Int32} (h : k < 0) : iv k (-2147483648) (-1) := (iv_lt_l h (iv_any k) (show iv 0 0 0 from ⟨by decide, by decide⟩)).mono (by decide) (by decide)
theorem iv_hi4 {k : Int32} (h : ¬ k < 4) : iv k 4 2147483647 := (iv_le_r (iv_nlt h) (show iv 4 4 4 from ⟨by decide, by decide⟩) (iv_any k)).mono (by decide) (by decide)
theorem lX12_image (l : Launch) (D : hp_D) (T : hp_T) (a : Nat) (A : Nat → Nat) (x : Int32) (X M : Nat → Int32) (w : mW T a A x X M) (k : Int32) : Met l yX12_image wsX12_image ({ frames := 1, cells := 0, slots := 0, locals := 25 }) (hp_Pc D T [.ref a, .int k] (fun _ => True)) (lm_q D T (fun v T1 => (∃ r : Int32, v = some (.int r)) ∧ (((¬ k < 0 ∧ k < 4) ∧ mW T1 a A x (upI X k.toNatClampNeg x) (upI M k.toNatClampNeg 1)) ∨ (¬ (¬ k < 0 ∧ k < 4) ∧ mW T1 a A x X M)))) 0 0 (hp_F T) := by
  obtain ⟨Gm, i, e1, e2, e3, e4⟩ := id w
  have pure_ : ∀ {post : Option Value → Prop}, (∀ v, post v → ∃ r : Int32, v = some (.int r)) → ¬ (¬ k < 0 ∧ k < 4) → Met l yX12_image wsX12_image ({ frames := 1, cells := 0, slots := 0, locals := 25 }) (hp_Pc D T [.ref a, .int k] (fun _ => True)) (hq_p post) 0 0 (fun _ => False) → Met l yX12_image wsX12_image ({ frames := 1, cells := 0, slots := 0, locals := 25 }) (hp_Pc D T [.ref a, .int k] (fun _ => True)) (lm_q D T (fun v T1 => (∃ r : Int32, v = some (.int r)) ∧ (((¬ k < 0 ∧ k < 4) ∧ mW T1 a A x (upI X k.toNatClampNeg x) (upI M k.toNatClampNeg 1)) ∨ (¬ (¬ k < 0 ∧ k < 4) ∧ mW T1 a A x X M)))) 0 0 (hp_F T) := fun hp hn hm => met_mono hm (fun _ _ h => h) (fun av U oc t hpre hq => by
    obtain ⟨v, ho, hv, hh⟩ := hq
    exact ⟨v, T, ho, ⟨hp v hv, Or.inr ⟨hn, w⟩⟩, by rw [hh]; exact hpre.2.1, fun _ h => h, by rw [hh]; exact Nat.le_refl _, fun q _ _ => by rw [hh]⟩) (fun _ h => h.elim)
  by_cases h0 : k < 0
  · exact pure_ (fun v h => by obtain ⟨r, h, -⟩ := h; exact ⟨r, h⟩) (fun z => z.1 h0) (sX12_image_lo l D T a k Gm i.mo (iv_lo0 h0))
  by_cases h4 : k < 4
  · have hb := iv_in3 h0 h4
    have hkr : ¬ k < 0 ∧ k < 4 := ⟨h0, h4⟩
    have hk4 : k.toNatClampNeg < 4 := iv_ltn hb (by decide)
    obtain ⟨gok, h0a, h0, h1, h2, h3, h4, h5, h6, h7, h8, h9, h10, h11, h12, h13, h14, h15, h16, h17, h18, h19, h20, h21, h22, h23⟩ := id i
    have iA := isMA.iX i (loX X k.toNatClampNeg) (fun j v h => h.1) (i.nX e3)
    have iB := isMA.made iA (loX M k.toNatClampNeg) (fun j v h => h.1)
    have n23 : A 23 ≠ A 22 := hp_ne_len h23 h22 (by decide)
    have g23 : hp_up T (A 22) (.inl (0, 4, loX X k.toNatClampNeg)) (A 23) = some (.inl (2, 4, gM Gm)) := (hp_up_n n23).trans h23
    have hF : ∀ q, hp_F (hp_up (hp_up T (A 22) (.inl (0, 4, loX X k.toNatClampNeg))) (A 23) (.inl (2, 4, loX M k.toNatClampNeg))) q → hp_F T q := fun q hq => hp_F_upk h22 (hp_F_upk g23 hq)
    obtain ⟨Ps, k1, k2, k3⟩ := i.xx
    have hA : ∃ Ps : List (Value → Prop), (hp_up (hp_up T (A 22) (.inl (0, 4, loX X k.toNatClampNeg))) (A 23) (.inl (2, 4, loX M k.toNatClampNeg))) a = some (.inr (12, Ps)) ∧ Ps[42]? = some (rR (A 22)) ∧ Ps[43]? = some (rR (A 23)) := ⟨_, iB.2.1, rfl, rfl⟩
    refine met_mono (sX12_image_in l D (hp_up (hp_up T (A 22) (.inl (0, 4, loX X k.toNatClampNeg))) (A 23) (.inl (2, 4, loX M k.toNatClampNeg))) a k x _ iB.mo (A 22) (A 23) hA (fun y => ⟨⟨y, rfl⟩, fun z => absurd rfl z⟩) (fun y => ⟨⟨y, rfl⟩, fun z => absurd rfl z⟩) hb (iv_any x)) (fun av U h => ?_) (fun av U oc t h hq => ?_) hF
    · obtain ⟨h1, hok, hG, -⟩ := h
      have hf := hp_getv hok k1 (v := .int x) (by rw [k2, e1])
      have c1 : hp_ok D (hp_up T (A 22) (.inl (0, 4, loX X k.toNatClampNeg))) U.heap := hp_reA hok h22 (fun f hf hv j hj => by
        have h9 := hv j hj
        rw [e3 j] at h9
        exact ⟨⟨_, h9⟩, fun _ => h9⟩)
      have c2 : hp_ok D (hp_up (hp_up T (A 22) (.inl (0, 4, loX X k.toNatClampNeg))) (A 23) (.inl (2, 4, loX M k.toNatClampNeg))) U.heap := hp_reA c1 g23 (fun f hf hv j hj => by
        have h9 := hv j hj
        rw [e4 j] at h9
        exact ⟨⟨_, h9⟩, fun _ => h9⟩)
      exact ⟨h1, c2, hG.nar hF, hf⟩
    · obtain ⟨v, ho, ⟨r, hr, ⟨-, q1⟩, q2⟩, hok, hz, hk⟩ := hq
      have j22 : (hp_up (hp_up T (A 22) (.inl (0, 4, loX X k.toNatClampNeg))) (A 23) (.inl (2, 4, loX M k.toNatClampNeg))) (A 22) = some (.inl (0, 4, loX X k.toNatClampNeg)) := (hp_up_n (fun z => n23 z.symm)).trans (hp_up_s _ _ _)
      have d1 : hp_ok D (hp_up (hp_up (hp_up T (A 22) (.inl (0, 4, loX X k.toNatClampNeg))) (A 23) (.inl (2, 4, loX M k.toNatClampNeg))) (A 22) (.inl (0, 4, fun j => rV (.int (upI X k.toNatClampNeg x j))))) t.heap := hp_reA hok j22 (fun f hf hv j hj => by
        by_cases e : j = k.toNatClampNeg
        · subst e
          show f k.toNatClampNeg = _
          rw [upI_s]
          exact q1.val hf hj
        · show f j = _
          rw [upI_n e]
          exact (hv j hj).2 e)
      have j23 : hp_up (hp_up (hp_up T (A 22) (.inl (0, 4, loX X k.toNatClampNeg))) (A 23) (.inl (2, 4, loX M k.toNatClampNeg))) (A 22) (.inl (0, 4, fun j => rV (.int (upI X k.toNatClampNeg x j)))) (A 23) = some (.inl (2, 4, loX M k.toNatClampNeg)) := (hp_up_n n23).trans (hp_up_s _ _ _)
      have d2 := hp_reA (P' := fun j => rV (.int (upI M k.toNatClampNeg 1 j))) d1 j23 (fun f hf hv j hj => by
        by_cases e : j = k.toNatClampNeg
        · subst e
          show f k.toNatClampNeg = _
          rw [upI_s]
          exact q2.val hf hj
        · show f j = _
          rw [upI_n e]
          exact (hv j hj).2 e)
      have iC := isMA.made (isMA.iX iB (fun j => rV (.int (upI X k.toNatClampNeg x j))) (fun j v h => ⟨_, h⟩) (i.nX e3)) (fun j => rV (.int (upI M k.toNatClampNeg 1 j))) (fun j v h => ⟨_, h⟩)
      exact ⟨v, _, ho, ⟨⟨r, hr⟩, Or.inl ⟨hkr, _, iC, e1, e2, fun j => rfl, fun j => rfl⟩⟩, d2, fun q hq => hF q (hp_F_upk j22 (hp_F_upk j23 hq)), hz, fun q h1 h3 => hk q h1 (fun y => h3 (hF q y))⟩
  · exact pure_ (fun v h => by obtain ⟨r, h, -⟩ := h; exact ⟨r, h⟩) (fun z => h4 z.2) (sX12_image_hi l D T a k Gm i.mo (iv_hi4 h4))
def bkM (X M : Nat → Int32) (k x : Int32) : Int32 := if (¬ k < 0 ∧ k < 4) ∧ M k.toNatClampNeg = 1 then X k.toNatClampNeg else x
theorem lX12_back (l : Launch) (D : hp_D) (T : hp_T) (a : Nat) (A : Nat → Nat) (x : Int32) (X M : Nat → Int32) (w : mW T a A x X M) (hM : ∀ j, M j = 0 ∨ M j = 1) (k : Int32) : Met l yX12_back wsX12_back ({ frames := 1, cells := 0, slots := 0, locals := 25 }) (hp_Pc D T [.ref a, .int k] (fun _ => True)) (lm_q D T (lm_r a A (bkM X M k x) X M)) 0 0 (hp_F T) := by
  obtain ⟨Gm, i, e1, e2, e3, e4⟩ := id w
  by_cases h0 : k < 0
  · rw [show bkM X M k x = x from if_neg (fun z => z.1.1 h0)]
    exact lm_p (sX12_back_lo l D T a k Gm i.mo (iv_lo0 h0)) (fun v h => by obtain ⟨r, h, -⟩ := h; exact ⟨r, h⟩) w
  by_cases h4 : k < 4
  · have hb := iv_in3 h0 h4
    rcases hM k.toNatClampNeg with hm | hm
    · rw [show bkM X M k x = x from if_neg (fun z => absurd (hm.symm.trans z.2) (by decide))]
      refine lm_p (sX12_back_no l D T a k Gm i.mo (fun v h => ?_) hb) (fun v h => by obtain ⟨r, h, -⟩ := h; exact ⟨r, h⟩) w
      rw [e4, hm] at h
      exact h
    · rw [show bkM X M k x = X k.toNatClampNeg from if_pos ⟨⟨h0, h4⟩, hm⟩]
      obtain ⟨Ps, k1, k2, k3⟩ := i.xx
      have i8 := k3 rA (fun v h => h)
      have hF : ∀ (p : Value → Prop) (q : Nat), hp_F (hp_up T a (.inr (12, Ps.set 22 p))) q → hp_F T q := fun p q hq => hp_F_upk k1 hq
      refine met_mono (sX12_back_in l D (hp_up T a (.inr (12, Ps.set 22 rA))) a k _ i8.mo (fun y => ⟨y, rfl⟩) (fun v h => ?_) (X k.toNatClampNeg) (fun v h => ?_) (fun j v h => ?_) hb) (fun av U h => ?_) (fun av U oc t h hq => ?_) (hF rA)
      · have h9 : gM Gm k.toNatClampNeg v := h
        rw [e4, hm] at h9
        exact h9
      · have h9 : gX Gm k.toNatClampNeg v := h
        rw [e3] at h9
        exact h9
      · show gs Gm j v
        rw [e2]
        exact h
      · obtain ⟨h1, hok, hG, -⟩ := h
        have hf := hp_getv hok k1 (v := .int x) (by rw [k2, e1])
        exact ⟨h1, hp_setP hok k1 hf ⟨x, rfl⟩, hG.nar (hF rA), trivial⟩
      · obtain ⟨v, ho, ⟨r, hr, -, hf⟩, hok, hz, hk⟩ := hq
        have h8 := hp_setP (P := rV (.int (X k.toNatClampNeg))) hok (hp_up_s _ _ _) hf rfl
        rw [hp_upup, List.set_set] at h8
        exact ⟨v, _, ho, ⟨⟨r, hr⟩, _, k3 (rV (.int (X k.toNatClampNeg))) (fun v h => ⟨_, h⟩), rfl, e2, e3, e4⟩, h8, hF _, hz, fun q h1 h3 => hk q h1 (fun y => h3 (hF _ q y))⟩
  · rw [show bkM X M k x = x from if_neg (fun z => h4 z.1.2)]
    exact lm_p (sX12_back_hi l D T a k Gm i.mo (iv_hi4 h4)) (fun v h => by obtain ⟨r, h, -⟩ := h; exact ⟨r, h⟩) w
