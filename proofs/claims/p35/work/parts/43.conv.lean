/-! THE REFERENCE: its cells by number; from its typing to its reader's and back -/
def isMA (T : hp_T) (a : Nat) (A : Nat → Nat) (Gm : moG) : Prop := moOk Gm ∧ T a = some (.inr (12, [(rR (A 0)), (rI 0 400), (rI 0 6), (rR (A 1)), (rR (A 2)), (rR (A 3)), (rR (A 4)), (rR (A 5)), (rI 0 400), rA, rA, (rI 0 6), rA, rA, rA, (rR (A 6)), (rI 0 400), (rR (A 7)), (rI 0 64), (rR (A 8)), (rR (A 9)), (rI (-1) 5), (gx Gm), (rR (A 10)), (rI 0 20), (rR (A 11)), (rI 0 1024), (rR (A 12)), (rR (A 13)), (rR (A 14)), (rR (A 15)), (rR (A 16)), (rI 0 45), rA, rA, rA, (rR (A 17)), rL, (rR (A 18)), (rR (A 19)), (rR (A 20)), (rR (A 21)), (rR (A 22)), (rR (A 23))])) ∧ T (A 0) = some (.inl (1, 400, (fun _ => rA))) ∧ T (A 1) = some (.inl (0, 2400, (fun j => rV (.int (gS Gm j))))) ∧ T (A 2) = some (.inl (0, 7, (fun _ => (rI 0 400)))) ∧ T (A 3) = some (.inl (0, 288, (fun j => rV (.int (gK Gm j))))) ∧ T (A 4) = some (.inl (0, 6, (fun j => rV (.int (gC Gm j))))) ∧ T (A 5) = some (.inl (0, 170, rP)) ∧ T (A 6) = some (.inl (0, 400, (fun _ => rA))) ∧ T (A 7) = some (.inl (3, 64, (fun _ => rL))) ∧ T (A 8) = some (.inl (3, 11, (fun _ => rL))) ∧ T (A 9) = some (.inl (0, 211, (gs Gm))) ∧ T (A 10) = some (.inl (0, 3400, wP)) ∧ T (A 11) = some (.inl (0, 1024, (fun _ => (rI 0 1023)))) ∧ T (A 12) = some (.inl (0, 1024, (fun _ => rA))) ∧ T (A 13) = some (.inl (0, 1536, (fun _ => rA))) ∧ T (A 14) = some (.inl (0, 3072, (fun _ => rA))) ∧ T (A 15) = some (.inl (0, 45, (fun _ => rA))) ∧ T (A 16) = some (.inl (0, 45, (fun _ => rA))) ∧ T (A 17) = some (.inl (0, 130, kP)) ∧ T (A 18) = some (.inl (0, 844, iP)) ∧ T (A 19) = some (.inl (0, 13600, wP)) ∧ T (A 20) = some (.inl (0, 4, (fun _ => (rI 0 20)))) ∧ T (A 21) = some (.inl (0, 4, (fun _ => (rI (-1) 5)))) ∧ T (A 22) = some (.inl (0, 4, (gX Gm))) ∧ T (A 23) = some (.inl (2, 4, (gM Gm)))
theorem isMo.A {T : hp_T} {a : Nat} {Gm : moG} (h : isMo T a Gm) : ∃ A : Nat → Nat, isMA T a A Gm := by
  obtain ⟨m0, m1, m2, m3, m4, m5, m6, m7, m8, m9, m10, m11, m12, m13, m14, m15, m16, m17, m18, m19, m20, m21, m22, m23, hk, h0, hr⟩ := h
  exact ⟨fun k => [m0, m1, m2, m3, m4, m5, m6, m7, m8, m9, m10, m11, m12, m13, m14, m15, m16, m17, m18, m19, m20, m21, m22, m23].getD k 0, hk, h0, hr⟩
theorem isMA.mo {T : hp_T} {a : Nat} {A : Nat → Nat} {Gm : moG} (h : isMA T a A Gm) : isMo T a Gm := ⟨A 0, A 1, A 2, A 3, A 4, A 5, A 6, A 7, A 8, A 9, A 10, A 11, A 12, A 13, A 14, A 15, A 16, A 17, A 18, A 19, A 20, A 21, A 22, A 23, h⟩
theorem arrV_inj {c : ClassId} {n : Nat} {f g : Nat → Value} (h : arrV c n f = arrV c n g) (j : Nat) (hj : j < n) : f j = g j := by
  have a1 := arrV_read c f hj
  rw [h, arrV_read c g hj] at a1
  exact (Option.some.inj a1).symm
theorem hp_reA {D : hp_D} {T : hp_T} {H : Heap} {a t0 n : Nat} {P P' : Nat → Value → Prop} (h : hp_ok D T H) (ha : T a = some (.inl (t0, n, P))) (hP : ∀ f : Nat → Value, H[a]? = some (arrV (D.2.1 t0) n f) → (∀ j, j < n → P j (f j)) → ∀ j, j < n → P' j (f j)) : hp_ok D (hp_up T a (.inl (t0, n, P'))) H := fun b t hbt => by
  by_cases e : b = a
  · subst e
    rw [hp_up_s] at hbt
    cases hbt
    obtain ⟨f, h1, h2⟩ := h b _ ha
    exact ⟨f, h1, hP f h1 h2⟩
  · rw [hp_up_n e] at hbt
    exact h b t hbt
theorem hp_c.of {D : hp_D} {T : hp_T} {H : Heap} {a n : Nat} {S : Nat → Int32} (h : hp_ok D T H) (ha : T a = some (.inl (0, n, fun j => rV (.int (S j))))) : hp_c D H a n S := by
  obtain ⟨f, h1, h2⟩ := h a _ ha
  unfold hp_c
  rw [h1]
  exact congrArg some (arrV_same (fun j hj => h2 j hj))
theorem hp_c.val {D : hp_D} {H : Heap} {a n : Nat} {S : Nat → Int32} {f : Nat → Value} (h : hp_c D H a n S) (hf : H[a]? = some (arrV (D.2.1 0) n f)) (j : Nat) (hj : j < n) : f j = .int (S j) := arrV_inj (Option.some.inj (hf.symm.trans h)) j hj
theorem hp_F_upk {T : hp_T} {a q : Nat} {ct ct0 : hp_C} (ha : T a = some ct0) (h : hp_F (hp_up T a ct) q) : hp_F T q := by
  rcases hp_F_up h with h | h
  · exact h
  · rw [h]
    exact ⟨_, ha⟩
theorem mo_to {D : hp_D} {T : hp_T} {H : Heap} {a : Nat} {A : Nat → Nat} {Gm : moG} (h : hp_ok D T H) (i : isMA T a A Gm) : ∃ (T' : hp_T) (Tp : Nat → Value), hp_ok D T' H ∧ isMp T' a A Gm Tp ∧ rdw D H A ∧ ∀ q, hp_F T' q → hp_F T q := by
  obtain ⟨gok, h0a, h0, h1, h2, h3, h4, h5, h6, h7, h8, h9, h10, h11, h12, h13, h14, h15, h16, h17, h18, h19, h20, h21, h22, h23⟩ := id i
  have n0_1 : A 0 ≠ A 1 := hp_ne_len h0 h1 (by decide)
  have n0_3 : A 0 ≠ A 3 := hp_ne_len h0 h3 (by decide)
  have n0_4 : A 0 ≠ A 4 := hp_ne_len h0 h4 (by decide)
  have n1_0 : A 1 ≠ A 0 := hp_ne_len h1 h0 (by decide)
  have n1_3 : A 1 ≠ A 3 := hp_ne_len h1 h3 (by decide)
  have n1_4 : A 1 ≠ A 4 := hp_ne_len h1 h4 (by decide)
  have n2_0 : A 2 ≠ A 0 := hp_ne_len h2 h0 (by decide)
  have n2_1 : A 2 ≠ A 1 := hp_ne_len h2 h1 (by decide)
  have n2_3 : A 2 ≠ A 3 := hp_ne_len h2 h3 (by decide)
  have n2_4 : A 2 ≠ A 4 := hp_ne_len h2 h4 (by decide)
  have n3_0 : A 3 ≠ A 0 := hp_ne_len h3 h0 (by decide)
  have n3_1 : A 3 ≠ A 1 := hp_ne_len h3 h1 (by decide)
  have n3_4 : A 3 ≠ A 4 := hp_ne_len h3 h4 (by decide)
  have n4_0 : A 4 ≠ A 0 := hp_ne_len h4 h0 (by decide)
  have n4_1 : A 4 ≠ A 1 := hp_ne_len h4 h1 (by decide)
  have n4_3 : A 4 ≠ A 3 := hp_ne_len h4 h3 (by decide)
  have n5_0 : A 5 ≠ A 0 := hp_ne_len h5 h0 (by decide)
  have n5_1 : A 5 ≠ A 1 := hp_ne_len h5 h1 (by decide)
  have n5_3 : A 5 ≠ A 3 := hp_ne_len h5 h3 (by decide)
  have n5_4 : A 5 ≠ A 4 := hp_ne_len h5 h4 (by decide)
  have n6_0 : A 6 ≠ A 0 := hp_ne_len h6 h0 (by decide)
  have n6_1 : A 6 ≠ A 1 := hp_ne_len h6 h1 (by decide)
  have n6_3 : A 6 ≠ A 3 := hp_ne_len h6 h3 (by decide)
  have n6_4 : A 6 ≠ A 4 := hp_ne_len h6 h4 (by decide)
  have n7_0 : A 7 ≠ A 0 := hp_ne_len h7 h0 (by decide)
  have n7_1 : A 7 ≠ A 1 := hp_ne_len h7 h1 (by decide)
  have n7_3 : A 7 ≠ A 3 := hp_ne_len h7 h3 (by decide)
  have n7_4 : A 7 ≠ A 4 := hp_ne_len h7 h4 (by decide)
  have n8_0 : A 8 ≠ A 0 := hp_ne_len h8 h0 (by decide)
  have n8_1 : A 8 ≠ A 1 := hp_ne_len h8 h1 (by decide)
  have n8_3 : A 8 ≠ A 3 := hp_ne_len h8 h3 (by decide)
  have n8_4 : A 8 ≠ A 4 := hp_ne_len h8 h4 (by decide)
  have n9_0 : A 9 ≠ A 0 := hp_ne_len h9 h0 (by decide)
  have n9_1 : A 9 ≠ A 1 := hp_ne_len h9 h1 (by decide)
  have n9_3 : A 9 ≠ A 3 := hp_ne_len h9 h3 (by decide)
  have n9_4 : A 9 ≠ A 4 := hp_ne_len h9 h4 (by decide)
  have n10_0 : A 10 ≠ A 0 := hp_ne_len h10 h0 (by decide)
  have n10_1 : A 10 ≠ A 1 := hp_ne_len h10 h1 (by decide)
  have n10_3 : A 10 ≠ A 3 := hp_ne_len h10 h3 (by decide)
  have n10_4 : A 10 ≠ A 4 := hp_ne_len h10 h4 (by decide)
  have n11_0 : A 11 ≠ A 0 := hp_ne_len h11 h0 (by decide)
  have n11_1 : A 11 ≠ A 1 := hp_ne_len h11 h1 (by decide)
  have n11_3 : A 11 ≠ A 3 := hp_ne_len h11 h3 (by decide)
  have n11_4 : A 11 ≠ A 4 := hp_ne_len h11 h4 (by decide)
  have n12_0 : A 12 ≠ A 0 := hp_ne_len h12 h0 (by decide)
  have n12_1 : A 12 ≠ A 1 := hp_ne_len h12 h1 (by decide)
  have n12_3 : A 12 ≠ A 3 := hp_ne_len h12 h3 (by decide)
  have n12_4 : A 12 ≠ A 4 := hp_ne_len h12 h4 (by decide)
  have n13_0 : A 13 ≠ A 0 := hp_ne_len h13 h0 (by decide)
  have n13_1 : A 13 ≠ A 1 := hp_ne_len h13 h1 (by decide)
  have n13_3 : A 13 ≠ A 3 := hp_ne_len h13 h3 (by decide)
  have n13_4 : A 13 ≠ A 4 := hp_ne_len h13 h4 (by decide)
  have n14_0 : A 14 ≠ A 0 := hp_ne_len h14 h0 (by decide)
  have n14_1 : A 14 ≠ A 1 := hp_ne_len h14 h1 (by decide)
  have n14_3 : A 14 ≠ A 3 := hp_ne_len h14 h3 (by decide)
  have n14_4 : A 14 ≠ A 4 := hp_ne_len h14 h4 (by decide)
  have n15_0 : A 15 ≠ A 0 := hp_ne_len h15 h0 (by decide)
  have n15_1 : A 15 ≠ A 1 := hp_ne_len h15 h1 (by decide)
  have n15_3 : A 15 ≠ A 3 := hp_ne_len h15 h3 (by decide)
  have n15_4 : A 15 ≠ A 4 := hp_ne_len h15 h4 (by decide)
  have n16_0 : A 16 ≠ A 0 := hp_ne_len h16 h0 (by decide)
  have n16_1 : A 16 ≠ A 1 := hp_ne_len h16 h1 (by decide)
  have n16_3 : A 16 ≠ A 3 := hp_ne_len h16 h3 (by decide)
  have n16_4 : A 16 ≠ A 4 := hp_ne_len h16 h4 (by decide)
  have n17_0 : A 17 ≠ A 0 := hp_ne_len h17 h0 (by decide)
  have n17_1 : A 17 ≠ A 1 := hp_ne_len h17 h1 (by decide)
  have n17_3 : A 17 ≠ A 3 := hp_ne_len h17 h3 (by decide)
  have n17_4 : A 17 ≠ A 4 := hp_ne_len h17 h4 (by decide)
  have n18_0 : A 18 ≠ A 0 := hp_ne_len h18 h0 (by decide)
  have n18_1 : A 18 ≠ A 1 := hp_ne_len h18 h1 (by decide)
  have n18_3 : A 18 ≠ A 3 := hp_ne_len h18 h3 (by decide)
  have n18_4 : A 18 ≠ A 4 := hp_ne_len h18 h4 (by decide)
  have n19_0 : A 19 ≠ A 0 := hp_ne_len h19 h0 (by decide)
  have n19_1 : A 19 ≠ A 1 := hp_ne_len h19 h1 (by decide)
  have n19_3 : A 19 ≠ A 3 := hp_ne_len h19 h3 (by decide)
  have n19_4 : A 19 ≠ A 4 := hp_ne_len h19 h4 (by decide)
  have n20_0 : A 20 ≠ A 0 := hp_ne_len h20 h0 (by decide)
  have n20_1 : A 20 ≠ A 1 := hp_ne_len h20 h1 (by decide)
  have n20_3 : A 20 ≠ A 3 := hp_ne_len h20 h3 (by decide)
  have n20_4 : A 20 ≠ A 4 := hp_ne_len h20 h4 (by decide)
  have n21_0 : A 21 ≠ A 0 := hp_ne_len h21 h0 (by decide)
  have n21_1 : A 21 ≠ A 1 := hp_ne_len h21 h1 (by decide)
  have n21_3 : A 21 ≠ A 3 := hp_ne_len h21 h3 (by decide)
  have n21_4 : A 21 ≠ A 4 := hp_ne_len h21 h4 (by decide)
  have n22_0 : A 22 ≠ A 0 := hp_ne_len h22 h0 (by decide)
  have n22_1 : A 22 ≠ A 1 := hp_ne_len h22 h1 (by decide)
  have n22_3 : A 22 ≠ A 3 := hp_ne_len h22 h3 (by decide)
  have n22_4 : A 22 ≠ A 4 := hp_ne_len h22 h4 (by decide)
  have n23_0 : A 23 ≠ A 0 := hp_ne_len h23 h0 (by decide)
  have n23_1 : A 23 ≠ A 1 := hp_ne_len h23 h1 (by decide)
  have n23_3 : A 23 ≠ A 3 := hp_ne_len h23 h3 (by decide)
  have n23_4 : A 23 ≠ A 4 := hp_ne_len h23 h4 (by decide)
  have na_0 : a ≠ A 0 := fun z => hp_ne_ao h0 h0a z.symm
  have na_1 : a ≠ A 1 := fun z => hp_ne_ao h1 h0a z.symm
  have na_3 : a ≠ A 3 := fun z => hp_ne_ao h3 h0a z.symm
  have na_4 : a ≠ A 4 := fun z => hp_ne_ao h4 h0a z.symm
  obtain ⟨f0, e0, v0⟩ := h _ _ h0
  obtain ⟨Tp, eTp⟩ : ∃ Tp : Nat → Value, ∀ j, Tp j = if j < 400 then f0 j else .int 0 := ⟨_, fun _ => rfl⟩
  have hTp : ∀ j v, v = Tp j → ∃ x : Int32, v = .int x := fun j v hv => by
    rw [hv, eTp]
    by_cases hj : j < 400
    · rw [if_pos hj]
      exact v0 j hj
    · rw [if_neg hj]
      exact ⟨0, rfl⟩
  have k0 : hp_ok D (hp_up T (A 0) (.inl (1, 400, (fun j => rV (Tp j))))) H := hp_reA h h0 (fun f hf hv j hj => (show f j = Tp j from by rw [arrV_inj (Option.some.inj (hf.symm.trans e0)) j hj]; rw [eTp]; exact (if_pos hj).symm))
  have k1 : hp_ok D (hp_up (hp_up T (A 0) (.inl (1, 400, (fun j => rV (Tp j))))) (A 1) (.inl (0, 2400, (fun _ => rA)))) H := hp_reA k0 (by rw [hp_up_n n1_0]; exact h1) (fun f hf hv j hj => ⟨_, hv j hj⟩)
  have k3 : hp_ok D (hp_up (hp_up (hp_up T (A 0) (.inl (1, 400, (fun j => rV (Tp j))))) (A 1) (.inl (0, 2400, (fun _ => rA)))) (A 3) (.inl (0, 288, (fun _ => rA)))) H := hp_reA k1 (by rw [hp_up_n n3_1, hp_up_n n3_0]; exact h3) (fun f hf hv j hj => ⟨_, hv j hj⟩)
  have k4 : hp_ok D (hp_up (hp_up (hp_up (hp_up T (A 0) (.inl (1, 400, (fun j => rV (Tp j))))) (A 1) (.inl (0, 2400, (fun _ => rA)))) (A 3) (.inl (0, 288, (fun _ => rA)))) (A 4) (.inl (0, 6, (fun _ => (rI 0 12))))) H := hp_reA k3 (by rw [hp_up_n n4_3, hp_up_n n4_1, hp_up_n n4_0]; exact h4) (fun f hf hv j hj => ⟨_, hv j hj, (gok.2.2.2.1 j hj).1⟩)
  refine ⟨(hp_up (hp_up (hp_up (hp_up T (A 0) (.inl (1, 400, (fun j => rV (Tp j))))) (A 1) (.inl (0, 2400, (fun _ => rA)))) (A 3) (.inl (0, 288, (fun _ => rA)))) (A 4) (.inl (0, 6, (fun _ => (rI 0 12))))), Tp, k4, ⟨gok, hTp, (by rw [hp_up_n na_4, hp_up_n na_3, hp_up_n na_1, hp_up_n na_0]; exact h0a), (by rw [hp_up_n n0_4, hp_up_n n0_3, hp_up_n n0_1, hp_up_s]; first | done | rfl), (by rw [hp_up_n n1_4, hp_up_n n1_3, hp_up_s]; first | done | rfl), (by rw [hp_up_n n2_4, hp_up_n n2_3, hp_up_n n2_1, hp_up_n n2_0]; exact h2), (by rw [hp_up_n n3_4, hp_up_s]; first | done | rfl), (by rw [hp_up_s]; first | done | rfl), (by rw [hp_up_n n5_4, hp_up_n n5_3, hp_up_n n5_1, hp_up_n n5_0]; exact h5), (by rw [hp_up_n n6_4, hp_up_n n6_3, hp_up_n n6_1, hp_up_n n6_0]; exact h6), (by rw [hp_up_n n7_4, hp_up_n n7_3, hp_up_n n7_1, hp_up_n n7_0]; exact h7), (by rw [hp_up_n n8_4, hp_up_n n8_3, hp_up_n n8_1, hp_up_n n8_0]; exact h8), (by rw [hp_up_n n9_4, hp_up_n n9_3, hp_up_n n9_1, hp_up_n n9_0]; exact h9), (by rw [hp_up_n n10_4, hp_up_n n10_3, hp_up_n n10_1, hp_up_n n10_0]; exact h10), (by rw [hp_up_n n11_4, hp_up_n n11_3, hp_up_n n11_1, hp_up_n n11_0]; exact h11), (by rw [hp_up_n n12_4, hp_up_n n12_3, hp_up_n n12_1, hp_up_n n12_0]; exact h12), (by rw [hp_up_n n13_4, hp_up_n n13_3, hp_up_n n13_1, hp_up_n n13_0]; exact h13), (by rw [hp_up_n n14_4, hp_up_n n14_3, hp_up_n n14_1, hp_up_n n14_0]; exact h14), (by rw [hp_up_n n15_4, hp_up_n n15_3, hp_up_n n15_1, hp_up_n n15_0]; exact h15), (by rw [hp_up_n n16_4, hp_up_n n16_3, hp_up_n n16_1, hp_up_n n16_0]; exact h16), (by rw [hp_up_n n17_4, hp_up_n n17_3, hp_up_n n17_1, hp_up_n n17_0]; exact h17), (by rw [hp_up_n n18_4, hp_up_n n18_3, hp_up_n n18_1, hp_up_n n18_0]; exact h18), (by rw [hp_up_n n19_4, hp_up_n n19_3, hp_up_n n19_1, hp_up_n n19_0]; exact h19), (by rw [hp_up_n n20_4, hp_up_n n20_3, hp_up_n n20_1, hp_up_n n20_0]; exact h20), (by rw [hp_up_n n21_4, hp_up_n n21_3, hp_up_n n21_1, hp_up_n n21_0]; exact h21), (by rw [hp_up_n n22_4, hp_up_n n22_3, hp_up_n n22_1, hp_up_n n22_0]; exact h22), (by rw [hp_up_n n23_4, hp_up_n n23_3, hp_up_n n23_1, hp_up_n n23_0]; exact h23)⟩, ⟨gS Gm, gK Gm, gC Gm, hp_c.of h h1, hp_c.of h h3, hp_c.of h h4, gok.2.2.2.1⟩, fun q hq => (hp_F_upk h0 (hp_F_upk (by rw [hp_up_n n1_0]; exact h1) (hp_F_upk (by rw [hp_up_n n3_1, hp_up_n n3_0]; exact h3) (hp_F_upk (by rw [hp_up_n n4_3, hp_up_n n4_1, hp_up_n n4_0]; exact h4) hq))))⟩
theorem mo_from {D : hp_D} {T : hp_T} {H : Heap} {a : Nat} {A : Nat → Nat} {Gm : moG} {Tp : Nat → Value} (h : hp_ok D T H) (i : isMp T a A Gm Tp) (r : rdw D H A) : ∃ (T' : hp_T) (Gm' : moG), hp_ok D T' H ∧ isMA T' a A Gm' ∧ (gx Gm' = gx Gm ∧ gs Gm' = gs Gm ∧ gX Gm' = gX Gm ∧ gM Gm' = gM Gm) ∧ ∀ q, hp_F T' q → hp_F T q := by
  obtain ⟨gok, tpok, h0a, h0, h1, h2, h3, h4, h5, h6, h7, h8, h9, h10, h11, h12, h13, h14, h15, h16, h17, h18, h19, h20, h21, h22, h23⟩ := id i
  obtain ⟨S, K, C, r1, r2, r3, r4⟩ := r
  have n0_1 : A 0 ≠ A 1 := hp_ne_len h0 h1 (by decide)
  have n0_3 : A 0 ≠ A 3 := hp_ne_len h0 h3 (by decide)
  have n0_4 : A 0 ≠ A 4 := hp_ne_len h0 h4 (by decide)
  have n1_0 : A 1 ≠ A 0 := hp_ne_len h1 h0 (by decide)
  have n1_3 : A 1 ≠ A 3 := hp_ne_len h1 h3 (by decide)
  have n1_4 : A 1 ≠ A 4 := hp_ne_len h1 h4 (by decide)
  have n2_0 : A 2 ≠ A 0 := hp_ne_len h2 h0 (by decide)
  have n2_1 : A 2 ≠ A 1 := hp_ne_len h2 h1 (by decide)
  have n2_3 : A 2 ≠ A 3 := hp_ne_len h2 h3 (by decide)
  have n2_4 : A 2 ≠ A 4 := hp_ne_len h2 h4 (by decide)
  have n3_0 : A 3 ≠ A 0 := hp_ne_len h3 h0 (by decide)
  have n3_1 : A 3 ≠ A 1 := hp_ne_len h3 h1 (by decide)
  have n3_4 : A 3 ≠ A 4 := hp_ne_len h3 h4 (by decide)
  have n4_0 : A 4 ≠ A 0 := hp_ne_len h4 h0 (by decide)
  have n4_1 : A 4 ≠ A 1 := hp_ne_len h4 h1 (by decide)
  have n4_3 : A 4 ≠ A 3 := hp_ne_len h4 h3 (by decide)
  have n5_0 : A 5 ≠ A 0 := hp_ne_len h5 h0 (by decide)
  have n5_1 : A 5 ≠ A 1 := hp_ne_len h5 h1 (by decide)
  have n5_3 : A 5 ≠ A 3 := hp_ne_len h5 h3 (by decide)
  have n5_4 : A 5 ≠ A 4 := hp_ne_len h5 h4 (by decide)
  have n6_0 : A 6 ≠ A 0 := hp_ne_len h6 h0 (by decide)
  have n6_1 : A 6 ≠ A 1 := hp_ne_len h6 h1 (by decide)
  have n6_3 : A 6 ≠ A 3 := hp_ne_len h6 h3 (by decide)
  have n6_4 : A 6 ≠ A 4 := hp_ne_len h6 h4 (by decide)
  have n7_0 : A 7 ≠ A 0 := hp_ne_len h7 h0 (by decide)
  have n7_1 : A 7 ≠ A 1 := hp_ne_len h7 h1 (by decide)
  have n7_3 : A 7 ≠ A 3 := hp_ne_len h7 h3 (by decide)
  have n7_4 : A 7 ≠ A 4 := hp_ne_len h7 h4 (by decide)
  have n8_0 : A 8 ≠ A 0 := hp_ne_len h8 h0 (by decide)
  have n8_1 : A 8 ≠ A 1 := hp_ne_len h8 h1 (by decide)
  have n8_3 : A 8 ≠ A 3 := hp_ne_len h8 h3 (by decide)
  have n8_4 : A 8 ≠ A 4 := hp_ne_len h8 h4 (by decide)
  have n9_0 : A 9 ≠ A 0 := hp_ne_len h9 h0 (by decide)
  have n9_1 : A 9 ≠ A 1 := hp_ne_len h9 h1 (by decide)
  have n9_3 : A 9 ≠ A 3 := hp_ne_len h9 h3 (by decide)
  have n9_4 : A 9 ≠ A 4 := hp_ne_len h9 h4 (by decide)
  have n10_0 : A 10 ≠ A 0 := hp_ne_len h10 h0 (by decide)
  have n10_1 : A 10 ≠ A 1 := hp_ne_len h10 h1 (by decide)
  have n10_3 : A 10 ≠ A 3 := hp_ne_len h10 h3 (by decide)
  have n10_4 : A 10 ≠ A 4 := hp_ne_len h10 h4 (by decide)
  have n11_0 : A 11 ≠ A 0 := hp_ne_len h11 h0 (by decide)
  have n11_1 : A 11 ≠ A 1 := hp_ne_len h11 h1 (by decide)
  have n11_3 : A 11 ≠ A 3 := hp_ne_len h11 h3 (by decide)
  have n11_4 : A 11 ≠ A 4 := hp_ne_len h11 h4 (by decide)
  have n12_0 : A 12 ≠ A 0 := hp_ne_len h12 h0 (by decide)
  have n12_1 : A 12 ≠ A 1 := hp_ne_len h12 h1 (by decide)
  have n12_3 : A 12 ≠ A 3 := hp_ne_len h12 h3 (by decide)
  have n12_4 : A 12 ≠ A 4 := hp_ne_len h12 h4 (by decide)
  have n13_0 : A 13 ≠ A 0 := hp_ne_len h13 h0 (by decide)
  have n13_1 : A 13 ≠ A 1 := hp_ne_len h13 h1 (by decide)
  have n13_3 : A 13 ≠ A 3 := hp_ne_len h13 h3 (by decide)
  have n13_4 : A 13 ≠ A 4 := hp_ne_len h13 h4 (by decide)
  have n14_0 : A 14 ≠ A 0 := hp_ne_len h14 h0 (by decide)
  have n14_1 : A 14 ≠ A 1 := hp_ne_len h14 h1 (by decide)
  have n14_3 : A 14 ≠ A 3 := hp_ne_len h14 h3 (by decide)
  have n14_4 : A 14 ≠ A 4 := hp_ne_len h14 h4 (by decide)
  have n15_0 : A 15 ≠ A 0 := hp_ne_len h15 h0 (by decide)
  have n15_1 : A 15 ≠ A 1 := hp_ne_len h15 h1 (by decide)
  have n15_3 : A 15 ≠ A 3 := hp_ne_len h15 h3 (by decide)
  have n15_4 : A 15 ≠ A 4 := hp_ne_len h15 h4 (by decide)
  have n16_0 : A 16 ≠ A 0 := hp_ne_len h16 h0 (by decide)
  have n16_1 : A 16 ≠ A 1 := hp_ne_len h16 h1 (by decide)
  have n16_3 : A 16 ≠ A 3 := hp_ne_len h16 h3 (by decide)
  have n16_4 : A 16 ≠ A 4 := hp_ne_len h16 h4 (by decide)
  have n17_0 : A 17 ≠ A 0 := hp_ne_len h17 h0 (by decide)
  have n17_1 : A 17 ≠ A 1 := hp_ne_len h17 h1 (by decide)
  have n17_3 : A 17 ≠ A 3 := hp_ne_len h17 h3 (by decide)
  have n17_4 : A 17 ≠ A 4 := hp_ne_len h17 h4 (by decide)
  have n18_0 : A 18 ≠ A 0 := hp_ne_len h18 h0 (by decide)
  have n18_1 : A 18 ≠ A 1 := hp_ne_len h18 h1 (by decide)
  have n18_3 : A 18 ≠ A 3 := hp_ne_len h18 h3 (by decide)
  have n18_4 : A 18 ≠ A 4 := hp_ne_len h18 h4 (by decide)
  have n19_0 : A 19 ≠ A 0 := hp_ne_len h19 h0 (by decide)
  have n19_1 : A 19 ≠ A 1 := hp_ne_len h19 h1 (by decide)
  have n19_3 : A 19 ≠ A 3 := hp_ne_len h19 h3 (by decide)
  have n19_4 : A 19 ≠ A 4 := hp_ne_len h19 h4 (by decide)
  have n20_0 : A 20 ≠ A 0 := hp_ne_len h20 h0 (by decide)
  have n20_1 : A 20 ≠ A 1 := hp_ne_len h20 h1 (by decide)
  have n20_3 : A 20 ≠ A 3 := hp_ne_len h20 h3 (by decide)
  have n20_4 : A 20 ≠ A 4 := hp_ne_len h20 h4 (by decide)
  have n21_0 : A 21 ≠ A 0 := hp_ne_len h21 h0 (by decide)
  have n21_1 : A 21 ≠ A 1 := hp_ne_len h21 h1 (by decide)
  have n21_3 : A 21 ≠ A 3 := hp_ne_len h21 h3 (by decide)
  have n21_4 : A 21 ≠ A 4 := hp_ne_len h21 h4 (by decide)
  have n22_0 : A 22 ≠ A 0 := hp_ne_len h22 h0 (by decide)
  have n22_1 : A 22 ≠ A 1 := hp_ne_len h22 h1 (by decide)
  have n22_3 : A 22 ≠ A 3 := hp_ne_len h22 h3 (by decide)
  have n22_4 : A 22 ≠ A 4 := hp_ne_len h22 h4 (by decide)
  have n23_0 : A 23 ≠ A 0 := hp_ne_len h23 h0 (by decide)
  have n23_1 : A 23 ≠ A 1 := hp_ne_len h23 h1 (by decide)
  have n23_3 : A 23 ≠ A 3 := hp_ne_len h23 h3 (by decide)
  have n23_4 : A 23 ≠ A 4 := hp_ne_len h23 h4 (by decide)
  have na_0 : a ≠ A 0 := fun z => hp_ne_ao h0 h0a z.symm
  have na_1 : a ≠ A 1 := fun z => hp_ne_ao h1 h0a z.symm
  have na_3 : a ≠ A 3 := fun z => hp_ne_ao h3 h0a z.symm
  have na_4 : a ≠ A 4 := fun z => hp_ne_ao h4 h0a z.symm
  have k0 : hp_ok D (hp_up T (A 0) (.inl (1, 400, fun _ => rA))) H := hp_reA h h0 (fun f hf hv j hj => (tpok _ _ (hv j hj)))
  have k1 : hp_ok D (hp_up (hp_up T (A 0) (.inl (1, 400, fun _ => rA))) (A 1) (.inl (0, 2400, fun j => rV (.int (S j))))) H := hp_reA k0 (by rw [hp_up_n n1_0]; exact h1) (fun f hf hv j hj => (r1.val hf j hj))
  have k3 : hp_ok D (hp_up (hp_up (hp_up T (A 0) (.inl (1, 400, fun _ => rA))) (A 1) (.inl (0, 2400, fun j => rV (.int (S j))))) (A 3) (.inl (0, 288, fun j => rV (.int (K j))))) H := hp_reA k1 (by rw [hp_up_n n3_1, hp_up_n n3_0]; exact h3) (fun f hf hv j hj => (r2.val hf j hj))
  have k4 : hp_ok D (hp_up (hp_up (hp_up (hp_up T (A 0) (.inl (1, 400, fun _ => rA))) (A 1) (.inl (0, 2400, fun j => rV (.int (S j))))) (A 3) (.inl (0, 288, fun j => rV (.int (K j))))) (A 4) (.inl (0, 6, fun j => rV (.int (C j))))) H := hp_reA k3 (by rw [hp_up_n n4_3, hp_up_n n4_1, hp_up_n n4_0]; exact h4) (fun f hf hv j hj => (r3.val hf j hj))
  refine ⟨(hp_up (hp_up (hp_up (hp_up T (A 0) (.inl (1, 400, fun _ => rA))) (A 1) (.inl (0, 2400, fun j => rV (.int (S j))))) (A 3) (.inl (0, 288, fun j => rV (.int (K j))))) (A 4) (.inl (0, 6, fun j => rV (.int (C j))))), (gx Gm, gs Gm, gX Gm, gM Gm, S, K, C), k4, ⟨⟨gok.1, gok.2.1, gok.2.2.1, r4, gok.2.2.2.2⟩, (by rw [hp_up_n na_4, hp_up_n na_3, hp_up_n na_1, hp_up_n na_0]; exact h0a), (by rw [hp_up_n n0_4, hp_up_n n0_3, hp_up_n n0_1, hp_up_s]; first | done | rfl), (by rw [hp_up_n n1_4, hp_up_n n1_3, hp_up_s]; first | done | rfl), (by rw [hp_up_n n2_4, hp_up_n n2_3, hp_up_n n2_1, hp_up_n n2_0]; exact h2), (by rw [hp_up_n n3_4, hp_up_s]; first | done | rfl), (by rw [hp_up_s]; first | done | rfl), (by rw [hp_up_n n5_4, hp_up_n n5_3, hp_up_n n5_1, hp_up_n n5_0]; exact h5), (by rw [hp_up_n n6_4, hp_up_n n6_3, hp_up_n n6_1, hp_up_n n6_0]; exact h6), (by rw [hp_up_n n7_4, hp_up_n n7_3, hp_up_n n7_1, hp_up_n n7_0]; exact h7), (by rw [hp_up_n n8_4, hp_up_n n8_3, hp_up_n n8_1, hp_up_n n8_0]; exact h8), (by rw [hp_up_n n9_4, hp_up_n n9_3, hp_up_n n9_1, hp_up_n n9_0]; exact h9), (by rw [hp_up_n n10_4, hp_up_n n10_3, hp_up_n n10_1, hp_up_n n10_0]; exact h10), (by rw [hp_up_n n11_4, hp_up_n n11_3, hp_up_n n11_1, hp_up_n n11_0]; exact h11), (by rw [hp_up_n n12_4, hp_up_n n12_3, hp_up_n n12_1, hp_up_n n12_0]; exact h12), (by rw [hp_up_n n13_4, hp_up_n n13_3, hp_up_n n13_1, hp_up_n n13_0]; exact h13), (by rw [hp_up_n n14_4, hp_up_n n14_3, hp_up_n n14_1, hp_up_n n14_0]; exact h14), (by rw [hp_up_n n15_4, hp_up_n n15_3, hp_up_n n15_1, hp_up_n n15_0]; exact h15), (by rw [hp_up_n n16_4, hp_up_n n16_3, hp_up_n n16_1, hp_up_n n16_0]; exact h16), (by rw [hp_up_n n17_4, hp_up_n n17_3, hp_up_n n17_1, hp_up_n n17_0]; exact h17), (by rw [hp_up_n n18_4, hp_up_n n18_3, hp_up_n n18_1, hp_up_n n18_0]; exact h18), (by rw [hp_up_n n19_4, hp_up_n n19_3, hp_up_n n19_1, hp_up_n n19_0]; exact h19), (by rw [hp_up_n n20_4, hp_up_n n20_3, hp_up_n n20_1, hp_up_n n20_0]; exact h20), (by rw [hp_up_n n21_4, hp_up_n n21_3, hp_up_n n21_1, hp_up_n n21_0]; exact h21), (by rw [hp_up_n n22_4, hp_up_n n22_3, hp_up_n n22_1, hp_up_n n22_0]; exact h22), (by rw [hp_up_n n23_4, hp_up_n n23_3, hp_up_n n23_1, hp_up_n n23_0]; exact h23)⟩, ⟨rfl, rfl, rfl, rfl⟩, fun q hq => (hp_F_upk h0 (hp_F_upk (by rw [hp_up_n n1_0]; exact h1) (hp_F_upk (by rw [hp_up_n n3_1, hp_up_n n3_0]; exact h3) (hp_F_upk (by rw [hp_up_n n4_3, hp_up_n n4_1, hp_up_n n4_0]; exact h4) hq))))⟩
