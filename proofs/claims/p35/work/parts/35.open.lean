/-! THE READER'S PILE OF OPEN SIGNS: 11 not, 12 and, 13 or, 91 a bracket -/
def nbin (O : Nat → Int32) : Nat → Nat
  | 0 => 0
  | n + 1 => nbin O n + (if O n = 12 ∨ O n = 13 then 1 else 0)
def ovd (O : Nat → Int32) (q : Int) : Prop := ∀ j : Nat, (j : Int) < q → O j = 11 ∨ O j = 12 ∨ O j = 13 ∨ O j = 91
theorem nbin_same {O O' : Nat → Int32} {n : Nat} (h : ∀ j, j < n → O' j = O j) : nbin O' n = nbin O n := by
  induction n with
  | zero => rfl
  | succ n ih =>
    unfold nbin
    rw [ih (fun j hj => h j (by omega)), h n (by omega)]
theorem nbin_br {O : Nat → Int32} {n : Nat} (h : O n = 91) : nbin O (n + 1) = nbin O n := by
  show nbin O n + _ = _
  rw [h, if_neg (by decide)]
  rfl
theorem nbin_not {O : Nat → Int32} {n : Nat} (h : O n = 11) : nbin O (n + 1) = nbin O n := by
  show nbin O n + _ = _
  rw [h, if_neg (by decide)]
  rfl
theorem nbin_bin {O : Nat → Int32} {n : Nat} (h : O n = 12 ∨ O n = 13) : nbin O (n + 1) = nbin O n + 1 := by
  show nbin O n + _ = _
  rw [if_pos h]
theorem c_open {v : Int32} {O : Nat → Int32} {n gk : Nat} (hv : v = O n) (h : v = 11 ∨ v = 12 ∨ v = 13) : c_st (v + 16 * 0) (gk + 1 + nbin O (n + 1)) (gk + 1 + nbin O n) := by
  rcases h with h | h | h
  · rw [nbin_not (hv.symm.trans h), h]
    have := c_not (gk + nbin O n)
    rw [show gk + nbin O n + 1 = gk + 1 + nbin O n by omega] at this
    exact this
  · rw [nbin_bin (Or.inl (hv.symm.trans h)), h]
    have := c_bin (s := 12) (lo := 12) (hi := 12) ⟨by decide, by decide⟩ (by decide) (by decide) (gk + nbin O n)
    rw [show gk + nbin O n + 2 = gk + 1 + (nbin O n + 1) by omega, show gk + nbin O n + 1 = gk + 1 + nbin O n by omega] at this
    exact this
  · rw [nbin_bin (Or.inr (hv.symm.trans h)), h]
    have := c_bin (s := 13) (lo := 13) (hi := 13) ⟨by decide, by decide⟩ (by decide) (by decide) (gk + nbin O n)
    rw [show gk + nbin O n + 2 = gk + 1 + (nbin O n + 1) by omega, show gk + nbin O n + 1 = gk + 1 + nbin O n by omega] at this
    exact this
theorem nbin_le (O : Nat → Int32) (n : Nat) : nbin O n ≤ nbin O (n + 1) := by
  show nbin O n ≤ nbin O n + _
  omega
theorem st_top {O : Nat → Int32} {x : Int32} {k : Nat} (u : x = O k) (a : O k = 11 ∨ O k = 12 ∨ O k = 13 ∨ O k = 91) (n : ¬ (x = 11 ∨ x = 12 ∨ x = 13)) : O k = 91 := by
  rw [u] at n
  rcases a with a | a | a | a
  · exact absurd (Or.inl a) n
  · exact absurd (Or.inr (Or.inl a)) n
  · exact absurd (Or.inr (Or.inr a)) n
  · exact a
abbrev WX12_strength_x (p : Program) (l : Launch) (e : Env) (s : State) (m : MethodId) (below : List Frame) (meth : Method) (c : Code) (D : hp_D) (T : hp_T) (xp0 : Int32) (H : Heap) (locs : List Loc) (g : JFrame) : Prop := W p l e (headSpec wsX12_strength ({ frames := 0, cells := 0, slots := 0, locals := 0 })).room s m ([.int xp0] : List Value).toArray below meth c H locs 0 0 (MQ below (hq_p (fun v => ∃ r : Int32, v = some (.int r) ∧ (iv r 0 3 ∧ (r = 0 ∨ (xp0 = 11 ∨ xp0 = 12 ∨ xp0 = 13)) ∧ (r = 99 ∨ (¬ r = 0 ∨ ¬ (xp0 = 11 ∨ xp0 = 12 ∨ xp0 = 13)))))) ([.int xp0] : List Value).toArray s 0 0 (fun _ => False)) g
set_option maxHeartbeats 4000000 in
set_option maxRecDepth 100000 in
theorem sX12_strength_x (l : Launch) (D : hp_D) (T : hp_T) (xp0 : Int32)  : Met l yX12_strength wsX12_strength ({ frames := 0, cells := 0, slots := 0, locals := 0 }) (hp_Pc D T [.int xp0] (fun _ => True)) (hq_p (fun v => ∃ r : Int32, v = some (.int r) ∧ (iv r 0 3 ∧ (r = 0 ∨ (xp0 = 11 ∨ xp0 = 12 ∨ xp0 = 13)) ∧ (r = 99 ∨ (¬ r = 0 ∨ ¬ (xp0 = 11 ∨ xp0 = 12 ∨ xp0 = 13)))))) 0 0 (fun _ => False) := by
  refine Met.ofW (cc := cX12_strength) (maxL := 1) (ret := (some .int)) (by decide) rfl ?_
  intro p e s m args below meth c s₁ B hml hv
  obtain ⟨rfl, hok, hG, hB⟩ := hv
  have hx := B.exec
  have hb := B.bytes
  have hr := B.returns
  have hts := atoms_spec (ws := wsX12_strength) B.pre
  have hown : s.vm.findClass RX12 = some m.cls := findClass_of_methodNamed B.named
  have hlocks := B.notSynchronized
  have hK := hG.1
  have hw : hp_w D T s s.heap [] := hp_w.rf hok
  have hl := lv_entry ([.int xp0]) (n := 1) (Nat.le_of_ble_eq_true rfl)
  rw [lg_entry_eq]
  generalize (lg_sl ([.int xp0]) ++ List.replicate (1 - (lg_sl ([.int xp0])).length) Slot.unset).toArray = ls at hl ⊢
  have hl : lv_has ls 1 [(0, .int xp0)] := hl
  show WX12_strength_x p l e s m below meth c D T xp0 s.heap [] (F0 m 0 ls [])
  refine lv_iload_n hx hb dX12_strength_0 rfl (lv_at hl 0 rfl) ?_
  refine lv_bipush (v := 13) hx hb dX12_strength_1 (by decide) ?_
  refine lv_icmp_ne (tgt := 10) hx hb dX12_strength_3 (by decide) (fun c3 => ?_) (fun c3 => ?_)
  · refine lv_iload_n hx hb dX12_strength_10 rfl (lv_at hl 0 rfl) ?_
    refine lv_bipush (v := 12) hx hb dX12_strength_11 (by decide) ?_
    refine lv_icmp_ne (tgt := 20) hx hb dX12_strength_13 (by decide) (fun c13 => ?_) (fun c13 => ?_)
    · refine lv_iload_n hx hb dX12_strength_20 rfl (lv_at hl 0 rfl) ?_
      refine lv_bipush (v := 11) hx hb dX12_strength_21 (by decide) ?_
      refine lv_icmp_ne (tgt := 30) hx hb dX12_strength_23 (by decide) (fun c23 => ?_) (fun c23 => ?_)
      · refine lv_iconst (v := 0) hx hb dX12_strength_30 (by decide) ?_
        exact W.iret (v := 0) hx hb hr (fun t ht hW => ⟨some (.int 0), rfl, ⟨(0 : Int32), rfl, ⟨(show iv 0 0 3 from ⟨by decide, by decide⟩), (Or.inl rfl), (Or.inr (Or.inr (fun h9 => by rcases h9 with h8 | h8 | h8; exact c23 h8; exact c13 h8; exact c3 h8)))⟩⟩, ht⟩) (fun q h => by cases h) dX12_strength_31
      · have r23fp : iv xp0 11 11 := (iv_both (iv_any xp0) (iv_eq (show iv 11 11 11 from ⟨by decide, by decide⟩) c23)).mono (by decide) (by decide)
        refine lv_iconst (v := 3) hx hb dX12_strength_26 (by decide) ?_
        refine lv_goto (tgt := 31) hx hb dX12_strength_27 (by decide) ?_
        exact W.iret (v := 3) hx hb hr (fun t ht hW => ⟨some (.int 3), rfl, ⟨(3 : Int32), rfl, ⟨(show iv 3 0 3 from ⟨by decide, by decide⟩), (Or.inr (Or.inl c23)), (Or.inr (Or.inl (by decide)))⟩⟩, ht⟩) (fun q h => by cases h) dX12_strength_31
    · have r13fp : iv xp0 12 12 := (iv_both (iv_any xp0) (iv_eq (show iv 12 12 12 from ⟨by decide, by decide⟩) c13)).mono (by decide) (by decide)
      refine lv_iconst (v := 2) hx hb dX12_strength_16 (by decide) ?_
      refine lv_goto (tgt := 31) hx hb dX12_strength_17 (by decide) ?_
      exact W.iret (v := 2) hx hb hr (fun t ht hW => ⟨some (.int 2), rfl, ⟨(2 : Int32), rfl, ⟨(show iv 2 0 3 from ⟨by decide, by decide⟩), (Or.inr (Or.inr (Or.inl c13))), (Or.inr (Or.inl (by decide)))⟩⟩, ht⟩) (fun q h => by cases h) dX12_strength_31
  · have r3fp : iv xp0 13 13 := (iv_both (iv_any xp0) (iv_eq (show iv 13 13 13 from ⟨by decide, by decide⟩) c3)).mono (by decide) (by decide)
    refine lv_iconst (v := 1) hx hb dX12_strength_6 (by decide) ?_
    refine lv_goto (tgt := 31) hx hb dX12_strength_7 (by decide) ?_
    exact W.iret (v := 1) hx hb hr (fun t ht hW => ⟨some (.int 1), rfl, ⟨(1 : Int32), rfl, ⟨(show iv 1 0 3 from ⟨by decide, by decide⟩), (Or.inr (Or.inr (Or.inr c3))), (Or.inr (Or.inl (by decide)))⟩⟩, ht⟩) (fun q h => by cases h) dX12_strength_31
abbrev WX12_settles (p : Program) (l : Launch) (e : Env) (s : State) (m : MethodId) (below : List Frame) (meth : Method) (c : Code) (D : hp_D) (T : hp_T) (ap0 : Nat) (xp1 : Int32) (xp100 : Int32) (xp101 : Int32) (A : Nat → Nat) (Tp : Nat → Value) (gS0 : Nat → Int32) (gb : Int) (gk : Nat) (gB : Int) (gO : Nat → Int32) (H : Heap) (locs : List Loc) (g : JFrame) : Prop := W p l e (headSpec wsX12_settles ({ frames := 1, cells := 0, slots := 0, locals := 22 })).room s m ([.ref ap0, .int xp1] : List Value).toArray below meth c H locs 0 0 (MQ below (hq_e D T (fun v st t => v = none ∧ ((∃ y0 : Int32, hp_km D [(12, 13), (12, 16)] st.heap t.heap ∧ hp_on (fun q => q = ap0 ∨ q = A 1 ∨ q = A 2) st.heap t.heap ∧ hp_f D t.heap ap0 12 16 (.int y0) ∧ iv y0 0 400 ∧ (y0.toInt ≤ xp100.toInt) ∧ (cs D t.heap ap0 A xp101 gS0 gb (gk + 1 + nbin gO (y0.toInt).toNat) 0 (gB + (xp100.toInt - y0.toInt))) ∧ (∀ j : Nat, y0.toInt ≤ (j : Int) → (j : Int) < xp100.toInt → ¬ gO j = 91) ∧ (xp1.toInt = 1 → y0.toInt = 0 ∨ gO (y0.toInt - 1).toNat = 91))))) ([.ref ap0, .int xp1] : List Value).toArray s 0 0 (hp_F T)) g
set_option maxHeartbeats 4000000 in
set_option maxRecDepth 100000 in
theorem sX12_settles (l : Launch) (D : hp_D) (T : hp_T) (ap0 : Nat) (xp1 : Int32) (xp100 : Int32) (xp101 : Int32) (A : Nat → Nat) (Gm : moG) (Tp : Nat → Value) (ip0 : isMp T ap0 A Gm Tp) (gS0 : Nat → Int32) (gb : Int) (gk : Nat) (gB : Int) (gO : Nat → Int32) (hov : ovd gO xp100.toInt) (hBd : gB + xp100.toInt ≤ 400) (bp1 : iv xp1 1 3) (bp100 : iv xp100 0 400) (bp101 : iv xp101 0 5) : Met l yX12_settles wsX12_settles ({ frames := 1, cells := 0, slots := 0, locals := 22 }) (hp_Pc D T [.ref ap0, .int xp1] (fun H => hp_f D H ap0 12 16 (.int xp100) ∧ hp_f D H ap0 12 11 (.int xp101) ∧ hp_c D H (A 6) 400 gO ∧ cs D H ap0 A xp101 gS0 gb (gk + 1 + nbin gO (xp100.toInt).toNat) 0 gB)) (hq_e D T (fun v st t => v = none ∧ ((∃ y0 : Int32, hp_km D [(12, 13), (12, 16)] st.heap t.heap ∧ hp_on (fun q => q = ap0 ∨ q = A 1 ∨ q = A 2) st.heap t.heap ∧ hp_f D t.heap ap0 12 16 (.int y0) ∧ iv y0 0 400 ∧ (y0.toInt ≤ xp100.toInt) ∧ (cs D t.heap ap0 A xp101 gS0 gb (gk + 1 + nbin gO (y0.toInt).toNat) 0 (gB + (xp100.toInt - y0.toInt))) ∧ (∀ j : Nat, y0.toInt ≤ (j : Int) → (j : Int) < xp100.toInt → ¬ gO j = 91) ∧ (xp1.toInt = 1 → y0.toInt = 0 ∨ gO (y0.toInt - 1).toNat = 91))))) 0 0 (hp_F T) := by
  obtain ⟨gok, tpok, hp0, hp0tape, hp0sign, hp0len, hp0clause, hp0clauses, hp0read, hp0opn, hp0stack, hp0word, hp0said, hp0was, hp0fitting, hp0sums, hp0sort, hp0sumsBy, hp0oneOf, hp0otherOf, hp0kept, hp0images, hp0acts, hp0iUnd, hp0iFor, hp0iX, hp0made⟩ := id ip0
  have hpx := gok.1
  have gsok := gok.2.2.2.2
  have ggd := gok.2.2.2.1
  refine Met.ofW (cc := cX12_settles) (maxL := 2) (ret := none) (by decide) rfl ?_
  intro p e s m args below meth c s₁ B hml hv
  obtain ⟨rfl, hok, hG, hB⟩ := hv
  have hx := B.exec
  have hb := B.bytes
  have hr := B.returns
  have hts := atoms_spec (ws := wsX12_settles) B.pre
  have hown : s.vm.findClass RX12 = some m.cls := findClass_of_methodNamed B.named
  have hlocks := B.notSynchronized
  have hK := hG.1
  have hw : hp_w D T s s.heap [] := hp_w.rf hok
  have IX12 : ∀ w ∈ wsX120, w ∈ wsX12_settles := by decide +kernel
  have L162 := hts (.fieldLink RX12 162 "PalmCensusModel" "opened" "I") (by decide +kernel)
  have L29 := hts (.fieldLink RX12 29 "PalmCensusModel" "open" "[I") (by decide +kernel)
  have L159 := hts (.fieldLink RX12 159 "PalmCensusModel" "deep" "I") (by decide +kernel)
  have hon : hp_on (fun q => q = ap0 ∨ q = A 1 ∨ q = A 2) s.heap s.heap := fun _ _ => rfl
  have k0 : (0 : Int32).toInt = 0 := (by decide)
  have k1 : (1 : Int32).toInt = 1 := (by decide)
  have k11 : (11 : Int32).toInt = 11 := (by decide)
  have obp100 := iv_o bp100
  have obp101 := iv_o bp101
  have obp1 := iv_o bp1
  have hkm : hp_km D [(12, 13), (12, 16)] s.heap s.heap := fun _ _ _ _ h _ => h
  have hl := lv_entry ([.ref ap0, .int xp1]) (n := 2) (Nat.le_of_ble_eq_true rfl)
  rw [lg_entry_eq]
  generalize (lg_sl ([.ref ap0, .int xp1]) ++ List.replicate (2 - (lg_sl ([.ref ap0, .int xp1])).length) Slot.unset).toArray = ls at hl ⊢
  have hl : lv_has ls 2 [(0, .ref ap0), (1, .int xp1)] := hl
  show WX12_settles p l e s m below meth c D T ap0 xp1 xp100 xp101 A Tp gS0 gb gk gB gO s.heap [] (F0 m 0 ls [])
  have obp100 := iv_o bp100
  have obp101 := iv_o bp101
  have J0 : ∀ (n : Nat) (y0_fp0_16 : Int32), (y0_fp0_16.toInt).toNat < n → iv xp1 1 3 → iv xp101 0 5 → iv y0_fp0_16 0 400 → (y0_fp0_16.toInt ≤ xp100.toInt) → (∀ j : Nat, y0_fp0_16.toInt ≤ (j : Int) → (j : Int) < xp100.toInt → ¬ gO j = 91) → ∀ (H : Heap) (locs : List Loc), hp_w D T s H locs → hp_km D [(12, 13), (12, 16)] s.heap H → hp_on (fun q => q = ap0 ∨ q = A 1 ∨ q = A 2) s.heap H → hp_f D H ap0 12 11 (.int xp101) → hp_f D H ap0 12 16 (.int y0_fp0_16) → hp_c D H (A 6) 400 gO → cs D H ap0 A xp101 gS0 gb (gk + 1 + nbin gO (y0_fp0_16.toInt).toNat) (0) (gB + (xp100.toInt - y0_fp0_16.toInt)) → ∀ (ls : Array Slot), lv_has ls 2 [(0, .ref ap0), (1, .int xp1)] → WX12_settles p l e s m below meth c D T ap0 xp1 xp100 xp101 A Tp gS0 gb gk gB gO H locs (F0 m 0 ls []) := by
    intro n
    induction n with
    | zero => intro y0_fp0_16 hmu0 c0_xp1 c0_xp101 c0_y0_fp0_16 hv0_0 hv0_1 H0 locs0 hw hkm hon f_p0_11 f_p0_16 hcO hcs ls hl; exact absurd hmu0 (Nat.not_lt_zero _)
    | succ n ih0 =>
      intro y0_fp0_16 hmu0 c0_xp1 c0_xp101 c0_y0_fp0_16 hv0_0 hv0_1 H0 locs0 hw hkm hon f_p0_11 f_p0_16 hcO hcs ls hl
      have oc0_xp1 := iv_o c0_xp1
      have oc0_xp101 := iv_o c0_xp101
      have oc0_y0_fp0_16 := iv_o c0_y0_fp0_16
      refine lv_aload_n hx hb dX12_settles_0 rfl (lv_at hl 0 rfl) ?_
      refine hp_getf hx hb hts IX12 hown hK f_p0_16 rfl (by decide) L162 dX12_settles_1 ?_
      refine lv_if_le (tgt := 76) hx hb dX12_settles_4 (by decide) (fun c4 => ?_) (fun c4 => ?_)
      · have oc4 := Int32.le_iff_toInt_le.mp c4
        have r4tp : iv y0_fp0_16 0 0 := (iv_le_l c4 c0_y0_fp0_16 (show iv 0 0 0 from ⟨by decide, by decide⟩)).mono (by decide) (by decide)
        have or4tp := iv_o r4tp
        exact W.vret hx hb hr (fun t ht hW => ⟨none, rfl, ⟨rfl, ⟨y0_fp0_16, by rw [ht]; exact hkm, by rw [ht]; exact hon, by rw [ht]; exact f_p0_16, (r4tp.mono (by decide) (by decide)), (by intros; omega), (by rw [ht]; exact cs.mono hcs (by omega) (by omega)), hv0_1, (fun _ => Or.inl (by omega))⟩⟩, by rw [ht]; exact hw.1, hw.2.F ht⟩) hw.2.2.2 dX12_settles_76
      · have oc4 := Int32.lt_iff_toInt_lt.mp (iv_nle c4)
        have r4fq : iv y0_fp0_16 1 400 := (iv_lt_r (iv_nle c4) (show iv 0 0 0 from ⟨by decide, by decide⟩) c0_y0_fp0_16).mono (by decide) (by decide)
        have or4fq := iv_o r4fq
        refine lv_aload_n hx hb dX12_settles_7 rfl (lv_at hl 0 rfl) ?_
        refine hp_getr hx hb hts IX12 hown hK hw.1 hp0 rfl 15 (by decide) L29 rfl dX12_settles_8 ?_
        refine lv_aload_n hx hb dX12_settles_11 rfl (lv_at hl 0 rfl) ?_
        refine hp_getf hx hb hts IX12 hown hK f_p0_16 rfl (by decide) L162 dX12_settles_12 ?_
        refine lv_iconst (v := 1) hx hb dX12_settles_15 (by decide) ?_
        refine lv_isub hx hb dX12_settles_16 ?_
        refine lv_topi (fun x16 ex16 => ?_)
        have bx16 : iv x16 0 399 := iv_sub r4fq (show iv 1 1 1 from ⟨by decide, by decide⟩) ex16 (by decide)
        have obx16 := iv_o bx16
        have qx16 := iv_sub_eq r4fq (show iv 1 1 1 from ⟨by decide, by decide⟩) ex16 (by decide)
        refine hp_ialdE hx hb hK hw.1 hp0opn (vp_iv bx16 (by decide)) dX12_settles_17 (fun v17 h17 E17 => ?_)
        obtain ⟨x17, rfl⟩ := h17
        have ux17 : x17 = gO x16.toInt.toNat := hp_et.int E17 (hp_c.et hcO (iv_ltn bx16 (by decide)))
        refine hp_callpi (va_runS (As := [.int x17]) (rest := []) ⟨hx, hb, hml, hown, hts⟩ (sX12_strength_x l D T x17) (va_cwS 1 hts gX12_settles_X12_strength rfl rfl rfl (by decide +kernel) ⟨Nat.le_of_ble_eq_true rfl, Nat.le_of_ble_eq_true rfl⟩) (hp_preS hG hw trivial) rfl rfl hl.1 rfl (lv_room (Nat.le_of_ble_eq_true rfl)) dX12_settles_18 ⟨Nat.zero_le _, Nat.zero_le _⟩) (fun x18 bx18 => ?_)
        obtain ⟨bx18, ox18, nx18⟩ := bx18
        have obx18 := iv_o bx18
        refine lv_iload_n hx hb dX12_settles_21 rfl (lv_at hl 1 rfl) ?_
        refine lv_icmp_lt (tgt := 76) hx hb dX12_settles_22 (by decide) (fun c22 => ?_) (fun c22 => ?_)
        · have oc22 := Int32.lt_iff_toInt_lt.mp c22
          have r22tp : iv x18 0 2 := (iv_lt_l c22 bx18 c0_xp1).mono (by decide) (by decide)
          have or22tp := iv_o r22tp
          exact W.vret hx hb hr (fun t ht hW => ⟨none, rfl, ⟨rfl, ⟨y0_fp0_16, by rw [ht]; exact hkm, by rw [ht]; exact hon, by rw [ht]; exact f_p0_16, (r4fq.mono (by decide) (by decide)), (by intros; omega), (by rw [ht]; exact cs.mono hcs (by omega) (by omega)), hv0_1, (fun h9 => Or.inr (by have r0 : x18 = 0 := Int32.toInt_inj.mp (by rw [k0]; omega); rw [show (y0_fp0_16.toInt - 1).toNat = x16.toInt.toNat by omega]; exact st_top ux17 (hov _ (by omega)) ((nx18.resolve_left (by rw [r0]; decide)).resolve_left (fun z => z r0))))⟩⟩, by rw [ht]; exact hw.1, hw.2.F ht⟩) hw.2.2.2 dX12_settles_76
        · have oc22 := Int32.le_iff_toInt_le.mp (iv_nlt c22)
          have r22fq : iv x18 1 3 := (iv_le_r (iv_nlt c22) c0_xp1 bx18).mono (by decide) (by decide)
          have or22fq := iv_o r22fq
          have hv3 := ox18.resolve_left (iv_ne0 r22fq (by decide))
          refine lv_aload_n hx hb dX12_settles_25 rfl (lv_at hl 0 rfl) ?_
          refine lv_dup hx hb dX12_settles_26 rfl ?_
          refine hp_getf hx hb hts IX12 hown hK f_p0_16 rfl (by decide) L162 dX12_settles_27 ?_
          refine lv_iconst (v := 1) hx hb dX12_settles_30 (by decide) ?_
          refine lv_isub hx hb dX12_settles_31 ?_
          refine lv_topi (fun x31 ex31 => ?_)
          have bx31 : iv x31 0 399 := iv_sub r4fq (show iv 1 1 1 from ⟨by decide, by decide⟩) ex31 (by decide)
          have obx31 := iv_o bx31
          have qx31 := iv_sub_eq r4fq (show iv 1 1 1 from ⟨by decide, by decide⟩) ex31 (by decide)
          refine hp_putE hx hb hts IX12 tyX12 tyX12_ok nmX12 hown hK hw hp0 rfl 16 (by decide) L162 rfl rfl ⟨_, rfl, (bx31.mono (by decide) (by decide))⟩ rfl rfl dX12_settles_32 (fun H32 locs32 hw f32n g32 on32 => ?_)
          have hon := hon.trans (hp_on.mono (show hp_on (fun q => q = ap0) _ _ from on32) (fun q h9 => by rcases h9 with rfl; exact Or.inl rfl))
          have hcO := hp_c.kept hcO (on32 _ (fun h9 => hp_ne_ao hp0opn hp0 h9))
          have hcs := cs.put hcs g32 on32 (hp_ne_ao hp0sign hp0) (hp_ne_ao hp0len hp0) (by decide)
          have hkm := hkm.put g32 (by decide)
          have f_p0_11 := g32 _ _ _ _ f_p0_11 (Or.inr ⟨rfl, by decide⟩)
          refine lv_aload_n hx hb dX12_settles_35 rfl (lv_at hl 0 rfl) ?_
          refine lv_aload_n hx hb dX12_settles_36 rfl (lv_at hl 0 rfl) ?_
          refine hp_getr hx hb hts IX12 hown hK hw.1 hp0 rfl 15 (by decide) L29 rfl dX12_settles_37 ?_
          refine lv_aload_n hx hb dX12_settles_40 rfl (lv_at hl 0 rfl) ?_
          refine hp_getf hx hb hts IX12 hown hK f32n rfl (by decide) L162 dX12_settles_41 ?_
          refine hp_ialdE hx hb hK hw.1 hp0opn (vp_iv bx31 (by decide)) dX12_settles_44 (fun v44 h44 E44 => ?_)
          obtain ⟨x44, rfl⟩ := h44
          have ux44 : x44 = gO x31.toInt.toNat := hp_et.int E44 (hp_c.et hcO (iv_ltn bx31 (by decide)))
          have e44 : x44 = x17 := ux44.trans ((congrArg gO (show x31.toInt.toNat = x16.toInt.toNat by omega)).trans ux17.symm)
          have hv44 : x44 = 11 ∨ x44 = 12 ∨ x44 = 13 := by rw [e44]; exact hv3
          have nle := nbin_le gO x31.toInt.toNat
          have hcs : cs D H32 ap0 A xp101 gS0 gb (gk + 1 + nbin gO (x31.toInt.toNat + 1)) (0) (gB + (xp100.toInt - y0_fp0_16.toInt)) := by have h9 := hcs; rw [show (y0_fp0_16.toInt).toNat = x31.toInt.toNat + 1 by omega] at h9; exact h9
          refine lv_iconst (v := 0) hx hb dX12_settles_45 (by decide) ?_
          refine hp_callev (va_runV (As := [.int x44, .int 0]) (rest := []) ⟨hx, hb, hml, hown, hts⟩ (sX12_puts l D T ap0 x44 (0 : Int32) xp101 A Gm Tp ip0 gS0 gb (gk + 1 + nbin gO (x31.toInt.toNat + 1)) (gk + 1 + nbin gO (x31.toInt).toNat) (0) (0) (gB + (xp100.toInt - y0_fp0_16.toInt)) (c_open ux44 hv44) (by omega) (by omega) c0_xp101) (cwV 2 hts gX12_settles_X12_puts rfl rfl rfl (by decide +kernel) ⟨Nat.le_of_ble_eq_true rfl, Nat.le_of_ble_eq_true rfl⟩) (hp_preV hG hw hp0 rfl ⟨f_p0_11, hcs⟩) rfl rfl hl.1 rfl (lv_room (Nat.le_of_ble_eq_true rfl)) dX12_settles_46 ⟨Nat.zero_le _, Nat.zero_le _⟩) hw (fun st46 t46 H46 locs46 eh46 eg46 bx46 hw => ?_)
          obtain ⟨g46, on46, R46_0⟩ := bx46
          rw [eh46, eg46] at g46 on46
          have hcO := hp_c.kept hcO (on46 _ (fun h9 => by rcases h9 with h9 | h9 | h9; (exact hp_ne_ao hp0opn hp0 h9); (exact hp_ne_len hp0opn hp0sign (by decide) h9); (exact hp_ne_len hp0opn hp0len (by decide) h9)))
          have hkm := hkm.call g46 (by decide)
          have hon := hon.trans on46
          have f_p0_11 := g46 _ _ _ _ f_p0_11 (by decide)
          have f_p0_16 := g46 _ _ _ _ f32n (by decide)
          have hcs := R46_0
          rw [eg46] at hcs
          refine lv_aload_n hx hb dX12_settles_49 rfl (lv_at hl 0 rfl) ?_
          refine hp_getr hx hb hts IX12 hown hK hw.1 hp0 rfl 15 (by decide) L29 rfl dX12_settles_50 ?_
          refine lv_aload_n hx hb dX12_settles_53 rfl (lv_at hl 0 rfl) ?_
          refine hp_getf hx hb hts IX12 hown hK f_p0_16 rfl (by decide) L162 dX12_settles_54 ?_
          refine hp_ialdE hx hb hK hw.1 hp0opn (vp_iv bx31 (by decide)) dX12_settles_57 (fun v57 h57 E57 => ?_)
          obtain ⟨x57, rfl⟩ := h57
          refine lv_bipush (v := 11) hx hb dX12_settles_58 (by decide) ?_
          refine lv_icmp_ne (tgt := 0) hx hb dX12_settles_60 (by decide) (fun c60 => ?_) (fun c60 => ?_)
          · have oc60 := iv_neq c60
            exact ih0 x31 (by omega) c0_xp1 c0_xp101 (bx31.mono (by decide) (by decide)) (show x31.toInt ≤ xp100.toInt from by have := (bx31).1; have := (bx31).2; have := (r4fq).1; have := (r4fq).2; have := (c0_xp1).1; have := (c0_xp1).2; have := (r22fq).1; have := (r22fq).2; have := (Int32.lt_iff_toInt_lt.mp (iv_nle c4)); have := (Int32.le_iff_toInt_le.mp (iv_nlt c22)); have : (0 : Int32).toInt = 0 := (by decide); have : (1 : Int32).toInt = 1 := (by decide); have : (11 : Int32).toInt = 11 := (by decide); omega) (show ∀ j : Nat, x31.toInt ≤ (j : Int) → (j : Int) < xp100.toInt → ¬ gO j = 91 from (fun j h8 h9 => by rcases (show y0_fp0_16.toInt ≤ (j : Int) ∨ j = x31.toInt.toNat by omega) with z | z; exact hv0_1 j z h9; (rw [z, ← ux44]; rcases hv44 with y | y | y <;> rw [y] <;> decide))) H46 locs46 hw hkm hon f_p0_11 f_p0_16 hcO (cs.mono hcs (by omega) (by omega)) _ (lv_sub hl [0, 1] rfl)
          · have oc60 := congrArg Int32.toInt c60
            have r60fp : iv x57 11 11 := (iv_both (iv_any x57) (iv_eq (show iv 11 11 11 from ⟨by decide, by decide⟩) c60)).mono (by decide) (by decide)
            have or60fp := iv_o r60fp
            refine lv_aload_n hx hb dX12_settles_63 rfl (lv_at hl 0 rfl) ?_
            refine lv_dup hx hb dX12_settles_64 rfl ?_
            refine hp_getA hx hb hts IX12 hown hK hw.1 hp0 rfl 13 (by decide) L159 rfl dX12_settles_65 (fun x65 fx65 => ?_)
            refine lv_iconst (v := 1) hx hb dX12_settles_68 (by decide) ?_
            refine lv_isub hx hb dX12_settles_69 ?_
            refine lv_topi (fun x69 ex69 => ?_)
            refine hp_putE hx hb hts IX12 tyX12 tyX12_ok nmX12 hown hK hw hp0 rfl 13 (by decide) L159 rfl rfl ⟨_, rfl⟩ rfl rfl dX12_settles_70 (fun H70 locs70 hw f70n g70 on70 => ?_)
            have hon := hon.trans (hp_on.mono (show hp_on (fun q => q = ap0) _ _ from on70) (fun q h9 => by rcases h9 with rfl; exact Or.inl rfl))
            have hcO := hp_c.kept hcO (on70 _ (fun h9 => hp_ne_ao hp0opn hp0 h9))
            have hcs := cs.put hcs g70 on70 (hp_ne_ao hp0sign hp0) (hp_ne_ao hp0len hp0) (by decide)
            have hkm := hkm.put g70 (by decide)
            have f_p0_11 := g70 _ _ _ _ f_p0_11 (Or.inr ⟨rfl, by decide⟩)
            have f_p0_16 := g70 _ _ _ _ f_p0_16 (Or.inr ⟨rfl, by decide⟩)
            refine lv_goto (tgt := 0) hx hb dX12_settles_73 (by decide) ?_
            exact ih0 x31 (by omega) c0_xp1 c0_xp101 (bx31.mono (by decide) (by decide)) (show x31.toInt ≤ xp100.toInt from by have := (bx31).1; have := (bx31).2; have := (r4fq).1; have := (r4fq).2; have := (c0_xp1).1; have := (c0_xp1).2; have := (r22fq).1; have := (r22fq).2; have := (Int32.lt_iff_toInt_lt.mp (iv_nle c4)); have := (Int32.le_iff_toInt_le.mp (iv_nlt c22)); have : (0 : Int32).toInt = 0 := (by decide); have : (1 : Int32).toInt = 1 := (by decide); omega) (show ∀ j : Nat, x31.toInt ≤ (j : Int) → (j : Int) < xp100.toInt → ¬ gO j = 91 from (fun j h8 h9 => by rcases (show y0_fp0_16.toInt ≤ (j : Int) ∨ j = x31.toInt.toNat by omega) with z | z; exact hv0_1 j z h9; (rw [z, ← ux44]; rcases hv44 with y | y | y <;> rw [y] <;> decide))) H70 locs70 hw hkm hon f_p0_11 f_p0_16 hcO (cs.mono hcs (by omega) (by omega)) _ (lv_sub hl [0, 1] rfl)
  exact J0 _ xp100 (Nat.lt_succ_self _) bp1 bp101 bp100 (show xp100.toInt ≤ xp100.toInt from by have := (bp100).1; have := (bp100).2; omega) (show ∀ j : Nat, xp100.toInt ≤ (j : Int) → (j : Int) < xp100.toInt → ¬ gO j = 91 from (fun j h8 h9 => absurd h9 (by omega))) s.heap [] hw hkm hon hB.2.1 hB.1 hB.2.2.1 (cs.mono hB.2.2.2 (by omega) (by omega)) _ (lv_sub hl [0, 1] rfl)
abbrev WX12_isInside (p : Program) (l : Launch) (e : Env) (s : State) (m : MethodId) (below : List Frame) (meth : Method) (c : Code) (D : hp_D) (T : hp_T) (ap0 : Nat) (xp100 : Int32) (A : Nat → Nat) (Tp : Nat → Value) (gO : Nat → Int32) (H : Heap) (locs : List Loc) (g : JFrame) : Prop := W p l e (headSpec wsX12_isInside ({ frames := 0, cells := 0, slots := 0, locals := 0 })).room s m ([.ref ap0] : List Value).toArray below meth c H locs 0 0 (MQ below (hq_p (fun v => ∃ r : Int32, v = some (.int r) ∧ (iv r 0 1 ∧ (¬ r = 0 → ∃ j : Nat, (j : Int) < xp100.toInt ∧ gO j = 91) ∧ (r = 0 → ∀ j : Nat, (j : Int) < xp100.toInt → ¬ gO j = 91)))) ([.ref ap0] : List Value).toArray s 0 0 (fun _ => False)) g
set_option maxHeartbeats 4000000 in
set_option maxRecDepth 100000 in
theorem sX12_isInside (l : Launch) (D : hp_D) (T : hp_T) (ap0 : Nat) (xp100 : Int32) (A : Nat → Nat) (Gm : moG) (Tp : Nat → Value) (ip0 : isMp T ap0 A Gm Tp) (gO : Nat → Int32) (bp100 : iv xp100 0 400) : Met l yX12_isInside wsX12_isInside ({ frames := 0, cells := 0, slots := 0, locals := 0 }) (hp_Pc D T [.ref ap0] (fun H => hp_f D H ap0 12 16 (.int xp100) ∧ hp_c D H (A 6) 400 gO)) (hq_p (fun v => ∃ r : Int32, v = some (.int r) ∧ (iv r 0 1 ∧ (¬ r = 0 → ∃ j : Nat, (j : Int) < xp100.toInt ∧ gO j = 91) ∧ (r = 0 → ∀ j : Nat, (j : Int) < xp100.toInt → ¬ gO j = 91)))) 0 0 (fun _ => False) := by
  obtain ⟨gok, tpok, hp0, hp0tape, hp0sign, hp0len, hp0clause, hp0clauses, hp0read, hp0opn, hp0stack, hp0word, hp0said, hp0was, hp0fitting, hp0sums, hp0sort, hp0sumsBy, hp0oneOf, hp0otherOf, hp0kept, hp0images, hp0acts, hp0iUnd, hp0iFor, hp0iX, hp0made⟩ := id ip0
  have hpx := gok.1
  have gsok := gok.2.2.2.2
  have ggd := gok.2.2.2.1
  refine Met.ofW (cc := cX12_isInside) (maxL := 2) (ret := (some .boolean)) (by decide) rfl ?_
  intro p e s m args below meth c s₁ B hml hv
  obtain ⟨rfl, hok, hG, hB⟩ := hv
  have hx := B.exec
  have hb := B.bytes
  have hr := B.returns
  have hts := atoms_spec (ws := wsX12_isInside) B.pre
  have hown : s.vm.findClass RX12 = some m.cls := findClass_of_methodNamed B.named
  have hlocks := B.notSynchronized
  have hK := hG.1
  have hw : hp_w D T s s.heap [] := hp_w.rf hok
  have IX12 : ∀ w ∈ wsX120, w ∈ wsX12_isInside := by decide +kernel
  have L162 := hts (.fieldLink RX12 162 "PalmCensusModel" "opened" "I") (by decide +kernel)
  have L29 := hts (.fieldLink RX12 29 "PalmCensusModel" "open" "[I") (by decide +kernel)
  have k0 : (0 : Int32).toInt = 0 := (by decide)
  have k1 : (1 : Int32).toInt = 1 := (by decide)
  have k91 : (91 : Int32).toInt = 91 := (by decide)
  have obp100 := iv_o bp100
  have hl := lv_entry ([.ref ap0]) (n := 2) (Nat.le_of_ble_eq_true rfl)
  rw [lg_entry_eq]
  generalize (lg_sl ([.ref ap0]) ++ List.replicate (2 - (lg_sl ([.ref ap0])).length) Slot.unset).toArray = ls at hl ⊢
  have hl : lv_has ls 2 [(0, .ref ap0)] := hl
  show WX12_isInside p l e s m below meth c D T ap0 xp100 A Tp gO s.heap [] (F0 m 0 ls [])
  have obp100 := iv_o bp100
  refine lv_iconst (v := 0) hx hb dX12_isInside_0 (by decide) ?_
  refine lv_istore_n (lv' := [(1, .int 0), (0, .ref ap0)]) hx hb dX12_isInside_1 rfl hl (by decide) rfl (fun ls hl => ?_)
  have J2 : ∀ (n : Nat) (y2_l1 : Int32), (400 - y2_l1.toInt).toNat < n → iv y2_l1 0 400 → iv xp100 0 400 → (∀ j : Nat, (j : Int) < y2_l1.toInt → ¬ gO j = 91) → ∀ (ls : Array Slot), lv_has ls 2 [(0, .ref ap0), (1, .int y2_l1)] → WX12_isInside p l e s m below meth c D T ap0 xp100 A Tp gO s.heap [] (F0 m 2 ls []) := by
    intro n
    induction n with
    | zero => intro y2_l1 hmu2 c2_y2_l1 c2_xp100 hv2_0 ls hl; exact absurd hmu2 (Nat.not_lt_zero _)
    | succ n ih2 =>
      intro y2_l1 hmu2 c2_y2_l1 c2_xp100 hv2_0 ls hl
      have oc2_y2_l1 := iv_o c2_y2_l1
      have oc2_xp100 := iv_o c2_xp100
      refine lv_iload_n hx hb dX12_isInside_2 rfl (lv_at hl 1 rfl) ?_
      refine lv_aload_n hx hb dX12_isInside_3 rfl (lv_at hl 0 rfl) ?_
      refine hp_getf hx hb hts IX12 hown hK hB.1 rfl (by decide) L162 dX12_isInside_4 ?_
      refine lv_icmp_ge (tgt := 29) hx hb dX12_isInside_7 (by decide) (fun c7 => ?_) (fun c7 => ?_)
      · have oc7 := Int32.le_iff_toInt_le.mp c7
        refine lv_iconst (v := 0) hx hb dX12_isInside_29 (by decide) ?_
        exact W.zret (v := 0) hx hb hr (iv_nz (show iv 0 0 1 from ⟨by decide, by decide⟩)) (fun t ht hW => ⟨some (.int 0), rfl, ⟨(0 : Int32), rfl, ⟨(show iv 0 0 1 from ⟨by decide, by decide⟩), (fun h9 => absurd rfl h9), (fun _ j h9 => hv2_0 j (by omega))⟩⟩, ht⟩) (fun q h => by cases h) dX12_isInside_30
      · have oc7 := Int32.lt_iff_toInt_lt.mp (iv_nle c7)
        have r7fp : iv y2_l1 0 399 := (iv_lt_l (iv_nle c7) c2_y2_l1 c2_xp100).mono (by decide) (by decide)
        have or7fp := iv_o r7fp
        have r7fq : iv xp100 1 400 := (iv_lt_r (iv_nle c7) c2_y2_l1 c2_xp100).mono (by decide) (by decide)
        have or7fq := iv_o r7fq
        refine lv_aload_n hx hb dX12_isInside_10 rfl (lv_at hl 0 rfl) ?_
        refine hp_getr hx hb hts IX12 hown hK hw.1 hp0 rfl 15 (by decide) L29 rfl dX12_isInside_11 ?_
        refine lv_iload_n hx hb dX12_isInside_14 rfl (lv_at hl 1 rfl) ?_
        refine hp_ialdE hx hb hK hw.1 hp0opn (vp_iv r7fp (by decide)) dX12_isInside_15 (fun v15 h15 E15 => ?_)
        obtain ⟨x15, rfl⟩ := h15
        have ux15 : x15 = gO y2_l1.toInt.toNat := hp_et.int E15 (hp_c.et hB.2 (iv_ltn r7fp (by decide)))
        refine lv_bipush (v := 91) hx hb dX12_isInside_16 (by decide) ?_
        refine lv_icmp_ne (tgt := 23) hx hb dX12_isInside_18 (by decide) (fun c18 => ?_) (fun c18 => ?_)
        · have oc18 := iv_neq c18
          obtain ⟨x23, ex23⟩ : ∃ y : Int32, y = y2_l1 + 1 := ⟨_, rfl⟩
          have bx23 : iv x23 1 400 := iv_add r7fp (show iv 1 1 1 from ⟨by decide, by decide⟩) ex23 (by decide)
          have qx23 := iv_add_eq r7fp (show iv 1 1 1 from ⟨by decide, by decide⟩) ex23 (by decide)
          have obx23 := iv_o bx23
          refine lv_iinc (v := x23) (lv' := [(1, .int x23), (0, .ref ap0)]) hx hb dX12_isInside_23 hl (k := 1) rfl (by rw [ex23]; rfl) (by decide) rfl (fun ls hl => ?_)
          refine lv_goto (tgt := 2) hx hb dX12_isInside_26 (by decide) ?_
          exact ih2 x23 (mu_up 1 hmu2 (qx23) (by decide) (show iv x23 0 400 from (bx23.mono (by decide) (by decide))).2) (bx23.mono (by decide) (by decide)) (r7fq.mono (by decide) (by decide)) (show ∀ j : Nat, (j : Int) < x23.toInt → ¬ gO j = 91 from (fun j h9 => by rcases (show (j : Int) < y2_l1.toInt ∨ j = y2_l1.toInt.toNat by omega) with z | z; exact hv2_0 j z; (rw [z, ← ux15]; exact c18))) _ (lv_sub hl [1, 0] rfl)
        · have oc18 := congrArg Int32.toInt c18
          have r18fp : iv x15 91 91 := (iv_both (iv_any x15) (iv_eq (show iv 91 91 91 from ⟨by decide, by decide⟩) c18)).mono (by decide) (by decide)
          have or18fp := iv_o r18fp
          refine lv_iconst (v := 1) hx hb dX12_isInside_21 (by decide) ?_
          exact W.zret (v := 1) hx hb hr (iv_nz (show iv 1 0 1 from ⟨by decide, by decide⟩)) (fun t ht hW => ⟨some (.int 1), rfl, ⟨(1 : Int32), rfl, ⟨(show iv 1 0 1 from ⟨by decide, by decide⟩), (fun _ => ⟨y2_l1.toInt.toNat, by omega, by rw [← ux15]; exact c18⟩), (fun h9 => absurd h9 (by decide))⟩⟩, ht⟩) (fun q h => by cases h) dX12_isInside_22
  exact J2 _ (0 : Int32) (Nat.lt_succ_self _) (show iv 0 0 400 from ⟨by decide, by decide⟩) bp100 (show ∀ j : Nat, (j : Int) < 0 → ¬ gO j = 91 from (fun j h9 => absurd h9 (by omega))) _ (lv_sub hl [1, 0] rfl)
abbrev WX12_opens (p : Program) (l : Launch) (e : Env) (s : State) (m : MethodId) (below : List Frame) (meth : Method) (c : Code) (D : hp_D) (T : hp_T) (ap0 : Nat) (xp1 : Int32) (xp100 : Int32) (A : Nat → Nat) (Tp : Nat → Value) (gO : Nat → Int32) (H : Heap) (locs : List Loc) (g : JFrame) : Prop := W p l e (headSpec wsX12_opens ({ frames := 1, cells := 0, slots := 0, locals := 22 })).room s m ([.ref ap0, .int xp1] : List Value).toArray below meth c H locs 0 0 (MQ below (hq_e D T (fun v st t => ∃ r : Int32, v = some (.int r) ∧ ((∃ y0 : Int32, hp_km D [(12, 9), (12, 13), (12, 16)] st.heap t.heap ∧ hp_on (fun q => q = ap0 ∨ q = A 6) st.heap t.heap ∧ hp_f D t.heap ap0 12 16 (.int y0) ∧ iv r 0 1 ∧ iv y0 0 400 ∧ (¬ r.toInt = 0 → y0.toInt = xp100.toInt + 1 ∧ hp_c D t.heap (A 6) 400 (fun j => if j = xp100.toNatClampNeg then xp1 else gO j)))))) ([.ref ap0, .int xp1] : List Value).toArray s 0 0 (hp_F T)) g
set_option maxHeartbeats 4000000 in
set_option maxRecDepth 100000 in
theorem sX12_opens (l : Launch) (D : hp_D) (T : hp_T) (ap0 : Nat) (xp1 : Int32) (xp100 : Int32) (A : Nat → Nat) (Gm : moG) (Tp : Nat → Value) (ip0 : isMp T ap0 A Gm Tp) (gO : Nat → Int32) (bp100 : iv xp100 0 399) : Met l yX12_opens wsX12_opens ({ frames := 1, cells := 0, slots := 0, locals := 22 }) (hp_Pc D T [.ref ap0, .int xp1] (fun H => hp_f D H ap0 12 16 (.int xp100) ∧ hp_c D H (A 6) 400 gO)) (hq_e D T (fun v st t => ∃ r : Int32, v = some (.int r) ∧ ((∃ y0 : Int32, hp_km D [(12, 9), (12, 13), (12, 16)] st.heap t.heap ∧ hp_on (fun q => q = ap0 ∨ q = A 6) st.heap t.heap ∧ hp_f D t.heap ap0 12 16 (.int y0) ∧ iv r 0 1 ∧ iv y0 0 400 ∧ (¬ r.toInt = 0 → y0.toInt = xp100.toInt + 1 ∧ hp_c D t.heap (A 6) 400 (fun j => if j = xp100.toNatClampNeg then xp1 else gO j)))))) 0 0 (hp_F T) := by
  obtain ⟨gok, tpok, hp0, hp0tape, hp0sign, hp0len, hp0clause, hp0clauses, hp0read, hp0opn, hp0stack, hp0word, hp0said, hp0was, hp0fitting, hp0sums, hp0sort, hp0sumsBy, hp0oneOf, hp0otherOf, hp0kept, hp0images, hp0acts, hp0iUnd, hp0iFor, hp0iX, hp0made⟩ := id ip0
  have hpx := gok.1
  have gsok := gok.2.2.2.2
  have ggd := gok.2.2.2.1
  refine Met.ofW (cc := cX12_opens) (maxL := 2) (ret := (some .boolean)) (by decide) rfl ?_
  intro p e s m args below meth c s₁ B hml hv
  obtain ⟨rfl, hok, hG, hB⟩ := hv
  have hx := B.exec
  have hb := B.bytes
  have hr := B.returns
  have hts := atoms_spec (ws := wsX12_opens) B.pre
  have hown : s.vm.findClass RX12 = some m.cls := findClass_of_methodNamed B.named
  have hlocks := B.notSynchronized
  have hK := hG.1
  have hw : hp_w D T s s.heap [] := hp_w.rf hok
  have IX12 : ∀ w ∈ wsX120, w ∈ wsX12_opens := by decide +kernel
  have L159 := hts (.fieldLink RX12 159 "PalmCensusModel" "deep" "I") (by decide +kernel)
  have L29 := hts (.fieldLink RX12 29 "PalmCensusModel" "open" "[I") (by decide +kernel)
  have L162 := hts (.fieldLink RX12 162 "PalmCensusModel" "opened" "I") (by decide +kernel)
  have L99 := hts (.fieldLink RX12 99 "PalmCensusModel" "next" "I") (by decide +kernel)
  have hon : hp_on (fun q => q = ap0 ∨ q = A 6) s.heap s.heap := fun _ _ => rfl
  have k0 : (0 : Int32).toInt = 0 := (by decide)
  have k1 : (1 : Int32).toInt = 1 := (by decide)
  have k2 : (2 : Int32).toInt = 2 := (by decide)
  have k10 : (10 : Int32).toInt = 10 := (by decide)
  have obp100 := iv_o bp100
  have hkm : hp_km D [(12, 9), (12, 13), (12, 16)] s.heap s.heap := fun _ _ _ _ h _ => h
  have hl := lv_entry ([.ref ap0, .int xp1]) (n := 2) (Nat.le_of_ble_eq_true rfl)
  rw [lg_entry_eq]
  generalize (lg_sl ([.ref ap0, .int xp1]) ++ List.replicate (2 - (lg_sl ([.ref ap0, .int xp1])).length) Slot.unset).toArray = ls at hl ⊢
  have hl : lv_has ls 2 [(0, .ref ap0), (1, .int xp1)] := hl
  show WX12_opens p l e s m below meth c D T ap0 xp1 xp100 A Tp gO s.heap [] (F0 m 0 ls [])
  have obp100 := iv_o bp100
  refine lv_aload_n hx hb dX12_opens_0 rfl (lv_at hl 0 rfl) ?_
  refine hp_getA hx hb hts IX12 hown hK hw.1 hp0 rfl 13 (by decide) L159 rfl dX12_opens_1 (fun x1 fx1 => ?_)
  refine lv_bipush (v := 10) hx hb dX12_opens_4 (by decide) ?_
  refine lv_icmp_ne (tgt := 19) hx hb dX12_opens_6 (by decide) (fun c6 => ?_) (fun c6 => ?_)
  · have oc6 := iv_neq c6
    refine lv_aload_n hx hb dX12_opens_19 rfl (lv_at hl 0 rfl) ?_
    refine lv_dup hx hb dX12_opens_20 rfl ?_
    refine hp_getf hx hb hts IX12 hown hK fx1 rfl (by decide) L159 dX12_opens_21 ?_
    refine lv_iconst (v := 1) hx hb dX12_opens_24 (by decide) ?_
    refine lv_iadd hx hb dX12_opens_25 ?_
    refine lv_topi (fun x25 ex25 => ?_)
    refine hp_putE hx hb hts IX12 tyX12 tyX12_ok nmX12 hown hK hw hp0 rfl 13 (by decide) L159 rfl rfl ⟨_, rfl⟩ rfl rfl dX12_opens_26 (fun H26 locs26 hw f26n g26 on26 => ?_)
    have hon := hon.trans (hp_on.mono (show hp_on (fun q => q = ap0) _ _ from on26) (fun q h9 => by rcases h9 with rfl; exact Or.inl rfl))
    have hcO := hp_c.kept hB.2 (on26 _ (fun h9 => hp_ne_ao hp0opn hp0 h9))
    have hkm := hkm.put g26 (by decide)
    have f_p0_16 := g26 _ _ _ _ hB.1 (Or.inr ⟨rfl, by decide⟩)
    refine lv_aload_n hx hb dX12_opens_29 rfl (lv_at hl 0 rfl) ?_
    refine hp_getr hx hb hts IX12 hown hK hw.1 hp0 rfl 15 (by decide) L29 rfl dX12_opens_30 ?_
    refine lv_aload_n hx hb dX12_opens_33 rfl (lv_at hl 0 rfl) ?_
    refine hp_getf hx hb hts IX12 hown hK f_p0_16 rfl (by decide) L162 dX12_opens_34 ?_
    refine lv_iload_n hx hb dX12_opens_37 rfl (lv_at hl 1 rfl) ?_
    refine hp_iastC hx hb hK hw hp0opn (vp_iv bp100 (by decide)) ⟨_, rfl⟩ hcO dX12_opens_38 (fun H38 locs38 hw g38 o38 hcO => ?_)
    have hon := hon.trans (hp_on.mono (show hp_on (fun q => q = A 6) _ _ from o38) (fun q h9 => by subst h9; exact Or.inr (rfl)))
    have hkm := hkm.ar g38
    have f_p0_16 := g38 _ _ _ _ f_p0_16
    have f_p0_13 := g38 _ _ _ _ f26n
    refine lv_aload_n hx hb dX12_opens_39 rfl (lv_at hl 0 rfl) ?_
    refine lv_dup hx hb dX12_opens_40 rfl ?_
    refine hp_getf hx hb hts IX12 hown hK f_p0_16 rfl (by decide) L162 dX12_opens_41 ?_
    refine lv_iconst (v := 1) hx hb dX12_opens_44 (by decide) ?_
    refine lv_iadd hx hb dX12_opens_45 ?_
    refine lv_topi (fun x45 ex45 => ?_)
    have bx45 : iv x45 1 400 := iv_add bp100 (show iv 1 1 1 from ⟨by decide, by decide⟩) ex45 (by decide)
    have obx45 := iv_o bx45
    have qx45 := iv_add_eq bp100 (show iv 1 1 1 from ⟨by decide, by decide⟩) ex45 (by decide)
    refine hp_putE hx hb hts IX12 tyX12 tyX12_ok nmX12 hown hK hw hp0 rfl 16 (by decide) L162 rfl rfl ⟨_, rfl, (bx45.mono (by decide) (by decide))⟩ rfl rfl dX12_opens_46 (fun H46 locs46 hw f46n g46 on46 => ?_)
    have hon := hon.trans (hp_on.mono (show hp_on (fun q => q = ap0) _ _ from on46) (fun q h9 => by rcases h9 with rfl; exact Or.inl rfl))
    have hcO := hp_c.kept hcO (on46 _ (fun h9 => hp_ne_ao hp0opn hp0 h9))
    have hkm := hkm.put g46 (by decide)
    have f_p0_13 := g46 _ _ _ _ f_p0_13 (Or.inr ⟨rfl, by decide⟩)
    refine lv_iconst (v := 1) hx hb dX12_opens_49 (by decide) ?_
    exact W.zret (v := 1) hx hb hr (iv_nz (show iv 1 0 1 from ⟨by decide, by decide⟩)) (fun t ht hW => ⟨some (.int 1), rfl, ⟨(1 : Int32), rfl, ⟨x45, by rw [ht]; exact hkm, by rw [ht]; exact hon, by rw [ht]; exact f46n, (show iv 1 0 1 from ⟨by decide, by decide⟩), (bx45.mono (by decide) (by decide)), (fun _ => ⟨by omega, by rw [ht]; exact hcO⟩)⟩⟩, by rw [ht]; exact hw.1, hw.2.F ht⟩) hw.2.2.2 dX12_opens_50
  · have oc6 := congrArg Int32.toInt c6
    have r6fp : iv x1 10 10 := (iv_both (iv_any x1) (iv_eq (show iv 10 10 10 from ⟨by decide, by decide⟩) c6)).mono (by decide) (by decide)
    have or6fp := iv_o r6fp
    refine lv_aload_n hx hb dX12_opens_9 rfl (lv_at hl 0 rfl) ?_
    refine lv_iconst (v := 2) hx hb dX12_opens_10 (by decide) ?_
    refine lv_aload_n hx hb dX12_opens_11 rfl (lv_at hl 0 rfl) ?_
    refine hp_geti hx hb hts IX12 hown hK hw.1 hp0 rfl 8 (by decide) L99 rfl dX12_opens_12 (fun x12 bx12 fx12 => ?_)
    have obx12 := iv_o bx12
    refine hp_callei (va_runV (As := [.int 2, .int x12]) (rest := []) ⟨hx, hb, hml, hown, hts⟩ (sX12_fails l D T ap0 (2 : Int32) x12 A Gm Tp ip0) (cwV 2 hts gX12_opens_X12_fails rfl rfl rfl (by decide +kernel) ⟨Nat.le_of_ble_eq_true rfl, Nat.le_of_ble_eq_true rfl⟩) (hp_preV hG hw hp0 rfl trivial) rfl rfl hl.1 rfl (lv_room (Nat.le_of_ble_eq_true rfl)) dX12_opens_15 ⟨Nat.zero_le _, Nat.zero_le _⟩) hw (fun x15 st15 t15 H15 locs15 eh15 eg15 bx15 hw => ?_)
    obtain ⟨g15, on15, cx15⟩ := bx15
    rw [eh15, eg15] at g15 on15
    have hcO := hp_c.kept hB.2 (on15 _ (fun h9 => hp_ne_ao hp0opn hp0 h9))
    have hkm := hkm.call g15 (by decide)
    have hon := hon.trans (hp_on.mono on15 (fun q h9 => by rcases h9 with rfl; exact Or.inl rfl))
    have f_p0_16 := g15 _ _ _ _ hB.1 (by decide)
    have f_p0_13 := g15 _ _ _ _ fx1 (by decide)
    have ocx15 := iv_o cx15
    exact W.zret (v := x15) hx hb hr (iv_nz (cx15.mono (by decide) (by decide))) (fun t ht hW => ⟨some (.int x15), rfl, ⟨x15, rfl, ⟨xp100, by rw [ht]; exact hkm, by rw [ht]; exact hon, by rw [ht]; exact f_p0_16, (cx15.mono (by decide) (by decide)), (bp100.mono (by decide) (by decide)), (fun h9 => absurd (by omega) h9)⟩⟩, by rw [ht]; exact hw.1, hw.2.F ht⟩) hw.2.2.2 dX12_opens_18
