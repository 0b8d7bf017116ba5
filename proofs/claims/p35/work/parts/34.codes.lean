abbrev WX12_puts (p : Program) (l : Launch) (e : Env) (s : State) (m : MethodId) (below : List Frame) (meth : Method) (c : Code) (D : hp_D) (T : hp_T) (ap0 : Nat) (xp1 : Int32) (xp2 : Int32) (xp100 : Int32) (A : Nat → Nat) (Tp : Nat → Value) (gS0 : Nat → Int32) (gb : Int) (gh : Nat) (gh2 : Nat) (ge : Int) (ge2 : Int) (gB : Int) (H : Heap) (locs : List Loc) (g : JFrame) : Prop := W p l e (headSpec wsX12_puts ({ frames := 0, cells := 0, slots := 0, locals := 0 })).room s m ([.ref ap0, .int xp1, .int xp2] : List Value).toArray below meth c H locs 0 0 (MQ below (hq_e D T (fun v st t => v = none ∧ (hp_km D [] st.heap t.heap ∧ hp_on (fun q => q = ap0 ∨ q = A 1 ∨ q = A 2) st.heap t.heap ∧ (cs D t.heap ap0 A xp100 gS0 gb gh2 ge2 (gB + 1))))) ([.ref ap0, .int xp1, .int xp2] : List Value).toArray s 0 0 (hp_F T)) g
set_option maxHeartbeats 4000000 in
set_option maxRecDepth 100000 in
theorem sX12_puts (l : Launch) (D : hp_D) (T : hp_T) (ap0 : Nat) (xp1 : Int32) (xp2 : Int32) (xp100 : Int32) (A : Nat → Nat) (Gm : moG) (Tp : Nat → Value) (ip0 : isMp T ap0 A Gm Tp) (gS0 : Nat → Int32) (gb : Int) (gh : Nat) (gh2 : Nat) (ge ge2 gB : Int) (hst : c_st (xp1 + 16 * xp2) gh gh2) (he : (gh2 : Int) + ge2 ≤ (gh : Int) + ge) (hBd : gB ≤ 399) (bp100 : iv xp100 0 5) : Met l yX12_puts wsX12_puts ({ frames := 0, cells := 0, slots := 0, locals := 0 }) (hp_Pc D T [.ref ap0, .int xp1, .int xp2] (fun H => hp_f D H ap0 12 11 (.int xp100) ∧ cs D H ap0 A xp100 gS0 gb gh ge gB)) (hq_e D T (fun v st t => v = none ∧ (hp_km D [] st.heap t.heap ∧ hp_on (fun q => q = ap0 ∨ q = A 1 ∨ q = A 2) st.heap t.heap ∧ (cs D t.heap ap0 A xp100 gS0 gb gh2 ge2 (gB + 1))))) 0 0 (hp_F T) := by
  obtain ⟨gok, tpok, hp0, hp0tape, hp0sign, hp0len, hp0clause, hp0clauses, hp0read, hp0opn, hp0stack, hp0word, hp0said, hp0was, hp0fitting, hp0sums, hp0sort, hp0sumsBy, hp0oneOf, hp0otherOf, hp0kept, hp0images, hp0acts, hp0iUnd, hp0iFor, hp0iX, hp0made⟩ := id ip0
  have hpx := gok.1
  have gsok := gok.2.2.2.2
  have ggd := gok.2.2.2.1
  refine Met.ofW (cc := cX12_puts) (maxL := 3) (ret := none) (by decide) rfl ?_
  intro p e s m args below meth c s₁ B hml hv
  obtain ⟨rfl, hok, hG, hB⟩ := hv
  have hx := B.exec
  have hb := B.bytes
  have hr := B.returns
  have hts := atoms_spec (ws := wsX12_puts) B.pre
  have hown : s.vm.findClass RX12 = some m.cls := findClass_of_methodNamed B.named
  have hlocks := B.notSynchronized
  have hK := hG.1
  have hw : hp_w D T s s.heap [] := hp_w.rf hok
  have IX12 : ∀ w ∈ wsX120, w ∈ wsX12_puts := by decide +kernel
  have L13 := hts (.fieldLink RX12 13 "PalmCensusModel" "sign" "[I") (by decide +kernel)
  have L153 := hts (.fieldLink RX12 153 "PalmCensusModel" "text" "I") (by decide +kernel)
  have L17 := hts (.fieldLink RX12 17 "PalmCensusModel" "length" "[I") (by decide +kernel)
  have hon : hp_on (fun q => q = ap0 ∨ q = A 1 ∨ q = A 2) s.heap s.heap := fun _ _ => rfl
  have k0 : (0 : Int32).toInt = 0 := (by decide)
  have k1 : (1 : Int32).toInt = 1 := (by decide)
  have k16 : (16 : Int32).toInt = 16 := (by decide)
  have k400 : (400 : Int32).toInt = 400 := (by decide)
  have obp100 := iv_o bp100
  obtain ⟨S, L, m0, hcS, hcL, hcm, q4, q5, q6, q7, q8, q9, q10, q11⟩ := hB.2
  have hkm : hp_km D [] s.heap s.heap := fun _ _ _ _ h _ => h
  have hl := lv_entry ([.ref ap0, .int xp1, .int xp2]) (n := 3) (Nat.le_of_ble_eq_true rfl)
  rw [lg_entry_eq]
  generalize (lg_sl ([.ref ap0, .int xp1, .int xp2]) ++ List.replicate (3 - (lg_sl ([.ref ap0, .int xp1, .int xp2])).length) Slot.unset).toArray = ls at hl ⊢
  have hl : lv_has ls 3 [(0, .ref ap0), (1, .int xp1), (2, .int xp2)] := hl
  show WX12_puts p l e s m below meth c D T ap0 xp1 xp2 xp100 A Tp gS0 gb gh gh2 ge ge2 gB s.heap [] (F0 m 0 ls [])
  have obp100 := iv_o bp100
  refine lv_aload_n hx hb dX12_puts_0 rfl (lv_at hl 0 rfl) ?_
  refine hp_getr hx hb hts IX12 hown hK hw.1 hp0 rfl 3 (by decide) L13 rfl dX12_puts_1 ?_
  refine lv_sipush (v := 400) hx hb dX12_puts_4 (by decide) ?_
  refine lv_aload_n hx hb dX12_puts_7 rfl (lv_at hl 0 rfl) ?_
  refine hp_getf hx hb hts IX12 hown hK hB.1 rfl (by decide) L153 dX12_puts_8 ?_
  refine lv_imul hx hb dX12_puts_11 ?_
  refine lv_topi (fun x11 ex11 => ?_)
  have bx11 : iv x11 0 2000 := iv_mul (show iv 400 400 400 from ⟨by decide, by decide⟩) bp100 ex11 (by decide)
  have obx11 := iv_o bx11
  refine lv_aload_n hx hb dX12_puts_12 rfl (lv_at hl 0 rfl) ?_
  refine hp_getr hx hb hts IX12 hown hK hw.1 hp0 rfl 4 (by decide) L17 rfl dX12_puts_13 ?_
  refine lv_aload_n hx hb dX12_puts_16 rfl (lv_at hl 0 rfl) ?_
  refine hp_getf hx hb hts IX12 hown hK hB.1 rfl (by decide) L153 dX12_puts_17 ?_
  refine hp_ialdE hx hb hK hw.1 hp0len (vp_iv bp100 (by decide)) dX12_puts_20 (fun v20 h20 E20 => ?_)
  obtain ⟨x20, rfl, bx20⟩ := h20
  have obx20 := iv_o bx20
  have ux20 := hp_et.int E20 hcL
  have wx20 : iv x20 0 399 := by rw [ux20]; exact ⟨by omega, by omega⟩
  have owx20 := iv_o wx20
  refine lv_iadd hx hb dX12_puts_21 ?_
  refine lv_topi (fun x21 ex21 => ?_)
  have bx21 : iv x21 0 2399 := iv_add bx11 wx20 ex21 (by decide)
  have obx21 := iv_o bx21
  have qx21 := iv_add_eq bx11 wx20 ex21 (by decide)
  refine lv_iload_n hx hb dX12_puts_22 rfl (lv_at hl 1 rfl) ?_
  refine lv_bipush (v := 16) hx hb dX12_puts_23 (by decide) ?_
  refine lv_iload_n hx hb dX12_puts_25 rfl (lv_at hl 2 rfl) ?_
  refine lv_imul hx hb dX12_puts_26 ?_
  refine lv_topi (fun x26 ex26 => ?_)
  refine lv_iadd hx hb dX12_puts_27 ?_
  refine lv_topi (fun x27 ex27 => ?_)
  refine hp_iastC hx hb hK hw hp0sign (vp_iv bx21 (by decide)) ⟨_, rfl⟩ hcS dX12_puts_28 (fun H28 locs28 hw g28 o28 hcS => ?_)
  have hon := hon.trans (hp_on.mono (show hp_on (fun q => q = A 1) _ _ from o28) (fun q h9 => by subst h9; exact Or.inr (Or.inl rfl)))
  have hi : x21.toNatClampNeg = 400 * xp100.toInt.toNat + L.toInt.toNat := by rw [iv_rowi (N := 399) (M := 5) (W := 400) (iv_row (N := 399) (M := 5) 400 (by decide) ex11 ex21 bp100 wx20 (by decide) (by decide)) bp100 wx20, ux20]
  have hcL := hp_et.kept hcL (o28 _ (hp_ne_len hp0len hp0sign (by decide)))
  have hcm := g28 _ _ _ _ hcm
  have hkm := hkm.ar g28
  have f_p0_11 := g28 _ _ _ _ hB.1
  refine lv_aload_n hx hb dX12_puts_29 rfl (lv_at hl 0 rfl) ?_
  refine hp_getr hx hb hts IX12 hown hK hw.1 hp0 rfl 4 (by decide) L17 rfl dX12_puts_30 ?_
  refine lv_aload_n hx hb dX12_puts_33 rfl (lv_at hl 0 rfl) ?_
  refine hp_getf hx hb hts IX12 hown hK f_p0_11 rfl (by decide) L153 dX12_puts_34 ?_
  refine lv_dup2_11 hx hb dX12_puts_37 rfl rfl ?_
  refine hp_ialdE hx hb hK hw.1 hp0len (vp_iv bp100 (by decide)) dX12_puts_38 (fun v38 h38 E38 => ?_)
  obtain ⟨x38, rfl, bx38⟩ := h38
  have obx38 := iv_o bx38
  have ux38 := hp_et.int E38 hcL
  have wx38 : iv x38 0 399 := by rw [ux38]; exact ⟨by omega, by omega⟩
  have owx38 := iv_o wx38
  refine lv_iconst (v := 1) hx hb dX12_puts_39 (by decide) ?_
  refine lv_iadd hx hb dX12_puts_40 ?_
  refine lv_topi (fun x40 ex40 => ?_)
  have bx40 : iv x40 1 400 := iv_add wx38 (show iv 1 1 1 from ⟨by decide, by decide⟩) ex40 (by decide)
  have obx40 := iv_o bx40
  have qx40 := iv_add_eq wx38 (show iv 1 1 1 from ⟨by decide, by decide⟩) ex40 (by decide)
  refine hp_iastE hx hb hK hw hp0len (vp_iv bp100 (by decide)) ⟨_, rfl, (bx40.mono (by decide) (by decide))⟩ dX12_puts_41 (fun H41 locs41 hw g41 o41 ge41 E41 => ?_)
  have hon := hon.trans (hp_on.mono (show hp_on (fun q => q = A 2) _ _ from o41) (fun q h9 => by subst h9; exact Or.inr (Or.inr (rfl))))
  have hkm := hkm.ar g41
  have f_p0_11 := g41 _ _ _ _ f_p0_11
  have hcS := hp_c.kept hcS (o41 _ (hp_ne_len hp0sign hp0len (by decide)))
  have hcm := g41 _ _ _ _ hcm
  exact W.vret hx hb hr (fun t ht hW => ⟨none, rfl, ⟨rfl, ⟨by rw [ht]; exact hkm, by rw [ht]; exact hon, (by rw [ht]; exact cs_push (S := S) (L := L) hcS hi E41 (by rw [← ux38]; omega) hcm q4 q5 q6 (by omega) q8 q9 q10 q11 (by rw [ex27, ex26]; exact hst) he)⟩⟩, by rw [ht]; exact hw.1, hw.2.F ht⟩) hw.2.2.2 dX12_puts_42
abbrev WX12_value (p : Program) (l : Launch) (e : Env) (s : State) (m : MethodId) (below : List Frame) (meth : Method) (c : Code) (D : hp_D) (T : hp_T) (ap0 : Nat) (xp100 : Int32) (xp101 : Int32) (xp102 : Int32) (A : Nat → Nat) (Tp : Nat → Value) (gS0 : Nat → Int32) (gb : Int) (gh : Nat) (gB : Int) (H : Heap) (locs : List Loc) (g : JFrame) : Prop := W p l e (headSpec wsX12_value ({ frames := 3, cells := 0, slots := 0, locals := 66 })).room s m ([.ref ap0] : List Value).toArray below meth c H locs 0 0 (MQ below (hq_e D T (fun v st t => ∃ r : Int32, v = some (.int r) ∧ ((∃ y0 : Int32, hp_km D [(12, 8), (12, 9), (12, 10), (12, 12)] st.heap t.heap ∧ hp_on (fun q => q = ap0 ∨ q = A 1 ∨ q = A 2) st.heap t.heap ∧ hp_f D t.heap ap0 12 8 (.int y0) ∧ iv r 0 1 ∧ iv y0 0 400 ∧ (xp100.toInt ≤ y0.toInt) ∧ (¬ r.toInt = 0 → xp100.toInt + 1 ≤ y0.toInt) ∧ (¬ r.toInt = 0 → cs D t.heap ap0 A xp102 gS0 gb (gh + 1) 0 (gB + (y0.toInt - xp100.toInt))) ∧ (r.toInt = 0 → csw D t.heap A xp102 gS0 gb))))) ([.ref ap0] : List Value).toArray s 0 0 (hp_F T)) g
set_option maxHeartbeats 4000000 in
set_option maxRecDepth 100000 in
theorem sX12_value (l : Launch) (D : hp_D) (T : hp_T) (ap0 : Nat) (xp100 : Int32) (xp101 : Int32) (xp102 : Int32) (A : Nat → Nat) (Gm : moG) (Tp : Nat → Value) (ip0 : isMp T ap0 A Gm Tp) (gS0 : Nat → Int32) (gb : Int) (gh : Nat) (gB : Int) (hBd : gB ≤ xp100.toInt) (bp100 : iv xp100 0 400) (bp101 : iv xp101 0 400) (bp102 : iv xp102 0 5) : Met l yX12_value wsX12_value ({ frames := 3, cells := 0, slots := 0, locals := 66 }) (hp_Pc D T [.ref ap0] (fun H => hp_f D H ap0 12 8 (.int xp100) ∧ hp_f D H ap0 12 1 (.int xp101) ∧ hp_f D H ap0 12 11 (.int xp102) ∧ cs D H ap0 A xp102 gS0 gb gh 0 gB)) (hq_e D T (fun v st t => ∃ r : Int32, v = some (.int r) ∧ ((∃ y0 : Int32, hp_km D [(12, 8), (12, 9), (12, 10), (12, 12)] st.heap t.heap ∧ hp_on (fun q => q = ap0 ∨ q = A 1 ∨ q = A 2) st.heap t.heap ∧ hp_f D t.heap ap0 12 8 (.int y0) ∧ iv r 0 1 ∧ iv y0 0 400 ∧ (xp100.toInt ≤ y0.toInt) ∧ (¬ r.toInt = 0 → xp100.toInt + 1 ≤ y0.toInt) ∧ (¬ r.toInt = 0 → cs D t.heap ap0 A xp102 gS0 gb (gh + 1) 0 (gB + (y0.toInt - xp100.toInt))) ∧ (r.toInt = 0 → csw D t.heap A xp102 gS0 gb))))) 0 0 (hp_F T) := by
  obtain ⟨gok, tpok, hp0, hp0tape, hp0sign, hp0len, hp0clause, hp0clauses, hp0read, hp0opn, hp0stack, hp0word, hp0said, hp0was, hp0fitting, hp0sums, hp0sort, hp0sumsBy, hp0oneOf, hp0otherOf, hp0kept, hp0images, hp0acts, hp0iUnd, hp0iFor, hp0iX, hp0made⟩ := id ip0
  have hpx := gok.1
  have gsok := gok.2.2.2.2
  have ggd := gok.2.2.2.1
  refine Met.ofW (cc := cX12_value) (maxL := 3) (ret := (some .boolean)) (by decide) rfl ?_
  intro p e s m args below meth c s₁ B hml hv
  obtain ⟨rfl, hok, hG, hB⟩ := hv
  have hx := B.exec
  have hb := B.bytes
  have hr := B.returns
  have hts := atoms_spec (ws := wsX12_value) B.pre
  have hown : s.vm.findClass RX12 = some m.cls := findClass_of_methodNamed B.named
  have hlocks := B.notSynchronized
  have hK := hG.1
  have hw : hp_w D T s s.heap [] := hp_w.rf hok
  have IX12 : ∀ w ∈ wsX120, w ∈ wsX12_value := by decide +kernel
  have L99 := hts (.fieldLink RX12 99 "PalmCensusModel" "next" "I") (by decide +kernel)
  have K173 := hts (.constant RX12 173 99999) (by decide +kernel)
  have L124 := hts (.fieldLink RX12 124 "PalmCensusModel" "number" "I") (by decide +kernel)
  have hon : hp_on (fun q => q = ap0 ∨ q = A 1 ∨ q = A 2) s.heap s.heap := fun _ _ => rfl
  have k0 : (0 : Int32).toInt = 0 := (by decide)
  have k1 : (1 : Int32).toInt = 1 := (by decide)
  have k99999 : (99999 : Int32).toInt = 99999 := (by decide)
  have obp100 := iv_o bp100
  have obp101 := iv_o bp101
  have obp102 := iv_o bp102
  have hkm : hp_km D [(12, 8), (12, 9), (12, 10), (12, 12)] s.heap s.heap := fun _ _ _ _ h _ => h
  have hl := lv_entry ([.ref ap0]) (n := 3) (Nat.le_of_ble_eq_true rfl)
  rw [lg_entry_eq]
  generalize (lg_sl ([.ref ap0]) ++ List.replicate (3 - (lg_sl ([.ref ap0])).length) Slot.unset).toArray = ls at hl ⊢
  have hl : lv_has ls 3 [(0, .ref ap0)] := hl
  show WX12_value p l e s m below meth c D T ap0 xp100 xp101 xp102 A Tp gS0 gb gh gB s.heap [] (F0 m 0 ls [])
  have obp100 := iv_o bp100
  have obp101 := iv_o bp101
  have obp102 := iv_o bp102
  refine lv_aload_n hx hb dX12_value_0 rfl (lv_at hl 0 rfl) ?_
  refine hp_callei (va_runV (As := []) (rest := []) ⟨hx, hb, hml, hown, hts⟩ (sX12_see l D T ap0 xp100 xp101 A Gm Tp ip0 bp100 bp101) (cwV 0 hts gX12_value_X12_see rfl rfl rfl (by decide +kernel) ⟨Nat.le_of_ble_eq_true rfl, Nat.le_of_ble_eq_true rfl⟩) (hp_preV hG hw hp0 rfl ⟨hB.1, hB.2.1⟩) rfl rfl hl.1 rfl (lv_room (Nat.le_of_ble_eq_true rfl)) dX12_value_1 ⟨Nat.zero_le _, Nat.zero_le _⟩) hw (fun x1 st1 t1 H1 locs1 eh1 eg1 bx1 hw => ?_)
  obtain ⟨x1p0, g1, on1, fx1p0, cx1, bx1p0, R1_0, R1_1⟩ := bx1
  rw [eh1, eg1] at g1 on1
  rw [eg1] at fx1p0
  have hkm := hkm.call g1 (by decide)
  have hon := hon.trans (hp_on.mono on1 (fun q h9 => by rcases h9 with rfl; exact Or.inl rfl))
  have f_p0_1 := g1 _ _ _ _ hB.2.1 (by decide)
  have f_p0_11 := g1 _ _ _ _ hB.2.2.1 (by decide)
  have obx1p0 := iv_o bx1p0
  have ocx1 := iv_o cx1
  have hcs := cs.on (T := T) hB.2.2.2 on1 g1 (fun h9 => hp_ne_ao hp0sign hp0 h9) (fun h9 => hp_ne_ao hp0len hp0 h9) (by decide)
  refine lv_pop hx hb dX12_value_4 rfl ?_
  refine lv_aload_n hx hb dX12_value_5 rfl (lv_at hl 0 rfl) ?_
  refine hp_getf hx hb hts IX12 hown hK fx1p0 rfl (by decide) L99 dX12_value_6 ?_
  refine lv_istore_n (lv' := [(1, .int x1p0), (0, .ref ap0)]) hx hb dX12_value_9 rfl hl (by decide) rfl (fun ls hl => ?_)
  refine lv_aload_n hx hb dX12_value_10 rfl (lv_at hl 1 rfl) ?_
  refine lv_aload_n hx hb dX12_value_11 rfl (lv_at hl 1 rfl) ?_
  refine hp_getf hx hb hts IX12 hown hK fx1p0 rfl (by decide) L99 dX12_value_12 ?_
  refine hp_callpi (va_runV (As := [.int x1p0]) (rest := []) ⟨hx, hb, hml, hown, hts⟩ (sX12_isDigit l D T ap0 x1p0 xp101 A Gm Tp ip0 (bx1p0.mono (by decide) (by decide)) bp101) (cwV 1 hts gX12_value_X12_isDigit rfl rfl rfl (by decide +kernel) ⟨Nat.le_of_ble_eq_true rfl, Nat.le_of_ble_eq_true rfl⟩) (hp_preV hG hw hp0 rfl f_p0_1) rfl rfl hl.1 rfl (lv_room (Nat.le_of_ble_eq_true rfl)) dX12_value_15 ⟨Nat.zero_le _, Nat.zero_le _⟩) (fun x15 bx15 => ?_)
  obtain ⟨cx15, R15_0, R15_1, R15_2⟩ := bx15
  have ocx15 := iv_o cx15
  refine lv_if_eq (tgt := 52) hx hb dX12_value_18 (by decide) (fun c18 => ?_) (fun c18 => ?_)
  · have oc18 := congrArg Int32.toInt c18
    have r18tp : iv x15 0 0 := (iv_both cx15 (iv_eq (show iv 0 0 0 from ⟨by decide, by decide⟩) c18)).mono (by decide) (by decide)
    have or18tp := iv_o r18tp
    refine lv_aload_n hx hb dX12_value_52 rfl (lv_at hl 1 rfl) ?_
    refine hp_callei (va_runV (As := []) (rest := []) ⟨hx, hb, hml, hown, hts⟩ (sX12_wordHere l D T ap0 x1p0 xp101 A Gm Tp ip0 bx1p0 bp101) (cwV 0 hts gX12_value_X12_wordHere rfl rfl rfl (by decide +kernel) ⟨Nat.le_of_ble_eq_true rfl, Nat.le_of_ble_eq_true rfl⟩) (hp_preV hG hw hp0 rfl ⟨fx1p0, f_p0_1⟩) rfl rfl hl.1 rfl (lv_room (Nat.le_of_ble_eq_true rfl)) dX12_value_53 ⟨Nat.zero_le _, Nat.zero_le _⟩) hw (fun x53 st53 t53 H53 locs53 eh53 eg53 bx53 hw => ?_)
    obtain ⟨x53p0, g53, on53, fx53p0, cx53, bx53p0, R53_0, R53_1⟩ := bx53
    rw [eh53, eg53] at g53 on53
    rw [eg53] at fx53p0
    have hkm := hkm.call g53 (by decide)
    have hon := hon.trans (hp_on.mono on53 (fun q h9 => by rcases h9 with rfl; exact Or.inl rfl))
    have f_p0_1 := g53 _ _ _ _ f_p0_1 (by decide)
    have f_p0_11 := g53 _ _ _ _ f_p0_11 (by decide)
    have obx53p0 := iv_o bx53p0
    have ocx53 := iv_o cx53
    have hcs := cs.on (T := T) hcs on53 g53 (fun h9 => hp_ne_ao hp0sign hp0 h9) (fun h9 => hp_ne_ao hp0len hp0 h9) (by decide)
    refine lv_istore_n (lv' := [(2, .int x53), (1, .int x1p0), (0, .ref ap0)]) hx hb dX12_value_56 rfl hl (by decide) rfl (fun ls hl => ?_)
    refine lv_iload_n hx hb dX12_value_57 rfl (lv_at hl 0 rfl) ?_
    refine lv_if_ge (tgt := 68) hx hb dX12_value_58 (by decide) (fun c58 => ?_) (fun c58 => ?_)
    · have oc58 := Int32.le_iff_toInt_le.mp c58
      have r58tq : iv x53 0 10 := (iv_le_r c58 (show iv 0 0 0 from ⟨by decide, by decide⟩) cx53).mono (by decide) (by decide)
      have or58tq := iv_o r58tq
      refine lv_aload_n hx hb dX12_value_68 rfl (lv_at hl 2 rfl) ?_
      refine lv_iload_n hx hb dX12_value_69 rfl (lv_at hl 1 rfl) ?_
      obtain ⟨m70, fm70, bm70⟩ := cs.field hcs (by omega)
      have obm70 := iv_o bm70
      refine hp_callei (va_runV (As := [.int x1p0]) (rest := []) ⟨hx, hb, hml, hown, hts⟩ (sX12_makes l D T ap0 x1p0 m70 A Gm Tp ip0 bm70) (cwV 1 hts gX12_value_X12_makes rfl rfl rfl (by decide +kernel) ⟨Nat.le_of_ble_eq_true rfl, Nat.le_of_ble_eq_true rfl⟩) (hp_preV hG hw hp0 rfl fm70) rfl rfl hl.1 rfl (lv_room (Nat.le_of_ble_eq_true rfl)) dX12_value_70 ⟨Nat.zero_le _, Nat.zero_le _⟩) hw (fun x70 st70 t70 H70 locs70 eh70 eg70 bx70 hw => ?_)
      obtain ⟨x70p0, g70, on70, fx70p0, cx70, bx70p0, R70_0, R70_1⟩ := bx70
      rw [eh70, eg70] at g70 on70
      rw [eg70] at fx70p0
      have hkm := hkm.call g70 (by decide)
      have hon := hon.trans (hp_on.mono on70 (fun q h9 => by rcases h9 with rfl; exact Or.inl rfl))
      have f_p0_1 := g70 _ _ _ _ f_p0_1 (by decide)
      have f_p0_11 := g70 _ _ _ _ f_p0_11 (by decide)
      have f_p0_8 := g70 _ _ _ _ fx53p0 (by decide)
      have obx70p0 := iv_o bx70p0
      have ocx70 := iv_o cx70
      refine lv_if_ne (tgt := 78) hx hb dX12_value_73 (by decide) (fun c73 => ?_) (fun c73 => ?_)
      · have oc73 := iv_neq c73
        have r73tp : iv x70 1 1 := (iv_ne_lo c73 cx70 rfl).mono (by decide) (by decide)
        have or73tp := iv_o r73tp
        have hcs := cs.made hcs fm70 on70 (fun h9 => hp_ne_ao hp0sign hp0 h9) (fun h9 => hp_ne_ao hp0len hp0 h9) fx70p0 (R70_0 (by omega)) (by omega)
        refine lv_aload_n hx hb dX12_value_78 rfl (lv_at hl 2 rfl) ?_
        refine hp_callev (va_runV (As := []) (rest := []) ⟨hx, hb, hml, hown, hts⟩ (sX12_passWord l D T ap0 x53p0 xp101 A Gm Tp ip0 bx53p0 bp101) (cwV 0 hts gX12_value_X12_passWord rfl rfl rfl (by decide +kernel) ⟨Nat.le_of_ble_eq_true rfl, Nat.le_of_ble_eq_true rfl⟩) (hp_preV hG hw hp0 rfl ⟨f_p0_8, f_p0_1⟩) rfl rfl hl.1 rfl (lv_room (Nat.le_of_ble_eq_true rfl)) dX12_value_79 ⟨Nat.zero_le _, Nat.zero_le _⟩) hw (fun st79 t79 H79 locs79 eh79 eg79 bx79 hw => ?_)
        obtain ⟨x79p0, g79, on79, fx79p0, bx79p0, R79_0, R79_1⟩ := bx79
        rw [eh79, eg79] at g79 on79
        rw [eg79] at fx79p0
        have hkm := hkm.call g79 (by decide)
        have hon := hon.trans (hp_on.mono on79 (fun q h9 => by rcases h9 with rfl; exact Or.inl rfl))
        have f_p0_1 := g79 _ _ _ _ f_p0_1 (by decide)
        have f_p0_11 := g79 _ _ _ _ f_p0_11 (by decide)
        have f_p0_12 := g79 _ _ _ _ fx70p0 (by decide)
        have obx79p0 := iv_o bx79p0
        have hcs := cs.on (T := T) hcs on79 g79 (fun h9 => hp_ne_ao hp0sign hp0 h9) (fun h9 => hp_ne_ao hp0len hp0 h9) (by decide)
        have pg82 := R79_1 (R53_1 (by omega))
        refine lv_aload_n hx hb dX12_value_82 rfl (lv_at hl 2 rfl) ?_
        refine lv_iconst (v := 1) hx hb dX12_value_83 (by decide) ?_
        refine lv_iload_n hx hb dX12_value_84 rfl (lv_at hl 0 rfl) ?_
        refine hp_callev (va_runV (As := [.int 1, .int x53]) (rest := []) ⟨hx, hb, hml, hown, hts⟩ (sX12_puts l D T ap0 (1 : Int32) x53 xp102 A Gm Tp ip0 gS0 gb (gh) (gh + 1) (0 + 1) (0) (gB) (c_word r58tq (by have := cs.le60 hcs; omega)) (by omega) (by omega) bp102) (cwV 2 hts gX12_value_X12_puts rfl rfl rfl (by decide +kernel) ⟨Nat.le_of_ble_eq_true rfl, Nat.le_of_ble_eq_true rfl⟩) (hp_preV hG hw hp0 rfl ⟨f_p0_11, hcs⟩) rfl rfl hl.1 rfl (lv_room (Nat.le_of_ble_eq_true rfl)) dX12_value_85 ⟨Nat.zero_le _, Nat.zero_le _⟩) hw (fun st85 t85 H85 locs85 eh85 eg85 bx85 hw => ?_)
        obtain ⟨g85, on85, R85_0⟩ := bx85
        rw [eh85, eg85] at g85 on85
        have hkm := hkm.call g85 (by decide)
        have hon := hon.trans on85
        have f_p0_1 := g85 _ _ _ _ f_p0_1 (by decide)
        have f_p0_11 := g85 _ _ _ _ f_p0_11 (by decide)
        have f_p0_12 := g85 _ _ _ _ f_p0_12 (by decide)
        have f_p0_8 := g85 _ _ _ _ fx79p0 (by decide)
        have hcs := R85_0
        rw [eg85] at hcs
        refine lv_iconst (v := 1) hx hb dX12_value_88 (by decide) ?_
        exact W.zret (v := 1) hx hb hr (iv_nz (show iv 1 0 1 from ⟨by decide, by decide⟩)) (fun t ht hW => ⟨some (.int 1), rfl, ⟨(1 : Int32), rfl, ⟨x79p0, by rw [ht]; exact hkm, by rw [ht]; exact hon, by rw [ht]; exact f_p0_8, (show iv 1 0 1 from ⟨by decide, by decide⟩), bx79p0, (by intros; omega), (fun _ => by omega), (fun _ => by rw [ht]; exact cs.mono hcs (by omega) (by omega)), (fun h9 => absurd h9 (by omega))⟩⟩, by rw [ht]; exact hw.1, hw.2.F ht⟩) hw.2.2.2 dX12_value_89
      · have oc73 := congrArg Int32.toInt c73
        have r73fp : iv x70 0 0 := (iv_both cx70 (iv_eq (show iv 0 0 0 from ⟨by decide, by decide⟩) c73)).mono (by decide) (by decide)
        have or73fp := iv_o r73fp
        have hcw := csw.on (cs.w hcs) on70 (fun h9 => hp_ne_ao hp0sign hp0 h9)
        refine lv_iconst (v := 0) hx hb dX12_value_76 (by decide) ?_
        exact W.zret (v := 0) hx hb hr (iv_nz (show iv 0 0 1 from ⟨by decide, by decide⟩)) (fun t ht hW => ⟨some (.int 0), rfl, ⟨(0 : Int32), rfl, ⟨x53p0, by rw [ht]; exact hkm, by rw [ht]; exact hon, by rw [ht]; exact f_p0_8, (show iv 0 0 1 from ⟨by decide, by decide⟩), bx53p0, (by intros; omega), (fun h9 => absurd k0 h9), (fun h9 => absurd k0 h9), (fun _ => by rw [ht]; exact hcw)⟩⟩, by rw [ht]; exact hw.1, hw.2.F ht⟩) hw.2.2.2 dX12_value_77
    · have oc58 := Int32.lt_iff_toInt_lt.mp (iv_nle c58)
      have r58fp : iv x53 (-1) (-1) := (iv_lt_l (iv_nle c58) cx53 (show iv 0 0 0 from ⟨by decide, by decide⟩)).mono (by decide) (by decide)
      have or58fp := iv_o r58fp
      refine lv_aload_n hx hb dX12_value_61 rfl (lv_at hl 2 rfl) ?_
      refine lv_iconst (v := 0) hx hb dX12_value_62 (by decide) ?_
      refine lv_iload_n hx hb dX12_value_63 rfl (lv_at hl 1 rfl) ?_
      refine hp_callei (va_runV (As := [.int 0, .int x1p0]) (rest := []) ⟨hx, hb, hml, hown, hts⟩ (sX12_fails l D T ap0 (0 : Int32) x1p0 A Gm Tp ip0) (cwV 2 hts gX12_value_X12_fails rfl rfl rfl (by decide +kernel) ⟨Nat.le_of_ble_eq_true rfl, Nat.le_of_ble_eq_true rfl⟩) (hp_preV hG hw hp0 rfl trivial) rfl rfl hl.1 rfl (lv_room (Nat.le_of_ble_eq_true rfl)) dX12_value_64 ⟨Nat.zero_le _, Nat.zero_le _⟩) hw (fun x64 st64 t64 H64 locs64 eh64 eg64 bx64 hw => ?_)
      obtain ⟨g64, on64, cx64⟩ := bx64
      rw [eh64, eg64] at g64 on64
      have hkm := hkm.call g64 (by decide)
      have hon := hon.trans (hp_on.mono on64 (fun q h9 => by rcases h9 with rfl; exact Or.inl rfl))
      have f_p0_1 := g64 _ _ _ _ f_p0_1 (by decide)
      have f_p0_11 := g64 _ _ _ _ f_p0_11 (by decide)
      have f_p0_8 := g64 _ _ _ _ fx53p0 (by decide)
      have ocx64 := iv_o cx64
      have hcs := cs.on (T := T) hcs on64 g64 (fun h9 => hp_ne_ao hp0sign hp0 h9) (fun h9 => hp_ne_ao hp0len hp0 h9) (by decide)
      exact W.zret (v := x64) hx hb hr (iv_nz (cx64.mono (by decide) (by decide))) (fun t ht hW => ⟨some (.int x64), rfl, ⟨x64, rfl, ⟨x53p0, by rw [ht]; exact hkm, by rw [ht]; exact hon, by rw [ht]; exact f_p0_8, (cx64.mono (by decide) (by decide)), bx53p0, (by intros; omega), (fun h9 => absurd (by omega) h9), (fun h9 => absurd (by omega) h9), (fun _ => by rw [ht]; exact cs.w hcs)⟩⟩, by rw [ht]; exact hw.1, hw.2.F ht⟩) hw.2.2.2 dX12_value_67
  · have oc18 := iv_neq c18
    have r18fp : iv x15 1 1 := (iv_ne_lo c18 cx15 rfl).mono (by decide) (by decide)
    have or18fp := iv_o r18fp
    have r18fpz : iv x1p0 0 399 := (iv_both bx1p0 (R15_2 (iv_ne0 r18fp (by decide)))).mono (by decide) (by decide)
    have or18fpz := iv_o r18fpz
    refine lv_aload_n hx hb dX12_value_21 rfl (lv_at hl 1 rfl) ?_
    refine lv_iconst (v := 0) hx hb dX12_value_22 (by decide) ?_
    refine lv_ldc (v := 99999) hx hb hown K173 dX12_value_23 ?_
    refine hp_callei (va_runV (As := [.int 0, .int 99999]) (rest := []) ⟨hx, hb, hml, hown, hts⟩ (sX12_numberHere l D T ap0 (0 : Int32) (99999 : Int32) x1p0 xp101 A Gm Tp ip0 (r18fpz.mono (by decide) (by decide)) bp101) (cwV 2 hts gX12_value_X12_numberHere rfl rfl rfl (by decide +kernel) ⟨Nat.le_of_ble_eq_true rfl, Nat.le_of_ble_eq_true rfl⟩) (hp_preV hG hw hp0 rfl ⟨fx1p0, f_p0_1⟩) rfl rfl hl.1 rfl (lv_room (Nat.le_of_ble_eq_true rfl)) dX12_value_25 ⟨Nat.zero_le _, Nat.zero_le _⟩) hw (fun x25 st25 t25 H25 locs25 eh25 eg25 bx25 hw => ?_)
    obtain ⟨x25p0, x25p1, g25, on25, fx25p0, fx25p1, cx25, bx25p0, bx25p1, R25_0, R25_1, R25_2⟩ := bx25
    rw [eh25, eg25] at g25 on25
    rw [eg25] at fx25p0
    rw [eg25] at fx25p1
    have hkm := hkm.call g25 (by decide)
    have hon := hon.trans (hp_on.mono on25 (fun q h9 => by rcases h9 with rfl; exact Or.inl rfl))
    have f_p0_1 := g25 _ _ _ _ f_p0_1 (by decide)
    have f_p0_11 := g25 _ _ _ _ f_p0_11 (by decide)
    have obx25p0 := iv_o bx25p0
    have obx25p1 := iv_o bx25p1
    have ocx25 := iv_o cx25
    have I25 : ¬ x25 = 0 → iv x25p1 0 99999 := fun h9 => by have h8 := iv_neq h9; have h7 := R25_2 (by omega); exact ⟨by omega, by omega⟩
    have hcs := cs.on (T := T) hcs on25 g25 (fun h9 => hp_ne_ao hp0sign hp0 h9) (fun h9 => hp_ne_ao hp0len hp0 h9) (by decide)
    refine lv_if_eq (tgt := 39) hx hb dX12_value_28 (by decide) (fun c28 => ?_) (fun c28 => ?_)
    · have oc28 := congrArg Int32.toInt c28
      have r28tp : iv x25 0 0 := (iv_both cx25 (iv_eq (show iv 0 0 0 from ⟨by decide, by decide⟩) c28)).mono (by decide) (by decide)
      have or28tp := iv_o r28tp
      refine lv_iconst (v := 0) hx hb dX12_value_39 (by decide) ?_
      exact W.zret (v := 0) hx hb hr (iv_nz (show iv 0 0 1 from ⟨by decide, by decide⟩)) (fun t ht hW => ⟨some (.int 0), rfl, ⟨(0 : Int32), rfl, ⟨x25p0, by rw [ht]; exact hkm, by rw [ht]; exact hon, by rw [ht]; exact fx25p0, (show iv 0 0 1 from ⟨by decide, by decide⟩), bx25p0, (by intros; omega), (fun h9 => absurd k0 h9), (fun h9 => absurd k0 h9), (fun _ => by rw [ht]; exact cs.w hcs)⟩⟩, by rw [ht]; exact hw.1, hw.2.F ht⟩) hw.2.2.2 dX12_value_40
    · have oc28 := iv_neq c28
      have r28fp : iv x25 1 1 := (iv_ne_lo c28 cx25 rfl).mono (by decide) (by decide)
      have or28fp := iv_o r28fp
      have r28fpz : iv x25p1 0 99999 := (iv_both bx25p1 (I25 (iv_ne0 r28fp (by decide)))).mono (by decide) (by decide)
      have or28fpz := iv_o r28fpz
      refine lv_aload_n hx hb dX12_value_31 rfl (lv_at hl 1 rfl) ?_
      refine lv_iload_n hx hb dX12_value_32 rfl (lv_at hl 0 rfl) ?_
      obtain ⟨m33, fm33, bm33⟩ := cs.field hcs (by omega)
      have obm33 := iv_o bm33
      refine hp_callei (va_runV (As := [.int x1p0]) (rest := []) ⟨hx, hb, hml, hown, hts⟩ (sX12_makes l D T ap0 x1p0 m33 A Gm Tp ip0 bm33) (cwV 1 hts gX12_value_X12_makes rfl rfl rfl (by decide +kernel) ⟨Nat.le_of_ble_eq_true rfl, Nat.le_of_ble_eq_true rfl⟩) (hp_preV hG hw hp0 rfl fm33) rfl rfl hl.1 rfl (lv_room (Nat.le_of_ble_eq_true rfl)) dX12_value_33 ⟨Nat.zero_le _, Nat.zero_le _⟩) hw (fun x33 st33 t33 H33 locs33 eh33 eg33 bx33 hw => ?_)
      obtain ⟨x33p0, g33, on33, fx33p0, cx33, bx33p0, R33_0, R33_1⟩ := bx33
      rw [eh33, eg33] at g33 on33
      rw [eg33] at fx33p0
      have hkm := hkm.call g33 (by decide)
      have hon := hon.trans (hp_on.mono on33 (fun q h9 => by rcases h9 with rfl; exact Or.inl rfl))
      have f_p0_1 := g33 _ _ _ _ f_p0_1 (by decide)
      have f_p0_11 := g33 _ _ _ _ f_p0_11 (by decide)
      have f_p0_8 := g33 _ _ _ _ fx25p0 (by decide)
      have f_p0_10 := g33 _ _ _ _ fx25p1 (by decide)
      have obx33p0 := iv_o bx33p0
      have ocx33 := iv_o cx33
      refine lv_if_ne (tgt := 41) hx hb dX12_value_36 (by decide) (fun c36 => ?_) (fun c36 => ?_)
      · have oc36 := iv_neq c36
        have r36tp : iv x33 1 1 := (iv_ne_lo c36 cx33 rfl).mono (by decide) (by decide)
        have or36tp := iv_o r36tp
        have hcs := cs.made hcs fm33 on33 (fun h9 => hp_ne_ao hp0sign hp0 h9) (fun h9 => hp_ne_ao hp0len hp0 h9) fx33p0 (R33_0 (by omega)) (by omega)
        refine lv_aload_n hx hb dX12_value_41 rfl (lv_at hl 1 rfl) ?_
        refine lv_iconst (v := 0) hx hb dX12_value_42 (by decide) ?_
        refine lv_aload_n hx hb dX12_value_43 rfl (lv_at hl 1 rfl) ?_
        refine hp_getf hx hb hts IX12 hown hK f_p0_10 rfl (by decide) L124 dX12_value_44 ?_
        refine hp_callev (va_runV (As := [.int 0, .int x25p1]) (rest := []) ⟨hx, hb, hml, hown, hts⟩ (sX12_puts l D T ap0 (0 : Int32) x25p1 xp102 A Gm Tp ip0 gS0 gb (gh) (gh + 1) (0 + 1) (0) (gB) (c_num _ (by have := cs.le60 hcs; omega)) (by omega) (by omega) bp102) (cwV 2 hts gX12_value_X12_puts rfl rfl rfl (by decide +kernel) ⟨Nat.le_of_ble_eq_true rfl, Nat.le_of_ble_eq_true rfl⟩) (hp_preV hG hw hp0 rfl ⟨f_p0_11, hcs⟩) rfl rfl hl.1 rfl (lv_room (Nat.le_of_ble_eq_true rfl)) dX12_value_47 ⟨Nat.zero_le _, Nat.zero_le _⟩) hw (fun st47 t47 H47 locs47 eh47 eg47 bx47 hw => ?_)
        obtain ⟨g47, on47, R47_0⟩ := bx47
        rw [eh47, eg47] at g47 on47
        have hkm := hkm.call g47 (by decide)
        have hon := hon.trans on47
        have f_p0_1 := g47 _ _ _ _ f_p0_1 (by decide)
        have f_p0_11 := g47 _ _ _ _ f_p0_11 (by decide)
        have f_p0_8 := g47 _ _ _ _ f_p0_8 (by decide)
        have f_p0_10 := g47 _ _ _ _ f_p0_10 (by decide)
        have f_p0_12 := g47 _ _ _ _ fx33p0 (by decide)
        have hcs := R47_0
        rw [eg47] at hcs
        refine lv_iconst (v := 1) hx hb dX12_value_50 (by decide) ?_
        exact W.zret (v := 1) hx hb hr (iv_nz (show iv 1 0 1 from ⟨by decide, by decide⟩)) (fun t ht hW => ⟨some (.int 1), rfl, ⟨(1 : Int32), rfl, ⟨x25p0, by rw [ht]; exact hkm, by rw [ht]; exact hon, by rw [ht]; exact f_p0_8, (show iv 1 0 1 from ⟨by decide, by decide⟩), bx25p0, (by intros; omega), (fun _ => by omega), (fun _ => by rw [ht]; exact cs.mono hcs (by omega) (by omega)), (fun h9 => absurd h9 (by omega))⟩⟩, by rw [ht]; exact hw.1, hw.2.F ht⟩) hw.2.2.2 dX12_value_51
      · have oc36 := congrArg Int32.toInt c36
        have r36fp : iv x33 0 0 := (iv_both cx33 (iv_eq (show iv 0 0 0 from ⟨by decide, by decide⟩) c36)).mono (by decide) (by decide)
        have or36fp := iv_o r36fp
        have hcw := csw.on (cs.w hcs) on33 (fun h9 => hp_ne_ao hp0sign hp0 h9)
        refine lv_iconst (v := 0) hx hb dX12_value_39 (by decide) ?_
        exact W.zret (v := 0) hx hb hr (iv_nz (show iv 0 0 1 from ⟨by decide, by decide⟩)) (fun t ht hW => ⟨some (.int 0), rfl, ⟨(0 : Int32), rfl, ⟨x25p0, by rw [ht]; exact hkm, by rw [ht]; exact hon, by rw [ht]; exact f_p0_8, (show iv 0 0 1 from ⟨by decide, by decide⟩), bx25p0, (by intros; omega), (fun h9 => absurd k0 h9), (fun h9 => absurd k0 h9), (fun _ => by rw [ht]; exact hcw)⟩⟩, by rw [ht]; exact hw.1, hw.2.F ht⟩) hw.2.2.2 dX12_value_40
abbrev WX12_term (p : Program) (l : Launch) (e : Env) (s : State) (m : MethodId) (below : List Frame) (meth : Method) (c : Code) (D : hp_D) (T : hp_T) (ap0 : Nat) (xp100 : Int32) (xp101 : Int32) (xp102 : Int32) (A : Nat → Nat) (Tp : Nat → Value) (gS0 : Nat → Int32) (gb : Int) (gh : Nat) (gB : Int) (H : Heap) (locs : List Loc) (g : JFrame) : Prop := W p l e (headSpec wsX12_term ({ frames := 4, cells := 0, slots := 0, locals := 88 })).room s m ([.ref ap0] : List Value).toArray below meth c H locs 0 0 (MQ below (hq_e D T (fun v st t => ∃ r : Int32, v = some (.int r) ∧ ((∃ y0 : Int32, hp_km D [(12, 8), (12, 9), (12, 10), (12, 12)] st.heap t.heap ∧ hp_on (fun q => q = ap0 ∨ q = A 1 ∨ q = A 2) st.heap t.heap ∧ hp_f D t.heap ap0 12 8 (.int y0) ∧ iv r 0 1 ∧ iv y0 0 400 ∧ (xp100.toInt ≤ y0.toInt) ∧ (¬ r.toInt = 0 → xp100.toInt + 1 ≤ y0.toInt) ∧ (¬ r.toInt = 0 → cs D t.heap ap0 A xp102 gS0 gb (gh + 1) 0 (gB + (y0.toInt - xp100.toInt))) ∧ (r.toInt = 0 → csw D t.heap A xp102 gS0 gb))))) ([.ref ap0] : List Value).toArray s 0 0 (hp_F T)) g
set_option maxHeartbeats 4000000 in
set_option maxRecDepth 100000 in
theorem sX12_term (l : Launch) (D : hp_D) (T : hp_T) (ap0 : Nat) (xp100 : Int32) (xp101 : Int32) (xp102 : Int32) (A : Nat → Nat) (Gm : moG) (Tp : Nat → Value) (ip0 : isMp T ap0 A Gm Tp) (gS0 : Nat → Int32) (gb : Int) (gh : Nat) (gB : Int) (hBd : gB ≤ xp100.toInt) (bp100 : iv xp100 0 400) (bp101 : iv xp101 0 400) (bp102 : iv xp102 0 5) : Met l yX12_term wsX12_term ({ frames := 4, cells := 0, slots := 0, locals := 88 }) (hp_Pc D T [.ref ap0] (fun H => hp_f D H ap0 12 8 (.int xp100) ∧ hp_f D H ap0 12 1 (.int xp101) ∧ hp_f D H ap0 12 11 (.int xp102) ∧ cs D H ap0 A xp102 gS0 gb gh 0 gB)) (hq_e D T (fun v st t => ∃ r : Int32, v = some (.int r) ∧ ((∃ y0 : Int32, hp_km D [(12, 8), (12, 9), (12, 10), (12, 12)] st.heap t.heap ∧ hp_on (fun q => q = ap0 ∨ q = A 1 ∨ q = A 2) st.heap t.heap ∧ hp_f D t.heap ap0 12 8 (.int y0) ∧ iv r 0 1 ∧ iv y0 0 400 ∧ (xp100.toInt ≤ y0.toInt) ∧ (¬ r.toInt = 0 → xp100.toInt + 1 ≤ y0.toInt) ∧ (¬ r.toInt = 0 → cs D t.heap ap0 A xp102 gS0 gb (gh + 1) 0 (gB + (y0.toInt - xp100.toInt))) ∧ (r.toInt = 0 → csw D t.heap A xp102 gS0 gb))))) 0 0 (hp_F T) := by
  obtain ⟨gok, tpok, hp0, hp0tape, hp0sign, hp0len, hp0clause, hp0clauses, hp0read, hp0opn, hp0stack, hp0word, hp0said, hp0was, hp0fitting, hp0sums, hp0sort, hp0sumsBy, hp0oneOf, hp0otherOf, hp0kept, hp0images, hp0acts, hp0iUnd, hp0iFor, hp0iX, hp0made⟩ := id ip0
  have hpx := gok.1
  have gsok := gok.2.2.2.2
  have ggd := gok.2.2.2.1
  refine Met.ofW (cc := cX12_term) (maxL := 2) (ret := (some .boolean)) (by decide) rfl ?_
  intro p e s m args below meth c s₁ B hml hv
  obtain ⟨rfl, hok, hG, hB⟩ := hv
  have hx := B.exec
  have hb := B.bytes
  have hr := B.returns
  have hts := atoms_spec (ws := wsX12_term) B.pre
  have hown : s.vm.findClass RX12 = some m.cls := findClass_of_methodNamed B.named
  have hlocks := B.notSynchronized
  have hK := hG.1
  have hw : hp_w D T s s.heap [] := hp_w.rf hok
  have IX12 : ∀ w ∈ wsX120, w ∈ wsX12_term := by decide +kernel
  have L7 := hts (.fieldLink RX12 7 "PalmCensusModel" "tape" "[B") (by decide +kernel)
  have L99 := hts (.fieldLink RX12 99 "PalmCensusModel" "next" "I") (by decide +kernel)
  have hon : hp_on (fun q => q = ap0 ∨ q = A 1 ∨ q = A 2) s.heap s.heap := fun _ _ => rfl
  have k0 : (0 : Int32).toInt = 0 := (by decide)
  have k1 : (1 : Int32).toInt = 1 := (by decide)
  have k4 : (4 : Int32).toInt = 4 := (by decide)
  have k5 : (5 : Int32).toInt = 5 := (by decide)
  have k14 : (14 : Int32).toInt = 14 := (by decide)
  have k37 : (37 : Int32).toInt = 37 := (by decide)
  have k42 : (42 : Int32).toInt = 42 := (by decide)
  have k47 : (47 : Int32).toInt = 47 := (by decide)
  have obp100 := iv_o bp100
  have obp101 := iv_o bp101
  have obp102 := iv_o bp102
  have hkm : hp_km D [(12, 8), (12, 9), (12, 10), (12, 12)] s.heap s.heap := fun _ _ _ _ h _ => h
  have hl := lv_entry ([.ref ap0]) (n := 2) (Nat.le_of_ble_eq_true rfl)
  rw [lg_entry_eq]
  generalize (lg_sl ([.ref ap0]) ++ List.replicate (2 - (lg_sl ([.ref ap0])).length) Slot.unset).toArray = ls at hl ⊢
  have hl : lv_has ls 2 [(0, .ref ap0)] := hl
  show WX12_term p l e s m below meth c D T ap0 xp100 xp101 xp102 A Tp gS0 gb gh gB s.heap [] (F0 m 0 ls [])
  have obp100 := iv_o bp100
  have obp101 := iv_o bp101
  have obp102 := iv_o bp102
  refine lv_aload_n hx hb dX12_term_0 rfl (lv_at hl 0 rfl) ?_
  refine hp_callei (va_runV (As := []) (rest := []) ⟨hx, hb, hml, hown, hts⟩ (sX12_value l D T ap0 xp100 xp101 xp102 A Gm Tp ip0 gS0 gb (gh) (gB) (by omega) bp100 bp101 bp102) (cwV 0 hts gX12_term_X12_value rfl rfl rfl (by decide +kernel) ⟨Nat.le_of_ble_eq_true rfl, Nat.le_of_ble_eq_true rfl⟩) (hp_preV hG hw hp0 rfl ⟨hB.1, hB.2.1, hB.2.2.1, hB.2.2.2⟩) rfl rfl hl.1 rfl (lv_room (Nat.le_of_ble_eq_true rfl)) dX12_term_1 ⟨Nat.zero_le _, Nat.zero_le _⟩) hw (fun x1 st1 t1 H1 locs1 eh1 eg1 bx1 hw => ?_)
  obtain ⟨x1p0, g1, on1, fx1p0, cx1, bx1p0, R1_0, R1_1, R1_2, R1_3⟩ := bx1
  rw [eh1, eg1] at g1 on1
  rw [eg1] at fx1p0
  have hkm := hkm.call g1 (by decide)
  have hon := hon.trans on1
  have f_p0_1 := g1 _ _ _ _ hB.2.1 (by decide)
  have f_p0_11 := g1 _ _ _ _ hB.2.2.1 (by decide)
  have obx1p0 := iv_o bx1p0
  have ocx1 := iv_o cx1
  have J9 : ∀ (n : Nat) (y9_fp0_8 : Int32), (400 - y9_fp0_8.toInt).toNat < n → iv xp101 0 400 → iv xp102 0 5 → iv y9_fp0_8 0 400 → (xp100.toInt + 1 ≤ y9_fp0_8.toInt) → ∀ (H : Heap) (locs : List Loc), hp_w D T s H locs → hp_km D [(12, 8), (12, 9), (12, 10), (12, 12)] s.heap H → hp_on (fun q => q = ap0 ∨ q = A 1 ∨ q = A 2) s.heap H → hp_f D H ap0 12 1 (.int xp101) → hp_f D H ap0 12 11 (.int xp102) → hp_f D H ap0 12 8 (.int y9_fp0_8) → cs D H ap0 A xp102 gS0 gb (gh + 1) (0) (gB + (y9_fp0_8.toInt - xp100.toInt)) → ∀ (ls : Array Slot), lv_has ls 2 [(0, .ref ap0)] → WX12_term p l e s m below meth c D T ap0 xp100 xp101 xp102 A Tp gS0 gb gh gB H locs (F0 m 9 ls []) := by
    intro n
    induction n with
    | zero => intro y9_fp0_8 hmu9 c9_xp101 c9_xp102 c9_y9_fp0_8 hv9_0 H9 locs9 hw hkm hon f_p0_1 f_p0_11 f_p0_8 hcs ls hl; exact absurd hmu9 (Nat.not_lt_zero _)
    | succ n ih9 =>
      intro y9_fp0_8 hmu9 c9_xp101 c9_xp102 c9_y9_fp0_8 hv9_0 H9 locs9 hw hkm hon f_p0_1 f_p0_11 f_p0_8 hcs ls hl
      have oc9_xp101 := iv_o c9_xp101
      have oc9_xp102 := iv_o c9_xp102
      have oc9_y9_fp0_8 := iv_o c9_y9_fp0_8
      refine lv_aload_n hx hb dX12_term_9 rfl (lv_at hl 0 rfl) ?_
      refine hp_callei (va_runV (As := []) (rest := []) ⟨hx, hb, hml, hown, hts⟩ (sX12_see l D T ap0 y9_fp0_8 xp101 A Gm Tp ip0 c9_y9_fp0_8 c9_xp101) (cwV 0 hts gX12_term_X12_see rfl rfl rfl (by decide +kernel) ⟨Nat.le_of_ble_eq_true rfl, Nat.le_of_ble_eq_true rfl⟩) (hp_preV hG hw hp0 rfl ⟨f_p0_8, f_p0_1⟩) rfl rfl hl.1 rfl (lv_room (Nat.le_of_ble_eq_true rfl)) dX12_term_10 ⟨Nat.zero_le _, Nat.zero_le _⟩) hw (fun x10 st10 t10 H10 locs10 eh10 eg10 bx10 hw => ?_)
      obtain ⟨x10p0, g10, on10, fx10p0, cx10, bx10p0, R10_0, R10_1⟩ := bx10
      rw [eh10, eg10] at g10 on10
      rw [eg10] at fx10p0
      have hkm := hkm.call g10 (by decide)
      have hon := hon.trans (hp_on.mono on10 (fun q h9 => by rcases h9 with rfl; exact Or.inl rfl))
      have f_p0_1 := g10 _ _ _ _ f_p0_1 (by decide)
      have f_p0_11 := g10 _ _ _ _ f_p0_11 (by decide)
      have obx10p0 := iv_o bx10p0
      have ocx10 := iv_o cx10
      have hcs := cs.on (T := T) hcs on10 g10 (fun h9 => hp_ne_ao hp0sign hp0 h9) (fun h9 => hp_ne_ao hp0len hp0 h9) (by decide)
      refine lv_bipush (v := 42) hx hb dX12_term_13 (by decide) ?_
      have J36 : ∀ (y36_fp0_8 : Int32), iv xp101 0 400 → iv xp102 0 5 → iv y36_fp0_8 0 400 → (xp100.toInt + 1 ≤ y36_fp0_8.toInt) → (y36_fp0_8.toInt ≤ 399) → (y9_fp0_8.toInt ≤ y36_fp0_8.toInt) → ∀ (H : Heap) (locs : List Loc), hp_w D T s H locs → hp_km D [(12, 8), (12, 9), (12, 10), (12, 12)] s.heap H → hp_on (fun q => q = ap0 ∨ q = A 1 ∨ q = A 2) s.heap H → hp_f D H ap0 12 1 (.int xp101) → hp_f D H ap0 12 11 (.int xp102) → hp_f D H ap0 12 8 (.int y36_fp0_8) → cs D H ap0 A xp102 gS0 gb (gh + 1) (0) (gB + (y36_fp0_8.toInt - xp100.toInt)) → ∀ (ls : Array Slot), lv_has ls 2 [(0, .ref ap0)] → WX12_term p l e s m below meth c D T ap0 xp100 xp101 xp102 A Tp gS0 gb gh gB H locs (F0 m 36 ls []) := by
        intro y36_fp0_8 c36_xp101 c36_xp102 c36_y36_fp0_8 hv36_0 hv36_1 hv36_2 H36 locs36 hw hkm hon f_p0_1 f_p0_11 f_p0_8 hcs ls hl
        have oc36_xp101 := iv_o c36_xp101
        have oc36_xp102 := iv_o c36_xp102
        have oc36_y36_fp0_8 := iv_o c36_y36_fp0_8
        have w36 : iv y36_fp0_8 0 399 := ⟨by omega, by omega⟩
        have ow36 := iv_o w36
        refine lv_aload_n hx hb dX12_term_36 rfl (lv_at hl 0 rfl) ?_
        refine hp_getr hx hb hts IX12 hown hK hw.1 hp0 rfl 0 (by decide) L7 rfl dX12_term_37 ?_
        refine lv_aload_n hx hb dX12_term_40 rfl (lv_at hl 0 rfl) ?_
        refine hp_getf hx hb hts IX12 hown hK f_p0_8 rfl (by decide) L99 dX12_term_41 ?_
        refine hp_bald hx hb hK hw.1 hp0tape (vp_iv w36 (by decide)) dX12_term_44 (fun v44 h44 => ?_)
        obtain ⟨x44, rfl⟩ := tpok _ _ h44
        have ex44 : Value.int x44 = Tp (y36_fp0_8).toNatClampNeg := h44
        refine lv_bipush (v := 42) hx hb dX12_term_45 (by decide) ?_
        have J74 : ∀ (y74_s0 : Int32), iv y74_s0 4 14 → iv xp101 0 400 → iv xp102 0 5 → iv y36_fp0_8 0 399 → (xp100.toInt + 1 ≤ y36_fp0_8.toInt) → (y36_fp0_8.toInt ≤ 399) → (¬ y74_s0.toInt = 11) → (y9_fp0_8.toInt ≤ y36_fp0_8.toInt) → ∀ (H : Heap) (locs : List Loc), hp_w D T s H locs → hp_km D [(12, 8), (12, 9), (12, 10), (12, 12)] s.heap H → hp_on (fun q => q = ap0 ∨ q = A 1 ∨ q = A 2) s.heap H → hp_f D H ap0 12 1 (.int xp101) → hp_f D H ap0 12 11 (.int xp102) → hp_f D H ap0 12 8 (.int y36_fp0_8) → cs D H ap0 A xp102 gS0 gb (gh + 1) (0) (gB + (y36_fp0_8.toInt - xp100.toInt)) → ∀ (ls : Array Slot), lv_has ls 2 [(0, .ref ap0)] → WX12_term p l e s m below meth c D T ap0 xp100 xp101 xp102 A Tp gS0 gb gh gB H locs (F0 m 74 ls [.int y74_s0]) := by
          intro y74_s0 c74_y74_s0 c74_xp101 c74_xp102 c74_y36_fp0_8 hv74_0 hv74_1 hv74_2 hv74_3 H74 locs74 hw hkm hon f_p0_1 f_p0_11 f_p0_8 hcs ls hl
          have oc74_y74_s0 := iv_o c74_y74_s0
          have oc74_xp101 := iv_o c74_xp101
          have oc74_xp102 := iv_o c74_xp102
          have oc74_y36_fp0_8 := iv_o c74_y36_fp0_8
          refine lv_istore_n (lv' := [(1, .int y74_s0), (0, .ref ap0)]) hx hb dX12_term_74 rfl hl (by decide) rfl (fun ls hl => ?_)
          refine lv_aload_n hx hb dX12_term_75 rfl (lv_at hl 1 rfl) ?_
          refine lv_dup hx hb dX12_term_76 rfl ?_
          refine hp_getf hx hb hts IX12 hown hK f_p0_8 rfl (by decide) L99 dX12_term_77 ?_
          refine lv_iconst (v := 1) hx hb dX12_term_80 (by decide) ?_
          refine lv_iadd hx hb dX12_term_81 ?_
          refine lv_topi (fun x81 ex81 => ?_)
          have bx81 : iv x81 1 400 := iv_add c74_y36_fp0_8 (show iv 1 1 1 from ⟨by decide, by decide⟩) ex81 (by decide)
          have obx81 := iv_o bx81
          have qx81 := iv_add_eq c74_y36_fp0_8 (show iv 1 1 1 from ⟨by decide, by decide⟩) ex81 (by decide)
          refine hp_putE hx hb hts IX12 tyX12 tyX12_ok nmX12 hown hK hw hp0 rfl 8 (by decide) L99 rfl rfl ⟨_, rfl, (bx81.mono (by decide) (by decide))⟩ rfl rfl dX12_term_82 (fun H82 locs82 hw f82n g82 on82 => ?_)
          have hon := hon.trans (hp_on.mono (show hp_on (fun q => q = ap0) _ _ from on82) (fun q h9 => by rcases h9 with rfl; exact Or.inl rfl))
          have hcs := cs.put hcs g82 on82 (hp_ne_ao hp0sign hp0) (hp_ne_ao hp0len hp0) (by decide)
          have hkm := hkm.put g82 (by decide)
          have f_p0_1 := g82 _ _ _ _ f_p0_1 (Or.inr ⟨rfl, by decide⟩)
          have f_p0_11 := g82 _ _ _ _ f_p0_11 (Or.inr ⟨rfl, by decide⟩)
          refine lv_aload_n hx hb dX12_term_85 rfl (lv_at hl 1 rfl) ?_
          refine hp_callei (va_runV (As := []) (rest := []) ⟨hx, hb, hml, hown, hts⟩ (sX12_value l D T ap0 x81 xp101 xp102 A Gm Tp ip0 gS0 gb (gh + 1) (gB + (y36_fp0_8.toInt - xp100.toInt)) (by omega) (bx81.mono (by decide) (by decide)) c74_xp101 c74_xp102) (cwV 0 hts gX12_term_X12_value rfl rfl rfl (by decide +kernel) ⟨Nat.le_of_ble_eq_true rfl, Nat.le_of_ble_eq_true rfl⟩) (hp_preV hG hw hp0 rfl ⟨f82n, f_p0_1, f_p0_11, hcs⟩) rfl rfl hl.1 rfl (lv_room (Nat.le_of_ble_eq_true rfl)) dX12_term_86 ⟨Nat.zero_le _, Nat.zero_le _⟩) hw (fun x86 st86 t86 H86 locs86 eh86 eg86 bx86 hw => ?_)
          obtain ⟨x86p0, g86, on86, fx86p0, cx86, bx86p0, R86_0, R86_1, R86_2, R86_3⟩ := bx86
          rw [eh86, eg86] at g86 on86
          rw [eg86] at fx86p0
          have hkm := hkm.call g86 (by decide)
          have hon := hon.trans on86
          have f_p0_1 := g86 _ _ _ _ f_p0_1 (by decide)
          have f_p0_11 := g86 _ _ _ _ f_p0_11 (by decide)
          have obx86p0 := iv_o bx86p0
          have ocx86 := iv_o cx86
          refine lv_if_ne (tgt := 94) hx hb dX12_term_89 (by decide) (fun c89 => ?_) (fun c89 => ?_)
          · have oc89 := iv_neq c89
            have r89tp : iv x86 1 1 := (iv_ne_lo c89 cx86 rfl).mono (by decide) (by decide)
            have or89tp := iv_o r89tp
            have hcs := R86_2 (by omega)
            rw [eg86] at hcs
            refine lv_aload_n hx hb dX12_term_94 rfl (lv_at hl 1 rfl) ?_
            refine lv_iload_n hx hb dX12_term_95 rfl (lv_at hl 0 rfl) ?_
            refine lv_iconst (v := 0) hx hb dX12_term_96 (by decide) ?_
            refine hp_callev (va_runV (As := [.int y74_s0, .int 0]) (rest := []) ⟨hx, hb, hml, hown, hts⟩ (sX12_puts l D T ap0 y74_s0 (0 : Int32) xp102 A Gm Tp ip0 gS0 gb (gh + 2) (gh + 1) (0) (0) (gB + (y36_fp0_8.toInt - xp100.toInt) + (x86p0.toInt - x81.toInt)) (c_bin c74_y74_s0 (by decide) (by omega) _) (by omega) (by omega) c74_xp102) (cwV 2 hts gX12_term_X12_puts rfl rfl rfl (by decide +kernel) ⟨Nat.le_of_ble_eq_true rfl, Nat.le_of_ble_eq_true rfl⟩) (hp_preV hG hw hp0 rfl ⟨f_p0_11, hcs⟩) rfl rfl hl.1 rfl (lv_room (Nat.le_of_ble_eq_true rfl)) dX12_term_97 ⟨Nat.zero_le _, Nat.zero_le _⟩) hw (fun st97 t97 H97 locs97 eh97 eg97 bx97 hw => ?_)
            obtain ⟨g97, on97, R97_0⟩ := bx97
            rw [eh97, eg97] at g97 on97
            have hkm := hkm.call g97 (by decide)
            have hon := hon.trans on97
            have f_p0_1 := g97 _ _ _ _ f_p0_1 (by decide)
            have f_p0_11 := g97 _ _ _ _ f_p0_11 (by decide)
            have f_p0_8 := g97 _ _ _ _ fx86p0 (by decide)
            have hcs := R97_0
            rw [eg97] at hcs
            refine lv_goto (tgt := 9) hx hb dX12_term_100 (by decide) ?_
            exact ih9 x86p0 (by omega) c74_xp101 c74_xp102 bx86p0 (show xp100.toInt + 1 ≤ x86p0.toInt from by have := (bx86p0).1; have := (bx86p0).2; have : (0 : Int32).toInt = 0 := (by decide); omega) H97 locs97 hw hkm hon f_p0_1 f_p0_11 f_p0_8 (cs.mono hcs (by omega) (by omega)) _ (lv_sub hl [1] rfl)
          · have oc89 := congrArg Int32.toInt c89
            have r89fp : iv x86 0 0 := (iv_both cx86 (iv_eq (show iv 0 0 0 from ⟨by decide, by decide⟩) c89)).mono (by decide) (by decide)
            have or89fp := iv_o r89fp
            have hcw := R86_3 (by omega)
            rw [eg86] at hcw
            refine lv_iconst (v := 0) hx hb dX12_term_92 (by decide) ?_
            exact W.zret (v := 0) hx hb hr (iv_nz (show iv 0 0 1 from ⟨by decide, by decide⟩)) (fun t ht hW => ⟨some (.int 0), rfl, ⟨(0 : Int32), rfl, ⟨x86p0, by rw [ht]; exact hkm, by rw [ht]; exact hon, by rw [ht]; exact fx86p0, (show iv 0 0 1 from ⟨by decide, by decide⟩), bx86p0, (by intros; omega), (fun h9 => absurd k0 h9), (fun h9 => absurd k0 h9), (fun _ => by rw [ht]; exact hcw)⟩⟩, by rw [ht]; exact hw.1, hw.2.F ht⟩) hw.2.2.2 dX12_term_93
        refine lv_icmp_ne (tgt := 54) hx hb dX12_term_47 (by decide) (fun c47 => ?_) (fun c47 => ?_)
        · have oc47 := iv_neq c47
          refine lv_aload_n hx hb dX12_term_54 rfl (lv_at hl 0 rfl) ?_
          refine hp_getr hx hb hts IX12 hown hK hw.1 hp0 rfl 0 (by decide) L7 rfl dX12_term_55 ?_
          refine lv_aload_n hx hb dX12_term_58 rfl (lv_at hl 0 rfl) ?_
          refine hp_getf hx hb hts IX12 hown hK f_p0_8 rfl (by decide) L99 dX12_term_59 ?_
          refine hp_bald hx hb hK hw.1 hp0tape (vp_iv w36 (by decide)) dX12_term_62 (fun v62 h62 => ?_)
          obtain ⟨x62, rfl⟩ := tpok _ _ h62
          have ex62 : Value.int x62 = Tp (y36_fp0_8).toNatClampNeg := h62
          refine lv_bipush (v := 47) hx hb dX12_term_63 (by decide) ?_
          refine lv_icmp_ne (tgt := 72) hx hb dX12_term_65 (by decide) (fun c65 => ?_) (fun c65 => ?_)
          · have oc65 := iv_neq c65
            refine lv_bipush (v := 14) hx hb dX12_term_72 (by decide) ?_
            exact J74 (14 : Int32) (show iv 14 4 14 from ⟨by decide, by decide⟩) c36_xp101 c36_xp102 w36 (show xp100.toInt + 1 ≤ y36_fp0_8.toInt from by have := (w36).1; have := (w36).2; have : (42 : Int32).toInt = 42 := (by decide); have : (47 : Int32).toInt = 47 := (by decide); omega) (show y36_fp0_8.toInt ≤ 399 from by have := (w36).1; have := (w36).2; have : (42 : Int32).toInt = 42 := (by decide); have : (47 : Int32).toInt = 47 := (by decide); omega) (show ¬ 14 = 11 from by have : (42 : Int32).toInt = 42 := (by decide); have : (47 : Int32).toInt = 47 := (by decide); omega) (show y9_fp0_8.toInt ≤ y36_fp0_8.toInt from by have := (w36).1; have := (w36).2; have : (42 : Int32).toInt = 42 := (by decide); have : (47 : Int32).toInt = 47 := (by decide); omega) H36 locs36 hw hkm hon f_p0_1 f_p0_11 f_p0_8 (cs.mono hcs (by omega) (by omega)) _ (lv_sub hl [0] rfl)
          · have oc65 := congrArg Int32.toInt c65
            have r65fp : iv x62 47 47 := (iv_both (iv_any x62) (iv_eq (show iv 47 47 47 from ⟨by decide, by decide⟩) c65)).mono (by decide) (by decide)
            have or65fp := iv_o r65fp
            refine lv_iconst (v := 5) hx hb dX12_term_68 (by decide) ?_
            refine lv_goto (tgt := 74) hx hb dX12_term_69 (by decide) ?_
            exact J74 (5 : Int32) (show iv 5 4 14 from ⟨by decide, by decide⟩) c36_xp101 c36_xp102 w36 (show xp100.toInt + 1 ≤ y36_fp0_8.toInt from by have := (w36).1; have := (w36).2; have : (42 : Int32).toInt = 42 := (by decide); omega) (show y36_fp0_8.toInt ≤ 399 from by have := (w36).1; have := (w36).2; have : (42 : Int32).toInt = 42 := (by decide); omega) (show ¬ 5 = 11 from by have : (42 : Int32).toInt = 42 := (by decide); omega) (show y9_fp0_8.toInt ≤ y36_fp0_8.toInt from by have := (w36).1; have := (w36).2; have : (42 : Int32).toInt = 42 := (by decide); omega) H36 locs36 hw hkm hon f_p0_1 f_p0_11 f_p0_8 (cs.mono hcs (by omega) (by omega)) _ (lv_sub hl [0] rfl)
        · have oc47 := congrArg Int32.toInt c47
          have r47fp : iv x44 42 42 := (iv_both (iv_any x44) (iv_eq (show iv 42 42 42 from ⟨by decide, by decide⟩) c47)).mono (by decide) (by decide)
          have or47fp := iv_o r47fp
          refine lv_iconst (v := 4) hx hb dX12_term_50 (by decide) ?_
          refine lv_goto (tgt := 74) hx hb dX12_term_51 (by decide) ?_
          exact J74 (4 : Int32) (show iv 4 4 14 from ⟨by decide, by decide⟩) c36_xp101 c36_xp102 w36 (show xp100.toInt + 1 ≤ y36_fp0_8.toInt from by have := (w36).1; have := (w36).2; omega) (show y36_fp0_8.toInt ≤ 399 from by have := (w36).1; have := (w36).2; omega) (show ¬ 4 = 11 from by omega) (show y9_fp0_8.toInt ≤ y36_fp0_8.toInt from by have := (w36).1; have := (w36).2; omega) H36 locs36 hw hkm hon f_p0_1 f_p0_11 f_p0_8 (cs.mono hcs (by omega) (by omega)) _ (lv_sub hl [0] rfl)
      refine lv_icmp_eq (tgt := 36) hx hb dX12_term_15 (by decide) (fun c15 => ?_) (fun c15 => ?_)
      · have oc15 := congrArg Int32.toInt c15
        have r15tp : iv x10 42 42 := (iv_both cx10 (iv_eq (show iv 42 42 42 from ⟨by decide, by decide⟩) c15)).mono (by decide) (by decide)
        have or15tp := iv_o r15tp
        exact J36 x10p0 c9_xp101 c9_xp102 bx10p0 (show xp100.toInt + 1 ≤ x10p0.toInt from by have := (bx10p0).1; have := (bx10p0).2; omega) (show x10p0.toInt ≤ 399 from by have := (bx10p0).1; have := (bx10p0).2; omega) (show y9_fp0_8.toInt ≤ x10p0.toInt from by have := (bx10p0).1; have := (bx10p0).2; omega) H10 locs10 hw hkm hon f_p0_1 f_p0_11 fx10p0 (cs.mono hcs (by omega) (by omega)) _ (lv_sub hl [0] rfl)
      · have oc15 := iv_neq c15
        refine lv_aload_n hx hb dX12_term_18 rfl (lv_at hl 0 rfl) ?_
        refine hp_callei (va_runV (As := []) (rest := []) ⟨hx, hb, hml, hown, hts⟩ (sX12_see l D T ap0 x10p0 xp101 A Gm Tp ip0 bx10p0 c9_xp101) (cwV 0 hts gX12_term_X12_see rfl rfl rfl (by decide +kernel) ⟨Nat.le_of_ble_eq_true rfl, Nat.le_of_ble_eq_true rfl⟩) (hp_preV hG hw hp0 rfl ⟨fx10p0, f_p0_1⟩) rfl rfl hl.1 rfl (lv_room (Nat.le_of_ble_eq_true rfl)) dX12_term_19 ⟨Nat.zero_le _, Nat.zero_le _⟩) hw (fun x19 st19 t19 H19 locs19 eh19 eg19 bx19 hw => ?_)
        obtain ⟨x19p0, g19, on19, fx19p0, cx19, bx19p0, R19_0, R19_1⟩ := bx19
        rw [eh19, eg19] at g19 on19
        rw [eg19] at fx19p0
        have hkm := hkm.call g19 (by decide)
        have hon := hon.trans (hp_on.mono on19 (fun q h9 => by rcases h9 with rfl; exact Or.inl rfl))
        have f_p0_1 := g19 _ _ _ _ f_p0_1 (by decide)
        have f_p0_11 := g19 _ _ _ _ f_p0_11 (by decide)
        have obx19p0 := iv_o bx19p0
        have ocx19 := iv_o cx19
        have hcs := cs.on (T := T) hcs on19 g19 (fun h9 => hp_ne_ao hp0sign hp0 h9) (fun h9 => hp_ne_ao hp0len hp0 h9) (by decide)
        refine lv_bipush (v := 47) hx hb dX12_term_22 (by decide) ?_
        refine lv_icmp_eq (tgt := 36) hx hb dX12_term_24 (by decide) (fun c24 => ?_) (fun c24 => ?_)
        · have oc24 := congrArg Int32.toInt c24
          have r24tp : iv x19 47 47 := (iv_both cx19 (iv_eq (show iv 47 47 47 from ⟨by decide, by decide⟩) c24)).mono (by decide) (by decide)
          have or24tp := iv_o r24tp
          exact J36 x19p0 c9_xp101 c9_xp102 bx19p0 (show xp100.toInt + 1 ≤ x19p0.toInt from by have := (bx19p0).1; have := (bx19p0).2; have : (42 : Int32).toInt = 42 := (by decide); omega) (show x19p0.toInt ≤ 399 from by have := (bx19p0).1; have := (bx19p0).2; have : (42 : Int32).toInt = 42 := (by decide); omega) (show y9_fp0_8.toInt ≤ x19p0.toInt from by have := (bx19p0).1; have := (bx19p0).2; have : (42 : Int32).toInt = 42 := (by decide); omega) H19 locs19 hw hkm hon f_p0_1 f_p0_11 fx19p0 (cs.mono hcs (by omega) (by omega)) _ (lv_sub hl [0] rfl)
        · have oc24 := iv_neq c24
          refine lv_aload_n hx hb dX12_term_27 rfl (lv_at hl 0 rfl) ?_
          refine hp_callei (va_runV (As := []) (rest := []) ⟨hx, hb, hml, hown, hts⟩ (sX12_see l D T ap0 x19p0 xp101 A Gm Tp ip0 bx19p0 c9_xp101) (cwV 0 hts gX12_term_X12_see rfl rfl rfl (by decide +kernel) ⟨Nat.le_of_ble_eq_true rfl, Nat.le_of_ble_eq_true rfl⟩) (hp_preV hG hw hp0 rfl ⟨fx19p0, f_p0_1⟩) rfl rfl hl.1 rfl (lv_room (Nat.le_of_ble_eq_true rfl)) dX12_term_28 ⟨Nat.zero_le _, Nat.zero_le _⟩) hw (fun x28 st28 t28 H28 locs28 eh28 eg28 bx28 hw => ?_)
          obtain ⟨x28p0, g28, on28, fx28p0, cx28, bx28p0, R28_0, R28_1⟩ := bx28
          rw [eh28, eg28] at g28 on28
          rw [eg28] at fx28p0
          have hkm := hkm.call g28 (by decide)
          have hon := hon.trans (hp_on.mono on28 (fun q h9 => by rcases h9 with rfl; exact Or.inl rfl))
          have f_p0_1 := g28 _ _ _ _ f_p0_1 (by decide)
          have f_p0_11 := g28 _ _ _ _ f_p0_11 (by decide)
          have obx28p0 := iv_o bx28p0
          have ocx28 := iv_o cx28
          have hcs := cs.on (T := T) hcs on28 g28 (fun h9 => hp_ne_ao hp0sign hp0 h9) (fun h9 => hp_ne_ao hp0len hp0 h9) (by decide)
          refine lv_bipush (v := 37) hx hb dX12_term_31 (by decide) ?_
          refine lv_icmp_ne (tgt := 103) hx hb dX12_term_33 (by decide) (fun c33 => ?_) (fun c33 => ?_)
          · have oc33 := iv_neq c33
            refine lv_iconst (v := 1) hx hb dX12_term_103 (by decide) ?_
            exact W.zret (v := 1) hx hb hr (iv_nz (show iv 1 0 1 from ⟨by decide, by decide⟩)) (fun t ht hW => ⟨some (.int 1), rfl, ⟨(1 : Int32), rfl, ⟨x28p0, by rw [ht]; exact hkm, by rw [ht]; exact hon, by rw [ht]; exact fx28p0, (show iv 1 0 1 from ⟨by decide, by decide⟩), bx28p0, (by intros; omega), (fun _ => by omega), (fun _ => by rw [ht]; exact cs.mono hcs (by omega) (by omega)), (fun h9 => absurd h9 (by omega))⟩⟩, by rw [ht]; exact hw.1, hw.2.F ht⟩) hw.2.2.2 dX12_term_104
          · have oc33 := congrArg Int32.toInt c33
            have r33fp : iv x28 37 37 := (iv_both cx28 (iv_eq (show iv 37 37 37 from ⟨by decide, by decide⟩) c33)).mono (by decide) (by decide)
            have or33fp := iv_o r33fp
            exact J36 x28p0 c9_xp101 c9_xp102 bx28p0 (show xp100.toInt + 1 ≤ x28p0.toInt from by have := (bx28p0).1; have := (bx28p0).2; have : (42 : Int32).toInt = 42 := (by decide); have : (47 : Int32).toInt = 47 := (by decide); omega) (show x28p0.toInt ≤ 399 from by have := (bx28p0).1; have := (bx28p0).2; have : (42 : Int32).toInt = 42 := (by decide); have : (47 : Int32).toInt = 47 := (by decide); omega) (show y9_fp0_8.toInt ≤ x28p0.toInt from by have := (bx28p0).1; have := (bx28p0).2; have : (42 : Int32).toInt = 42 := (by decide); have : (47 : Int32).toInt = 47 := (by decide); omega) H28 locs28 hw hkm hon f_p0_1 f_p0_11 fx28p0 (cs.mono hcs (by omega) (by omega)) _ (lv_sub hl [0] rfl)
  refine lv_if_ne (tgt := 9) hx hb dX12_term_4 (by decide) (fun c4 => ?_) (fun c4 => ?_)
  · have oc4 := iv_neq c4
    have r4tp : iv x1 1 1 := (iv_ne_lo c4 cx1 rfl).mono (by decide) (by decide)
    have or4tp := iv_o r4tp
    have hcs := R1_2 (by omega)
    rw [eg1] at hcs
    exact J9 _ x1p0 (Nat.lt_succ_self _) bp101 bp102 bx1p0 (show xp100.toInt + 1 ≤ x1p0.toInt from by have := (bx1p0).1; have := (bx1p0).2; have : (0 : Int32).toInt = 0 := (by decide); omega) H1 locs1 hw hkm hon f_p0_1 f_p0_11 fx1p0 (cs.mono hcs (by omega) (by omega)) _ (lv_sub hl [0] rfl)
  · have oc4 := congrArg Int32.toInt c4
    have r4fp : iv x1 0 0 := (iv_both cx1 (iv_eq (show iv 0 0 0 from ⟨by decide, by decide⟩) c4)).mono (by decide) (by decide)
    have or4fp := iv_o r4fp
    have hcw := R1_3 (by omega)
    rw [eg1] at hcw
    refine lv_iconst (v := 0) hx hb dX12_term_7 (by decide) ?_
    exact W.zret (v := 0) hx hb hr (iv_nz (show iv 0 0 1 from ⟨by decide, by decide⟩)) (fun t ht hW => ⟨some (.int 0), rfl, ⟨(0 : Int32), rfl, ⟨x1p0, by rw [ht]; exact hkm, by rw [ht]; exact hon, by rw [ht]; exact fx1p0, (show iv 0 0 1 from ⟨by decide, by decide⟩), bx1p0, (by intros; omega), (fun h9 => absurd k0 h9), (fun h9 => absurd k0 h9), (fun _ => by rw [ht]; exact hcw)⟩⟩, by rw [ht]; exact hw.1, hw.2.F ht⟩) hw.2.2.2 dX12_term_8
abbrev WX12_summed (p : Program) (l : Launch) (e : Env) (s : State) (m : MethodId) (below : List Frame) (meth : Method) (c : Code) (D : hp_D) (T : hp_T) (ap0 : Nat) (xp100 : Int32) (xp101 : Int32) (xp102 : Int32) (A : Nat → Nat) (Tp : Nat → Value) (gS0 : Nat → Int32) (gb : Int) (gh : Nat) (gB : Int) (H : Heap) (locs : List Loc) (g : JFrame) : Prop := W p l e (headSpec wsX12_summed ({ frames := 5, cells := 0, slots := 0, locals := 109 })).room s m ([.ref ap0] : List Value).toArray below meth c H locs 0 0 (MQ below (hq_e D T (fun v st t => ∃ r : Int32, v = some (.int r) ∧ ((∃ y0 : Int32, hp_km D [(12, 8), (12, 9), (12, 10), (12, 12)] st.heap t.heap ∧ hp_on (fun q => q = ap0 ∨ q = A 1 ∨ q = A 2) st.heap t.heap ∧ hp_f D t.heap ap0 12 8 (.int y0) ∧ iv r 0 1 ∧ iv y0 0 400 ∧ (xp100.toInt ≤ y0.toInt) ∧ (¬ r.toInt = 0 → xp100.toInt + 1 ≤ y0.toInt) ∧ (¬ r.toInt = 0 → cs D t.heap ap0 A xp102 gS0 gb (gh + 1) 0 (gB + (y0.toInt - xp100.toInt))) ∧ (r.toInt = 0 → csw D t.heap A xp102 gS0 gb))))) ([.ref ap0] : List Value).toArray s 0 0 (hp_F T)) g
set_option maxHeartbeats 4000000 in
set_option maxRecDepth 100000 in
theorem sX12_summed (l : Launch) (D : hp_D) (T : hp_T) (ap0 : Nat) (xp100 : Int32) (xp101 : Int32) (xp102 : Int32) (A : Nat → Nat) (Gm : moG) (Tp : Nat → Value) (ip0 : isMp T ap0 A Gm Tp) (gS0 : Nat → Int32) (gb : Int) (gh : Nat) (gB : Int) (hBd : gB ≤ xp100.toInt) (bp100 : iv xp100 0 400) (bp101 : iv xp101 0 400) (bp102 : iv xp102 0 5) : Met l yX12_summed wsX12_summed ({ frames := 5, cells := 0, slots := 0, locals := 109 }) (hp_Pc D T [.ref ap0] (fun H => hp_f D H ap0 12 8 (.int xp100) ∧ hp_f D H ap0 12 1 (.int xp101) ∧ hp_f D H ap0 12 11 (.int xp102) ∧ cs D H ap0 A xp102 gS0 gb gh 0 gB)) (hq_e D T (fun v st t => ∃ r : Int32, v = some (.int r) ∧ ((∃ y0 : Int32, hp_km D [(12, 8), (12, 9), (12, 10), (12, 12)] st.heap t.heap ∧ hp_on (fun q => q = ap0 ∨ q = A 1 ∨ q = A 2) st.heap t.heap ∧ hp_f D t.heap ap0 12 8 (.int y0) ∧ iv r 0 1 ∧ iv y0 0 400 ∧ (xp100.toInt ≤ y0.toInt) ∧ (¬ r.toInt = 0 → xp100.toInt + 1 ≤ y0.toInt) ∧ (¬ r.toInt = 0 → cs D t.heap ap0 A xp102 gS0 gb (gh + 1) 0 (gB + (y0.toInt - xp100.toInt))) ∧ (r.toInt = 0 → csw D t.heap A xp102 gS0 gb))))) 0 0 (hp_F T) := by
  obtain ⟨gok, tpok, hp0, hp0tape, hp0sign, hp0len, hp0clause, hp0clauses, hp0read, hp0opn, hp0stack, hp0word, hp0said, hp0was, hp0fitting, hp0sums, hp0sort, hp0sumsBy, hp0oneOf, hp0otherOf, hp0kept, hp0images, hp0acts, hp0iUnd, hp0iFor, hp0iX, hp0made⟩ := id ip0
  have hpx := gok.1
  have gsok := gok.2.2.2.2
  have ggd := gok.2.2.2.1
  refine Met.ofW (cc := cX12_summed) (maxL := 2) (ret := (some .boolean)) (by decide) rfl ?_
  intro p e s m args below meth c s₁ B hml hv
  obtain ⟨rfl, hok, hG, hB⟩ := hv
  have hx := B.exec
  have hb := B.bytes
  have hr := B.returns
  have hts := atoms_spec (ws := wsX12_summed) B.pre
  have hown : s.vm.findClass RX12 = some m.cls := findClass_of_methodNamed B.named
  have hlocks := B.notSynchronized
  have hK := hG.1
  have hw : hp_w D T s s.heap [] := hp_w.rf hok
  have IX12 : ∀ w ∈ wsX120, w ∈ wsX12_summed := by decide +kernel
  have L7 := hts (.fieldLink RX12 7 "PalmCensusModel" "tape" "[B") (by decide +kernel)
  have L99 := hts (.fieldLink RX12 99 "PalmCensusModel" "next" "I") (by decide +kernel)
  have hon : hp_on (fun q => q = ap0 ∨ q = A 1 ∨ q = A 2) s.heap s.heap := fun _ _ => rfl
  have k0 : (0 : Int32).toInt = 0 := (by decide)
  have k1 : (1 : Int32).toInt = 1 := (by decide)
  have k2 : (2 : Int32).toInt = 2 := (by decide)
  have k3 : (3 : Int32).toInt = 3 := (by decide)
  have k43 : (43 : Int32).toInt = 43 := (by decide)
  have k45 : (45 : Int32).toInt = 45 := (by decide)
  have obp100 := iv_o bp100
  have obp101 := iv_o bp101
  have obp102 := iv_o bp102
  have hkm : hp_km D [(12, 8), (12, 9), (12, 10), (12, 12)] s.heap s.heap := fun _ _ _ _ h _ => h
  have hl := lv_entry ([.ref ap0]) (n := 2) (Nat.le_of_ble_eq_true rfl)
  rw [lg_entry_eq]
  generalize (lg_sl ([.ref ap0]) ++ List.replicate (2 - (lg_sl ([.ref ap0])).length) Slot.unset).toArray = ls at hl ⊢
  have hl : lv_has ls 2 [(0, .ref ap0)] := hl
  show WX12_summed p l e s m below meth c D T ap0 xp100 xp101 xp102 A Tp gS0 gb gh gB s.heap [] (F0 m 0 ls [])
  have obp100 := iv_o bp100
  have obp101 := iv_o bp101
  have obp102 := iv_o bp102
  refine lv_aload_n hx hb dX12_summed_0 rfl (lv_at hl 0 rfl) ?_
  refine hp_callei (va_runV (As := []) (rest := []) ⟨hx, hb, hml, hown, hts⟩ (sX12_term l D T ap0 xp100 xp101 xp102 A Gm Tp ip0 gS0 gb (gh) (gB) (by omega) bp100 bp101 bp102) (cwV 0 hts gX12_summed_X12_term rfl rfl rfl (by decide +kernel) ⟨Nat.le_of_ble_eq_true rfl, Nat.le_of_ble_eq_true rfl⟩) (hp_preV hG hw hp0 rfl ⟨hB.1, hB.2.1, hB.2.2.1, hB.2.2.2⟩) rfl rfl hl.1 rfl (lv_room (Nat.le_of_ble_eq_true rfl)) dX12_summed_1 ⟨Nat.zero_le _, Nat.zero_le _⟩) hw (fun x1 st1 t1 H1 locs1 eh1 eg1 bx1 hw => ?_)
  obtain ⟨x1p0, g1, on1, fx1p0, cx1, bx1p0, R1_0, R1_1, R1_2, R1_3⟩ := bx1
  rw [eh1, eg1] at g1 on1
  rw [eg1] at fx1p0
  have hkm := hkm.call g1 (by decide)
  have hon := hon.trans on1
  have f_p0_1 := g1 _ _ _ _ hB.2.1 (by decide)
  have f_p0_11 := g1 _ _ _ _ hB.2.2.1 (by decide)
  have obx1p0 := iv_o bx1p0
  have ocx1 := iv_o cx1
  have J9 : ∀ (n : Nat) (y9_fp0_8 : Int32), (400 - y9_fp0_8.toInt).toNat < n → iv xp101 0 400 → iv xp102 0 5 → iv y9_fp0_8 0 400 → (xp100.toInt + 1 ≤ y9_fp0_8.toInt) → ∀ (H : Heap) (locs : List Loc), hp_w D T s H locs → hp_km D [(12, 8), (12, 9), (12, 10), (12, 12)] s.heap H → hp_on (fun q => q = ap0 ∨ q = A 1 ∨ q = A 2) s.heap H → hp_f D H ap0 12 1 (.int xp101) → hp_f D H ap0 12 11 (.int xp102) → hp_f D H ap0 12 8 (.int y9_fp0_8) → cs D H ap0 A xp102 gS0 gb (gh + 1) (0) (gB + (y9_fp0_8.toInt - xp100.toInt)) → ∀ (ls : Array Slot), lv_has ls 2 [(0, .ref ap0)] → WX12_summed p l e s m below meth c D T ap0 xp100 xp101 xp102 A Tp gS0 gb gh gB H locs (F0 m 9 ls []) := by
    intro n
    induction n with
    | zero => intro y9_fp0_8 hmu9 c9_xp101 c9_xp102 c9_y9_fp0_8 hv9_0 H9 locs9 hw hkm hon f_p0_1 f_p0_11 f_p0_8 hcs ls hl; exact absurd hmu9 (Nat.not_lt_zero _)
    | succ n ih9 =>
      intro y9_fp0_8 hmu9 c9_xp101 c9_xp102 c9_y9_fp0_8 hv9_0 H9 locs9 hw hkm hon f_p0_1 f_p0_11 f_p0_8 hcs ls hl
      have oc9_xp101 := iv_o c9_xp101
      have oc9_xp102 := iv_o c9_xp102
      have oc9_y9_fp0_8 := iv_o c9_y9_fp0_8
      refine lv_aload_n hx hb dX12_summed_9 rfl (lv_at hl 0 rfl) ?_
      refine hp_callei (va_runV (As := []) (rest := []) ⟨hx, hb, hml, hown, hts⟩ (sX12_see l D T ap0 y9_fp0_8 xp101 A Gm Tp ip0 c9_y9_fp0_8 c9_xp101) (cwV 0 hts gX12_summed_X12_see rfl rfl rfl (by decide +kernel) ⟨Nat.le_of_ble_eq_true rfl, Nat.le_of_ble_eq_true rfl⟩) (hp_preV hG hw hp0 rfl ⟨f_p0_8, f_p0_1⟩) rfl rfl hl.1 rfl (lv_room (Nat.le_of_ble_eq_true rfl)) dX12_summed_10 ⟨Nat.zero_le _, Nat.zero_le _⟩) hw (fun x10 st10 t10 H10 locs10 eh10 eg10 bx10 hw => ?_)
      obtain ⟨x10p0, g10, on10, fx10p0, cx10, bx10p0, R10_0, R10_1⟩ := bx10
      rw [eh10, eg10] at g10 on10
      rw [eg10] at fx10p0
      have hkm := hkm.call g10 (by decide)
      have hon := hon.trans (hp_on.mono on10 (fun q h9 => by rcases h9 with rfl; exact Or.inl rfl))
      have f_p0_1 := g10 _ _ _ _ f_p0_1 (by decide)
      have f_p0_11 := g10 _ _ _ _ f_p0_11 (by decide)
      have obx10p0 := iv_o bx10p0
      have ocx10 := iv_o cx10
      have hcs := cs.on (T := T) hcs on10 g10 (fun h9 => hp_ne_ao hp0sign hp0 h9) (fun h9 => hp_ne_ao hp0len hp0 h9) (by decide)
      refine lv_bipush (v := 43) hx hb dX12_summed_13 (by decide) ?_
      have J27 : ∀ (y27_fp0_8 : Int32), iv xp101 0 400 → iv xp102 0 5 → iv y27_fp0_8 0 400 → (xp100.toInt + 1 ≤ y27_fp0_8.toInt) → (y27_fp0_8.toInt ≤ 399) → (y9_fp0_8.toInt ≤ y27_fp0_8.toInt) → ∀ (H : Heap) (locs : List Loc), hp_w D T s H locs → hp_km D [(12, 8), (12, 9), (12, 10), (12, 12)] s.heap H → hp_on (fun q => q = ap0 ∨ q = A 1 ∨ q = A 2) s.heap H → hp_f D H ap0 12 1 (.int xp101) → hp_f D H ap0 12 11 (.int xp102) → hp_f D H ap0 12 8 (.int y27_fp0_8) → cs D H ap0 A xp102 gS0 gb (gh + 1) (0) (gB + (y27_fp0_8.toInt - xp100.toInt)) → ∀ (ls : Array Slot), lv_has ls 2 [(0, .ref ap0)] → WX12_summed p l e s m below meth c D T ap0 xp100 xp101 xp102 A Tp gS0 gb gh gB H locs (F0 m 27 ls []) := by
        intro y27_fp0_8 c27_xp101 c27_xp102 c27_y27_fp0_8 hv27_0 hv27_1 hv27_2 H27 locs27 hw hkm hon f_p0_1 f_p0_11 f_p0_8 hcs ls hl
        have oc27_xp101 := iv_o c27_xp101
        have oc27_xp102 := iv_o c27_xp102
        have oc27_y27_fp0_8 := iv_o c27_y27_fp0_8
        have w27 : iv y27_fp0_8 0 399 := ⟨by omega, by omega⟩
        have ow27 := iv_o w27
        refine lv_aload_n hx hb dX12_summed_27 rfl (lv_at hl 0 rfl) ?_
        refine hp_getr hx hb hts IX12 hown hK hw.1 hp0 rfl 0 (by decide) L7 rfl dX12_summed_28 ?_
        refine lv_aload_n hx hb dX12_summed_31 rfl (lv_at hl 0 rfl) ?_
        refine hp_getf hx hb hts IX12 hown hK f_p0_8 rfl (by decide) L99 dX12_summed_32 ?_
        refine hp_bald hx hb hK hw.1 hp0tape (vp_iv w27 (by decide)) dX12_summed_35 (fun v35 h35 => ?_)
        obtain ⟨x35, rfl⟩ := tpok _ _ h35
        have ex35 : Value.int x35 = Tp (y27_fp0_8).toNatClampNeg := h35
        refine lv_bipush (v := 43) hx hb dX12_summed_36 (by decide) ?_
        have J46 : ∀ (y46_s0 : Int32), iv y46_s0 2 3 → iv xp101 0 400 → iv xp102 0 5 → iv y27_fp0_8 0 399 → (xp100.toInt + 1 ≤ y27_fp0_8.toInt) → (y27_fp0_8.toInt ≤ 399) → (y9_fp0_8.toInt ≤ y27_fp0_8.toInt) → ∀ (H : Heap) (locs : List Loc), hp_w D T s H locs → hp_km D [(12, 8), (12, 9), (12, 10), (12, 12)] s.heap H → hp_on (fun q => q = ap0 ∨ q = A 1 ∨ q = A 2) s.heap H → hp_f D H ap0 12 1 (.int xp101) → hp_f D H ap0 12 11 (.int xp102) → hp_f D H ap0 12 8 (.int y27_fp0_8) → cs D H ap0 A xp102 gS0 gb (gh + 1) (0) (gB + (y27_fp0_8.toInt - xp100.toInt)) → ∀ (ls : Array Slot), lv_has ls 2 [(0, .ref ap0)] → WX12_summed p l e s m below meth c D T ap0 xp100 xp101 xp102 A Tp gS0 gb gh gB H locs (F0 m 46 ls [.int y46_s0]) := by
          intro y46_s0 c46_y46_s0 c46_xp101 c46_xp102 c46_y27_fp0_8 hv46_0 hv46_1 hv46_2 H46 locs46 hw hkm hon f_p0_1 f_p0_11 f_p0_8 hcs ls hl
          have oc46_y46_s0 := iv_o c46_y46_s0
          have oc46_xp101 := iv_o c46_xp101
          have oc46_xp102 := iv_o c46_xp102
          have oc46_y27_fp0_8 := iv_o c46_y27_fp0_8
          refine lv_istore_n (lv' := [(1, .int y46_s0), (0, .ref ap0)]) hx hb dX12_summed_46 rfl hl (by decide) rfl (fun ls hl => ?_)
          refine lv_aload_n hx hb dX12_summed_47 rfl (lv_at hl 1 rfl) ?_
          refine lv_dup hx hb dX12_summed_48 rfl ?_
          refine hp_getf hx hb hts IX12 hown hK f_p0_8 rfl (by decide) L99 dX12_summed_49 ?_
          refine lv_iconst (v := 1) hx hb dX12_summed_52 (by decide) ?_
          refine lv_iadd hx hb dX12_summed_53 ?_
          refine lv_topi (fun x53 ex53 => ?_)
          have bx53 : iv x53 1 400 := iv_add c46_y27_fp0_8 (show iv 1 1 1 from ⟨by decide, by decide⟩) ex53 (by decide)
          have obx53 := iv_o bx53
          have qx53 := iv_add_eq c46_y27_fp0_8 (show iv 1 1 1 from ⟨by decide, by decide⟩) ex53 (by decide)
          refine hp_putE hx hb hts IX12 tyX12 tyX12_ok nmX12 hown hK hw hp0 rfl 8 (by decide) L99 rfl rfl ⟨_, rfl, (bx53.mono (by decide) (by decide))⟩ rfl rfl dX12_summed_54 (fun H54 locs54 hw f54n g54 on54 => ?_)
          have hon := hon.trans (hp_on.mono (show hp_on (fun q => q = ap0) _ _ from on54) (fun q h9 => by rcases h9 with rfl; exact Or.inl rfl))
          have hcs := cs.put hcs g54 on54 (hp_ne_ao hp0sign hp0) (hp_ne_ao hp0len hp0) (by decide)
          have hkm := hkm.put g54 (by decide)
          have f_p0_1 := g54 _ _ _ _ f_p0_1 (Or.inr ⟨rfl, by decide⟩)
          have f_p0_11 := g54 _ _ _ _ f_p0_11 (Or.inr ⟨rfl, by decide⟩)
          refine lv_aload_n hx hb dX12_summed_57 rfl (lv_at hl 1 rfl) ?_
          refine hp_callei (va_runV (As := []) (rest := []) ⟨hx, hb, hml, hown, hts⟩ (sX12_term l D T ap0 x53 xp101 xp102 A Gm Tp ip0 gS0 gb (gh + 1) (gB + (y27_fp0_8.toInt - xp100.toInt)) (by omega) (bx53.mono (by decide) (by decide)) c46_xp101 c46_xp102) (cwV 0 hts gX12_summed_X12_term rfl rfl rfl (by decide +kernel) ⟨Nat.le_of_ble_eq_true rfl, Nat.le_of_ble_eq_true rfl⟩) (hp_preV hG hw hp0 rfl ⟨f54n, f_p0_1, f_p0_11, hcs⟩) rfl rfl hl.1 rfl (lv_room (Nat.le_of_ble_eq_true rfl)) dX12_summed_58 ⟨Nat.zero_le _, Nat.zero_le _⟩) hw (fun x58 st58 t58 H58 locs58 eh58 eg58 bx58 hw => ?_)
          obtain ⟨x58p0, g58, on58, fx58p0, cx58, bx58p0, R58_0, R58_1, R58_2, R58_3⟩ := bx58
          rw [eh58, eg58] at g58 on58
          rw [eg58] at fx58p0
          have hkm := hkm.call g58 (by decide)
          have hon := hon.trans on58
          have f_p0_1 := g58 _ _ _ _ f_p0_1 (by decide)
          have f_p0_11 := g58 _ _ _ _ f_p0_11 (by decide)
          have obx58p0 := iv_o bx58p0
          have ocx58 := iv_o cx58
          refine lv_if_ne (tgt := 66) hx hb dX12_summed_61 (by decide) (fun c61 => ?_) (fun c61 => ?_)
          · have oc61 := iv_neq c61
            have r61tp : iv x58 1 1 := (iv_ne_lo c61 cx58 rfl).mono (by decide) (by decide)
            have or61tp := iv_o r61tp
            have hcs := R58_2 (by omega)
            rw [eg58] at hcs
            refine lv_aload_n hx hb dX12_summed_66 rfl (lv_at hl 1 rfl) ?_
            refine lv_iload_n hx hb dX12_summed_67 rfl (lv_at hl 0 rfl) ?_
            refine lv_iconst (v := 0) hx hb dX12_summed_68 (by decide) ?_
            refine hp_callev (va_runV (As := [.int y46_s0, .int 0]) (rest := []) ⟨hx, hb, hml, hown, hts⟩ (sX12_puts l D T ap0 y46_s0 (0 : Int32) xp102 A Gm Tp ip0 gS0 gb (gh + 2) (gh + 1) (0) (0) (gB + (y27_fp0_8.toInt - xp100.toInt) + (x58p0.toInt - x53.toInt)) (c_bin c46_y46_s0 (by decide) (by omega) _) (by omega) (by omega) c46_xp102) (cwV 2 hts gX12_summed_X12_puts rfl rfl rfl (by decide +kernel) ⟨Nat.le_of_ble_eq_true rfl, Nat.le_of_ble_eq_true rfl⟩) (hp_preV hG hw hp0 rfl ⟨f_p0_11, hcs⟩) rfl rfl hl.1 rfl (lv_room (Nat.le_of_ble_eq_true rfl)) dX12_summed_69 ⟨Nat.zero_le _, Nat.zero_le _⟩) hw (fun st69 t69 H69 locs69 eh69 eg69 bx69 hw => ?_)
            obtain ⟨g69, on69, R69_0⟩ := bx69
            rw [eh69, eg69] at g69 on69
            have hkm := hkm.call g69 (by decide)
            have hon := hon.trans on69
            have f_p0_1 := g69 _ _ _ _ f_p0_1 (by decide)
            have f_p0_11 := g69 _ _ _ _ f_p0_11 (by decide)
            have f_p0_8 := g69 _ _ _ _ fx58p0 (by decide)
            have hcs := R69_0
            rw [eg69] at hcs
            refine lv_goto (tgt := 9) hx hb dX12_summed_72 (by decide) ?_
            exact ih9 x58p0 (by omega) c46_xp101 c46_xp102 bx58p0 (show xp100.toInt + 1 ≤ x58p0.toInt from by have := (bx58p0).1; have := (bx58p0).2; have : (0 : Int32).toInt = 0 := (by decide); omega) H69 locs69 hw hkm hon f_p0_1 f_p0_11 f_p0_8 (cs.mono hcs (by omega) (by omega)) _ (lv_sub hl [1] rfl)
          · have oc61 := congrArg Int32.toInt c61
            have r61fp : iv x58 0 0 := (iv_both cx58 (iv_eq (show iv 0 0 0 from ⟨by decide, by decide⟩) c61)).mono (by decide) (by decide)
            have or61fp := iv_o r61fp
            have hcw := R58_3 (by omega)
            rw [eg58] at hcw
            refine lv_iconst (v := 0) hx hb dX12_summed_64 (by decide) ?_
            exact W.zret (v := 0) hx hb hr (iv_nz (show iv 0 0 1 from ⟨by decide, by decide⟩)) (fun t ht hW => ⟨some (.int 0), rfl, ⟨(0 : Int32), rfl, ⟨x58p0, by rw [ht]; exact hkm, by rw [ht]; exact hon, by rw [ht]; exact fx58p0, (show iv 0 0 1 from ⟨by decide, by decide⟩), bx58p0, (by intros; omega), (fun h9 => absurd k0 h9), (fun h9 => absurd k0 h9), (fun _ => by rw [ht]; exact hcw)⟩⟩, by rw [ht]; exact hw.1, hw.2.F ht⟩) hw.2.2.2 dX12_summed_65
        refine lv_icmp_ne (tgt := 45) hx hb dX12_summed_38 (by decide) (fun c38 => ?_) (fun c38 => ?_)
        · have oc38 := iv_neq c38
          refine lv_iconst (v := 3) hx hb dX12_summed_45 (by decide) ?_
          exact J46 (3 : Int32) (show iv 3 2 3 from ⟨by decide, by decide⟩) c27_xp101 c27_xp102 w27 (show xp100.toInt + 1 ≤ y27_fp0_8.toInt from by have := (w27).1; have := (w27).2; have : (43 : Int32).toInt = 43 := (by decide); omega) (show y27_fp0_8.toInt ≤ 399 from by have := (w27).1; have := (w27).2; have : (43 : Int32).toInt = 43 := (by decide); omega) (show y9_fp0_8.toInt ≤ y27_fp0_8.toInt from by have := (w27).1; have := (w27).2; have : (43 : Int32).toInt = 43 := (by decide); omega) H27 locs27 hw hkm hon f_p0_1 f_p0_11 f_p0_8 (cs.mono hcs (by omega) (by omega)) _ (lv_sub hl [0] rfl)
        · have oc38 := congrArg Int32.toInt c38
          have r38fp : iv x35 43 43 := (iv_both (iv_any x35) (iv_eq (show iv 43 43 43 from ⟨by decide, by decide⟩) c38)).mono (by decide) (by decide)
          have or38fp := iv_o r38fp
          refine lv_iconst (v := 2) hx hb dX12_summed_41 (by decide) ?_
          refine lv_goto (tgt := 46) hx hb dX12_summed_42 (by decide) ?_
          exact J46 (2 : Int32) (show iv 2 2 3 from ⟨by decide, by decide⟩) c27_xp101 c27_xp102 w27 (show xp100.toInt + 1 ≤ y27_fp0_8.toInt from by have := (w27).1; have := (w27).2; omega) (show y27_fp0_8.toInt ≤ 399 from by have := (w27).1; have := (w27).2; omega) (show y9_fp0_8.toInt ≤ y27_fp0_8.toInt from by have := (w27).1; have := (w27).2; omega) H27 locs27 hw hkm hon f_p0_1 f_p0_11 f_p0_8 (cs.mono hcs (by omega) (by omega)) _ (lv_sub hl [0] rfl)
      refine lv_icmp_eq (tgt := 27) hx hb dX12_summed_15 (by decide) (fun c15 => ?_) (fun c15 => ?_)
      · have oc15 := congrArg Int32.toInt c15
        have r15tp : iv x10 43 43 := (iv_both cx10 (iv_eq (show iv 43 43 43 from ⟨by decide, by decide⟩) c15)).mono (by decide) (by decide)
        have or15tp := iv_o r15tp
        exact J27 x10p0 c9_xp101 c9_xp102 bx10p0 (show xp100.toInt + 1 ≤ x10p0.toInt from by have := (bx10p0).1; have := (bx10p0).2; omega) (show x10p0.toInt ≤ 399 from by have := (bx10p0).1; have := (bx10p0).2; omega) (show y9_fp0_8.toInt ≤ x10p0.toInt from by have := (bx10p0).1; have := (bx10p0).2; omega) H10 locs10 hw hkm hon f_p0_1 f_p0_11 fx10p0 (cs.mono hcs (by omega) (by omega)) _ (lv_sub hl [0] rfl)
      · have oc15 := iv_neq c15
        refine lv_aload_n hx hb dX12_summed_18 rfl (lv_at hl 0 rfl) ?_
        refine hp_callei (va_runV (As := []) (rest := []) ⟨hx, hb, hml, hown, hts⟩ (sX12_see l D T ap0 x10p0 xp101 A Gm Tp ip0 bx10p0 c9_xp101) (cwV 0 hts gX12_summed_X12_see rfl rfl rfl (by decide +kernel) ⟨Nat.le_of_ble_eq_true rfl, Nat.le_of_ble_eq_true rfl⟩) (hp_preV hG hw hp0 rfl ⟨fx10p0, f_p0_1⟩) rfl rfl hl.1 rfl (lv_room (Nat.le_of_ble_eq_true rfl)) dX12_summed_19 ⟨Nat.zero_le _, Nat.zero_le _⟩) hw (fun x19 st19 t19 H19 locs19 eh19 eg19 bx19 hw => ?_)
        obtain ⟨x19p0, g19, on19, fx19p0, cx19, bx19p0, R19_0, R19_1⟩ := bx19
        rw [eh19, eg19] at g19 on19
        rw [eg19] at fx19p0
        have hkm := hkm.call g19 (by decide)
        have hon := hon.trans (hp_on.mono on19 (fun q h9 => by rcases h9 with rfl; exact Or.inl rfl))
        have f_p0_1 := g19 _ _ _ _ f_p0_1 (by decide)
        have f_p0_11 := g19 _ _ _ _ f_p0_11 (by decide)
        have obx19p0 := iv_o bx19p0
        have ocx19 := iv_o cx19
        have hcs := cs.on (T := T) hcs on19 g19 (fun h9 => hp_ne_ao hp0sign hp0 h9) (fun h9 => hp_ne_ao hp0len hp0 h9) (by decide)
        refine lv_bipush (v := 45) hx hb dX12_summed_22 (by decide) ?_
        refine lv_icmp_ne (tgt := 75) hx hb dX12_summed_24 (by decide) (fun c24 => ?_) (fun c24 => ?_)
        · have oc24 := iv_neq c24
          refine lv_iconst (v := 1) hx hb dX12_summed_75 (by decide) ?_
          exact W.zret (v := 1) hx hb hr (iv_nz (show iv 1 0 1 from ⟨by decide, by decide⟩)) (fun t ht hW => ⟨some (.int 1), rfl, ⟨(1 : Int32), rfl, ⟨x19p0, by rw [ht]; exact hkm, by rw [ht]; exact hon, by rw [ht]; exact fx19p0, (show iv 1 0 1 from ⟨by decide, by decide⟩), bx19p0, (by intros; omega), (fun _ => by omega), (fun _ => by rw [ht]; exact cs.mono hcs (by omega) (by omega)), (fun h9 => absurd h9 (by omega))⟩⟩, by rw [ht]; exact hw.1, hw.2.F ht⟩) hw.2.2.2 dX12_summed_76
        · have oc24 := congrArg Int32.toInt c24
          have r24fp : iv x19 45 45 := (iv_both cx19 (iv_eq (show iv 45 45 45 from ⟨by decide, by decide⟩) c24)).mono (by decide) (by decide)
          have or24fp := iv_o r24fp
          exact J27 x19p0 c9_xp101 c9_xp102 bx19p0 (show xp100.toInt + 1 ≤ x19p0.toInt from by have := (bx19p0).1; have := (bx19p0).2; have : (43 : Int32).toInt = 43 := (by decide); omega) (show x19p0.toInt ≤ 399 from by have := (bx19p0).1; have := (bx19p0).2; have : (43 : Int32).toInt = 43 := (by decide); omega) (show y9_fp0_8.toInt ≤ x19p0.toInt from by have := (bx19p0).1; have := (bx19p0).2; have : (43 : Int32).toInt = 43 := (by decide); omega) H19 locs19 hw hkm hon f_p0_1 f_p0_11 fx19p0 (cs.mono hcs (by omega) (by omega)) _ (lv_sub hl [0] rfl)
  refine lv_if_ne (tgt := 9) hx hb dX12_summed_4 (by decide) (fun c4 => ?_) (fun c4 => ?_)
  · have oc4 := iv_neq c4
    have r4tp : iv x1 1 1 := (iv_ne_lo c4 cx1 rfl).mono (by decide) (by decide)
    have or4tp := iv_o r4tp
    have hcs := R1_2 (by omega)
    rw [eg1] at hcs
    exact J9 _ x1p0 (Nat.lt_succ_self _) bp101 bp102 bx1p0 (show xp100.toInt + 1 ≤ x1p0.toInt from by have := (bx1p0).1; have := (bx1p0).2; have : (0 : Int32).toInt = 0 := (by decide); omega) H1 locs1 hw hkm hon f_p0_1 f_p0_11 fx1p0 (cs.mono hcs (by omega) (by omega)) _ (lv_sub hl [0] rfl)
  · have oc4 := congrArg Int32.toInt c4
    have r4fp : iv x1 0 0 := (iv_both cx1 (iv_eq (show iv 0 0 0 from ⟨by decide, by decide⟩) c4)).mono (by decide) (by decide)
    have or4fp := iv_o r4fp
    have hcw := R1_3 (by omega)
    rw [eg1] at hcw
    refine lv_iconst (v := 0) hx hb dX12_summed_7 (by decide) ?_
    exact W.zret (v := 0) hx hb hr (iv_nz (show iv 0 0 1 from ⟨by decide, by decide⟩)) (fun t ht hW => ⟨some (.int 0), rfl, ⟨(0 : Int32), rfl, ⟨x1p0, by rw [ht]; exact hkm, by rw [ht]; exact hon, by rw [ht]; exact fx1p0, (show iv 0 0 1 from ⟨by decide, by decide⟩), bx1p0, (by intros; omega), (fun h9 => absurd k0 h9), (fun h9 => absurd k0 h9), (fun _ => by rw [ht]; exact hcw)⟩⟩, by rw [ht]; exact hw.1, hw.2.F ht⟩) hw.2.2.2 dX12_summed_8
abbrev WX12_compare (p : Program) (l : Launch) (e : Env) (s : State) (m : MethodId) (below : List Frame) (meth : Method) (c : Code) (D : hp_D) (T : hp_T) (ap0 : Nat) (xp100 : Int32) (xp101 : Int32) (xp102 : Int32) (A : Nat → Nat) (Tp : Nat → Value) (gS0 : Nat → Int32) (gb : Int) (gh : Nat) (gB : Int) (H : Heap) (locs : List Loc) (g : JFrame) : Prop := W p l e (headSpec wsX12_compare ({ frames := 6, cells := 0, slots := 0, locals := 130 })).room s m ([.ref ap0] : List Value).toArray below meth c H locs 0 0 (MQ below (hq_e D T (fun v st t => ∃ r : Int32, v = some (.int r) ∧ ((∃ y0 : Int32, hp_km D [(12, 8), (12, 9), (12, 10), (12, 12)] st.heap t.heap ∧ hp_on (fun q => q = ap0 ∨ q = A 1 ∨ q = A 2) st.heap t.heap ∧ hp_f D t.heap ap0 12 8 (.int y0) ∧ iv r 0 1 ∧ iv y0 0 400 ∧ (xp100.toInt ≤ y0.toInt) ∧ (¬ r.toInt = 0 → xp100.toInt + 1 ≤ y0.toInt) ∧ (¬ r.toInt = 0 → cs D t.heap ap0 A xp102 gS0 gb (gh + 1) 0 (gB + (y0.toInt - xp100.toInt))) ∧ (r.toInt = 0 → csw D t.heap A xp102 gS0 gb))))) ([.ref ap0] : List Value).toArray s 0 0 (hp_F T)) g
set_option maxHeartbeats 4000000 in
set_option maxRecDepth 100000 in
theorem sX12_compare (l : Launch) (D : hp_D) (T : hp_T) (ap0 : Nat) (xp100 : Int32) (xp101 : Int32) (xp102 : Int32) (A : Nat → Nat) (Gm : moG) (Tp : Nat → Value) (ip0 : isMp T ap0 A Gm Tp) (gS0 : Nat → Int32) (gb : Int) (gh : Nat) (gB : Int) (hBd : gB ≤ xp100.toInt) (bp100 : iv xp100 0 400) (bp101 : iv xp101 0 400) (bp102 : iv xp102 0 5) : Met l yX12_compare wsX12_compare ({ frames := 6, cells := 0, slots := 0, locals := 130 }) (hp_Pc D T [.ref ap0] (fun H => hp_f D H ap0 12 8 (.int xp100) ∧ hp_f D H ap0 12 1 (.int xp101) ∧ hp_f D H ap0 12 11 (.int xp102) ∧ cs D H ap0 A xp102 gS0 gb gh 0 gB)) (hq_e D T (fun v st t => ∃ r : Int32, v = some (.int r) ∧ ((∃ y0 : Int32, hp_km D [(12, 8), (12, 9), (12, 10), (12, 12)] st.heap t.heap ∧ hp_on (fun q => q = ap0 ∨ q = A 1 ∨ q = A 2) st.heap t.heap ∧ hp_f D t.heap ap0 12 8 (.int y0) ∧ iv r 0 1 ∧ iv y0 0 400 ∧ (xp100.toInt ≤ y0.toInt) ∧ (¬ r.toInt = 0 → xp100.toInt + 1 ≤ y0.toInt) ∧ (¬ r.toInt = 0 → cs D t.heap ap0 A xp102 gS0 gb (gh + 1) 0 (gB + (y0.toInt - xp100.toInt))) ∧ (r.toInt = 0 → csw D t.heap A xp102 gS0 gb))))) 0 0 (hp_F T) := by
  obtain ⟨gok, tpok, hp0, hp0tape, hp0sign, hp0len, hp0clause, hp0clauses, hp0read, hp0opn, hp0stack, hp0word, hp0said, hp0was, hp0fitting, hp0sums, hp0sort, hp0sumsBy, hp0oneOf, hp0otherOf, hp0kept, hp0images, hp0acts, hp0iUnd, hp0iFor, hp0iX, hp0made⟩ := id ip0
  have hpx := gok.1
  have gsok := gok.2.2.2.2
  have ggd := gok.2.2.2.1
  refine Met.ofW (cc := cX12_compare) (maxL := 5) (ret := (some .boolean)) (by decide) rfl ?_
  intro p e s m args below meth c s₁ B hml hv
  obtain ⟨rfl, hok, hG, hB⟩ := hv
  have hx := B.exec
  have hb := B.bytes
  have hr := B.returns
  have hts := atoms_spec (ws := wsX12_compare) B.pre
  have hown : s.vm.findClass RX12 = some m.cls := findClass_of_methodNamed B.named
  have hlocks := B.notSynchronized
  have hK := hG.1
  have hw : hp_w D T s s.heap [] := hp_w.rf hok
  have IX12 : ∀ w ∈ wsX120, w ∈ wsX12_compare := by decide +kernel
  have L99 := hts (.fieldLink RX12 99 "PalmCensusModel" "next" "I") (by decide +kernel)
  have L89 := hts (.fieldLink RX12 89 "PalmCensusModel" "taped" "I") (by decide +kernel)
  have L7 := hts (.fieldLink RX12 7 "PalmCensusModel" "tape" "[B") (by decide +kernel)
  have hon : hp_on (fun q => q = ap0 ∨ q = A 1 ∨ q = A 2) s.heap s.heap := fun _ _ => rfl
  have k0 : (0 : Int32).toInt = 0 := (by decide)
  have k1 : (1 : Int32).toInt = 1 := (by decide)
  have k2 : (2 : Int32).toInt = 2 := (by decide)
  have k3 : (3 : Int32).toInt = 3 := (by decide)
  have k4 : (4 : Int32).toInt = 4 := (by decide)
  have k6 : (6 : Int32).toInt = 6 := (by decide)
  have k60 : (60 : Int32).toInt = 60 := (by decide)
  have k61 : (61 : Int32).toInt = 61 := (by decide)
  have k62 : (62 : Int32).toInt = 62 := (by decide)
  have obp100 := iv_o bp100
  have obp101 := iv_o bp101
  have obp102 := iv_o bp102
  have hkm : hp_km D [(12, 8), (12, 9), (12, 10), (12, 12)] s.heap s.heap := fun _ _ _ _ h _ => h
  have hl := lv_entry ([.ref ap0]) (n := 5) (Nat.le_of_ble_eq_true rfl)
  rw [lg_entry_eq]
  generalize (lg_sl ([.ref ap0]) ++ List.replicate (5 - (lg_sl ([.ref ap0])).length) Slot.unset).toArray = ls at hl ⊢
  have hl : lv_has ls 5 [(0, .ref ap0)] := hl
  show WX12_compare p l e s m below meth c D T ap0 xp100 xp101 xp102 A Tp gS0 gb gh gB s.heap [] (F0 m 0 ls [])
  have obp100 := iv_o bp100
  have obp101 := iv_o bp101
  have obp102 := iv_o bp102
  refine lv_aload_n hx hb dX12_compare_0 rfl (lv_at hl 0 rfl) ?_
  refine hp_callei (va_runV (As := []) (rest := []) ⟨hx, hb, hml, hown, hts⟩ (sX12_summed l D T ap0 xp100 xp101 xp102 A Gm Tp ip0 gS0 gb (gh) (gB) (by omega) bp100 bp101 bp102) (cwV 0 hts gX12_compare_X12_summed rfl rfl rfl (by decide +kernel) ⟨Nat.le_of_ble_eq_true rfl, Nat.le_of_ble_eq_true rfl⟩) (hp_preV hG hw hp0 rfl ⟨hB.1, hB.2.1, hB.2.2.1, hB.2.2.2⟩) rfl rfl hl.1 rfl (lv_room (Nat.le_of_ble_eq_true rfl)) dX12_compare_1 ⟨Nat.zero_le _, Nat.zero_le _⟩) hw (fun x1 st1 t1 H1 locs1 eh1 eg1 bx1 hw => ?_)
  obtain ⟨x1p0, g1, on1, fx1p0, cx1, bx1p0, R1_0, R1_1, R1_2, R1_3⟩ := bx1
  rw [eh1, eg1] at g1 on1
  rw [eg1] at fx1p0
  have hkm := hkm.call g1 (by decide)
  have hon := hon.trans on1
  have f_p0_1 := g1 _ _ _ _ hB.2.1 (by decide)
  have f_p0_11 := g1 _ _ _ _ hB.2.2.1 (by decide)
  have obx1p0 := iv_o bx1p0
  have ocx1 := iv_o cx1
  refine lv_if_ne (tgt := 9) hx hb dX12_compare_4 (by decide) (fun c4 => ?_) (fun c4 => ?_)
  · have oc4 := iv_neq c4
    have r4tp : iv x1 1 1 := (iv_ne_lo c4 cx1 rfl).mono (by decide) (by decide)
    have or4tp := iv_o r4tp
    have hcs := R1_2 (by omega)
    rw [eg1] at hcs
    refine lv_aload_n hx hb dX12_compare_9 rfl (lv_at hl 0 rfl) ?_
    refine hp_callei (va_runV (As := []) (rest := []) ⟨hx, hb, hml, hown, hts⟩ (sX12_see l D T ap0 x1p0 xp101 A Gm Tp ip0 bx1p0 bp101) (cwV 0 hts gX12_compare_X12_see rfl rfl rfl (by decide +kernel) ⟨Nat.le_of_ble_eq_true rfl, Nat.le_of_ble_eq_true rfl⟩) (hp_preV hG hw hp0 rfl ⟨fx1p0, f_p0_1⟩) rfl rfl hl.1 rfl (lv_room (Nat.le_of_ble_eq_true rfl)) dX12_compare_10 ⟨Nat.zero_le _, Nat.zero_le _⟩) hw (fun x10 st10 t10 H10 locs10 eh10 eg10 bx10 hw => ?_)
    obtain ⟨x10p0, g10, on10, fx10p0, cx10, bx10p0, R10_0, R10_1⟩ := bx10
    rw [eh10, eg10] at g10 on10
    rw [eg10] at fx10p0
    have hkm := hkm.call g10 (by decide)
    have hon := hon.trans (hp_on.mono on10 (fun q h9 => by rcases h9 with rfl; exact Or.inl rfl))
    have f_p0_1 := g10 _ _ _ _ f_p0_1 (by decide)
    have f_p0_11 := g10 _ _ _ _ f_p0_11 (by decide)
    have obx10p0 := iv_o bx10p0
    have ocx10 := iv_o cx10
    have hcs := cs.on (T := T) hcs on10 g10 (fun h9 => hp_ne_ao hp0sign hp0 h9) (fun h9 => hp_ne_ao hp0len hp0 h9) (by decide)
    refine lv_istore_n (lv' := [(1, .int x10), (0, .ref ap0)]) hx hb dX12_compare_13 rfl hl (by decide) rfl (fun ls hl => ?_)
    refine lv_aload_n hx hb dX12_compare_14 rfl (lv_at hl 1 rfl) ?_
    refine hp_getf hx hb hts IX12 hown hK fx10p0 rfl (by decide) L99 dX12_compare_15 ?_
    refine lv_istore_n (lv' := [(2, .int x10p0), (1, .int x10), (0, .ref ap0)]) hx hb dX12_compare_18 rfl hl (by decide) rfl (fun ls hl => ?_)
    refine lv_iload_n hx hb dX12_compare_19 rfl (lv_at hl 1 rfl) ?_
    refine lv_bipush (v := 60) hx hb dX12_compare_20 (by decide) ?_
    have J44 : iv x10 60 62 → iv x10p0 0 400 → iv xp101 0 400 → iv xp102 0 5 → (xp100.toInt + 1 ≤ x10p0.toInt) → (x10p0.toInt ≤ 399) → ∀ (H : Heap) (locs : List Loc), hp_w D T s H locs → hp_km D [(12, 8), (12, 9), (12, 10), (12, 12)] s.heap H → hp_on (fun q => q = ap0 ∨ q = A 1 ∨ q = A 2) s.heap H → hp_f D H ap0 12 1 (.int xp101) → hp_f D H ap0 12 11 (.int xp102) → hp_f D H ap0 12 8 (.int x10p0) → cs D H ap0 A xp102 gS0 gb (gh + 1) (0) (gB + (x10p0.toInt - xp100.toInt)) → ∀ (ls : Array Slot), lv_has ls 5 [(0, .ref ap0), (1, .int x10), (2, .int x10p0)] → WX12_compare p l e s m below meth c D T ap0 xp100 xp101 xp102 A Tp gS0 gb gh gB H locs (F0 m 44 ls []) := by
      intro c44_x10 c44_x10p0 c44_xp101 c44_xp102 hv44_0 hv44_1 H44 locs44 hw hkm hon f_p0_1 f_p0_11 f_p0_8 hcs ls hl
      have oc44_x10 := iv_o c44_x10
      have oc44_x10p0 := iv_o c44_x10p0
      have oc44_xp101 := iv_o c44_xp101
      have oc44_xp102 := iv_o c44_xp102
      have w44 : iv x10p0 0 399 := ⟨by omega, by omega⟩
      have ow44 := iv_o w44
      refine lv_aload_n hx hb dX12_compare_44 rfl (lv_at hl 0 rfl) ?_
      refine lv_dup hx hb dX12_compare_45 rfl ?_
      refine hp_getf hx hb hts IX12 hown hK f_p0_8 rfl (by decide) L99 dX12_compare_46 ?_
      refine lv_iconst (v := 1) hx hb dX12_compare_49 (by decide) ?_
      refine lv_iadd hx hb dX12_compare_50 ?_
      refine lv_topi (fun x50 ex50 => ?_)
      have bx50 : iv x50 1 400 := iv_add w44 (show iv 1 1 1 from ⟨by decide, by decide⟩) ex50 (by decide)
      have obx50 := iv_o bx50
      have qx50 := iv_add_eq w44 (show iv 1 1 1 from ⟨by decide, by decide⟩) ex50 (by decide)
      refine hp_putE hx hb hts IX12 tyX12 tyX12_ok nmX12 hown hK hw hp0 rfl 8 (by decide) L99 rfl rfl ⟨_, rfl, (bx50.mono (by decide) (by decide))⟩ rfl rfl dX12_compare_51 (fun H51 locs51 hw f51n g51 on51 => ?_)
      have hon := hon.trans (hp_on.mono (show hp_on (fun q => q = ap0) _ _ from on51) (fun q h9 => by rcases h9 with rfl; exact Or.inl rfl))
      have hcs := cs.put hcs g51 on51 (hp_ne_ao hp0sign hp0) (hp_ne_ao hp0len hp0) (by decide)
      have hkm := hkm.put g51 (by decide)
      have f_p0_1 := g51 _ _ _ _ f_p0_1 (Or.inr ⟨rfl, by decide⟩)
      have f_p0_11 := g51 _ _ _ _ f_p0_11 (Or.inr ⟨rfl, by decide⟩)
      refine lv_iload_n hx hb dX12_compare_54 rfl (lv_at hl 1 rfl) ?_
      refine lv_bipush (v := 61) hx hb dX12_compare_55 (by decide) ?_
      refine lv_icmp_eq (tgt := 89) hx hb dX12_compare_57 (by decide) (fun c57 => ?_) (fun c57 => ?_)
      · have oc57 := congrArg Int32.toInt c57
        have r57tp : iv x10 61 61 := (iv_both c44_x10 (iv_eq (show iv 61 61 61 from ⟨by decide, by decide⟩) c57)).mono (by decide) (by decide)
        have or57tp := iv_o r57tp
        refine lv_iconst (v := 0) hx hb dX12_compare_89 (by decide) ?_
        refine lv_istore_n (lv' := [(3, .int 0), (0, .ref ap0), (1, .int x10), (2, .int x10p0)]) hx hb dX12_compare_90 rfl hl (by decide) rfl (fun ls hl => ?_)
        refine lv_iload_n hx hb dX12_compare_91 rfl (lv_at hl 0 rfl) ?_
        have J105_89 : iv x10 60 62 → iv x10p0 0 399 → iv xp101 0 400 → iv xp102 0 5 → iv x50 1 400 → (xp100.toInt + 2 ≤ x50.toInt) → ∀ (H : Heap) (locs : List Loc), hp_w D T s H locs → hp_km D [(12, 8), (12, 9), (12, 10), (12, 12)] s.heap H → hp_on (fun q => q = ap0 ∨ q = A 1 ∨ q = A 2) s.heap H → hp_f D H ap0 12 1 (.int xp101) → hp_f D H ap0 12 11 (.int xp102) → hp_f D H ap0 12 8 (.int x50) → cs D H ap0 A xp102 gS0 gb (gh + 1) (0) (gB + (x50.toInt - xp100.toInt) - 1) → ∀ (ls : Array Slot), lv_has ls 5 [(0, .ref ap0), (1, .int x10), (2, .int x10p0), (3, .int 0)] → WX12_compare p l e s m below meth c D T ap0 xp100 xp101 xp102 A Tp gS0 gb gh gB H locs (F0 m 105 ls []) := by
          intro c105_x10 c105_x10p0 c105_xp101 c105_xp102 c105_x50 hv105_0 H105 locs105 hw hkm hon f_p0_1 f_p0_11 f_p0_8 hcs ls hl
          have oc105_x10 := iv_o c105_x10
          have oc105_x10p0 := iv_o c105_x10p0
          have oc105_xp101 := iv_o c105_xp101
          have oc105_xp102 := iv_o c105_xp102
          have oc105_x50 := iv_o c105_x50
          refine lv_aload_n hx hb dX12_compare_105 rfl (lv_at hl 0 rfl) ?_
          refine lv_iload_n hx hb dX12_compare_106 rfl (lv_at hl 2 rfl) ?_
          obtain ⟨m107, fm107, bm107⟩ := cs.field hcs (by omega)
          have obm107 := iv_o bm107
          refine hp_callei (va_runV (As := [.int x10p0]) (rest := []) ⟨hx, hb, hml, hown, hts⟩ (sX12_makes l D T ap0 x10p0 m107 A Gm Tp ip0 bm107) (cwV 1 hts gX12_compare_X12_makes rfl rfl rfl (by decide +kernel) ⟨Nat.le_of_ble_eq_true rfl, Nat.le_of_ble_eq_true rfl⟩) (hp_preV hG hw hp0 rfl fm107) rfl rfl hl.1 rfl (lv_room (Nat.le_of_ble_eq_true rfl)) dX12_compare_107 ⟨Nat.zero_le _, Nat.zero_le _⟩) hw (fun x107 st107 t107 H107 locs107 eh107 eg107 bx107 hw => ?_)
          obtain ⟨x107p0, g107, on107, fx107p0, cx107, bx107p0, R107_0, R107_1⟩ := bx107
          rw [eh107, eg107] at g107 on107
          rw [eg107] at fx107p0
          have hkm := hkm.call g107 (by decide)
          have hon := hon.trans (hp_on.mono on107 (fun q h9 => by rcases h9 with rfl; exact Or.inl rfl))
          have f_p0_1 := g107 _ _ _ _ f_p0_1 (by decide)
          have f_p0_11 := g107 _ _ _ _ f_p0_11 (by decide)
          have f_p0_8 := g107 _ _ _ _ f_p0_8 (by decide)
          have obx107p0 := iv_o bx107p0
          have ocx107 := iv_o cx107
          refine lv_if_ne (tgt := 115) hx hb dX12_compare_110 (by decide) (fun c110 => ?_) (fun c110 => ?_)
          · have oc110 := iv_neq c110
            have r110tp : iv x107 1 1 := (iv_ne_lo c110 cx107 rfl).mono (by decide) (by decide)
            have or110tp := iv_o r110tp
            have hcs := cs.made hcs fm107 on107 (fun h9 => hp_ne_ao hp0sign hp0 h9) (fun h9 => hp_ne_ao hp0len hp0 h9) fx107p0 (R107_0 (by omega)) (by omega)
            refine lv_iload_n hx hb dX12_compare_115 rfl (lv_at hl 1 rfl) ?_
            refine lv_bipush (v := 60) hx hb dX12_compare_116 (by decide) ?_
            have J152_89 : ∀ (y152_s0 : Int32), iv y152_s0 0 4 → iv xp101 0 400 → iv xp102 0 5 → iv x50 1 400 → (xp100.toInt + 2 ≤ x50.toInt) → ∀ (H : Heap) (locs : List Loc), hp_w D T s H locs → hp_km D [(12, 8), (12, 9), (12, 10), (12, 12)] s.heap H → hp_on (fun q => q = ap0 ∨ q = A 1 ∨ q = A 2) s.heap H → hp_f D H ap0 12 1 (.int xp101) → hp_f D H ap0 12 11 (.int xp102) → hp_f D H ap0 12 8 (.int x50) → cs D H ap0 A xp102 gS0 gb (gh + 1) (1) (gB + (x50.toInt - xp100.toInt) - 1) → ∀ (ls : Array Slot), lv_has ls 5 [(0, .ref ap0)] → WX12_compare p l e s m below meth c D T ap0 xp100 xp101 xp102 A Tp gS0 gb gh gB H locs (F0 m 152 ls [.int y152_s0]) := by
              intro y152_s0 c152_y152_s0 c152_xp101 c152_xp102 c152_x50 hv152_0 H152 locs152 hw hkm hon f_p0_1 f_p0_11 f_p0_8 hcs ls hl
              have oc152_y152_s0 := iv_o c152_y152_s0
              have oc152_xp101 := iv_o c152_xp101
              have oc152_xp102 := iv_o c152_xp102
              have oc152_x50 := iv_o c152_x50
              refine lv_istore (lv' := [(4, .int y152_s0), (0, .ref ap0)]) hx hb dX12_compare_152 hl (by decide) rfl (fun ls hl => ?_)
              refine lv_aload_n hx hb dX12_compare_154 rfl (lv_at hl 1 rfl) ?_
              have hcs := cs.mono hcs (show (0 : Int) ≤ _ by omega) (Int.le_refl _)
              refine hp_callei (va_runV (As := []) (rest := []) ⟨hx, hb, hml, hown, hts⟩ (sX12_summed l D T ap0 x50 xp101 xp102 A Gm Tp ip0 gS0 gb (gh + 1) (gB + (x50.toInt - xp100.toInt) - 1) (by omega) (c152_x50.mono (by decide) (by decide)) c152_xp101 c152_xp102) (cwV 0 hts gX12_compare_X12_summed rfl rfl rfl (by decide +kernel) ⟨Nat.le_of_ble_eq_true rfl, Nat.le_of_ble_eq_true rfl⟩) (hp_preV hG hw hp0 rfl ⟨f_p0_8, f_p0_1, f_p0_11, hcs⟩) rfl rfl hl.1 rfl (lv_room (Nat.le_of_ble_eq_true rfl)) dX12_compare_155 ⟨Nat.zero_le _, Nat.zero_le _⟩) hw (fun x155 st155 t155 H155 locs155 eh155 eg155 bx155 hw => ?_)
              obtain ⟨x155p0, g155, on155, fx155p0, cx155, bx155p0, R155_0, R155_1, R155_2, R155_3⟩ := bx155
              rw [eh155, eg155] at g155 on155
              rw [eg155] at fx155p0
              have hkm := hkm.call g155 (by decide)
              have hon := hon.trans on155
              have f_p0_1 := g155 _ _ _ _ f_p0_1 (by decide)
              have f_p0_11 := g155 _ _ _ _ f_p0_11 (by decide)
              have obx155p0 := iv_o bx155p0
              have ocx155 := iv_o cx155
              refine lv_if_ne (tgt := 163) hx hb dX12_compare_158 (by decide) (fun c158 => ?_) (fun c158 => ?_)
              · have oc158 := iv_neq c158
                have r158tp : iv x155 1 1 := (iv_ne_lo c158 cx155 rfl).mono (by decide) (by decide)
                have or158tp := iv_o r158tp
                have hcs := R155_2 (by omega)
                rw [eg155] at hcs
                refine lv_aload_n hx hb dX12_compare_163 rfl (lv_at hl 1 rfl) ?_
                refine lv_bipush (v := 6) hx hb dX12_compare_164 (by decide) ?_
                refine lv_iload hx hb dX12_compare_166 (lv_at hl 0 rfl) ?_
                refine lv_iadd hx hb dX12_compare_168 ?_
                refine lv_topi (fun x168 ex168 => ?_)
                have bx168 : iv x168 6 10 := iv_add (show iv 6 6 6 from ⟨by decide, by decide⟩) c152_y152_s0 ex168 (by decide)
                have obx168 := iv_o bx168
                have qx168 := iv_add_eq (show iv 6 6 6 from ⟨by decide, by decide⟩) c152_y152_s0 ex168 (by decide)
                refine lv_iconst (v := 0) hx hb dX12_compare_169 (by decide) ?_
                refine hp_callev (va_runV (As := [.int x168, .int 0]) (rest := []) ⟨hx, hb, hml, hown, hts⟩ (sX12_puts l D T ap0 x168 (0 : Int32) xp102 A Gm Tp ip0 gS0 gb (gh + 2) (gh + 1) (0) (0) (gB + (x50.toInt - xp100.toInt) - 1 + (x155p0.toInt - x50.toInt)) (c_bin bx168 (by decide) (by omega) _) (by omega) (by omega) c152_xp102) (cwV 2 hts gX12_compare_X12_puts rfl rfl rfl (by decide +kernel) ⟨Nat.le_of_ble_eq_true rfl, Nat.le_of_ble_eq_true rfl⟩) (hp_preV hG hw hp0 rfl ⟨f_p0_11, hcs⟩) rfl rfl hl.1 rfl (lv_room (Nat.le_of_ble_eq_true rfl)) dX12_compare_170 ⟨Nat.zero_le _, Nat.zero_le _⟩) hw (fun st170 t170 H170 locs170 eh170 eg170 bx170 hw => ?_)
                obtain ⟨g170, on170, R170_0⟩ := bx170
                rw [eh170, eg170] at g170 on170
                have hkm := hkm.call g170 (by decide)
                have hon := hon.trans on170
                have f_p0_1 := g170 _ _ _ _ f_p0_1 (by decide)
                have f_p0_11 := g170 _ _ _ _ f_p0_11 (by decide)
                have f_p0_8 := g170 _ _ _ _ fx155p0 (by decide)
                have hcs := R170_0
                rw [eg170] at hcs
                refine lv_iconst (v := 1) hx hb dX12_compare_173 (by decide) ?_
                exact W.zret (v := 1) hx hb hr (iv_nz (show iv 1 0 1 from ⟨by decide, by decide⟩)) (fun t ht hW => ⟨some (.int 1), rfl, ⟨(1 : Int32), rfl, ⟨x155p0, by rw [ht]; exact hkm, by rw [ht]; exact hon, by rw [ht]; exact f_p0_8, (show iv 1 0 1 from ⟨by decide, by decide⟩), bx155p0, (by intros; omega), (fun _ => by omega), (fun _ => by rw [ht]; exact cs.mono hcs (by omega) (by omega)), (fun h9 => absurd h9 (by omega))⟩⟩, by rw [ht]; exact hw.1, hw.2.F ht⟩) hw.2.2.2 dX12_compare_174
              · have oc158 := congrArg Int32.toInt c158
                have r158fp : iv x155 0 0 := (iv_both cx155 (iv_eq (show iv 0 0 0 from ⟨by decide, by decide⟩) c158)).mono (by decide) (by decide)
                have or158fp := iv_o r158fp
                have hcw := R155_3 (by omega)
                rw [eg155] at hcw
                refine lv_iconst (v := 0) hx hb dX12_compare_161 (by decide) ?_
                exact W.zret (v := 0) hx hb hr (iv_nz (show iv 0 0 1 from ⟨by decide, by decide⟩)) (fun t ht hW => ⟨some (.int 0), rfl, ⟨(0 : Int32), rfl, ⟨x155p0, by rw [ht]; exact hkm, by rw [ht]; exact hon, by rw [ht]; exact fx155p0, (show iv 0 0 1 from ⟨by decide, by decide⟩), bx155p0, (by intros; omega), (fun h9 => absurd k0 h9), (fun h9 => absurd k0 h9), (fun _ => by rw [ht]; exact hcw)⟩⟩, by rw [ht]; exact hw.1, hw.2.F ht⟩) hw.2.2.2 dX12_compare_162
            refine lv_icmp_ne (tgt := 133) hx hb dX12_compare_118 (by decide) (fun c118 => ?_) (fun c118 => ?_)
            · have oc118 := iv_neq c118
              have r118tp : iv x10 61 62 := (iv_ne_lo c118 c105_x10 rfl).mono (by decide) (by decide)
              have or118tp := iv_o r118tp
              refine lv_iload_n hx hb dX12_compare_133 rfl (lv_at hl 1 rfl) ?_
              refine lv_bipush (v := 61) hx hb dX12_compare_134 (by decide) ?_
              refine lv_icmp_ne (tgt := 143) hx hb dX12_compare_136 (by decide) (fun c136 => ?_) (fun c136 => ?_)
              · have oc136 := iv_neq c136
                have r136tp : iv x10 62 62 := (iv_ne_lo c136 r118tp rfl).mono (by decide) (by decide)
                have or136tp := iv_o r136tp
                refine lv_iload_n hx hb dX12_compare_143 rfl (lv_at hl 3 rfl) ?_
                refine lv_if_eq (tgt := 151) hx hb dX12_compare_144 (by decide) (fun c144 => ?_) (fun c144 => ?_)
                · have oc144 := congrArg Int32.toInt c144
                  refine lv_iconst (v := 4) hx hb dX12_compare_151 (by decide) ?_
                  exact J152_89 (4 : Int32) (show iv 4 0 4 from ⟨by decide, by decide⟩) c105_xp101 c105_xp102 c105_x50 (show xp100.toInt + 2 ≤ x50.toInt from by have := (c105_x50).1; have := (c105_x50).2; have := (c105_x10p0).1; have := (c105_x10p0).2; have : (0 : Int32).toInt = 0 := (by decide); have : (1 : Int32).toInt = 1 := (by decide); have : (60 : Int32).toInt = 60 := (by decide); have : (61 : Int32).toInt = 61 := (by decide); omega) H107 locs107 hw hkm hon f_p0_1 f_p0_11 f_p0_8 (cs.mono hcs (by omega) (by omega)) _ (lv_sub hl [0] rfl)
                · have oc144 := iv_neq c144
                  exact absurd rfl c144
              · have oc136 := congrArg Int32.toInt c136
                have r136fp : iv x10 61 61 := (iv_both r118tp (iv_eq (show iv 61 61 61 from ⟨by decide, by decide⟩) c136)).mono (by decide) (by decide)
                have or136fp := iv_o r136fp
                refine lv_iconst (v := 2) hx hb dX12_compare_139 (by decide) ?_
                refine lv_goto (tgt := 152) hx hb dX12_compare_140 (by decide) ?_
                exact J152_89 (2 : Int32) (show iv 2 0 4 from ⟨by decide, by decide⟩) c105_xp101 c105_xp102 c105_x50 (show xp100.toInt + 2 ≤ x50.toInt from by have := (c105_x50).1; have := (c105_x50).2; have := (c105_x10p0).1; have := (c105_x10p0).2; have : (0 : Int32).toInt = 0 := (by decide); have : (1 : Int32).toInt = 1 := (by decide); have : (60 : Int32).toInt = 60 := (by decide); omega) H107 locs107 hw hkm hon f_p0_1 f_p0_11 f_p0_8 (cs.mono hcs (by omega) (by omega)) _ (lv_sub hl [0] rfl)
            · have oc118 := congrArg Int32.toInt c118
              have r118fp : iv x10 60 60 := (iv_both c105_x10 (iv_eq (show iv 60 60 60 from ⟨by decide, by decide⟩) c118)).mono (by decide) (by decide)
              have or118fp := iv_o r118fp
              refine lv_iload_n hx hb dX12_compare_121 rfl (lv_at hl 3 rfl) ?_
              refine lv_if_eq (tgt := 129) hx hb dX12_compare_122 (by decide) (fun c122 => ?_) (fun c122 => ?_)
              · have oc122 := congrArg Int32.toInt c122
                refine lv_iconst (v := 0) hx hb dX12_compare_129 (by decide) ?_
                refine lv_goto (tgt := 152) hx hb dX12_compare_130 (by decide) ?_
                exact J152_89 (0 : Int32) (show iv 0 0 4 from ⟨by decide, by decide⟩) c105_xp101 c105_xp102 c105_x50 (show xp100.toInt + 2 ≤ x50.toInt from by have := (c105_x50).1; have := (c105_x50).2; have := (c105_x10p0).1; have := (c105_x10p0).2; have : (0 : Int32).toInt = 0 := (by decide); have : (1 : Int32).toInt = 1 := (by decide); omega) H107 locs107 hw hkm hon f_p0_1 f_p0_11 f_p0_8 (cs.mono hcs (by omega) (by omega)) _ (lv_sub hl [0] rfl)
              · have oc122 := iv_neq c122
                exact absurd rfl c122
          · have oc110 := congrArg Int32.toInt c110
            have r110fp : iv x107 0 0 := (iv_both cx107 (iv_eq (show iv 0 0 0 from ⟨by decide, by decide⟩) c110)).mono (by decide) (by decide)
            have or110fp := iv_o r110fp
            have hcw := csw.on (cs.w hcs) on107 (fun h9 => hp_ne_ao hp0sign hp0 h9)
            refine lv_iconst (v := 0) hx hb dX12_compare_113 (by decide) ?_
            exact W.zret (v := 0) hx hb hr (iv_nz (show iv 0 0 1 from ⟨by decide, by decide⟩)) (fun t ht hW => ⟨some (.int 0), rfl, ⟨(0 : Int32), rfl, ⟨x50, by rw [ht]; exact hkm, by rw [ht]; exact hon, by rw [ht]; exact f_p0_8, (show iv 0 0 1 from ⟨by decide, by decide⟩), (c105_x50.mono (by decide) (by decide)), (by intros; omega), (fun h9 => absurd k0 h9), (fun h9 => absurd k0 h9), (fun _ => by rw [ht]; exact hcw)⟩⟩, by rw [ht]; exact hw.1, hw.2.F ht⟩) hw.2.2.2 dX12_compare_114
        refine lv_if_eq (tgt := 105) hx hb dX12_compare_92 (by decide) (fun c92 => ?_) (fun c92 => ?_)
        · have oc92 := congrArg Int32.toInt c92
          exact J105_89 (r57tp.mono (by decide) (by decide)) w44 c44_xp101 c44_xp102 bx50 (show xp100.toInt + 2 ≤ x50.toInt from by have := (bx50).1; have := (bx50).2; have := (w44).1; have := (w44).2; have : (1 : Int32).toInt = 1 := (by decide); omega) H51 locs51 hw hkm hon f_p0_1 f_p0_11 f51n (cs.mono hcs (by omega) (by omega)) _ (lv_sub hl [1, 2, 3, 0] rfl)
        · have oc92 := iv_neq c92
          exact absurd rfl c92
      · have oc57 := iv_neq c57
        refine lv_aload_n hx hb dX12_compare_60 rfl (lv_at hl 0 rfl) ?_
        refine hp_getf hx hb hts IX12 hown hK f51n rfl (by decide) L99 dX12_compare_61 ?_
        refine lv_aload_n hx hb dX12_compare_64 rfl (lv_at hl 0 rfl) ?_
        refine hp_getf hx hb hts IX12 hown hK f_p0_1 rfl (by decide) L89 dX12_compare_65 ?_
        refine lv_icmp_ge (tgt := 89) hx hb dX12_compare_68 (by decide) (fun c68 => ?_) (fun c68 => ?_)
        · have oc68 := Int32.le_iff_toInt_le.mp c68
          refine lv_iconst (v := 0) hx hb dX12_compare_89 (by decide) ?_
          refine lv_istore_n (lv' := [(3, .int 0), (0, .ref ap0), (1, .int x10), (2, .int x10p0)]) hx hb dX12_compare_90 rfl hl (by decide) rfl (fun ls hl => ?_)
          refine lv_iload_n hx hb dX12_compare_91 rfl (lv_at hl 0 rfl) ?_
          have J105_89 : iv x10 60 62 → iv x10p0 0 399 → iv xp101 0 400 → iv xp102 0 5 → iv x50 1 400 → (xp100.toInt + 2 ≤ x50.toInt) → ∀ (H : Heap) (locs : List Loc), hp_w D T s H locs → hp_km D [(12, 8), (12, 9), (12, 10), (12, 12)] s.heap H → hp_on (fun q => q = ap0 ∨ q = A 1 ∨ q = A 2) s.heap H → hp_f D H ap0 12 1 (.int xp101) → hp_f D H ap0 12 11 (.int xp102) → hp_f D H ap0 12 8 (.int x50) → cs D H ap0 A xp102 gS0 gb (gh + 1) (0) (gB + (x50.toInt - xp100.toInt) - 1) → ∀ (ls : Array Slot), lv_has ls 5 [(0, .ref ap0), (1, .int x10), (2, .int x10p0), (3, .int 0)] → WX12_compare p l e s m below meth c D T ap0 xp100 xp101 xp102 A Tp gS0 gb gh gB H locs (F0 m 105 ls []) := by
            intro c105_x10 c105_x10p0 c105_xp101 c105_xp102 c105_x50 hv105_0 H105 locs105 hw hkm hon f_p0_1 f_p0_11 f_p0_8 hcs ls hl
            have oc105_x10 := iv_o c105_x10
            have oc105_x10p0 := iv_o c105_x10p0
            have oc105_xp101 := iv_o c105_xp101
            have oc105_xp102 := iv_o c105_xp102
            have oc105_x50 := iv_o c105_x50
            refine lv_aload_n hx hb dX12_compare_105 rfl (lv_at hl 0 rfl) ?_
            refine lv_iload_n hx hb dX12_compare_106 rfl (lv_at hl 2 rfl) ?_
            obtain ⟨m107, fm107, bm107⟩ := cs.field hcs (by omega)
            have obm107 := iv_o bm107
            refine hp_callei (va_runV (As := [.int x10p0]) (rest := []) ⟨hx, hb, hml, hown, hts⟩ (sX12_makes l D T ap0 x10p0 m107 A Gm Tp ip0 bm107) (cwV 1 hts gX12_compare_X12_makes rfl rfl rfl (by decide +kernel) ⟨Nat.le_of_ble_eq_true rfl, Nat.le_of_ble_eq_true rfl⟩) (hp_preV hG hw hp0 rfl fm107) rfl rfl hl.1 rfl (lv_room (Nat.le_of_ble_eq_true rfl)) dX12_compare_107 ⟨Nat.zero_le _, Nat.zero_le _⟩) hw (fun x107 st107 t107 H107 locs107 eh107 eg107 bx107 hw => ?_)
            obtain ⟨x107p0, g107, on107, fx107p0, cx107, bx107p0, R107_0, R107_1⟩ := bx107
            rw [eh107, eg107] at g107 on107
            rw [eg107] at fx107p0
            have hkm := hkm.call g107 (by decide)
            have hon := hon.trans (hp_on.mono on107 (fun q h9 => by rcases h9 with rfl; exact Or.inl rfl))
            have f_p0_1 := g107 _ _ _ _ f_p0_1 (by decide)
            have f_p0_11 := g107 _ _ _ _ f_p0_11 (by decide)
            have f_p0_8 := g107 _ _ _ _ f_p0_8 (by decide)
            have obx107p0 := iv_o bx107p0
            have ocx107 := iv_o cx107
            refine lv_if_ne (tgt := 115) hx hb dX12_compare_110 (by decide) (fun c110 => ?_) (fun c110 => ?_)
            · have oc110 := iv_neq c110
              have r110tp : iv x107 1 1 := (iv_ne_lo c110 cx107 rfl).mono (by decide) (by decide)
              have or110tp := iv_o r110tp
              have hcs := cs.made hcs fm107 on107 (fun h9 => hp_ne_ao hp0sign hp0 h9) (fun h9 => hp_ne_ao hp0len hp0 h9) fx107p0 (R107_0 (by omega)) (by omega)
              refine lv_iload_n hx hb dX12_compare_115 rfl (lv_at hl 1 rfl) ?_
              refine lv_bipush (v := 60) hx hb dX12_compare_116 (by decide) ?_
              have J152_89 : ∀ (y152_s0 : Int32), iv y152_s0 0 4 → iv xp101 0 400 → iv xp102 0 5 → iv x50 1 400 → (xp100.toInt + 2 ≤ x50.toInt) → ∀ (H : Heap) (locs : List Loc), hp_w D T s H locs → hp_km D [(12, 8), (12, 9), (12, 10), (12, 12)] s.heap H → hp_on (fun q => q = ap0 ∨ q = A 1 ∨ q = A 2) s.heap H → hp_f D H ap0 12 1 (.int xp101) → hp_f D H ap0 12 11 (.int xp102) → hp_f D H ap0 12 8 (.int x50) → cs D H ap0 A xp102 gS0 gb (gh + 1) (1) (gB + (x50.toInt - xp100.toInt) - 1) → ∀ (ls : Array Slot), lv_has ls 5 [(0, .ref ap0)] → WX12_compare p l e s m below meth c D T ap0 xp100 xp101 xp102 A Tp gS0 gb gh gB H locs (F0 m 152 ls [.int y152_s0]) := by
                intro y152_s0 c152_y152_s0 c152_xp101 c152_xp102 c152_x50 hv152_0 H152 locs152 hw hkm hon f_p0_1 f_p0_11 f_p0_8 hcs ls hl
                have oc152_y152_s0 := iv_o c152_y152_s0
                have oc152_xp101 := iv_o c152_xp101
                have oc152_xp102 := iv_o c152_xp102
                have oc152_x50 := iv_o c152_x50
                refine lv_istore (lv' := [(4, .int y152_s0), (0, .ref ap0)]) hx hb dX12_compare_152 hl (by decide) rfl (fun ls hl => ?_)
                refine lv_aload_n hx hb dX12_compare_154 rfl (lv_at hl 1 rfl) ?_
                have hcs := cs.mono hcs (show (0 : Int) ≤ _ by omega) (Int.le_refl _)
                refine hp_callei (va_runV (As := []) (rest := []) ⟨hx, hb, hml, hown, hts⟩ (sX12_summed l D T ap0 x50 xp101 xp102 A Gm Tp ip0 gS0 gb (gh + 1) (gB + (x50.toInt - xp100.toInt) - 1) (by omega) (c152_x50.mono (by decide) (by decide)) c152_xp101 c152_xp102) (cwV 0 hts gX12_compare_X12_summed rfl rfl rfl (by decide +kernel) ⟨Nat.le_of_ble_eq_true rfl, Nat.le_of_ble_eq_true rfl⟩) (hp_preV hG hw hp0 rfl ⟨f_p0_8, f_p0_1, f_p0_11, hcs⟩) rfl rfl hl.1 rfl (lv_room (Nat.le_of_ble_eq_true rfl)) dX12_compare_155 ⟨Nat.zero_le _, Nat.zero_le _⟩) hw (fun x155 st155 t155 H155 locs155 eh155 eg155 bx155 hw => ?_)
                obtain ⟨x155p0, g155, on155, fx155p0, cx155, bx155p0, R155_0, R155_1, R155_2, R155_3⟩ := bx155
                rw [eh155, eg155] at g155 on155
                rw [eg155] at fx155p0
                have hkm := hkm.call g155 (by decide)
                have hon := hon.trans on155
                have f_p0_1 := g155 _ _ _ _ f_p0_1 (by decide)
                have f_p0_11 := g155 _ _ _ _ f_p0_11 (by decide)
                have obx155p0 := iv_o bx155p0
                have ocx155 := iv_o cx155
                refine lv_if_ne (tgt := 163) hx hb dX12_compare_158 (by decide) (fun c158 => ?_) (fun c158 => ?_)
                · have oc158 := iv_neq c158
                  have r158tp : iv x155 1 1 := (iv_ne_lo c158 cx155 rfl).mono (by decide) (by decide)
                  have or158tp := iv_o r158tp
                  have hcs := R155_2 (by omega)
                  rw [eg155] at hcs
                  refine lv_aload_n hx hb dX12_compare_163 rfl (lv_at hl 1 rfl) ?_
                  refine lv_bipush (v := 6) hx hb dX12_compare_164 (by decide) ?_
                  refine lv_iload hx hb dX12_compare_166 (lv_at hl 0 rfl) ?_
                  refine lv_iadd hx hb dX12_compare_168 ?_
                  refine lv_topi (fun x168 ex168 => ?_)
                  have bx168 : iv x168 6 10 := iv_add (show iv 6 6 6 from ⟨by decide, by decide⟩) c152_y152_s0 ex168 (by decide)
                  have obx168 := iv_o bx168
                  have qx168 := iv_add_eq (show iv 6 6 6 from ⟨by decide, by decide⟩) c152_y152_s0 ex168 (by decide)
                  refine lv_iconst (v := 0) hx hb dX12_compare_169 (by decide) ?_
                  refine hp_callev (va_runV (As := [.int x168, .int 0]) (rest := []) ⟨hx, hb, hml, hown, hts⟩ (sX12_puts l D T ap0 x168 (0 : Int32) xp102 A Gm Tp ip0 gS0 gb (gh + 2) (gh + 1) (0) (0) (gB + (x50.toInt - xp100.toInt) - 1 + (x155p0.toInt - x50.toInt)) (c_bin bx168 (by decide) (by omega) _) (by omega) (by omega) c152_xp102) (cwV 2 hts gX12_compare_X12_puts rfl rfl rfl (by decide +kernel) ⟨Nat.le_of_ble_eq_true rfl, Nat.le_of_ble_eq_true rfl⟩) (hp_preV hG hw hp0 rfl ⟨f_p0_11, hcs⟩) rfl rfl hl.1 rfl (lv_room (Nat.le_of_ble_eq_true rfl)) dX12_compare_170 ⟨Nat.zero_le _, Nat.zero_le _⟩) hw (fun st170 t170 H170 locs170 eh170 eg170 bx170 hw => ?_)
                  obtain ⟨g170, on170, R170_0⟩ := bx170
                  rw [eh170, eg170] at g170 on170
                  have hkm := hkm.call g170 (by decide)
                  have hon := hon.trans on170
                  have f_p0_1 := g170 _ _ _ _ f_p0_1 (by decide)
                  have f_p0_11 := g170 _ _ _ _ f_p0_11 (by decide)
                  have f_p0_8 := g170 _ _ _ _ fx155p0 (by decide)
                  have hcs := R170_0
                  rw [eg170] at hcs
                  refine lv_iconst (v := 1) hx hb dX12_compare_173 (by decide) ?_
                  exact W.zret (v := 1) hx hb hr (iv_nz (show iv 1 0 1 from ⟨by decide, by decide⟩)) (fun t ht hW => ⟨some (.int 1), rfl, ⟨(1 : Int32), rfl, ⟨x155p0, by rw [ht]; exact hkm, by rw [ht]; exact hon, by rw [ht]; exact f_p0_8, (show iv 1 0 1 from ⟨by decide, by decide⟩), bx155p0, (by intros; omega), (fun _ => by omega), (fun _ => by rw [ht]; exact cs.mono hcs (by omega) (by omega)), (fun h9 => absurd h9 (by omega))⟩⟩, by rw [ht]; exact hw.1, hw.2.F ht⟩) hw.2.2.2 dX12_compare_174
                · have oc158 := congrArg Int32.toInt c158
                  have r158fp : iv x155 0 0 := (iv_both cx155 (iv_eq (show iv 0 0 0 from ⟨by decide, by decide⟩) c158)).mono (by decide) (by decide)
                  have or158fp := iv_o r158fp
                  have hcw := R155_3 (by omega)
                  rw [eg155] at hcw
                  refine lv_iconst (v := 0) hx hb dX12_compare_161 (by decide) ?_
                  exact W.zret (v := 0) hx hb hr (iv_nz (show iv 0 0 1 from ⟨by decide, by decide⟩)) (fun t ht hW => ⟨some (.int 0), rfl, ⟨(0 : Int32), rfl, ⟨x155p0, by rw [ht]; exact hkm, by rw [ht]; exact hon, by rw [ht]; exact fx155p0, (show iv 0 0 1 from ⟨by decide, by decide⟩), bx155p0, (by intros; omega), (fun h9 => absurd k0 h9), (fun h9 => absurd k0 h9), (fun _ => by rw [ht]; exact hcw)⟩⟩, by rw [ht]; exact hw.1, hw.2.F ht⟩) hw.2.2.2 dX12_compare_162
              refine lv_icmp_ne (tgt := 133) hx hb dX12_compare_118 (by decide) (fun c118 => ?_) (fun c118 => ?_)
              · have oc118 := iv_neq c118
                have r118tp : iv x10 61 62 := (iv_ne_lo c118 c105_x10 rfl).mono (by decide) (by decide)
                have or118tp := iv_o r118tp
                refine lv_iload_n hx hb dX12_compare_133 rfl (lv_at hl 1 rfl) ?_
                refine lv_bipush (v := 61) hx hb dX12_compare_134 (by decide) ?_
                refine lv_icmp_ne (tgt := 143) hx hb dX12_compare_136 (by decide) (fun c136 => ?_) (fun c136 => ?_)
                · have oc136 := iv_neq c136
                  have r136tp : iv x10 62 62 := (iv_ne_lo c136 r118tp rfl).mono (by decide) (by decide)
                  have or136tp := iv_o r136tp
                  refine lv_iload_n hx hb dX12_compare_143 rfl (lv_at hl 3 rfl) ?_
                  refine lv_if_eq (tgt := 151) hx hb dX12_compare_144 (by decide) (fun c144 => ?_) (fun c144 => ?_)
                  · have oc144 := congrArg Int32.toInt c144
                    refine lv_iconst (v := 4) hx hb dX12_compare_151 (by decide) ?_
                    exact J152_89 (4 : Int32) (show iv 4 0 4 from ⟨by decide, by decide⟩) c105_xp101 c105_xp102 c105_x50 (show xp100.toInt + 2 ≤ x50.toInt from by have := (c105_x50).1; have := (c105_x50).2; have := (c105_x10p0).1; have := (c105_x10p0).2; have : (0 : Int32).toInt = 0 := (by decide); have : (1 : Int32).toInt = 1 := (by decide); have : (60 : Int32).toInt = 60 := (by decide); have : (61 : Int32).toInt = 61 := (by decide); omega) H107 locs107 hw hkm hon f_p0_1 f_p0_11 f_p0_8 (cs.mono hcs (by omega) (by omega)) _ (lv_sub hl [0] rfl)
                  · have oc144 := iv_neq c144
                    exact absurd rfl c144
                · have oc136 := congrArg Int32.toInt c136
                  have r136fp : iv x10 61 61 := (iv_both r118tp (iv_eq (show iv 61 61 61 from ⟨by decide, by decide⟩) c136)).mono (by decide) (by decide)
                  have or136fp := iv_o r136fp
                  refine lv_iconst (v := 2) hx hb dX12_compare_139 (by decide) ?_
                  refine lv_goto (tgt := 152) hx hb dX12_compare_140 (by decide) ?_
                  exact J152_89 (2 : Int32) (show iv 2 0 4 from ⟨by decide, by decide⟩) c105_xp101 c105_xp102 c105_x50 (show xp100.toInt + 2 ≤ x50.toInt from by have := (c105_x50).1; have := (c105_x50).2; have := (c105_x10p0).1; have := (c105_x10p0).2; have : (0 : Int32).toInt = 0 := (by decide); have : (1 : Int32).toInt = 1 := (by decide); have : (60 : Int32).toInt = 60 := (by decide); omega) H107 locs107 hw hkm hon f_p0_1 f_p0_11 f_p0_8 (cs.mono hcs (by omega) (by omega)) _ (lv_sub hl [0] rfl)
              · have oc118 := congrArg Int32.toInt c118
                have r118fp : iv x10 60 60 := (iv_both c105_x10 (iv_eq (show iv 60 60 60 from ⟨by decide, by decide⟩) c118)).mono (by decide) (by decide)
                have or118fp := iv_o r118fp
                refine lv_iload_n hx hb dX12_compare_121 rfl (lv_at hl 3 rfl) ?_
                refine lv_if_eq (tgt := 129) hx hb dX12_compare_122 (by decide) (fun c122 => ?_) (fun c122 => ?_)
                · have oc122 := congrArg Int32.toInt c122
                  refine lv_iconst (v := 0) hx hb dX12_compare_129 (by decide) ?_
                  refine lv_goto (tgt := 152) hx hb dX12_compare_130 (by decide) ?_
                  exact J152_89 (0 : Int32) (show iv 0 0 4 from ⟨by decide, by decide⟩) c105_xp101 c105_xp102 c105_x50 (show xp100.toInt + 2 ≤ x50.toInt from by have := (c105_x50).1; have := (c105_x50).2; have := (c105_x10p0).1; have := (c105_x10p0).2; have : (0 : Int32).toInt = 0 := (by decide); have : (1 : Int32).toInt = 1 := (by decide); omega) H107 locs107 hw hkm hon f_p0_1 f_p0_11 f_p0_8 (cs.mono hcs (by omega) (by omega)) _ (lv_sub hl [0] rfl)
                · have oc122 := iv_neq c122
                  exact absurd rfl c122
            · have oc110 := congrArg Int32.toInt c110
              have r110fp : iv x107 0 0 := (iv_both cx107 (iv_eq (show iv 0 0 0 from ⟨by decide, by decide⟩) c110)).mono (by decide) (by decide)
              have or110fp := iv_o r110fp
              have hcw := csw.on (cs.w hcs) on107 (fun h9 => hp_ne_ao hp0sign hp0 h9)
              refine lv_iconst (v := 0) hx hb dX12_compare_113 (by decide) ?_
              exact W.zret (v := 0) hx hb hr (iv_nz (show iv 0 0 1 from ⟨by decide, by decide⟩)) (fun t ht hW => ⟨some (.int 0), rfl, ⟨(0 : Int32), rfl, ⟨x50, by rw [ht]; exact hkm, by rw [ht]; exact hon, by rw [ht]; exact f_p0_8, (show iv 0 0 1 from ⟨by decide, by decide⟩), (c105_x50.mono (by decide) (by decide)), (by intros; omega), (fun h9 => absurd k0 h9), (fun h9 => absurd k0 h9), (fun _ => by rw [ht]; exact hcw)⟩⟩, by rw [ht]; exact hw.1, hw.2.F ht⟩) hw.2.2.2 dX12_compare_114
          refine lv_if_eq (tgt := 105) hx hb dX12_compare_92 (by decide) (fun c92 => ?_) (fun c92 => ?_)
          · have oc92 := congrArg Int32.toInt c92
            exact J105_89 c44_x10 w44 c44_xp101 c44_xp102 bx50 (show xp100.toInt + 2 ≤ x50.toInt from by have := (bx50).1; have := (bx50).2; have := (c44_xp101).1; have := (c44_xp101).2; have := (w44).1; have := (w44).2; have := (Int32.le_iff_toInt_le.mp c68); have : (1 : Int32).toInt = 1 := (by decide); have : (61 : Int32).toInt = 61 := (by decide); omega) H51 locs51 hw hkm hon f_p0_1 f_p0_11 f51n (cs.mono hcs (by omega) (by omega)) _ (lv_sub hl [1, 2, 3, 0] rfl)
          · have oc92 := iv_neq c92
            exact absurd rfl c92
        · have oc68 := Int32.lt_iff_toInt_lt.mp (iv_nle c68)
          have r68fp : iv x50 1 399 := (iv_lt_l (iv_nle c68) bx50 c44_xp101).mono (by decide) (by decide)
          have or68fp := iv_o r68fp
          have r68fpu : iv x10p0 0 398 := iv_bku qx50 r68fp w44 (show iv 1 1 1 from ⟨by decide, by decide⟩) (by decide)
          have or68fpu := iv_o r68fpu
          have r68fq : iv xp101 2 400 := (iv_lt_r (iv_nle c68) bx50 c44_xp101).mono (by decide) (by decide)
          have or68fq := iv_o r68fq
          refine lv_aload_n hx hb dX12_compare_71 rfl (lv_at hl 0 rfl) ?_
          refine hp_getr hx hb hts IX12 hown hK hw.1 hp0 rfl 0 (by decide) L7 rfl dX12_compare_72 ?_
          refine lv_aload_n hx hb dX12_compare_75 rfl (lv_at hl 0 rfl) ?_
          refine hp_getf hx hb hts IX12 hown hK f51n rfl (by decide) L99 dX12_compare_76 ?_
          refine hp_bald hx hb hK hw.1 hp0tape (vp_iv r68fp (by decide)) dX12_compare_79 (fun v79 h79 => ?_)
          obtain ⟨x79, rfl⟩ := tpok _ _ h79
          have ex79 : Value.int x79 = Tp (x50).toNatClampNeg := h79
          refine lv_bipush (v := 61) hx hb dX12_compare_80 (by decide) ?_
          refine lv_icmp_ne (tgt := 89) hx hb dX12_compare_82 (by decide) (fun c82 => ?_) (fun c82 => ?_)
          · have oc82 := iv_neq c82
            refine lv_iconst (v := 0) hx hb dX12_compare_89 (by decide) ?_
            refine lv_istore_n (lv' := [(3, .int 0), (0, .ref ap0), (1, .int x10), (2, .int x10p0)]) hx hb dX12_compare_90 rfl hl (by decide) rfl (fun ls hl => ?_)
            refine lv_iload_n hx hb dX12_compare_91 rfl (lv_at hl 0 rfl) ?_
            have J105_89 : iv x10 60 62 → iv x10p0 0 399 → iv xp101 0 400 → iv xp102 0 5 → iv x50 1 400 → (xp100.toInt + 2 ≤ x50.toInt) → ∀ (H : Heap) (locs : List Loc), hp_w D T s H locs → hp_km D [(12, 8), (12, 9), (12, 10), (12, 12)] s.heap H → hp_on (fun q => q = ap0 ∨ q = A 1 ∨ q = A 2) s.heap H → hp_f D H ap0 12 1 (.int xp101) → hp_f D H ap0 12 11 (.int xp102) → hp_f D H ap0 12 8 (.int x50) → cs D H ap0 A xp102 gS0 gb (gh + 1) (0) (gB + (x50.toInt - xp100.toInt) - 1) → ∀ (ls : Array Slot), lv_has ls 5 [(0, .ref ap0), (1, .int x10), (2, .int x10p0), (3, .int 0)] → WX12_compare p l e s m below meth c D T ap0 xp100 xp101 xp102 A Tp gS0 gb gh gB H locs (F0 m 105 ls []) := by
              intro c105_x10 c105_x10p0 c105_xp101 c105_xp102 c105_x50 hv105_0 H105 locs105 hw hkm hon f_p0_1 f_p0_11 f_p0_8 hcs ls hl
              have oc105_x10 := iv_o c105_x10
              have oc105_x10p0 := iv_o c105_x10p0
              have oc105_xp101 := iv_o c105_xp101
              have oc105_xp102 := iv_o c105_xp102
              have oc105_x50 := iv_o c105_x50
              refine lv_aload_n hx hb dX12_compare_105 rfl (lv_at hl 0 rfl) ?_
              refine lv_iload_n hx hb dX12_compare_106 rfl (lv_at hl 2 rfl) ?_
              obtain ⟨m107, fm107, bm107⟩ := cs.field hcs (by omega)
              have obm107 := iv_o bm107
              refine hp_callei (va_runV (As := [.int x10p0]) (rest := []) ⟨hx, hb, hml, hown, hts⟩ (sX12_makes l D T ap0 x10p0 m107 A Gm Tp ip0 bm107) (cwV 1 hts gX12_compare_X12_makes rfl rfl rfl (by decide +kernel) ⟨Nat.le_of_ble_eq_true rfl, Nat.le_of_ble_eq_true rfl⟩) (hp_preV hG hw hp0 rfl fm107) rfl rfl hl.1 rfl (lv_room (Nat.le_of_ble_eq_true rfl)) dX12_compare_107 ⟨Nat.zero_le _, Nat.zero_le _⟩) hw (fun x107 st107 t107 H107 locs107 eh107 eg107 bx107 hw => ?_)
              obtain ⟨x107p0, g107, on107, fx107p0, cx107, bx107p0, R107_0, R107_1⟩ := bx107
              rw [eh107, eg107] at g107 on107
              rw [eg107] at fx107p0
              have hkm := hkm.call g107 (by decide)
              have hon := hon.trans (hp_on.mono on107 (fun q h9 => by rcases h9 with rfl; exact Or.inl rfl))
              have f_p0_1 := g107 _ _ _ _ f_p0_1 (by decide)
              have f_p0_11 := g107 _ _ _ _ f_p0_11 (by decide)
              have f_p0_8 := g107 _ _ _ _ f_p0_8 (by decide)
              have obx107p0 := iv_o bx107p0
              have ocx107 := iv_o cx107
              refine lv_if_ne (tgt := 115) hx hb dX12_compare_110 (by decide) (fun c110 => ?_) (fun c110 => ?_)
              · have oc110 := iv_neq c110
                have r110tp : iv x107 1 1 := (iv_ne_lo c110 cx107 rfl).mono (by decide) (by decide)
                have or110tp := iv_o r110tp
                have hcs := cs.made hcs fm107 on107 (fun h9 => hp_ne_ao hp0sign hp0 h9) (fun h9 => hp_ne_ao hp0len hp0 h9) fx107p0 (R107_0 (by omega)) (by omega)
                refine lv_iload_n hx hb dX12_compare_115 rfl (lv_at hl 1 rfl) ?_
                refine lv_bipush (v := 60) hx hb dX12_compare_116 (by decide) ?_
                have J152_89 : ∀ (y152_s0 : Int32), iv y152_s0 0 4 → iv xp101 0 400 → iv xp102 0 5 → iv x50 1 400 → (xp100.toInt + 2 ≤ x50.toInt) → ∀ (H : Heap) (locs : List Loc), hp_w D T s H locs → hp_km D [(12, 8), (12, 9), (12, 10), (12, 12)] s.heap H → hp_on (fun q => q = ap0 ∨ q = A 1 ∨ q = A 2) s.heap H → hp_f D H ap0 12 1 (.int xp101) → hp_f D H ap0 12 11 (.int xp102) → hp_f D H ap0 12 8 (.int x50) → cs D H ap0 A xp102 gS0 gb (gh + 1) (1) (gB + (x50.toInt - xp100.toInt) - 1) → ∀ (ls : Array Slot), lv_has ls 5 [(0, .ref ap0)] → WX12_compare p l e s m below meth c D T ap0 xp100 xp101 xp102 A Tp gS0 gb gh gB H locs (F0 m 152 ls [.int y152_s0]) := by
                  intro y152_s0 c152_y152_s0 c152_xp101 c152_xp102 c152_x50 hv152_0 H152 locs152 hw hkm hon f_p0_1 f_p0_11 f_p0_8 hcs ls hl
                  have oc152_y152_s0 := iv_o c152_y152_s0
                  have oc152_xp101 := iv_o c152_xp101
                  have oc152_xp102 := iv_o c152_xp102
                  have oc152_x50 := iv_o c152_x50
                  refine lv_istore (lv' := [(4, .int y152_s0), (0, .ref ap0)]) hx hb dX12_compare_152 hl (by decide) rfl (fun ls hl => ?_)
                  refine lv_aload_n hx hb dX12_compare_154 rfl (lv_at hl 1 rfl) ?_
                  have hcs := cs.mono hcs (show (0 : Int) ≤ _ by omega) (Int.le_refl _)
                  refine hp_callei (va_runV (As := []) (rest := []) ⟨hx, hb, hml, hown, hts⟩ (sX12_summed l D T ap0 x50 xp101 xp102 A Gm Tp ip0 gS0 gb (gh + 1) (gB + (x50.toInt - xp100.toInt) - 1) (by omega) (c152_x50.mono (by decide) (by decide)) c152_xp101 c152_xp102) (cwV 0 hts gX12_compare_X12_summed rfl rfl rfl (by decide +kernel) ⟨Nat.le_of_ble_eq_true rfl, Nat.le_of_ble_eq_true rfl⟩) (hp_preV hG hw hp0 rfl ⟨f_p0_8, f_p0_1, f_p0_11, hcs⟩) rfl rfl hl.1 rfl (lv_room (Nat.le_of_ble_eq_true rfl)) dX12_compare_155 ⟨Nat.zero_le _, Nat.zero_le _⟩) hw (fun x155 st155 t155 H155 locs155 eh155 eg155 bx155 hw => ?_)
                  obtain ⟨x155p0, g155, on155, fx155p0, cx155, bx155p0, R155_0, R155_1, R155_2, R155_3⟩ := bx155
                  rw [eh155, eg155] at g155 on155
                  rw [eg155] at fx155p0
                  have hkm := hkm.call g155 (by decide)
                  have hon := hon.trans on155
                  have f_p0_1 := g155 _ _ _ _ f_p0_1 (by decide)
                  have f_p0_11 := g155 _ _ _ _ f_p0_11 (by decide)
                  have obx155p0 := iv_o bx155p0
                  have ocx155 := iv_o cx155
                  refine lv_if_ne (tgt := 163) hx hb dX12_compare_158 (by decide) (fun c158 => ?_) (fun c158 => ?_)
                  · have oc158 := iv_neq c158
                    have r158tp : iv x155 1 1 := (iv_ne_lo c158 cx155 rfl).mono (by decide) (by decide)
                    have or158tp := iv_o r158tp
                    have hcs := R155_2 (by omega)
                    rw [eg155] at hcs
                    refine lv_aload_n hx hb dX12_compare_163 rfl (lv_at hl 1 rfl) ?_
                    refine lv_bipush (v := 6) hx hb dX12_compare_164 (by decide) ?_
                    refine lv_iload hx hb dX12_compare_166 (lv_at hl 0 rfl) ?_
                    refine lv_iadd hx hb dX12_compare_168 ?_
                    refine lv_topi (fun x168 ex168 => ?_)
                    have bx168 : iv x168 6 10 := iv_add (show iv 6 6 6 from ⟨by decide, by decide⟩) c152_y152_s0 ex168 (by decide)
                    have obx168 := iv_o bx168
                    have qx168 := iv_add_eq (show iv 6 6 6 from ⟨by decide, by decide⟩) c152_y152_s0 ex168 (by decide)
                    refine lv_iconst (v := 0) hx hb dX12_compare_169 (by decide) ?_
                    refine hp_callev (va_runV (As := [.int x168, .int 0]) (rest := []) ⟨hx, hb, hml, hown, hts⟩ (sX12_puts l D T ap0 x168 (0 : Int32) xp102 A Gm Tp ip0 gS0 gb (gh + 2) (gh + 1) (0) (0) (gB + (x50.toInt - xp100.toInt) - 1 + (x155p0.toInt - x50.toInt)) (c_bin bx168 (by decide) (by omega) _) (by omega) (by omega) c152_xp102) (cwV 2 hts gX12_compare_X12_puts rfl rfl rfl (by decide +kernel) ⟨Nat.le_of_ble_eq_true rfl, Nat.le_of_ble_eq_true rfl⟩) (hp_preV hG hw hp0 rfl ⟨f_p0_11, hcs⟩) rfl rfl hl.1 rfl (lv_room (Nat.le_of_ble_eq_true rfl)) dX12_compare_170 ⟨Nat.zero_le _, Nat.zero_le _⟩) hw (fun st170 t170 H170 locs170 eh170 eg170 bx170 hw => ?_)
                    obtain ⟨g170, on170, R170_0⟩ := bx170
                    rw [eh170, eg170] at g170 on170
                    have hkm := hkm.call g170 (by decide)
                    have hon := hon.trans on170
                    have f_p0_1 := g170 _ _ _ _ f_p0_1 (by decide)
                    have f_p0_11 := g170 _ _ _ _ f_p0_11 (by decide)
                    have f_p0_8 := g170 _ _ _ _ fx155p0 (by decide)
                    have hcs := R170_0
                    rw [eg170] at hcs
                    refine lv_iconst (v := 1) hx hb dX12_compare_173 (by decide) ?_
                    exact W.zret (v := 1) hx hb hr (iv_nz (show iv 1 0 1 from ⟨by decide, by decide⟩)) (fun t ht hW => ⟨some (.int 1), rfl, ⟨(1 : Int32), rfl, ⟨x155p0, by rw [ht]; exact hkm, by rw [ht]; exact hon, by rw [ht]; exact f_p0_8, (show iv 1 0 1 from ⟨by decide, by decide⟩), bx155p0, (by intros; omega), (fun _ => by omega), (fun _ => by rw [ht]; exact cs.mono hcs (by omega) (by omega)), (fun h9 => absurd h9 (by omega))⟩⟩, by rw [ht]; exact hw.1, hw.2.F ht⟩) hw.2.2.2 dX12_compare_174
                  · have oc158 := congrArg Int32.toInt c158
                    have r158fp : iv x155 0 0 := (iv_both cx155 (iv_eq (show iv 0 0 0 from ⟨by decide, by decide⟩) c158)).mono (by decide) (by decide)
                    have or158fp := iv_o r158fp
                    have hcw := R155_3 (by omega)
                    rw [eg155] at hcw
                    refine lv_iconst (v := 0) hx hb dX12_compare_161 (by decide) ?_
                    exact W.zret (v := 0) hx hb hr (iv_nz (show iv 0 0 1 from ⟨by decide, by decide⟩)) (fun t ht hW => ⟨some (.int 0), rfl, ⟨(0 : Int32), rfl, ⟨x155p0, by rw [ht]; exact hkm, by rw [ht]; exact hon, by rw [ht]; exact fx155p0, (show iv 0 0 1 from ⟨by decide, by decide⟩), bx155p0, (by intros; omega), (fun h9 => absurd k0 h9), (fun h9 => absurd k0 h9), (fun _ => by rw [ht]; exact hcw)⟩⟩, by rw [ht]; exact hw.1, hw.2.F ht⟩) hw.2.2.2 dX12_compare_162
                refine lv_icmp_ne (tgt := 133) hx hb dX12_compare_118 (by decide) (fun c118 => ?_) (fun c118 => ?_)
                · have oc118 := iv_neq c118
                  have r118tp : iv x10 61 62 := (iv_ne_lo c118 c105_x10 rfl).mono (by decide) (by decide)
                  have or118tp := iv_o r118tp
                  refine lv_iload_n hx hb dX12_compare_133 rfl (lv_at hl 1 rfl) ?_
                  refine lv_bipush (v := 61) hx hb dX12_compare_134 (by decide) ?_
                  refine lv_icmp_ne (tgt := 143) hx hb dX12_compare_136 (by decide) (fun c136 => ?_) (fun c136 => ?_)
                  · have oc136 := iv_neq c136
                    have r136tp : iv x10 62 62 := (iv_ne_lo c136 r118tp rfl).mono (by decide) (by decide)
                    have or136tp := iv_o r136tp
                    refine lv_iload_n hx hb dX12_compare_143 rfl (lv_at hl 3 rfl) ?_
                    refine lv_if_eq (tgt := 151) hx hb dX12_compare_144 (by decide) (fun c144 => ?_) (fun c144 => ?_)
                    · have oc144 := congrArg Int32.toInt c144
                      refine lv_iconst (v := 4) hx hb dX12_compare_151 (by decide) ?_
                      exact J152_89 (4 : Int32) (show iv 4 0 4 from ⟨by decide, by decide⟩) c105_xp101 c105_xp102 c105_x50 (show xp100.toInt + 2 ≤ x50.toInt from by have := (c105_x50).1; have := (c105_x50).2; have := (c105_x10p0).1; have := (c105_x10p0).2; have : (0 : Int32).toInt = 0 := (by decide); have : (1 : Int32).toInt = 1 := (by decide); have : (60 : Int32).toInt = 60 := (by decide); have : (61 : Int32).toInt = 61 := (by decide); omega) H107 locs107 hw hkm hon f_p0_1 f_p0_11 f_p0_8 (cs.mono hcs (by omega) (by omega)) _ (lv_sub hl [0] rfl)
                    · have oc144 := iv_neq c144
                      exact absurd rfl c144
                  · have oc136 := congrArg Int32.toInt c136
                    have r136fp : iv x10 61 61 := (iv_both r118tp (iv_eq (show iv 61 61 61 from ⟨by decide, by decide⟩) c136)).mono (by decide) (by decide)
                    have or136fp := iv_o r136fp
                    refine lv_iconst (v := 2) hx hb dX12_compare_139 (by decide) ?_
                    refine lv_goto (tgt := 152) hx hb dX12_compare_140 (by decide) ?_
                    exact J152_89 (2 : Int32) (show iv 2 0 4 from ⟨by decide, by decide⟩) c105_xp101 c105_xp102 c105_x50 (show xp100.toInt + 2 ≤ x50.toInt from by have := (c105_x50).1; have := (c105_x50).2; have := (c105_x10p0).1; have := (c105_x10p0).2; have : (0 : Int32).toInt = 0 := (by decide); have : (1 : Int32).toInt = 1 := (by decide); have : (60 : Int32).toInt = 60 := (by decide); omega) H107 locs107 hw hkm hon f_p0_1 f_p0_11 f_p0_8 (cs.mono hcs (by omega) (by omega)) _ (lv_sub hl [0] rfl)
                · have oc118 := congrArg Int32.toInt c118
                  have r118fp : iv x10 60 60 := (iv_both c105_x10 (iv_eq (show iv 60 60 60 from ⟨by decide, by decide⟩) c118)).mono (by decide) (by decide)
                  have or118fp := iv_o r118fp
                  refine lv_iload_n hx hb dX12_compare_121 rfl (lv_at hl 3 rfl) ?_
                  refine lv_if_eq (tgt := 129) hx hb dX12_compare_122 (by decide) (fun c122 => ?_) (fun c122 => ?_)
                  · have oc122 := congrArg Int32.toInt c122
                    refine lv_iconst (v := 0) hx hb dX12_compare_129 (by decide) ?_
                    refine lv_goto (tgt := 152) hx hb dX12_compare_130 (by decide) ?_
                    exact J152_89 (0 : Int32) (show iv 0 0 4 from ⟨by decide, by decide⟩) c105_xp101 c105_xp102 c105_x50 (show xp100.toInt + 2 ≤ x50.toInt from by have := (c105_x50).1; have := (c105_x50).2; have := (c105_x10p0).1; have := (c105_x10p0).2; have : (0 : Int32).toInt = 0 := (by decide); have : (1 : Int32).toInt = 1 := (by decide); omega) H107 locs107 hw hkm hon f_p0_1 f_p0_11 f_p0_8 (cs.mono hcs (by omega) (by omega)) _ (lv_sub hl [0] rfl)
                  · have oc122 := iv_neq c122
                    exact absurd rfl c122
              · have oc110 := congrArg Int32.toInt c110
                have r110fp : iv x107 0 0 := (iv_both cx107 (iv_eq (show iv 0 0 0 from ⟨by decide, by decide⟩) c110)).mono (by decide) (by decide)
                have or110fp := iv_o r110fp
                have hcw := csw.on (cs.w hcs) on107 (fun h9 => hp_ne_ao hp0sign hp0 h9)
                refine lv_iconst (v := 0) hx hb dX12_compare_113 (by decide) ?_
                exact W.zret (v := 0) hx hb hr (iv_nz (show iv 0 0 1 from ⟨by decide, by decide⟩)) (fun t ht hW => ⟨some (.int 0), rfl, ⟨(0 : Int32), rfl, ⟨x50, by rw [ht]; exact hkm, by rw [ht]; exact hon, by rw [ht]; exact f_p0_8, (show iv 0 0 1 from ⟨by decide, by decide⟩), (c105_x50.mono (by decide) (by decide)), (by intros; omega), (fun h9 => absurd k0 h9), (fun h9 => absurd k0 h9), (fun _ => by rw [ht]; exact hcw)⟩⟩, by rw [ht]; exact hw.1, hw.2.F ht⟩) hw.2.2.2 dX12_compare_114
            refine lv_if_eq (tgt := 105) hx hb dX12_compare_92 (by decide) (fun c92 => ?_) (fun c92 => ?_)
            · have oc92 := congrArg Int32.toInt c92
              exact J105_89 c44_x10 (r68fpu.mono (by decide) (by decide)) (r68fq.mono (by decide) (by decide)) c44_xp102 (r68fp.mono (by decide) (by decide)) (show xp100.toInt + 2 ≤ x50.toInt from by have := (r68fp).1; have := (r68fp).2; have := (r68fq).1; have := (r68fq).2; have := (r68fpu).1; have := (r68fpu).2; have := (Int32.lt_iff_toInt_lt.mp (iv_nle c68)); have : (1 : Int32).toInt = 1 := (by decide); have : (61 : Int32).toInt = 61 := (by decide); omega) H51 locs51 hw hkm hon f_p0_1 f_p0_11 f51n (cs.mono hcs (by omega) (by omega)) _ (lv_sub hl [1, 2, 3, 0] rfl)
            · have oc92 := iv_neq c92
              exact absurd rfl c92
          · have oc82 := congrArg Int32.toInt c82
            have r82fp : iv x79 61 61 := (iv_both (iv_any x79) (iv_eq (show iv 61 61 61 from ⟨by decide, by decide⟩) c82)).mono (by decide) (by decide)
            have or82fp := iv_o r82fp
            refine lv_iconst (v := 1) hx hb dX12_compare_85 (by decide) ?_
            refine lv_goto (tgt := 90) hx hb dX12_compare_86 (by decide) ?_
            refine lv_istore_n (lv' := [(3, .int 1), (0, .ref ap0), (1, .int x10), (2, .int x10p0)]) hx hb dX12_compare_90 rfl hl (by decide) rfl (fun ls hl => ?_)
            refine lv_iload_n hx hb dX12_compare_91 rfl (lv_at hl 0 rfl) ?_
            refine lv_if_eq (tgt := 105) hx hb dX12_compare_92 (by decide) (fun c92 => ?_) (fun c92 => ?_)
            · have oc92 := congrArg Int32.toInt c92
              exact iv_abs2 c92 (show iv 1 1 1 from ⟨by decide, by decide⟩) (show iv 0 0 0 from ⟨by decide, by decide⟩) (by decide)
            · have oc92 := iv_neq c92
              refine lv_aload_n hx hb dX12_compare_95 rfl (lv_at hl 1 rfl) ?_
              refine lv_dup hx hb dX12_compare_96 rfl ?_
              refine hp_getf hx hb hts IX12 hown hK f51n rfl (by decide) L99 dX12_compare_97 ?_
              refine lv_iconst (v := 1) hx hb dX12_compare_100 (by decide) ?_
              refine lv_iadd hx hb dX12_compare_101 ?_
              refine lv_topi (fun x101 ex101 => ?_)
              have bx101 : iv x101 2 400 := iv_add r68fp (show iv 1 1 1 from ⟨by decide, by decide⟩) ex101 (by decide)
              have obx101 := iv_o bx101
              have qx101 := iv_add_eq r68fp (show iv 1 1 1 from ⟨by decide, by decide⟩) ex101 (by decide)
              refine hp_putE hx hb hts IX12 tyX12 tyX12_ok nmX12 hown hK hw hp0 rfl 8 (by decide) L99 rfl rfl ⟨_, rfl, (bx101.mono (by decide) (by decide))⟩ rfl rfl dX12_compare_102 (fun H102 locs102 hw f102n g102 on102 => ?_)
              have hon := hon.trans (hp_on.mono (show hp_on (fun q => q = ap0) _ _ from on102) (fun q h9 => by rcases h9 with rfl; exact Or.inl rfl))
              have hcs := cs.put hcs g102 on102 (hp_ne_ao hp0sign hp0) (hp_ne_ao hp0len hp0) (by decide)
              have hkm := hkm.put g102 (by decide)
              have f_p0_1 := g102 _ _ _ _ f_p0_1 (Or.inr ⟨rfl, by decide⟩)
              have f_p0_11 := g102 _ _ _ _ f_p0_11 (Or.inr ⟨rfl, by decide⟩)
              refine lv_aload_n hx hb dX12_compare_105 rfl (lv_at hl 1 rfl) ?_
              refine lv_iload_n hx hb dX12_compare_106 rfl (lv_at hl 3 rfl) ?_
              obtain ⟨m107, fm107, bm107⟩ := cs.field hcs (by omega)
              have obm107 := iv_o bm107
              refine hp_callei (va_runV (As := [.int x10p0]) (rest := []) ⟨hx, hb, hml, hown, hts⟩ (sX12_makes l D T ap0 x10p0 m107 A Gm Tp ip0 bm107) (cwV 1 hts gX12_compare_X12_makes rfl rfl rfl (by decide +kernel) ⟨Nat.le_of_ble_eq_true rfl, Nat.le_of_ble_eq_true rfl⟩) (hp_preV hG hw hp0 rfl fm107) rfl rfl hl.1 rfl (lv_room (Nat.le_of_ble_eq_true rfl)) dX12_compare_107 ⟨Nat.zero_le _, Nat.zero_le _⟩) hw (fun x107 st107 t107 H107 locs107 eh107 eg107 bx107 hw => ?_)
              obtain ⟨x107p0, g107, on107, fx107p0, cx107, bx107p0, R107_0, R107_1⟩ := bx107
              rw [eh107, eg107] at g107 on107
              rw [eg107] at fx107p0
              have hkm := hkm.call g107 (by decide)
              have hon := hon.trans (hp_on.mono on107 (fun q h9 => by rcases h9 with rfl; exact Or.inl rfl))
              have f_p0_1 := g107 _ _ _ _ f_p0_1 (by decide)
              have f_p0_11 := g107 _ _ _ _ f_p0_11 (by decide)
              have f_p0_8 := g107 _ _ _ _ f102n (by decide)
              have obx107p0 := iv_o bx107p0
              have ocx107 := iv_o cx107
              refine lv_if_ne (tgt := 115) hx hb dX12_compare_110 (by decide) (fun c110 => ?_) (fun c110 => ?_)
              · have oc110 := iv_neq c110
                have r110tp : iv x107 1 1 := (iv_ne_lo c110 cx107 rfl).mono (by decide) (by decide)
                have or110tp := iv_o r110tp
                have hcs := cs.made hcs fm107 on107 (fun h9 => hp_ne_ao hp0sign hp0 h9) (fun h9 => hp_ne_ao hp0len hp0 h9) fx107p0 (R107_0 (by omega)) (by omega)
                refine lv_iload_n hx hb dX12_compare_115 rfl (lv_at hl 2 rfl) ?_
                refine lv_bipush (v := 60) hx hb dX12_compare_116 (by decide) ?_
                have J152_86 : ∀ (y152_s0 : Int32), iv y152_s0 1 3 → iv xp101 2 400 → iv xp102 0 5 → iv x101 2 400 → (xp100.toInt + 2 ≤ x101.toInt) → ∀ (H : Heap) (locs : List Loc), hp_w D T s H locs → hp_km D [(12, 8), (12, 9), (12, 10), (12, 12)] s.heap H → hp_on (fun q => q = ap0 ∨ q = A 1 ∨ q = A 2) s.heap H → hp_f D H ap0 12 1 (.int xp101) → hp_f D H ap0 12 11 (.int xp102) → hp_f D H ap0 12 8 (.int x101) → cs D H ap0 A xp102 gS0 gb (gh + 1) (1) (gB + (x101.toInt - xp100.toInt) - 1) → ∀ (ls : Array Slot), lv_has ls 5 [(0, .ref ap0)] → WX12_compare p l e s m below meth c D T ap0 xp100 xp101 xp102 A Tp gS0 gb gh gB H locs (F0 m 152 ls [.int y152_s0]) := by
                  intro y152_s0 c152_y152_s0 c152_xp101 c152_xp102 c152_x101 hv152_0 H152 locs152 hw hkm hon f_p0_1 f_p0_11 f_p0_8 hcs ls hl
                  have oc152_y152_s0 := iv_o c152_y152_s0
                  have oc152_xp101 := iv_o c152_xp101
                  have oc152_xp102 := iv_o c152_xp102
                  have oc152_x101 := iv_o c152_x101
                  refine lv_istore (lv' := [(4, .int y152_s0), (0, .ref ap0)]) hx hb dX12_compare_152 hl (by decide) rfl (fun ls hl => ?_)
                  refine lv_aload_n hx hb dX12_compare_154 rfl (lv_at hl 1 rfl) ?_
                  have hcs := cs.mono hcs (show (0 : Int) ≤ _ by omega) (Int.le_refl _)
                  refine hp_callei (va_runV (As := []) (rest := []) ⟨hx, hb, hml, hown, hts⟩ (sX12_summed l D T ap0 x101 xp101 xp102 A Gm Tp ip0 gS0 gb (gh + 1) (gB + (x101.toInt - xp100.toInt) - 1) (by omega) (c152_x101.mono (by decide) (by decide)) (c152_xp101.mono (by decide) (by decide)) c152_xp102) (cwV 0 hts gX12_compare_X12_summed rfl rfl rfl (by decide +kernel) ⟨Nat.le_of_ble_eq_true rfl, Nat.le_of_ble_eq_true rfl⟩) (hp_preV hG hw hp0 rfl ⟨f_p0_8, f_p0_1, f_p0_11, hcs⟩) rfl rfl hl.1 rfl (lv_room (Nat.le_of_ble_eq_true rfl)) dX12_compare_155 ⟨Nat.zero_le _, Nat.zero_le _⟩) hw (fun x155 st155 t155 H155 locs155 eh155 eg155 bx155 hw => ?_)
                  obtain ⟨x155p0, g155, on155, fx155p0, cx155, bx155p0, R155_0, R155_1, R155_2, R155_3⟩ := bx155
                  rw [eh155, eg155] at g155 on155
                  rw [eg155] at fx155p0
                  have hkm := hkm.call g155 (by decide)
                  have hon := hon.trans on155
                  have f_p0_1 := g155 _ _ _ _ f_p0_1 (by decide)
                  have f_p0_11 := g155 _ _ _ _ f_p0_11 (by decide)
                  have obx155p0 := iv_o bx155p0
                  have ocx155 := iv_o cx155
                  refine lv_if_ne (tgt := 163) hx hb dX12_compare_158 (by decide) (fun c158 => ?_) (fun c158 => ?_)
                  · have oc158 := iv_neq c158
                    have r158tp : iv x155 1 1 := (iv_ne_lo c158 cx155 rfl).mono (by decide) (by decide)
                    have or158tp := iv_o r158tp
                    have hcs := R155_2 (by omega)
                    rw [eg155] at hcs
                    refine lv_aload_n hx hb dX12_compare_163 rfl (lv_at hl 1 rfl) ?_
                    refine lv_bipush (v := 6) hx hb dX12_compare_164 (by decide) ?_
                    refine lv_iload hx hb dX12_compare_166 (lv_at hl 0 rfl) ?_
                    refine lv_iadd hx hb dX12_compare_168 ?_
                    refine lv_topi (fun x168 ex168 => ?_)
                    have bx168 : iv x168 7 9 := iv_add (show iv 6 6 6 from ⟨by decide, by decide⟩) c152_y152_s0 ex168 (by decide)
                    have obx168 := iv_o bx168
                    have qx168 := iv_add_eq (show iv 6 6 6 from ⟨by decide, by decide⟩) c152_y152_s0 ex168 (by decide)
                    refine lv_iconst (v := 0) hx hb dX12_compare_169 (by decide) ?_
                    refine hp_callev (va_runV (As := [.int x168, .int 0]) (rest := []) ⟨hx, hb, hml, hown, hts⟩ (sX12_puts l D T ap0 x168 (0 : Int32) xp102 A Gm Tp ip0 gS0 gb (gh + 2) (gh + 1) (0) (0) (gB + (x101.toInt - xp100.toInt) - 1 + (x155p0.toInt - x101.toInt)) (c_bin bx168 (by decide) (by omega) _) (by omega) (by omega) c152_xp102) (cwV 2 hts gX12_compare_X12_puts rfl rfl rfl (by decide +kernel) ⟨Nat.le_of_ble_eq_true rfl, Nat.le_of_ble_eq_true rfl⟩) (hp_preV hG hw hp0 rfl ⟨f_p0_11, hcs⟩) rfl rfl hl.1 rfl (lv_room (Nat.le_of_ble_eq_true rfl)) dX12_compare_170 ⟨Nat.zero_le _, Nat.zero_le _⟩) hw (fun st170 t170 H170 locs170 eh170 eg170 bx170 hw => ?_)
                    obtain ⟨g170, on170, R170_0⟩ := bx170
                    rw [eh170, eg170] at g170 on170
                    have hkm := hkm.call g170 (by decide)
                    have hon := hon.trans on170
                    have f_p0_1 := g170 _ _ _ _ f_p0_1 (by decide)
                    have f_p0_11 := g170 _ _ _ _ f_p0_11 (by decide)
                    have f_p0_8 := g170 _ _ _ _ fx155p0 (by decide)
                    have hcs := R170_0
                    rw [eg170] at hcs
                    refine lv_iconst (v := 1) hx hb dX12_compare_173 (by decide) ?_
                    exact W.zret (v := 1) hx hb hr (iv_nz (show iv 1 0 1 from ⟨by decide, by decide⟩)) (fun t ht hW => ⟨some (.int 1), rfl, ⟨(1 : Int32), rfl, ⟨x155p0, by rw [ht]; exact hkm, by rw [ht]; exact hon, by rw [ht]; exact f_p0_8, (show iv 1 0 1 from ⟨by decide, by decide⟩), bx155p0, (by intros; omega), (fun _ => by omega), (fun _ => by rw [ht]; exact cs.mono hcs (by omega) (by omega)), (fun h9 => absurd h9 (by omega))⟩⟩, by rw [ht]; exact hw.1, hw.2.F ht⟩) hw.2.2.2 dX12_compare_174
                  · have oc158 := congrArg Int32.toInt c158
                    have r158fp : iv x155 0 0 := (iv_both cx155 (iv_eq (show iv 0 0 0 from ⟨by decide, by decide⟩) c158)).mono (by decide) (by decide)
                    have or158fp := iv_o r158fp
                    have hcw := R155_3 (by omega)
                    rw [eg155] at hcw
                    refine lv_iconst (v := 0) hx hb dX12_compare_161 (by decide) ?_
                    exact W.zret (v := 0) hx hb hr (iv_nz (show iv 0 0 1 from ⟨by decide, by decide⟩)) (fun t ht hW => ⟨some (.int 0), rfl, ⟨(0 : Int32), rfl, ⟨x155p0, by rw [ht]; exact hkm, by rw [ht]; exact hon, by rw [ht]; exact fx155p0, (show iv 0 0 1 from ⟨by decide, by decide⟩), bx155p0, (by intros; omega), (fun h9 => absurd k0 h9), (fun h9 => absurd k0 h9), (fun _ => by rw [ht]; exact hcw)⟩⟩, by rw [ht]; exact hw.1, hw.2.F ht⟩) hw.2.2.2 dX12_compare_162
                refine lv_icmp_ne (tgt := 133) hx hb dX12_compare_118 (by decide) (fun c118 => ?_) (fun c118 => ?_)
                · have oc118 := iv_neq c118
                  have r118tp : iv x10 61 62 := (iv_ne_lo c118 c44_x10 rfl).mono (by decide) (by decide)
                  have or118tp := iv_o r118tp
                  refine lv_iload_n hx hb dX12_compare_133 rfl (lv_at hl 2 rfl) ?_
                  refine lv_bipush (v := 61) hx hb dX12_compare_134 (by decide) ?_
                  refine lv_icmp_ne (tgt := 143) hx hb dX12_compare_136 (by decide) (fun c136 => ?_) (fun c136 => ?_)
                  · have oc136 := iv_neq c136
                    have r136tp : iv x10 62 62 := (iv_ne_lo c136 r118tp rfl).mono (by decide) (by decide)
                    have or136tp := iv_o r136tp
                    refine lv_iload_n hx hb dX12_compare_143 rfl (lv_at hl 0 rfl) ?_
                    refine lv_if_eq (tgt := 151) hx hb dX12_compare_144 (by decide) (fun c144 => ?_) (fun c144 => ?_)
                    · have oc144 := congrArg Int32.toInt c144
                      exact iv_abs2 c144 (show iv 1 1 1 from ⟨by decide, by decide⟩) (show iv 0 0 0 from ⟨by decide, by decide⟩) (by decide)
                    · have oc144 := iv_neq c144
                      refine lv_iconst (v := 3) hx hb dX12_compare_147 (by decide) ?_
                      refine lv_goto (tgt := 152) hx hb dX12_compare_148 (by decide) ?_
                      exact J152_86 (3 : Int32) (show iv 3 1 3 from ⟨by decide, by decide⟩) r68fq c44_xp102 bx101 (show xp100.toInt + 2 ≤ x101.toInt from by have := (bx101).1; have := (bx101).2; have := (r68fp).1; have := (r68fp).2; have := (r68fq).1; have := (r68fq).2; have := (r68fpu).1; have := (r68fpu).2; have := (Int32.lt_iff_toInt_lt.mp (iv_nle c68)); have : (0 : Int32).toInt = 0 := (by decide); have : (1 : Int32).toInt = 1 := (by decide); have : (60 : Int32).toInt = 60 := (by decide); have : (61 : Int32).toInt = 61 := (by decide); omega) H107 locs107 hw hkm hon f_p0_1 f_p0_11 f_p0_8 (cs.mono hcs (by omega) (by omega)) _ (lv_sub hl [1] rfl)
                  · have oc136 := congrArg Int32.toInt c136
                    have r136fp : iv x10 61 61 := (iv_both r118tp (iv_eq (show iv 61 61 61 from ⟨by decide, by decide⟩) c136)).mono (by decide) (by decide)
                    have or136fp := iv_o r136fp
                    refine lv_iconst (v := 2) hx hb dX12_compare_139 (by decide) ?_
                    refine lv_goto (tgt := 152) hx hb dX12_compare_140 (by decide) ?_
                    exact J152_86 (2 : Int32) (show iv 2 1 3 from ⟨by decide, by decide⟩) r68fq c44_xp102 bx101 (show xp100.toInt + 2 ≤ x101.toInt from by have := (bx101).1; have := (bx101).2; have := (r68fp).1; have := (r68fp).2; have := (r68fq).1; have := (r68fq).2; have := (r68fpu).1; have := (r68fpu).2; have := (Int32.lt_iff_toInt_lt.mp (iv_nle c68)); have : (0 : Int32).toInt = 0 := (by decide); have : (1 : Int32).toInt = 1 := (by decide); have : (60 : Int32).toInt = 60 := (by decide); have : (61 : Int32).toInt = 61 := (by decide); omega) H107 locs107 hw hkm hon f_p0_1 f_p0_11 f_p0_8 (cs.mono hcs (by omega) (by omega)) _ (lv_sub hl [1] rfl)
                · have oc118 := congrArg Int32.toInt c118
                  have r118fp : iv x10 60 60 := (iv_both c44_x10 (iv_eq (show iv 60 60 60 from ⟨by decide, by decide⟩) c118)).mono (by decide) (by decide)
                  have or118fp := iv_o r118fp
                  refine lv_iload_n hx hb dX12_compare_121 rfl (lv_at hl 0 rfl) ?_
                  refine lv_if_eq (tgt := 129) hx hb dX12_compare_122 (by decide) (fun c122 => ?_) (fun c122 => ?_)
                  · have oc122 := congrArg Int32.toInt c122
                    exact iv_abs2 c122 (show iv 1 1 1 from ⟨by decide, by decide⟩) (show iv 0 0 0 from ⟨by decide, by decide⟩) (by decide)
                  · have oc122 := iv_neq c122
                    refine lv_iconst (v := 1) hx hb dX12_compare_125 (by decide) ?_
                    refine lv_goto (tgt := 152) hx hb dX12_compare_126 (by decide) ?_
                    exact J152_86 (1 : Int32) (show iv 1 1 3 from ⟨by decide, by decide⟩) r68fq c44_xp102 bx101 (show xp100.toInt + 2 ≤ x101.toInt from by have := (bx101).1; have := (bx101).2; have := (r68fp).1; have := (r68fp).2; have := (r68fq).1; have := (r68fq).2; have := (r68fpu).1; have := (r68fpu).2; have := (Int32.lt_iff_toInt_lt.mp (iv_nle c68)); have : (0 : Int32).toInt = 0 := (by decide); have : (1 : Int32).toInt = 1 := (by decide); have : (61 : Int32).toInt = 61 := (by decide); omega) H107 locs107 hw hkm hon f_p0_1 f_p0_11 f_p0_8 (cs.mono hcs (by omega) (by omega)) _ (lv_sub hl [1] rfl)
              · have oc110 := congrArg Int32.toInt c110
                have r110fp : iv x107 0 0 := (iv_both cx107 (iv_eq (show iv 0 0 0 from ⟨by decide, by decide⟩) c110)).mono (by decide) (by decide)
                have or110fp := iv_o r110fp
                have hcw := csw.on (cs.w hcs) on107 (fun h9 => hp_ne_ao hp0sign hp0 h9)
                refine lv_iconst (v := 0) hx hb dX12_compare_113 (by decide) ?_
                exact W.zret (v := 0) hx hb hr (iv_nz (show iv 0 0 1 from ⟨by decide, by decide⟩)) (fun t ht hW => ⟨some (.int 0), rfl, ⟨(0 : Int32), rfl, ⟨x101, by rw [ht]; exact hkm, by rw [ht]; exact hon, by rw [ht]; exact f_p0_8, (show iv 0 0 1 from ⟨by decide, by decide⟩), (bx101.mono (by decide) (by decide)), (by intros; omega), (fun h9 => absurd k0 h9), (fun h9 => absurd k0 h9), (fun _ => by rw [ht]; exact hcw)⟩⟩, by rw [ht]; exact hw.1, hw.2.F ht⟩) hw.2.2.2 dX12_compare_114
    refine lv_icmp_eq (tgt := 44) hx hb dX12_compare_22 (by decide) (fun c22 => ?_) (fun c22 => ?_)
    · have oc22 := congrArg Int32.toInt c22
      have r22tp : iv x10 60 60 := (iv_both cx10 (iv_eq (show iv 60 60 60 from ⟨by decide, by decide⟩) c22)).mono (by decide) (by decide)
      have or22tp := iv_o r22tp
      exact J44 (r22tp.mono (by decide) (by decide)) bx10p0 bp101 bp102 (show xp100.toInt + 1 ≤ x10p0.toInt from by have := (bx10p0).1; have := (bx10p0).2; have : (0 : Int32).toInt = 0 := (by decide); omega) (show x10p0.toInt ≤ 399 from by have := (bx10p0).1; have := (bx10p0).2; have : (0 : Int32).toInt = 0 := (by decide); omega) H10 locs10 hw hkm hon f_p0_1 f_p0_11 fx10p0 (cs.mono hcs (by omega) (by omega)) _ (lv_sub hl [2, 1, 0] rfl)
    · have oc22 := iv_neq c22
      refine lv_iload_n hx hb dX12_compare_25 rfl (lv_at hl 1 rfl) ?_
      refine lv_bipush (v := 61) hx hb dX12_compare_26 (by decide) ?_
      refine lv_icmp_eq (tgt := 44) hx hb dX12_compare_28 (by decide) (fun c28 => ?_) (fun c28 => ?_)
      · have oc28 := congrArg Int32.toInt c28
        have r28tp : iv x10 61 61 := (iv_both cx10 (iv_eq (show iv 61 61 61 from ⟨by decide, by decide⟩) c28)).mono (by decide) (by decide)
        have or28tp := iv_o r28tp
        exact J44 (r28tp.mono (by decide) (by decide)) bx10p0 bp101 bp102 (show xp100.toInt + 1 ≤ x10p0.toInt from by have := (bx10p0).1; have := (bx10p0).2; have : (0 : Int32).toInt = 0 := (by decide); have : (60 : Int32).toInt = 60 := (by decide); omega) (show x10p0.toInt ≤ 399 from by have := (bx10p0).1; have := (bx10p0).2; have : (0 : Int32).toInt = 0 := (by decide); have : (60 : Int32).toInt = 60 := (by decide); omega) H10 locs10 hw hkm hon f_p0_1 f_p0_11 fx10p0 (cs.mono hcs (by omega) (by omega)) _ (lv_sub hl [2, 1, 0] rfl)
      · have oc28 := iv_neq c28
        refine lv_iload_n hx hb dX12_compare_31 rfl (lv_at hl 1 rfl) ?_
        refine lv_bipush (v := 62) hx hb dX12_compare_32 (by decide) ?_
        refine lv_icmp_eq (tgt := 44) hx hb dX12_compare_34 (by decide) (fun c34 => ?_) (fun c34 => ?_)
        · have oc34 := congrArg Int32.toInt c34
          have r34tp : iv x10 62 62 := (iv_both cx10 (iv_eq (show iv 62 62 62 from ⟨by decide, by decide⟩) c34)).mono (by decide) (by decide)
          have or34tp := iv_o r34tp
          exact J44 (r34tp.mono (by decide) (by decide)) bx10p0 bp101 bp102 (show xp100.toInt + 1 ≤ x10p0.toInt from by have := (bx10p0).1; have := (bx10p0).2; have : (0 : Int32).toInt = 0 := (by decide); have : (60 : Int32).toInt = 60 := (by decide); have : (61 : Int32).toInt = 61 := (by decide); omega) (show x10p0.toInt ≤ 399 from by have := (bx10p0).1; have := (bx10p0).2; have : (0 : Int32).toInt = 0 := (by decide); have : (60 : Int32).toInt = 60 := (by decide); have : (61 : Int32).toInt = 61 := (by decide); omega) H10 locs10 hw hkm hon f_p0_1 f_p0_11 fx10p0 (cs.mono hcs (by omega) (by omega)) _ (lv_sub hl [2, 1, 0] rfl)
        · have oc34 := iv_neq c34
          refine lv_aload_n hx hb dX12_compare_37 rfl (lv_at hl 2 rfl) ?_
          refine lv_iconst (v := 0) hx hb dX12_compare_38 (by decide) ?_
          refine lv_iload_n hx hb dX12_compare_39 rfl (lv_at hl 0 rfl) ?_
          refine hp_callei (va_runV (As := [.int 0, .int x10p0]) (rest := []) ⟨hx, hb, hml, hown, hts⟩ (sX12_fails l D T ap0 (0 : Int32) x10p0 A Gm Tp ip0) (cwV 2 hts gX12_compare_X12_fails rfl rfl rfl (by decide +kernel) ⟨Nat.le_of_ble_eq_true rfl, Nat.le_of_ble_eq_true rfl⟩) (hp_preV hG hw hp0 rfl trivial) rfl rfl hl.1 rfl (lv_room (Nat.le_of_ble_eq_true rfl)) dX12_compare_40 ⟨Nat.zero_le _, Nat.zero_le _⟩) hw (fun x40 st40 t40 H40 locs40 eh40 eg40 bx40 hw => ?_)
          obtain ⟨g40, on40, cx40⟩ := bx40
          rw [eh40, eg40] at g40 on40
          have hkm := hkm.call g40 (by decide)
          have hon := hon.trans (hp_on.mono on40 (fun q h9 => by rcases h9 with rfl; exact Or.inl rfl))
          have f_p0_1 := g40 _ _ _ _ f_p0_1 (by decide)
          have f_p0_11 := g40 _ _ _ _ f_p0_11 (by decide)
          have f_p0_8 := g40 _ _ _ _ fx10p0 (by decide)
          have ocx40 := iv_o cx40
          have hcs := cs.on (T := T) hcs on40 g40 (fun h9 => hp_ne_ao hp0sign hp0 h9) (fun h9 => hp_ne_ao hp0len hp0 h9) (by decide)
          exact W.zret (v := x40) hx hb hr (iv_nz (cx40.mono (by decide) (by decide))) (fun t ht hW => ⟨some (.int x40), rfl, ⟨x40, rfl, ⟨x10p0, by rw [ht]; exact hkm, by rw [ht]; exact hon, by rw [ht]; exact f_p0_8, (cx40.mono (by decide) (by decide)), bx10p0, (by intros; omega), (fun h9 => absurd (by omega) h9), (fun h9 => absurd (by omega) h9), (fun _ => by rw [ht]; exact cs.w hcs)⟩⟩, by rw [ht]; exact hw.1, hw.2.F ht⟩) hw.2.2.2 dX12_compare_43
  · have oc4 := congrArg Int32.toInt c4
    have r4fp : iv x1 0 0 := (iv_both cx1 (iv_eq (show iv 0 0 0 from ⟨by decide, by decide⟩) c4)).mono (by decide) (by decide)
    have or4fp := iv_o r4fp
    have hcw := R1_3 (by omega)
    rw [eg1] at hcw
    refine lv_iconst (v := 0) hx hb dX12_compare_7 (by decide) ?_
    exact W.zret (v := 0) hx hb hr (iv_nz (show iv 0 0 1 from ⟨by decide, by decide⟩)) (fun t ht hW => ⟨some (.int 0), rfl, ⟨(0 : Int32), rfl, ⟨x1p0, by rw [ht]; exact hkm, by rw [ht]; exact hon, by rw [ht]; exact fx1p0, (show iv 0 0 1 from ⟨by decide, by decide⟩), bx1p0, (by intros; omega), (fun h9 => absurd k0 h9), (fun h9 => absurd k0 h9), (fun _ => by rw [ht]; exact hcw)⟩⟩, by rw [ht]; exact hw.1, hw.2.F ht⟩) hw.2.2.2 dX12_compare_8
