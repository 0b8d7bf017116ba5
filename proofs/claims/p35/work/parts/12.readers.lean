abbrev WX9_readSize (p : Program) (l : Launch) (e : Env) (s : State) (m : MethodId) (below : List Frame) (meth : Method) (c : Code) (D : hp_D) (T : hp_T) (ap0 : Nat) (H : Heap) (locs : List Loc) (g : JFrame) : Prop := W p l e (headSpec wsX9_readSize ({ frames := 2, cells := 0, slots := 0, locals := 45 })).room s m ([.ref ap0] : List Value).toArray below meth c H locs 0 0 (MQ below (hq_e D T (fun v _ _ => ∃ r : Int32, v = some (.int r) ∧ iv r 0 1)) ([.ref ap0] : List Value).toArray s 0 0 (hp_F T)) g
set_option maxHeartbeats 4000000 in
set_option maxRecDepth 100000 in
theorem sX9_readSize (l : Launch) (D : hp_D) (T : hp_T) (ap0 : Nat) (ip0 : isTownReader T ap0) : Met l yX9_readSize wsX9_readSize ({ frames := 2, cells := 0, slots := 0, locals := 45 }) (hp_Pc D T [.ref ap0] (fun _ => True)) (hq_e D T (fun v _ _ => ∃ r : Int32, v = some (.int r) ∧ iv r 0 1)) 0 0 (hp_F T) := by
  obtain ⟨ap0tp, ap0tw, hp0, ip0tp, ip0tw⟩ := id ip0
  obtain ⟨ap0tpbt, hp0tp, hp0tpbt⟩ := id ip0tp
  obtain ⟨ap0twkin, ap0twpl, ap0twcr, hp0tw, hp0twkin, hp0twpl, hp0twcr⟩ := id ip0tw
  refine Met.ofW (cc := cX9_readSize) (maxL := 3) (ret := (some .boolean)) (by decide) rfl ?_
  intro p e s m args below meth c s₁ B hml hv
  obtain ⟨rfl, hok, hG, hB⟩ := hv
  have hx := B.exec
  have hb := B.bytes
  have hr := B.returns
  have hts := atoms_spec (ws := wsX9_readSize) B.pre
  have hown : s.vm.findClass RX9 = some m.cls := findClass_of_methodNamed B.named
  have hlocks := B.notSynchronized
  have hK := hG.1
  have hw : hp_w D T s s.heap [] := hp_w.rf hok
  have IX8 : ∀ w ∈ wsX80, w ∈ wsX9_readSize := by decide +kernel
  have IX9 : ∀ w ∈ wsX90, w ∈ wsX9_readSize := by decide +kernel
  have L18 := hts (.fieldLink RX9 18 "PalmCensus$TownReader" "tape" "LPalmCensus$Tape;") (by decide +kernel)
  have L12 := hts (.fieldLink RX9 12 "PalmCensus$TownReader" "town" "LPalmCensus$Town;") (by decide +kernel)
  have L80 := hts (.fieldLink RX9 80 "PalmCensus$Town" "gates" "I") (by decide +kernel)
  have L83 := hts (.fieldLink RX9 83 "PalmCensus$Town" "hours" "I") (by decide +kernel)
  have hl := lv_entry ([.ref ap0]) (n := 3) (Nat.le_of_ble_eq_true rfl)
  rw [lg_entry_eq]
  generalize (lg_sl ([.ref ap0]) ++ List.replicate (3 - (lg_sl ([.ref ap0])).length) Slot.unset).toArray = ls at hl ⊢
  have hl : lv_has ls 3 [(0, .ref ap0)] := hl
  show WX9_readSize p l e s m below meth c D T ap0 s.heap [] (F0 m 0 ls [])
  refine lv_aload_n hx hb dX9_readSize_0 rfl (lv_at hl 0 rfl) ?_
  refine hp_getr hx hb hts IX9 hown hK hw.1 hp0 rfl 0 (by decide) L18 rfl dX9_readSize_1 ?_
  refine lv_iconst (v := 2) hx hb dX9_readSize_4 (by decide) ?_
  refine lv_bipush (v := 6) hx hb dX9_readSize_5 (by decide) ?_
  refine hp_callei (va_runV (As := [.int 2, .int 6]) (rest := []) ⟨hx, hb, hml, hown, hts⟩ (sX7_takeNumber l D T ap0tp (2 : Int32) (6 : Int32) ip0tp) (cwV 2 hts gX9_readSize_X7_takeNumber rfl rfl rfl (by decide +kernel) ⟨Nat.le_of_ble_eq_true rfl, Nat.le_of_ble_eq_true rfl⟩) (hp_preV hG hw hp0tp rfl trivial) rfl rfl hl.1 rfl (lv_room (Nat.le_of_ble_eq_true rfl)) dX9_readSize_7 ⟨Nat.zero_le _, Nat.zero_le _⟩) hw (fun x7 st7 t7 H7 locs7 eh7 eg7 bx7 hw => ?_)
  obtain ⟨bx7, ox7⟩ := bx7
  have ox7a : x7 = (-1) ∨ iv x7 2 6 := ox7.imp id (fun h => iv_range h.1 h.2 (show iv 2 2 2 from ⟨by decide, by decide⟩) (show iv 6 6 6 from ⟨by decide, by decide⟩))
  refine lv_istore_n (lv' := [(1, .int x7), (0, .ref ap0)]) hx hb dX9_readSize_10 rfl hl (by decide) rfl (fun ls hl => ?_)
  refine lv_iload_n hx hb dX9_readSize_11 rfl (lv_at hl 0 rfl) ?_
  refine lv_iconst (v := (-1)) hx hb dX9_readSize_12 (by decide) ?_
  refine lv_icmp_ne (tgt := 18) hx hb dX9_readSize_13 (by decide) (fun c13 => ?_) (fun c13 => ?_)
  · have r13tp : iv x7 2 6 := (ox7a.resolve_left c13).mono (by decide) (by decide)
    refine lv_aload_n hx hb dX9_readSize_18 rfl (lv_at hl 1 rfl) ?_
    refine hp_getr hx hb hts IX9 hown hK hw.1 hp0 rfl 0 (by decide) L18 rfl dX9_readSize_19 ?_
    refine lv_iconst (v := 1) hx hb dX9_readSize_22 (by decide) ?_
    refine lv_bipush (v := 12) hx hb dX9_readSize_23 (by decide) ?_
    refine hp_callei (va_runV (As := [.int 1, .int 12]) (rest := []) ⟨hx, hb, hml, hown, hts⟩ (sX7_takeNumber l D T ap0tp (1 : Int32) (12 : Int32) ip0tp) (cwV 2 hts gX9_readSize_X7_takeNumber rfl rfl rfl (by decide +kernel) ⟨Nat.le_of_ble_eq_true rfl, Nat.le_of_ble_eq_true rfl⟩) (hp_preV hG hw hp0tp rfl trivial) rfl rfl hl.1 rfl (lv_room (Nat.le_of_ble_eq_true rfl)) dX9_readSize_25 ⟨Nat.zero_le _, Nat.zero_le _⟩) hw (fun x25 st25 t25 H25 locs25 eh25 eg25 bx25 hw => ?_)
    obtain ⟨bx25, ox25⟩ := bx25
    have ox25a : x25 = (-1) ∨ iv x25 1 12 := ox25.imp id (fun h => iv_range h.1 h.2 (show iv 1 1 1 from ⟨by decide, by decide⟩) (show iv 12 12 12 from ⟨by decide, by decide⟩))
    refine lv_istore_n (lv' := [(2, .int x25), (1, .int x7), (0, .ref ap0)]) hx hb dX9_readSize_28 rfl hl (by decide) rfl (fun ls hl => ?_)
    refine lv_iload_n hx hb dX9_readSize_29 rfl (lv_at hl 0 rfl) ?_
    refine lv_iconst (v := (-1)) hx hb dX9_readSize_30 (by decide) ?_
    refine lv_icmp_ne (tgt := 36) hx hb dX9_readSize_31 (by decide) (fun c31 => ?_) (fun c31 => ?_)
    · have r31tp : iv x25 1 12 := (ox25a.resolve_left c31).mono (by decide) (by decide)
      refine lv_aload_n hx hb dX9_readSize_36 rfl (lv_at hl 2 rfl) ?_
      refine hp_getr hx hb hts IX9 hown hK hw.1 hp0 rfl 1 (by decide) L12 rfl dX9_readSize_37 ?_
      refine lv_iload_n hx hb dX9_readSize_40 rfl (lv_at hl 1 rfl) ?_
      refine hp_put hx hb hts IX8 tyX8 tyX8_ok nmX8 hown hK hw hp0tw rfl 0 (by decide) L80 rfl rfl ⟨_, rfl, (r13tp.mono (by decide) (by decide))⟩ rfl rfl dX9_readSize_41 (fun H41 locs41 hw f41n g41 => ?_)
      refine lv_aload_n hx hb dX9_readSize_44 rfl (lv_at hl 2 rfl) ?_
      refine hp_getr hx hb hts IX9 hown hK hw.1 hp0 rfl 1 (by decide) L12 rfl dX9_readSize_45 ?_
      refine lv_iload_n hx hb dX9_readSize_48 rfl (lv_at hl 0 rfl) ?_
      refine hp_put hx hb hts IX8 tyX8 tyX8_ok nmX8 hown hK hw hp0tw rfl 1 (by decide) L83 rfl rfl ⟨_, rfl, (r31tp.mono (by decide) (by decide))⟩ rfl rfl dX9_readSize_49 (fun H49 locs49 hw f49n g49 => ?_)
      refine lv_iconst (v := 1) hx hb dX9_readSize_52 (by decide) ?_
      exact W.zret (v := 1) hx hb hr (iv_nz (show iv 1 0 1 from ⟨by decide, by decide⟩)) (fun t ht hW => ⟨some (.int 1), rfl, ⟨(1 : Int32), rfl, (show iv 1 0 1 from ⟨by decide, by decide⟩)⟩, by rw [ht]; exact hw.1, hw.2.F ht⟩) hw.2.2.2 dX9_readSize_53
    · have r31fp : iv x25 (-1) (-1) := (iv_both (iv_any x25) (iv_eq (show iv (-1) (-1) (-1) from ⟨by decide, by decide⟩) c31)).mono (by decide) (by decide)
      refine lv_iconst (v := 0) hx hb dX9_readSize_34 (by decide) ?_
      exact W.zret (v := 0) hx hb hr (iv_nz (show iv 0 0 1 from ⟨by decide, by decide⟩)) (fun t ht hW => ⟨some (.int 0), rfl, ⟨(0 : Int32), rfl, (show iv 0 0 1 from ⟨by decide, by decide⟩)⟩, by rw [ht]; exact hw.1, hw.2.F ht⟩) hw.2.2.2 dX9_readSize_35
  · have r13fp : iv x7 (-1) (-1) := (iv_both (iv_any x7) (iv_eq (show iv (-1) (-1) (-1) from ⟨by decide, by decide⟩) c13)).mono (by decide) (by decide)
    refine lv_iconst (v := 0) hx hb dX9_readSize_16 (by decide) ?_
    exact W.zret (v := 0) hx hb hr (iv_nz (show iv 0 0 1 from ⟨by decide, by decide⟩)) (fun t ht hW => ⟨some (.int 0), rfl, ⟨(0 : Int32), rfl, (show iv 0 0 1 from ⟨by decide, by decide⟩)⟩, by rw [ht]; exact hw.1, hw.2.F ht⟩) hw.2.2.2 dX9_readSize_17
abbrev WX9_readRow (p : Program) (l : Launch) (e : Env) (s : State) (m : MethodId) (below : List Frame) (meth : Method) (c : Code) (D : hp_D) (T : hp_T) (ap0 : Nat) (xp100 : Int32) (H : Heap) (locs : List Loc) (g : JFrame) : Prop := W p l e (headSpec wsX9_readRow ({ frames := 3, cells := 0, slots := 0, locals := 67 })).room s m ([.ref ap0] : List Value).toArray below meth c H locs 0 0 (MQ below (hq_e D T (fun v _ _ => ∃ r : Int32, v = some (.int r) ∧ iv r 0 1)) ([.ref ap0] : List Value).toArray s 0 0 (hp_F T)) g
set_option maxHeartbeats 4000000 in
set_option maxRecDepth 100000 in
theorem sX9_readRow (l : Launch) (D : hp_D) (T : hp_T) (ap0 : Nat) (xp100 : Int32) (ap0tp ap0tw : Nat) (hp0 : T ap0 = some (.inr (9, [(rR ap0tp), (rR ap0tw)]))) (ip0tp : isTape T ap0tp) (ip0tw : isTown T ap0tw) (bp100 : iv xp100 0 9) : Met l yX9_readRow wsX9_readRow ({ frames := 3, cells := 0, slots := 0, locals := 67 }) (hp_Pc D T [.ref ap0] (fun H => hp_f D H ap0tw 8 2 (.int xp100))) (hq_e D T (fun v _ _ => ∃ r : Int32, v = some (.int r) ∧ iv r 0 1)) 0 0 (hp_F T) := by
  obtain ⟨ap0tpbt, hp0tp, hp0tpbt⟩ := id ip0tp
  obtain ⟨ap0twkin, ap0twpl, ap0twcr, hp0tw, hp0twkin, hp0twpl, hp0twcr⟩ := id ip0tw
  refine Met.ofW (cc := cX9_readRow) (maxL := 4) (ret := (some .boolean)) (by decide) rfl ?_
  intro p e s m args below meth c s₁ B hml hv
  obtain ⟨rfl, hok, hG, hB⟩ := hv
  have hx := B.exec
  have hb := B.bytes
  have hr := B.returns
  have hts := atoms_spec (ws := wsX9_readRow) B.pre
  have hown : s.vm.findClass RX9 = some m.cls := findClass_of_methodNamed B.named
  have hlocks := B.notSynchronized
  have hK := hG.1
  have hw : hp_w D T s s.heap [] := hp_w.rf hok
  have IX7 : ∀ w ∈ wsX70, w ∈ wsX9_readRow := by decide +kernel
  have IX8 : ∀ w ∈ wsX80, w ∈ wsX9_readRow := by decide +kernel
  have IX9 : ∀ w ∈ wsX90, w ∈ wsX9_readRow := by decide +kernel
  have L12 := hts (.fieldLink RX9 12 "PalmCensus$TownReader" "town" "LPalmCensus$Town;") (by decide +kernel)
  have L58 := hts (.fieldLink RX9 58 "PalmCensus$Town" "people" "I") (by decide +kernel)
  have L18 := hts (.fieldLink RX9 18 "PalmCensus$TownReader" "tape" "LPalmCensus$Tape;") (by decide +kernel)
  have L83 := hts (.fieldLink RX9 83 "PalmCensus$Town" "hours" "I") (by decide +kernel)
  have L50 := hts (.fieldLink RX9 50 "PalmCensus$Tape" "place" "I") (by decide +kernel)
  have hl := lv_entry ([.ref ap0]) (n := 4) (Nat.le_of_ble_eq_true rfl)
  rw [lg_entry_eq]
  generalize (lg_sl ([.ref ap0]) ++ List.replicate (4 - (lg_sl ([.ref ap0])).length) Slot.unset).toArray = ls at hl ⊢
  have hl : lv_has ls 4 [(0, .ref ap0)] := hl
  show WX9_readRow p l e s m below meth c D T ap0 xp100 s.heap [] (F0 m 0 ls [])
  obtain ⟨x9000op0tp_2, bx9000op0tp_2, fx9000op0tp_2⟩ := hp_opI hw.1 hp0tp 2 rfl
  refine lv_aload_n hx hb dX9_readRow_0 rfl (lv_at hl 0 rfl) ?_
  refine hp_getr hx hb hts IX9 hown hK hw.1 hp0 rfl 1 (by decide) L12 rfl dX9_readRow_1 ?_
  refine hp_getf hx hb hts IX8 hown hK hB rfl (by decide) L58 dX9_readRow_4 ?_
  refine lv_istore_n (lv' := [(1, .int xp100), (0, .ref ap0)]) hx hb dX9_readRow_7 rfl hl (by decide) rfl (fun ls hl => ?_)
  refine lv_aload_n hx hb dX9_readRow_8 rfl (lv_at hl 1 rfl) ?_
  refine hp_getr hx hb hts IX9 hown hK hw.1 hp0 rfl 1 (by decide) L12 rfl dX9_readRow_9 ?_
  refine lv_dup hx hb dX9_readRow_12 rfl ?_
  refine hp_getf hx hb hts IX8 hown hK hB rfl (by decide) L58 dX9_readRow_13 ?_
  refine lv_iconst (v := 1) hx hb dX9_readRow_16 (by decide) ?_
  refine lv_iadd hx hb dX9_readRow_17 ?_
  refine lv_topi (fun x17 ex17 => ?_)
  have bx17 : iv x17 1 10 := iv_add bp100 (show iv 1 1 1 from ⟨by decide, by decide⟩) ex17 (by decide)
  have qx17 := iv_add_eq bp100 (show iv 1 1 1 from ⟨by decide, by decide⟩) ex17 (by decide)
  refine hp_put hx hb hts IX8 tyX8 tyX8_ok nmX8 hown hK hw hp0tw rfl 2 (by decide) L58 rfl rfl ⟨_, rfl, (bx17.mono (by decide) (by decide))⟩ rfl rfl dX9_readRow_18 (fun H18 locs18 hw f18n g18 => ?_)
  have f_p0tp_2 := g18 _ _ _ _ fx9000op0tp_2 (Or.inl (hp_ne_oo hp0tp hp0tw (by decide)))
  refine lv_aload_n hx hb dX9_readRow_21 rfl (lv_at hl 1 rfl) ?_
  refine hp_getr hx hb hts IX9 hown hK hw.1 hp0 rfl 0 (by decide) L18 rfl dX9_readRow_22 ?_
  refine hp_callev (va_runV (As := []) (rest := []) ⟨hx, hb, hml, hown, hts⟩ (sX7_skipBlanks l D T ap0tp ip0tp) (cwV 0 hts gX9_readRow_X7_skipBlanks rfl rfl rfl (by decide +kernel) ⟨Nat.le_of_ble_eq_true rfl, Nat.le_of_ble_eq_true rfl⟩) (hp_preV hG hw hp0tp rfl trivial) rfl rfl hl.1 rfl (lv_room (Nat.le_of_ble_eq_true rfl)) dX9_readRow_25 ⟨Nat.zero_le _, Nat.zero_le _⟩) hw (fun st25 t25 H25 locs25 eh25 eg25 bx25 hw => ?_)
  obtain ⟨x25op0tp_2, bx25op0tp_2, fx25op0tp_2⟩ := hp_opI hw.1 hp0tp 2 rfl
  refine lv_iconst (v := 0) hx hb dX9_readRow_28 (by decide) ?_
  refine lv_istore_n (lv' := [(2, .int 0), (1, .int xp100), (0, .ref ap0)]) hx hb dX9_readRow_29 rfl hl (by decide) rfl (fun ls hl => ?_)
  have J30 : ∀ (n : Nat) (y30_l2 y30_fp0tp_2 : Int32), (12 - y30_l2.toInt).toNat < n → iv xp100 0 9 → iv y30_l2 0 12 → iv y30_fp0tp_2 0 400 → ∀ (H : Heap) (locs : List Loc), hp_w D T s H locs → hp_f D H ap0tp 7 2 (.int y30_fp0tp_2) → ∀ (ls : Array Slot), lv_has ls 4 [(0, .ref ap0), (1, .int xp100), (2, .int y30_l2)] → WX9_readRow p l e s m below meth c D T ap0 xp100 H locs (F0 m 30 ls []) := by
    intro n
    induction n with
    | zero => intro y30_l2 y30_fp0tp_2 hmu30 c30_xp100 c30_y30_l2 c30_y30_fp0tp_2 H30 locs30 hw f_p0tp_2 ls hl; exact absurd hmu30 (Nat.not_lt_zero _)
    | succ n ih30 =>
      intro y30_l2 y30_fp0tp_2 hmu30 c30_xp100 c30_y30_l2 c30_y30_fp0tp_2 H30 locs30 hw f_p0tp_2 ls hl
      refine lv_iload_n hx hb dX9_readRow_30 rfl (lv_at hl 2 rfl) ?_
      refine lv_aload_n hx hb dX9_readRow_31 rfl (lv_at hl 0 rfl) ?_
      refine hp_getr hx hb hts IX9 hown hK hw.1 hp0 rfl 1 (by decide) L12 rfl dX9_readRow_32 ?_
      refine hp_geti hx hb hts IX8 hown hK hw.1 hp0tw rfl 1 (by decide) L83 rfl dX9_readRow_35 (fun x35 bx35 fx35 => ?_)
      refine lv_icmp_ge (tgt := 170) hx hb dX9_readRow_38 (by decide) (fun c38 => ?_) (fun c38 => ?_)
      · refine lv_iconst (v := 1) hx hb dX9_readRow_170 (by decide) ?_
        exact W.zret (v := 1) hx hb hr (iv_nz (show iv 1 0 1 from ⟨by decide, by decide⟩)) (fun t ht hW => ⟨some (.int 1), rfl, ⟨(1 : Int32), rfl, (show iv 1 0 1 from ⟨by decide, by decide⟩)⟩, by rw [ht]; exact hw.1, hw.2.F ht⟩) hw.2.2.2 dX9_readRow_171
      · have r38fp : iv y30_l2 0 11 := (iv_lt_l (iv_nle c38) c30_y30_l2 bx35).mono (by decide) (by decide)
        have r38fq : iv x35 1 12 := (iv_lt_r (iv_nle c38) c30_y30_l2 bx35).mono (by decide) (by decide)
        refine lv_aload_n hx hb dX9_readRow_41 rfl (lv_at hl 0 rfl) ?_
        refine hp_getr hx hb hts IX9 hown hK hw.1 hp0 rfl 0 (by decide) L18 rfl dX9_readRow_42 ?_
        refine lv_aload_n hx hb dX9_readRow_45 rfl (lv_at hl 0 rfl) ?_
        refine hp_getr hx hb hts IX9 hown hK hw.1 hp0 rfl 0 (by decide) L18 rfl dX9_readRow_46 ?_
        refine hp_getf hx hb hts IX7 hown hK f_p0tp_2 rfl (by decide) L50 dX9_readRow_49 ?_
        refine hp_callpi (va_runV (As := [.int y30_fp0tp_2]) (rest := []) ⟨hx, hb, hml, hown, hts⟩ (sX7_isDigitAt l D T ap0tp y30_fp0tp_2 ip0tp) (cwV 1 hts gX9_readRow_X7_isDigitAt rfl rfl rfl (by decide +kernel) ⟨Nat.le_of_ble_eq_true rfl, Nat.le_of_ble_eq_true rfl⟩) (hp_preV hG hw hp0tp rfl trivial) rfl rfl hl.1 rfl (lv_room (Nat.le_of_ble_eq_true rfl)) dX9_readRow_52 ⟨Nat.zero_le _, Nat.zero_le _⟩) (fun x52 bx52 => ?_)
        obtain ⟨bx52, ix52_0⟩ := bx52
        have J151 : iv xp100 0 9 → iv y30_l2 0 11 → iv y30_fp0tp_2 0 399 → ∀ (H : Heap) (locs : List Loc), hp_w D T s H locs → hp_f D H ap0tp 7 2 (.int y30_fp0tp_2) → ∀ (ls : Array Slot), lv_has ls 4 [(0, .ref ap0), (1, .int xp100), (2, .int y30_l2)] → WX9_readRow p l e s m below meth c D T ap0 xp100 H locs (F0 m 151 ls []) := by
          intro c151_xp100 c151_y30_l2 c151_y30_fp0tp_2 H151 locs151 hw f_p0tp_2 ls hl
          refine lv_aload_n hx hb dX9_readRow_151 rfl (lv_at hl 0 rfl) ?_
          refine hp_getr hx hb hts IX9 hown hK hw.1 hp0 rfl 0 (by decide) L18 rfl dX9_readRow_152 ?_
          refine lv_dup hx hb dX9_readRow_155 rfl ?_
          refine hp_getf hx hb hts IX7 hown hK f_p0tp_2 rfl (by decide) L50 dX9_readRow_156 ?_
          refine lv_iconst (v := 1) hx hb dX9_readRow_159 (by decide) ?_
          refine lv_iadd hx hb dX9_readRow_160 ?_
          refine lv_topi (fun x160 ex160 => ?_)
          have bx160 : iv x160 1 400 := iv_add c151_y30_fp0tp_2 (show iv 1 1 1 from ⟨by decide, by decide⟩) ex160 (by decide)
          have qx160 := iv_add_eq c151_y30_fp0tp_2 (show iv 1 1 1 from ⟨by decide, by decide⟩) ex160 (by decide)
          refine hp_put hx hb hts IX7 tyX7 tyX7_ok nmX7 hown hK hw hp0tp rfl 2 (by decide) L50 rfl rfl ⟨_, rfl, (bx160.mono (by decide) (by decide))⟩ rfl rfl dX9_readRow_161 (fun H161 locs161 hw f161n g161 => ?_)
          obtain ⟨x164, ex164⟩ : ∃ y : Int32, y = y30_l2 + 1 := ⟨_, rfl⟩
          have bx164 : iv x164 1 12 := iv_add c151_y30_l2 (show iv 1 1 1 from ⟨by decide, by decide⟩) ex164 (by decide)
          have qx164 := iv_add_eq c151_y30_l2 (show iv 1 1 1 from ⟨by decide, by decide⟩) ex164 (by decide)
          refine lv_iinc (v := x164) (lv' := [(2, .int x164), (0, .ref ap0), (1, .int xp100)]) hx hb dX9_readRow_164 hl (k := 2) rfl (by rw [ex164]; rfl) (by decide) rfl (fun ls hl => ?_)
          refine lv_goto (tgt := 30) hx hb dX9_readRow_167 (by decide) ?_
          exact ih30 x164 x160 (mu_up 1 hmu30 (qx164) (by decide) (show iv x164 0 12 from (bx164.mono (by decide) (by decide))).2) c151_xp100 (bx164.mono (by decide) (by decide)) (bx160.mono (by decide) (by decide)) H161 locs161 hw f161n _ (lv_sub hl [1, 2, 0] rfl)
        refine lv_if_eq (tgt := 116) hx hb dX9_readRow_55 (by decide) (fun c55 => ?_) (fun c55 => ?_)
        · have r55tp : iv x52 0 0 := (iv_both bx52 (iv_eq (show iv 0 0 0 from ⟨by decide, by decide⟩) c55)).mono (by decide) (by decide)
          refine lv_aload_n hx hb dX9_readRow_116 rfl (lv_at hl 0 rfl) ?_
          refine hp_getr hx hb hts IX9 hown hK hw.1 hp0 rfl 0 (by decide) L18 rfl dX9_readRow_117 ?_
          refine lv_aload_n hx hb dX9_readRow_120 rfl (lv_at hl 0 rfl) ?_
          refine hp_getr hx hb hts IX9 hown hK hw.1 hp0 rfl 0 (by decide) L18 rfl dX9_readRow_121 ?_
          refine hp_getf hx hb hts IX7 hown hK f_p0tp_2 rfl (by decide) L50 dX9_readRow_124 ?_
          refine hp_callpi (va_runV (As := [.int y30_fp0tp_2]) (rest := []) ⟨hx, hb, hml, hown, hts⟩ (sX7_byteAt l D T ap0tp y30_fp0tp_2 ip0tp) (cwV 1 hts gX9_readRow_X7_byteAt rfl rfl rfl (by decide +kernel) ⟨Nat.le_of_ble_eq_true rfl, Nat.le_of_ble_eq_true rfl⟩) (hp_preV hG hw hp0tp rfl trivial) rfl rfl hl.1 rfl (lv_room (Nat.le_of_ble_eq_true rfl)) dX9_readRow_127 ⟨Nat.zero_le _, Nat.zero_le _⟩) (fun x127 bx127 => ?_)
          obtain ⟨bx127, ix127_0⟩ := bx127
          refine lv_bipush (v := 45) hx hb dX9_readRow_130 (by decide) ?_
          refine lv_icmp_eq (tgt := 151) hx hb dX9_readRow_132 (by decide) (fun c132 => ?_) (fun c132 => ?_)
          · have r132tp : iv x127 45 45 := (iv_both bx127 (iv_eq (show iv 45 45 45 from ⟨by decide, by decide⟩) c132)).mono (by decide) (by decide)
            have r132tpz : iv y30_fp0tp_2 0 399 := (iv_both c30_y30_fp0tp_2 (ix127_0 (iv_ge0 r132tp (by decide)))).mono (by decide) (by decide)
            exact J151 c30_xp100 r38fp r132tpz H30 locs30 hw f_p0tp_2 _ (lv_sub hl [0, 1, 2] rfl)
          · refine lv_aload_n hx hb dX9_readRow_135 rfl (lv_at hl 0 rfl) ?_
            refine hp_getr hx hb hts IX9 hown hK hw.1 hp0 rfl 0 (by decide) L18 rfl dX9_readRow_136 ?_
            refine lv_aload_n hx hb dX9_readRow_139 rfl (lv_at hl 0 rfl) ?_
            refine hp_getr hx hb hts IX9 hown hK hw.1 hp0 rfl 0 (by decide) L18 rfl dX9_readRow_140 ?_
            refine hp_getf hx hb hts IX7 hown hK f_p0tp_2 rfl (by decide) L50 dX9_readRow_143 ?_
            refine lv_iconst (v := 0) hx hb dX9_readRow_146 (by decide) ?_
            refine hp_callei (va_runV (As := [.int y30_fp0tp_2, .int 0]) (rest := []) ⟨hx, hb, hml, hown, hts⟩ (sX7_blame l D T ap0tp y30_fp0tp_2 (0 : Int32) ip0tp) (cwV 2 hts gX9_readRow_X7_blame rfl rfl rfl (by decide +kernel) ⟨Nat.le_of_ble_eq_true rfl, Nat.le_of_ble_eq_true rfl⟩) (hp_preV hG hw hp0tp rfl trivial) rfl rfl hl.1 rfl (lv_room (Nat.le_of_ble_eq_true rfl)) dX9_readRow_147 ⟨Nat.zero_le _, Nat.zero_le _⟩) hw (fun x147 st147 t147 H147 locs147 eh147 eg147 bx147 hw => ?_)
            obtain ⟨x147op0tp_2, bx147op0tp_2, fx147op0tp_2⟩ := hp_opI hw.1 hp0tp 2 rfl
            exact W.zret (v := x147) hx hb hr (iv_nz (bx147.mono (by decide) (by decide))) (fun t ht hW => ⟨some (.int x147), rfl, ⟨x147, rfl, (bx147.mono (by decide) (by decide))⟩, by rw [ht]; exact hw.1, hw.2.F ht⟩) hw.2.2.2 dX9_readRow_150
        · have r55fp : iv x52 1 1 := (iv_ne_lo c55 bx52 rfl).mono (by decide) (by decide)
          have r55fpz : iv y30_fp0tp_2 0 399 := (iv_both c30_y30_fp0tp_2 (ix52_0 (iv_ne0 r55fp (by decide)))).mono (by decide) (by decide)
          refine lv_aload_n hx hb dX9_readRow_58 rfl (lv_at hl 0 rfl) ?_
          refine hp_getr hx hb hts IX9 hown hK hw.1 hp0 rfl 0 (by decide) L18 rfl dX9_readRow_59 ?_
          refine lv_aload_n hx hb dX9_readRow_62 rfl (lv_at hl 0 rfl) ?_
          refine hp_getr hx hb hts IX9 hown hK hw.1 hp0 rfl 0 (by decide) L18 rfl dX9_readRow_63 ?_
          refine hp_getf hx hb hts IX7 hown hK f_p0tp_2 rfl (by decide) L50 dX9_readRow_66 ?_
          refine hp_callpi (va_runV (As := [.int y30_fp0tp_2]) (rest := []) ⟨hx, hb, hml, hown, hts⟩ (sX7_byteAt l D T ap0tp y30_fp0tp_2 ip0tp) (cwV 1 hts gX9_readRow_X7_byteAt rfl rfl rfl (by decide +kernel) ⟨Nat.le_of_ble_eq_true rfl, Nat.le_of_ble_eq_true rfl⟩) (hp_preV hG hw hp0tp rfl trivial) rfl rfl hl.1 rfl (lv_room (Nat.le_of_ble_eq_true rfl)) dX9_readRow_69 ⟨Nat.zero_le _, Nat.zero_le _⟩) (fun x69 bx69 => ?_)
          obtain ⟨bx69, ix69_0⟩ := bx69
          refine lv_bipush (v := 48) hx hb dX9_readRow_72 (by decide) ?_
          refine lv_isub hx hb dX9_readRow_74 ?_
          refine lv_topi (fun x74 ex74 => ?_)
          have bx74 : iv x74 (-49) 207 := iv_sub bx69 (show iv 48 48 48 from ⟨by decide, by decide⟩) ex74 (by decide)
          have qx74 := iv_sub_eq bx69 (show iv 48 48 48 from ⟨by decide, by decide⟩) ex74 (by decide)
          refine lv_istore_n (lv' := [(3, .int x74), (0, .ref ap0), (1, .int xp100), (2, .int y30_l2)]) hx hb dX9_readRow_75 rfl hl (by decide) rfl (fun ls hl => ?_)
          refine lv_aload_n hx hb dX9_readRow_76 rfl (lv_at hl 1 rfl) ?_
          refine hp_getr hx hb hts IX9 hown hK hw.1 hp0 rfl 1 (by decide) L12 rfl dX9_readRow_77 ?_
          refine lv_iload_n hx hb dX9_readRow_80 rfl (lv_at hl 0 rfl) ?_
          refine hp_callpi (va_runV (As := [.int x74]) (rest := []) ⟨hx, hb, hml, hown, hts⟩ (sX8_isGate l D T ap0tw x74 ip0tw) (cwV 1 hts gX9_readRow_X8_isGate rfl rfl rfl (by decide +kernel) ⟨Nat.le_of_ble_eq_true rfl, Nat.le_of_ble_eq_true rfl⟩) (hp_preV hG hw hp0tw rfl trivial) rfl rfl hl.1 rfl (lv_room (Nat.le_of_ble_eq_true rfl)) dX9_readRow_81 ⟨Nat.zero_le _, Nat.zero_le _⟩) (fun x81 bx81 => ?_)
          obtain ⟨bx81, ix81_0⟩ := bx81
          refine lv_if_ne (tgt := 103) hx hb dX9_readRow_84 (by decide) (fun c84 => ?_) (fun c84 => ?_)
          · have r84tp : iv x81 1 1 := (iv_ne_lo c84 bx81 rfl).mono (by decide) (by decide)
            have r84tpz : iv x74 0 5 := (iv_both bx74 (ix81_0 (iv_ne0 r84tp (by decide)))).mono (by decide) (by decide)
            refine lv_aload_n hx hb dX9_readRow_103 rfl (lv_at hl 1 rfl) ?_
            refine hp_getr hx hb hts IX9 hown hK hw.1 hp0 rfl 1 (by decide) L12 rfl dX9_readRow_104 ?_
            refine lv_iload_n hx hb dX9_readRow_107 rfl (lv_at hl 2 rfl) ?_
            refine lv_iload_n hx hb dX9_readRow_108 rfl (lv_at hl 3 rfl) ?_
            refine lv_iload_n hx hb dX9_readRow_109 rfl (lv_at hl 0 rfl) ?_
            refine hp_callev (va_runV (As := [.int xp100, .int y30_l2, .int x74]) (rest := []) ⟨hx, hb, hml, hown, hts⟩ (sX8_moveTo l D T ap0tw xp100 y30_l2 x74 ip0tw) (cwV 3 hts gX9_readRow_X8_moveTo rfl rfl rfl (by decide +kernel) ⟨Nat.le_of_ble_eq_true rfl, Nat.le_of_ble_eq_true rfl⟩) (hp_preV hG hw hp0tw rfl trivial) rfl rfl hl.1 rfl (lv_room (Nat.le_of_ble_eq_true rfl)) dX9_readRow_110 ⟨Nat.zero_le _, Nat.zero_le _⟩) hw (fun st110 t110 H110 locs110 eh110 eg110 bx110 hw => ?_)
            obtain ⟨bx110, g110⟩ := bx110
            rw [eh110, eg110] at g110
            have f_p0tp_2 := g110 _ _ _ _ f_p0tp_2
            refine lv_goto (tgt := 151) hx hb dX9_readRow_113 (by decide) ?_
            exact J151 c30_xp100 r38fp r55fpz H110 locs110 hw f_p0tp_2 _ (lv_sub hl [1, 2, 3] rfl)
          · have r84fp : iv x81 0 0 := (iv_both bx81 (iv_eq (show iv 0 0 0 from ⟨by decide, by decide⟩) c84)).mono (by decide) (by decide)
            refine lv_aload_n hx hb dX9_readRow_87 rfl (lv_at hl 1 rfl) ?_
            refine hp_getr hx hb hts IX9 hown hK hw.1 hp0 rfl 0 (by decide) L18 rfl dX9_readRow_88 ?_
            refine lv_aload_n hx hb dX9_readRow_91 rfl (lv_at hl 1 rfl) ?_
            refine hp_getr hx hb hts IX9 hown hK hw.1 hp0 rfl 0 (by decide) L18 rfl dX9_readRow_92 ?_
            refine hp_getf hx hb hts IX7 hown hK f_p0tp_2 rfl (by decide) L50 dX9_readRow_95 ?_
            refine lv_iconst (v := 1) hx hb dX9_readRow_98 (by decide) ?_
            refine hp_callei (va_runV (As := [.int y30_fp0tp_2, .int 1]) (rest := []) ⟨hx, hb, hml, hown, hts⟩ (sX7_blame l D T ap0tp y30_fp0tp_2 (1 : Int32) ip0tp) (cwV 2 hts gX9_readRow_X7_blame rfl rfl rfl (by decide +kernel) ⟨Nat.le_of_ble_eq_true rfl, Nat.le_of_ble_eq_true rfl⟩) (hp_preV hG hw hp0tp rfl trivial) rfl rfl hl.1 rfl (lv_room (Nat.le_of_ble_eq_true rfl)) dX9_readRow_99 ⟨Nat.zero_le _, Nat.zero_le _⟩) hw (fun x99 st99 t99 H99 locs99 eh99 eg99 bx99 hw => ?_)
            obtain ⟨x99op0tp_2, bx99op0tp_2, fx99op0tp_2⟩ := hp_opI hw.1 hp0tp 2 rfl
            exact W.zret (v := x99) hx hb hr (iv_nz (bx99.mono (by decide) (by decide))) (fun t ht hW => ⟨some (.int x99), rfl, ⟨x99, rfl, (bx99.mono (by decide) (by decide))⟩, by rw [ht]; exact hw.1, hw.2.F ht⟩) hw.2.2.2 dX9_readRow_102
  exact J30 _ (0 : Int32) x25op0tp_2 (Nat.lt_succ_self _) bp100 (show iv 0 0 12 from ⟨by decide, by decide⟩) bx25op0tp_2 H25 locs25 hw fx25op0tp_2 _ (lv_sub hl [2, 1, 0] rfl)
abbrev WX9_readKin (p : Program) (l : Launch) (e : Env) (s : State) (m : MethodId) (below : List Frame) (meth : Method) (c : Code) (D : hp_D) (T : hp_T) (ap0 : Nat) (H : Heap) (locs : List Loc) (g : JFrame) : Prop := W p l e (headSpec wsX9_readKin ({ frames := 2, cells := 0, slots := 0, locals := 45 })).room s m ([.ref ap0] : List Value).toArray below meth c H locs 0 0 (MQ below (hq_e D T (fun v _ _ => ∃ r : Int32, v = some (.int r) ∧ iv r 0 1)) ([.ref ap0] : List Value).toArray s 0 0 (hp_F T)) g
set_option maxHeartbeats 4000000 in
set_option maxRecDepth 100000 in
theorem sX9_readKin (l : Launch) (D : hp_D) (T : hp_T) (ap0 : Nat) (ip0 : isTownReader T ap0) : Met l yX9_readKin wsX9_readKin ({ frames := 2, cells := 0, slots := 0, locals := 45 }) (hp_Pc D T [.ref ap0] (fun _ => True)) (hq_e D T (fun v _ _ => ∃ r : Int32, v = some (.int r) ∧ iv r 0 1)) 0 0 (hp_F T) := by
  obtain ⟨ap0tp, ap0tw, hp0, ip0tp, ip0tw⟩ := id ip0
  obtain ⟨ap0tpbt, hp0tp, hp0tpbt⟩ := id ip0tp
  obtain ⟨ap0twkin, ap0twpl, ap0twcr, hp0tw, hp0twkin, hp0twpl, hp0twcr⟩ := id ip0tw
  refine Met.ofW (cc := cX9_readKin) (maxL := 3) (ret := (some .boolean)) (by decide) rfl ?_
  intro p e s m args below meth c s₁ B hml hv
  obtain ⟨rfl, hok, hG, hB⟩ := hv
  have hx := B.exec
  have hb := B.bytes
  have hr := B.returns
  have hts := atoms_spec (ws := wsX9_readKin) B.pre
  have hown : s.vm.findClass RX9 = some m.cls := findClass_of_methodNamed B.named
  have hlocks := B.notSynchronized
  have hK := hG.1
  have hw : hp_w D T s s.heap [] := hp_w.rf hok
  have IX7 : ∀ w ∈ wsX70, w ∈ wsX9_readKin := by decide +kernel
  have IX8 : ∀ w ∈ wsX80, w ∈ wsX9_readKin := by decide +kernel
  have IX9 : ∀ w ∈ wsX90, w ∈ wsX9_readKin := by decide +kernel
  have L18 := hts (.fieldLink RX9 18 "PalmCensus$TownReader" "tape" "LPalmCensus$Tape;") (by decide +kernel)
  have L12 := hts (.fieldLink RX9 12 "PalmCensus$TownReader" "town" "LPalmCensus$Town;") (by decide +kernel)
  have L58 := hts (.fieldLink RX9 58 "PalmCensus$Town" "people" "I") (by decide +kernel)
  have L61 := hts (.fieldLink RX9 61 "PalmCensus$Tape" "start" "I") (by decide +kernel)
  have hl := lv_entry ([.ref ap0]) (n := 3) (Nat.le_of_ble_eq_true rfl)
  rw [lg_entry_eq]
  generalize (lg_sl ([.ref ap0]) ++ List.replicate (3 - (lg_sl ([.ref ap0])).length) Slot.unset).toArray = ls at hl ⊢
  have hl : lv_has ls 3 [(0, .ref ap0)] := hl
  show WX9_readKin p l e s m below meth c D T ap0 s.heap [] (F0 m 0 ls [])
  refine lv_aload_n hx hb dX9_readKin_0 rfl (lv_at hl 0 rfl) ?_
  refine hp_getr hx hb hts IX9 hown hK hw.1 hp0 rfl 0 (by decide) L18 rfl dX9_readKin_1 ?_
  refine lv_iconst (v := 0) hx hb dX9_readKin_4 (by decide) ?_
  refine lv_aload_n hx hb dX9_readKin_5 rfl (lv_at hl 0 rfl) ?_
  refine hp_getr hx hb hts IX9 hown hK hw.1 hp0 rfl 1 (by decide) L12 rfl dX9_readKin_6 ?_
  refine hp_geti hx hb hts IX8 hown hK hw.1 hp0tw rfl 2 (by decide) L58 rfl dX9_readKin_9 (fun x9 bx9 fx9 => ?_)
  refine lv_iconst (v := 1) hx hb dX9_readKin_12 (by decide) ?_
  refine lv_isub hx hb dX9_readKin_13 ?_
  refine lv_topi (fun x13 ex13 => ?_)
  have bx13 : iv x13 (-1) 9 := iv_sub bx9 (show iv 1 1 1 from ⟨by decide, by decide⟩) ex13 (by decide)
  have qx13 := iv_sub_eq bx9 (show iv 1 1 1 from ⟨by decide, by decide⟩) ex13 (by decide)
  refine hp_callei (va_runV (As := [.int 0, .int x13]) (rest := []) ⟨hx, hb, hml, hown, hts⟩ (sX7_takeNumber l D T ap0tp (0 : Int32) x13 ip0tp) (cwV 2 hts gX9_readKin_X7_takeNumber rfl rfl rfl (by decide +kernel) ⟨Nat.le_of_ble_eq_true rfl, Nat.le_of_ble_eq_true rfl⟩) (hp_preV hG hw hp0tp rfl trivial) rfl rfl hl.1 rfl (lv_room (Nat.le_of_ble_eq_true rfl)) dX9_readKin_14 ⟨Nat.zero_le _, Nat.zero_le _⟩) hw (fun x14 st14 t14 H14 locs14 eh14 eg14 bx14 hw => ?_)
  obtain ⟨bx14, ox14⟩ := bx14
  have ox14a : x14 = (-1) ∨ iv x14 0 9 := ox14.imp id (fun h => iv_range h.1 h.2 (show iv 0 0 0 from ⟨by decide, by decide⟩) bx13)
  refine lv_istore_n (lv' := [(1, .int x14), (0, .ref ap0)]) hx hb dX9_readKin_17 rfl hl (by decide) rfl (fun ls hl => ?_)
  refine lv_iload_n hx hb dX9_readKin_18 rfl (lv_at hl 0 rfl) ?_
  refine lv_iconst (v := (-1)) hx hb dX9_readKin_19 (by decide) ?_
  refine lv_icmp_ne (tgt := 25) hx hb dX9_readKin_20 (by decide) (fun c20 => ?_) (fun c20 => ?_)
  · have r20tp : iv x14 0 9 := (ox14a.resolve_left c20).mono (by decide) (by decide)
    refine lv_aload_n hx hb dX9_readKin_25 rfl (lv_at hl 1 rfl) ?_
    refine hp_getr hx hb hts IX9 hown hK hw.1 hp0 rfl 0 (by decide) L18 rfl dX9_readKin_26 ?_
    refine lv_iconst (v := 0) hx hb dX9_readKin_29 (by decide) ?_
    refine lv_aload_n hx hb dX9_readKin_30 rfl (lv_at hl 1 rfl) ?_
    refine hp_getr hx hb hts IX9 hown hK hw.1 hp0 rfl 1 (by decide) L12 rfl dX9_readKin_31 ?_
    refine hp_geti hx hb hts IX8 hown hK hw.1 hp0tw rfl 2 (by decide) L58 rfl dX9_readKin_34 (fun x34 bx34 fx34 => ?_)
    refine lv_iconst (v := 1) hx hb dX9_readKin_37 (by decide) ?_
    refine lv_isub hx hb dX9_readKin_38 ?_
    refine lv_topi (fun x38 ex38 => ?_)
    have bx38 : iv x38 (-1) 9 := iv_sub bx34 (show iv 1 1 1 from ⟨by decide, by decide⟩) ex38 (by decide)
    have qx38 := iv_sub_eq bx34 (show iv 1 1 1 from ⟨by decide, by decide⟩) ex38 (by decide)
    refine hp_callei (va_runV (As := [.int 0, .int x38]) (rest := []) ⟨hx, hb, hml, hown, hts⟩ (sX7_takeNumber l D T ap0tp (0 : Int32) x38 ip0tp) (cwV 2 hts gX9_readKin_X7_takeNumber rfl rfl rfl (by decide +kernel) ⟨Nat.le_of_ble_eq_true rfl, Nat.le_of_ble_eq_true rfl⟩) (hp_preV hG hw hp0tp rfl trivial) rfl rfl hl.1 rfl (lv_room (Nat.le_of_ble_eq_true rfl)) dX9_readKin_39 ⟨Nat.zero_le _, Nat.zero_le _⟩) hw (fun x39 st39 t39 H39 locs39 eh39 eg39 bx39 hw => ?_)
    obtain ⟨bx39, ox39⟩ := bx39
    have ox39a : x39 = (-1) ∨ iv x39 0 9 := ox39.imp id (fun h => iv_range h.1 h.2 (show iv 0 0 0 from ⟨by decide, by decide⟩) bx38)
    refine lv_istore_n (lv' := [(2, .int x39), (1, .int x14), (0, .ref ap0)]) hx hb dX9_readKin_42 rfl hl (by decide) rfl (fun ls hl => ?_)
    refine lv_iload_n hx hb dX9_readKin_43 rfl (lv_at hl 0 rfl) ?_
    refine lv_iconst (v := (-1)) hx hb dX9_readKin_44 (by decide) ?_
    refine lv_icmp_ne (tgt := 50) hx hb dX9_readKin_45 (by decide) (fun c45 => ?_) (fun c45 => ?_)
    · have r45tp : iv x39 0 9 := (ox39a.resolve_left c45).mono (by decide) (by decide)
      refine lv_iload_n hx hb dX9_readKin_50 rfl (lv_at hl 1 rfl) ?_
      refine lv_iload_n hx hb dX9_readKin_51 rfl (lv_at hl 0 rfl) ?_
      refine lv_icmp_ne (tgt := 71) hx hb dX9_readKin_52 (by decide) (fun c52 => ?_) (fun c52 => ?_)
      · refine lv_aload_n hx hb dX9_readKin_71 rfl (lv_at hl 2 rfl) ?_
        refine hp_getr hx hb hts IX9 hown hK hw.1 hp0 rfl 1 (by decide) L12 rfl dX9_readKin_72 ?_
        refine lv_iload_n hx hb dX9_readKin_75 rfl (lv_at hl 1 rfl) ?_
        refine lv_iload_n hx hb dX9_readKin_76 rfl (lv_at hl 0 rfl) ?_
        refine hp_callev (va_runV (As := [.int x14, .int x39]) (rest := []) ⟨hx, hb, hml, hown, hts⟩ (sX8_bind l D T ap0tw x14 x39 ip0tw) (cwV 2 hts gX9_readKin_X8_bind rfl rfl rfl (by decide +kernel) ⟨Nat.le_of_ble_eq_true rfl, Nat.le_of_ble_eq_true rfl⟩) (hp_preV hG hw hp0tw rfl trivial) rfl rfl hl.1 rfl (lv_room (Nat.le_of_ble_eq_true rfl)) dX9_readKin_77 ⟨Nat.zero_le _, Nat.zero_le _⟩) hw (fun st77 t77 H77 locs77 eh77 eg77 bx77 hw => ?_)
        obtain ⟨bx77, g77⟩ := bx77
        rw [eh77, eg77] at g77
        refine lv_iconst (v := 1) hx hb dX9_readKin_80 (by decide) ?_
        exact W.zret (v := 1) hx hb hr (iv_nz (show iv 1 0 1 from ⟨by decide, by decide⟩)) (fun t ht hW => ⟨some (.int 1), rfl, ⟨(1 : Int32), rfl, (show iv 1 0 1 from ⟨by decide, by decide⟩)⟩, by rw [ht]; exact hw.1, hw.2.F ht⟩) hw.2.2.2 dX9_readKin_81
      · refine lv_aload_n hx hb dX9_readKin_55 rfl (lv_at hl 2 rfl) ?_
        refine hp_getr hx hb hts IX9 hown hK hw.1 hp0 rfl 0 (by decide) L18 rfl dX9_readKin_56 ?_
        refine lv_aload_n hx hb dX9_readKin_59 rfl (lv_at hl 2 rfl) ?_
        refine hp_getr hx hb hts IX9 hown hK hw.1 hp0 rfl 0 (by decide) L18 rfl dX9_readKin_60 ?_
        refine hp_geti hx hb hts IX7 hown hK hw.1 hp0tp rfl 4 (by decide) L61 rfl dX9_readKin_63 (fun x63 bx63 fx63 => ?_)
        refine lv_iconst (v := 1) hx hb dX9_readKin_66 (by decide) ?_
        refine hp_callei (va_runV (As := [.int x63, .int 1]) (rest := []) ⟨hx, hb, hml, hown, hts⟩ (sX7_blame l D T ap0tp x63 (1 : Int32) ip0tp) (cwV 2 hts gX9_readKin_X7_blame rfl rfl rfl (by decide +kernel) ⟨Nat.le_of_ble_eq_true rfl, Nat.le_of_ble_eq_true rfl⟩) (hp_preV hG hw hp0tp rfl trivial) rfl rfl hl.1 rfl (lv_room (Nat.le_of_ble_eq_true rfl)) dX9_readKin_67 ⟨Nat.zero_le _, Nat.zero_le _⟩) hw (fun x67 st67 t67 H67 locs67 eh67 eg67 bx67 hw => ?_)
        exact W.zret (v := x67) hx hb hr (iv_nz (bx67.mono (by decide) (by decide))) (fun t ht hW => ⟨some (.int x67), rfl, ⟨x67, rfl, (bx67.mono (by decide) (by decide))⟩, by rw [ht]; exact hw.1, hw.2.F ht⟩) hw.2.2.2 dX9_readKin_70
    · have r45fp : iv x39 (-1) (-1) := (iv_both (iv_any x39) (iv_eq (show iv (-1) (-1) (-1) from ⟨by decide, by decide⟩) c45)).mono (by decide) (by decide)
      refine lv_iconst (v := 0) hx hb dX9_readKin_48 (by decide) ?_
      exact W.zret (v := 0) hx hb hr (iv_nz (show iv 0 0 1 from ⟨by decide, by decide⟩)) (fun t ht hW => ⟨some (.int 0), rfl, ⟨(0 : Int32), rfl, (show iv 0 0 1 from ⟨by decide, by decide⟩)⟩, by rw [ht]; exact hw.1, hw.2.F ht⟩) hw.2.2.2 dX9_readKin_49
  · have r20fp : iv x14 (-1) (-1) := (iv_both (iv_any x14) (iv_eq (show iv (-1) (-1) (-1) from ⟨by decide, by decide⟩) c20)).mono (by decide) (by decide)
    refine lv_iconst (v := 0) hx hb dX9_readKin_23 (by decide) ?_
    exact W.zret (v := 0) hx hb hr (iv_nz (show iv 0 0 1 from ⟨by decide, by decide⟩)) (fun t ht hW => ⟨some (.int 0), rfl, ⟨(0 : Int32), rfl, (show iv 0 0 1 from ⟨by decide, by decide⟩)⟩, by rw [ht]; exact hw.1, hw.2.F ht⟩) hw.2.2.2 dX9_readKin_24
abbrev WX9_readMark (p : Program) (l : Launch) (e : Env) (s : State) (m : MethodId) (below : List Frame) (meth : Method) (c : Code) (D : hp_D) (T : hp_T) (ap0 : Nat) (xp1 : Int32) (H : Heap) (locs : List Loc) (g : JFrame) : Prop := W p l e (headSpec wsX9_readMark ({ frames := 2, cells := 0, slots := 0, locals := 45 })).room s m ([.ref ap0, .int xp1] : List Value).toArray below meth c H locs 0 0 (MQ below (hq_e D T (fun v _ _ => ∃ r : Int32, v = some (.int r) ∧ iv r 0 1)) ([.ref ap0, .int xp1] : List Value).toArray s 0 0 (hp_F T)) g
set_option maxHeartbeats 4000000 in
set_option maxRecDepth 100000 in
theorem sX9_readMark (l : Launch) (D : hp_D) (T : hp_T) (ap0 : Nat) (xp1 : Int32) (ip0 : isTownReader T ap0) : Met l yX9_readMark wsX9_readMark ({ frames := 2, cells := 0, slots := 0, locals := 45 }) (hp_Pc D T [.ref ap0, .int xp1] (fun _ => True)) (hq_e D T (fun v _ _ => ∃ r : Int32, v = some (.int r) ∧ iv r 0 1)) 0 0 (hp_F T) := by
  obtain ⟨ap0tp, ap0tw, hp0, ip0tp, ip0tw⟩ := id ip0
  obtain ⟨ap0tpbt, hp0tp, hp0tpbt⟩ := id ip0tp
  obtain ⟨ap0twkin, ap0twpl, ap0twcr, hp0tw, hp0twkin, hp0twpl, hp0twcr⟩ := id ip0tw
  refine Met.ofW (cc := cX9_readMark) (maxL := 5) (ret := (some .boolean)) (by decide) rfl ?_
  intro p e s m args below meth c s₁ B hml hv
  obtain ⟨rfl, hok, hG, hB⟩ := hv
  have hx := B.exec
  have hb := B.bytes
  have hr := B.returns
  have hts := atoms_spec (ws := wsX9_readMark) B.pre
  have hown : s.vm.findClass RX9 = some m.cls := findClass_of_methodNamed B.named
  have hlocks := B.notSynchronized
  have hK := hG.1
  have hw : hp_w D T s s.heap [] := hp_w.rf hok
  have IX8 : ∀ w ∈ wsX80, w ∈ wsX9_readMark := by decide +kernel
  have IX9 : ∀ w ∈ wsX90, w ∈ wsX9_readMark := by decide +kernel
  have L18 := hts (.fieldLink RX9 18 "PalmCensus$TownReader" "tape" "LPalmCensus$Tape;") (by decide +kernel)
  have L12 := hts (.fieldLink RX9 12 "PalmCensus$TownReader" "town" "LPalmCensus$Town;") (by decide +kernel)
  have L116 := hts (.fieldLink RX9 116 "PalmCensus$Town" "counters" "I") (by decide +kernel)
  have L107 := hts (.fieldLink RX9 107 "PalmCensus$Town" "left" "I") (by decide +kernel)
  have L110 := hts (.fieldLink RX9 110 "PalmCensus$Town" "gloved" "I") (by decide +kernel)
  have L113 := hts (.fieldLink RX9 113 "PalmCensus$Town" "children" "I") (by decide +kernel)
  have L80 := hts (.fieldLink RX9 80 "PalmCensus$Town" "gates" "I") (by decide +kernel)
  have L58 := hts (.fieldLink RX9 58 "PalmCensus$Town" "people" "I") (by decide +kernel)
  have hl := lv_entry ([.ref ap0, .int xp1]) (n := 5) (Nat.le_of_ble_eq_true rfl)
  rw [lg_entry_eq]
  generalize (lg_sl ([.ref ap0, .int xp1]) ++ List.replicate (5 - (lg_sl ([.ref ap0, .int xp1])).length) Slot.unset).toArray = ls at hl ⊢
  have hl : lv_has ls 5 [(0, .ref ap0), (1, .int xp1)] := hl
  show WX9_readMark p l e s m below meth c D T ap0 xp1 s.heap [] (F0 m 0 ls [])
  refine lv_iload_n hx hb dX9_readMark_0 rfl (lv_at hl 1 rfl) ?_
  refine lv_iconst (v := 2) hx hb dX9_readMark_1 (by decide) ?_
  have J20 : ∀ (y20_s0 : Int32), iv y20_s0 0 1 → ∀ (H : Heap) (locs : List Loc), hp_w D T s H locs → ∀ (ls : Array Slot), lv_has ls 5 [(0, .ref ap0), (1, .int xp1)] → WX9_readMark p l e s m below meth c D T ap0 xp1 H locs (F0 m 20 ls [.int y20_s0]) := by
    intro y20_s0 c20_y20_s0 H20 locs20 hw ls hl
    refine lv_istore_n (lv' := [(2, .int y20_s0), (0, .ref ap0), (1, .int xp1)]) hx hb dX9_readMark_20 rfl hl (by decide) rfl (fun ls hl => ?_)
    refine lv_aload_n hx hb dX9_readMark_21 rfl (lv_at hl 1 rfl) ?_
    refine hp_getr hx hb hts IX9 hown hK hw.1 hp0 rfl 0 (by decide) L18 rfl dX9_readMark_22 ?_
    refine lv_iconst (v := 0) hx hb dX9_readMark_25 (by decide) ?_
    refine lv_iload_n hx hb dX9_readMark_26 rfl (lv_at hl 0 rfl) ?_
    have J47 : ∀ (y47_s2 : Int32), iv y47_s2 0 10 → ∀ (H : Heap) (locs : List Loc), hp_w D T s H locs → ∀ (ls : Array Slot), lv_has ls 5 [(0, .ref ap0), (1, .int xp1)] → WX9_readMark p l e s m below meth c D T ap0 xp1 H locs (F0 m 47 ls [.int y47_s2, .int 0, .ref ap0tp]) := by
      intro y47_s2 c47_y47_s2 H47 locs47 hw ls hl
      refine lv_iconst (v := 1) hx hb dX9_readMark_47 (by decide) ?_
      refine lv_isub hx hb dX9_readMark_48 ?_
      refine lv_topi (fun x48 ex48 => ?_)
      have bx48 : iv x48 (-1) 9 := iv_sub c47_y47_s2 (show iv 1 1 1 from ⟨by decide, by decide⟩) ex48 (by decide)
      have qx48 := iv_sub_eq c47_y47_s2 (show iv 1 1 1 from ⟨by decide, by decide⟩) ex48 (by decide)
      refine hp_callei (va_runV (As := [.int 0, .int x48]) (rest := []) ⟨hx, hb, hml, hown, hts⟩ (sX7_takeNumber l D T ap0tp (0 : Int32) x48 ip0tp) (cwV 2 hts gX9_readMark_X7_takeNumber rfl rfl rfl (by decide +kernel) ⟨Nat.le_of_ble_eq_true rfl, Nat.le_of_ble_eq_true rfl⟩) (hp_preV hG hw hp0tp rfl trivial) rfl rfl hl.1 rfl (lv_room (Nat.le_of_ble_eq_true rfl)) dX9_readMark_49 ⟨Nat.zero_le _, Nat.zero_le _⟩) hw (fun x49 st49 t49 H49 locs49 eh49 eg49 bx49 hw => ?_)
      obtain ⟨bx49, ox49⟩ := bx49
      have ox49a : x49 = (-1) ∨ iv x49 0 9 := ox49.imp id (fun h => iv_range h.1 h.2 (show iv 0 0 0 from ⟨by decide, by decide⟩) bx48)
      refine lv_istore_n (lv' := [(3, .int x49), (0, .ref ap0), (1, .int xp1)]) hx hb dX9_readMark_52 rfl hl (by decide) rfl (fun ls hl => ?_)
      refine lv_iload_n hx hb dX9_readMark_53 rfl (lv_at hl 0 rfl) ?_
      refine lv_iconst (v := (-1)) hx hb dX9_readMark_54 (by decide) ?_
      refine lv_icmp_ne (tgt := 60) hx hb dX9_readMark_55 (by decide) (fun c55 => ?_) (fun c55 => ?_)
      · have r55tp : iv x49 0 9 := (ox49a.resolve_left c55).mono (by decide) (by decide)
        refine lv_iconst (v := 1) hx hb dX9_readMark_60 (by decide) ?_
        refine lv_iload_n hx hb dX9_readMark_61 rfl (lv_at hl 0 rfl) ?_
        refine lv_ishl hx hb dX9_readMark_62 ?_
        refine lv_topi (fun x62 ex62 => ?_)
        have bx62 : iv x62 1 512 := iv_shl 9 (show iv 1 1 1 from ⟨by decide, by decide⟩) r55tp ex62 (by decide)
        refine lv_istore (lv' := [(4, .int x62), (3, .int x49), (0, .ref ap0), (1, .int xp1)]) hx hb dX9_readMark_63 hl (by decide) rfl (fun ls hl => ?_)
        refine lv_iload_n hx hb dX9_readMark_65 rfl (lv_at hl 3 rfl) ?_
        have i66 := (iv_any xp1)
        unfold iv at i66
        rcases (show (xp1.toInt < 2 ∨ 4 < xp1.toInt) ∨ xp1.toInt = 2 ∨ xp1.toInt = 3 ∨ xp1.toInt = 4 from by omega) with s66 | s66 | s66 | s66
        · refine lv_tableOut (tgt := 140) hx hb dX9_readMark_66 s66 (by decide) ?_
          refine lv_aload_n hx hb dX9_readMark_140 rfl (lv_at hl 2 rfl) ?_
          refine hp_getr hx hb hts IX9 hown hK hw.1 hp0 rfl 1 (by decide) L12 rfl dX9_readMark_141 ?_
          refine lv_dup hx hb dX9_readMark_144 rfl ?_
          refine hp_getA hx hb hts IX8 hown hK hw.1 hp0tw rfl 7 (by decide) L116 rfl dX9_readMark_145 (fun x145 fx145 => ?_)
          refine lv_iload hx hb dX9_readMark_148 (lv_at hl 0 rfl) ?_
          refine lv_ior hx hb dX9_readMark_150 ?_
          refine lv_topi (fun x150 ex150 => ?_)
          refine hp_put hx hb hts IX8 tyX8 tyX8_ok nmX8 hown hK hw hp0tw rfl 7 (by decide) L116 rfl rfl ⟨_, rfl⟩ rfl rfl dX9_readMark_151 (fun H151 locs151 hw f151n g151 => ?_)
          refine lv_iconst (v := 1) hx hb dX9_readMark_154 (by decide) ?_
          exact W.zret (v := 1) hx hb hr (iv_nz (show iv 1 0 1 from ⟨by decide, by decide⟩)) (fun t ht hW => ⟨some (.int 1), rfl, ⟨(1 : Int32), rfl, (show iv 1 0 1 from ⟨by decide, by decide⟩)⟩, by rw [ht]; exact hw.1, hw.2.F ht⟩) hw.2.2.2 dX9_readMark_155
        · refine lv_tableIn (off := 26) (tgt := 92) hx hb dX9_readMark_66 (by omega) (by omega) (by rw [s66]; rfl) (by decide) ?_
          have r66k : iv xp1 2 2 := ⟨by omega, by omega⟩
          refine lv_aload_n hx hb dX9_readMark_92 rfl (lv_at hl 2 rfl) ?_
          refine hp_getr hx hb hts IX9 hown hK hw.1 hp0 rfl 1 (by decide) L12 rfl dX9_readMark_93 ?_
          refine lv_dup hx hb dX9_readMark_96 rfl ?_
          refine hp_getA hx hb hts IX8 hown hK hw.1 hp0tw rfl 4 (by decide) L107 rfl dX9_readMark_97 (fun x97 fx97 => ?_)
          refine lv_iload hx hb dX9_readMark_100 (lv_at hl 0 rfl) ?_
          refine lv_ior hx hb dX9_readMark_102 ?_
          refine lv_topi (fun x102 ex102 => ?_)
          refine hp_put hx hb hts IX8 tyX8 tyX8_ok nmX8 hown hK hw hp0tw rfl 4 (by decide) L107 rfl rfl ⟨_, rfl⟩ rfl rfl dX9_readMark_103 (fun H103 locs103 hw f103n g103 => ?_)
          refine lv_iconst (v := 1) hx hb dX9_readMark_106 (by decide) ?_
          exact W.zret (v := 1) hx hb hr (iv_nz (show iv 1 0 1 from ⟨by decide, by decide⟩)) (fun t ht hW => ⟨some (.int 1), rfl, ⟨(1 : Int32), rfl, (show iv 1 0 1 from ⟨by decide, by decide⟩)⟩, by rw [ht]; exact hw.1, hw.2.F ht⟩) hw.2.2.2 dX9_readMark_107
        · refine lv_tableIn (off := 42) (tgt := 108) hx hb dX9_readMark_66 (by omega) (by omega) (by rw [s66]; rfl) (by decide) ?_
          have r66k : iv xp1 3 3 := ⟨by omega, by omega⟩
          refine lv_aload_n hx hb dX9_readMark_108 rfl (lv_at hl 2 rfl) ?_
          refine hp_getr hx hb hts IX9 hown hK hw.1 hp0 rfl 1 (by decide) L12 rfl dX9_readMark_109 ?_
          refine lv_dup hx hb dX9_readMark_112 rfl ?_
          refine hp_getA hx hb hts IX8 hown hK hw.1 hp0tw rfl 5 (by decide) L110 rfl dX9_readMark_113 (fun x113 fx113 => ?_)
          refine lv_iload hx hb dX9_readMark_116 (lv_at hl 0 rfl) ?_
          refine lv_ior hx hb dX9_readMark_118 ?_
          refine lv_topi (fun x118 ex118 => ?_)
          refine hp_put hx hb hts IX8 tyX8 tyX8_ok nmX8 hown hK hw hp0tw rfl 5 (by decide) L110 rfl rfl ⟨_, rfl⟩ rfl rfl dX9_readMark_119 (fun H119 locs119 hw f119n g119 => ?_)
          refine lv_iconst (v := 1) hx hb dX9_readMark_122 (by decide) ?_
          exact W.zret (v := 1) hx hb hr (iv_nz (show iv 1 0 1 from ⟨by decide, by decide⟩)) (fun t ht hW => ⟨some (.int 1), rfl, ⟨(1 : Int32), rfl, (show iv 1 0 1 from ⟨by decide, by decide⟩)⟩, by rw [ht]; exact hw.1, hw.2.F ht⟩) hw.2.2.2 dX9_readMark_123
        · refine lv_tableIn (off := 58) (tgt := 124) hx hb dX9_readMark_66 (by omega) (by omega) (by rw [s66]; rfl) (by decide) ?_
          have r66k : iv xp1 4 4 := ⟨by omega, by omega⟩
          refine lv_aload_n hx hb dX9_readMark_124 rfl (lv_at hl 2 rfl) ?_
          refine hp_getr hx hb hts IX9 hown hK hw.1 hp0 rfl 1 (by decide) L12 rfl dX9_readMark_125 ?_
          refine lv_dup hx hb dX9_readMark_128 rfl ?_
          refine hp_getA hx hb hts IX8 hown hK hw.1 hp0tw rfl 6 (by decide) L113 rfl dX9_readMark_129 (fun x129 fx129 => ?_)
          refine lv_iload hx hb dX9_readMark_132 (lv_at hl 0 rfl) ?_
          refine lv_ior hx hb dX9_readMark_134 ?_
          refine lv_topi (fun x134 ex134 => ?_)
          refine hp_put hx hb hts IX8 tyX8 tyX8_ok nmX8 hown hK hw hp0tw rfl 6 (by decide) L113 rfl rfl ⟨_, rfl⟩ rfl rfl dX9_readMark_135 (fun H135 locs135 hw f135n g135 => ?_)
          refine lv_iconst (v := 1) hx hb dX9_readMark_138 (by decide) ?_
          exact W.zret (v := 1) hx hb hr (iv_nz (show iv 1 0 1 from ⟨by decide, by decide⟩)) (fun t ht hW => ⟨some (.int 1), rfl, ⟨(1 : Int32), rfl, (show iv 1 0 1 from ⟨by decide, by decide⟩)⟩, by rw [ht]; exact hw.1, hw.2.F ht⟩) hw.2.2.2 dX9_readMark_139
      · have r55fp : iv x49 (-1) (-1) := (iv_both (iv_any x49) (iv_eq (show iv (-1) (-1) (-1) from ⟨by decide, by decide⟩) c55)).mono (by decide) (by decide)
        refine lv_iconst (v := 0) hx hb dX9_readMark_58 (by decide) ?_
        exact W.zret (v := 0) hx hb hr (iv_nz (show iv 0 0 1 from ⟨by decide, by decide⟩)) (fun t ht hW => ⟨some (.int 0), rfl, ⟨(0 : Int32), rfl, (show iv 0 0 1 from ⟨by decide, by decide⟩)⟩, by rw [ht]; exact hw.1, hw.2.F ht⟩) hw.2.2.2 dX9_readMark_59
    refine lv_if_eq (tgt := 40) hx hb dX9_readMark_27 (by decide) (fun c27 => ?_) (fun c27 => ?_)
    · have r27tp : iv y20_s0 0 0 := (iv_both c20_y20_s0 (iv_eq (show iv 0 0 0 from ⟨by decide, by decide⟩) c27)).mono (by decide) (by decide)
      refine lv_aload_n hx hb dX9_readMark_40 rfl (lv_at hl 1 rfl) ?_
      refine hp_getr hx hb hts IX9 hown hK hw.1 hp0 rfl 1 (by decide) L12 rfl dX9_readMark_41 ?_
      refine hp_geti hx hb hts IX8 hown hK hw.1 hp0tw rfl 0 (by decide) L80 rfl dX9_readMark_44 (fun x44 bx44 fx44 => ?_)
      exact J47 x44 (bx44.mono (by decide) (by decide)) H20 locs20 hw _ (lv_sub hl [1, 2] rfl)
    · have r27fp : iv y20_s0 1 1 := (iv_ne_lo c27 c20_y20_s0 rfl).mono (by decide) (by decide)
      refine lv_aload_n hx hb dX9_readMark_30 rfl (lv_at hl 1 rfl) ?_
      refine hp_getr hx hb hts IX9 hown hK hw.1 hp0 rfl 1 (by decide) L12 rfl dX9_readMark_31 ?_
      refine hp_geti hx hb hts IX8 hown hK hw.1 hp0tw rfl 2 (by decide) L58 rfl dX9_readMark_34 (fun x34 bx34 fx34 => ?_)
      refine lv_goto (tgt := 47) hx hb dX9_readMark_37 (by decide) ?_
      exact J47 x34 bx34 H20 locs20 hw _ (lv_sub hl [1, 2] rfl)
  have J15 : iv xp1 2 4 → ∀ (H : Heap) (locs : List Loc), hp_w D T s H locs → ∀ (ls : Array Slot), lv_has ls 5 [(0, .ref ap0), (1, .int xp1)] → WX9_readMark p l e s m below meth c D T ap0 xp1 H locs (F0 m 15 ls []) := by
    intro c15_xp1 H15 locs15 hw ls hl
    refine lv_iconst (v := 1) hx hb dX9_readMark_15 (by decide) ?_
    refine lv_goto (tgt := 20) hx hb dX9_readMark_16 (by decide) ?_
    exact J20 (1 : Int32) (show iv 1 0 1 from ⟨by decide, by decide⟩) H15 locs15 hw _ (lv_sub hl [0, 1] rfl)
  refine lv_icmp_eq (tgt := 15) hx hb dX9_readMark_2 (by decide) (fun c2 => ?_) (fun c2 => ?_)
  · have r2tp : iv xp1 2 2 := (iv_both (iv_any xp1) (iv_eq (show iv 2 2 2 from ⟨by decide, by decide⟩) c2)).mono (by decide) (by decide)
    exact J15 (r2tp.mono (by decide) (by decide)) s.heap [] hw _ (lv_sub hl [0, 1] rfl)
  · refine lv_iload_n hx hb dX9_readMark_5 rfl (lv_at hl 1 rfl) ?_
    refine lv_iconst (v := 3) hx hb dX9_readMark_6 (by decide) ?_
    refine lv_icmp_eq (tgt := 15) hx hb dX9_readMark_7 (by decide) (fun c7 => ?_) (fun c7 => ?_)
    · have r7tp : iv xp1 3 3 := (iv_both (iv_any xp1) (iv_eq (show iv 3 3 3 from ⟨by decide, by decide⟩) c7)).mono (by decide) (by decide)
      exact J15 (r7tp.mono (by decide) (by decide)) s.heap [] hw _ (lv_sub hl [0, 1] rfl)
    · refine lv_iload_n hx hb dX9_readMark_10 rfl (lv_at hl 1 rfl) ?_
      refine lv_iconst (v := 4) hx hb dX9_readMark_11 (by decide) ?_
      refine lv_icmp_ne (tgt := 19) hx hb dX9_readMark_12 (by decide) (fun c12 => ?_) (fun c12 => ?_)
      · refine lv_iconst (v := 0) hx hb dX9_readMark_19 (by decide) ?_
        exact J20 (0 : Int32) (show iv 0 0 1 from ⟨by decide, by decide⟩) s.heap [] hw _ (lv_sub hl [0, 1] rfl)
      · have r12fp : iv xp1 4 4 := (iv_both (iv_any xp1) (iv_eq (show iv 4 4 4 from ⟨by decide, by decide⟩) c12)).mono (by decide) (by decide)
        exact J15 (r12fp.mono (by decide) (by decide)) s.heap [] hw _ (lv_sub hl [0, 1] rfl)
abbrev WX4_write (p : Program) (l : Launch) (e : Env) (s : State) (m : MethodId) (below : List Frame) (meth : Method) (c : Code) (D : hp_D) (T : hp_T) (ap0 : Nat) (xp1 : Int32) (H : Heap) (locs : List Loc) (g : JFrame) : Prop := W p l e (headSpec wsX4_write ({ frames := 0, cells := 0, slots := 0, locals := 0 })).room s m ([.ref ap0, .int xp1] : List Value).toArray below meth c H locs 0 0 (MQ below (hq_e D T (fun v _ _ => ∃ r : Int32, v = some (.int r) ∧ iv r 1 1)) ([.ref ap0, .int xp1] : List Value).toArray s 0 0 (hp_F T)) g
set_option maxHeartbeats 4000000 in
set_option maxRecDepth 100000 in
theorem sX4_write (l : Launch) (D : hp_D) (T : hp_T) (ap0 : Nat) (xp1 : Int32) (ip0 : isRuleReader T ap0) : Met l yX4_write wsX4_write ({ frames := 0, cells := 0, slots := 0, locals := 0 }) (hp_Pc D T [.ref ap0, .int xp1] (fun _ => True)) (hq_e D T (fun v _ _ => ∃ r : Int32, v = some (.int r) ∧ iv r 1 1)) 0 0 (hp_F T) := by
  obtain ⟨ap0tp, ap0stp, hp0, ip0tp, hp0stp⟩ := id ip0
  obtain ⟨ap0tpbt, hp0tp, hp0tpbt⟩ := id ip0tp
  refine Met.ofW (cc := cX4_write) (maxL := 2) (ret := (some .boolean)) (by decide) rfl ?_
  intro p e s m args below meth c s₁ B hml hv
  obtain ⟨rfl, hok, hG, hB⟩ := hv
  have hx := B.exec
  have hb := B.bytes
  have hr := B.returns
  have hts := atoms_spec (ws := wsX4_write) B.pre
  have hown : s.vm.findClass RX4 = some m.cls := findClass_of_methodNamed B.named
  have hlocks := B.notSynchronized
  have hK := hG.1
  have hw : hp_w D T s s.heap [] := hp_w.rf hok
  have IX4 : ∀ w ∈ wsX40, w ∈ wsX4_write := by decide +kernel
  have L15 := hts (.fieldLink RX4 15 "PalmCensus$RuleReader" "size" "I") (by decide +kernel)
  have L9 := hts (.fieldLink RX4 9 "PalmCensus$RuleReader" "steps" "[I") (by decide +kernel)
  have hl := lv_entry ([.ref ap0, .int xp1]) (n := 2) (Nat.le_of_ble_eq_true rfl)
  rw [lg_entry_eq]
  generalize (lg_sl ([.ref ap0, .int xp1]) ++ List.replicate (2 - (lg_sl ([.ref ap0, .int xp1])).length) Slot.unset).toArray = ls at hl ⊢
  have hl : lv_has ls 2 [(0, .ref ap0), (1, .int xp1)] := hl
  show WX4_write p l e s m below meth c D T ap0 xp1 s.heap [] (F0 m 0 ls [])
  refine lv_aload_n hx hb dX4_write_0 rfl (lv_at hl 0 rfl) ?_
  refine hp_geti hx hb hts IX4 hown hK hw.1 hp0 rfl 2 (by decide) L15 rfl dX4_write_1 (fun x1 bx1 fx1 => ?_)
  refine lv_aload_n hx hb dX4_write_4 rfl (lv_at hl 0 rfl) ?_
  refine hp_getr hx hb hts IX4 hown hK hw.1 hp0 rfl 1 (by decide) L9 rfl dX4_write_5 ?_
  refine hp_alen (v := 400) hx hb hK hw.1 hp0stp rfl rfl dX4_write_8 ?_
  have J32 : ∀ (H : Heap) (locs : List Loc), hp_w D T s H locs → ∀ (ls : Array Slot), lv_has ls 2 [] → WX4_write p l e s m below meth c D T ap0 xp1 H locs (F0 m 32 ls []) := by
    intro H32 locs32 hw ls hl
    refine lv_iconst (v := 1) hx hb dX4_write_32 (by decide) ?_
    exact W.zret (v := 1) hx hb hr (iv_nz (show iv 1 0 1 from ⟨by decide, by decide⟩)) (fun t ht hW => ⟨some (.int 1), rfl, ⟨(1 : Int32), rfl, (show iv 1 1 1 from ⟨by decide, by decide⟩)⟩, by rw [ht]; exact hw.1, hw.2.F ht⟩) hw.2.2.2 dX4_write_33
  refine lv_icmp_ge (tgt := 32) hx hb dX4_write_9 (by decide) (fun c9 => ?_) (fun c9 => ?_)
  · have r9tq : iv x1 400 400 := (iv_le_r c9 (show iv 400 400 400 from ⟨by decide, by decide⟩) bx1).mono (by decide) (by decide)
    exact J32 s.heap [] hw _ (lv_sub hl [] rfl)
  · have r9fp : iv x1 0 399 := (iv_lt_l (iv_nle c9) bx1 (show iv 400 400 400 from ⟨by decide, by decide⟩)).mono (by decide) (by decide)
    refine lv_aload_n hx hb dX4_write_12 rfl (lv_at hl 0 rfl) ?_
    refine hp_getr hx hb hts IX4 hown hK hw.1 hp0 rfl 1 (by decide) L9 rfl dX4_write_13 ?_
    refine lv_aload_n hx hb dX4_write_16 rfl (lv_at hl 0 rfl) ?_
    refine hp_getf hx hb hts IX4 hown hK fx1 rfl (by decide) L15 dX4_write_17 ?_
    refine lv_iload_n hx hb dX4_write_20 rfl (lv_at hl 1 rfl) ?_
    refine hp_iast hx hb hK hw hp0stp (vp_iv r9fp (by decide)) ⟨_, rfl⟩ dX4_write_21 (fun H21 locs21 hw g21 => ?_)
    have f_p0_2 := g21 _ _ _ _ fx1
    refine lv_aload_n hx hb dX4_write_22 rfl (lv_at hl 0 rfl) ?_
    refine lv_dup hx hb dX4_write_23 rfl ?_
    refine hp_getf hx hb hts IX4 hown hK f_p0_2 rfl (by decide) L15 dX4_write_24 ?_
    refine lv_iconst (v := 1) hx hb dX4_write_27 (by decide) ?_
    refine lv_iadd hx hb dX4_write_28 ?_
    refine lv_topi (fun x28 ex28 => ?_)
    have bx28 : iv x28 1 400 := iv_add r9fp (show iv 1 1 1 from ⟨by decide, by decide⟩) ex28 (by decide)
    have qx28 := iv_add_eq r9fp (show iv 1 1 1 from ⟨by decide, by decide⟩) ex28 (by decide)
    refine hp_put hx hb hts IX4 tyX4 tyX4_ok nmX4 hown hK hw hp0 rfl 2 (by decide) L15 rfl rfl ⟨_, rfl, (bx28.mono (by decide) (by decide))⟩ rfl rfl dX4_write_29 (fun H29 locs29 hw f29n g29 => ?_)
    exact J32 H29 locs29 hw _ (lv_sub hl [] rfl)
abbrev WX4_readSign (p : Program) (l : Launch) (e : Env) (s : State) (m : MethodId) (below : List Frame) (meth : Method) (c : Code) (D : hp_D) (T : hp_T) (ap0 : Nat) (H : Heap) (locs : List Loc) (g : JFrame) : Prop := W p l e (headSpec wsX4_readSign ({ frames := 5, cells := 0, slots := 0, locals := 123 })).room s m ([.ref ap0] : List Value).toArray below meth c H locs 0 0 (MQ below (hq_e D T (fun v _ _ => ∃ r : Int32, v = some (.int r) ∧ True)) ([.ref ap0] : List Value).toArray s 0 0 (hp_F T)) g
set_option maxHeartbeats 4000000 in
set_option maxRecDepth 100000 in
theorem sX4_readSign (l : Launch) (D : hp_D) (T : hp_T) (ap0 : Nat) (ip0 : isRuleReader T ap0) : Met l yX4_readSign wsX4_readSign ({ frames := 5, cells := 0, slots := 0, locals := 123 }) (hp_Pc D T [.ref ap0] (fun _ => True)) (hq_e D T (fun v _ _ => ∃ r : Int32, v = some (.int r) ∧ True)) 0 0 (hp_F T) := by
  obtain ⟨ap0tp, ap0stp, hp0, ip0tp, hp0stp⟩ := id ip0
  obtain ⟨ap0tpbt, hp0tp, hp0tpbt⟩ := id ip0tp
  refine Met.ofW (cc := cX4_readSign) (maxL := 3) (ret := (some .int)) (by decide) rfl ?_
  intro p e s m args below meth c s₁ B hml hv
  obtain ⟨rfl, hok, hG, hB⟩ := hv
  have hx := B.exec
  have hb := B.bytes
  have hr := B.returns
  have hts := atoms_spec (ws := wsX4_readSign) B.pre
  have hown : s.vm.findClass RX4 = some m.cls := findClass_of_methodNamed B.named
  have hlocks := B.notSynchronized
  have hK := hG.1
  have hw : hp_w D T s s.heap [] := hp_w.rf hok
  have IX4 : ∀ w ∈ wsX40, w ∈ wsX4_readSign := by decide +kernel
  have IX7 : ∀ w ∈ wsX70, w ∈ wsX4_readSign := by decide +kernel
  have L26 := hts (.fieldLink RX4 26 "PalmCensus$RuleReader" "tape" "LPalmCensus$Tape;") (by decide +kernel)
  have L19 := hts (.fieldLink RX4 19 "PalmCensus$RuleReader" "counted" "I") (by decide +kernel)
  have L77 := hts (.fieldLink RX4 77 "PalmCensus$Tape" "place" "I") (by decide +kernel)
  have L84 := hts (.fieldLink RX4 84 "PalmCensus$Tape" "start" "I") (by decide +kernel)
  have hl := lv_entry ([.ref ap0]) (n := 3) (Nat.le_of_ble_eq_true rfl)
  rw [lg_entry_eq]
  generalize (lg_sl ([.ref ap0]) ++ List.replicate (3 - (lg_sl ([.ref ap0])).length) Slot.unset).toArray = ls at hl ⊢
  have hl : lv_has ls 3 [(0, .ref ap0)] := hl
  show WX4_readSign p l e s m below meth c D T ap0 s.heap [] (F0 m 0 ls [])
  refine lv_aload_n hx hb dX4_readSign_0 rfl (lv_at hl 0 rfl) ?_
  refine hp_getr hx hb hts IX4 hown hK hw.1 hp0 rfl 0 (by decide) L26 rfl dX4_readSign_1 ?_
  refine va_ldcS hx hb hown hG.2.2.1.2.1 dX4_readSign_4 ?_
  refine hp_callei (va_runV (As := [.ref (D.2.2.1 1)]) (rest := []) ⟨hx, hb, hml, hown, hts⟩ (sX7_takeSignOf l D T ap0tp 1 ip0tp (by decide)) (cwV 1 hts gX4_readSign_X7_takeSignOf rfl rfl rfl (by decide +kernel) ⟨Nat.le_of_ble_eq_true rfl, Nat.le_of_ble_eq_true rfl⟩) (hp_preV hG hw hp0tp rfl trivial) rfl rfl hl.1 rfl (lv_room (Nat.le_of_ble_eq_true rfl)) dX4_readSign_6 ⟨Nat.zero_le _, Nat.zero_le _⟩) hw (fun x6 st6 t6 H6 locs6 eh6 eg6 bx6 hw => ?_)
  refine lv_istore_n (lv' := [(1, .int x6), (0, .ref ap0)]) hx hb dX4_readSign_9 rfl hl (by decide) rfl (fun ls hl => ?_)
  refine lv_iload_n hx hb dX4_readSign_10 rfl (lv_at hl 0 rfl) ?_
  refine lv_iconst (v := (-1)) hx hb dX4_readSign_11 (by decide) ?_
  refine lv_icmp_ne (tgt := 33) hx hb dX4_readSign_12 (by decide) (fun c12 => ?_) (fun c12 => ?_)
  · refine lv_aload_n hx hb dX4_readSign_33 rfl (lv_at hl 1 rfl) ?_
    refine hp_getA hx hb hts IX4 hown hK hw.1 hp0 rfl 3 (by decide) L19 rfl dX4_readSign_34 (fun x34 fx34 => ?_)
    refine lv_bipush (v := 60) hx hb dX4_readSign_37 (by decide) ?_
    refine lv_icmp_lt (tgt := 60) hx hb dX4_readSign_39 (by decide) (fun c39 => ?_) (fun c39 => ?_)
    · have r39tp : iv x34 (-2147483648) 59 := (iv_lt_l c39 (iv_any x34) (show iv 60 60 60 from ⟨by decide, by decide⟩)).mono (by decide) (by decide)
      refine lv_aload_n hx hb dX4_readSign_60 rfl (lv_at hl 1 rfl) ?_
      refine lv_dup hx hb dX4_readSign_61 rfl ?_
      refine hp_getf hx hb hts IX4 hown hK fx34 rfl (by decide) L19 dX4_readSign_62 ?_
      refine lv_iconst (v := 1) hx hb dX4_readSign_65 (by decide) ?_
      refine lv_iadd hx hb dX4_readSign_66 ?_
      refine lv_topi (fun x66 ex66 => ?_)
      have bx66 : iv x66 (-2147483647) 60 := iv_add r39tp (show iv 1 1 1 from ⟨by decide, by decide⟩) ex66 (by decide)
      have qx66 := iv_add_eq r39tp (show iv 1 1 1 from ⟨by decide, by decide⟩) ex66 (by decide)
      refine hp_put hx hb hts IX4 tyX4 tyX4_ok nmX4 hown hK hw hp0 rfl 3 (by decide) L19 rfl rfl ⟨_, rfl⟩ rfl rfl dX4_readSign_67 (fun H67 locs67 hw f67n g67 => ?_)
      refine lv_iload_n hx hb dX4_readSign_70 rfl (lv_at hl 0 rfl) ?_
      refine lv_iconst (v := 1) hx hb dX4_readSign_71 (by decide) ?_
      refine lv_icmp_ne (tgt := 78) hx hb dX4_readSign_72 (by decide) (fun c72 => ?_) (fun c72 => ?_)
      · refine lv_aload_n hx hb dX4_readSign_78 rfl (lv_at hl 1 rfl) ?_
        refine hp_getr hx hb hts IX4 hown hK hw.1 hp0 rfl 0 (by decide) L26 rfl dX4_readSign_79 ?_
        refine lv_aload_n hx hb dX4_readSign_82 rfl (lv_at hl 1 rfl) ?_
        refine hp_getr hx hb hts IX4 hown hK hw.1 hp0 rfl 0 (by decide) L26 rfl dX4_readSign_83 ?_
        refine hp_geti hx hb hts IX7 hown hK hw.1 hp0tp rfl 2 (by decide) L77 rfl dX4_readSign_86 (fun x86 bx86 fx86 => ?_)
        refine hp_callpi (va_runV (As := [.int x86]) (rest := []) ⟨hx, hb, hml, hown, hts⟩ (sX7_byteAt l D T ap0tp x86 ip0tp) (cwV 1 hts gX4_readSign_X7_byteAt rfl rfl rfl (by decide +kernel) ⟨Nat.le_of_ble_eq_true rfl, Nat.le_of_ble_eq_true rfl⟩) (hp_preV hG hw hp0tp rfl trivial) rfl rfl hl.1 rfl (lv_room (Nat.le_of_ble_eq_true rfl)) dX4_readSign_89 ⟨Nat.zero_le _, Nat.zero_le _⟩) (fun x89 bx89 => ?_)
        obtain ⟨bx89, ix89_0⟩ := bx89
        refine lv_bipush (v := 61) hx hb dX4_readSign_92 (by decide) ?_
        refine lv_icmp_ne (tgt := 101) hx hb dX4_readSign_94 (by decide) (fun c94 => ?_) (fun c94 => ?_)
        · refine lv_iconst (v := 0) hx hb dX4_readSign_101 (by decide) ?_
          refine lv_istore_n (lv' := [(2, .int 0), (1, .int x6), (0, .ref ap0)]) hx hb dX4_readSign_102 rfl hl (by decide) rfl (fun ls hl => ?_)
          refine lv_iload_n hx hb dX4_readSign_103 rfl (lv_at hl 0 rfl) ?_
          refine lv_if_eq (tgt := 120) hx hb dX4_readSign_104 (by decide) (fun c104 => ?_) (fun c104 => ?_)
          · refine lv_iload_n hx hb dX4_readSign_120 rfl (lv_at hl 1 rfl) ?_
            refine lv_if_ne (tgt := 136) hx hb dX4_readSign_121 (by decide) (fun c121 => ?_) (fun c121 => ?_)
            · refine lv_iload_n hx hb dX4_readSign_136 rfl (lv_at hl 0 rfl) ?_
              refine lv_if_eq (tgt := 145) hx hb dX4_readSign_137 (by decide) (fun c137 => ?_) (fun c137 => ?_)
              · refine lv_bipush (v := (-35)) hx hb dX4_readSign_145 (by decide) ?_
                exact W.iret (v := (-35)) hx hb hr (fun t ht hW => ⟨some (.int (-35)), rfl, ⟨((-35) : Int32), rfl, trivial⟩, by rw [ht]; exact hw.1, hw.2.F ht⟩) hw.2.2.2 dX4_readSign_147
              · exact absurd rfl c137
            · have r121fp : iv x6 0 0 := (iv_both (iv_any x6) (iv_eq (show iv 0 0 0 from ⟨by decide, by decide⟩) c121)).mono (by decide) (by decide)
              refine lv_iload_n hx hb dX4_readSign_124 rfl (lv_at hl 0 rfl) ?_
              refine lv_if_eq (tgt := 133) hx hb dX4_readSign_125 (by decide) (fun c125 => ?_) (fun c125 => ?_)
              · refine lv_bipush (v := (-31)) hx hb dX4_readSign_133 (by decide) ?_
                exact W.iret (v := (-31)) hx hb hr (fun t ht hW => ⟨some (.int (-31)), rfl, ⟨((-31) : Int32), rfl, trivial⟩, by rw [ht]; exact hw.1, hw.2.F ht⟩) hw.2.2.2 dX4_readSign_135
              · exact absurd rfl c125
          · exact absurd rfl c104
        · have r94fp : iv x89 61 61 := (iv_both bx89 (iv_eq (show iv 61 61 61 from ⟨by decide, by decide⟩) c94)).mono (by decide) (by decide)
          have r94fpz : iv x86 0 399 := (iv_both bx86 (ix89_0 (iv_ge0 r94fp (by decide)))).mono (by decide) (by decide)
          refine lv_iconst (v := 1) hx hb dX4_readSign_97 (by decide) ?_
          refine lv_goto (tgt := 102) hx hb dX4_readSign_98 (by decide) ?_
          refine lv_istore_n (lv' := [(2, .int 1), (1, .int x6), (0, .ref ap0)]) hx hb dX4_readSign_102 rfl hl (by decide) rfl (fun ls hl => ?_)
          refine lv_iload_n hx hb dX4_readSign_103 rfl (lv_at hl 0 rfl) ?_
          refine lv_if_eq (tgt := 120) hx hb dX4_readSign_104 (by decide) (fun c104 => ?_) (fun c104 => ?_)
          · exact iv_abs2 c104 (show iv 1 1 1 from ⟨by decide, by decide⟩) (show iv 0 0 0 from ⟨by decide, by decide⟩) (by decide)
          · refine lv_aload_n hx hb dX4_readSign_107 rfl (lv_at hl 2 rfl) ?_
            refine hp_getr hx hb hts IX4 hown hK hw.1 hp0 rfl 0 (by decide) L26 rfl dX4_readSign_108 ?_
            refine lv_dup hx hb dX4_readSign_111 rfl ?_
            refine hp_getf hx hb hts IX7 hown hK fx86 rfl (by decide) L77 dX4_readSign_112 ?_
            refine lv_iconst (v := 1) hx hb dX4_readSign_115 (by decide) ?_
            refine lv_iadd hx hb dX4_readSign_116 ?_
            refine lv_topi (fun x116 ex116 => ?_)
            have bx116 : iv x116 1 400 := iv_add r94fpz (show iv 1 1 1 from ⟨by decide, by decide⟩) ex116 (by decide)
            have qx116 := iv_add_eq r94fpz (show iv 1 1 1 from ⟨by decide, by decide⟩) ex116 (by decide)
            refine hp_put hx hb hts IX7 tyX7 tyX7_ok nmX7 hown hK hw hp0tp rfl 2 (by decide) L77 rfl rfl ⟨_, rfl, (bx116.mono (by decide) (by decide))⟩ rfl rfl dX4_readSign_117 (fun H117 locs117 hw f117n g117 => ?_)
            have f_p0_3 := g117 _ _ _ _ f67n (Or.inl (hp_ne_oo hp0 hp0tp (by decide)))
            refine lv_iload_n hx hb dX4_readSign_120 rfl (lv_at hl 1 rfl) ?_
            refine lv_if_ne (tgt := 136) hx hb dX4_readSign_121 (by decide) (fun c121 => ?_) (fun c121 => ?_)
            · refine lv_iload_n hx hb dX4_readSign_136 rfl (lv_at hl 0 rfl) ?_
              refine lv_if_eq (tgt := 145) hx hb dX4_readSign_137 (by decide) (fun c137 => ?_) (fun c137 => ?_)
              · exact iv_abs2 c137 (show iv 1 1 1 from ⟨by decide, by decide⟩) (show iv 0 0 0 from ⟨by decide, by decide⟩) (by decide)
              · refine lv_bipush (v := (-34)) hx hb dX4_readSign_140 (by decide) ?_
                refine lv_goto (tgt := 147) hx hb dX4_readSign_142 (by decide) ?_
                exact W.iret (v := (-34)) hx hb hr (fun t ht hW => ⟨some (.int (-34)), rfl, ⟨((-34) : Int32), rfl, trivial⟩, by rw [ht]; exact hw.1, hw.2.F ht⟩) hw.2.2.2 dX4_readSign_147
            · have r121fp : iv x6 0 0 := (iv_both (iv_any x6) (iv_eq (show iv 0 0 0 from ⟨by decide, by decide⟩) c121)).mono (by decide) (by decide)
              refine lv_iload_n hx hb dX4_readSign_124 rfl (lv_at hl 0 rfl) ?_
              refine lv_if_eq (tgt := 133) hx hb dX4_readSign_125 (by decide) (fun c125 => ?_) (fun c125 => ?_)
              · exact iv_abs2 c125 (show iv 1 1 1 from ⟨by decide, by decide⟩) (show iv 0 0 0 from ⟨by decide, by decide⟩) (by decide)
              · refine lv_bipush (v := (-32)) hx hb dX4_readSign_128 (by decide) ?_
                refine lv_goto (tgt := 135) hx hb dX4_readSign_130 (by decide) ?_
                exact W.iret (v := (-32)) hx hb hr (fun t ht hW => ⟨some (.int (-32)), rfl, ⟨((-32) : Int32), rfl, trivial⟩, by rw [ht]; exact hw.1, hw.2.F ht⟩) hw.2.2.2 dX4_readSign_135
      · have r72fp : iv x6 1 1 := (iv_both (iv_any x6) (iv_eq (show iv 1 1 1 from ⟨by decide, by decide⟩) c72)).mono (by decide) (by decide)
        refine lv_bipush (v := (-33)) hx hb dX4_readSign_75 (by decide) ?_
        exact W.iret (v := (-33)) hx hb hr (fun t ht hW => ⟨some (.int (-33)), rfl, ⟨((-33) : Int32), rfl, trivial⟩, by rw [ht]; exact hw.1, hw.2.F ht⟩) hw.2.2.2 dX4_readSign_77
    · have r39fq : iv x34 60 2147483647 := (iv_le_r (iv_nlt c39) (show iv 60 60 60 from ⟨by decide, by decide⟩) (iv_any x34)).mono (by decide) (by decide)
      refine lv_aload_n hx hb dX4_readSign_42 rfl (lv_at hl 1 rfl) ?_
      refine hp_getr hx hb hts IX4 hown hK hw.1 hp0 rfl 0 (by decide) L26 rfl dX4_readSign_43 ?_
      refine lv_aload_n hx hb dX4_readSign_46 rfl (lv_at hl 1 rfl) ?_
      refine hp_getr hx hb hts IX4 hown hK hw.1 hp0 rfl 0 (by decide) L26 rfl dX4_readSign_47 ?_
      refine hp_geti hx hb hts IX7 hown hK hw.1 hp0tp rfl 4 (by decide) L84 rfl dX4_readSign_50 (fun x50 bx50 fx50 => ?_)
      refine lv_iconst (v := 3) hx hb dX4_readSign_53 (by decide) ?_
      refine hp_callei (va_runV (As := [.int x50, .int 3]) (rest := []) ⟨hx, hb, hml, hown, hts⟩ (sX7_blame l D T ap0tp x50 (3 : Int32) ip0tp) (cwV 2 hts gX4_readSign_X7_blame rfl rfl rfl (by decide +kernel) ⟨Nat.le_of_ble_eq_true rfl, Nat.le_of_ble_eq_true rfl⟩) (hp_preV hG hw hp0tp rfl trivial) rfl rfl hl.1 rfl (lv_room (Nat.le_of_ble_eq_true rfl)) dX4_readSign_54 ⟨Nat.zero_le _, Nat.zero_le _⟩) hw (fun x54 st54 t54 H54 locs54 eh54 eg54 bx54 hw => ?_)
      refine lv_pop hx hb dX4_readSign_57 rfl ?_
      refine lv_iconst (v := 0) hx hb dX4_readSign_58 (by decide) ?_
      exact W.iret (v := 0) hx hb hr (fun t ht hW => ⟨some (.int 0), rfl, ⟨(0 : Int32), rfl, trivial⟩, by rw [ht]; exact hw.1, hw.2.F ht⟩) hw.2.2.2 dX4_readSign_59
  · have r12fp : iv x6 (-1) (-1) := (iv_both (iv_any x6) (iv_eq (show iv (-1) (-1) (-1) from ⟨by decide, by decide⟩) c12)).mono (by decide) (by decide)
    refine lv_aload_n hx hb dX4_readSign_15 rfl (lv_at hl 1 rfl) ?_
    refine hp_getr hx hb hts IX4 hown hK hw.1 hp0 rfl 0 (by decide) L26 rfl dX4_readSign_16 ?_
    refine lv_aload_n hx hb dX4_readSign_19 rfl (lv_at hl 1 rfl) ?_
    refine hp_getr hx hb hts IX4 hown hK hw.1 hp0 rfl 0 (by decide) L26 rfl dX4_readSign_20 ?_
    refine hp_geti hx hb hts IX7 hown hK hw.1 hp0tp rfl 2 (by decide) L77 rfl dX4_readSign_23 (fun x23 bx23 fx23 => ?_)
    refine lv_iconst (v := 0) hx hb dX4_readSign_26 (by decide) ?_
    refine hp_callei (va_runV (As := [.int x23, .int 0]) (rest := []) ⟨hx, hb, hml, hown, hts⟩ (sX7_blame l D T ap0tp x23 (0 : Int32) ip0tp) (cwV 2 hts gX4_readSign_X7_blame rfl rfl rfl (by decide +kernel) ⟨Nat.le_of_ble_eq_true rfl, Nat.le_of_ble_eq_true rfl⟩) (hp_preV hG hw hp0tp rfl trivial) rfl rfl hl.1 rfl (lv_room (Nat.le_of_ble_eq_true rfl)) dX4_readSign_27 ⟨Nat.zero_le _, Nat.zero_le _⟩) hw (fun x27 st27 t27 H27 locs27 eh27 eg27 bx27 hw => ?_)
    refine lv_pop hx hb dX4_readSign_30 rfl ?_
    refine lv_iconst (v := 0) hx hb dX4_readSign_31 (by decide) ?_
    exact W.iret (v := 0) hx hb hr (fun t ht hW => ⟨some (.int 0), rfl, ⟨(0 : Int32), rfl, trivial⟩, by rw [ht]; exact hw.1, hw.2.F ht⟩) hw.2.2.2 dX4_readSign_32
abbrev WX4_readValue (p : Program) (l : Launch) (e : Env) (s : State) (m : MethodId) (below : List Frame) (meth : Method) (c : Code) (D : hp_D) (T : hp_T) (ap0 : Nat) (H : Heap) (locs : List Loc) (g : JFrame) : Prop := W p l e (headSpec wsX4_readValue ({ frames := 5, cells := 0, slots := 0, locals := 128 })).room s m ([.ref ap0] : List Value).toArray below meth c H locs 0 0 (MQ below (hq_e D T (fun v _ _ => ∃ r : Int32, v = some (.int r) ∧ iv r 0 1)) ([.ref ap0] : List Value).toArray s 0 0 (hp_F T)) g
set_option maxHeartbeats 4000000 in
set_option maxRecDepth 100000 in
theorem sX4_readValue (l : Launch) (D : hp_D) (T : hp_T) (ap0 : Nat) (ip0 : isRuleReader T ap0) : Met l yX4_readValue wsX4_readValue ({ frames := 5, cells := 0, slots := 0, locals := 128 }) (hp_Pc D T [.ref ap0] (fun _ => True)) (hq_e D T (fun v _ _ => ∃ r : Int32, v = some (.int r) ∧ iv r 0 1)) 0 0 (hp_F T) := by
  obtain ⟨ap0tp, ap0stp, hp0, ip0tp, hp0stp⟩ := id ip0
  obtain ⟨ap0tpbt, hp0tp, hp0tpbt⟩ := id ip0tp
  refine Met.ofW (cc := cX4_readValue) (maxL := 3) (ret := (some .boolean)) (by decide) rfl ?_
  intro p e s m args below meth c s₁ B hml hv
  obtain ⟨rfl, hok, hG, hB⟩ := hv
  have hx := B.exec
  have hb := B.bytes
  have hr := B.returns
  have hts := atoms_spec (ws := wsX4_readValue) B.pre
  have hown : s.vm.findClass RX4 = some m.cls := findClass_of_methodNamed B.named
  have hlocks := B.notSynchronized
  have hK := hG.1
  have hw : hp_w D T s s.heap [] := hp_w.rf hok
  have IX4 : ∀ w ∈ wsX40, w ∈ wsX4_readValue := by decide +kernel
  have IX7 : ∀ w ∈ wsX70, w ∈ wsX4_readValue := by decide +kernel
  have L26 := hts (.fieldLink RX4 26 "PalmCensus$RuleReader" "tape" "LPalmCensus$Tape;") (by decide +kernel)
  have L77 := hts (.fieldLink RX4 77 "PalmCensus$Tape" "place" "I") (by decide +kernel)
  have L19 := hts (.fieldLink RX4 19 "PalmCensus$RuleReader" "counted" "I") (by decide +kernel)
  have L84 := hts (.fieldLink RX4 84 "PalmCensus$Tape" "start" "I") (by decide +kernel)
  have L22 := hts (.fieldLink RX4 22 "PalmCensus$RuleReader" "mindsCrowd" "Z") (by decide +kernel)
  have K122 := hts (.constant RX4 122 99999) (by decide +kernel)
  have hl := lv_entry ([.ref ap0]) (n := 3) (Nat.le_of_ble_eq_true rfl)
  rw [lg_entry_eq]
  generalize (lg_sl ([.ref ap0]) ++ List.replicate (3 - (lg_sl ([.ref ap0])).length) Slot.unset).toArray = ls at hl ⊢
  have hl : lv_has ls 3 [(0, .ref ap0)] := hl
  show WX4_readValue p l e s m below meth c D T ap0 s.heap [] (F0 m 0 ls [])
  refine lv_aload_n hx hb dX4_readValue_0 rfl (lv_at hl 0 rfl) ?_
  refine hp_getr hx hb hts IX4 hown hK hw.1 hp0 rfl 0 (by decide) L26 rfl dX4_readValue_1 ?_
  refine hp_callev (va_runV (As := []) (rest := []) ⟨hx, hb, hml, hown, hts⟩ (sX7_skipBlanks l D T ap0tp ip0tp) (cwV 0 hts gX4_readValue_X7_skipBlanks rfl rfl rfl (by decide +kernel) ⟨Nat.le_of_ble_eq_true rfl, Nat.le_of_ble_eq_true rfl⟩) (hp_preV hG hw hp0tp rfl trivial) rfl rfl hl.1 rfl (lv_room (Nat.le_of_ble_eq_true rfl)) dX4_readValue_4 ⟨Nat.zero_le _, Nat.zero_le _⟩) hw (fun st4 t4 H4 locs4 eh4 eg4 bx4 hw => ?_)
  refine lv_aload_n hx hb dX4_readValue_7 rfl (lv_at hl 0 rfl) ?_
  refine hp_getr hx hb hts IX4 hown hK hw.1 hp0 rfl 0 (by decide) L26 rfl dX4_readValue_8 ?_
  refine lv_aload_n hx hb dX4_readValue_11 rfl (lv_at hl 0 rfl) ?_
  refine hp_getr hx hb hts IX4 hown hK hw.1 hp0 rfl 0 (by decide) L26 rfl dX4_readValue_12 ?_
  refine hp_geti hx hb hts IX7 hown hK hw.1 hp0tp rfl 2 (by decide) L77 rfl dX4_readValue_15 (fun x15 bx15 fx15 => ?_)
  refine hp_callpi (va_runV (As := [.int x15]) (rest := []) ⟨hx, hb, hml, hown, hts⟩ (sX7_isDigitAt l D T ap0tp x15 ip0tp) (cwV 1 hts gX4_readValue_X7_isDigitAt rfl rfl rfl (by decide +kernel) ⟨Nat.le_of_ble_eq_true rfl, Nat.le_of_ble_eq_true rfl⟩) (hp_preV hG hw hp0tp rfl trivial) rfl rfl hl.1 rfl (lv_room (Nat.le_of_ble_eq_true rfl)) dX4_readValue_18 ⟨Nat.zero_le _, Nat.zero_le _⟩) (fun x18 bx18 => ?_)
  obtain ⟨bx18, ix18_0⟩ := bx18
  have J97 : ∀ (y97_l1 : Int32), ∀ (H : Heap) (locs : List Loc), hp_w D T s H locs → ∀ (ls : Array Slot), lv_has ls 3 [(0, .ref ap0), (1, .int y97_l1)] → WX4_readValue p l e s m below meth c D T ap0 H locs (F0 m 97 ls []) := by
    intro y97_l1 H97 locs97 hw ls hl
    refine lv_aload_n hx hb dX4_readValue_97 rfl (lv_at hl 0 rfl) ?_
    refine hp_getA hx hb hts IX4 hown hK hw.1 hp0 rfl 3 (by decide) L19 rfl dX4_readValue_98 (fun x98 fx98 => ?_)
    refine lv_bipush (v := 60) hx hb dX4_readValue_101 (by decide) ?_
    refine lv_icmp_lt (tgt := 122) hx hb dX4_readValue_103 (by decide) (fun c103 => ?_) (fun c103 => ?_)
    · have r103tp : iv x98 (-2147483648) 59 := (iv_lt_l c103 (iv_any x98) (show iv 60 60 60 from ⟨by decide, by decide⟩)).mono (by decide) (by decide)
      refine lv_aload_n hx hb dX4_readValue_122 rfl (lv_at hl 0 rfl) ?_
      refine lv_dup hx hb dX4_readValue_123 rfl ?_
      refine hp_getf hx hb hts IX4 hown hK fx98 rfl (by decide) L19 dX4_readValue_124 ?_
      refine lv_iconst (v := 1) hx hb dX4_readValue_127 (by decide) ?_
      refine lv_iadd hx hb dX4_readValue_128 ?_
      refine lv_topi (fun x128 ex128 => ?_)
      have bx128 : iv x128 (-2147483647) 60 := iv_add r103tp (show iv 1 1 1 from ⟨by decide, by decide⟩) ex128 (by decide)
      have qx128 := iv_add_eq r103tp (show iv 1 1 1 from ⟨by decide, by decide⟩) ex128 (by decide)
      refine hp_put hx hb hts IX4 tyX4 tyX4_ok nmX4 hown hK hw hp0 rfl 3 (by decide) L19 rfl rfl ⟨_, rfl⟩ rfl rfl dX4_readValue_129 (fun H129 locs129 hw f129n g129 => ?_)
      refine lv_aload_n hx hb dX4_readValue_132 rfl (lv_at hl 0 rfl) ?_
      refine lv_iload_n hx hb dX4_readValue_133 rfl (lv_at hl 1 rfl) ?_
      refine hp_callei (va_runV (As := [.int y97_l1]) (rest := []) ⟨hx, hb, hml, hown, hts⟩ (sX4_write l D T ap0 y97_l1 ip0) (cwV 1 hts gX4_readValue_X4_write rfl rfl rfl (by decide +kernel) ⟨Nat.le_of_ble_eq_true rfl, Nat.le_of_ble_eq_true rfl⟩) (hp_preV hG hw hp0 rfl trivial) rfl rfl hl.1 rfl (lv_room (Nat.le_of_ble_eq_true rfl)) dX4_readValue_134 ⟨Nat.zero_le _, Nat.zero_le _⟩) hw (fun x134 st134 t134 H134 locs134 eh134 eg134 bx134 hw => ?_)
      exact W.zret (v := x134) hx hb hr (iv_nz (bx134.mono (by decide) (by decide))) (fun t ht hW => ⟨some (.int x134), rfl, ⟨x134, rfl, (bx134.mono (by decide) (by decide))⟩, by rw [ht]; exact hw.1, hw.2.F ht⟩) hw.2.2.2 dX4_readValue_137
    · have r103fq : iv x98 60 2147483647 := (iv_le_r (iv_nlt c103) (show iv 60 60 60 from ⟨by decide, by decide⟩) (iv_any x98)).mono (by decide) (by decide)
      refine lv_aload_n hx hb dX4_readValue_106 rfl (lv_at hl 0 rfl) ?_
      refine hp_getr hx hb hts IX4 hown hK hw.1 hp0 rfl 0 (by decide) L26 rfl dX4_readValue_107 ?_
      refine lv_aload_n hx hb dX4_readValue_110 rfl (lv_at hl 0 rfl) ?_
      refine hp_getr hx hb hts IX4 hown hK hw.1 hp0 rfl 0 (by decide) L26 rfl dX4_readValue_111 ?_
      refine hp_geti hx hb hts IX7 hown hK hw.1 hp0tp rfl 4 (by decide) L84 rfl dX4_readValue_114 (fun x114 bx114 fx114 => ?_)
      refine lv_iconst (v := 3) hx hb dX4_readValue_117 (by decide) ?_
      refine hp_callei (va_runV (As := [.int x114, .int 3]) (rest := []) ⟨hx, hb, hml, hown, hts⟩ (sX7_blame l D T ap0tp x114 (3 : Int32) ip0tp) (cwV 2 hts gX4_readValue_X7_blame rfl rfl rfl (by decide +kernel) ⟨Nat.le_of_ble_eq_true rfl, Nat.le_of_ble_eq_true rfl⟩) (hp_preV hG hw hp0tp rfl trivial) rfl rfl hl.1 rfl (lv_room (Nat.le_of_ble_eq_true rfl)) dX4_readValue_118 ⟨Nat.zero_le _, Nat.zero_le _⟩) hw (fun x118 st118 t118 H118 locs118 eh118 eg118 bx118 hw => ?_)
      exact W.zret (v := x118) hx hb hr (iv_nz (bx118.mono (by decide) (by decide))) (fun t ht hW => ⟨some (.int x118), rfl, ⟨x118, rfl, (bx118.mono (by decide) (by decide))⟩, by rw [ht]; exact hw.1, hw.2.F ht⟩) hw.2.2.2 dX4_readValue_121
  refine lv_if_eq (tgt := 42) hx hb dX4_readValue_21 (by decide) (fun c21 => ?_) (fun c21 => ?_)
  · have r21tp : iv x18 0 0 := (iv_both bx18 (iv_eq (show iv 0 0 0 from ⟨by decide, by decide⟩) c21)).mono (by decide) (by decide)
    refine lv_aload_n hx hb dX4_readValue_42 rfl (lv_at hl 0 rfl) ?_
    refine hp_getr hx hb hts IX4 hown hK hw.1 hp0 rfl 0 (by decide) L26 rfl dX4_readValue_43 ?_
    refine va_ldcS hx hb hown hG.2.2.1.2.2.2.1 dX4_readValue_46 ?_
    refine hp_callei (va_runV (As := [.ref (D.2.2.1 3)]) (rest := []) ⟨hx, hb, hml, hown, hts⟩ (sX7_takeWord l D T ap0tp 3 ip0tp (by decide)) (cwV 1 hts gX4_readValue_X7_takeWord rfl rfl rfl (by decide +kernel) ⟨Nat.le_of_ble_eq_true rfl, Nat.le_of_ble_eq_true rfl⟩) (hp_preV hG hw hp0tp rfl trivial) rfl rfl hl.1 rfl (lv_room (Nat.le_of_ble_eq_true rfl)) dX4_readValue_48 ⟨Nat.zero_le _, Nat.zero_le _⟩) hw (fun x48 st48 t48 H48 locs48 eh48 eg48 bx48 hw => ?_)
    refine lv_istore_n (lv' := [(2, .int x48), (0, .ref ap0)]) hx hb dX4_readValue_51 rfl hl (by decide) rfl (fun ls hl => ?_)
    refine lv_iload_n hx hb dX4_readValue_52 rfl (lv_at hl 0 rfl) ?_
    refine lv_iconst (v := (-1)) hx hb dX4_readValue_53 (by decide) ?_
    refine lv_icmp_ne (tgt := 73) hx hb dX4_readValue_54 (by decide) (fun c54 => ?_) (fun c54 => ?_)
    · refine lv_aload_n hx hb dX4_readValue_73 rfl (lv_at hl 1 rfl) ?_
      refine lv_dup hx hb dX4_readValue_74 rfl ?_
      refine hp_geti hx hb hts IX4 hown hK hw.1 hp0 rfl 4 (by decide) L22 rfl dX4_readValue_75 (fun x75 bx75 fx75 => ?_)
      refine lv_iload_n hx hb dX4_readValue_78 rfl (lv_at hl 0 rfl) ?_
      refine lv_bipush (v := 10) hx hb dX4_readValue_79 (by decide) ?_
      have J89 : ∀ (y89_s2 : Int32), iv x75 0 1 → iv y89_s2 0 1 → ∀ (H : Heap) (locs : List Loc), hp_w D T s H locs → ∀ (ls : Array Slot), lv_has ls 3 [(0, .ref ap0), (2, .int x48)] → WX4_readValue p l e s m below meth c D T ap0 H locs (F0 m 89 ls [.int y89_s2, .int x75, .ref ap0]) := by
        intro y89_s2 c89_x75 c89_y89_s2 H89 locs89 hw ls hl
        refine lv_ior hx hb dX4_readValue_89 ?_
        refine lv_topi (fun x89 ex89 => ?_)
        have bx89 : iv x89 0 1 := iv_or 1 c89_x75 c89_y89_s2 ex89 (by decide) (by decide)
        refine hp_put hx hb hts IX4 tyX4 tyX4_ok nmX4 hown hK hw hp0 rfl 4 (by decide) L22 rfl rfl ⟨_, rfl, bx89⟩ (iv_nz bx89) (iv_fz bx89) dX4_readValue_90 (fun H90 locs90 hw f90n g90 => ?_)
        refine lv_iconst (v := (-1)) hx hb dX4_readValue_93 (by decide) ?_
        refine lv_iload_n hx hb dX4_readValue_94 rfl (lv_at hl 1 rfl) ?_
        refine lv_isub hx hb dX4_readValue_95 ?_
        refine lv_topi (fun x95 ex95 => ?_)
        have qx95 := iv_sub_eq (show iv (-1) (-1) (-1) from ⟨by decide, by decide⟩) (iv_any x48) ex95 (by decide)
        refine lv_istore_n (lv' := [(1, .int x95), (0, .ref ap0), (2, .int x48)]) hx hb dX4_readValue_96 rfl hl (by decide) rfl (fun ls hl => ?_)
        exact J97 x95 H90 locs90 hw _ (lv_sub hl [1, 0] rfl)
      refine lv_icmp_ne (tgt := 88) hx hb dX4_readValue_81 (by decide) (fun c81 => ?_) (fun c81 => ?_)
      · refine lv_iconst (v := 0) hx hb dX4_readValue_88 (by decide) ?_
        exact J89 (0 : Int32) bx75 (show iv 0 0 1 from ⟨by decide, by decide⟩) H48 locs48 hw _ (lv_sub hl [1, 0] rfl)
      · have r81fp : iv x48 10 10 := (iv_both (iv_any x48) (iv_eq (show iv 10 10 10 from ⟨by decide, by decide⟩) c81)).mono (by decide) (by decide)
        refine lv_iconst (v := 1) hx hb dX4_readValue_84 (by decide) ?_
        refine lv_goto (tgt := 89) hx hb dX4_readValue_85 (by decide) ?_
        exact J89 (1 : Int32) bx75 (show iv 1 0 1 from ⟨by decide, by decide⟩) H48 locs48 hw _ (lv_sub hl [1, 0] rfl)
    · have r54fp : iv x48 (-1) (-1) := (iv_both (iv_any x48) (iv_eq (show iv (-1) (-1) (-1) from ⟨by decide, by decide⟩) c54)).mono (by decide) (by decide)
      refine lv_aload_n hx hb dX4_readValue_57 rfl (lv_at hl 1 rfl) ?_
      refine hp_getr hx hb hts IX4 hown hK hw.1 hp0 rfl 0 (by decide) L26 rfl dX4_readValue_58 ?_
      refine lv_aload_n hx hb dX4_readValue_61 rfl (lv_at hl 1 rfl) ?_
      refine hp_getr hx hb hts IX4 hown hK hw.1 hp0 rfl 0 (by decide) L26 rfl dX4_readValue_62 ?_
      refine hp_geti hx hb hts IX7 hown hK hw.1 hp0tp rfl 2 (by decide) L77 rfl dX4_readValue_65 (fun x65 bx65 fx65 => ?_)
      refine lv_iconst (v := 0) hx hb dX4_readValue_68 (by decide) ?_
      refine hp_callei (va_runV (As := [.int x65, .int 0]) (rest := []) ⟨hx, hb, hml, hown, hts⟩ (sX7_blame l D T ap0tp x65 (0 : Int32) ip0tp) (cwV 2 hts gX4_readValue_X7_blame rfl rfl rfl (by decide +kernel) ⟨Nat.le_of_ble_eq_true rfl, Nat.le_of_ble_eq_true rfl⟩) (hp_preV hG hw hp0tp rfl trivial) rfl rfl hl.1 rfl (lv_room (Nat.le_of_ble_eq_true rfl)) dX4_readValue_69 ⟨Nat.zero_le _, Nat.zero_le _⟩) hw (fun x69 st69 t69 H69 locs69 eh69 eg69 bx69 hw => ?_)
      exact W.zret (v := x69) hx hb hr (iv_nz (bx69.mono (by decide) (by decide))) (fun t ht hW => ⟨some (.int x69), rfl, ⟨x69, rfl, (bx69.mono (by decide) (by decide))⟩, by rw [ht]; exact hw.1, hw.2.F ht⟩) hw.2.2.2 dX4_readValue_72
  · have r21fp : iv x18 1 1 := (iv_ne_lo c21 bx18 rfl).mono (by decide) (by decide)
    have r21fpz : iv x15 0 399 := (iv_both bx15 (ix18_0 (iv_ne0 r21fp (by decide)))).mono (by decide) (by decide)
    refine lv_aload_n hx hb dX4_readValue_24 rfl (lv_at hl 0 rfl) ?_
    refine hp_getr hx hb hts IX4 hown hK hw.1 hp0 rfl 0 (by decide) L26 rfl dX4_readValue_25 ?_
    refine lv_iconst (v := 0) hx hb dX4_readValue_28 (by decide) ?_
    refine lv_ldc (v := 99999) hx hb hown K122 dX4_readValue_29 ?_
    refine hp_callei (va_runV (As := [.int 0, .int 99999]) (rest := []) ⟨hx, hb, hml, hown, hts⟩ (sX7_takeNumber l D T ap0tp (0 : Int32) (99999 : Int32) ip0tp) (cwV 2 hts gX4_readValue_X7_takeNumber rfl rfl rfl (by decide +kernel) ⟨Nat.le_of_ble_eq_true rfl, Nat.le_of_ble_eq_true rfl⟩) (hp_preV hG hw hp0tp rfl trivial) rfl rfl hl.1 rfl (lv_room (Nat.le_of_ble_eq_true rfl)) dX4_readValue_31 ⟨Nat.zero_le _, Nat.zero_le _⟩) hw (fun x31 st31 t31 H31 locs31 eh31 eg31 bx31 hw => ?_)
    obtain ⟨bx31, ox31⟩ := bx31
    have ox31a : x31 = (-1) ∨ iv x31 0 99999 := ox31.imp id (fun h => iv_range h.1 h.2 (show iv 0 0 0 from ⟨by decide, by decide⟩) (show iv 99999 99999 99999 from ⟨by decide, by decide⟩))
    refine lv_istore_n (lv' := [(1, .int x31), (0, .ref ap0)]) hx hb dX4_readValue_34 rfl hl (by decide) rfl (fun ls hl => ?_)
    refine lv_iload_n hx hb dX4_readValue_35 rfl (lv_at hl 0 rfl) ?_
    refine lv_iconst (v := (-1)) hx hb dX4_readValue_36 (by decide) ?_
    refine lv_icmp_ne (tgt := 97) hx hb dX4_readValue_37 (by decide) (fun c37 => ?_) (fun c37 => ?_)
    · have r37tp : iv x31 0 99999 := (ox31a.resolve_left c37).mono (by decide) (by decide)
      exact J97 x31 H31 locs31 hw _ (lv_sub hl [1, 0] rfl)
    · have r37fp : iv x31 (-1) (-1) := (iv_both (iv_any x31) (iv_eq (show iv (-1) (-1) (-1) from ⟨by decide, by decide⟩) c37)).mono (by decide) (by decide)
      refine lv_iconst (v := 0) hx hb dX4_readValue_40 (by decide) ?_
      exact W.zret (v := 0) hx hb hr (iv_nz (show iv 0 0 1 from ⟨by decide, by decide⟩)) (fun t ht hW => ⟨some (.int 0), rfl, ⟨(0 : Int32), rfl, (show iv 0 0 1 from ⟨by decide, by decide⟩)⟩, by rw [ht]; exact hw.1, hw.2.F ht⟩) hw.2.2.2 dX4_readValue_41
abbrev WX4_readSum (p : Program) (l : Launch) (e : Env) (s : State) (m : MethodId) (below : List Frame) (meth : Method) (c : Code) (D : hp_D) (T : hp_T) (ap0 : Nat) (H : Heap) (locs : List Loc) (g : JFrame) : Prop := W p l e (headSpec wsX4_readSum ({ frames := 6, cells := 0, slots := 0, locals := 150 })).room s m ([.ref ap0] : List Value).toArray below meth c H locs 0 0 (MQ below (hq_e D T (fun v _ _ => ∃ r : Int32, v = some (.int r) ∧ iv r 0 1)) ([.ref ap0] : List Value).toArray s 0 0 (hp_F T)) g
set_option maxHeartbeats 4000000 in
set_option maxRecDepth 100000 in
theorem sX4_readSum (l : Launch) (D : hp_D) (T : hp_T) (ap0 : Nat) (ip0 : isRuleReader T ap0) : Met l yX4_readSum wsX4_readSum ({ frames := 6, cells := 0, slots := 0, locals := 150 }) (hp_Pc D T [.ref ap0] (fun _ => True)) (hq_e D T (fun v _ _ => ∃ r : Int32, v = some (.int r) ∧ iv r 0 1)) 0 0 (hp_F T) := by
  obtain ⟨ap0tp, ap0stp, hp0, ip0tp, hp0stp⟩ := id ip0
  obtain ⟨ap0tpbt, hp0tp, hp0tpbt⟩ := id ip0tp
  refine Met.ofW (cc := cX4_readSum) (maxL := 6) (ret := (some .boolean)) (by decide) rfl ?_
  intro p e s m args below meth c s₁ B hml hv
  obtain ⟨rfl, hok, hG, hB⟩ := hv
  have hx := B.exec
  have hb := B.bytes
  have hr := B.returns
  have hts := atoms_spec (ws := wsX4_readSum) B.pre
  have hown : s.vm.findClass RX4 = some m.cls := findClass_of_methodNamed B.named
  have hlocks := B.notSynchronized
  have hK := hG.1
  have hw : hp_w D T s s.heap [] := hp_w.rf hok
  have IX4 : ∀ w ∈ wsX40, w ∈ wsX4_readSum := by decide +kernel
  have L26 := hts (.fieldLink RX4 26 "PalmCensus$RuleReader" "tape" "LPalmCensus$Tape;") (by decide +kernel)
  have hl := lv_entry ([.ref ap0]) (n := 6) (Nat.le_of_ble_eq_true rfl)
  rw [lg_entry_eq]
  generalize (lg_sl ([.ref ap0]) ++ List.replicate (6 - (lg_sl ([.ref ap0])).length) Slot.unset).toArray = ls at hl ⊢
  have hl : lv_has ls 6 [(0, .ref ap0)] := hl
  show WX4_readSum p l e s m below meth c D T ap0 s.heap [] (F0 m 0 ls [])
  refine lv_aload_n hx hb dX4_readSum_0 rfl (lv_at hl 0 rfl) ?_
  refine hp_callei (va_runV (As := []) (rest := []) ⟨hx, hb, hml, hown, hts⟩ (sX4_readValue l D T ap0 ip0) (cwV 0 hts gX4_readSum_X4_readValue rfl rfl rfl (by decide +kernel) ⟨Nat.le_of_ble_eq_true rfl, Nat.le_of_ble_eq_true rfl⟩) (hp_preV hG hw hp0 rfl trivial) rfl rfl hl.1 rfl (lv_room (Nat.le_of_ble_eq_true rfl)) dX4_readSum_1 ⟨Nat.zero_le _, Nat.zero_le _⟩) hw (fun x1 st1 t1 H1 locs1 eh1 eg1 bx1 hw => ?_)
  refine lv_if_ne (tgt := 9) hx hb dX4_readSum_4 (by decide) (fun c4 => ?_) (fun c4 => ?_)
  · have r4tp : iv x1 1 1 := (iv_ne_lo c4 bx1 rfl).mono (by decide) (by decide)
    refine lv_iconst (v := 0) hx hb dX4_readSum_9 (by decide) ?_
    refine lv_istore_n (lv' := [(1, .int 0), (0, .ref ap0)]) hx hb dX4_readSum_10 rfl hl (by decide) rfl (fun ls hl => ?_)
    refine lv_iconst (v := 0) hx hb dX4_readSum_11 (by decide) ?_
    refine lv_istore_n (lv' := [(2, .int 0), (1, .int 0), (0, .ref ap0)]) hx hb dX4_readSum_12 rfl hl (by decide) rfl (fun ls hl => ?_)
    have J13 : ∀ (n : Nat) (y13_l1 y13_l2 : Int32), (400 - y13_l2.toInt).toNat < n → iv y13_l2 0 400 → ∀ (H : Heap) (locs : List Loc), hp_w D T s H locs → ∀ (ls : Array Slot), lv_has ls 6 [(0, .ref ap0), (1, .int y13_l1), (2, .int y13_l2)] → WX4_readSum p l e s m below meth c D T ap0 H locs (F0 m 13 ls []) := by
      intro n
      induction n with
      | zero => intro y13_l1 y13_l2 hmu13 c13_y13_l2 H13 locs13 hw ls hl; exact absurd hmu13 (Nat.not_lt_zero _)
      | succ n ih13 =>
        intro y13_l1 y13_l2 hmu13 c13_y13_l2 H13 locs13 hw ls hl
        refine lv_iload_n hx hb dX4_readSum_13 rfl (lv_at hl 2 rfl) ?_
        refine lv_sipush (v := 400) hx hb dX4_readSum_14 (by decide) ?_
        have J112 : ∀ (H : Heap) (locs : List Loc), hp_w D T s H locs → ∀ (ls : Array Slot), lv_has ls 6 [(0, .ref ap0), (1, .int y13_l1)] → WX4_readSum p l e s m below meth c D T ap0 H locs (F0 m 112 ls []) := by
          intro H112 locs112 hw ls hl
          refine lv_iload_n hx hb dX4_readSum_112 rfl (lv_at hl 1 rfl) ?_
          have J129 : ∀ (H : Heap) (locs : List Loc), hp_w D T s H locs → ∀ (ls : Array Slot), lv_has ls 6 [] → WX4_readSum p l e s m below meth c D T ap0 H locs (F0 m 129 ls [.int 1]) := by
            intro H129 locs129 hw ls hl
            exact W.zret (v := 1) hx hb hr (iv_nz (show iv 1 0 1 from ⟨by decide, by decide⟩)) (fun t ht hW => ⟨some (.int 1), rfl, ⟨(1 : Int32), rfl, (show iv 1 0 1 from ⟨by decide, by decide⟩)⟩, by rw [ht]; exact hw.1, hw.2.F ht⟩) hw.2.2.2 dX4_readSum_129
          have J124 : ∀ (H : Heap) (locs : List Loc), hp_w D T s H locs → ∀ (ls : Array Slot), lv_has ls 6 [] → WX4_readSum p l e s m below meth c D T ap0 H locs (F0 m 124 ls []) := by
            intro H124 locs124 hw ls hl
            refine lv_iconst (v := 1) hx hb dX4_readSum_124 (by decide) ?_
            refine lv_goto (tgt := 129) hx hb dX4_readSum_125 (by decide) ?_
            exact J129 H124 locs124 hw _ (lv_sub hl [] rfl)
          refine lv_if_eq (tgt := 124) hx hb dX4_readSum_113 (by decide) (fun c113 => ?_) (fun c113 => ?_)
          · have r113tp : iv y13_l1 0 0 := (iv_both (iv_any y13_l1) (iv_eq (show iv 0 0 0 from ⟨by decide, by decide⟩) c113)).mono (by decide) (by decide)
            exact J124 H112 locs112 hw _ (lv_sub hl [] rfl)
          · refine lv_aload_n hx hb dX4_readSum_116 rfl (lv_at hl 0 rfl) ?_
            refine lv_iload_n hx hb dX4_readSum_117 rfl (lv_at hl 1 rfl) ?_
            refine hp_callei (va_runV (As := [.int y13_l1]) (rest := []) ⟨hx, hb, hml, hown, hts⟩ (sX4_write l D T ap0 y13_l1 ip0) (cwV 1 hts gX4_readSum_X4_write rfl rfl rfl (by decide +kernel) ⟨Nat.le_of_ble_eq_true rfl, Nat.le_of_ble_eq_true rfl⟩) (hp_preV hG hw hp0 rfl trivial) rfl rfl hl.1 rfl (lv_room (Nat.le_of_ble_eq_true rfl)) dX4_readSum_118 ⟨Nat.zero_le _, Nat.zero_le _⟩) hw (fun x118 st118 t118 H118 locs118 eh118 eg118 bx118 hw => ?_)
            refine lv_if_eq (tgt := 128) hx hb dX4_readSum_121 (by decide) (fun c121 => ?_) (fun c121 => ?_)
            · exact iv_abs2 c121 bx118 (show iv 0 0 0 from ⟨by decide, by decide⟩) (by decide)
            · exact J124 H118 locs118 hw _ (lv_sub hl [] rfl)
        refine lv_icmp_ge (tgt := 112) hx hb dX4_readSum_17 (by decide) (fun c17 => ?_) (fun c17 => ?_)
        · have r17tq : iv y13_l2 400 400 := (iv_le_r c17 (show iv 400 400 400 from ⟨by decide, by decide⟩) c13_y13_l2).mono (by decide) (by decide)
          exact J112 H13 locs13 hw _ (lv_sub hl [0, 1] rfl)
        · have r17fp : iv y13_l2 0 399 := (iv_lt_l (iv_nle c17) c13_y13_l2 (show iv 400 400 400 from ⟨by decide, by decide⟩)).mono (by decide) (by decide)
          refine lv_aload_n hx hb dX4_readSum_20 rfl (lv_at hl 0 rfl) ?_
          refine hp_getr hx hb hts IX4 hown hK hw.1 hp0 rfl 0 (by decide) L26 rfl dX4_readSum_21 ?_
          refine va_ldcS hx hb hown hG.2.2.1.2.2.1 dX4_readSum_24 ?_
          refine hp_callei (va_runV (As := [.ref (D.2.2.1 2)]) (rest := []) ⟨hx, hb, hml, hown, hts⟩ (sX7_takeSignOf l D T ap0tp 2 ip0tp (by decide)) (cwV 1 hts gX4_readSum_X7_takeSignOf rfl rfl rfl (by decide +kernel) ⟨Nat.le_of_ble_eq_true rfl, Nat.le_of_ble_eq_true rfl⟩) (hp_preV hG hw hp0tp rfl trivial) rfl rfl hl.1 rfl (lv_room (Nat.le_of_ble_eq_true rfl)) dX4_readSum_26 ⟨Nat.zero_le _, Nat.zero_le _⟩) hw (fun x26 st26 t26 H26 locs26 eh26 eg26 bx26 hw => ?_)
          refine lv_istore_n (lv' := [(3, .int x26), (0, .ref ap0), (1, .int y13_l1), (2, .int y13_l2)]) hx hb dX4_readSum_29 rfl hl (by decide) rfl (fun ls hl => ?_)
          refine lv_iload_n hx hb dX4_readSum_30 rfl (lv_at hl 0 rfl) ?_
          refine lv_iconst (v := (-1)) hx hb dX4_readSum_31 (by decide) ?_
          refine lv_icmp_ne (tgt := 38) hx hb dX4_readSum_32 (by decide) (fun c32 => ?_) (fun c32 => ?_)
          · refine lv_bipush (v := (-21)) hx hb dX4_readSum_38 (by decide) ?_
            refine lv_iload_n hx hb dX4_readSum_40 rfl (lv_at hl 0 rfl) ?_
            refine lv_isub hx hb dX4_readSum_41 ?_
            refine lv_topi (fun x41 ex41 => ?_)
            refine lv_istore (lv' := [(4, .int x41), (3, .int x26), (0, .ref ap0), (1, .int y13_l1), (2, .int y13_l2)]) hx hb dX4_readSum_42 hl (by decide) rfl (fun ls hl => ?_)
            refine lv_iload hx hb dX4_readSum_44 (lv_at hl 0 rfl) ?_
            refine lv_bipush (v := (-23)) hx hb dX4_readSum_46 (by decide) ?_
            have J56 : ∀ (y56_s0 : Int32), iv y13_l2 0 399 → iv y56_s0 0 1 → ∀ (H : Heap) (locs : List Loc), hp_w D T s H locs → ∀ (ls : Array Slot), lv_has ls 6 [(0, .ref ap0), (1, .int y13_l1), (2, .int y13_l2), (4, .int x41)] → WX4_readSum p l e s m below meth c D T ap0 H locs (F0 m 56 ls [.int y56_s0]) := by
              intro y56_s0 c56_y13_l2 c56_y56_s0 H56 locs56 hw ls hl
              refine lv_istore (lv' := [(5, .int y56_s0), (0, .ref ap0), (1, .int y13_l1), (2, .int y13_l2), (4, .int x41)]) hx hb dX4_readSum_56 hl (by decide) rfl (fun ls hl => ?_)
              refine lv_iload hx hb dX4_readSum_58 (lv_at hl 0 rfl) ?_
              have J73 : iv y13_l2 0 399 → iv y56_s0 0 1 → ∀ (H : Heap) (locs : List Loc), hp_w D T s H locs → ∀ (ls : Array Slot), lv_has ls 6 [(0, .ref ap0), (1, .int y13_l1), (2, .int y13_l2), (4, .int x41), (5, .int y56_s0)] → WX4_readSum p l e s m below meth c D T ap0 H locs (F0 m 73 ls []) := by
                intro c73_y13_l2 c73_y56_s0 H73 locs73 hw ls hl
                refine lv_iload hx hb dX4_readSum_73 (lv_at hl 4 rfl) ?_
                have J84 : ∀ (y84_s0 : Int32), iv y13_l2 0 399 → iv y56_s0 0 1 → ∀ (H : Heap) (locs : List Loc), hp_w D T s H locs → ∀ (ls : Array Slot), lv_has ls 6 [(0, .ref ap0), (2, .int y13_l2), (4, .int x41), (5, .int y56_s0)] → WX4_readSum p l e s m below meth c D T ap0 H locs (F0 m 84 ls [.int y84_s0]) := by
                  intro y84_s0 c84_y13_l2 c84_y56_s0 H84 locs84 hw ls hl
                  refine lv_istore_n (lv' := [(1, .int y84_s0), (0, .ref ap0), (2, .int y13_l2), (4, .int x41), (5, .int y56_s0)]) hx hb dX4_readSum_84 rfl hl (by decide) rfl (fun ls hl => ?_)
                  refine lv_aload_n hx hb dX4_readSum_85 rfl (lv_at hl 1 rfl) ?_
                  refine hp_callei (va_runV (As := []) (rest := []) ⟨hx, hb, hml, hown, hts⟩ (sX4_readValue l D T ap0 ip0) (cwV 0 hts gX4_readSum_X4_readValue rfl rfl rfl (by decide +kernel) ⟨Nat.le_of_ble_eq_true rfl, Nat.le_of_ble_eq_true rfl⟩) (hp_preV hG hw hp0 rfl trivial) rfl rfl hl.1 rfl (lv_room (Nat.le_of_ble_eq_true rfl)) dX4_readSum_86 ⟨Nat.zero_le _, Nat.zero_le _⟩) hw (fun x86 st86 t86 H86 locs86 eh86 eg86 bx86 hw => ?_)
                  refine lv_if_ne (tgt := 94) hx hb dX4_readSum_89 (by decide) (fun c89 => ?_) (fun c89 => ?_)
                  · have r89tp : iv x86 1 1 := (iv_ne_lo c89 bx86 rfl).mono (by decide) (by decide)
                    refine lv_iload hx hb dX4_readSum_94 (lv_at hl 4 rfl) ?_
                    have J106 : iv y13_l2 0 399 → ∀ (H : Heap) (locs : List Loc), hp_w D T s H locs → ∀ (ls : Array Slot), lv_has ls 6 [(0, .ref ap0), (1, .int y84_s0), (2, .int y13_l2)] → WX4_readSum p l e s m below meth c D T ap0 H locs (F0 m 106 ls []) := by
                      intro c106_y13_l2 H106 locs106 hw ls hl
                      obtain ⟨x106, ex106⟩ : ∃ y : Int32, y = y13_l2 + 1 := ⟨_, rfl⟩
                      have bx106 : iv x106 1 400 := iv_add c106_y13_l2 (show iv 1 1 1 from ⟨by decide, by decide⟩) ex106 (by decide)
                      have qx106 := iv_add_eq c106_y13_l2 (show iv 1 1 1 from ⟨by decide, by decide⟩) ex106 (by decide)
                      refine lv_iinc (v := x106) (lv' := [(2, .int x106), (0, .ref ap0), (1, .int y84_s0)]) hx hb dX4_readSum_106 hl (k := 2) rfl (by rw [ex106]; rfl) (by decide) rfl (fun ls hl => ?_)
                      refine lv_goto (tgt := 13) hx hb dX4_readSum_109 (by decide) ?_
                      exact ih13 y84_s0 x106 (mu_up 1 hmu13 (qx106) (by decide) (show iv x106 0 400 from (bx106.mono (by decide) (by decide))).2) (bx106.mono (by decide) (by decide)) H106 locs106 hw _ (lv_sub hl [1, 2, 0] rfl)
                    refine lv_if_eq (tgt := 106) hx hb dX4_readSum_96 (by decide) (fun c96 => ?_) (fun c96 => ?_)
                    · have r96tp : iv y56_s0 0 0 := (iv_both c84_y56_s0 (iv_eq (show iv 0 0 0 from ⟨by decide, by decide⟩) c96)).mono (by decide) (by decide)
                      exact J106 c84_y13_l2 H86 locs86 hw _ (lv_sub hl [1, 0, 2] rfl)
                    · have r96fp : iv y56_s0 1 1 := (iv_ne_lo c96 c84_y56_s0 rfl).mono (by decide) (by decide)
                      refine lv_aload_n hx hb dX4_readSum_99 rfl (lv_at hl 1 rfl) ?_
                      refine lv_iload hx hb dX4_readSum_100 (lv_at hl 3 rfl) ?_
                      refine hp_callei (va_runV (As := [.int x41]) (rest := []) ⟨hx, hb, hml, hown, hts⟩ (sX4_write l D T ap0 x41 ip0) (cwV 1 hts gX4_readSum_X4_write rfl rfl rfl (by decide +kernel) ⟨Nat.le_of_ble_eq_true rfl, Nat.le_of_ble_eq_true rfl⟩) (hp_preV hG hw hp0 rfl trivial) rfl rfl hl.1 rfl (lv_room (Nat.le_of_ble_eq_true rfl)) dX4_readSum_102 ⟨Nat.zero_le _, Nat.zero_le _⟩) hw (fun x102 st102 t102 H102 locs102 eh102 eg102 bx102 hw => ?_)
                      refine lv_pop hx hb dX4_readSum_105 rfl ?_
                      exact J106 c84_y13_l2 H102 locs102 hw _ (lv_sub hl [1, 0, 2] rfl)
                  · have r89fp : iv x86 0 0 := (iv_both bx86 (iv_eq (show iv 0 0 0 from ⟨by decide, by decide⟩) c89)).mono (by decide) (by decide)
                    refine lv_iconst (v := 0) hx hb dX4_readSum_92 (by decide) ?_
                    exact W.zret (v := 0) hx hb hr (iv_nz (show iv 0 0 1 from ⟨by decide, by decide⟩)) (fun t ht hW => ⟨some (.int 0), rfl, ⟨(0 : Int32), rfl, (show iv 0 0 1 from ⟨by decide, by decide⟩)⟩, by rw [ht]; exact hw.1, hw.2.F ht⟩) hw.2.2.2 dX4_readSum_93
                refine lv_if_eq (tgt := 82) hx hb dX4_readSum_75 (by decide) (fun c75 => ?_) (fun c75 => ?_)
                · have r75tp : iv y56_s0 0 0 := (iv_both c73_y56_s0 (iv_eq (show iv 0 0 0 from ⟨by decide, by decide⟩) c75)).mono (by decide) (by decide)
                  refine lv_iload hx hb dX4_readSum_82 (lv_at hl 3 rfl) ?_
                  exact J84 x41 c73_y13_l2 (r75tp.mono (by decide) (by decide)) H73 locs73 hw _ (lv_sub hl [0, 2, 3, 4] rfl)
                · have r75fp : iv y56_s0 1 1 := (iv_ne_lo c75 c73_y56_s0 rfl).mono (by decide) (by decide)
                  refine lv_iload_n hx hb dX4_readSum_78 rfl (lv_at hl 1 rfl) ?_
                  refine lv_goto (tgt := 84) hx hb dX4_readSum_79 (by decide) ?_
                  exact J84 y13_l1 c73_y13_l2 (r75fp.mono (by decide) (by decide)) H73 locs73 hw _ (lv_sub hl [0, 2, 3, 4] rfl)
              refine lv_if_ne (tgt := 73) hx hb dX4_readSum_60 (by decide) (fun c60 => ?_) (fun c60 => ?_)
              · have r60tp : iv y56_s0 1 1 := (iv_ne_lo c60 c56_y56_s0 rfl).mono (by decide) (by decide)
                exact J73 c56_y13_l2 (r60tp.mono (by decide) (by decide)) H56 locs56 hw _ (lv_sub hl [1, 2, 3, 4, 0] rfl)
              · have r60fp : iv y56_s0 0 0 := (iv_both c56_y56_s0 (iv_eq (show iv 0 0 0 from ⟨by decide, by decide⟩) c60)).mono (by decide) (by decide)
                refine lv_iload_n hx hb dX4_readSum_63 rfl (lv_at hl 2 rfl) ?_
                refine lv_if_eq (tgt := 73) hx hb dX4_readSum_64 (by decide) (fun c64 => ?_) (fun c64 => ?_)
                · have r64tp : iv y13_l1 0 0 := (iv_both (iv_any y13_l1) (iv_eq (show iv 0 0 0 from ⟨by decide, by decide⟩) c64)).mono (by decide) (by decide)
                  exact J73 c56_y13_l2 (r60fp.mono (by decide) (by decide)) H56 locs56 hw _ (lv_sub hl [1, 2, 3, 4, 0] rfl)
                · refine lv_aload_n hx hb dX4_readSum_67 rfl (lv_at hl 1 rfl) ?_
                  refine lv_iload_n hx hb dX4_readSum_68 rfl (lv_at hl 2 rfl) ?_
                  refine hp_callei (va_runV (As := [.int y13_l1]) (rest := []) ⟨hx, hb, hml, hown, hts⟩ (sX4_write l D T ap0 y13_l1 ip0) (cwV 1 hts gX4_readSum_X4_write rfl rfl rfl (by decide +kernel) ⟨Nat.le_of_ble_eq_true rfl, Nat.le_of_ble_eq_true rfl⟩) (hp_preV hG hw hp0 rfl trivial) rfl rfl hl.1 rfl (lv_room (Nat.le_of_ble_eq_true rfl)) dX4_readSum_69 ⟨Nat.zero_le _, Nat.zero_le _⟩) hw (fun x69 st69 t69 H69 locs69 eh69 eg69 bx69 hw => ?_)
                  refine lv_pop hx hb dX4_readSum_72 rfl ?_
                  exact J73 c56_y13_l2 (r60fp.mono (by decide) (by decide)) H69 locs69 hw _ (lv_sub hl [1, 2, 3, 4, 0] rfl)
            refine lv_icmp_gt (tgt := 55) hx hb dX4_readSum_48 (by decide) (fun c48 => ?_) (fun c48 => ?_)
            · have r48tq : iv x41 (-22) 2147483647 := (iv_lt_r c48 (show iv (-23) (-23) (-23) from ⟨by decide, by decide⟩) (iv_any x41)).mono (by decide) (by decide)
              refine lv_iconst (v := 0) hx hb dX4_readSum_55 (by decide) ?_
              exact J56 (0 : Int32) r17fp (show iv 0 0 1 from ⟨by decide, by decide⟩) H26 locs26 hw _ (lv_sub hl [2, 3, 4, 0] rfl)
            · have r48fp : iv x41 (-2147483648) (-23) := (iv_le_l (iv_nlt c48) (iv_any x41) (show iv (-23) (-23) (-23) from ⟨by decide, by decide⟩)).mono (by decide) (by decide)
              refine lv_iconst (v := 1) hx hb dX4_readSum_51 (by decide) ?_
              refine lv_goto (tgt := 56) hx hb dX4_readSum_52 (by decide) ?_
              exact J56 (1 : Int32) r17fp (show iv 1 0 1 from ⟨by decide, by decide⟩) H26 locs26 hw _ (lv_sub hl [2, 3, 4, 0] rfl)
          · have r32fp : iv x26 (-1) (-1) := (iv_both (iv_any x26) (iv_eq (show iv (-1) (-1) (-1) from ⟨by decide, by decide⟩) c32)).mono (by decide) (by decide)
            refine lv_goto (tgt := 112) hx hb dX4_readSum_35 (by decide) ?_
            exact J112 H26 locs26 hw _ (lv_sub hl [1, 2] rfl)
    exact J13 _ (0 : Int32) (0 : Int32) (Nat.lt_succ_self _) (show iv 0 0 400 from ⟨by decide, by decide⟩) H1 locs1 hw _ (lv_sub hl [2, 1, 0] rfl)
  · have r4fp : iv x1 0 0 := (iv_both bx1 (iv_eq (show iv 0 0 0 from ⟨by decide, by decide⟩) c4)).mono (by decide) (by decide)
    refine lv_iconst (v := 0) hx hb dX4_readSum_7 (by decide) ?_
    exact W.zret (v := 0) hx hb hr (iv_nz (show iv 0 0 1 from ⟨by decide, by decide⟩)) (fun t ht hW => ⟨some (.int 0), rfl, ⟨(0 : Int32), rfl, (show iv 0 0 1 from ⟨by decide, by decide⟩)⟩, by rw [ht]; exact hw.1, hw.2.F ht⟩) hw.2.2.2 dX4_readSum_8
abbrev WX4_readHead (p : Program) (l : Launch) (e : Env) (s : State) (m : MethodId) (below : List Frame) (meth : Method) (c : Code) (D : hp_D) (T : hp_T) (ap0 : Nat) (xp1 : Int32) (H : Heap) (locs : List Loc) (g : JFrame) : Prop := W p l e (headSpec wsX4_readHead ({ frames := 5, cells := 0, slots := 0, locals := 128 })).room s m ([.ref ap0, .int xp1] : List Value).toArray below meth c H locs 0 0 (MQ below (hq_e D T (fun v _ _ => ∃ r : Int32, v = some (.int r) ∧ iv r 0 1)) ([.ref ap0, .int xp1] : List Value).toArray s 0 0 (hp_F T)) g
set_option maxHeartbeats 4000000 in
set_option maxRecDepth 100000 in
theorem sX4_readHead (l : Launch) (D : hp_D) (T : hp_T) (ap0 : Nat) (xp1 : Int32) (ip0 : isRuleReader T ap0) : Met l yX4_readHead wsX4_readHead ({ frames := 5, cells := 0, slots := 0, locals := 128 }) (hp_Pc D T [.ref ap0, .int xp1] (fun _ => True)) (hq_e D T (fun v _ _ => ∃ r : Int32, v = some (.int r) ∧ iv r 0 1)) 0 0 (hp_F T) := by
  obtain ⟨ap0tp, ap0stp, hp0, ip0tp, hp0stp⟩ := id ip0
  obtain ⟨ap0tpbt, hp0tp, hp0tpbt⟩ := id ip0tp
  refine Met.ofW (cc := cX4_readHead) (maxL := 2) (ret := (some .boolean)) (by decide) rfl ?_
  intro p e s m args below meth c s₁ B hml hv
  obtain ⟨rfl, hok, hG, hB⟩ := hv
  have hx := B.exec
  have hb := B.bytes
  have hr := B.returns
  have hts := atoms_spec (ws := wsX4_readHead) B.pre
  have hown : s.vm.findClass RX4 = some m.cls := findClass_of_methodNamed B.named
  have hlocks := B.notSynchronized
  have hK := hG.1
  have hw : hp_w D T s s.heap [] := hp_w.rf hok
  have IX4 : ∀ w ∈ wsX40, w ∈ wsX4_readHead := by decide +kernel
  have IX7 : ∀ w ∈ wsX70, w ∈ wsX4_readHead := by decide +kernel
  have L26 := hts (.fieldLink RX4 26 "PalmCensus$RuleReader" "tape" "LPalmCensus$Tape;") (by decide +kernel)
  have L84 := hts (.fieldLink RX4 84 "PalmCensus$Tape" "start" "I") (by decide +kernel)
  have L77 := hts (.fieldLink RX4 77 "PalmCensus$Tape" "place" "I") (by decide +kernel)
  have hl := lv_entry ([.ref ap0, .int xp1]) (n := 2) (Nat.le_of_ble_eq_true rfl)
  rw [lg_entry_eq]
  generalize (lg_sl ([.ref ap0, .int xp1]) ++ List.replicate (2 - (lg_sl ([.ref ap0, .int xp1])).length) Slot.unset).toArray = ls at hl ⊢
  have hl : lv_has ls 2 [(0, .ref ap0), (1, .int xp1)] := hl
  show WX4_readHead p l e s m below meth c D T ap0 xp1 s.heap [] (F0 m 0 ls [])
  refine lv_aload_n hx hb dX4_readHead_0 rfl (lv_at hl 0 rfl) ?_
  refine hp_getr hx hb hts IX4 hown hK hw.1 hp0 rfl 0 (by decide) L26 rfl dX4_readHead_1 ?_
  refine va_ldcS hx hb hown hG.2.2.1.2.2.2.2.2.2.1 dX4_readHead_4 ?_
  refine hp_callei (va_runV (As := [.ref (D.2.2.1 6)]) (rest := []) ⟨hx, hb, hml, hown, hts⟩ (sX7_takeWord l D T ap0tp 6 ip0tp (by decide)) (cwV 1 hts gX4_readHead_X7_takeWord rfl rfl rfl (by decide +kernel) ⟨Nat.le_of_ble_eq_true rfl, Nat.le_of_ble_eq_true rfl⟩) (hp_preV hG hw hp0tp rfl trivial) rfl rfl hl.1 rfl (lv_room (Nat.le_of_ble_eq_true rfl)) dX4_readHead_6 ⟨Nat.zero_le _, Nat.zero_le _⟩) hw (fun x6 st6 t6 H6 locs6 eh6 eg6 bx6 hw => ?_)
  refine lv_iconst (v := (-1)) hx hb dX4_readHead_9 (by decide) ?_
  refine lv_icmp_ne (tgt := 29) hx hb dX4_readHead_10 (by decide) (fun c10 => ?_) (fun c10 => ?_)
  · refine lv_iload_n hx hb dX4_readHead_29 rfl (lv_at hl 1 rfl) ?_
    refine lv_bipush (v := 12) hx hb dX4_readHead_30 (by decide) ?_
    have J58 : ∀ (y58_s0 : Int32), iv y58_s0 0 1 → ∀ (H : Heap) (locs : List Loc), hp_w D T s H locs → ∀ (ls : Array Slot), lv_has ls 2 [] → WX4_readHead p l e s m below meth c D T ap0 xp1 H locs (F0 m 58 ls [.int y58_s0]) := by
      intro y58_s0 c58_y58_s0 H58 locs58 hw ls hl
      exact W.zret (v := y58_s0) hx hb hr (iv_nz c58_y58_s0) (fun t ht hW => ⟨some (.int y58_s0), rfl, ⟨y58_s0, rfl, c58_y58_s0⟩, by rw [ht]; exact hw.1, hw.2.F ht⟩) hw.2.2.2 dX4_readHead_58
    have J53 : ∀ (H : Heap) (locs : List Loc), hp_w D T s H locs → ∀ (ls : Array Slot), lv_has ls 2 [] → WX4_readHead p l e s m below meth c D T ap0 xp1 H locs (F0 m 53 ls []) := by
      intro H53 locs53 hw ls hl
      refine lv_iconst (v := 1) hx hb dX4_readHead_53 (by decide) ?_
      refine lv_goto (tgt := 58) hx hb dX4_readHead_54 (by decide) ?_
      exact J58 (1 : Int32) (show iv 1 0 1 from ⟨by decide, by decide⟩) H53 locs53 hw _ (lv_sub hl [] rfl)
    refine lv_icmp_lt (tgt := 53) hx hb dX4_readHead_32 (by decide) (fun c32 => ?_) (fun c32 => ?_)
    · have r32tp : iv xp1 (-2147483648) 11 := (iv_lt_l c32 (iv_any xp1) (show iv 12 12 12 from ⟨by decide, by decide⟩)).mono (by decide) (by decide)
      exact J53 H6 locs6 hw _ (lv_sub hl [] rfl)
    · have r32fq : iv xp1 12 2147483647 := (iv_le_r (iv_nlt c32) (show iv 12 12 12 from ⟨by decide, by decide⟩) (iv_any xp1)).mono (by decide) (by decide)
      refine lv_aload_n hx hb dX4_readHead_35 rfl (lv_at hl 0 rfl) ?_
      refine hp_getr hx hb hts IX4 hown hK hw.1 hp0 rfl 0 (by decide) L26 rfl dX4_readHead_36 ?_
      refine lv_aload_n hx hb dX4_readHead_39 rfl (lv_at hl 0 rfl) ?_
      refine hp_getr hx hb hts IX4 hown hK hw.1 hp0 rfl 0 (by decide) L26 rfl dX4_readHead_40 ?_
      refine hp_geti hx hb hts IX7 hown hK hw.1 hp0tp rfl 4 (by decide) L84 rfl dX4_readHead_43 (fun x43 bx43 fx43 => ?_)
      refine lv_iconst (v := 4) hx hb dX4_readHead_46 (by decide) ?_
      refine hp_callei (va_runV (As := [.int x43, .int 4]) (rest := []) ⟨hx, hb, hml, hown, hts⟩ (sX7_blame l D T ap0tp x43 (4 : Int32) ip0tp) (cwV 2 hts gX4_readHead_X7_blame rfl rfl rfl (by decide +kernel) ⟨Nat.le_of_ble_eq_true rfl, Nat.le_of_ble_eq_true rfl⟩) (hp_preV hG hw hp0tp rfl trivial) rfl rfl hl.1 rfl (lv_room (Nat.le_of_ble_eq_true rfl)) dX4_readHead_47 ⟨Nat.zero_le _, Nat.zero_le _⟩) hw (fun x47 st47 t47 H47 locs47 eh47 eg47 bx47 hw => ?_)
      refine lv_if_eq (tgt := 57) hx hb dX4_readHead_50 (by decide) (fun c50 => ?_) (fun c50 => ?_)
      · refine lv_iconst (v := 0) hx hb dX4_readHead_57 (by decide) ?_
        exact J58 (0 : Int32) (show iv 0 0 1 from ⟨by decide, by decide⟩) H47 locs47 hw _ (lv_sub hl [] rfl)
      · exact iv_abs (iv_ne_lo c50 bx47 rfl) (by decide)
  · have r10fp : iv x6 (-1) (-1) := (iv_both (iv_any x6) (iv_eq (show iv (-1) (-1) (-1) from ⟨by decide, by decide⟩) c10)).mono (by decide) (by decide)
    refine lv_aload_n hx hb dX4_readHead_13 rfl (lv_at hl 0 rfl) ?_
    refine hp_getr hx hb hts IX4 hown hK hw.1 hp0 rfl 0 (by decide) L26 rfl dX4_readHead_14 ?_
    refine lv_aload_n hx hb dX4_readHead_17 rfl (lv_at hl 0 rfl) ?_
    refine hp_getr hx hb hts IX4 hown hK hw.1 hp0 rfl 0 (by decide) L26 rfl dX4_readHead_18 ?_
    refine hp_geti hx hb hts IX7 hown hK hw.1 hp0tp rfl 2 (by decide) L77 rfl dX4_readHead_21 (fun x21 bx21 fx21 => ?_)
    refine lv_iconst (v := 0) hx hb dX4_readHead_24 (by decide) ?_
    refine hp_callei (va_runV (As := [.int x21, .int 0]) (rest := []) ⟨hx, hb, hml, hown, hts⟩ (sX7_blame l D T ap0tp x21 (0 : Int32) ip0tp) (cwV 2 hts gX4_readHead_X7_blame rfl rfl rfl (by decide +kernel) ⟨Nat.le_of_ble_eq_true rfl, Nat.le_of_ble_eq_true rfl⟩) (hp_preV hG hw hp0tp rfl trivial) rfl rfl hl.1 rfl (lv_room (Nat.le_of_ble_eq_true rfl)) dX4_readHead_25 ⟨Nat.zero_le _, Nat.zero_le _⟩) hw (fun x25 st25 t25 H25 locs25 eh25 eg25 bx25 hw => ?_)
    exact W.zret (v := x25) hx hb hr (iv_nz (bx25.mono (by decide) (by decide))) (fun t ht hW => ⟨some (.int x25), rfl, ⟨x25, rfl, (bx25.mono (by decide) (by decide))⟩, by rw [ht]; exact hw.1, hw.2.F ht⟩) hw.2.2.2 dX4_readHead_28
abbrev WX9_readClause (p : Program) (l : Launch) (e : Env) (s : State) (m : MethodId) (below : List Frame) (meth : Method) (c : Code) (D : hp_D) (T : hp_T) (ap0 : Nat) (xp1 : Int32) (H : Heap) (locs : List Loc) (g : JFrame) : Prop := W p l e (headSpec wsX9_readClause ({ frames := 5, cells := 0, slots := 0, locals := 128 })).room s m ([.ref ap0, .int xp1] : List Value).toArray below meth c H locs 0 0 (MQ below (hq_e D T (fun v _ _ => ∃ r : Int32, v = some (.int r) ∧ iv r 0 1)) ([.ref ap0, .int xp1] : List Value).toArray s 0 0 (hp_F T)) g
set_option maxHeartbeats 4000000 in
set_option maxRecDepth 100000 in
theorem sX9_readClause (l : Launch) (D : hp_D) (T : hp_T) (ap0 : Nat) (xp1 : Int32) (ip0 : isTownReader T ap0) : Met l yX9_readClause wsX9_readClause ({ frames := 5, cells := 0, slots := 0, locals := 128 }) (hp_Pc D T [.ref ap0, .int xp1] (fun _ => True)) (hq_e D T (fun v _ _ => ∃ r : Int32, v = some (.int r) ∧ iv r 0 1)) 0 0 (hp_F T) := by
  obtain ⟨ap0tp, ap0tw, hp0, ip0tp, ip0tw⟩ := id ip0
  obtain ⟨ap0tpbt, hp0tp, hp0tpbt⟩ := id ip0tp
  obtain ⟨ap0twkin, ap0twpl, ap0twcr, hp0tw, hp0twkin, hp0twpl, hp0twcr⟩ := id ip0tw
  refine Met.ofW (cc := cX9_readClause) (maxL := 5) (ret := (some .boolean)) (by decide) rfl ?_
  intro p e s m args below meth c s₁ B hml hv
  obtain ⟨rfl, hok, hG, hB⟩ := hv
  have hx := B.exec
  have hb := B.bytes
  have hr := B.returns
  have hts := atoms_spec (ws := wsX9_readClause) B.pre
  have hown : s.vm.findClass RX9 = some m.cls := findClass_of_methodNamed B.named
  have hlocks := B.notSynchronized
  have hK := hG.1
  have hw : hp_w D T s s.heap [] := hp_w.rf hok
  have IX7 : ∀ w ∈ wsX70, w ∈ wsX9_readClause := by decide +kernel
  have IX8 : ∀ w ∈ wsX80, w ∈ wsX9_readClause := by decide +kernel
  have IX9 : ∀ w ∈ wsX90, w ∈ wsX9_readClause := by decide +kernel
  have L18 := hts (.fieldLink RX9 18 "PalmCensus$TownReader" "tape" "LPalmCensus$Tape;") (by decide +kernel)
  have L61 := hts (.fieldLink RX9 61 "PalmCensus$Tape" "start" "I") (by decide +kernel)
  have L12 := hts (.fieldLink RX9 12 "PalmCensus$TownReader" "town" "LPalmCensus$Town;") (by decide +kernel)
  have L58 := hts (.fieldLink RX9 58 "PalmCensus$Town" "people" "I") (by decide +kernel)
  have L50 := hts (.fieldLink RX9 50 "PalmCensus$Tape" "place" "I") (by decide +kernel)
  have hl := lv_entry ([.ref ap0, .int xp1]) (n := 5) (Nat.le_of_ble_eq_true rfl)
  rw [lg_entry_eq]
  generalize (lg_sl ([.ref ap0, .int xp1]) ++ List.replicate (5 - (lg_sl ([.ref ap0, .int xp1])).length) Slot.unset).toArray = ls at hl ⊢
  have hl : lv_has ls 5 [(0, .ref ap0), (1, .int xp1)] := hl
  show WX9_readClause p l e s m below meth c D T ap0 xp1 s.heap [] (F0 m 0 ls [])
  obtain ⟨x9000op0tw_2, bx9000op0tw_2, fx9000op0tw_2⟩ := hp_opI hw.1 hp0tw 2 rfl
  refine lv_aload_n hx hb dX9_readClause_0 rfl (lv_at hl 0 rfl) ?_
  refine hp_getr hx hb hts IX9 hown hK hw.1 hp0 rfl 0 (by decide) L18 rfl dX9_readClause_1 ?_
  refine va_ldcS hx hb hown hG.2.2.1.2.2.2.2.2.2.2.2.2.2.2 dX9_readClause_4 ?_
  refine hp_callei (va_runV (As := [.ref (D.2.2.1 10)]) (rest := []) ⟨hx, hb, hml, hown, hts⟩ (sX7_takeWord l D T ap0tp 10 ip0tp (by decide)) (cwV 1 hts gX9_readClause_X7_takeWord rfl rfl rfl (by decide +kernel) ⟨Nat.le_of_ble_eq_true rfl, Nat.le_of_ble_eq_true rfl⟩) (hp_preV hG hw hp0tp rfl trivial) rfl rfl hl.1 rfl (lv_room (Nat.le_of_ble_eq_true rfl)) dX9_readClause_6 ⟨Nat.zero_le _, Nat.zero_le _⟩) hw (fun x6 st6 t6 H6 locs6 eh6 eg6 bx6 hw => ?_)
  obtain ⟨x6op0tw_2, bx6op0tw_2, fx6op0tw_2⟩ := hp_opI hw.1 hp0tw 2 rfl
  refine lv_istore_n (lv' := [(2, .int x6), (0, .ref ap0), (1, .int xp1)]) hx hb dX9_readClause_9 rfl hl (by decide) rfl (fun ls hl => ?_)
  refine lv_iload_n hx hb dX9_readClause_10 rfl (lv_at hl 0 rfl) ?_
  refine lv_iconst (v := (-1)) hx hb dX9_readClause_11 (by decide) ?_
  refine lv_icmp_ne (tgt := 31) hx hb dX9_readClause_12 (by decide) (fun c12 => ?_) (fun c12 => ?_)
  · refine lv_iload_n hx hb dX9_readClause_31 rfl (lv_at hl 0 rfl) ?_
    have J40 : ∀ (y40_s0 : Int32), iv y40_s0 0 1 → iv x6op0tw_2 0 10 → ∀ (H : Heap) (locs : List Loc), hp_w D T s H locs → hp_f D H ap0tw 8 2 (.int x6op0tw_2) → ∀ (ls : Array Slot), lv_has ls 5 [(0, .ref ap0), (1, .int xp1), (2, .int x6)] → WX9_readClause p l e s m below meth c D T ap0 xp1 H locs (F0 m 40 ls [.int y40_s0]) := by
      intro y40_s0 c40_y40_s0 c40_x6op0tw_2 H40 locs40 hw f_p0tw_2 ls hl
      refine lv_iload_n hx hb dX9_readClause_40 rfl (lv_at hl 1 rfl) ?_
      have J49 : ∀ (y49_s1 : Int32), iv y40_s0 0 1 → iv y49_s1 0 1 → iv x6op0tw_2 0 10 → ∀ (H : Heap) (locs : List Loc), hp_w D T s H locs → hp_f D H ap0tw 8 2 (.int x6op0tw_2) → ∀ (ls : Array Slot), lv_has ls 5 [(0, .ref ap0), (1, .int xp1), (2, .int x6)] → WX9_readClause p l e s m below meth c D T ap0 xp1 H locs (F0 m 49 ls [.int y49_s1, .int y40_s0]) := by
        intro y49_s1 c49_y40_s0 c49_y49_s1 c49_x6op0tw_2 H49 locs49 hw f_p0tw_2 ls hl
        have J57 : ∀ (y57_s0 : Int32), iv y57_s0 0 1 → iv x6op0tw_2 0 10 → ∀ (H : Heap) (locs : List Loc), hp_w D T s H locs → hp_f D H ap0tw 8 2 (.int x6op0tw_2) → ∀ (ls : Array Slot), lv_has ls 5 [(0, .ref ap0), (1, .int xp1), (2, .int x6)] → WX9_readClause p l e s m below meth c D T ap0 xp1 H locs (F0 m 57 ls [.int y57_s0]) := by
          intro y57_s0 c57_y57_s0 c57_x6op0tw_2 H57 locs57 hw f_p0tw_2 ls hl
          refine lv_istore_n (lv' := [(3, .int y57_s0), (0, .ref ap0), (1, .int xp1), (2, .int x6)]) hx hb dX9_readClause_57 rfl hl (by decide) rfl (fun ls hl => ?_)
          refine lv_iload_n hx hb dX9_readClause_58 rfl (lv_at hl 3 rfl) ?_
          refine lv_iconst (v := 1) hx hb dX9_readClause_59 (by decide) ?_
          refine lv_icmp_ne (tgt := 79) hx hb dX9_readClause_60 (by decide) (fun c60 => ?_) (fun c60 => ?_)
          · refine lv_iconst (v := 0) hx hb dX9_readClause_79 (by decide) ?_
            refine lv_istore (lv' := [(4, .int 0), (3, .int y57_s0), (0, .ref ap0), (1, .int xp1), (2, .int x6)]) hx hb dX9_readClause_80 hl (by decide) rfl (fun ls hl => ?_)
            refine lv_iload_n hx hb dX9_readClause_82 rfl (lv_at hl 3 rfl) ?_
            refine lv_bipush (v := 40) hx hb dX9_readClause_83 (by decide) ?_
            refine lv_icmp_ge (tgt := 97) hx hb dX9_readClause_85 (by decide) (fun c85 => ?_) (fun c85 => ?_)
            · have r85tq : iv xp1 40 2147483647 := (iv_le_r c85 (show iv 40 40 40 from ⟨by decide, by decide⟩) (iv_any xp1)).mono (by decide) (by decide)
              refine lv_aload_n hx hb dX9_readClause_97 rfl (lv_at hl 2 rfl) ?_
              refine hp_getr hx hb hts IX9 hown hK hw.1 hp0 rfl 0 (by decide) L18 rfl dX9_readClause_98 ?_
              refine lv_aload_n hx hb dX9_readClause_101 rfl (lv_at hl 2 rfl) ?_
              refine hp_getr hx hb hts IX9 hown hK hw.1 hp0 rfl 0 (by decide) L18 rfl dX9_readClause_102 ?_
              refine hp_geti hx hb hts IX7 hown hK hw.1 hp0tp rfl 4 (by decide) L61 rfl dX9_readClause_105 (fun x105 bx105 fx105 => ?_)
              refine lv_iconst (v := 4) hx hb dX9_readClause_108 (by decide) ?_
              refine hp_callei (va_runV (As := [.int x105, .int 4]) (rest := []) ⟨hx, hb, hml, hown, hts⟩ (sX7_blame l D T ap0tp x105 (4 : Int32) ip0tp) (cwV 2 hts gX9_readClause_X7_blame rfl rfl rfl (by decide +kernel) ⟨Nat.le_of_ble_eq_true rfl, Nat.le_of_ble_eq_true rfl⟩) (hp_preV hG hw hp0tp rfl trivial) rfl rfl hl.1 rfl (lv_room (Nat.le_of_ble_eq_true rfl)) dX9_readClause_109 ⟨Nat.zero_le _, Nat.zero_le _⟩) hw (fun x109 st109 t109 H109 locs109 eh109 eg109 bx109 hw => ?_)
              obtain ⟨x109op0tw_2, bx109op0tw_2, fx109op0tw_2⟩ := hp_opI hw.1 hp0tw 2 rfl
              exact W.zret (v := x109) hx hb hr (iv_nz (bx109.mono (by decide) (by decide))) (fun t ht hW => ⟨some (.int x109), rfl, ⟨x109, rfl, (bx109.mono (by decide) (by decide))⟩, by rw [ht]; exact hw.1, hw.2.F ht⟩) hw.2.2.2 dX9_readClause_112
            · have r85fp : iv xp1 (-2147483648) 39 := (iv_lt_l (iv_nle c85) (iv_any xp1) (show iv 40 40 40 from ⟨by decide, by decide⟩)).mono (by decide) (by decide)
              refine lv_iload_n hx hb dX9_readClause_88 rfl (lv_at hl 1 rfl) ?_
              refine lv_if_ne (tgt := 97) hx hb dX9_readClause_89 (by decide) (fun c89 => ?_) (fun c89 => ?_)
              · have r89tp : iv y57_s0 1 1 := (iv_ne_lo c89 c57_y57_s0 rfl).mono (by decide) (by decide)
                refine lv_aload_n hx hb dX9_readClause_97 rfl (lv_at hl 2 rfl) ?_
                refine hp_getr hx hb hts IX9 hown hK hw.1 hp0 rfl 0 (by decide) L18 rfl dX9_readClause_98 ?_
                refine lv_aload_n hx hb dX9_readClause_101 rfl (lv_at hl 2 rfl) ?_
                refine hp_getr hx hb hts IX9 hown hK hw.1 hp0 rfl 0 (by decide) L18 rfl dX9_readClause_102 ?_
                refine hp_geti hx hb hts IX7 hown hK hw.1 hp0tp rfl 4 (by decide) L61 rfl dX9_readClause_105 (fun x105 bx105 fx105 => ?_)
                refine lv_iconst (v := 4) hx hb dX9_readClause_108 (by decide) ?_
                refine hp_callei (va_runV (As := [.int x105, .int 4]) (rest := []) ⟨hx, hb, hml, hown, hts⟩ (sX7_blame l D T ap0tp x105 (4 : Int32) ip0tp) (cwV 2 hts gX9_readClause_X7_blame rfl rfl rfl (by decide +kernel) ⟨Nat.le_of_ble_eq_true rfl, Nat.le_of_ble_eq_true rfl⟩) (hp_preV hG hw hp0tp rfl trivial) rfl rfl hl.1 rfl (lv_room (Nat.le_of_ble_eq_true rfl)) dX9_readClause_109 ⟨Nat.zero_le _, Nat.zero_le _⟩) hw (fun x109 st109 t109 H109 locs109 eh109 eg109 bx109 hw => ?_)
                obtain ⟨x109op0tw_2, bx109op0tw_2, fx109op0tw_2⟩ := hp_opI hw.1 hp0tw 2 rfl
                exact W.zret (v := x109) hx hb hr (iv_nz (bx109.mono (by decide) (by decide))) (fun t ht hW => ⟨some (.int x109), rfl, ⟨x109, rfl, (bx109.mono (by decide) (by decide))⟩, by rw [ht]; exact hw.1, hw.2.F ht⟩) hw.2.2.2 dX9_readClause_112
              · have r89fp : iv y57_s0 0 0 := (iv_both c57_y57_s0 (iv_eq (show iv 0 0 0 from ⟨by decide, by decide⟩) c89)).mono (by decide) (by decide)
                refine lv_iload hx hb dX9_readClause_92 (lv_at hl 0 rfl) ?_
                refine lv_if_eq (tgt := 113) hx hb dX9_readClause_94 (by decide) (fun c94 => ?_) (fun c94 => ?_)
                · refine lv_iload_n hx hb dX9_readClause_113 rfl (lv_at hl 4 rfl) ?_
                  have i114 := (iv_any x6)
                  unfold iv at i114
                  have n114_1 : x6.toInt ≠ 1 := fun h => c60 (Int32.toInt_inj.mp h)
                  rcases (show (x6.toInt ≠ 0 ∧ x6.toInt ≠ 1 ∧ x6.toInt ≠ 5) ∨ x6.toInt = 0 ∨ x6.toInt = 5 from by omega) with s114 | s114 | s114
                  · refine lv_lookup (off := 49) (tgt := 163) hx hb dX9_readClause_114 (by decide) (by obtain ⟨a0, a1, a2⟩ := s114; simp [Op.lookupswitch.offset, Ne.symm a0, Ne.symm a1, Ne.symm a2]) (by decide) ?_
                    refine lv_aload_n hx hb dX9_readClause_163 rfl (lv_at hl 2 rfl) ?_
                    refine lv_iload_n hx hb dX9_readClause_164 rfl (lv_at hl 4 rfl) ?_
                    refine hp_callei (va_runV (As := [.int x6]) (rest := []) ⟨hx, hb, hml, hown, hts⟩ (sX9_readMark l D T ap0 x6 ip0) (cwV 1 hts gX9_readClause_X9_readMark rfl rfl rfl (by decide +kernel) ⟨Nat.le_of_ble_eq_true rfl, Nat.le_of_ble_eq_true rfl⟩) (hp_preV hG hw hp0 rfl trivial) rfl rfl hl.1 rfl (lv_room (Nat.le_of_ble_eq_true rfl)) dX9_readClause_165 ⟨Nat.zero_le _, Nat.zero_le _⟩) hw (fun x165 st165 t165 H165 locs165 eh165 eg165 bx165 hw => ?_)
                    obtain ⟨x165op0tw_2, bx165op0tw_2, fx165op0tw_2⟩ := hp_opI hw.1 hp0tw 2 rfl
                    exact W.zret (v := x165) hx hb hr (iv_nz bx165) (fun t ht hW => ⟨some (.int x165), rfl, ⟨x165, rfl, bx165⟩, by rw [ht]; exact hw.1, hw.2.F ht⟩) hw.2.2.2 dX9_readClause_168
                  · refine lv_lookup (off := 34) (tgt := 148) hx hb dX9_readClause_114 (by decide) (by rw [s114]; rfl) (by decide) ?_
                    have r114k : iv x6 0 0 := ⟨by omega, by omega⟩
                    refine lv_aload_n hx hb dX9_readClause_148 rfl (lv_at hl 2 rfl) ?_
                    refine hp_callei (va_runV (As := []) (rest := []) ⟨hx, hb, hml, hown, hts⟩ (sX9_readSize l D T ap0 ip0) (cwV 0 hts gX9_readClause_X9_readSize rfl rfl rfl (by decide +kernel) ⟨Nat.le_of_ble_eq_true rfl, Nat.le_of_ble_eq_true rfl⟩) (hp_preV hG hw hp0 rfl trivial) rfl rfl hl.1 rfl (lv_room (Nat.le_of_ble_eq_true rfl)) dX9_readClause_149 ⟨Nat.zero_le _, Nat.zero_le _⟩) hw (fun x149 st149 t149 H149 locs149 eh149 eg149 bx149 hw => ?_)
                    obtain ⟨x149op0tw_2, bx149op0tw_2, fx149op0tw_2⟩ := hp_opI hw.1 hp0tw 2 rfl
                    exact W.zret (v := x149) hx hb hr (iv_nz bx149) (fun t ht hW => ⟨some (.int x149), rfl, ⟨x149, rfl, bx149⟩, by rw [ht]; exact hw.1, hw.2.F ht⟩) hw.2.2.2 dX9_readClause_152
                  · refine lv_lookup (off := 44) (tgt := 158) hx hb dX9_readClause_114 (by decide) (by rw [s114]; rfl) (by decide) ?_
                    have r114k : iv x6 5 5 := ⟨by omega, by omega⟩
                    refine lv_aload_n hx hb dX9_readClause_158 rfl (lv_at hl 2 rfl) ?_
                    refine hp_callei (va_runV (As := []) (rest := []) ⟨hx, hb, hml, hown, hts⟩ (sX9_readKin l D T ap0 ip0) (cwV 0 hts gX9_readClause_X9_readKin rfl rfl rfl (by decide +kernel) ⟨Nat.le_of_ble_eq_true rfl, Nat.le_of_ble_eq_true rfl⟩) (hp_preV hG hw hp0 rfl trivial) rfl rfl hl.1 rfl (lv_room (Nat.le_of_ble_eq_true rfl)) dX9_readClause_159 ⟨Nat.zero_le _, Nat.zero_le _⟩) hw (fun x159 st159 t159 H159 locs159 eh159 eg159 bx159 hw => ?_)
                    obtain ⟨x159op0tw_2, bx159op0tw_2, fx159op0tw_2⟩ := hp_opI hw.1 hp0tw 2 rfl
                    exact W.zret (v := x159) hx hb hr (iv_nz bx159) (fun t ht hW => ⟨some (.int x159), rfl, ⟨x159, rfl, bx159⟩, by rw [ht]; exact hw.1, hw.2.F ht⟩) hw.2.2.2 dX9_readClause_162
                · exact absurd rfl c94
          · have r60fp : iv x6 1 1 := (iv_both (iv_any x6) (iv_eq (show iv 1 1 1 from ⟨by decide, by decide⟩) c60)).mono (by decide) (by decide)
            refine lv_aload_n hx hb dX9_readClause_63 rfl (lv_at hl 1 rfl) ?_
            refine hp_getr hx hb hts IX9 hown hK hw.1 hp0 rfl 1 (by decide) L12 rfl dX9_readClause_64 ?_
            refine hp_getf hx hb hts IX8 hown hK f_p0tw_2 rfl (by decide) L58 dX9_readClause_67 ?_
            refine lv_bipush (v := 10) hx hb dX9_readClause_70 (by decide) ?_
            refine lv_icmp_lt (tgt := 79) hx hb dX9_readClause_72 (by decide) (fun c72 => ?_) (fun c72 => ?_)
            · have r72tp : iv x6op0tw_2 0 9 := (iv_lt_l c72 c57_x6op0tw_2 (show iv 10 10 10 from ⟨by decide, by decide⟩)).mono (by decide) (by decide)
              refine lv_iconst (v := 0) hx hb dX9_readClause_79 (by decide) ?_
              refine lv_istore (lv' := [(4, .int 0), (3, .int y57_s0), (0, .ref ap0), (1, .int xp1), (2, .int x6)]) hx hb dX9_readClause_80 hl (by decide) rfl (fun ls hl => ?_)
              refine lv_iload_n hx hb dX9_readClause_82 rfl (lv_at hl 3 rfl) ?_
              refine lv_bipush (v := 40) hx hb dX9_readClause_83 (by decide) ?_
              refine lv_icmp_ge (tgt := 97) hx hb dX9_readClause_85 (by decide) (fun c85 => ?_) (fun c85 => ?_)
              · have r85tq : iv xp1 40 2147483647 := (iv_le_r c85 (show iv 40 40 40 from ⟨by decide, by decide⟩) (iv_any xp1)).mono (by decide) (by decide)
                refine lv_aload_n hx hb dX9_readClause_97 rfl (lv_at hl 2 rfl) ?_
                refine hp_getr hx hb hts IX9 hown hK hw.1 hp0 rfl 0 (by decide) L18 rfl dX9_readClause_98 ?_
                refine lv_aload_n hx hb dX9_readClause_101 rfl (lv_at hl 2 rfl) ?_
                refine hp_getr hx hb hts IX9 hown hK hw.1 hp0 rfl 0 (by decide) L18 rfl dX9_readClause_102 ?_
                refine hp_geti hx hb hts IX7 hown hK hw.1 hp0tp rfl 4 (by decide) L61 rfl dX9_readClause_105 (fun x105 bx105 fx105 => ?_)
                refine lv_iconst (v := 4) hx hb dX9_readClause_108 (by decide) ?_
                refine hp_callei (va_runV (As := [.int x105, .int 4]) (rest := []) ⟨hx, hb, hml, hown, hts⟩ (sX7_blame l D T ap0tp x105 (4 : Int32) ip0tp) (cwV 2 hts gX9_readClause_X7_blame rfl rfl rfl (by decide +kernel) ⟨Nat.le_of_ble_eq_true rfl, Nat.le_of_ble_eq_true rfl⟩) (hp_preV hG hw hp0tp rfl trivial) rfl rfl hl.1 rfl (lv_room (Nat.le_of_ble_eq_true rfl)) dX9_readClause_109 ⟨Nat.zero_le _, Nat.zero_le _⟩) hw (fun x109 st109 t109 H109 locs109 eh109 eg109 bx109 hw => ?_)
                obtain ⟨x109op0tw_2, bx109op0tw_2, fx109op0tw_2⟩ := hp_opI hw.1 hp0tw 2 rfl
                exact W.zret (v := x109) hx hb hr (iv_nz (bx109.mono (by decide) (by decide))) (fun t ht hW => ⟨some (.int x109), rfl, ⟨x109, rfl, (bx109.mono (by decide) (by decide))⟩, by rw [ht]; exact hw.1, hw.2.F ht⟩) hw.2.2.2 dX9_readClause_112
              · have r85fp : iv xp1 (-2147483648) 39 := (iv_lt_l (iv_nle c85) (iv_any xp1) (show iv 40 40 40 from ⟨by decide, by decide⟩)).mono (by decide) (by decide)
                refine lv_iload_n hx hb dX9_readClause_88 rfl (lv_at hl 1 rfl) ?_
                refine lv_if_ne (tgt := 97) hx hb dX9_readClause_89 (by decide) (fun c89 => ?_) (fun c89 => ?_)
                · have r89tp : iv y57_s0 1 1 := (iv_ne_lo c89 c57_y57_s0 rfl).mono (by decide) (by decide)
                  refine lv_aload_n hx hb dX9_readClause_97 rfl (lv_at hl 2 rfl) ?_
                  refine hp_getr hx hb hts IX9 hown hK hw.1 hp0 rfl 0 (by decide) L18 rfl dX9_readClause_98 ?_
                  refine lv_aload_n hx hb dX9_readClause_101 rfl (lv_at hl 2 rfl) ?_
                  refine hp_getr hx hb hts IX9 hown hK hw.1 hp0 rfl 0 (by decide) L18 rfl dX9_readClause_102 ?_
                  refine hp_geti hx hb hts IX7 hown hK hw.1 hp0tp rfl 4 (by decide) L61 rfl dX9_readClause_105 (fun x105 bx105 fx105 => ?_)
                  refine lv_iconst (v := 4) hx hb dX9_readClause_108 (by decide) ?_
                  refine hp_callei (va_runV (As := [.int x105, .int 4]) (rest := []) ⟨hx, hb, hml, hown, hts⟩ (sX7_blame l D T ap0tp x105 (4 : Int32) ip0tp) (cwV 2 hts gX9_readClause_X7_blame rfl rfl rfl (by decide +kernel) ⟨Nat.le_of_ble_eq_true rfl, Nat.le_of_ble_eq_true rfl⟩) (hp_preV hG hw hp0tp rfl trivial) rfl rfl hl.1 rfl (lv_room (Nat.le_of_ble_eq_true rfl)) dX9_readClause_109 ⟨Nat.zero_le _, Nat.zero_le _⟩) hw (fun x109 st109 t109 H109 locs109 eh109 eg109 bx109 hw => ?_)
                  obtain ⟨x109op0tw_2, bx109op0tw_2, fx109op0tw_2⟩ := hp_opI hw.1 hp0tw 2 rfl
                  exact W.zret (v := x109) hx hb hr (iv_nz (bx109.mono (by decide) (by decide))) (fun t ht hW => ⟨some (.int x109), rfl, ⟨x109, rfl, (bx109.mono (by decide) (by decide))⟩, by rw [ht]; exact hw.1, hw.2.F ht⟩) hw.2.2.2 dX9_readClause_112
                · have r89fp : iv y57_s0 0 0 := (iv_both c57_y57_s0 (iv_eq (show iv 0 0 0 from ⟨by decide, by decide⟩) c89)).mono (by decide) (by decide)
                  refine lv_iload hx hb dX9_readClause_92 (lv_at hl 0 rfl) ?_
                  refine lv_if_eq (tgt := 113) hx hb dX9_readClause_94 (by decide) (fun c94 => ?_) (fun c94 => ?_)
                  · refine lv_iload_n hx hb dX9_readClause_113 rfl (lv_at hl 4 rfl) ?_
                    have i114 := r60fp
                    unfold iv at i114
                    rcases (show x6.toInt = 1 from by omega) with s114
                    refine lv_lookup (off := 39) (tgt := 153) hx hb dX9_readClause_114 (by decide) (by rw [s114]; rfl) (by decide) ?_
                    have r114k : iv x6 1 1 := ⟨by omega, by omega⟩
                    refine lv_aload_n hx hb dX9_readClause_153 rfl (lv_at hl 2 rfl) ?_
                    refine hp_callei (va_runV (As := []) (rest := []) ⟨hx, hb, hml, hown, hts⟩ (sX9_readRow l D T ap0 x6op0tw_2 ap0tp ap0tw hp0 ip0tp ip0tw r72tp) (cwV 0 hts gX9_readClause_X9_readRow rfl rfl rfl (by decide +kernel) ⟨Nat.le_of_ble_eq_true rfl, Nat.le_of_ble_eq_true rfl⟩) (hp_preV hG hw hp0 rfl f_p0tw_2) rfl rfl hl.1 rfl (lv_room (Nat.le_of_ble_eq_true rfl)) dX9_readClause_154 ⟨Nat.zero_le _, Nat.zero_le _⟩) hw (fun x154 st154 t154 H154 locs154 eh154 eg154 bx154 hw => ?_)
                    obtain ⟨x154op0tw_2, bx154op0tw_2, fx154op0tw_2⟩ := hp_opI hw.1 hp0tw 2 rfl
                    exact W.zret (v := x154) hx hb hr (iv_nz bx154) (fun t ht hW => ⟨some (.int x154), rfl, ⟨x154, rfl, bx154⟩, by rw [ht]; exact hw.1, hw.2.F ht⟩) hw.2.2.2 dX9_readClause_157
                  · exact absurd rfl c94
            · have r72fq : iv x6op0tw_2 10 10 := (iv_le_r (iv_nlt c72) (show iv 10 10 10 from ⟨by decide, by decide⟩) c57_x6op0tw_2).mono (by decide) (by decide)
              refine lv_iconst (v := 1) hx hb dX9_readClause_75 (by decide) ?_
              refine lv_goto (tgt := 80) hx hb dX9_readClause_76 (by decide) ?_
              refine lv_istore (lv' := [(4, .int 1), (3, .int y57_s0), (0, .ref ap0), (1, .int xp1), (2, .int x6)]) hx hb dX9_readClause_80 hl (by decide) rfl (fun ls hl => ?_)
              refine lv_iload_n hx hb dX9_readClause_82 rfl (lv_at hl 3 rfl) ?_
              refine lv_bipush (v := 40) hx hb dX9_readClause_83 (by decide) ?_
              refine lv_icmp_ge (tgt := 97) hx hb dX9_readClause_85 (by decide) (fun c85 => ?_) (fun c85 => ?_)
              · have r85tq : iv xp1 40 2147483647 := (iv_le_r c85 (show iv 40 40 40 from ⟨by decide, by decide⟩) (iv_any xp1)).mono (by decide) (by decide)
                refine lv_aload_n hx hb dX9_readClause_97 rfl (lv_at hl 2 rfl) ?_
                refine hp_getr hx hb hts IX9 hown hK hw.1 hp0 rfl 0 (by decide) L18 rfl dX9_readClause_98 ?_
                refine lv_aload_n hx hb dX9_readClause_101 rfl (lv_at hl 2 rfl) ?_
                refine hp_getr hx hb hts IX9 hown hK hw.1 hp0 rfl 0 (by decide) L18 rfl dX9_readClause_102 ?_
                refine hp_geti hx hb hts IX7 hown hK hw.1 hp0tp rfl 4 (by decide) L61 rfl dX9_readClause_105 (fun x105 bx105 fx105 => ?_)
                refine lv_iconst (v := 4) hx hb dX9_readClause_108 (by decide) ?_
                refine hp_callei (va_runV (As := [.int x105, .int 4]) (rest := []) ⟨hx, hb, hml, hown, hts⟩ (sX7_blame l D T ap0tp x105 (4 : Int32) ip0tp) (cwV 2 hts gX9_readClause_X7_blame rfl rfl rfl (by decide +kernel) ⟨Nat.le_of_ble_eq_true rfl, Nat.le_of_ble_eq_true rfl⟩) (hp_preV hG hw hp0tp rfl trivial) rfl rfl hl.1 rfl (lv_room (Nat.le_of_ble_eq_true rfl)) dX9_readClause_109 ⟨Nat.zero_le _, Nat.zero_le _⟩) hw (fun x109 st109 t109 H109 locs109 eh109 eg109 bx109 hw => ?_)
                obtain ⟨x109op0tw_2, bx109op0tw_2, fx109op0tw_2⟩ := hp_opI hw.1 hp0tw 2 rfl
                exact W.zret (v := x109) hx hb hr (iv_nz (bx109.mono (by decide) (by decide))) (fun t ht hW => ⟨some (.int x109), rfl, ⟨x109, rfl, (bx109.mono (by decide) (by decide))⟩, by rw [ht]; exact hw.1, hw.2.F ht⟩) hw.2.2.2 dX9_readClause_112
              · have r85fp : iv xp1 (-2147483648) 39 := (iv_lt_l (iv_nle c85) (iv_any xp1) (show iv 40 40 40 from ⟨by decide, by decide⟩)).mono (by decide) (by decide)
                refine lv_iload_n hx hb dX9_readClause_88 rfl (lv_at hl 1 rfl) ?_
                refine lv_if_ne (tgt := 97) hx hb dX9_readClause_89 (by decide) (fun c89 => ?_) (fun c89 => ?_)
                · have r89tp : iv y57_s0 1 1 := (iv_ne_lo c89 c57_y57_s0 rfl).mono (by decide) (by decide)
                  refine lv_aload_n hx hb dX9_readClause_97 rfl (lv_at hl 2 rfl) ?_
                  refine hp_getr hx hb hts IX9 hown hK hw.1 hp0 rfl 0 (by decide) L18 rfl dX9_readClause_98 ?_
                  refine lv_aload_n hx hb dX9_readClause_101 rfl (lv_at hl 2 rfl) ?_
                  refine hp_getr hx hb hts IX9 hown hK hw.1 hp0 rfl 0 (by decide) L18 rfl dX9_readClause_102 ?_
                  refine hp_geti hx hb hts IX7 hown hK hw.1 hp0tp rfl 4 (by decide) L61 rfl dX9_readClause_105 (fun x105 bx105 fx105 => ?_)
                  refine lv_iconst (v := 4) hx hb dX9_readClause_108 (by decide) ?_
                  refine hp_callei (va_runV (As := [.int x105, .int 4]) (rest := []) ⟨hx, hb, hml, hown, hts⟩ (sX7_blame l D T ap0tp x105 (4 : Int32) ip0tp) (cwV 2 hts gX9_readClause_X7_blame rfl rfl rfl (by decide +kernel) ⟨Nat.le_of_ble_eq_true rfl, Nat.le_of_ble_eq_true rfl⟩) (hp_preV hG hw hp0tp rfl trivial) rfl rfl hl.1 rfl (lv_room (Nat.le_of_ble_eq_true rfl)) dX9_readClause_109 ⟨Nat.zero_le _, Nat.zero_le _⟩) hw (fun x109 st109 t109 H109 locs109 eh109 eg109 bx109 hw => ?_)
                  obtain ⟨x109op0tw_2, bx109op0tw_2, fx109op0tw_2⟩ := hp_opI hw.1 hp0tw 2 rfl
                  exact W.zret (v := x109) hx hb hr (iv_nz (bx109.mono (by decide) (by decide))) (fun t ht hW => ⟨some (.int x109), rfl, ⟨x109, rfl, (bx109.mono (by decide) (by decide))⟩, by rw [ht]; exact hw.1, hw.2.F ht⟩) hw.2.2.2 dX9_readClause_112
                · have r89fp : iv y57_s0 0 0 := (iv_both c57_y57_s0 (iv_eq (show iv 0 0 0 from ⟨by decide, by decide⟩) c89)).mono (by decide) (by decide)
                  refine lv_iload hx hb dX9_readClause_92 (lv_at hl 0 rfl) ?_
                  refine lv_if_eq (tgt := 113) hx hb dX9_readClause_94 (by decide) (fun c94 => ?_) (fun c94 => ?_)
                  · exact iv_abs2 c94 (show iv 1 1 1 from ⟨by decide, by decide⟩) (show iv 0 0 0 from ⟨by decide, by decide⟩) (by decide)
                  · refine lv_aload_n hx hb dX9_readClause_97 rfl (lv_at hl 2 rfl) ?_
                    refine hp_getr hx hb hts IX9 hown hK hw.1 hp0 rfl 0 (by decide) L18 rfl dX9_readClause_98 ?_
                    refine lv_aload_n hx hb dX9_readClause_101 rfl (lv_at hl 2 rfl) ?_
                    refine hp_getr hx hb hts IX9 hown hK hw.1 hp0 rfl 0 (by decide) L18 rfl dX9_readClause_102 ?_
                    refine hp_geti hx hb hts IX7 hown hK hw.1 hp0tp rfl 4 (by decide) L61 rfl dX9_readClause_105 (fun x105 bx105 fx105 => ?_)
                    refine lv_iconst (v := 4) hx hb dX9_readClause_108 (by decide) ?_
                    refine hp_callei (va_runV (As := [.int x105, .int 4]) (rest := []) ⟨hx, hb, hml, hown, hts⟩ (sX7_blame l D T ap0tp x105 (4 : Int32) ip0tp) (cwV 2 hts gX9_readClause_X7_blame rfl rfl rfl (by decide +kernel) ⟨Nat.le_of_ble_eq_true rfl, Nat.le_of_ble_eq_true rfl⟩) (hp_preV hG hw hp0tp rfl trivial) rfl rfl hl.1 rfl (lv_room (Nat.le_of_ble_eq_true rfl)) dX9_readClause_109 ⟨Nat.zero_le _, Nat.zero_le _⟩) hw (fun x109 st109 t109 H109 locs109 eh109 eg109 bx109 hw => ?_)
                    obtain ⟨x109op0tw_2, bx109op0tw_2, fx109op0tw_2⟩ := hp_opI hw.1 hp0tw 2 rfl
                    exact W.zret (v := x109) hx hb hr (iv_nz (bx109.mono (by decide) (by decide))) (fun t ht hW => ⟨some (.int x109), rfl, ⟨x109, rfl, (bx109.mono (by decide) (by decide))⟩, by rw [ht]; exact hw.1, hw.2.F ht⟩) hw.2.2.2 dX9_readClause_112
        refine lv_icmp_eq (tgt := 56) hx hb dX9_readClause_49 (by decide) (fun c49 => ?_) (fun c49 => ?_)
        · refine lv_iconst (v := 0) hx hb dX9_readClause_56 (by decide) ?_
          exact J57 (0 : Int32) (show iv 0 0 1 from ⟨by decide, by decide⟩) c49_x6op0tw_2 H49 locs49 hw f_p0tw_2 _ (lv_sub hl [0, 1, 2] rfl)
        · refine lv_iconst (v := 1) hx hb dX9_readClause_52 (by decide) ?_
          refine lv_goto (tgt := 57) hx hb dX9_readClause_53 (by decide) ?_
          exact J57 (1 : Int32) (show iv 1 0 1 from ⟨by decide, by decide⟩) c49_x6op0tw_2 H49 locs49 hw f_p0tw_2 _ (lv_sub hl [0, 1, 2] rfl)
      refine lv_if_ne (tgt := 48) hx hb dX9_readClause_41 (by decide) (fun c41 => ?_) (fun c41 => ?_)
      · refine lv_iconst (v := 0) hx hb dX9_readClause_48 (by decide) ?_
        exact J49 (0 : Int32) c40_y40_s0 (show iv 0 0 1 from ⟨by decide, by decide⟩) c40_x6op0tw_2 H40 locs40 hw f_p0tw_2 _ (lv_sub hl [0, 1, 2] rfl)
      · have r41fp : iv xp1 0 0 := (iv_both (iv_any xp1) (iv_eq (show iv 0 0 0 from ⟨by decide, by decide⟩) c41)).mono (by decide) (by decide)
        refine lv_iconst (v := 1) hx hb dX9_readClause_44 (by decide) ?_
        refine lv_goto (tgt := 49) hx hb dX9_readClause_45 (by decide) ?_
        exact J49 (1 : Int32) c40_y40_s0 (show iv 1 0 1 from ⟨by decide, by decide⟩) c40_x6op0tw_2 H40 locs40 hw f_p0tw_2 _ (lv_sub hl [0, 1, 2] rfl)
    refine lv_if_ne (tgt := 39) hx hb dX9_readClause_32 (by decide) (fun c32 => ?_) (fun c32 => ?_)
    · refine lv_iconst (v := 0) hx hb dX9_readClause_39 (by decide) ?_
      exact J40 (0 : Int32) (show iv 0 0 1 from ⟨by decide, by decide⟩) bx6op0tw_2 H6 locs6 hw fx6op0tw_2 _ (lv_sub hl [1, 2, 0] rfl)
    · have r32fp : iv x6 0 0 := (iv_both (iv_any x6) (iv_eq (show iv 0 0 0 from ⟨by decide, by decide⟩) c32)).mono (by decide) (by decide)
      refine lv_iconst (v := 1) hx hb dX9_readClause_35 (by decide) ?_
      refine lv_goto (tgt := 40) hx hb dX9_readClause_36 (by decide) ?_
      exact J40 (1 : Int32) (show iv 1 0 1 from ⟨by decide, by decide⟩) bx6op0tw_2 H6 locs6 hw fx6op0tw_2 _ (lv_sub hl [1, 2, 0] rfl)
  · have r12fp : iv x6 (-1) (-1) := (iv_both (iv_any x6) (iv_eq (show iv (-1) (-1) (-1) from ⟨by decide, by decide⟩) c12)).mono (by decide) (by decide)
    refine lv_aload_n hx hb dX9_readClause_15 rfl (lv_at hl 1 rfl) ?_
    refine hp_getr hx hb hts IX9 hown hK hw.1 hp0 rfl 0 (by decide) L18 rfl dX9_readClause_16 ?_
    refine lv_aload_n hx hb dX9_readClause_19 rfl (lv_at hl 1 rfl) ?_
    refine hp_getr hx hb hts IX9 hown hK hw.1 hp0 rfl 0 (by decide) L18 rfl dX9_readClause_20 ?_
    refine hp_geti hx hb hts IX7 hown hK hw.1 hp0tp rfl 2 (by decide) L50 rfl dX9_readClause_23 (fun x23 bx23 fx23 => ?_)
    refine lv_iconst (v := 0) hx hb dX9_readClause_26 (by decide) ?_
    refine hp_callei (va_runV (As := [.int x23, .int 0]) (rest := []) ⟨hx, hb, hml, hown, hts⟩ (sX7_blame l D T ap0tp x23 (0 : Int32) ip0tp) (cwV 2 hts gX9_readClause_X7_blame rfl rfl rfl (by decide +kernel) ⟨Nat.le_of_ble_eq_true rfl, Nat.le_of_ble_eq_true rfl⟩) (hp_preV hG hw hp0tp rfl trivial) rfl rfl hl.1 rfl (lv_room (Nat.le_of_ble_eq_true rfl)) dX9_readClause_27 ⟨Nat.zero_le _, Nat.zero_le _⟩) hw (fun x27 st27 t27 H27 locs27 eh27 eg27 bx27 hw => ?_)
    obtain ⟨x27op0tw_2, bx27op0tw_2, fx27op0tw_2⟩ := hp_opI hw.1 hp0tw 2 rfl
    exact W.zret (v := x27) hx hb hr (iv_nz (bx27.mono (by decide) (by decide))) (fun t ht hW => ⟨some (.int x27), rfl, ⟨x27, rfl, (bx27.mono (by decide) (by decide))⟩, by rw [ht]; exact hw.1, hw.2.F ht⟩) hw.2.2.2 dX9_readClause_30
abbrev WX9_readTown (p : Program) (l : Launch) (e : Env) (s : State) (m : MethodId) (below : List Frame) (meth : Method) (c : Code) (D : hp_D) (T : hp_T) (ap0 : Nat) (H : Heap) (locs : List Loc) (g : JFrame) : Prop := W p l e (headSpec wsX9_readTown ({ frames := 6, cells := 0, slots := 0, locals := 152 })).room s m ([.ref ap0] : List Value).toArray below meth c H locs 0 0 (MQ below (hq_e D T (fun v _ _ => ∃ r : Int32, v = some (.int r) ∧ iv r 0 1)) ([.ref ap0] : List Value).toArray s 0 0 (hp_F T)) g
set_option maxHeartbeats 4000000 in
set_option maxRecDepth 100000 in
theorem sX9_readTown (l : Launch) (D : hp_D) (T : hp_T) (ap0 : Nat) (ip0 : isTownReader T ap0) : Met l yX9_readTown wsX9_readTown ({ frames := 6, cells := 0, slots := 0, locals := 152 }) (hp_Pc D T [.ref ap0] (fun _ => True)) (hq_e D T (fun v _ _ => ∃ r : Int32, v = some (.int r) ∧ iv r 0 1)) 0 0 (hp_F T) := by
  obtain ⟨ap0tp, ap0tw, hp0, ip0tp, ip0tw⟩ := id ip0
  obtain ⟨ap0tpbt, hp0tp, hp0tpbt⟩ := id ip0tp
  obtain ⟨ap0twkin, ap0twpl, ap0twcr, hp0tw, hp0twkin, hp0twpl, hp0twcr⟩ := id ip0tw
  refine Met.ofW (cc := cX9_readTown) (maxL := 2) (ret := (some .boolean)) (by decide) rfl ?_
  intro p e s m args below meth c s₁ B hml hv
  obtain ⟨rfl, hok, hG, hB⟩ := hv
  have hx := B.exec
  have hb := B.bytes
  have hr := B.returns
  have hts := atoms_spec (ws := wsX9_readTown) B.pre
  have hown : s.vm.findClass RX9 = some m.cls := findClass_of_methodNamed B.named
  have hlocks := B.notSynchronized
  have hK := hG.1
  have hw : hp_w D T s s.heap [] := hp_w.rf hok
  have IX9 : ∀ w ∈ wsX90, w ∈ wsX9_readTown := by decide +kernel
  have L12 := hts (.fieldLink RX9 12 "PalmCensus$TownReader" "town" "LPalmCensus$Town;") (by decide +kernel)
  have L18 := hts (.fieldLink RX9 18 "PalmCensus$TownReader" "tape" "LPalmCensus$Tape;") (by decide +kernel)
  have hl := lv_entry ([.ref ap0]) (n := 2) (Nat.le_of_ble_eq_true rfl)
  rw [lg_entry_eq]
  generalize (lg_sl ([.ref ap0]) ++ List.replicate (2 - (lg_sl ([.ref ap0])).length) Slot.unset).toArray = ls at hl ⊢
  have hl : lv_has ls 2 [(0, .ref ap0)] := hl
  show WX9_readTown p l e s m below meth c D T ap0 s.heap [] (F0 m 0 ls [])
  refine lv_aload_n hx hb dX9_readTown_0 rfl (lv_at hl 0 rfl) ?_
  refine hp_getr hx hb hts IX9 hown hK hw.1 hp0 rfl 1 (by decide) L12 rfl dX9_readTown_1 ?_
  refine hp_callev (va_runV (As := []) (rest := []) ⟨hx, hb, hml, hown, hts⟩ (sX8_clear l D T ap0tw ip0tw) (cwV 0 hts gX9_readTown_X8_clear rfl rfl rfl (by decide +kernel) ⟨Nat.le_of_ble_eq_true rfl, Nat.le_of_ble_eq_true rfl⟩) (hp_preV hG hw hp0tw rfl trivial) rfl rfl hl.1 rfl (lv_room (Nat.le_of_ble_eq_true rfl)) dX9_readTown_4 ⟨Nat.zero_le _, Nat.zero_le _⟩) hw (fun st4 t4 H4 locs4 eh4 eg4 bx4 hw => ?_)
  refine lv_aload_n hx hb dX9_readTown_7 rfl (lv_at hl 0 rfl) ?_
  refine hp_getr hx hb hts IX9 hown hK hw.1 hp0 rfl 0 (by decide) L18 rfl dX9_readTown_8 ?_
  refine hp_callev (va_runV (As := []) (rest := []) ⟨hx, hb, hml, hown, hts⟩ (sX7_startReading l D T ap0tp ip0tp) (cwV 0 hts gX9_readTown_X7_startReading rfl rfl rfl (by decide +kernel) ⟨Nat.le_of_ble_eq_true rfl, Nat.le_of_ble_eq_true rfl⟩) (hp_preV hG hw hp0tp rfl trivial) rfl rfl hl.1 rfl (lv_room (Nat.le_of_ble_eq_true rfl)) dX9_readTown_11 ⟨Nat.zero_le _, Nat.zero_le _⟩) hw (fun st11 t11 H11 locs11 eh11 eg11 bx11 hw => ?_)
  refine lv_iconst (v := 0) hx hb dX9_readTown_14 (by decide) ?_
  refine lv_istore_n (lv' := [(1, .int 0), (0, .ref ap0)]) hx hb dX9_readTown_15 rfl hl (by decide) rfl (fun ls hl => ?_)
  have J16 : ∀ (n : Nat) (y16_l1 : Int32), (41 - y16_l1.toInt).toNat < n → iv y16_l1 0 41 → ∀ (H : Heap) (locs : List Loc), hp_w D T s H locs → ∀ (ls : Array Slot), lv_has ls 2 [(0, .ref ap0), (1, .int y16_l1)] → WX9_readTown p l e s m below meth c D T ap0 H locs (F0 m 16 ls []) := by
    intro n
    induction n with
    | zero => intro y16_l1 hmu16 c16_y16_l1 H16 locs16 hw ls hl; exact absurd hmu16 (Nat.not_lt_zero _)
    | succ n ih16 =>
      intro y16_l1 hmu16 c16_y16_l1 H16 locs16 hw ls hl
      refine lv_iload_n hx hb dX9_readTown_16 rfl (lv_at hl 1 rfl) ?_
      refine lv_bipush (v := 40) hx hb dX9_readTown_17 (by decide) ?_
      refine lv_icmp_gt (tgt := 64) hx hb dX9_readTown_19 (by decide) (fun c19 => ?_) (fun c19 => ?_)
      · have r19tq : iv y16_l1 41 41 := (iv_lt_r c19 (show iv 40 40 40 from ⟨by decide, by decide⟩) c16_y16_l1).mono (by decide) (by decide)
        refine lv_iconst (v := 0) hx hb dX9_readTown_64 (by decide) ?_
        exact W.zret (v := 0) hx hb hr (iv_nz (show iv 0 0 1 from ⟨by decide, by decide⟩)) (fun t ht hW => ⟨some (.int 0), rfl, ⟨(0 : Int32), rfl, (show iv 0 0 1 from ⟨by decide, by decide⟩)⟩, by rw [ht]; exact hw.1, hw.2.F ht⟩) hw.2.2.2 dX9_readTown_65
      · have r19fp : iv y16_l1 0 40 := (iv_le_l (iv_nlt c19) c16_y16_l1 (show iv 40 40 40 from ⟨by decide, by decide⟩)).mono (by decide) (by decide)
        refine lv_aload_n hx hb dX9_readTown_22 rfl (lv_at hl 0 rfl) ?_
        refine lv_iload_n hx hb dX9_readTown_23 rfl (lv_at hl 1 rfl) ?_
        refine hp_callei (va_runV (As := [.int y16_l1]) (rest := []) ⟨hx, hb, hml, hown, hts⟩ (sX9_readClause l D T ap0 y16_l1 ip0) (cwV 1 hts gX9_readTown_X9_readClause rfl rfl rfl (by decide +kernel) ⟨Nat.le_of_ble_eq_true rfl, Nat.le_of_ble_eq_true rfl⟩) (hp_preV hG hw hp0 rfl trivial) rfl rfl hl.1 rfl (lv_room (Nat.le_of_ble_eq_true rfl)) dX9_readTown_24 ⟨Nat.zero_le _, Nat.zero_le _⟩) hw (fun x24 st24 t24 H24 locs24 eh24 eg24 bx24 hw => ?_)
        refine lv_if_ne (tgt := 32) hx hb dX9_readTown_27 (by decide) (fun c27 => ?_) (fun c27 => ?_)
        · have r27tp : iv x24 1 1 := (iv_ne_lo c27 bx24 rfl).mono (by decide) (by decide)
          refine lv_aload_n hx hb dX9_readTown_32 rfl (lv_at hl 0 rfl) ?_
          refine hp_getr hx hb hts IX9 hown hK hw.1 hp0 rfl 0 (by decide) L18 rfl dX9_readTown_33 ?_
          refine hp_callei (va_runV (As := []) (rest := []) ⟨hx, hb, hml, hown, hts⟩ (sX7_isAtEnd l D T ap0tp ip0tp) (cwV 0 hts gX9_readTown_X7_isAtEnd rfl rfl rfl (by decide +kernel) ⟨Nat.le_of_ble_eq_true rfl, Nat.le_of_ble_eq_true rfl⟩) (hp_preV hG hw hp0tp rfl trivial) rfl rfl hl.1 rfl (lv_room (Nat.le_of_ble_eq_true rfl)) dX9_readTown_36 ⟨Nat.zero_le _, Nat.zero_le _⟩) hw (fun x36 st36 t36 H36 locs36 eh36 eg36 bx36 hw => ?_)
          refine lv_if_eq (tgt := 44) hx hb dX9_readTown_39 (by decide) (fun c39 => ?_) (fun c39 => ?_)
          · have r39tp : iv x36 0 0 := (iv_both bx36 (iv_eq (show iv 0 0 0 from ⟨by decide, by decide⟩) c39)).mono (by decide) (by decide)
            refine lv_aload_n hx hb dX9_readTown_44 rfl (lv_at hl 0 rfl) ?_
            refine hp_getr hx hb hts IX9 hown hK hw.1 hp0 rfl 0 (by decide) L18 rfl dX9_readTown_45 ?_
            refine va_ldcS hx hb hown hG.2.2.1.2.2.2.2.2.2.2.2.2.2.1 dX9_readTown_48 ?_
            refine hp_callei (va_runV (As := [.ref (D.2.2.1 5)]) (rest := []) ⟨hx, hb, hml, hown, hts⟩ (sX7_needSign l D T ap0tp 5 ip0tp (by decide)) (cwV 1 hts gX9_readTown_X7_needSign rfl rfl rfl (by decide +kernel) ⟨Nat.le_of_ble_eq_true rfl, Nat.le_of_ble_eq_true rfl⟩) (hp_preV hG hw hp0tp rfl trivial) rfl rfl hl.1 rfl (lv_room (Nat.le_of_ble_eq_true rfl)) dX9_readTown_50 ⟨Nat.zero_le _, Nat.zero_le _⟩) hw (fun x50 st50 t50 H50 locs50 eh50 eg50 bx50 hw => ?_)
            refine lv_if_ne (tgt := 58) hx hb dX9_readTown_53 (by decide) (fun c53 => ?_) (fun c53 => ?_)
            · have r53tp : iv x50 1 1 := (iv_ne_lo c53 bx50 rfl).mono (by decide) (by decide)
              obtain ⟨x58, ex58⟩ : ∃ y : Int32, y = y16_l1 + 1 := ⟨_, rfl⟩
              have bx58 : iv x58 1 41 := iv_add r19fp (show iv 1 1 1 from ⟨by decide, by decide⟩) ex58 (by decide)
              have qx58 := iv_add_eq r19fp (show iv 1 1 1 from ⟨by decide, by decide⟩) ex58 (by decide)
              refine lv_iinc (v := x58) (lv' := [(1, .int x58), (0, .ref ap0)]) hx hb dX9_readTown_58 hl (k := 1) rfl (by rw [ex58]; rfl) (by decide) rfl (fun ls hl => ?_)
              refine lv_goto (tgt := 16) hx hb dX9_readTown_61 (by decide) ?_
              exact ih16 x58 (mu_up 1 hmu16 (qx58) (by decide) (show iv x58 0 41 from (bx58.mono (by decide) (by decide))).2) (bx58.mono (by decide) (by decide)) H50 locs50 hw _ (lv_sub hl [1, 0] rfl)
            · have r53fp : iv x50 0 0 := (iv_both bx50 (iv_eq (show iv 0 0 0 from ⟨by decide, by decide⟩) c53)).mono (by decide) (by decide)
              refine lv_iconst (v := 0) hx hb dX9_readTown_56 (by decide) ?_
              exact W.zret (v := 0) hx hb hr (iv_nz (show iv 0 0 1 from ⟨by decide, by decide⟩)) (fun t ht hW => ⟨some (.int 0), rfl, ⟨(0 : Int32), rfl, (show iv 0 0 1 from ⟨by decide, by decide⟩)⟩, by rw [ht]; exact hw.1, hw.2.F ht⟩) hw.2.2.2 dX9_readTown_57
          · have r39fp : iv x36 1 1 := (iv_ne_lo c39 bx36 rfl).mono (by decide) (by decide)
            refine lv_iconst (v := 1) hx hb dX9_readTown_42 (by decide) ?_
            exact W.zret (v := 1) hx hb hr (iv_nz (show iv 1 0 1 from ⟨by decide, by decide⟩)) (fun t ht hW => ⟨some (.int 1), rfl, ⟨(1 : Int32), rfl, (show iv 1 0 1 from ⟨by decide, by decide⟩)⟩, by rw [ht]; exact hw.1, hw.2.F ht⟩) hw.2.2.2 dX9_readTown_43
        · have r27fp : iv x24 0 0 := (iv_both bx24 (iv_eq (show iv 0 0 0 from ⟨by decide, by decide⟩) c27)).mono (by decide) (by decide)
          refine lv_iconst (v := 0) hx hb dX9_readTown_30 (by decide) ?_
          exact W.zret (v := 0) hx hb hr (iv_nz (show iv 0 0 1 from ⟨by decide, by decide⟩)) (fun t ht hW => ⟨some (.int 0), rfl, ⟨(0 : Int32), rfl, (show iv 0 0 1 from ⟨by decide, by decide⟩)⟩, by rw [ht]; exact hw.1, hw.2.F ht⟩) hw.2.2.2 dX9_readTown_31
  exact J16 _ (0 : Int32) (Nat.lt_succ_self _) (show iv 0 0 41 from ⟨by decide, by decide⟩) H11 locs11 hw _ (lv_sub hl [1, 0] rfl)
abbrev WX4_readFact_10 (p : Program) (l : Launch) (e : Env) (s : State) (m : MethodId) (below : List Frame) (meth : Method) (c : Code) (D : hp_D) (T : hp_T) (ap0 : Nat) (xp1 : Int32) (H : Heap) (locs : List Loc) (g : JFrame) : Prop := W p l e (headSpec wsX4_readFact ({ frames := 7, cells := 0, slots := 0, locals := 175 })).room s m ([.ref ap0, .int xp1] : List Value).toArray below meth c H locs 0 0 (MQ below (hq_e D T (fun v _ _ => ∃ r : Int32, v = some (.int r) ∧ iv r 0 1)) ([.ref ap0, .int xp1] : List Value).toArray s 0 0 (hp_F T)) g
set_option maxHeartbeats 4000000 in
set_option maxRecDepth 100000 in
theorem sX4_readFact_10 (l : Launch) (D : hp_D) (T : hp_T) (ap0 : Nat) (xp1 : Int32) (ip0 : isRuleReader T ap0) (bp1 : iv xp1 10 10) : Met l yX4_readFact wsX4_readFact ({ frames := 7, cells := 0, slots := 0, locals := 175 }) (hp_Pc D T [.ref ap0, .int xp1] (fun _ => True)) (hq_e D T (fun v _ _ => ∃ r : Int32, v = some (.int r) ∧ iv r 0 1)) 0 0 (hp_F T) := by
  obtain ⟨ap0tp, ap0stp, hp0, ip0tp, hp0stp⟩ := id ip0
  obtain ⟨ap0tpbt, hp0tp, hp0tpbt⟩ := id ip0tp
  refine Met.ofW (cc := cX4_readFact) (maxL := 5) (ret := (some .boolean)) (by decide) rfl ?_
  intro p e s m args below meth c s₁ B hml hv
  obtain ⟨rfl, hok, hG, hB⟩ := hv
  have hx := B.exec
  have hb := B.bytes
  have hr := B.returns
  have hts := atoms_spec (ws := wsX4_readFact) B.pre
  have hown : s.vm.findClass RX4 = some m.cls := findClass_of_methodNamed B.named
  have hlocks := B.notSynchronized
  have hK := hG.1
  have hw : hp_w D T s s.heap [] := hp_w.rf hok
  have IX4 : ∀ w ∈ wsX40, w ∈ wsX4_readFact := by decide +kernel
  have IX7 : ∀ w ∈ wsX70, w ∈ wsX4_readFact := by decide +kernel
  have L26 := hts (.fieldLink RX4 26 "PalmCensus$RuleReader" "tape" "LPalmCensus$Tape;") (by decide +kernel)
  have L84 := hts (.fieldLink RX4 84 "PalmCensus$Tape" "start" "I") (by decide +kernel)
  have hl := lv_entry ([.ref ap0, .int xp1]) (n := 5) (Nat.le_of_ble_eq_true rfl)
  rw [lg_entry_eq]
  generalize (lg_sl ([.ref ap0, .int xp1]) ++ List.replicate (5 - (lg_sl ([.ref ap0, .int xp1])).length) Slot.unset).toArray = ls at hl ⊢
  have hl : lv_has ls 5 [(0, .ref ap0), (1, .int xp1)] := hl
  show WX4_readFact_10 p l e s m below meth c D T ap0 xp1 s.heap [] (F0 m 0 ls [])
  refine lv_aload_n hx hb dX4_readFact_0 rfl (lv_at hl 0 rfl) ?_
  refine hp_getr hx hb hts IX4 hown hK hw.1 hp0 rfl 0 (by decide) L26 rfl dX4_readFact_1 ?_
  refine va_ldcS hx hb hown hG.2.2.1.2.2.2.2.2.2.2.2.1 dX4_readFact_4 ?_
  refine hp_callei (va_runV (As := [.ref (D.2.2.1 8)]) (rest := []) ⟨hx, hb, hml, hown, hts⟩ (sX7_takeSignOf l D T ap0tp 8 ip0tp (by decide)) (cwV 1 hts gX4_readFact_X7_takeSignOf rfl rfl rfl (by decide +kernel) ⟨Nat.le_of_ble_eq_true rfl, Nat.le_of_ble_eq_true rfl⟩) (hp_preV hG hw hp0tp rfl trivial) rfl rfl hl.1 rfl (lv_room (Nat.le_of_ble_eq_true rfl)) dX4_readFact_6 ⟨Nat.zero_le _, Nat.zero_le _⟩) hw (fun x6 st6 t6 H6 locs6 eh6 eg6 bx6 hw => ?_)
  refine lv_iconst (v := (-1)) hx hb dX4_readFact_9 (by decide) ?_
  have J18 : ∀ (y18_s0 : Int32), iv xp1 10 10 → iv y18_s0 0 1 → ∀ (H : Heap) (locs : List Loc), hp_w D T s H locs → ∀ (ls : Array Slot), lv_has ls 5 [(0, .ref ap0), (1, .int xp1)] → WX4_readFact_10 p l e s m below meth c D T ap0 xp1 H locs (F0 m 18 ls [.int y18_s0]) := by
    intro y18_s0 c18_xp1 c18_y18_s0 H18 locs18 hw ls hl
    refine lv_istore_n (lv' := [(2, .int y18_s0), (0, .ref ap0), (1, .int xp1)]) hx hb dX4_readFact_18 rfl hl (by decide) rfl (fun ls hl => ?_)
    refine lv_iload_n hx hb dX4_readFact_19 rfl (lv_at hl 0 rfl) ?_
    have J41 : ∀ (y41_s0 : Int32), iv xp1 10 10 → iv y18_s0 0 1 → iv y41_s0 0 1 → ∀ (H : Heap) (locs : List Loc), hp_w D T s H locs → ∀ (ls : Array Slot), lv_has ls 5 [(0, .ref ap0), (1, .int xp1), (2, .int y18_s0)] → WX4_readFact_10 p l e s m below meth c D T ap0 xp1 H locs (F0 m 41 ls [.int y41_s0]) := by
      intro y41_s0 c41_xp1 c41_y18_s0 c41_y41_s0 H41 locs41 hw ls hl
      refine lv_istore_n (lv' := [(3, .int y41_s0), (0, .ref ap0), (1, .int xp1), (2, .int y18_s0)]) hx hb dX4_readFact_41 rfl hl (by decide) rfl (fun ls hl => ?_)
      refine lv_iload_n hx hb dX4_readFact_42 rfl (lv_at hl 3 rfl) ?_
      have J92 : iv xp1 10 10 → iv y41_s0 0 1 → ∀ (H : Heap) (locs : List Loc), hp_w D T s H locs → ∀ (ls : Array Slot), lv_has ls 5 [(0, .ref ap0), (1, .int xp1), (3, .int y41_s0)] → WX4_readFact_10 p l e s m below meth c D T ap0 xp1 H locs (F0 m 92 ls []) := by
        intro c92_xp1 c92_y41_s0 H92 locs92 hw ls hl
        refine lv_iload_n hx hb dX4_readFact_92 rfl (lv_at hl 1 rfl) ?_
        refine lv_bipush (v := 10) hx hb dX4_readFact_93 (by decide) ?_
        refine lv_icmp_lt (tgt := 114) hx hb dX4_readFact_95 (by decide) (fun c95 => ?_) (fun c95 => ?_)
        · exact iv_abs (iv_lt_l c95 c92_xp1 (show iv 10 10 10 from ⟨by decide, by decide⟩)) (by decide)
        · refine lv_aload_n hx hb dX4_readFact_98 rfl (lv_at hl 0 rfl) ?_
          refine hp_getr hx hb hts IX4 hown hK hw.1 hp0 rfl 0 (by decide) L26 rfl dX4_readFact_99 ?_
          refine lv_aload_n hx hb dX4_readFact_102 rfl (lv_at hl 0 rfl) ?_
          refine hp_getr hx hb hts IX4 hown hK hw.1 hp0 rfl 0 (by decide) L26 rfl dX4_readFact_103 ?_
          refine hp_geti hx hb hts IX7 hown hK hw.1 hp0tp rfl 4 (by decide) L84 rfl dX4_readFact_106 (fun x106 bx106 fx106 => ?_)
          refine lv_iconst (v := 2) hx hb dX4_readFact_109 (by decide) ?_
          refine hp_callei (va_runV (As := [.int x106, .int 2]) (rest := []) ⟨hx, hb, hml, hown, hts⟩ (sX7_blame l D T ap0tp x106 (2 : Int32) ip0tp) (cwV 2 hts gX4_readFact_X7_blame rfl rfl rfl (by decide +kernel) ⟨Nat.le_of_ble_eq_true rfl, Nat.le_of_ble_eq_true rfl⟩) (hp_preV hG hw hp0tp rfl trivial) rfl rfl hl.1 rfl (lv_room (Nat.le_of_ble_eq_true rfl)) dX4_readFact_110 ⟨Nat.zero_le _, Nat.zero_le _⟩) hw (fun x110 st110 t110 H110 locs110 eh110 eg110 bx110 hw => ?_)
          exact W.zret (v := x110) hx hb hr (iv_nz (bx110.mono (by decide) (by decide))) (fun t ht hW => ⟨some (.int x110), rfl, ⟨x110, rfl, (bx110.mono (by decide) (by decide))⟩, by rw [ht]; exact hw.1, hw.2.F ht⟩) hw.2.2.2 dX4_readFact_113
      refine lv_if_ne (tgt := 92) hx hb dX4_readFact_43 (by decide) (fun c43 => ?_) (fun c43 => ?_)
      · have r43tp : iv y18_s0 1 1 := (iv_ne_lo c43 c41_y18_s0 rfl).mono (by decide) (by decide)
        exact J92 c41_xp1 c41_y41_s0 H41 locs41 hw _ (lv_sub hl [1, 2, 0] rfl)
      · have r43fp : iv y18_s0 0 0 := (iv_both c41_y18_s0 (iv_eq (show iv 0 0 0 from ⟨by decide, by decide⟩) c43)).mono (by decide) (by decide)
        refine lv_iload_n hx hb dX4_readFact_46 rfl (lv_at hl 0 rfl) ?_
        refine lv_if_ne (tgt := 92) hx hb dX4_readFact_47 (by decide) (fun c47 => ?_) (fun c47 => ?_)
        · have r47tp : iv y41_s0 1 1 := (iv_ne_lo c47 c41_y41_s0 rfl).mono (by decide) (by decide)
          exact J92 c41_xp1 (r47tp.mono (by decide) (by decide)) H41 locs41 hw _ (lv_sub hl [1, 2, 0] rfl)
        · have r47fp : iv y41_s0 0 0 := (iv_both c41_y41_s0 (iv_eq (show iv 0 0 0 from ⟨by decide, by decide⟩) c47)).mono (by decide) (by decide)
          refine lv_aload_n hx hb dX4_readFact_50 rfl (lv_at hl 1 rfl) ?_
          refine hp_callei (va_runV (As := []) (rest := []) ⟨hx, hb, hml, hown, hts⟩ (sX4_readSum l D T ap0 ip0) (cwV 0 hts gX4_readFact_X4_readSum rfl rfl rfl (by decide +kernel) ⟨Nat.le_of_ble_eq_true rfl, Nat.le_of_ble_eq_true rfl⟩) (hp_preV hG hw hp0 rfl trivial) rfl rfl hl.1 rfl (lv_room (Nat.le_of_ble_eq_true rfl)) dX4_readFact_51 ⟨Nat.zero_le _, Nat.zero_le _⟩) hw (fun x51 st51 t51 H51 locs51 eh51 eg51 bx51 hw => ?_)
          refine lv_if_ne (tgt := 59) hx hb dX4_readFact_54 (by decide) (fun c54 => ?_) (fun c54 => ?_)
          · have r54tp : iv x51 1 1 := (iv_ne_lo c54 bx51 rfl).mono (by decide) (by decide)
            refine lv_aload_n hx hb dX4_readFact_59 rfl (lv_at hl 1 rfl) ?_
            refine hp_callei (va_runV (As := []) (rest := []) ⟨hx, hb, hml, hown, hts⟩ (sX4_readSign l D T ap0 ip0) (cwV 0 hts gX4_readFact_X4_readSign rfl rfl rfl (by decide +kernel) ⟨Nat.le_of_ble_eq_true rfl, Nat.le_of_ble_eq_true rfl⟩) (hp_preV hG hw hp0 rfl trivial) rfl rfl hl.1 rfl (lv_room (Nat.le_of_ble_eq_true rfl)) dX4_readFact_60 ⟨Nat.zero_le _, Nat.zero_le _⟩) hw (fun x60 st60 t60 H60 locs60 eh60 eg60 bx60 hw => ?_)
            refine lv_istore (lv' := [(4, .int x60), (3, .int y41_s0), (0, .ref ap0), (1, .int xp1), (2, .int y18_s0)]) hx hb dX4_readFact_63 hl (by decide) rfl (fun ls hl => ?_)
            refine lv_iload hx hb dX4_readFact_65 (lv_at hl 0 rfl) ?_
            have J91 : ∀ (y91_s0 : Int32), iv y91_s0 0 1 → ∀ (H : Heap) (locs : List Loc), hp_w D T s H locs → ∀ (ls : Array Slot), lv_has ls 5 [] → WX4_readFact_10 p l e s m below meth c D T ap0 xp1 H locs (F0 m 91 ls [.int y91_s0]) := by
              intro y91_s0 c91_y91_s0 H91 locs91 hw ls hl
              exact W.zret (v := y91_s0) hx hb hr (iv_nz c91_y91_s0) (fun t ht hW => ⟨some (.int y91_s0), rfl, ⟨y91_s0, rfl, c91_y91_s0⟩, by rw [ht]; exact hw.1, hw.2.F ht⟩) hw.2.2.2 dX4_readFact_91
            have J90 : ∀ (H : Heap) (locs : List Loc), hp_w D T s H locs → ∀ (ls : Array Slot), lv_has ls 5 [] → WX4_readFact_10 p l e s m below meth c D T ap0 xp1 H locs (F0 m 90 ls []) := by
              intro H90 locs90 hw ls hl
              refine lv_iconst (v := 0) hx hb dX4_readFact_90 (by decide) ?_
              exact J91 (0 : Int32) (show iv 0 0 1 from ⟨by decide, by decide⟩) H90 locs90 hw _ (lv_sub hl [] rfl)
            refine lv_if_eq (tgt := 90) hx hb dX4_readFact_67 (by decide) (fun c67 => ?_) (fun c67 => ?_)
            · have r67tp : iv x60 0 0 := (iv_both (iv_any x60) (iv_eq (show iv 0 0 0 from ⟨by decide, by decide⟩) c67)).mono (by decide) (by decide)
              exact J90 H60 locs60 hw _ (lv_sub hl [] rfl)
            · refine lv_aload_n hx hb dX4_readFact_70 rfl (lv_at hl 2 rfl) ?_
              refine hp_callei (va_runV (As := []) (rest := []) ⟨hx, hb, hml, hown, hts⟩ (sX4_readSum l D T ap0 ip0) (cwV 0 hts gX4_readFact_X4_readSum rfl rfl rfl (by decide +kernel) ⟨Nat.le_of_ble_eq_true rfl, Nat.le_of_ble_eq_true rfl⟩) (hp_preV hG hw hp0 rfl trivial) rfl rfl hl.1 rfl (lv_room (Nat.le_of_ble_eq_true rfl)) dX4_readFact_71 ⟨Nat.zero_le _, Nat.zero_le _⟩) hw (fun x71 st71 t71 H71 locs71 eh71 eg71 bx71 hw => ?_)
              refine lv_if_eq (tgt := 90) hx hb dX4_readFact_74 (by decide) (fun c74 => ?_) (fun c74 => ?_)
              · have r74tp : iv x71 0 0 := (iv_both bx71 (iv_eq (show iv 0 0 0 from ⟨by decide, by decide⟩) c74)).mono (by decide) (by decide)
                exact J90 H71 locs71 hw _ (lv_sub hl [] rfl)
              · have r74fp : iv x71 1 1 := (iv_ne_lo c74 bx71 rfl).mono (by decide) (by decide)
                refine lv_aload_n hx hb dX4_readFact_77 rfl (lv_at hl 2 rfl) ?_
                refine lv_iload hx hb dX4_readFact_78 (lv_at hl 0 rfl) ?_
                refine hp_callei (va_runV (As := [.int x60]) (rest := []) ⟨hx, hb, hml, hown, hts⟩ (sX4_write l D T ap0 x60 ip0) (cwV 1 hts gX4_readFact_X4_write rfl rfl rfl (by decide +kernel) ⟨Nat.le_of_ble_eq_true rfl, Nat.le_of_ble_eq_true rfl⟩) (hp_preV hG hw hp0 rfl trivial) rfl rfl hl.1 rfl (lv_room (Nat.le_of_ble_eq_true rfl)) dX4_readFact_80 ⟨Nat.zero_le _, Nat.zero_le _⟩) hw (fun x80 st80 t80 H80 locs80 eh80 eg80 bx80 hw => ?_)
                refine lv_if_eq (tgt := 90) hx hb dX4_readFact_83 (by decide) (fun c83 => ?_) (fun c83 => ?_)
                · exact iv_abs2 c83 bx80 (show iv 0 0 0 from ⟨by decide, by decide⟩) (by decide)
                · refine lv_iconst (v := 1) hx hb dX4_readFact_86 (by decide) ?_
                  refine lv_goto (tgt := 91) hx hb dX4_readFact_87 (by decide) ?_
                  exact J91 (1 : Int32) (show iv 1 0 1 from ⟨by decide, by decide⟩) H80 locs80 hw _ (lv_sub hl [] rfl)
          · have r54fp : iv x51 0 0 := (iv_both bx51 (iv_eq (show iv 0 0 0 from ⟨by decide, by decide⟩) c54)).mono (by decide) (by decide)
            refine lv_iconst (v := 0) hx hb dX4_readFact_57 (by decide) ?_
            exact W.zret (v := 0) hx hb hr (iv_nz (show iv 0 0 1 from ⟨by decide, by decide⟩)) (fun t ht hW => ⟨some (.int 0), rfl, ⟨(0 : Int32), rfl, (show iv 0 0 1 from ⟨by decide, by decide⟩)⟩, by rw [ht]; exact hw.1, hw.2.F ht⟩) hw.2.2.2 dX4_readFact_58
    have J40 : iv xp1 10 10 → iv y18_s0 0 1 → ∀ (H : Heap) (locs : List Loc), hp_w D T s H locs → ∀ (ls : Array Slot), lv_has ls 5 [(0, .ref ap0), (1, .int xp1), (2, .int y18_s0)] → WX4_readFact_10 p l e s m below meth c D T ap0 xp1 H locs (F0 m 40 ls []) := by
      intro c40_xp1 c40_y18_s0 H40 locs40 hw ls hl
      refine lv_iconst (v := 0) hx hb dX4_readFact_40 (by decide) ?_
      exact J41 (0 : Int32) c40_xp1 c40_y18_s0 (show iv 0 0 1 from ⟨by decide, by decide⟩) H40 locs40 hw _ (lv_sub hl [0, 1, 2] rfl)
    refine lv_if_ne (tgt := 40) hx hb dX4_readFact_20 (by decide) (fun c20 => ?_) (fun c20 => ?_)
    · have r20tp : iv y18_s0 1 1 := (iv_ne_lo c20 c18_y18_s0 rfl).mono (by decide) (by decide)
      exact J40 c18_xp1 (r20tp.mono (by decide) (by decide)) H18 locs18 hw _ (lv_sub hl [1, 2, 0] rfl)
    · have r20fp : iv y18_s0 0 0 := (iv_both c18_y18_s0 (iv_eq (show iv 0 0 0 from ⟨by decide, by decide⟩) c20)).mono (by decide) (by decide)
      refine lv_aload_n hx hb dX4_readFact_23 rfl (lv_at hl 1 rfl) ?_
      refine hp_getr hx hb hts IX4 hown hK hw.1 hp0 rfl 0 (by decide) L26 rfl dX4_readFact_24 ?_
      refine va_ldcS hx hb hown hG.2.2.1.2.2.2.2.2.2.2.2.2.1 dX4_readFact_27 ?_
      refine hp_callei (va_runV (As := [.ref (D.2.2.1 9)]) (rest := []) ⟨hx, hb, hml, hown, hts⟩ (sX7_takeWord l D T ap0tp 9 ip0tp (by decide)) (cwV 1 hts gX4_readFact_X7_takeWord rfl rfl rfl (by decide +kernel) ⟨Nat.le_of_ble_eq_true rfl, Nat.le_of_ble_eq_true rfl⟩) (hp_preV hG hw hp0tp rfl trivial) rfl rfl hl.1 rfl (lv_room (Nat.le_of_ble_eq_true rfl)) dX4_readFact_29 ⟨Nat.zero_le _, Nat.zero_le _⟩) hw (fun x29 st29 t29 H29 locs29 eh29 eg29 bx29 hw => ?_)
      refine lv_iconst (v := (-1)) hx hb dX4_readFact_32 (by decide) ?_
      refine lv_icmp_eq (tgt := 40) hx hb dX4_readFact_33 (by decide) (fun c33 => ?_) (fun c33 => ?_)
      · have r33tp : iv x29 (-1) (-1) := (iv_both (iv_any x29) (iv_eq (show iv (-1) (-1) (-1) from ⟨by decide, by decide⟩) c33)).mono (by decide) (by decide)
        exact J40 c18_xp1 (r20fp.mono (by decide) (by decide)) H29 locs29 hw _ (lv_sub hl [1, 2, 0] rfl)
      · refine lv_iconst (v := 1) hx hb dX4_readFact_36 (by decide) ?_
        refine lv_goto (tgt := 41) hx hb dX4_readFact_37 (by decide) ?_
        exact J41 (1 : Int32) c18_xp1 (r20fp.mono (by decide) (by decide)) (show iv 1 0 1 from ⟨by decide, by decide⟩) H29 locs29 hw _ (lv_sub hl [1, 2, 0] rfl)
  refine lv_icmp_eq (tgt := 17) hx hb dX4_readFact_10 (by decide) (fun c10 => ?_) (fun c10 => ?_)
  · have r10tp : iv x6 (-1) (-1) := (iv_both (iv_any x6) (iv_eq (show iv (-1) (-1) (-1) from ⟨by decide, by decide⟩) c10)).mono (by decide) (by decide)
    refine lv_iconst (v := 0) hx hb dX4_readFact_17 (by decide) ?_
    exact J18 (0 : Int32) bp1 (show iv 0 0 1 from ⟨by decide, by decide⟩) H6 locs6 hw _ (lv_sub hl [0, 1] rfl)
  · refine lv_iconst (v := 1) hx hb dX4_readFact_13 (by decide) ?_
    refine lv_goto (tgt := 18) hx hb dX4_readFact_14 (by decide) ?_
    exact J18 (1 : Int32) bp1 (show iv 1 0 1 from ⟨by decide, by decide⟩) H6 locs6 hw _ (lv_sub hl [0, 1] rfl)
abbrev WX4_readTest_10 (p : Program) (l : Launch) (e : Env) (s : State) (m : MethodId) (below : List Frame) (meth : Method) (c : Code) (D : hp_D) (T : hp_T) (ap0 : Nat) (xp1 : Int32) (H : Heap) (locs : List Loc) (g : JFrame) : Prop := W p l e (headSpec wsX4_readTest ({ frames := 8, cells := 0, slots := 0, locals := 199 })).room s m ([.ref ap0, .int xp1] : List Value).toArray below meth c H locs 0 0 (MQ below (hq_e D T (fun v _ _ => ∃ r : Int32, v = some (.int r) ∧ iv r 0 1)) ([.ref ap0, .int xp1] : List Value).toArray s 0 0 (hp_F T)) g
set_option maxHeartbeats 4000000 in
set_option maxRecDepth 100000 in
theorem sX4_readTest_10 (l : Launch) (D : hp_D) (T : hp_T) (ap0 : Nat) (xp1 : Int32) (ip0 : isRuleReader T ap0) (bp1 : iv xp1 10 10) : Met l yX4_readTest wsX4_readTest ({ frames := 8, cells := 0, slots := 0, locals := 199 }) (hp_Pc D T [.ref ap0, .int xp1] (fun _ => True)) (hq_e D T (fun v _ _ => ∃ r : Int32, v = some (.int r) ∧ iv r 0 1)) 0 0 (hp_F T) := by
  obtain ⟨ap0tp, ap0stp, hp0, ip0tp, hp0stp⟩ := id ip0
  obtain ⟨ap0tpbt, hp0tp, hp0tpbt⟩ := id ip0tp
  refine Met.ofW (cc := cX4_readTest) (maxL := 6) (ret := (some .boolean)) (by decide) rfl ?_
  intro p e s m args below meth c s₁ B hml hv
  obtain ⟨rfl, hok, hG, hB⟩ := hv
  have hx := B.exec
  have hb := B.bytes
  have hr := B.returns
  have hts := atoms_spec (ws := wsX4_readTest) B.pre
  have hown : s.vm.findClass RX4 = some m.cls := findClass_of_methodNamed B.named
  have hlocks := B.notSynchronized
  have hK := hG.1
  have hw : hp_w D T s s.heap [] := hp_w.rf hok
  have IX4 : ∀ w ∈ wsX40, w ∈ wsX4_readTest := by decide +kernel
  have L26 := hts (.fieldLink RX4 26 "PalmCensus$RuleReader" "tape" "LPalmCensus$Tape;") (by decide +kernel)
  have hl := lv_entry ([.ref ap0, .int xp1]) (n := 6) (Nat.le_of_ble_eq_true rfl)
  rw [lg_entry_eq]
  generalize (lg_sl ([.ref ap0, .int xp1]) ++ List.replicate (6 - (lg_sl ([.ref ap0, .int xp1])).length) Slot.unset).toArray = ls at hl ⊢
  have hl : lv_has ls 6 [(0, .ref ap0), (1, .int xp1)] := hl
  show WX4_readTest_10 p l e s m below meth c D T ap0 xp1 s.heap [] (F0 m 0 ls [])
  refine lv_aload_n hx hb dX4_readTest_0 rfl (lv_at hl 0 rfl) ?_
  refine lv_iload_n hx hb dX4_readTest_1 rfl (lv_at hl 1 rfl) ?_
  refine hp_callei (va_runV (As := [.int xp1]) (rest := []) ⟨hx, hb, hml, hown, hts⟩ (sX4_readFact_10 l D T ap0 xp1 ip0 bp1) (cwV 1 hts gX4_readTest_X4_readFact rfl rfl rfl (by decide +kernel) ⟨Nat.le_of_ble_eq_true rfl, Nat.le_of_ble_eq_true rfl⟩) (hp_preV hG hw hp0 rfl trivial) rfl rfl hl.1 rfl (lv_room (Nat.le_of_ble_eq_true rfl)) dX4_readTest_2 ⟨Nat.zero_le _, Nat.zero_le _⟩) hw (fun x2 st2 t2 H2 locs2 eh2 eg2 bx2 hw => ?_)
  refine lv_if_ne (tgt := 10) hx hb dX4_readTest_5 (by decide) (fun c5 => ?_) (fun c5 => ?_)
  · have r5tp : iv x2 1 1 := (iv_ne_lo c5 bx2 rfl).mono (by decide) (by decide)
    refine lv_iconst (v := 0) hx hb dX4_readTest_10 (by decide) ?_
    refine lv_istore_n (lv' := [(2, .int 0), (0, .ref ap0), (1, .int xp1)]) hx hb dX4_readTest_11 rfl hl (by decide) rfl (fun ls hl => ?_)
    refine lv_iconst (v := 0) hx hb dX4_readTest_12 (by decide) ?_
    refine lv_istore_n (lv' := [(3, .int 0), (2, .int 0), (0, .ref ap0), (1, .int xp1)]) hx hb dX4_readTest_13 rfl hl (by decide) rfl (fun ls hl => ?_)
    have J14 : ∀ (n : Nat) (y14_l2 y14_l3 : Int32), (400 - y14_l3.toInt).toNat < n → iv xp1 10 10 → iv y14_l2 0 1 → iv y14_l3 0 400 → ∀ (H : Heap) (locs : List Loc), hp_w D T s H locs → ∀ (ls : Array Slot), lv_has ls 6 [(0, .ref ap0), (1, .int xp1), (2, .int y14_l2), (3, .int y14_l3)] → WX4_readTest_10 p l e s m below meth c D T ap0 xp1 H locs (F0 m 14 ls []) := by
      intro n
      induction n with
      | zero => intro y14_l2 y14_l3 hmu14 c14_xp1 c14_y14_l2 c14_y14_l3 H14 locs14 hw ls hl; exact absurd hmu14 (Nat.not_lt_zero _)
      | succ n ih14 =>
        intro y14_l2 y14_l3 hmu14 c14_xp1 c14_y14_l2 c14_y14_l3 H14 locs14 hw ls hl
        refine lv_iload_n hx hb dX4_readTest_14 rfl (lv_at hl 3 rfl) ?_
        refine lv_sipush (v := 400) hx hb dX4_readTest_15 (by decide) ?_
        have J103 : iv y14_l2 0 1 → ∀ (H : Heap) (locs : List Loc), hp_w D T s H locs → ∀ (ls : Array Slot), lv_has ls 6 [(0, .ref ap0), (2, .int y14_l2)] → WX4_readTest_10 p l e s m below meth c D T ap0 xp1 H locs (F0 m 103 ls []) := by
          intro c103_y14_l2 H103 locs103 hw ls hl
          refine lv_iload_n hx hb dX4_readTest_103 rfl (lv_at hl 1 rfl) ?_
          have J121 : ∀ (H : Heap) (locs : List Loc), hp_w D T s H locs → ∀ (ls : Array Slot), lv_has ls 6 [] → WX4_readTest_10 p l e s m below meth c D T ap0 xp1 H locs (F0 m 121 ls [.int 1]) := by
            intro H121 locs121 hw ls hl
            exact W.zret (v := 1) hx hb hr (iv_nz (show iv 1 0 1 from ⟨by decide, by decide⟩)) (fun t ht hW => ⟨some (.int 1), rfl, ⟨(1 : Int32), rfl, (show iv 1 0 1 from ⟨by decide, by decide⟩)⟩, by rw [ht]; exact hw.1, hw.2.F ht⟩) hw.2.2.2 dX4_readTest_121
          have J116 : ∀ (H : Heap) (locs : List Loc), hp_w D T s H locs → ∀ (ls : Array Slot), lv_has ls 6 [] → WX4_readTest_10 p l e s m below meth c D T ap0 xp1 H locs (F0 m 116 ls []) := by
            intro H116 locs116 hw ls hl
            refine lv_iconst (v := 1) hx hb dX4_readTest_116 (by decide) ?_
            refine lv_goto (tgt := 121) hx hb dX4_readTest_117 (by decide) ?_
            exact J121 H116 locs116 hw _ (lv_sub hl [] rfl)
          refine lv_if_eq (tgt := 116) hx hb dX4_readTest_104 (by decide) (fun c104 => ?_) (fun c104 => ?_)
          · have r104tp : iv y14_l2 0 0 := (iv_both c103_y14_l2 (iv_eq (show iv 0 0 0 from ⟨by decide, by decide⟩) c104)).mono (by decide) (by decide)
            exact J116 H103 locs103 hw _ (lv_sub hl [] rfl)
          · have r104fp : iv y14_l2 1 1 := (iv_ne_lo c104 c103_y14_l2 rfl).mono (by decide) (by decide)
            refine lv_aload_n hx hb dX4_readTest_107 rfl (lv_at hl 0 rfl) ?_
            refine lv_bipush (v := (-42)) hx hb dX4_readTest_108 (by decide) ?_
            refine hp_callei (va_runV (As := [.int (-42)]) (rest := []) ⟨hx, hb, hml, hown, hts⟩ (sX4_write l D T ap0 ((-42) : Int32) ip0) (cwV 1 hts gX4_readTest_X4_write rfl rfl rfl (by decide +kernel) ⟨Nat.le_of_ble_eq_true rfl, Nat.le_of_ble_eq_true rfl⟩) (hp_preV hG hw hp0 rfl trivial) rfl rfl hl.1 rfl (lv_room (Nat.le_of_ble_eq_true rfl)) dX4_readTest_110 ⟨Nat.zero_le _, Nat.zero_le _⟩) hw (fun x110 st110 t110 H110 locs110 eh110 eg110 bx110 hw => ?_)
            refine lv_if_eq (tgt := 120) hx hb dX4_readTest_113 (by decide) (fun c113 => ?_) (fun c113 => ?_)
            · exact iv_abs2 c113 bx110 (show iv 0 0 0 from ⟨by decide, by decide⟩) (by decide)
            · exact J116 H110 locs110 hw _ (lv_sub hl [] rfl)
        refine lv_icmp_ge (tgt := 103) hx hb dX4_readTest_18 (by decide) (fun c18 => ?_) (fun c18 => ?_)
        · have r18tq : iv y14_l3 400 400 := (iv_le_r c18 (show iv 400 400 400 from ⟨by decide, by decide⟩) c14_y14_l3).mono (by decide) (by decide)
          exact J103 c14_y14_l2 H14 locs14 hw _ (lv_sub hl [0, 2] rfl)
        · have r18fp : iv y14_l3 0 399 := (iv_lt_l (iv_nle c18) c14_y14_l3 (show iv 400 400 400 from ⟨by decide, by decide⟩)).mono (by decide) (by decide)
          refine lv_aload_n hx hb dX4_readTest_21 rfl (lv_at hl 0 rfl) ?_
          refine hp_getr hx hb hts IX4 hown hK hw.1 hp0 rfl 0 (by decide) L26 rfl dX4_readTest_22 ?_
          refine va_ldcS hx hb hown hG.2.2.1.2.2.2.2.2.2.2.1 dX4_readTest_25 ?_
          refine hp_callei (va_runV (As := [.ref (D.2.2.1 7)]) (rest := []) ⟨hx, hb, hml, hown, hts⟩ (sX7_takeWord l D T ap0tp 7 ip0tp (by decide)) (cwV 1 hts gX4_readTest_X7_takeWord rfl rfl rfl (by decide +kernel) ⟨Nat.le_of_ble_eq_true rfl, Nat.le_of_ble_eq_true rfl⟩) (hp_preV hG hw hp0tp rfl trivial) rfl rfl hl.1 rfl (lv_room (Nat.le_of_ble_eq_true rfl)) dX4_readTest_27 ⟨Nat.zero_le _, Nat.zero_le _⟩) hw (fun x27 st27 t27 H27 locs27 eh27 eg27 bx27 hw => ?_)
          refine lv_istore (lv' := [(4, .int x27), (0, .ref ap0), (1, .int xp1), (2, .int y14_l2), (3, .int y14_l3)]) hx hb dX4_readTest_30 hl (by decide) rfl (fun ls hl => ?_)
          refine lv_iload hx hb dX4_readTest_32 (lv_at hl 0 rfl) ?_
          refine lv_iconst (v := (-1)) hx hb dX4_readTest_34 (by decide) ?_
          refine lv_icmp_ne (tgt := 41) hx hb dX4_readTest_35 (by decide) (fun c35 => ?_) (fun c35 => ?_)
          · refine lv_iload hx hb dX4_readTest_41 (lv_at hl 0 rfl) ?_
            refine lv_iconst (v := 1) hx hb dX4_readTest_43 (by decide) ?_
            have J52 : ∀ (y52_s0 : Int32), iv xp1 10 10 → iv y14_l2 0 1 → iv y14_l3 0 399 → iv y52_s0 0 1 → ∀ (H : Heap) (locs : List Loc), hp_w D T s H locs → ∀ (ls : Array Slot), lv_has ls 6 [(0, .ref ap0), (1, .int xp1), (2, .int y14_l2), (3, .int y14_l3)] → WX4_readTest_10 p l e s m below meth c D T ap0 xp1 H locs (F0 m 52 ls [.int y52_s0]) := by
              intro y52_s0 c52_xp1 c52_y14_l2 c52_y14_l3 c52_y52_s0 H52 locs52 hw ls hl
              refine lv_istore (lv' := [(5, .int y52_s0), (0, .ref ap0), (1, .int xp1), (2, .int y14_l2), (3, .int y14_l3)]) hx hb dX4_readTest_52 hl (by decide) rfl (fun ls hl => ?_)
              refine lv_iload hx hb dX4_readTest_54 (lv_at hl 0 rfl) ?_
              have J70 : iv xp1 10 10 → iv y14_l2 0 1 → iv y14_l3 0 399 → iv y52_s0 0 1 → ∀ (H : Heap) (locs : List Loc), hp_w D T s H locs → ∀ (ls : Array Slot), lv_has ls 6 [(0, .ref ap0), (1, .int xp1), (2, .int y14_l2), (3, .int y14_l3), (5, .int y52_s0)] → WX4_readTest_10 p l e s m below meth c D T ap0 xp1 H locs (F0 m 70 ls []) := by
                intro c70_xp1 c70_y14_l2 c70_y14_l3 c70_y52_s0 H70 locs70 hw ls hl
                refine lv_iload_n hx hb dX4_readTest_70 rfl (lv_at hl 2 rfl) ?_
                refine lv_iload hx hb dX4_readTest_71 (lv_at hl 4 rfl) ?_
                refine lv_ior hx hb dX4_readTest_73 ?_
                refine lv_topi (fun x73 ex73 => ?_)
                have bx73 : iv x73 0 1 := iv_or 1 c70_y14_l2 c70_y52_s0 ex73 (by decide) (by decide)
                refine lv_istore_n (lv' := [(2, .int x73), (0, .ref ap0), (1, .int xp1), (3, .int y14_l3), (5, .int y52_s0)]) hx hb dX4_readTest_74 rfl hl (by decide) rfl (fun ls hl => ?_)
                refine lv_aload_n hx hb dX4_readTest_75 rfl (lv_at hl 1 rfl) ?_
                refine lv_iload_n hx hb dX4_readTest_76 rfl (lv_at hl 2 rfl) ?_
                refine hp_callei (va_runV (As := [.int xp1]) (rest := []) ⟨hx, hb, hml, hown, hts⟩ (sX4_readFact_10 l D T ap0 xp1 ip0 c70_xp1) (cwV 1 hts gX4_readTest_X4_readFact rfl rfl rfl (by decide +kernel) ⟨Nat.le_of_ble_eq_true rfl, Nat.le_of_ble_eq_true rfl⟩) (hp_preV hG hw hp0 rfl trivial) rfl rfl hl.1 rfl (lv_room (Nat.le_of_ble_eq_true rfl)) dX4_readTest_77 ⟨Nat.zero_le _, Nat.zero_le _⟩) hw (fun x77 st77 t77 H77 locs77 eh77 eg77 bx77 hw => ?_)
                refine lv_if_ne (tgt := 85) hx hb dX4_readTest_80 (by decide) (fun c80 => ?_) (fun c80 => ?_)
                · have r80tp : iv x77 1 1 := (iv_ne_lo c80 bx77 rfl).mono (by decide) (by decide)
                  refine lv_iload hx hb dX4_readTest_85 (lv_at hl 4 rfl) ?_
                  have J97 : iv xp1 10 10 → iv x73 0 1 → iv y14_l3 0 399 → ∀ (H : Heap) (locs : List Loc), hp_w D T s H locs → ∀ (ls : Array Slot), lv_has ls 6 [(0, .ref ap0), (1, .int xp1), (2, .int x73), (3, .int y14_l3)] → WX4_readTest_10 p l e s m below meth c D T ap0 xp1 H locs (F0 m 97 ls []) := by
                    intro c97_xp1 c97_x73 c97_y14_l3 H97 locs97 hw ls hl
                    obtain ⟨x97, ex97⟩ : ∃ y : Int32, y = y14_l3 + 1 := ⟨_, rfl⟩
                    have bx97 : iv x97 1 400 := iv_add c97_y14_l3 (show iv 1 1 1 from ⟨by decide, by decide⟩) ex97 (by decide)
                    have qx97 := iv_add_eq c97_y14_l3 (show iv 1 1 1 from ⟨by decide, by decide⟩) ex97 (by decide)
                    refine lv_iinc (v := x97) (lv' := [(3, .int x97), (0, .ref ap0), (1, .int xp1), (2, .int x73)]) hx hb dX4_readTest_97 hl (k := 3) rfl (by rw [ex97]; rfl) (by decide) rfl (fun ls hl => ?_)
                    refine lv_goto (tgt := 14) hx hb dX4_readTest_100 (by decide) ?_
                    exact ih14 x73 x97 (mu_up 1 hmu14 (qx97) (by decide) (show iv x97 0 400 from (bx97.mono (by decide) (by decide))).2) c97_xp1 c97_x73 (bx97.mono (by decide) (by decide)) H97 locs97 hw _ (lv_sub hl [1, 2, 3, 0] rfl)
                  refine lv_if_ne (tgt := 97) hx hb dX4_readTest_87 (by decide) (fun c87 => ?_) (fun c87 => ?_)
                  · have r87tp : iv y52_s0 1 1 := (iv_ne_lo c87 c70_y52_s0 rfl).mono (by decide) (by decide)
                    exact J97 c70_xp1 bx73 c70_y14_l3 H77 locs77 hw _ (lv_sub hl [1, 2, 0, 3] rfl)
                  · have r87fp : iv y52_s0 0 0 := (iv_both c70_y52_s0 (iv_eq (show iv 0 0 0 from ⟨by decide, by decide⟩) c87)).mono (by decide) (by decide)
                    refine lv_aload_n hx hb dX4_readTest_90 rfl (lv_at hl 1 rfl) ?_
                    refine lv_bipush (v := (-41)) hx hb dX4_readTest_91 (by decide) ?_
                    refine hp_callei (va_runV (As := [.int (-41)]) (rest := []) ⟨hx, hb, hml, hown, hts⟩ (sX4_write l D T ap0 ((-41) : Int32) ip0) (cwV 1 hts gX4_readTest_X4_write rfl rfl rfl (by decide +kernel) ⟨Nat.le_of_ble_eq_true rfl, Nat.le_of_ble_eq_true rfl⟩) (hp_preV hG hw hp0 rfl trivial) rfl rfl hl.1 rfl (lv_room (Nat.le_of_ble_eq_true rfl)) dX4_readTest_93 ⟨Nat.zero_le _, Nat.zero_le _⟩) hw (fun x93 st93 t93 H93 locs93 eh93 eg93 bx93 hw => ?_)
                    refine lv_pop hx hb dX4_readTest_96 rfl ?_
                    exact J97 c70_xp1 bx73 c70_y14_l3 H93 locs93 hw _ (lv_sub hl [1, 2, 0, 3] rfl)
                · have r80fp : iv x77 0 0 := (iv_both bx77 (iv_eq (show iv 0 0 0 from ⟨by decide, by decide⟩) c80)).mono (by decide) (by decide)
                  refine lv_iconst (v := 0) hx hb dX4_readTest_83 (by decide) ?_
                  exact W.zret (v := 0) hx hb hr (iv_nz (show iv 0 0 1 from ⟨by decide, by decide⟩)) (fun t ht hW => ⟨some (.int 0), rfl, ⟨(0 : Int32), rfl, (show iv 0 0 1 from ⟨by decide, by decide⟩)⟩, by rw [ht]; exact hw.1, hw.2.F ht⟩) hw.2.2.2 dX4_readTest_84
              refine lv_if_eq (tgt := 70) hx hb dX4_readTest_56 (by decide) (fun c56 => ?_) (fun c56 => ?_)
              · have r56tp : iv y52_s0 0 0 := (iv_both c52_y52_s0 (iv_eq (show iv 0 0 0 from ⟨by decide, by decide⟩) c56)).mono (by decide) (by decide)
                exact J70 c52_xp1 c52_y14_l2 c52_y14_l3 (r56tp.mono (by decide) (by decide)) H52 locs52 hw _ (lv_sub hl [1, 2, 3, 4, 0] rfl)
              · have r56fp : iv y52_s0 1 1 := (iv_ne_lo c56 c52_y52_s0 rfl).mono (by decide) (by decide)
                refine lv_iload_n hx hb dX4_readTest_59 rfl (lv_at hl 3 rfl) ?_
                refine lv_if_eq (tgt := 70) hx hb dX4_readTest_60 (by decide) (fun c60 => ?_) (fun c60 => ?_)
                · have r60tp : iv y14_l2 0 0 := (iv_both c52_y14_l2 (iv_eq (show iv 0 0 0 from ⟨by decide, by decide⟩) c60)).mono (by decide) (by decide)
                  exact J70 c52_xp1 (r60tp.mono (by decide) (by decide)) c52_y14_l3 (r56fp.mono (by decide) (by decide)) H52 locs52 hw _ (lv_sub hl [1, 2, 3, 4, 0] rfl)
                · have r60fp : iv y14_l2 1 1 := (iv_ne_lo c60 c52_y14_l2 rfl).mono (by decide) (by decide)
                  refine lv_aload_n hx hb dX4_readTest_63 rfl (lv_at hl 1 rfl) ?_
                  refine lv_bipush (v := (-42)) hx hb dX4_readTest_64 (by decide) ?_
                  refine hp_callei (va_runV (As := [.int (-42)]) (rest := []) ⟨hx, hb, hml, hown, hts⟩ (sX4_write l D T ap0 ((-42) : Int32) ip0) (cwV 1 hts gX4_readTest_X4_write rfl rfl rfl (by decide +kernel) ⟨Nat.le_of_ble_eq_true rfl, Nat.le_of_ble_eq_true rfl⟩) (hp_preV hG hw hp0 rfl trivial) rfl rfl hl.1 rfl (lv_room (Nat.le_of_ble_eq_true rfl)) dX4_readTest_66 ⟨Nat.zero_le _, Nat.zero_le _⟩) hw (fun x66 st66 t66 H66 locs66 eh66 eg66 bx66 hw => ?_)
                  refine lv_pop hx hb dX4_readTest_69 rfl ?_
                  exact J70 c52_xp1 (r60fp.mono (by decide) (by decide)) c52_y14_l3 (r56fp.mono (by decide) (by decide)) H66 locs66 hw _ (lv_sub hl [1, 2, 3, 4, 0] rfl)
            refine lv_icmp_ne (tgt := 51) hx hb dX4_readTest_44 (by decide) (fun c44 => ?_) (fun c44 => ?_)
            · refine lv_iconst (v := 0) hx hb dX4_readTest_51 (by decide) ?_
              exact J52 (0 : Int32) c14_xp1 c14_y14_l2 r18fp (show iv 0 0 1 from ⟨by decide, by decide⟩) H27 locs27 hw _ (lv_sub hl [1, 2, 3, 4] rfl)
            · have r44fp : iv x27 1 1 := (iv_both (iv_any x27) (iv_eq (show iv 1 1 1 from ⟨by decide, by decide⟩) c44)).mono (by decide) (by decide)
              refine lv_iconst (v := 1) hx hb dX4_readTest_47 (by decide) ?_
              refine lv_goto (tgt := 52) hx hb dX4_readTest_48 (by decide) ?_
              exact J52 (1 : Int32) c14_xp1 c14_y14_l2 r18fp (show iv 1 0 1 from ⟨by decide, by decide⟩) H27 locs27 hw _ (lv_sub hl [1, 2, 3, 4] rfl)
          · have r35fp : iv x27 (-1) (-1) := (iv_both (iv_any x27) (iv_eq (show iv (-1) (-1) (-1) from ⟨by decide, by decide⟩) c35)).mono (by decide) (by decide)
            refine lv_goto (tgt := 103) hx hb dX4_readTest_38 (by decide) ?_
            exact J103 c14_y14_l2 H27 locs27 hw _ (lv_sub hl [1, 3] rfl)
    exact J14 _ (0 : Int32) (0 : Int32) (Nat.lt_succ_self _) bp1 (show iv 0 0 1 from ⟨by decide, by decide⟩) (show iv 0 0 400 from ⟨by decide, by decide⟩) H2 locs2 hw _ (lv_sub hl [2, 3, 1, 0] rfl)
  · have r5fp : iv x2 0 0 := (iv_both bx2 (iv_eq (show iv 0 0 0 from ⟨by decide, by decide⟩) c5)).mono (by decide) (by decide)
    refine lv_iconst (v := 0) hx hb dX4_readTest_8 (by decide) ?_
    exact W.zret (v := 0) hx hb hr (iv_nz (show iv 0 0 1 from ⟨by decide, by decide⟩)) (fun t ht hW => ⟨some (.int 0), rfl, ⟨(0 : Int32), rfl, (show iv 0 0 1 from ⟨by decide, by decide⟩)⟩, by rw [ht]; exact hw.1, hw.2.F ht⟩) hw.2.2.2 dX4_readTest_9
abbrev WX4_readFact_9 (p : Program) (l : Launch) (e : Env) (s : State) (m : MethodId) (below : List Frame) (meth : Method) (c : Code) (D : hp_D) (T : hp_T) (ap0 : Nat) (xp1 : Int32) (H : Heap) (locs : List Loc) (g : JFrame) : Prop := W p l e (headSpec wsX4_readFact ({ frames := 9, cells := 0, slots := 0, locals := 224 })).room s m ([.ref ap0, .int xp1] : List Value).toArray below meth c H locs 0 0 (MQ below (hq_e D T (fun v _ _ => ∃ r : Int32, v = some (.int r) ∧ iv r 0 1)) ([.ref ap0, .int xp1] : List Value).toArray s 0 0 (hp_F T)) g
set_option maxHeartbeats 4000000 in
set_option maxRecDepth 100000 in
theorem sX4_readFact_9 (l : Launch) (D : hp_D) (T : hp_T) (ap0 : Nat) (xp1 : Int32) (ip0 : isRuleReader T ap0) (bp1 : iv xp1 9 9) : Met l yX4_readFact wsX4_readFact ({ frames := 9, cells := 0, slots := 0, locals := 224 }) (hp_Pc D T [.ref ap0, .int xp1] (fun _ => True)) (hq_e D T (fun v _ _ => ∃ r : Int32, v = some (.int r) ∧ iv r 0 1)) 0 0 (hp_F T) := by
  obtain ⟨ap0tp, ap0stp, hp0, ip0tp, hp0stp⟩ := id ip0
  obtain ⟨ap0tpbt, hp0tp, hp0tpbt⟩ := id ip0tp
  refine Met.ofW (cc := cX4_readFact) (maxL := 5) (ret := (some .boolean)) (by decide) rfl ?_
  intro p e s m args below meth c s₁ B hml hv
  obtain ⟨rfl, hok, hG, hB⟩ := hv
  have hx := B.exec
  have hb := B.bytes
  have hr := B.returns
  have hts := atoms_spec (ws := wsX4_readFact) B.pre
  have hown : s.vm.findClass RX4 = some m.cls := findClass_of_methodNamed B.named
  have hlocks := B.notSynchronized
  have hK := hG.1
  have hw : hp_w D T s s.heap [] := hp_w.rf hok
  have IX4 : ∀ w ∈ wsX40, w ∈ wsX4_readFact := by decide +kernel
  have L26 := hts (.fieldLink RX4 26 "PalmCensus$RuleReader" "tape" "LPalmCensus$Tape;") (by decide +kernel)
  have hl := lv_entry ([.ref ap0, .int xp1]) (n := 5) (Nat.le_of_ble_eq_true rfl)
  rw [lg_entry_eq]
  generalize (lg_sl ([.ref ap0, .int xp1]) ++ List.replicate (5 - (lg_sl ([.ref ap0, .int xp1])).length) Slot.unset).toArray = ls at hl ⊢
  have hl : lv_has ls 5 [(0, .ref ap0), (1, .int xp1)] := hl
  show WX4_readFact_9 p l e s m below meth c D T ap0 xp1 s.heap [] (F0 m 0 ls [])
  refine lv_aload_n hx hb dX4_readFact_0 rfl (lv_at hl 0 rfl) ?_
  refine hp_getr hx hb hts IX4 hown hK hw.1 hp0 rfl 0 (by decide) L26 rfl dX4_readFact_1 ?_
  refine va_ldcS hx hb hown hG.2.2.1.2.2.2.2.2.2.2.2.1 dX4_readFact_4 ?_
  refine hp_callei (va_runV (As := [.ref (D.2.2.1 8)]) (rest := []) ⟨hx, hb, hml, hown, hts⟩ (sX7_takeSignOf l D T ap0tp 8 ip0tp (by decide)) (cwV 1 hts gX4_readFact_X7_takeSignOf rfl rfl rfl (by decide +kernel) ⟨Nat.le_of_ble_eq_true rfl, Nat.le_of_ble_eq_true rfl⟩) (hp_preV hG hw hp0tp rfl trivial) rfl rfl hl.1 rfl (lv_room (Nat.le_of_ble_eq_true rfl)) dX4_readFact_6 ⟨Nat.zero_le _, Nat.zero_le _⟩) hw (fun x6 st6 t6 H6 locs6 eh6 eg6 bx6 hw => ?_)
  refine lv_iconst (v := (-1)) hx hb dX4_readFact_9 (by decide) ?_
  have J18 : ∀ (y18_s0 : Int32), iv xp1 9 9 → iv y18_s0 0 1 → ∀ (H : Heap) (locs : List Loc), hp_w D T s H locs → ∀ (ls : Array Slot), lv_has ls 5 [(0, .ref ap0), (1, .int xp1)] → WX4_readFact_9 p l e s m below meth c D T ap0 xp1 H locs (F0 m 18 ls [.int y18_s0]) := by
    intro y18_s0 c18_xp1 c18_y18_s0 H18 locs18 hw ls hl
    refine lv_istore_n (lv' := [(2, .int y18_s0), (0, .ref ap0), (1, .int xp1)]) hx hb dX4_readFact_18 rfl hl (by decide) rfl (fun ls hl => ?_)
    refine lv_iload_n hx hb dX4_readFact_19 rfl (lv_at hl 0 rfl) ?_
    have J41 : ∀ (y41_s0 : Int32), iv xp1 9 9 → iv y18_s0 0 1 → iv y41_s0 0 1 → ∀ (H : Heap) (locs : List Loc), hp_w D T s H locs → ∀ (ls : Array Slot), lv_has ls 5 [(0, .ref ap0), (1, .int xp1), (2, .int y18_s0)] → WX4_readFact_9 p l e s m below meth c D T ap0 xp1 H locs (F0 m 41 ls [.int y41_s0]) := by
      intro y41_s0 c41_xp1 c41_y18_s0 c41_y41_s0 H41 locs41 hw ls hl
      refine lv_istore_n (lv' := [(3, .int y41_s0), (0, .ref ap0), (1, .int xp1), (2, .int y18_s0)]) hx hb dX4_readFact_41 rfl hl (by decide) rfl (fun ls hl => ?_)
      refine lv_iload_n hx hb dX4_readFact_42 rfl (lv_at hl 3 rfl) ?_
      have J92 : iv xp1 9 9 → iv y41_s0 0 1 → ∀ (H : Heap) (locs : List Loc), hp_w D T s H locs → ∀ (ls : Array Slot), lv_has ls 5 [(0, .ref ap0), (1, .int xp1), (3, .int y41_s0)] → WX4_readFact_9 p l e s m below meth c D T ap0 xp1 H locs (F0 m 92 ls []) := by
        intro c92_xp1 c92_y41_s0 H92 locs92 hw ls hl
        refine lv_iload_n hx hb dX4_readFact_92 rfl (lv_at hl 1 rfl) ?_
        refine lv_bipush (v := 10) hx hb dX4_readFact_93 (by decide) ?_
        refine lv_icmp_lt (tgt := 114) hx hb dX4_readFact_95 (by decide) (fun c95 => ?_) (fun c95 => ?_)
        · refine lv_iload_n hx hb dX4_readFact_114 rfl (lv_at hl 2 rfl) ?_
          refine lv_if_eq (tgt := 143) hx hb dX4_readFact_115 (by decide) (fun c115 => ?_) (fun c115 => ?_)
          · have r115tp : iv y41_s0 0 0 := (iv_both c92_y41_s0 (iv_eq (show iv 0 0 0 from ⟨by decide, by decide⟩) c115)).mono (by decide) (by decide)
            refine lv_aload_n hx hb dX4_readFact_143 rfl (lv_at hl 0 rfl) ?_
            refine lv_iload_n hx hb dX4_readFact_144 rfl (lv_at hl 1 rfl) ?_
            refine lv_iconst (v := 1) hx hb dX4_readFact_145 (by decide) ?_
            refine lv_iadd hx hb dX4_readFact_146 ?_
            refine lv_topi (fun x146 ex146 => ?_)
            have bx146 : iv x146 10 10 := iv_add c92_xp1 (show iv 1 1 1 from ⟨by decide, by decide⟩) ex146 (by decide)
            have qx146 := iv_add_eq c92_xp1 (show iv 1 1 1 from ⟨by decide, by decide⟩) ex146 (by decide)
            refine hp_callei (va_runV (As := [.int x146]) (rest := []) ⟨hx, hb, hml, hown, hts⟩ (sX4_readTest_10 l D T ap0 x146 ip0 bx146) (cwV 1 hts gX4_readFact_X4_readTest rfl rfl rfl (by decide +kernel) ⟨Nat.le_of_ble_eq_true rfl, Nat.le_of_ble_eq_true rfl⟩) (hp_preV hG hw hp0 rfl trivial) rfl rfl hl.1 rfl (lv_room (Nat.le_of_ble_eq_true rfl)) dX4_readFact_147 ⟨Nat.zero_le _, Nat.zero_le _⟩) hw (fun x147 st147 t147 H147 locs147 eh147 eg147 bx147 hw => ?_)
            have J170 : ∀ (y170_s0 : Int32), iv y170_s0 0 1 → ∀ (H : Heap) (locs : List Loc), hp_w D T s H locs → ∀ (ls : Array Slot), lv_has ls 5 [] → WX4_readFact_9 p l e s m below meth c D T ap0 xp1 H locs (F0 m 170 ls [.int y170_s0]) := by
              intro y170_s0 c170_y170_s0 H170 locs170 hw ls hl
              exact W.zret (v := y170_s0) hx hb hr (iv_nz c170_y170_s0) (fun t ht hW => ⟨some (.int y170_s0), rfl, ⟨y170_s0, rfl, c170_y170_s0⟩, by rw [ht]; exact hw.1, hw.2.F ht⟩) hw.2.2.2 dX4_readFact_170
            have J169 : ∀ (H : Heap) (locs : List Loc), hp_w D T s H locs → ∀ (ls : Array Slot), lv_has ls 5 [] → WX4_readFact_9 p l e s m below meth c D T ap0 xp1 H locs (F0 m 169 ls []) := by
              intro H169 locs169 hw ls hl
              refine lv_iconst (v := 0) hx hb dX4_readFact_169 (by decide) ?_
              exact J170 (0 : Int32) (show iv 0 0 1 from ⟨by decide, by decide⟩) H169 locs169 hw _ (lv_sub hl [] rfl)
            refine lv_if_eq (tgt := 169) hx hb dX4_readFact_150 (by decide) (fun c150 => ?_) (fun c150 => ?_)
            · have r150tp : iv x147 0 0 := (iv_both bx147 (iv_eq (show iv 0 0 0 from ⟨by decide, by decide⟩) c150)).mono (by decide) (by decide)
              exact J169 H147 locs147 hw _ (lv_sub hl [] rfl)
            · have r150fp : iv x147 1 1 := (iv_ne_lo c150 bx147 rfl).mono (by decide) (by decide)
              refine lv_aload_n hx hb dX4_readFact_153 rfl (lv_at hl 0 rfl) ?_
              refine hp_getr hx hb hts IX4 hown hK hw.1 hp0 rfl 0 (by decide) L26 rfl dX4_readFact_154 ?_
              refine va_ldcS hx hb hown hG.2.2.1.1 dX4_readFact_157 ?_
              refine hp_callei (va_runV (As := [.ref (D.2.2.1 0)]) (rest := []) ⟨hx, hb, hml, hown, hts⟩ (sX7_needSign l D T ap0tp 0 ip0tp (by decide)) (cwV 1 hts gX4_readFact_X7_needSign rfl rfl rfl (by decide +kernel) ⟨Nat.le_of_ble_eq_true rfl, Nat.le_of_ble_eq_true rfl⟩) (hp_preV hG hw hp0tp rfl trivial) rfl rfl hl.1 rfl (lv_room (Nat.le_of_ble_eq_true rfl)) dX4_readFact_159 ⟨Nat.zero_le _, Nat.zero_le _⟩) hw (fun x159 st159 t159 H159 locs159 eh159 eg159 bx159 hw => ?_)
              refine lv_if_eq (tgt := 169) hx hb dX4_readFact_162 (by decide) (fun c162 => ?_) (fun c162 => ?_)
              · have r162tp : iv x159 0 0 := (iv_both bx159 (iv_eq (show iv 0 0 0 from ⟨by decide, by decide⟩) c162)).mono (by decide) (by decide)
                exact J169 H159 locs159 hw _ (lv_sub hl [] rfl)
              · have r162fp : iv x159 1 1 := (iv_ne_lo c162 bx159 rfl).mono (by decide) (by decide)
                refine lv_iconst (v := 1) hx hb dX4_readFact_165 (by decide) ?_
                refine lv_goto (tgt := 170) hx hb dX4_readFact_166 (by decide) ?_
                exact J170 (1 : Int32) (show iv 1 0 1 from ⟨by decide, by decide⟩) H159 locs159 hw _ (lv_sub hl [] rfl)
          · have r115fp : iv y41_s0 1 1 := (iv_ne_lo c115 c92_y41_s0 rfl).mono (by decide) (by decide)
            refine lv_aload_n hx hb dX4_readFact_118 rfl (lv_at hl 0 rfl) ?_
            refine lv_iload_n hx hb dX4_readFact_119 rfl (lv_at hl 1 rfl) ?_
            refine lv_iconst (v := 1) hx hb dX4_readFact_120 (by decide) ?_
            refine lv_iadd hx hb dX4_readFact_121 ?_
            refine lv_topi (fun x121 ex121 => ?_)
            have bx121 : iv x121 10 10 := iv_add c92_xp1 (show iv 1 1 1 from ⟨by decide, by decide⟩) ex121 (by decide)
            have qx121 := iv_add_eq c92_xp1 (show iv 1 1 1 from ⟨by decide, by decide⟩) ex121 (by decide)
            refine hp_callei (va_runV (As := [.int x121]) (rest := []) ⟨hx, hb, hml, hown, hts⟩ (sX4_readFact_10 l D T ap0 x121 ip0 bx121) (cwV 1 hts gX4_readFact_X4_readFact rfl rfl rfl (by decide +kernel) ⟨Nat.le_of_ble_eq_true rfl, Nat.le_of_ble_eq_true rfl⟩) (hp_preV hG hw hp0 rfl trivial) rfl rfl hl.1 rfl (lv_room (Nat.le_of_ble_eq_true rfl)) dX4_readFact_122 ⟨Nat.zero_le _, Nat.zero_le _⟩) hw (fun x122 st122 t122 H122 locs122 eh122 eg122 bx122 hw => ?_)
            have J142 : ∀ (y142_s0 : Int32), iv y142_s0 0 1 → ∀ (H : Heap) (locs : List Loc), hp_w D T s H locs → ∀ (ls : Array Slot), lv_has ls 5 [] → WX4_readFact_9 p l e s m below meth c D T ap0 xp1 H locs (F0 m 142 ls [.int y142_s0]) := by
              intro y142_s0 c142_y142_s0 H142 locs142 hw ls hl
              exact W.zret (v := y142_s0) hx hb hr (iv_nz c142_y142_s0) (fun t ht hW => ⟨some (.int y142_s0), rfl, ⟨y142_s0, rfl, c142_y142_s0⟩, by rw [ht]; exact hw.1, hw.2.F ht⟩) hw.2.2.2 dX4_readFact_142
            have J141 : ∀ (H : Heap) (locs : List Loc), hp_w D T s H locs → ∀ (ls : Array Slot), lv_has ls 5 [] → WX4_readFact_9 p l e s m below meth c D T ap0 xp1 H locs (F0 m 141 ls []) := by
              intro H141 locs141 hw ls hl
              refine lv_iconst (v := 0) hx hb dX4_readFact_141 (by decide) ?_
              exact J142 (0 : Int32) (show iv 0 0 1 from ⟨by decide, by decide⟩) H141 locs141 hw _ (lv_sub hl [] rfl)
            refine lv_if_eq (tgt := 141) hx hb dX4_readFact_125 (by decide) (fun c125 => ?_) (fun c125 => ?_)
            · have r125tp : iv x122 0 0 := (iv_both bx122 (iv_eq (show iv 0 0 0 from ⟨by decide, by decide⟩) c125)).mono (by decide) (by decide)
              exact J141 H122 locs122 hw _ (lv_sub hl [] rfl)
            · have r125fp : iv x122 1 1 := (iv_ne_lo c125 bx122 rfl).mono (by decide) (by decide)
              refine lv_aload_n hx hb dX4_readFact_128 rfl (lv_at hl 0 rfl) ?_
              refine lv_bipush (v := (-43)) hx hb dX4_readFact_129 (by decide) ?_
              refine hp_callei (va_runV (As := [.int (-43)]) (rest := []) ⟨hx, hb, hml, hown, hts⟩ (sX4_write l D T ap0 ((-43) : Int32) ip0) (cwV 1 hts gX4_readFact_X4_write rfl rfl rfl (by decide +kernel) ⟨Nat.le_of_ble_eq_true rfl, Nat.le_of_ble_eq_true rfl⟩) (hp_preV hG hw hp0 rfl trivial) rfl rfl hl.1 rfl (lv_room (Nat.le_of_ble_eq_true rfl)) dX4_readFact_131 ⟨Nat.zero_le _, Nat.zero_le _⟩) hw (fun x131 st131 t131 H131 locs131 eh131 eg131 bx131 hw => ?_)
              refine lv_if_eq (tgt := 141) hx hb dX4_readFact_134 (by decide) (fun c134 => ?_) (fun c134 => ?_)
              · exact iv_abs2 c134 bx131 (show iv 0 0 0 from ⟨by decide, by decide⟩) (by decide)
              · refine lv_iconst (v := 1) hx hb dX4_readFact_137 (by decide) ?_
                refine lv_goto (tgt := 142) hx hb dX4_readFact_138 (by decide) ?_
                exact J142 (1 : Int32) (show iv 1 0 1 from ⟨by decide, by decide⟩) H131 locs131 hw _ (lv_sub hl [] rfl)
        · exact iv_abs (iv_le_l (iv_nlt c95) (show iv 10 10 10 from ⟨by decide, by decide⟩) c92_xp1) (by decide)
      refine lv_if_ne (tgt := 92) hx hb dX4_readFact_43 (by decide) (fun c43 => ?_) (fun c43 => ?_)
      · have r43tp : iv y18_s0 1 1 := (iv_ne_lo c43 c41_y18_s0 rfl).mono (by decide) (by decide)
        exact J92 c41_xp1 c41_y41_s0 H41 locs41 hw _ (lv_sub hl [1, 2, 0] rfl)
      · have r43fp : iv y18_s0 0 0 := (iv_both c41_y18_s0 (iv_eq (show iv 0 0 0 from ⟨by decide, by decide⟩) c43)).mono (by decide) (by decide)
        refine lv_iload_n hx hb dX4_readFact_46 rfl (lv_at hl 0 rfl) ?_
        refine lv_if_ne (tgt := 92) hx hb dX4_readFact_47 (by decide) (fun c47 => ?_) (fun c47 => ?_)
        · have r47tp : iv y41_s0 1 1 := (iv_ne_lo c47 c41_y41_s0 rfl).mono (by decide) (by decide)
          exact J92 c41_xp1 (r47tp.mono (by decide) (by decide)) H41 locs41 hw _ (lv_sub hl [1, 2, 0] rfl)
        · have r47fp : iv y41_s0 0 0 := (iv_both c41_y41_s0 (iv_eq (show iv 0 0 0 from ⟨by decide, by decide⟩) c47)).mono (by decide) (by decide)
          refine lv_aload_n hx hb dX4_readFact_50 rfl (lv_at hl 1 rfl) ?_
          refine hp_callei (va_runV (As := []) (rest := []) ⟨hx, hb, hml, hown, hts⟩ (sX4_readSum l D T ap0 ip0) (cwV 0 hts gX4_readFact_X4_readSum rfl rfl rfl (by decide +kernel) ⟨Nat.le_of_ble_eq_true rfl, Nat.le_of_ble_eq_true rfl⟩) (hp_preV hG hw hp0 rfl trivial) rfl rfl hl.1 rfl (lv_room (Nat.le_of_ble_eq_true rfl)) dX4_readFact_51 ⟨Nat.zero_le _, Nat.zero_le _⟩) hw (fun x51 st51 t51 H51 locs51 eh51 eg51 bx51 hw => ?_)
          refine lv_if_ne (tgt := 59) hx hb dX4_readFact_54 (by decide) (fun c54 => ?_) (fun c54 => ?_)
          · have r54tp : iv x51 1 1 := (iv_ne_lo c54 bx51 rfl).mono (by decide) (by decide)
            refine lv_aload_n hx hb dX4_readFact_59 rfl (lv_at hl 1 rfl) ?_
            refine hp_callei (va_runV (As := []) (rest := []) ⟨hx, hb, hml, hown, hts⟩ (sX4_readSign l D T ap0 ip0) (cwV 0 hts gX4_readFact_X4_readSign rfl rfl rfl (by decide +kernel) ⟨Nat.le_of_ble_eq_true rfl, Nat.le_of_ble_eq_true rfl⟩) (hp_preV hG hw hp0 rfl trivial) rfl rfl hl.1 rfl (lv_room (Nat.le_of_ble_eq_true rfl)) dX4_readFact_60 ⟨Nat.zero_le _, Nat.zero_le _⟩) hw (fun x60 st60 t60 H60 locs60 eh60 eg60 bx60 hw => ?_)
            refine lv_istore (lv' := [(4, .int x60), (3, .int y41_s0), (0, .ref ap0), (1, .int xp1), (2, .int y18_s0)]) hx hb dX4_readFact_63 hl (by decide) rfl (fun ls hl => ?_)
            refine lv_iload hx hb dX4_readFact_65 (lv_at hl 0 rfl) ?_
            have J91 : ∀ (y91_s0 : Int32), iv y91_s0 0 1 → ∀ (H : Heap) (locs : List Loc), hp_w D T s H locs → ∀ (ls : Array Slot), lv_has ls 5 [] → WX4_readFact_9 p l e s m below meth c D T ap0 xp1 H locs (F0 m 91 ls [.int y91_s0]) := by
              intro y91_s0 c91_y91_s0 H91 locs91 hw ls hl
              exact W.zret (v := y91_s0) hx hb hr (iv_nz c91_y91_s0) (fun t ht hW => ⟨some (.int y91_s0), rfl, ⟨y91_s0, rfl, c91_y91_s0⟩, by rw [ht]; exact hw.1, hw.2.F ht⟩) hw.2.2.2 dX4_readFact_91
            have J90 : ∀ (H : Heap) (locs : List Loc), hp_w D T s H locs → ∀ (ls : Array Slot), lv_has ls 5 [] → WX4_readFact_9 p l e s m below meth c D T ap0 xp1 H locs (F0 m 90 ls []) := by
              intro H90 locs90 hw ls hl
              refine lv_iconst (v := 0) hx hb dX4_readFact_90 (by decide) ?_
              exact J91 (0 : Int32) (show iv 0 0 1 from ⟨by decide, by decide⟩) H90 locs90 hw _ (lv_sub hl [] rfl)
            refine lv_if_eq (tgt := 90) hx hb dX4_readFact_67 (by decide) (fun c67 => ?_) (fun c67 => ?_)
            · have r67tp : iv x60 0 0 := (iv_both (iv_any x60) (iv_eq (show iv 0 0 0 from ⟨by decide, by decide⟩) c67)).mono (by decide) (by decide)
              exact J90 H60 locs60 hw _ (lv_sub hl [] rfl)
            · refine lv_aload_n hx hb dX4_readFact_70 rfl (lv_at hl 2 rfl) ?_
              refine hp_callei (va_runV (As := []) (rest := []) ⟨hx, hb, hml, hown, hts⟩ (sX4_readSum l D T ap0 ip0) (cwV 0 hts gX4_readFact_X4_readSum rfl rfl rfl (by decide +kernel) ⟨Nat.le_of_ble_eq_true rfl, Nat.le_of_ble_eq_true rfl⟩) (hp_preV hG hw hp0 rfl trivial) rfl rfl hl.1 rfl (lv_room (Nat.le_of_ble_eq_true rfl)) dX4_readFact_71 ⟨Nat.zero_le _, Nat.zero_le _⟩) hw (fun x71 st71 t71 H71 locs71 eh71 eg71 bx71 hw => ?_)
              refine lv_if_eq (tgt := 90) hx hb dX4_readFact_74 (by decide) (fun c74 => ?_) (fun c74 => ?_)
              · have r74tp : iv x71 0 0 := (iv_both bx71 (iv_eq (show iv 0 0 0 from ⟨by decide, by decide⟩) c74)).mono (by decide) (by decide)
                exact J90 H71 locs71 hw _ (lv_sub hl [] rfl)
              · have r74fp : iv x71 1 1 := (iv_ne_lo c74 bx71 rfl).mono (by decide) (by decide)
                refine lv_aload_n hx hb dX4_readFact_77 rfl (lv_at hl 2 rfl) ?_
                refine lv_iload hx hb dX4_readFact_78 (lv_at hl 0 rfl) ?_
                refine hp_callei (va_runV (As := [.int x60]) (rest := []) ⟨hx, hb, hml, hown, hts⟩ (sX4_write l D T ap0 x60 ip0) (cwV 1 hts gX4_readFact_X4_write rfl rfl rfl (by decide +kernel) ⟨Nat.le_of_ble_eq_true rfl, Nat.le_of_ble_eq_true rfl⟩) (hp_preV hG hw hp0 rfl trivial) rfl rfl hl.1 rfl (lv_room (Nat.le_of_ble_eq_true rfl)) dX4_readFact_80 ⟨Nat.zero_le _, Nat.zero_le _⟩) hw (fun x80 st80 t80 H80 locs80 eh80 eg80 bx80 hw => ?_)
                refine lv_if_eq (tgt := 90) hx hb dX4_readFact_83 (by decide) (fun c83 => ?_) (fun c83 => ?_)
                · exact iv_abs2 c83 bx80 (show iv 0 0 0 from ⟨by decide, by decide⟩) (by decide)
                · refine lv_iconst (v := 1) hx hb dX4_readFact_86 (by decide) ?_
                  refine lv_goto (tgt := 91) hx hb dX4_readFact_87 (by decide) ?_
                  exact J91 (1 : Int32) (show iv 1 0 1 from ⟨by decide, by decide⟩) H80 locs80 hw _ (lv_sub hl [] rfl)
          · have r54fp : iv x51 0 0 := (iv_both bx51 (iv_eq (show iv 0 0 0 from ⟨by decide, by decide⟩) c54)).mono (by decide) (by decide)
            refine lv_iconst (v := 0) hx hb dX4_readFact_57 (by decide) ?_
            exact W.zret (v := 0) hx hb hr (iv_nz (show iv 0 0 1 from ⟨by decide, by decide⟩)) (fun t ht hW => ⟨some (.int 0), rfl, ⟨(0 : Int32), rfl, (show iv 0 0 1 from ⟨by decide, by decide⟩)⟩, by rw [ht]; exact hw.1, hw.2.F ht⟩) hw.2.2.2 dX4_readFact_58
    have J40 : iv xp1 9 9 → iv y18_s0 0 1 → ∀ (H : Heap) (locs : List Loc), hp_w D T s H locs → ∀ (ls : Array Slot), lv_has ls 5 [(0, .ref ap0), (1, .int xp1), (2, .int y18_s0)] → WX4_readFact_9 p l e s m below meth c D T ap0 xp1 H locs (F0 m 40 ls []) := by
      intro c40_xp1 c40_y18_s0 H40 locs40 hw ls hl
      refine lv_iconst (v := 0) hx hb dX4_readFact_40 (by decide) ?_
      exact J41 (0 : Int32) c40_xp1 c40_y18_s0 (show iv 0 0 1 from ⟨by decide, by decide⟩) H40 locs40 hw _ (lv_sub hl [0, 1, 2] rfl)
    refine lv_if_ne (tgt := 40) hx hb dX4_readFact_20 (by decide) (fun c20 => ?_) (fun c20 => ?_)
    · have r20tp : iv y18_s0 1 1 := (iv_ne_lo c20 c18_y18_s0 rfl).mono (by decide) (by decide)
      exact J40 c18_xp1 (r20tp.mono (by decide) (by decide)) H18 locs18 hw _ (lv_sub hl [1, 2, 0] rfl)
    · have r20fp : iv y18_s0 0 0 := (iv_both c18_y18_s0 (iv_eq (show iv 0 0 0 from ⟨by decide, by decide⟩) c20)).mono (by decide) (by decide)
      refine lv_aload_n hx hb dX4_readFact_23 rfl (lv_at hl 1 rfl) ?_
      refine hp_getr hx hb hts IX4 hown hK hw.1 hp0 rfl 0 (by decide) L26 rfl dX4_readFact_24 ?_
      refine va_ldcS hx hb hown hG.2.2.1.2.2.2.2.2.2.2.2.2.1 dX4_readFact_27 ?_
      refine hp_callei (va_runV (As := [.ref (D.2.2.1 9)]) (rest := []) ⟨hx, hb, hml, hown, hts⟩ (sX7_takeWord l D T ap0tp 9 ip0tp (by decide)) (cwV 1 hts gX4_readFact_X7_takeWord rfl rfl rfl (by decide +kernel) ⟨Nat.le_of_ble_eq_true rfl, Nat.le_of_ble_eq_true rfl⟩) (hp_preV hG hw hp0tp rfl trivial) rfl rfl hl.1 rfl (lv_room (Nat.le_of_ble_eq_true rfl)) dX4_readFact_29 ⟨Nat.zero_le _, Nat.zero_le _⟩) hw (fun x29 st29 t29 H29 locs29 eh29 eg29 bx29 hw => ?_)
      refine lv_iconst (v := (-1)) hx hb dX4_readFact_32 (by decide) ?_
      refine lv_icmp_eq (tgt := 40) hx hb dX4_readFact_33 (by decide) (fun c33 => ?_) (fun c33 => ?_)
      · have r33tp : iv x29 (-1) (-1) := (iv_both (iv_any x29) (iv_eq (show iv (-1) (-1) (-1) from ⟨by decide, by decide⟩) c33)).mono (by decide) (by decide)
        exact J40 c18_xp1 (r20fp.mono (by decide) (by decide)) H29 locs29 hw _ (lv_sub hl [1, 2, 0] rfl)
      · refine lv_iconst (v := 1) hx hb dX4_readFact_36 (by decide) ?_
        refine lv_goto (tgt := 41) hx hb dX4_readFact_37 (by decide) ?_
        exact J41 (1 : Int32) c18_xp1 (r20fp.mono (by decide) (by decide)) (show iv 1 0 1 from ⟨by decide, by decide⟩) H29 locs29 hw _ (lv_sub hl [1, 2, 0] rfl)
  refine lv_icmp_eq (tgt := 17) hx hb dX4_readFact_10 (by decide) (fun c10 => ?_) (fun c10 => ?_)
  · have r10tp : iv x6 (-1) (-1) := (iv_both (iv_any x6) (iv_eq (show iv (-1) (-1) (-1) from ⟨by decide, by decide⟩) c10)).mono (by decide) (by decide)
    refine lv_iconst (v := 0) hx hb dX4_readFact_17 (by decide) ?_
    exact J18 (0 : Int32) bp1 (show iv 0 0 1 from ⟨by decide, by decide⟩) H6 locs6 hw _ (lv_sub hl [0, 1] rfl)
  · refine lv_iconst (v := 1) hx hb dX4_readFact_13 (by decide) ?_
    refine lv_goto (tgt := 18) hx hb dX4_readFact_14 (by decide) ?_
    exact J18 (1 : Int32) bp1 (show iv 1 0 1 from ⟨by decide, by decide⟩) H6 locs6 hw _ (lv_sub hl [0, 1] rfl)
abbrev WX4_readTest_9 (p : Program) (l : Launch) (e : Env) (s : State) (m : MethodId) (below : List Frame) (meth : Method) (c : Code) (D : hp_D) (T : hp_T) (ap0 : Nat) (xp1 : Int32) (H : Heap) (locs : List Loc) (g : JFrame) : Prop := W p l e (headSpec wsX4_readTest ({ frames := 10, cells := 0, slots := 0, locals := 248 })).room s m ([.ref ap0, .int xp1] : List Value).toArray below meth c H locs 0 0 (MQ below (hq_e D T (fun v _ _ => ∃ r : Int32, v = some (.int r) ∧ iv r 0 1)) ([.ref ap0, .int xp1] : List Value).toArray s 0 0 (hp_F T)) g
set_option maxHeartbeats 4000000 in
set_option maxRecDepth 100000 in
theorem sX4_readTest_9 (l : Launch) (D : hp_D) (T : hp_T) (ap0 : Nat) (xp1 : Int32) (ip0 : isRuleReader T ap0) (bp1 : iv xp1 9 9) : Met l yX4_readTest wsX4_readTest ({ frames := 10, cells := 0, slots := 0, locals := 248 }) (hp_Pc D T [.ref ap0, .int xp1] (fun _ => True)) (hq_e D T (fun v _ _ => ∃ r : Int32, v = some (.int r) ∧ iv r 0 1)) 0 0 (hp_F T) := by
  obtain ⟨ap0tp, ap0stp, hp0, ip0tp, hp0stp⟩ := id ip0
  obtain ⟨ap0tpbt, hp0tp, hp0tpbt⟩ := id ip0tp
  refine Met.ofW (cc := cX4_readTest) (maxL := 6) (ret := (some .boolean)) (by decide) rfl ?_
  intro p e s m args below meth c s₁ B hml hv
  obtain ⟨rfl, hok, hG, hB⟩ := hv
  have hx := B.exec
  have hb := B.bytes
  have hr := B.returns
  have hts := atoms_spec (ws := wsX4_readTest) B.pre
  have hown : s.vm.findClass RX4 = some m.cls := findClass_of_methodNamed B.named
  have hlocks := B.notSynchronized
  have hK := hG.1
  have hw : hp_w D T s s.heap [] := hp_w.rf hok
  have IX4 : ∀ w ∈ wsX40, w ∈ wsX4_readTest := by decide +kernel
  have L26 := hts (.fieldLink RX4 26 "PalmCensus$RuleReader" "tape" "LPalmCensus$Tape;") (by decide +kernel)
  have hl := lv_entry ([.ref ap0, .int xp1]) (n := 6) (Nat.le_of_ble_eq_true rfl)
  rw [lg_entry_eq]
  generalize (lg_sl ([.ref ap0, .int xp1]) ++ List.replicate (6 - (lg_sl ([.ref ap0, .int xp1])).length) Slot.unset).toArray = ls at hl ⊢
  have hl : lv_has ls 6 [(0, .ref ap0), (1, .int xp1)] := hl
  show WX4_readTest_9 p l e s m below meth c D T ap0 xp1 s.heap [] (F0 m 0 ls [])
  refine lv_aload_n hx hb dX4_readTest_0 rfl (lv_at hl 0 rfl) ?_
  refine lv_iload_n hx hb dX4_readTest_1 rfl (lv_at hl 1 rfl) ?_
  refine hp_callei (va_runV (As := [.int xp1]) (rest := []) ⟨hx, hb, hml, hown, hts⟩ (sX4_readFact_9 l D T ap0 xp1 ip0 bp1) (cwV 1 hts gX4_readTest_X4_readFact rfl rfl rfl (by decide +kernel) ⟨Nat.le_of_ble_eq_true rfl, Nat.le_of_ble_eq_true rfl⟩) (hp_preV hG hw hp0 rfl trivial) rfl rfl hl.1 rfl (lv_room (Nat.le_of_ble_eq_true rfl)) dX4_readTest_2 ⟨Nat.zero_le _, Nat.zero_le _⟩) hw (fun x2 st2 t2 H2 locs2 eh2 eg2 bx2 hw => ?_)
  refine lv_if_ne (tgt := 10) hx hb dX4_readTest_5 (by decide) (fun c5 => ?_) (fun c5 => ?_)
  · have r5tp : iv x2 1 1 := (iv_ne_lo c5 bx2 rfl).mono (by decide) (by decide)
    refine lv_iconst (v := 0) hx hb dX4_readTest_10 (by decide) ?_
    refine lv_istore_n (lv' := [(2, .int 0), (0, .ref ap0), (1, .int xp1)]) hx hb dX4_readTest_11 rfl hl (by decide) rfl (fun ls hl => ?_)
    refine lv_iconst (v := 0) hx hb dX4_readTest_12 (by decide) ?_
    refine lv_istore_n (lv' := [(3, .int 0), (2, .int 0), (0, .ref ap0), (1, .int xp1)]) hx hb dX4_readTest_13 rfl hl (by decide) rfl (fun ls hl => ?_)
    have J14 : ∀ (n : Nat) (y14_l2 y14_l3 : Int32), (400 - y14_l3.toInt).toNat < n → iv xp1 9 9 → iv y14_l2 0 1 → iv y14_l3 0 400 → ∀ (H : Heap) (locs : List Loc), hp_w D T s H locs → ∀ (ls : Array Slot), lv_has ls 6 [(0, .ref ap0), (1, .int xp1), (2, .int y14_l2), (3, .int y14_l3)] → WX4_readTest_9 p l e s m below meth c D T ap0 xp1 H locs (F0 m 14 ls []) := by
      intro n
      induction n with
      | zero => intro y14_l2 y14_l3 hmu14 c14_xp1 c14_y14_l2 c14_y14_l3 H14 locs14 hw ls hl; exact absurd hmu14 (Nat.not_lt_zero _)
      | succ n ih14 =>
        intro y14_l2 y14_l3 hmu14 c14_xp1 c14_y14_l2 c14_y14_l3 H14 locs14 hw ls hl
        refine lv_iload_n hx hb dX4_readTest_14 rfl (lv_at hl 3 rfl) ?_
        refine lv_sipush (v := 400) hx hb dX4_readTest_15 (by decide) ?_
        have J103 : iv y14_l2 0 1 → ∀ (H : Heap) (locs : List Loc), hp_w D T s H locs → ∀ (ls : Array Slot), lv_has ls 6 [(0, .ref ap0), (2, .int y14_l2)] → WX4_readTest_9 p l e s m below meth c D T ap0 xp1 H locs (F0 m 103 ls []) := by
          intro c103_y14_l2 H103 locs103 hw ls hl
          refine lv_iload_n hx hb dX4_readTest_103 rfl (lv_at hl 1 rfl) ?_
          have J121 : ∀ (H : Heap) (locs : List Loc), hp_w D T s H locs → ∀ (ls : Array Slot), lv_has ls 6 [] → WX4_readTest_9 p l e s m below meth c D T ap0 xp1 H locs (F0 m 121 ls [.int 1]) := by
            intro H121 locs121 hw ls hl
            exact W.zret (v := 1) hx hb hr (iv_nz (show iv 1 0 1 from ⟨by decide, by decide⟩)) (fun t ht hW => ⟨some (.int 1), rfl, ⟨(1 : Int32), rfl, (show iv 1 0 1 from ⟨by decide, by decide⟩)⟩, by rw [ht]; exact hw.1, hw.2.F ht⟩) hw.2.2.2 dX4_readTest_121
          have J116 : ∀ (H : Heap) (locs : List Loc), hp_w D T s H locs → ∀ (ls : Array Slot), lv_has ls 6 [] → WX4_readTest_9 p l e s m below meth c D T ap0 xp1 H locs (F0 m 116 ls []) := by
            intro H116 locs116 hw ls hl
            refine lv_iconst (v := 1) hx hb dX4_readTest_116 (by decide) ?_
            refine lv_goto (tgt := 121) hx hb dX4_readTest_117 (by decide) ?_
            exact J121 H116 locs116 hw _ (lv_sub hl [] rfl)
          refine lv_if_eq (tgt := 116) hx hb dX4_readTest_104 (by decide) (fun c104 => ?_) (fun c104 => ?_)
          · have r104tp : iv y14_l2 0 0 := (iv_both c103_y14_l2 (iv_eq (show iv 0 0 0 from ⟨by decide, by decide⟩) c104)).mono (by decide) (by decide)
            exact J116 H103 locs103 hw _ (lv_sub hl [] rfl)
          · have r104fp : iv y14_l2 1 1 := (iv_ne_lo c104 c103_y14_l2 rfl).mono (by decide) (by decide)
            refine lv_aload_n hx hb dX4_readTest_107 rfl (lv_at hl 0 rfl) ?_
            refine lv_bipush (v := (-42)) hx hb dX4_readTest_108 (by decide) ?_
            refine hp_callei (va_runV (As := [.int (-42)]) (rest := []) ⟨hx, hb, hml, hown, hts⟩ (sX4_write l D T ap0 ((-42) : Int32) ip0) (cwV 1 hts gX4_readTest_X4_write rfl rfl rfl (by decide +kernel) ⟨Nat.le_of_ble_eq_true rfl, Nat.le_of_ble_eq_true rfl⟩) (hp_preV hG hw hp0 rfl trivial) rfl rfl hl.1 rfl (lv_room (Nat.le_of_ble_eq_true rfl)) dX4_readTest_110 ⟨Nat.zero_le _, Nat.zero_le _⟩) hw (fun x110 st110 t110 H110 locs110 eh110 eg110 bx110 hw => ?_)
            refine lv_if_eq (tgt := 120) hx hb dX4_readTest_113 (by decide) (fun c113 => ?_) (fun c113 => ?_)
            · exact iv_abs2 c113 bx110 (show iv 0 0 0 from ⟨by decide, by decide⟩) (by decide)
            · exact J116 H110 locs110 hw _ (lv_sub hl [] rfl)
        refine lv_icmp_ge (tgt := 103) hx hb dX4_readTest_18 (by decide) (fun c18 => ?_) (fun c18 => ?_)
        · have r18tq : iv y14_l3 400 400 := (iv_le_r c18 (show iv 400 400 400 from ⟨by decide, by decide⟩) c14_y14_l3).mono (by decide) (by decide)
          exact J103 c14_y14_l2 H14 locs14 hw _ (lv_sub hl [0, 2] rfl)
        · have r18fp : iv y14_l3 0 399 := (iv_lt_l (iv_nle c18) c14_y14_l3 (show iv 400 400 400 from ⟨by decide, by decide⟩)).mono (by decide) (by decide)
          refine lv_aload_n hx hb dX4_readTest_21 rfl (lv_at hl 0 rfl) ?_
          refine hp_getr hx hb hts IX4 hown hK hw.1 hp0 rfl 0 (by decide) L26 rfl dX4_readTest_22 ?_
          refine va_ldcS hx hb hown hG.2.2.1.2.2.2.2.2.2.2.1 dX4_readTest_25 ?_
          refine hp_callei (va_runV (As := [.ref (D.2.2.1 7)]) (rest := []) ⟨hx, hb, hml, hown, hts⟩ (sX7_takeWord l D T ap0tp 7 ip0tp (by decide)) (cwV 1 hts gX4_readTest_X7_takeWord rfl rfl rfl (by decide +kernel) ⟨Nat.le_of_ble_eq_true rfl, Nat.le_of_ble_eq_true rfl⟩) (hp_preV hG hw hp0tp rfl trivial) rfl rfl hl.1 rfl (lv_room (Nat.le_of_ble_eq_true rfl)) dX4_readTest_27 ⟨Nat.zero_le _, Nat.zero_le _⟩) hw (fun x27 st27 t27 H27 locs27 eh27 eg27 bx27 hw => ?_)
          refine lv_istore (lv' := [(4, .int x27), (0, .ref ap0), (1, .int xp1), (2, .int y14_l2), (3, .int y14_l3)]) hx hb dX4_readTest_30 hl (by decide) rfl (fun ls hl => ?_)
          refine lv_iload hx hb dX4_readTest_32 (lv_at hl 0 rfl) ?_
          refine lv_iconst (v := (-1)) hx hb dX4_readTest_34 (by decide) ?_
          refine lv_icmp_ne (tgt := 41) hx hb dX4_readTest_35 (by decide) (fun c35 => ?_) (fun c35 => ?_)
          · refine lv_iload hx hb dX4_readTest_41 (lv_at hl 0 rfl) ?_
            refine lv_iconst (v := 1) hx hb dX4_readTest_43 (by decide) ?_
            have J52 : ∀ (y52_s0 : Int32), iv xp1 9 9 → iv y14_l2 0 1 → iv y14_l3 0 399 → iv y52_s0 0 1 → ∀ (H : Heap) (locs : List Loc), hp_w D T s H locs → ∀ (ls : Array Slot), lv_has ls 6 [(0, .ref ap0), (1, .int xp1), (2, .int y14_l2), (3, .int y14_l3)] → WX4_readTest_9 p l e s m below meth c D T ap0 xp1 H locs (F0 m 52 ls [.int y52_s0]) := by
              intro y52_s0 c52_xp1 c52_y14_l2 c52_y14_l3 c52_y52_s0 H52 locs52 hw ls hl
              refine lv_istore (lv' := [(5, .int y52_s0), (0, .ref ap0), (1, .int xp1), (2, .int y14_l2), (3, .int y14_l3)]) hx hb dX4_readTest_52 hl (by decide) rfl (fun ls hl => ?_)
              refine lv_iload hx hb dX4_readTest_54 (lv_at hl 0 rfl) ?_
              have J70 : iv xp1 9 9 → iv y14_l2 0 1 → iv y14_l3 0 399 → iv y52_s0 0 1 → ∀ (H : Heap) (locs : List Loc), hp_w D T s H locs → ∀ (ls : Array Slot), lv_has ls 6 [(0, .ref ap0), (1, .int xp1), (2, .int y14_l2), (3, .int y14_l3), (5, .int y52_s0)] → WX4_readTest_9 p l e s m below meth c D T ap0 xp1 H locs (F0 m 70 ls []) := by
                intro c70_xp1 c70_y14_l2 c70_y14_l3 c70_y52_s0 H70 locs70 hw ls hl
                refine lv_iload_n hx hb dX4_readTest_70 rfl (lv_at hl 2 rfl) ?_
                refine lv_iload hx hb dX4_readTest_71 (lv_at hl 4 rfl) ?_
                refine lv_ior hx hb dX4_readTest_73 ?_
                refine lv_topi (fun x73 ex73 => ?_)
                have bx73 : iv x73 0 1 := iv_or 1 c70_y14_l2 c70_y52_s0 ex73 (by decide) (by decide)
                refine lv_istore_n (lv' := [(2, .int x73), (0, .ref ap0), (1, .int xp1), (3, .int y14_l3), (5, .int y52_s0)]) hx hb dX4_readTest_74 rfl hl (by decide) rfl (fun ls hl => ?_)
                refine lv_aload_n hx hb dX4_readTest_75 rfl (lv_at hl 1 rfl) ?_
                refine lv_iload_n hx hb dX4_readTest_76 rfl (lv_at hl 2 rfl) ?_
                refine hp_callei (va_runV (As := [.int xp1]) (rest := []) ⟨hx, hb, hml, hown, hts⟩ (sX4_readFact_9 l D T ap0 xp1 ip0 c70_xp1) (cwV 1 hts gX4_readTest_X4_readFact rfl rfl rfl (by decide +kernel) ⟨Nat.le_of_ble_eq_true rfl, Nat.le_of_ble_eq_true rfl⟩) (hp_preV hG hw hp0 rfl trivial) rfl rfl hl.1 rfl (lv_room (Nat.le_of_ble_eq_true rfl)) dX4_readTest_77 ⟨Nat.zero_le _, Nat.zero_le _⟩) hw (fun x77 st77 t77 H77 locs77 eh77 eg77 bx77 hw => ?_)
                refine lv_if_ne (tgt := 85) hx hb dX4_readTest_80 (by decide) (fun c80 => ?_) (fun c80 => ?_)
                · have r80tp : iv x77 1 1 := (iv_ne_lo c80 bx77 rfl).mono (by decide) (by decide)
                  refine lv_iload hx hb dX4_readTest_85 (lv_at hl 4 rfl) ?_
                  have J97 : iv xp1 9 9 → iv x73 0 1 → iv y14_l3 0 399 → ∀ (H : Heap) (locs : List Loc), hp_w D T s H locs → ∀ (ls : Array Slot), lv_has ls 6 [(0, .ref ap0), (1, .int xp1), (2, .int x73), (3, .int y14_l3)] → WX4_readTest_9 p l e s m below meth c D T ap0 xp1 H locs (F0 m 97 ls []) := by
                    intro c97_xp1 c97_x73 c97_y14_l3 H97 locs97 hw ls hl
                    obtain ⟨x97, ex97⟩ : ∃ y : Int32, y = y14_l3 + 1 := ⟨_, rfl⟩
                    have bx97 : iv x97 1 400 := iv_add c97_y14_l3 (show iv 1 1 1 from ⟨by decide, by decide⟩) ex97 (by decide)
                    have qx97 := iv_add_eq c97_y14_l3 (show iv 1 1 1 from ⟨by decide, by decide⟩) ex97 (by decide)
                    refine lv_iinc (v := x97) (lv' := [(3, .int x97), (0, .ref ap0), (1, .int xp1), (2, .int x73)]) hx hb dX4_readTest_97 hl (k := 3) rfl (by rw [ex97]; rfl) (by decide) rfl (fun ls hl => ?_)
                    refine lv_goto (tgt := 14) hx hb dX4_readTest_100 (by decide) ?_
                    exact ih14 x73 x97 (mu_up 1 hmu14 (qx97) (by decide) (show iv x97 0 400 from (bx97.mono (by decide) (by decide))).2) c97_xp1 c97_x73 (bx97.mono (by decide) (by decide)) H97 locs97 hw _ (lv_sub hl [1, 2, 3, 0] rfl)
                  refine lv_if_ne (tgt := 97) hx hb dX4_readTest_87 (by decide) (fun c87 => ?_) (fun c87 => ?_)
                  · have r87tp : iv y52_s0 1 1 := (iv_ne_lo c87 c70_y52_s0 rfl).mono (by decide) (by decide)
                    exact J97 c70_xp1 bx73 c70_y14_l3 H77 locs77 hw _ (lv_sub hl [1, 2, 0, 3] rfl)
                  · have r87fp : iv y52_s0 0 0 := (iv_both c70_y52_s0 (iv_eq (show iv 0 0 0 from ⟨by decide, by decide⟩) c87)).mono (by decide) (by decide)
                    refine lv_aload_n hx hb dX4_readTest_90 rfl (lv_at hl 1 rfl) ?_
                    refine lv_bipush (v := (-41)) hx hb dX4_readTest_91 (by decide) ?_
                    refine hp_callei (va_runV (As := [.int (-41)]) (rest := []) ⟨hx, hb, hml, hown, hts⟩ (sX4_write l D T ap0 ((-41) : Int32) ip0) (cwV 1 hts gX4_readTest_X4_write rfl rfl rfl (by decide +kernel) ⟨Nat.le_of_ble_eq_true rfl, Nat.le_of_ble_eq_true rfl⟩) (hp_preV hG hw hp0 rfl trivial) rfl rfl hl.1 rfl (lv_room (Nat.le_of_ble_eq_true rfl)) dX4_readTest_93 ⟨Nat.zero_le _, Nat.zero_le _⟩) hw (fun x93 st93 t93 H93 locs93 eh93 eg93 bx93 hw => ?_)
                    refine lv_pop hx hb dX4_readTest_96 rfl ?_
                    exact J97 c70_xp1 bx73 c70_y14_l3 H93 locs93 hw _ (lv_sub hl [1, 2, 0, 3] rfl)
                · have r80fp : iv x77 0 0 := (iv_both bx77 (iv_eq (show iv 0 0 0 from ⟨by decide, by decide⟩) c80)).mono (by decide) (by decide)
                  refine lv_iconst (v := 0) hx hb dX4_readTest_83 (by decide) ?_
                  exact W.zret (v := 0) hx hb hr (iv_nz (show iv 0 0 1 from ⟨by decide, by decide⟩)) (fun t ht hW => ⟨some (.int 0), rfl, ⟨(0 : Int32), rfl, (show iv 0 0 1 from ⟨by decide, by decide⟩)⟩, by rw [ht]; exact hw.1, hw.2.F ht⟩) hw.2.2.2 dX4_readTest_84
              refine lv_if_eq (tgt := 70) hx hb dX4_readTest_56 (by decide) (fun c56 => ?_) (fun c56 => ?_)
              · have r56tp : iv y52_s0 0 0 := (iv_both c52_y52_s0 (iv_eq (show iv 0 0 0 from ⟨by decide, by decide⟩) c56)).mono (by decide) (by decide)
                exact J70 c52_xp1 c52_y14_l2 c52_y14_l3 (r56tp.mono (by decide) (by decide)) H52 locs52 hw _ (lv_sub hl [1, 2, 3, 4, 0] rfl)
              · have r56fp : iv y52_s0 1 1 := (iv_ne_lo c56 c52_y52_s0 rfl).mono (by decide) (by decide)
                refine lv_iload_n hx hb dX4_readTest_59 rfl (lv_at hl 3 rfl) ?_
                refine lv_if_eq (tgt := 70) hx hb dX4_readTest_60 (by decide) (fun c60 => ?_) (fun c60 => ?_)
                · have r60tp : iv y14_l2 0 0 := (iv_both c52_y14_l2 (iv_eq (show iv 0 0 0 from ⟨by decide, by decide⟩) c60)).mono (by decide) (by decide)
                  exact J70 c52_xp1 (r60tp.mono (by decide) (by decide)) c52_y14_l3 (r56fp.mono (by decide) (by decide)) H52 locs52 hw _ (lv_sub hl [1, 2, 3, 4, 0] rfl)
                · have r60fp : iv y14_l2 1 1 := (iv_ne_lo c60 c52_y14_l2 rfl).mono (by decide) (by decide)
                  refine lv_aload_n hx hb dX4_readTest_63 rfl (lv_at hl 1 rfl) ?_
                  refine lv_bipush (v := (-42)) hx hb dX4_readTest_64 (by decide) ?_
                  refine hp_callei (va_runV (As := [.int (-42)]) (rest := []) ⟨hx, hb, hml, hown, hts⟩ (sX4_write l D T ap0 ((-42) : Int32) ip0) (cwV 1 hts gX4_readTest_X4_write rfl rfl rfl (by decide +kernel) ⟨Nat.le_of_ble_eq_true rfl, Nat.le_of_ble_eq_true rfl⟩) (hp_preV hG hw hp0 rfl trivial) rfl rfl hl.1 rfl (lv_room (Nat.le_of_ble_eq_true rfl)) dX4_readTest_66 ⟨Nat.zero_le _, Nat.zero_le _⟩) hw (fun x66 st66 t66 H66 locs66 eh66 eg66 bx66 hw => ?_)
                  refine lv_pop hx hb dX4_readTest_69 rfl ?_
                  exact J70 c52_xp1 (r60fp.mono (by decide) (by decide)) c52_y14_l3 (r56fp.mono (by decide) (by decide)) H66 locs66 hw _ (lv_sub hl [1, 2, 3, 4, 0] rfl)
            refine lv_icmp_ne (tgt := 51) hx hb dX4_readTest_44 (by decide) (fun c44 => ?_) (fun c44 => ?_)
            · refine lv_iconst (v := 0) hx hb dX4_readTest_51 (by decide) ?_
              exact J52 (0 : Int32) c14_xp1 c14_y14_l2 r18fp (show iv 0 0 1 from ⟨by decide, by decide⟩) H27 locs27 hw _ (lv_sub hl [1, 2, 3, 4] rfl)
            · have r44fp : iv x27 1 1 := (iv_both (iv_any x27) (iv_eq (show iv 1 1 1 from ⟨by decide, by decide⟩) c44)).mono (by decide) (by decide)
              refine lv_iconst (v := 1) hx hb dX4_readTest_47 (by decide) ?_
              refine lv_goto (tgt := 52) hx hb dX4_readTest_48 (by decide) ?_
              exact J52 (1 : Int32) c14_xp1 c14_y14_l2 r18fp (show iv 1 0 1 from ⟨by decide, by decide⟩) H27 locs27 hw _ (lv_sub hl [1, 2, 3, 4] rfl)
          · have r35fp : iv x27 (-1) (-1) := (iv_both (iv_any x27) (iv_eq (show iv (-1) (-1) (-1) from ⟨by decide, by decide⟩) c35)).mono (by decide) (by decide)
            refine lv_goto (tgt := 103) hx hb dX4_readTest_38 (by decide) ?_
            exact J103 c14_y14_l2 H27 locs27 hw _ (lv_sub hl [1, 3] rfl)
    exact J14 _ (0 : Int32) (0 : Int32) (Nat.lt_succ_self _) bp1 (show iv 0 0 1 from ⟨by decide, by decide⟩) (show iv 0 0 400 from ⟨by decide, by decide⟩) H2 locs2 hw _ (lv_sub hl [2, 3, 1, 0] rfl)
  · have r5fp : iv x2 0 0 := (iv_both bx2 (iv_eq (show iv 0 0 0 from ⟨by decide, by decide⟩) c5)).mono (by decide) (by decide)
    refine lv_iconst (v := 0) hx hb dX4_readTest_8 (by decide) ?_
    exact W.zret (v := 0) hx hb hr (iv_nz (show iv 0 0 1 from ⟨by decide, by decide⟩)) (fun t ht hW => ⟨some (.int 0), rfl, ⟨(0 : Int32), rfl, (show iv 0 0 1 from ⟨by decide, by decide⟩)⟩, by rw [ht]; exact hw.1, hw.2.F ht⟩) hw.2.2.2 dX4_readTest_9
abbrev WX4_readFact_8 (p : Program) (l : Launch) (e : Env) (s : State) (m : MethodId) (below : List Frame) (meth : Method) (c : Code) (D : hp_D) (T : hp_T) (ap0 : Nat) (xp1 : Int32) (H : Heap) (locs : List Loc) (g : JFrame) : Prop := W p l e (headSpec wsX4_readFact ({ frames := 11, cells := 0, slots := 0, locals := 273 })).room s m ([.ref ap0, .int xp1] : List Value).toArray below meth c H locs 0 0 (MQ below (hq_e D T (fun v _ _ => ∃ r : Int32, v = some (.int r) ∧ iv r 0 1)) ([.ref ap0, .int xp1] : List Value).toArray s 0 0 (hp_F T)) g
set_option maxHeartbeats 4000000 in
set_option maxRecDepth 100000 in
theorem sX4_readFact_8 (l : Launch) (D : hp_D) (T : hp_T) (ap0 : Nat) (xp1 : Int32) (ip0 : isRuleReader T ap0) (bp1 : iv xp1 8 8) : Met l yX4_readFact wsX4_readFact ({ frames := 11, cells := 0, slots := 0, locals := 273 }) (hp_Pc D T [.ref ap0, .int xp1] (fun _ => True)) (hq_e D T (fun v _ _ => ∃ r : Int32, v = some (.int r) ∧ iv r 0 1)) 0 0 (hp_F T) := by
  obtain ⟨ap0tp, ap0stp, hp0, ip0tp, hp0stp⟩ := id ip0
  obtain ⟨ap0tpbt, hp0tp, hp0tpbt⟩ := id ip0tp
  refine Met.ofW (cc := cX4_readFact) (maxL := 5) (ret := (some .boolean)) (by decide) rfl ?_
  intro p e s m args below meth c s₁ B hml hv
  obtain ⟨rfl, hok, hG, hB⟩ := hv
  have hx := B.exec
  have hb := B.bytes
  have hr := B.returns
  have hts := atoms_spec (ws := wsX4_readFact) B.pre
  have hown : s.vm.findClass RX4 = some m.cls := findClass_of_methodNamed B.named
  have hlocks := B.notSynchronized
  have hK := hG.1
  have hw : hp_w D T s s.heap [] := hp_w.rf hok
  have IX4 : ∀ w ∈ wsX40, w ∈ wsX4_readFact := by decide +kernel
  have L26 := hts (.fieldLink RX4 26 "PalmCensus$RuleReader" "tape" "LPalmCensus$Tape;") (by decide +kernel)
  have hl := lv_entry ([.ref ap0, .int xp1]) (n := 5) (Nat.le_of_ble_eq_true rfl)
  rw [lg_entry_eq]
  generalize (lg_sl ([.ref ap0, .int xp1]) ++ List.replicate (5 - (lg_sl ([.ref ap0, .int xp1])).length) Slot.unset).toArray = ls at hl ⊢
  have hl : lv_has ls 5 [(0, .ref ap0), (1, .int xp1)] := hl
  show WX4_readFact_8 p l e s m below meth c D T ap0 xp1 s.heap [] (F0 m 0 ls [])
  refine lv_aload_n hx hb dX4_readFact_0 rfl (lv_at hl 0 rfl) ?_
  refine hp_getr hx hb hts IX4 hown hK hw.1 hp0 rfl 0 (by decide) L26 rfl dX4_readFact_1 ?_
  refine va_ldcS hx hb hown hG.2.2.1.2.2.2.2.2.2.2.2.1 dX4_readFact_4 ?_
  refine hp_callei (va_runV (As := [.ref (D.2.2.1 8)]) (rest := []) ⟨hx, hb, hml, hown, hts⟩ (sX7_takeSignOf l D T ap0tp 8 ip0tp (by decide)) (cwV 1 hts gX4_readFact_X7_takeSignOf rfl rfl rfl (by decide +kernel) ⟨Nat.le_of_ble_eq_true rfl, Nat.le_of_ble_eq_true rfl⟩) (hp_preV hG hw hp0tp rfl trivial) rfl rfl hl.1 rfl (lv_room (Nat.le_of_ble_eq_true rfl)) dX4_readFact_6 ⟨Nat.zero_le _, Nat.zero_le _⟩) hw (fun x6 st6 t6 H6 locs6 eh6 eg6 bx6 hw => ?_)
  refine lv_iconst (v := (-1)) hx hb dX4_readFact_9 (by decide) ?_
  have J18 : ∀ (y18_s0 : Int32), iv xp1 8 8 → iv y18_s0 0 1 → ∀ (H : Heap) (locs : List Loc), hp_w D T s H locs → ∀ (ls : Array Slot), lv_has ls 5 [(0, .ref ap0), (1, .int xp1)] → WX4_readFact_8 p l e s m below meth c D T ap0 xp1 H locs (F0 m 18 ls [.int y18_s0]) := by
    intro y18_s0 c18_xp1 c18_y18_s0 H18 locs18 hw ls hl
    refine lv_istore_n (lv' := [(2, .int y18_s0), (0, .ref ap0), (1, .int xp1)]) hx hb dX4_readFact_18 rfl hl (by decide) rfl (fun ls hl => ?_)
    refine lv_iload_n hx hb dX4_readFact_19 rfl (lv_at hl 0 rfl) ?_
    have J41 : ∀ (y41_s0 : Int32), iv xp1 8 8 → iv y18_s0 0 1 → iv y41_s0 0 1 → ∀ (H : Heap) (locs : List Loc), hp_w D T s H locs → ∀ (ls : Array Slot), lv_has ls 5 [(0, .ref ap0), (1, .int xp1), (2, .int y18_s0)] → WX4_readFact_8 p l e s m below meth c D T ap0 xp1 H locs (F0 m 41 ls [.int y41_s0]) := by
      intro y41_s0 c41_xp1 c41_y18_s0 c41_y41_s0 H41 locs41 hw ls hl
      refine lv_istore_n (lv' := [(3, .int y41_s0), (0, .ref ap0), (1, .int xp1), (2, .int y18_s0)]) hx hb dX4_readFact_41 rfl hl (by decide) rfl (fun ls hl => ?_)
      refine lv_iload_n hx hb dX4_readFact_42 rfl (lv_at hl 3 rfl) ?_
      have J92 : iv xp1 8 8 → iv y41_s0 0 1 → ∀ (H : Heap) (locs : List Loc), hp_w D T s H locs → ∀ (ls : Array Slot), lv_has ls 5 [(0, .ref ap0), (1, .int xp1), (3, .int y41_s0)] → WX4_readFact_8 p l e s m below meth c D T ap0 xp1 H locs (F0 m 92 ls []) := by
        intro c92_xp1 c92_y41_s0 H92 locs92 hw ls hl
        refine lv_iload_n hx hb dX4_readFact_92 rfl (lv_at hl 1 rfl) ?_
        refine lv_bipush (v := 10) hx hb dX4_readFact_93 (by decide) ?_
        refine lv_icmp_lt (tgt := 114) hx hb dX4_readFact_95 (by decide) (fun c95 => ?_) (fun c95 => ?_)
        · refine lv_iload_n hx hb dX4_readFact_114 rfl (lv_at hl 2 rfl) ?_
          refine lv_if_eq (tgt := 143) hx hb dX4_readFact_115 (by decide) (fun c115 => ?_) (fun c115 => ?_)
          · have r115tp : iv y41_s0 0 0 := (iv_both c92_y41_s0 (iv_eq (show iv 0 0 0 from ⟨by decide, by decide⟩) c115)).mono (by decide) (by decide)
            refine lv_aload_n hx hb dX4_readFact_143 rfl (lv_at hl 0 rfl) ?_
            refine lv_iload_n hx hb dX4_readFact_144 rfl (lv_at hl 1 rfl) ?_
            refine lv_iconst (v := 1) hx hb dX4_readFact_145 (by decide) ?_
            refine lv_iadd hx hb dX4_readFact_146 ?_
            refine lv_topi (fun x146 ex146 => ?_)
            have bx146 : iv x146 9 9 := iv_add c92_xp1 (show iv 1 1 1 from ⟨by decide, by decide⟩) ex146 (by decide)
            have qx146 := iv_add_eq c92_xp1 (show iv 1 1 1 from ⟨by decide, by decide⟩) ex146 (by decide)
            refine hp_callei (va_runV (As := [.int x146]) (rest := []) ⟨hx, hb, hml, hown, hts⟩ (sX4_readTest_9 l D T ap0 x146 ip0 bx146) (cwV 1 hts gX4_readFact_X4_readTest rfl rfl rfl (by decide +kernel) ⟨Nat.le_of_ble_eq_true rfl, Nat.le_of_ble_eq_true rfl⟩) (hp_preV hG hw hp0 rfl trivial) rfl rfl hl.1 rfl (lv_room (Nat.le_of_ble_eq_true rfl)) dX4_readFact_147 ⟨Nat.zero_le _, Nat.zero_le _⟩) hw (fun x147 st147 t147 H147 locs147 eh147 eg147 bx147 hw => ?_)
            have J170 : ∀ (y170_s0 : Int32), iv y170_s0 0 1 → ∀ (H : Heap) (locs : List Loc), hp_w D T s H locs → ∀ (ls : Array Slot), lv_has ls 5 [] → WX4_readFact_8 p l e s m below meth c D T ap0 xp1 H locs (F0 m 170 ls [.int y170_s0]) := by
              intro y170_s0 c170_y170_s0 H170 locs170 hw ls hl
              exact W.zret (v := y170_s0) hx hb hr (iv_nz c170_y170_s0) (fun t ht hW => ⟨some (.int y170_s0), rfl, ⟨y170_s0, rfl, c170_y170_s0⟩, by rw [ht]; exact hw.1, hw.2.F ht⟩) hw.2.2.2 dX4_readFact_170
            have J169 : ∀ (H : Heap) (locs : List Loc), hp_w D T s H locs → ∀ (ls : Array Slot), lv_has ls 5 [] → WX4_readFact_8 p l e s m below meth c D T ap0 xp1 H locs (F0 m 169 ls []) := by
              intro H169 locs169 hw ls hl
              refine lv_iconst (v := 0) hx hb dX4_readFact_169 (by decide) ?_
              exact J170 (0 : Int32) (show iv 0 0 1 from ⟨by decide, by decide⟩) H169 locs169 hw _ (lv_sub hl [] rfl)
            refine lv_if_eq (tgt := 169) hx hb dX4_readFact_150 (by decide) (fun c150 => ?_) (fun c150 => ?_)
            · have r150tp : iv x147 0 0 := (iv_both bx147 (iv_eq (show iv 0 0 0 from ⟨by decide, by decide⟩) c150)).mono (by decide) (by decide)
              exact J169 H147 locs147 hw _ (lv_sub hl [] rfl)
            · have r150fp : iv x147 1 1 := (iv_ne_lo c150 bx147 rfl).mono (by decide) (by decide)
              refine lv_aload_n hx hb dX4_readFact_153 rfl (lv_at hl 0 rfl) ?_
              refine hp_getr hx hb hts IX4 hown hK hw.1 hp0 rfl 0 (by decide) L26 rfl dX4_readFact_154 ?_
              refine va_ldcS hx hb hown hG.2.2.1.1 dX4_readFact_157 ?_
              refine hp_callei (va_runV (As := [.ref (D.2.2.1 0)]) (rest := []) ⟨hx, hb, hml, hown, hts⟩ (sX7_needSign l D T ap0tp 0 ip0tp (by decide)) (cwV 1 hts gX4_readFact_X7_needSign rfl rfl rfl (by decide +kernel) ⟨Nat.le_of_ble_eq_true rfl, Nat.le_of_ble_eq_true rfl⟩) (hp_preV hG hw hp0tp rfl trivial) rfl rfl hl.1 rfl (lv_room (Nat.le_of_ble_eq_true rfl)) dX4_readFact_159 ⟨Nat.zero_le _, Nat.zero_le _⟩) hw (fun x159 st159 t159 H159 locs159 eh159 eg159 bx159 hw => ?_)
              refine lv_if_eq (tgt := 169) hx hb dX4_readFact_162 (by decide) (fun c162 => ?_) (fun c162 => ?_)
              · have r162tp : iv x159 0 0 := (iv_both bx159 (iv_eq (show iv 0 0 0 from ⟨by decide, by decide⟩) c162)).mono (by decide) (by decide)
                exact J169 H159 locs159 hw _ (lv_sub hl [] rfl)
              · have r162fp : iv x159 1 1 := (iv_ne_lo c162 bx159 rfl).mono (by decide) (by decide)
                refine lv_iconst (v := 1) hx hb dX4_readFact_165 (by decide) ?_
                refine lv_goto (tgt := 170) hx hb dX4_readFact_166 (by decide) ?_
                exact J170 (1 : Int32) (show iv 1 0 1 from ⟨by decide, by decide⟩) H159 locs159 hw _ (lv_sub hl [] rfl)
          · have r115fp : iv y41_s0 1 1 := (iv_ne_lo c115 c92_y41_s0 rfl).mono (by decide) (by decide)
            refine lv_aload_n hx hb dX4_readFact_118 rfl (lv_at hl 0 rfl) ?_
            refine lv_iload_n hx hb dX4_readFact_119 rfl (lv_at hl 1 rfl) ?_
            refine lv_iconst (v := 1) hx hb dX4_readFact_120 (by decide) ?_
            refine lv_iadd hx hb dX4_readFact_121 ?_
            refine lv_topi (fun x121 ex121 => ?_)
            have bx121 : iv x121 9 9 := iv_add c92_xp1 (show iv 1 1 1 from ⟨by decide, by decide⟩) ex121 (by decide)
            have qx121 := iv_add_eq c92_xp1 (show iv 1 1 1 from ⟨by decide, by decide⟩) ex121 (by decide)
            refine hp_callei (va_runV (As := [.int x121]) (rest := []) ⟨hx, hb, hml, hown, hts⟩ (sX4_readFact_9 l D T ap0 x121 ip0 bx121) (cwV 1 hts gX4_readFact_X4_readFact rfl rfl rfl (by decide +kernel) ⟨Nat.le_of_ble_eq_true rfl, Nat.le_of_ble_eq_true rfl⟩) (hp_preV hG hw hp0 rfl trivial) rfl rfl hl.1 rfl (lv_room (Nat.le_of_ble_eq_true rfl)) dX4_readFact_122 ⟨Nat.zero_le _, Nat.zero_le _⟩) hw (fun x122 st122 t122 H122 locs122 eh122 eg122 bx122 hw => ?_)
            have J142 : ∀ (y142_s0 : Int32), iv y142_s0 0 1 → ∀ (H : Heap) (locs : List Loc), hp_w D T s H locs → ∀ (ls : Array Slot), lv_has ls 5 [] → WX4_readFact_8 p l e s m below meth c D T ap0 xp1 H locs (F0 m 142 ls [.int y142_s0]) := by
              intro y142_s0 c142_y142_s0 H142 locs142 hw ls hl
              exact W.zret (v := y142_s0) hx hb hr (iv_nz c142_y142_s0) (fun t ht hW => ⟨some (.int y142_s0), rfl, ⟨y142_s0, rfl, c142_y142_s0⟩, by rw [ht]; exact hw.1, hw.2.F ht⟩) hw.2.2.2 dX4_readFact_142
            have J141 : ∀ (H : Heap) (locs : List Loc), hp_w D T s H locs → ∀ (ls : Array Slot), lv_has ls 5 [] → WX4_readFact_8 p l e s m below meth c D T ap0 xp1 H locs (F0 m 141 ls []) := by
              intro H141 locs141 hw ls hl
              refine lv_iconst (v := 0) hx hb dX4_readFact_141 (by decide) ?_
              exact J142 (0 : Int32) (show iv 0 0 1 from ⟨by decide, by decide⟩) H141 locs141 hw _ (lv_sub hl [] rfl)
            refine lv_if_eq (tgt := 141) hx hb dX4_readFact_125 (by decide) (fun c125 => ?_) (fun c125 => ?_)
            · have r125tp : iv x122 0 0 := (iv_both bx122 (iv_eq (show iv 0 0 0 from ⟨by decide, by decide⟩) c125)).mono (by decide) (by decide)
              exact J141 H122 locs122 hw _ (lv_sub hl [] rfl)
            · have r125fp : iv x122 1 1 := (iv_ne_lo c125 bx122 rfl).mono (by decide) (by decide)
              refine lv_aload_n hx hb dX4_readFact_128 rfl (lv_at hl 0 rfl) ?_
              refine lv_bipush (v := (-43)) hx hb dX4_readFact_129 (by decide) ?_
              refine hp_callei (va_runV (As := [.int (-43)]) (rest := []) ⟨hx, hb, hml, hown, hts⟩ (sX4_write l D T ap0 ((-43) : Int32) ip0) (cwV 1 hts gX4_readFact_X4_write rfl rfl rfl (by decide +kernel) ⟨Nat.le_of_ble_eq_true rfl, Nat.le_of_ble_eq_true rfl⟩) (hp_preV hG hw hp0 rfl trivial) rfl rfl hl.1 rfl (lv_room (Nat.le_of_ble_eq_true rfl)) dX4_readFact_131 ⟨Nat.zero_le _, Nat.zero_le _⟩) hw (fun x131 st131 t131 H131 locs131 eh131 eg131 bx131 hw => ?_)
              refine lv_if_eq (tgt := 141) hx hb dX4_readFact_134 (by decide) (fun c134 => ?_) (fun c134 => ?_)
              · exact iv_abs2 c134 bx131 (show iv 0 0 0 from ⟨by decide, by decide⟩) (by decide)
              · refine lv_iconst (v := 1) hx hb dX4_readFact_137 (by decide) ?_
                refine lv_goto (tgt := 142) hx hb dX4_readFact_138 (by decide) ?_
                exact J142 (1 : Int32) (show iv 1 0 1 from ⟨by decide, by decide⟩) H131 locs131 hw _ (lv_sub hl [] rfl)
        · exact iv_abs (iv_le_l (iv_nlt c95) (show iv 10 10 10 from ⟨by decide, by decide⟩) c92_xp1) (by decide)
      refine lv_if_ne (tgt := 92) hx hb dX4_readFact_43 (by decide) (fun c43 => ?_) (fun c43 => ?_)
      · have r43tp : iv y18_s0 1 1 := (iv_ne_lo c43 c41_y18_s0 rfl).mono (by decide) (by decide)
        exact J92 c41_xp1 c41_y41_s0 H41 locs41 hw _ (lv_sub hl [1, 2, 0] rfl)
      · have r43fp : iv y18_s0 0 0 := (iv_both c41_y18_s0 (iv_eq (show iv 0 0 0 from ⟨by decide, by decide⟩) c43)).mono (by decide) (by decide)
        refine lv_iload_n hx hb dX4_readFact_46 rfl (lv_at hl 0 rfl) ?_
        refine lv_if_ne (tgt := 92) hx hb dX4_readFact_47 (by decide) (fun c47 => ?_) (fun c47 => ?_)
        · have r47tp : iv y41_s0 1 1 := (iv_ne_lo c47 c41_y41_s0 rfl).mono (by decide) (by decide)
          exact J92 c41_xp1 (r47tp.mono (by decide) (by decide)) H41 locs41 hw _ (lv_sub hl [1, 2, 0] rfl)
        · have r47fp : iv y41_s0 0 0 := (iv_both c41_y41_s0 (iv_eq (show iv 0 0 0 from ⟨by decide, by decide⟩) c47)).mono (by decide) (by decide)
          refine lv_aload_n hx hb dX4_readFact_50 rfl (lv_at hl 1 rfl) ?_
          refine hp_callei (va_runV (As := []) (rest := []) ⟨hx, hb, hml, hown, hts⟩ (sX4_readSum l D T ap0 ip0) (cwV 0 hts gX4_readFact_X4_readSum rfl rfl rfl (by decide +kernel) ⟨Nat.le_of_ble_eq_true rfl, Nat.le_of_ble_eq_true rfl⟩) (hp_preV hG hw hp0 rfl trivial) rfl rfl hl.1 rfl (lv_room (Nat.le_of_ble_eq_true rfl)) dX4_readFact_51 ⟨Nat.zero_le _, Nat.zero_le _⟩) hw (fun x51 st51 t51 H51 locs51 eh51 eg51 bx51 hw => ?_)
          refine lv_if_ne (tgt := 59) hx hb dX4_readFact_54 (by decide) (fun c54 => ?_) (fun c54 => ?_)
          · have r54tp : iv x51 1 1 := (iv_ne_lo c54 bx51 rfl).mono (by decide) (by decide)
            refine lv_aload_n hx hb dX4_readFact_59 rfl (lv_at hl 1 rfl) ?_
            refine hp_callei (va_runV (As := []) (rest := []) ⟨hx, hb, hml, hown, hts⟩ (sX4_readSign l D T ap0 ip0) (cwV 0 hts gX4_readFact_X4_readSign rfl rfl rfl (by decide +kernel) ⟨Nat.le_of_ble_eq_true rfl, Nat.le_of_ble_eq_true rfl⟩) (hp_preV hG hw hp0 rfl trivial) rfl rfl hl.1 rfl (lv_room (Nat.le_of_ble_eq_true rfl)) dX4_readFact_60 ⟨Nat.zero_le _, Nat.zero_le _⟩) hw (fun x60 st60 t60 H60 locs60 eh60 eg60 bx60 hw => ?_)
            refine lv_istore (lv' := [(4, .int x60), (3, .int y41_s0), (0, .ref ap0), (1, .int xp1), (2, .int y18_s0)]) hx hb dX4_readFact_63 hl (by decide) rfl (fun ls hl => ?_)
            refine lv_iload hx hb dX4_readFact_65 (lv_at hl 0 rfl) ?_
            have J91 : ∀ (y91_s0 : Int32), iv y91_s0 0 1 → ∀ (H : Heap) (locs : List Loc), hp_w D T s H locs → ∀ (ls : Array Slot), lv_has ls 5 [] → WX4_readFact_8 p l e s m below meth c D T ap0 xp1 H locs (F0 m 91 ls [.int y91_s0]) := by
              intro y91_s0 c91_y91_s0 H91 locs91 hw ls hl
              exact W.zret (v := y91_s0) hx hb hr (iv_nz c91_y91_s0) (fun t ht hW => ⟨some (.int y91_s0), rfl, ⟨y91_s0, rfl, c91_y91_s0⟩, by rw [ht]; exact hw.1, hw.2.F ht⟩) hw.2.2.2 dX4_readFact_91
            have J90 : ∀ (H : Heap) (locs : List Loc), hp_w D T s H locs → ∀ (ls : Array Slot), lv_has ls 5 [] → WX4_readFact_8 p l e s m below meth c D T ap0 xp1 H locs (F0 m 90 ls []) := by
              intro H90 locs90 hw ls hl
              refine lv_iconst (v := 0) hx hb dX4_readFact_90 (by decide) ?_
              exact J91 (0 : Int32) (show iv 0 0 1 from ⟨by decide, by decide⟩) H90 locs90 hw _ (lv_sub hl [] rfl)
            refine lv_if_eq (tgt := 90) hx hb dX4_readFact_67 (by decide) (fun c67 => ?_) (fun c67 => ?_)
            · have r67tp : iv x60 0 0 := (iv_both (iv_any x60) (iv_eq (show iv 0 0 0 from ⟨by decide, by decide⟩) c67)).mono (by decide) (by decide)
              exact J90 H60 locs60 hw _ (lv_sub hl [] rfl)
            · refine lv_aload_n hx hb dX4_readFact_70 rfl (lv_at hl 2 rfl) ?_
              refine hp_callei (va_runV (As := []) (rest := []) ⟨hx, hb, hml, hown, hts⟩ (sX4_readSum l D T ap0 ip0) (cwV 0 hts gX4_readFact_X4_readSum rfl rfl rfl (by decide +kernel) ⟨Nat.le_of_ble_eq_true rfl, Nat.le_of_ble_eq_true rfl⟩) (hp_preV hG hw hp0 rfl trivial) rfl rfl hl.1 rfl (lv_room (Nat.le_of_ble_eq_true rfl)) dX4_readFact_71 ⟨Nat.zero_le _, Nat.zero_le _⟩) hw (fun x71 st71 t71 H71 locs71 eh71 eg71 bx71 hw => ?_)
              refine lv_if_eq (tgt := 90) hx hb dX4_readFact_74 (by decide) (fun c74 => ?_) (fun c74 => ?_)
              · have r74tp : iv x71 0 0 := (iv_both bx71 (iv_eq (show iv 0 0 0 from ⟨by decide, by decide⟩) c74)).mono (by decide) (by decide)
                exact J90 H71 locs71 hw _ (lv_sub hl [] rfl)
              · have r74fp : iv x71 1 1 := (iv_ne_lo c74 bx71 rfl).mono (by decide) (by decide)
                refine lv_aload_n hx hb dX4_readFact_77 rfl (lv_at hl 2 rfl) ?_
                refine lv_iload hx hb dX4_readFact_78 (lv_at hl 0 rfl) ?_
                refine hp_callei (va_runV (As := [.int x60]) (rest := []) ⟨hx, hb, hml, hown, hts⟩ (sX4_write l D T ap0 x60 ip0) (cwV 1 hts gX4_readFact_X4_write rfl rfl rfl (by decide +kernel) ⟨Nat.le_of_ble_eq_true rfl, Nat.le_of_ble_eq_true rfl⟩) (hp_preV hG hw hp0 rfl trivial) rfl rfl hl.1 rfl (lv_room (Nat.le_of_ble_eq_true rfl)) dX4_readFact_80 ⟨Nat.zero_le _, Nat.zero_le _⟩) hw (fun x80 st80 t80 H80 locs80 eh80 eg80 bx80 hw => ?_)
                refine lv_if_eq (tgt := 90) hx hb dX4_readFact_83 (by decide) (fun c83 => ?_) (fun c83 => ?_)
                · exact iv_abs2 c83 bx80 (show iv 0 0 0 from ⟨by decide, by decide⟩) (by decide)
                · refine lv_iconst (v := 1) hx hb dX4_readFact_86 (by decide) ?_
                  refine lv_goto (tgt := 91) hx hb dX4_readFact_87 (by decide) ?_
                  exact J91 (1 : Int32) (show iv 1 0 1 from ⟨by decide, by decide⟩) H80 locs80 hw _ (lv_sub hl [] rfl)
          · have r54fp : iv x51 0 0 := (iv_both bx51 (iv_eq (show iv 0 0 0 from ⟨by decide, by decide⟩) c54)).mono (by decide) (by decide)
            refine lv_iconst (v := 0) hx hb dX4_readFact_57 (by decide) ?_
            exact W.zret (v := 0) hx hb hr (iv_nz (show iv 0 0 1 from ⟨by decide, by decide⟩)) (fun t ht hW => ⟨some (.int 0), rfl, ⟨(0 : Int32), rfl, (show iv 0 0 1 from ⟨by decide, by decide⟩)⟩, by rw [ht]; exact hw.1, hw.2.F ht⟩) hw.2.2.2 dX4_readFact_58
    have J40 : iv xp1 8 8 → iv y18_s0 0 1 → ∀ (H : Heap) (locs : List Loc), hp_w D T s H locs → ∀ (ls : Array Slot), lv_has ls 5 [(0, .ref ap0), (1, .int xp1), (2, .int y18_s0)] → WX4_readFact_8 p l e s m below meth c D T ap0 xp1 H locs (F0 m 40 ls []) := by
      intro c40_xp1 c40_y18_s0 H40 locs40 hw ls hl
      refine lv_iconst (v := 0) hx hb dX4_readFact_40 (by decide) ?_
      exact J41 (0 : Int32) c40_xp1 c40_y18_s0 (show iv 0 0 1 from ⟨by decide, by decide⟩) H40 locs40 hw _ (lv_sub hl [0, 1, 2] rfl)
    refine lv_if_ne (tgt := 40) hx hb dX4_readFact_20 (by decide) (fun c20 => ?_) (fun c20 => ?_)
    · have r20tp : iv y18_s0 1 1 := (iv_ne_lo c20 c18_y18_s0 rfl).mono (by decide) (by decide)
      exact J40 c18_xp1 (r20tp.mono (by decide) (by decide)) H18 locs18 hw _ (lv_sub hl [1, 2, 0] rfl)
    · have r20fp : iv y18_s0 0 0 := (iv_both c18_y18_s0 (iv_eq (show iv 0 0 0 from ⟨by decide, by decide⟩) c20)).mono (by decide) (by decide)
      refine lv_aload_n hx hb dX4_readFact_23 rfl (lv_at hl 1 rfl) ?_
      refine hp_getr hx hb hts IX4 hown hK hw.1 hp0 rfl 0 (by decide) L26 rfl dX4_readFact_24 ?_
      refine va_ldcS hx hb hown hG.2.2.1.2.2.2.2.2.2.2.2.2.1 dX4_readFact_27 ?_
      refine hp_callei (va_runV (As := [.ref (D.2.2.1 9)]) (rest := []) ⟨hx, hb, hml, hown, hts⟩ (sX7_takeWord l D T ap0tp 9 ip0tp (by decide)) (cwV 1 hts gX4_readFact_X7_takeWord rfl rfl rfl (by decide +kernel) ⟨Nat.le_of_ble_eq_true rfl, Nat.le_of_ble_eq_true rfl⟩) (hp_preV hG hw hp0tp rfl trivial) rfl rfl hl.1 rfl (lv_room (Nat.le_of_ble_eq_true rfl)) dX4_readFact_29 ⟨Nat.zero_le _, Nat.zero_le _⟩) hw (fun x29 st29 t29 H29 locs29 eh29 eg29 bx29 hw => ?_)
      refine lv_iconst (v := (-1)) hx hb dX4_readFact_32 (by decide) ?_
      refine lv_icmp_eq (tgt := 40) hx hb dX4_readFact_33 (by decide) (fun c33 => ?_) (fun c33 => ?_)
      · have r33tp : iv x29 (-1) (-1) := (iv_both (iv_any x29) (iv_eq (show iv (-1) (-1) (-1) from ⟨by decide, by decide⟩) c33)).mono (by decide) (by decide)
        exact J40 c18_xp1 (r20fp.mono (by decide) (by decide)) H29 locs29 hw _ (lv_sub hl [1, 2, 0] rfl)
      · refine lv_iconst (v := 1) hx hb dX4_readFact_36 (by decide) ?_
        refine lv_goto (tgt := 41) hx hb dX4_readFact_37 (by decide) ?_
        exact J41 (1 : Int32) c18_xp1 (r20fp.mono (by decide) (by decide)) (show iv 1 0 1 from ⟨by decide, by decide⟩) H29 locs29 hw _ (lv_sub hl [1, 2, 0] rfl)
  refine lv_icmp_eq (tgt := 17) hx hb dX4_readFact_10 (by decide) (fun c10 => ?_) (fun c10 => ?_)
  · have r10tp : iv x6 (-1) (-1) := (iv_both (iv_any x6) (iv_eq (show iv (-1) (-1) (-1) from ⟨by decide, by decide⟩) c10)).mono (by decide) (by decide)
    refine lv_iconst (v := 0) hx hb dX4_readFact_17 (by decide) ?_
    exact J18 (0 : Int32) bp1 (show iv 0 0 1 from ⟨by decide, by decide⟩) H6 locs6 hw _ (lv_sub hl [0, 1] rfl)
  · refine lv_iconst (v := 1) hx hb dX4_readFact_13 (by decide) ?_
    refine lv_goto (tgt := 18) hx hb dX4_readFact_14 (by decide) ?_
    exact J18 (1 : Int32) bp1 (show iv 1 0 1 from ⟨by decide, by decide⟩) H6 locs6 hw _ (lv_sub hl [0, 1] rfl)
abbrev WX4_readTest_8 (p : Program) (l : Launch) (e : Env) (s : State) (m : MethodId) (below : List Frame) (meth : Method) (c : Code) (D : hp_D) (T : hp_T) (ap0 : Nat) (xp1 : Int32) (H : Heap) (locs : List Loc) (g : JFrame) : Prop := W p l e (headSpec wsX4_readTest ({ frames := 12, cells := 0, slots := 0, locals := 297 })).room s m ([.ref ap0, .int xp1] : List Value).toArray below meth c H locs 0 0 (MQ below (hq_e D T (fun v _ _ => ∃ r : Int32, v = some (.int r) ∧ iv r 0 1)) ([.ref ap0, .int xp1] : List Value).toArray s 0 0 (hp_F T)) g
set_option maxHeartbeats 4000000 in
set_option maxRecDepth 100000 in
theorem sX4_readTest_8 (l : Launch) (D : hp_D) (T : hp_T) (ap0 : Nat) (xp1 : Int32) (ip0 : isRuleReader T ap0) (bp1 : iv xp1 8 8) : Met l yX4_readTest wsX4_readTest ({ frames := 12, cells := 0, slots := 0, locals := 297 }) (hp_Pc D T [.ref ap0, .int xp1] (fun _ => True)) (hq_e D T (fun v _ _ => ∃ r : Int32, v = some (.int r) ∧ iv r 0 1)) 0 0 (hp_F T) := by
  obtain ⟨ap0tp, ap0stp, hp0, ip0tp, hp0stp⟩ := id ip0
  obtain ⟨ap0tpbt, hp0tp, hp0tpbt⟩ := id ip0tp
  refine Met.ofW (cc := cX4_readTest) (maxL := 6) (ret := (some .boolean)) (by decide) rfl ?_
  intro p e s m args below meth c s₁ B hml hv
  obtain ⟨rfl, hok, hG, hB⟩ := hv
  have hx := B.exec
  have hb := B.bytes
  have hr := B.returns
  have hts := atoms_spec (ws := wsX4_readTest) B.pre
  have hown : s.vm.findClass RX4 = some m.cls := findClass_of_methodNamed B.named
  have hlocks := B.notSynchronized
  have hK := hG.1
  have hw : hp_w D T s s.heap [] := hp_w.rf hok
  have IX4 : ∀ w ∈ wsX40, w ∈ wsX4_readTest := by decide +kernel
  have L26 := hts (.fieldLink RX4 26 "PalmCensus$RuleReader" "tape" "LPalmCensus$Tape;") (by decide +kernel)
  have hl := lv_entry ([.ref ap0, .int xp1]) (n := 6) (Nat.le_of_ble_eq_true rfl)
  rw [lg_entry_eq]
  generalize (lg_sl ([.ref ap0, .int xp1]) ++ List.replicate (6 - (lg_sl ([.ref ap0, .int xp1])).length) Slot.unset).toArray = ls at hl ⊢
  have hl : lv_has ls 6 [(0, .ref ap0), (1, .int xp1)] := hl
  show WX4_readTest_8 p l e s m below meth c D T ap0 xp1 s.heap [] (F0 m 0 ls [])
  refine lv_aload_n hx hb dX4_readTest_0 rfl (lv_at hl 0 rfl) ?_
  refine lv_iload_n hx hb dX4_readTest_1 rfl (lv_at hl 1 rfl) ?_
  refine hp_callei (va_runV (As := [.int xp1]) (rest := []) ⟨hx, hb, hml, hown, hts⟩ (sX4_readFact_8 l D T ap0 xp1 ip0 bp1) (cwV 1 hts gX4_readTest_X4_readFact rfl rfl rfl (by decide +kernel) ⟨Nat.le_of_ble_eq_true rfl, Nat.le_of_ble_eq_true rfl⟩) (hp_preV hG hw hp0 rfl trivial) rfl rfl hl.1 rfl (lv_room (Nat.le_of_ble_eq_true rfl)) dX4_readTest_2 ⟨Nat.zero_le _, Nat.zero_le _⟩) hw (fun x2 st2 t2 H2 locs2 eh2 eg2 bx2 hw => ?_)
  refine lv_if_ne (tgt := 10) hx hb dX4_readTest_5 (by decide) (fun c5 => ?_) (fun c5 => ?_)
  · have r5tp : iv x2 1 1 := (iv_ne_lo c5 bx2 rfl).mono (by decide) (by decide)
    refine lv_iconst (v := 0) hx hb dX4_readTest_10 (by decide) ?_
    refine lv_istore_n (lv' := [(2, .int 0), (0, .ref ap0), (1, .int xp1)]) hx hb dX4_readTest_11 rfl hl (by decide) rfl (fun ls hl => ?_)
    refine lv_iconst (v := 0) hx hb dX4_readTest_12 (by decide) ?_
    refine lv_istore_n (lv' := [(3, .int 0), (2, .int 0), (0, .ref ap0), (1, .int xp1)]) hx hb dX4_readTest_13 rfl hl (by decide) rfl (fun ls hl => ?_)
    have J14 : ∀ (n : Nat) (y14_l2 y14_l3 : Int32), (400 - y14_l3.toInt).toNat < n → iv xp1 8 8 → iv y14_l2 0 1 → iv y14_l3 0 400 → ∀ (H : Heap) (locs : List Loc), hp_w D T s H locs → ∀ (ls : Array Slot), lv_has ls 6 [(0, .ref ap0), (1, .int xp1), (2, .int y14_l2), (3, .int y14_l3)] → WX4_readTest_8 p l e s m below meth c D T ap0 xp1 H locs (F0 m 14 ls []) := by
      intro n
      induction n with
      | zero => intro y14_l2 y14_l3 hmu14 c14_xp1 c14_y14_l2 c14_y14_l3 H14 locs14 hw ls hl; exact absurd hmu14 (Nat.not_lt_zero _)
      | succ n ih14 =>
        intro y14_l2 y14_l3 hmu14 c14_xp1 c14_y14_l2 c14_y14_l3 H14 locs14 hw ls hl
        refine lv_iload_n hx hb dX4_readTest_14 rfl (lv_at hl 3 rfl) ?_
        refine lv_sipush (v := 400) hx hb dX4_readTest_15 (by decide) ?_
        have J103 : iv y14_l2 0 1 → ∀ (H : Heap) (locs : List Loc), hp_w D T s H locs → ∀ (ls : Array Slot), lv_has ls 6 [(0, .ref ap0), (2, .int y14_l2)] → WX4_readTest_8 p l e s m below meth c D T ap0 xp1 H locs (F0 m 103 ls []) := by
          intro c103_y14_l2 H103 locs103 hw ls hl
          refine lv_iload_n hx hb dX4_readTest_103 rfl (lv_at hl 1 rfl) ?_
          have J121 : ∀ (H : Heap) (locs : List Loc), hp_w D T s H locs → ∀ (ls : Array Slot), lv_has ls 6 [] → WX4_readTest_8 p l e s m below meth c D T ap0 xp1 H locs (F0 m 121 ls [.int 1]) := by
            intro H121 locs121 hw ls hl
            exact W.zret (v := 1) hx hb hr (iv_nz (show iv 1 0 1 from ⟨by decide, by decide⟩)) (fun t ht hW => ⟨some (.int 1), rfl, ⟨(1 : Int32), rfl, (show iv 1 0 1 from ⟨by decide, by decide⟩)⟩, by rw [ht]; exact hw.1, hw.2.F ht⟩) hw.2.2.2 dX4_readTest_121
          have J116 : ∀ (H : Heap) (locs : List Loc), hp_w D T s H locs → ∀ (ls : Array Slot), lv_has ls 6 [] → WX4_readTest_8 p l e s m below meth c D T ap0 xp1 H locs (F0 m 116 ls []) := by
            intro H116 locs116 hw ls hl
            refine lv_iconst (v := 1) hx hb dX4_readTest_116 (by decide) ?_
            refine lv_goto (tgt := 121) hx hb dX4_readTest_117 (by decide) ?_
            exact J121 H116 locs116 hw _ (lv_sub hl [] rfl)
          refine lv_if_eq (tgt := 116) hx hb dX4_readTest_104 (by decide) (fun c104 => ?_) (fun c104 => ?_)
          · have r104tp : iv y14_l2 0 0 := (iv_both c103_y14_l2 (iv_eq (show iv 0 0 0 from ⟨by decide, by decide⟩) c104)).mono (by decide) (by decide)
            exact J116 H103 locs103 hw _ (lv_sub hl [] rfl)
          · have r104fp : iv y14_l2 1 1 := (iv_ne_lo c104 c103_y14_l2 rfl).mono (by decide) (by decide)
            refine lv_aload_n hx hb dX4_readTest_107 rfl (lv_at hl 0 rfl) ?_
            refine lv_bipush (v := (-42)) hx hb dX4_readTest_108 (by decide) ?_
            refine hp_callei (va_runV (As := [.int (-42)]) (rest := []) ⟨hx, hb, hml, hown, hts⟩ (sX4_write l D T ap0 ((-42) : Int32) ip0) (cwV 1 hts gX4_readTest_X4_write rfl rfl rfl (by decide +kernel) ⟨Nat.le_of_ble_eq_true rfl, Nat.le_of_ble_eq_true rfl⟩) (hp_preV hG hw hp0 rfl trivial) rfl rfl hl.1 rfl (lv_room (Nat.le_of_ble_eq_true rfl)) dX4_readTest_110 ⟨Nat.zero_le _, Nat.zero_le _⟩) hw (fun x110 st110 t110 H110 locs110 eh110 eg110 bx110 hw => ?_)
            refine lv_if_eq (tgt := 120) hx hb dX4_readTest_113 (by decide) (fun c113 => ?_) (fun c113 => ?_)
            · exact iv_abs2 c113 bx110 (show iv 0 0 0 from ⟨by decide, by decide⟩) (by decide)
            · exact J116 H110 locs110 hw _ (lv_sub hl [] rfl)
        refine lv_icmp_ge (tgt := 103) hx hb dX4_readTest_18 (by decide) (fun c18 => ?_) (fun c18 => ?_)
        · have r18tq : iv y14_l3 400 400 := (iv_le_r c18 (show iv 400 400 400 from ⟨by decide, by decide⟩) c14_y14_l3).mono (by decide) (by decide)
          exact J103 c14_y14_l2 H14 locs14 hw _ (lv_sub hl [0, 2] rfl)
        · have r18fp : iv y14_l3 0 399 := (iv_lt_l (iv_nle c18) c14_y14_l3 (show iv 400 400 400 from ⟨by decide, by decide⟩)).mono (by decide) (by decide)
          refine lv_aload_n hx hb dX4_readTest_21 rfl (lv_at hl 0 rfl) ?_
          refine hp_getr hx hb hts IX4 hown hK hw.1 hp0 rfl 0 (by decide) L26 rfl dX4_readTest_22 ?_
          refine va_ldcS hx hb hown hG.2.2.1.2.2.2.2.2.2.2.1 dX4_readTest_25 ?_
          refine hp_callei (va_runV (As := [.ref (D.2.2.1 7)]) (rest := []) ⟨hx, hb, hml, hown, hts⟩ (sX7_takeWord l D T ap0tp 7 ip0tp (by decide)) (cwV 1 hts gX4_readTest_X7_takeWord rfl rfl rfl (by decide +kernel) ⟨Nat.le_of_ble_eq_true rfl, Nat.le_of_ble_eq_true rfl⟩) (hp_preV hG hw hp0tp rfl trivial) rfl rfl hl.1 rfl (lv_room (Nat.le_of_ble_eq_true rfl)) dX4_readTest_27 ⟨Nat.zero_le _, Nat.zero_le _⟩) hw (fun x27 st27 t27 H27 locs27 eh27 eg27 bx27 hw => ?_)
          refine lv_istore (lv' := [(4, .int x27), (0, .ref ap0), (1, .int xp1), (2, .int y14_l2), (3, .int y14_l3)]) hx hb dX4_readTest_30 hl (by decide) rfl (fun ls hl => ?_)
          refine lv_iload hx hb dX4_readTest_32 (lv_at hl 0 rfl) ?_
          refine lv_iconst (v := (-1)) hx hb dX4_readTest_34 (by decide) ?_
          refine lv_icmp_ne (tgt := 41) hx hb dX4_readTest_35 (by decide) (fun c35 => ?_) (fun c35 => ?_)
          · refine lv_iload hx hb dX4_readTest_41 (lv_at hl 0 rfl) ?_
            refine lv_iconst (v := 1) hx hb dX4_readTest_43 (by decide) ?_
            have J52 : ∀ (y52_s0 : Int32), iv xp1 8 8 → iv y14_l2 0 1 → iv y14_l3 0 399 → iv y52_s0 0 1 → ∀ (H : Heap) (locs : List Loc), hp_w D T s H locs → ∀ (ls : Array Slot), lv_has ls 6 [(0, .ref ap0), (1, .int xp1), (2, .int y14_l2), (3, .int y14_l3)] → WX4_readTest_8 p l e s m below meth c D T ap0 xp1 H locs (F0 m 52 ls [.int y52_s0]) := by
              intro y52_s0 c52_xp1 c52_y14_l2 c52_y14_l3 c52_y52_s0 H52 locs52 hw ls hl
              refine lv_istore (lv' := [(5, .int y52_s0), (0, .ref ap0), (1, .int xp1), (2, .int y14_l2), (3, .int y14_l3)]) hx hb dX4_readTest_52 hl (by decide) rfl (fun ls hl => ?_)
              refine lv_iload hx hb dX4_readTest_54 (lv_at hl 0 rfl) ?_
              have J70 : iv xp1 8 8 → iv y14_l2 0 1 → iv y14_l3 0 399 → iv y52_s0 0 1 → ∀ (H : Heap) (locs : List Loc), hp_w D T s H locs → ∀ (ls : Array Slot), lv_has ls 6 [(0, .ref ap0), (1, .int xp1), (2, .int y14_l2), (3, .int y14_l3), (5, .int y52_s0)] → WX4_readTest_8 p l e s m below meth c D T ap0 xp1 H locs (F0 m 70 ls []) := by
                intro c70_xp1 c70_y14_l2 c70_y14_l3 c70_y52_s0 H70 locs70 hw ls hl
                refine lv_iload_n hx hb dX4_readTest_70 rfl (lv_at hl 2 rfl) ?_
                refine lv_iload hx hb dX4_readTest_71 (lv_at hl 4 rfl) ?_
                refine lv_ior hx hb dX4_readTest_73 ?_
                refine lv_topi (fun x73 ex73 => ?_)
                have bx73 : iv x73 0 1 := iv_or 1 c70_y14_l2 c70_y52_s0 ex73 (by decide) (by decide)
                refine lv_istore_n (lv' := [(2, .int x73), (0, .ref ap0), (1, .int xp1), (3, .int y14_l3), (5, .int y52_s0)]) hx hb dX4_readTest_74 rfl hl (by decide) rfl (fun ls hl => ?_)
                refine lv_aload_n hx hb dX4_readTest_75 rfl (lv_at hl 1 rfl) ?_
                refine lv_iload_n hx hb dX4_readTest_76 rfl (lv_at hl 2 rfl) ?_
                refine hp_callei (va_runV (As := [.int xp1]) (rest := []) ⟨hx, hb, hml, hown, hts⟩ (sX4_readFact_8 l D T ap0 xp1 ip0 c70_xp1) (cwV 1 hts gX4_readTest_X4_readFact rfl rfl rfl (by decide +kernel) ⟨Nat.le_of_ble_eq_true rfl, Nat.le_of_ble_eq_true rfl⟩) (hp_preV hG hw hp0 rfl trivial) rfl rfl hl.1 rfl (lv_room (Nat.le_of_ble_eq_true rfl)) dX4_readTest_77 ⟨Nat.zero_le _, Nat.zero_le _⟩) hw (fun x77 st77 t77 H77 locs77 eh77 eg77 bx77 hw => ?_)
                refine lv_if_ne (tgt := 85) hx hb dX4_readTest_80 (by decide) (fun c80 => ?_) (fun c80 => ?_)
                · have r80tp : iv x77 1 1 := (iv_ne_lo c80 bx77 rfl).mono (by decide) (by decide)
                  refine lv_iload hx hb dX4_readTest_85 (lv_at hl 4 rfl) ?_
                  have J97 : iv xp1 8 8 → iv x73 0 1 → iv y14_l3 0 399 → ∀ (H : Heap) (locs : List Loc), hp_w D T s H locs → ∀ (ls : Array Slot), lv_has ls 6 [(0, .ref ap0), (1, .int xp1), (2, .int x73), (3, .int y14_l3)] → WX4_readTest_8 p l e s m below meth c D T ap0 xp1 H locs (F0 m 97 ls []) := by
                    intro c97_xp1 c97_x73 c97_y14_l3 H97 locs97 hw ls hl
                    obtain ⟨x97, ex97⟩ : ∃ y : Int32, y = y14_l3 + 1 := ⟨_, rfl⟩
                    have bx97 : iv x97 1 400 := iv_add c97_y14_l3 (show iv 1 1 1 from ⟨by decide, by decide⟩) ex97 (by decide)
                    have qx97 := iv_add_eq c97_y14_l3 (show iv 1 1 1 from ⟨by decide, by decide⟩) ex97 (by decide)
                    refine lv_iinc (v := x97) (lv' := [(3, .int x97), (0, .ref ap0), (1, .int xp1), (2, .int x73)]) hx hb dX4_readTest_97 hl (k := 3) rfl (by rw [ex97]; rfl) (by decide) rfl (fun ls hl => ?_)
                    refine lv_goto (tgt := 14) hx hb dX4_readTest_100 (by decide) ?_
                    exact ih14 x73 x97 (mu_up 1 hmu14 (qx97) (by decide) (show iv x97 0 400 from (bx97.mono (by decide) (by decide))).2) c97_xp1 c97_x73 (bx97.mono (by decide) (by decide)) H97 locs97 hw _ (lv_sub hl [1, 2, 3, 0] rfl)
                  refine lv_if_ne (tgt := 97) hx hb dX4_readTest_87 (by decide) (fun c87 => ?_) (fun c87 => ?_)
                  · have r87tp : iv y52_s0 1 1 := (iv_ne_lo c87 c70_y52_s0 rfl).mono (by decide) (by decide)
                    exact J97 c70_xp1 bx73 c70_y14_l3 H77 locs77 hw _ (lv_sub hl [1, 2, 0, 3] rfl)
                  · have r87fp : iv y52_s0 0 0 := (iv_both c70_y52_s0 (iv_eq (show iv 0 0 0 from ⟨by decide, by decide⟩) c87)).mono (by decide) (by decide)
                    refine lv_aload_n hx hb dX4_readTest_90 rfl (lv_at hl 1 rfl) ?_
                    refine lv_bipush (v := (-41)) hx hb dX4_readTest_91 (by decide) ?_
                    refine hp_callei (va_runV (As := [.int (-41)]) (rest := []) ⟨hx, hb, hml, hown, hts⟩ (sX4_write l D T ap0 ((-41) : Int32) ip0) (cwV 1 hts gX4_readTest_X4_write rfl rfl rfl (by decide +kernel) ⟨Nat.le_of_ble_eq_true rfl, Nat.le_of_ble_eq_true rfl⟩) (hp_preV hG hw hp0 rfl trivial) rfl rfl hl.1 rfl (lv_room (Nat.le_of_ble_eq_true rfl)) dX4_readTest_93 ⟨Nat.zero_le _, Nat.zero_le _⟩) hw (fun x93 st93 t93 H93 locs93 eh93 eg93 bx93 hw => ?_)
                    refine lv_pop hx hb dX4_readTest_96 rfl ?_
                    exact J97 c70_xp1 bx73 c70_y14_l3 H93 locs93 hw _ (lv_sub hl [1, 2, 0, 3] rfl)
                · have r80fp : iv x77 0 0 := (iv_both bx77 (iv_eq (show iv 0 0 0 from ⟨by decide, by decide⟩) c80)).mono (by decide) (by decide)
                  refine lv_iconst (v := 0) hx hb dX4_readTest_83 (by decide) ?_
                  exact W.zret (v := 0) hx hb hr (iv_nz (show iv 0 0 1 from ⟨by decide, by decide⟩)) (fun t ht hW => ⟨some (.int 0), rfl, ⟨(0 : Int32), rfl, (show iv 0 0 1 from ⟨by decide, by decide⟩)⟩, by rw [ht]; exact hw.1, hw.2.F ht⟩) hw.2.2.2 dX4_readTest_84
              refine lv_if_eq (tgt := 70) hx hb dX4_readTest_56 (by decide) (fun c56 => ?_) (fun c56 => ?_)
              · have r56tp : iv y52_s0 0 0 := (iv_both c52_y52_s0 (iv_eq (show iv 0 0 0 from ⟨by decide, by decide⟩) c56)).mono (by decide) (by decide)
                exact J70 c52_xp1 c52_y14_l2 c52_y14_l3 (r56tp.mono (by decide) (by decide)) H52 locs52 hw _ (lv_sub hl [1, 2, 3, 4, 0] rfl)
              · have r56fp : iv y52_s0 1 1 := (iv_ne_lo c56 c52_y52_s0 rfl).mono (by decide) (by decide)
                refine lv_iload_n hx hb dX4_readTest_59 rfl (lv_at hl 3 rfl) ?_
                refine lv_if_eq (tgt := 70) hx hb dX4_readTest_60 (by decide) (fun c60 => ?_) (fun c60 => ?_)
                · have r60tp : iv y14_l2 0 0 := (iv_both c52_y14_l2 (iv_eq (show iv 0 0 0 from ⟨by decide, by decide⟩) c60)).mono (by decide) (by decide)
                  exact J70 c52_xp1 (r60tp.mono (by decide) (by decide)) c52_y14_l3 (r56fp.mono (by decide) (by decide)) H52 locs52 hw _ (lv_sub hl [1, 2, 3, 4, 0] rfl)
                · have r60fp : iv y14_l2 1 1 := (iv_ne_lo c60 c52_y14_l2 rfl).mono (by decide) (by decide)
                  refine lv_aload_n hx hb dX4_readTest_63 rfl (lv_at hl 1 rfl) ?_
                  refine lv_bipush (v := (-42)) hx hb dX4_readTest_64 (by decide) ?_
                  refine hp_callei (va_runV (As := [.int (-42)]) (rest := []) ⟨hx, hb, hml, hown, hts⟩ (sX4_write l D T ap0 ((-42) : Int32) ip0) (cwV 1 hts gX4_readTest_X4_write rfl rfl rfl (by decide +kernel) ⟨Nat.le_of_ble_eq_true rfl, Nat.le_of_ble_eq_true rfl⟩) (hp_preV hG hw hp0 rfl trivial) rfl rfl hl.1 rfl (lv_room (Nat.le_of_ble_eq_true rfl)) dX4_readTest_66 ⟨Nat.zero_le _, Nat.zero_le _⟩) hw (fun x66 st66 t66 H66 locs66 eh66 eg66 bx66 hw => ?_)
                  refine lv_pop hx hb dX4_readTest_69 rfl ?_
                  exact J70 c52_xp1 (r60fp.mono (by decide) (by decide)) c52_y14_l3 (r56fp.mono (by decide) (by decide)) H66 locs66 hw _ (lv_sub hl [1, 2, 3, 4, 0] rfl)
            refine lv_icmp_ne (tgt := 51) hx hb dX4_readTest_44 (by decide) (fun c44 => ?_) (fun c44 => ?_)
            · refine lv_iconst (v := 0) hx hb dX4_readTest_51 (by decide) ?_
              exact J52 (0 : Int32) c14_xp1 c14_y14_l2 r18fp (show iv 0 0 1 from ⟨by decide, by decide⟩) H27 locs27 hw _ (lv_sub hl [1, 2, 3, 4] rfl)
            · have r44fp : iv x27 1 1 := (iv_both (iv_any x27) (iv_eq (show iv 1 1 1 from ⟨by decide, by decide⟩) c44)).mono (by decide) (by decide)
              refine lv_iconst (v := 1) hx hb dX4_readTest_47 (by decide) ?_
              refine lv_goto (tgt := 52) hx hb dX4_readTest_48 (by decide) ?_
              exact J52 (1 : Int32) c14_xp1 c14_y14_l2 r18fp (show iv 1 0 1 from ⟨by decide, by decide⟩) H27 locs27 hw _ (lv_sub hl [1, 2, 3, 4] rfl)
          · have r35fp : iv x27 (-1) (-1) := (iv_both (iv_any x27) (iv_eq (show iv (-1) (-1) (-1) from ⟨by decide, by decide⟩) c35)).mono (by decide) (by decide)
            refine lv_goto (tgt := 103) hx hb dX4_readTest_38 (by decide) ?_
            exact J103 c14_y14_l2 H27 locs27 hw _ (lv_sub hl [1, 3] rfl)
    exact J14 _ (0 : Int32) (0 : Int32) (Nat.lt_succ_self _) bp1 (show iv 0 0 1 from ⟨by decide, by decide⟩) (show iv 0 0 400 from ⟨by decide, by decide⟩) H2 locs2 hw _ (lv_sub hl [2, 3, 1, 0] rfl)
  · have r5fp : iv x2 0 0 := (iv_both bx2 (iv_eq (show iv 0 0 0 from ⟨by decide, by decide⟩) c5)).mono (by decide) (by decide)
    refine lv_iconst (v := 0) hx hb dX4_readTest_8 (by decide) ?_
    exact W.zret (v := 0) hx hb hr (iv_nz (show iv 0 0 1 from ⟨by decide, by decide⟩)) (fun t ht hW => ⟨some (.int 0), rfl, ⟨(0 : Int32), rfl, (show iv 0 0 1 from ⟨by decide, by decide⟩)⟩, by rw [ht]; exact hw.1, hw.2.F ht⟩) hw.2.2.2 dX4_readTest_9
abbrev WX4_readFact_7 (p : Program) (l : Launch) (e : Env) (s : State) (m : MethodId) (below : List Frame) (meth : Method) (c : Code) (D : hp_D) (T : hp_T) (ap0 : Nat) (xp1 : Int32) (H : Heap) (locs : List Loc) (g : JFrame) : Prop := W p l e (headSpec wsX4_readFact ({ frames := 13, cells := 0, slots := 0, locals := 322 })).room s m ([.ref ap0, .int xp1] : List Value).toArray below meth c H locs 0 0 (MQ below (hq_e D T (fun v _ _ => ∃ r : Int32, v = some (.int r) ∧ iv r 0 1)) ([.ref ap0, .int xp1] : List Value).toArray s 0 0 (hp_F T)) g
set_option maxHeartbeats 4000000 in
set_option maxRecDepth 100000 in
theorem sX4_readFact_7 (l : Launch) (D : hp_D) (T : hp_T) (ap0 : Nat) (xp1 : Int32) (ip0 : isRuleReader T ap0) (bp1 : iv xp1 7 7) : Met l yX4_readFact wsX4_readFact ({ frames := 13, cells := 0, slots := 0, locals := 322 }) (hp_Pc D T [.ref ap0, .int xp1] (fun _ => True)) (hq_e D T (fun v _ _ => ∃ r : Int32, v = some (.int r) ∧ iv r 0 1)) 0 0 (hp_F T) := by
  obtain ⟨ap0tp, ap0stp, hp0, ip0tp, hp0stp⟩ := id ip0
  obtain ⟨ap0tpbt, hp0tp, hp0tpbt⟩ := id ip0tp
  refine Met.ofW (cc := cX4_readFact) (maxL := 5) (ret := (some .boolean)) (by decide) rfl ?_
  intro p e s m args below meth c s₁ B hml hv
  obtain ⟨rfl, hok, hG, hB⟩ := hv
  have hx := B.exec
  have hb := B.bytes
  have hr := B.returns
  have hts := atoms_spec (ws := wsX4_readFact) B.pre
  have hown : s.vm.findClass RX4 = some m.cls := findClass_of_methodNamed B.named
  have hlocks := B.notSynchronized
  have hK := hG.1
  have hw : hp_w D T s s.heap [] := hp_w.rf hok
  have IX4 : ∀ w ∈ wsX40, w ∈ wsX4_readFact := by decide +kernel
  have L26 := hts (.fieldLink RX4 26 "PalmCensus$RuleReader" "tape" "LPalmCensus$Tape;") (by decide +kernel)
  have hl := lv_entry ([.ref ap0, .int xp1]) (n := 5) (Nat.le_of_ble_eq_true rfl)
  rw [lg_entry_eq]
  generalize (lg_sl ([.ref ap0, .int xp1]) ++ List.replicate (5 - (lg_sl ([.ref ap0, .int xp1])).length) Slot.unset).toArray = ls at hl ⊢
  have hl : lv_has ls 5 [(0, .ref ap0), (1, .int xp1)] := hl
  show WX4_readFact_7 p l e s m below meth c D T ap0 xp1 s.heap [] (F0 m 0 ls [])
  refine lv_aload_n hx hb dX4_readFact_0 rfl (lv_at hl 0 rfl) ?_
  refine hp_getr hx hb hts IX4 hown hK hw.1 hp0 rfl 0 (by decide) L26 rfl dX4_readFact_1 ?_
  refine va_ldcS hx hb hown hG.2.2.1.2.2.2.2.2.2.2.2.1 dX4_readFact_4 ?_
  refine hp_callei (va_runV (As := [.ref (D.2.2.1 8)]) (rest := []) ⟨hx, hb, hml, hown, hts⟩ (sX7_takeSignOf l D T ap0tp 8 ip0tp (by decide)) (cwV 1 hts gX4_readFact_X7_takeSignOf rfl rfl rfl (by decide +kernel) ⟨Nat.le_of_ble_eq_true rfl, Nat.le_of_ble_eq_true rfl⟩) (hp_preV hG hw hp0tp rfl trivial) rfl rfl hl.1 rfl (lv_room (Nat.le_of_ble_eq_true rfl)) dX4_readFact_6 ⟨Nat.zero_le _, Nat.zero_le _⟩) hw (fun x6 st6 t6 H6 locs6 eh6 eg6 bx6 hw => ?_)
  refine lv_iconst (v := (-1)) hx hb dX4_readFact_9 (by decide) ?_
  have J18 : ∀ (y18_s0 : Int32), iv xp1 7 7 → iv y18_s0 0 1 → ∀ (H : Heap) (locs : List Loc), hp_w D T s H locs → ∀ (ls : Array Slot), lv_has ls 5 [(0, .ref ap0), (1, .int xp1)] → WX4_readFact_7 p l e s m below meth c D T ap0 xp1 H locs (F0 m 18 ls [.int y18_s0]) := by
    intro y18_s0 c18_xp1 c18_y18_s0 H18 locs18 hw ls hl
    refine lv_istore_n (lv' := [(2, .int y18_s0), (0, .ref ap0), (1, .int xp1)]) hx hb dX4_readFact_18 rfl hl (by decide) rfl (fun ls hl => ?_)
    refine lv_iload_n hx hb dX4_readFact_19 rfl (lv_at hl 0 rfl) ?_
    have J41 : ∀ (y41_s0 : Int32), iv xp1 7 7 → iv y18_s0 0 1 → iv y41_s0 0 1 → ∀ (H : Heap) (locs : List Loc), hp_w D T s H locs → ∀ (ls : Array Slot), lv_has ls 5 [(0, .ref ap0), (1, .int xp1), (2, .int y18_s0)] → WX4_readFact_7 p l e s m below meth c D T ap0 xp1 H locs (F0 m 41 ls [.int y41_s0]) := by
      intro y41_s0 c41_xp1 c41_y18_s0 c41_y41_s0 H41 locs41 hw ls hl
      refine lv_istore_n (lv' := [(3, .int y41_s0), (0, .ref ap0), (1, .int xp1), (2, .int y18_s0)]) hx hb dX4_readFact_41 rfl hl (by decide) rfl (fun ls hl => ?_)
      refine lv_iload_n hx hb dX4_readFact_42 rfl (lv_at hl 3 rfl) ?_
      have J92 : iv xp1 7 7 → iv y41_s0 0 1 → ∀ (H : Heap) (locs : List Loc), hp_w D T s H locs → ∀ (ls : Array Slot), lv_has ls 5 [(0, .ref ap0), (1, .int xp1), (3, .int y41_s0)] → WX4_readFact_7 p l e s m below meth c D T ap0 xp1 H locs (F0 m 92 ls []) := by
        intro c92_xp1 c92_y41_s0 H92 locs92 hw ls hl
        refine lv_iload_n hx hb dX4_readFact_92 rfl (lv_at hl 1 rfl) ?_
        refine lv_bipush (v := 10) hx hb dX4_readFact_93 (by decide) ?_
        refine lv_icmp_lt (tgt := 114) hx hb dX4_readFact_95 (by decide) (fun c95 => ?_) (fun c95 => ?_)
        · refine lv_iload_n hx hb dX4_readFact_114 rfl (lv_at hl 2 rfl) ?_
          refine lv_if_eq (tgt := 143) hx hb dX4_readFact_115 (by decide) (fun c115 => ?_) (fun c115 => ?_)
          · have r115tp : iv y41_s0 0 0 := (iv_both c92_y41_s0 (iv_eq (show iv 0 0 0 from ⟨by decide, by decide⟩) c115)).mono (by decide) (by decide)
            refine lv_aload_n hx hb dX4_readFact_143 rfl (lv_at hl 0 rfl) ?_
            refine lv_iload_n hx hb dX4_readFact_144 rfl (lv_at hl 1 rfl) ?_
            refine lv_iconst (v := 1) hx hb dX4_readFact_145 (by decide) ?_
            refine lv_iadd hx hb dX4_readFact_146 ?_
            refine lv_topi (fun x146 ex146 => ?_)
            have bx146 : iv x146 8 8 := iv_add c92_xp1 (show iv 1 1 1 from ⟨by decide, by decide⟩) ex146 (by decide)
            have qx146 := iv_add_eq c92_xp1 (show iv 1 1 1 from ⟨by decide, by decide⟩) ex146 (by decide)
            refine hp_callei (va_runV (As := [.int x146]) (rest := []) ⟨hx, hb, hml, hown, hts⟩ (sX4_readTest_8 l D T ap0 x146 ip0 bx146) (cwV 1 hts gX4_readFact_X4_readTest rfl rfl rfl (by decide +kernel) ⟨Nat.le_of_ble_eq_true rfl, Nat.le_of_ble_eq_true rfl⟩) (hp_preV hG hw hp0 rfl trivial) rfl rfl hl.1 rfl (lv_room (Nat.le_of_ble_eq_true rfl)) dX4_readFact_147 ⟨Nat.zero_le _, Nat.zero_le _⟩) hw (fun x147 st147 t147 H147 locs147 eh147 eg147 bx147 hw => ?_)
            have J170 : ∀ (y170_s0 : Int32), iv y170_s0 0 1 → ∀ (H : Heap) (locs : List Loc), hp_w D T s H locs → ∀ (ls : Array Slot), lv_has ls 5 [] → WX4_readFact_7 p l e s m below meth c D T ap0 xp1 H locs (F0 m 170 ls [.int y170_s0]) := by
              intro y170_s0 c170_y170_s0 H170 locs170 hw ls hl
              exact W.zret (v := y170_s0) hx hb hr (iv_nz c170_y170_s0) (fun t ht hW => ⟨some (.int y170_s0), rfl, ⟨y170_s0, rfl, c170_y170_s0⟩, by rw [ht]; exact hw.1, hw.2.F ht⟩) hw.2.2.2 dX4_readFact_170
            have J169 : ∀ (H : Heap) (locs : List Loc), hp_w D T s H locs → ∀ (ls : Array Slot), lv_has ls 5 [] → WX4_readFact_7 p l e s m below meth c D T ap0 xp1 H locs (F0 m 169 ls []) := by
              intro H169 locs169 hw ls hl
              refine lv_iconst (v := 0) hx hb dX4_readFact_169 (by decide) ?_
              exact J170 (0 : Int32) (show iv 0 0 1 from ⟨by decide, by decide⟩) H169 locs169 hw _ (lv_sub hl [] rfl)
            refine lv_if_eq (tgt := 169) hx hb dX4_readFact_150 (by decide) (fun c150 => ?_) (fun c150 => ?_)
            · have r150tp : iv x147 0 0 := (iv_both bx147 (iv_eq (show iv 0 0 0 from ⟨by decide, by decide⟩) c150)).mono (by decide) (by decide)
              exact J169 H147 locs147 hw _ (lv_sub hl [] rfl)
            · have r150fp : iv x147 1 1 := (iv_ne_lo c150 bx147 rfl).mono (by decide) (by decide)
              refine lv_aload_n hx hb dX4_readFact_153 rfl (lv_at hl 0 rfl) ?_
              refine hp_getr hx hb hts IX4 hown hK hw.1 hp0 rfl 0 (by decide) L26 rfl dX4_readFact_154 ?_
              refine va_ldcS hx hb hown hG.2.2.1.1 dX4_readFact_157 ?_
              refine hp_callei (va_runV (As := [.ref (D.2.2.1 0)]) (rest := []) ⟨hx, hb, hml, hown, hts⟩ (sX7_needSign l D T ap0tp 0 ip0tp (by decide)) (cwV 1 hts gX4_readFact_X7_needSign rfl rfl rfl (by decide +kernel) ⟨Nat.le_of_ble_eq_true rfl, Nat.le_of_ble_eq_true rfl⟩) (hp_preV hG hw hp0tp rfl trivial) rfl rfl hl.1 rfl (lv_room (Nat.le_of_ble_eq_true rfl)) dX4_readFact_159 ⟨Nat.zero_le _, Nat.zero_le _⟩) hw (fun x159 st159 t159 H159 locs159 eh159 eg159 bx159 hw => ?_)
              refine lv_if_eq (tgt := 169) hx hb dX4_readFact_162 (by decide) (fun c162 => ?_) (fun c162 => ?_)
              · have r162tp : iv x159 0 0 := (iv_both bx159 (iv_eq (show iv 0 0 0 from ⟨by decide, by decide⟩) c162)).mono (by decide) (by decide)
                exact J169 H159 locs159 hw _ (lv_sub hl [] rfl)
              · have r162fp : iv x159 1 1 := (iv_ne_lo c162 bx159 rfl).mono (by decide) (by decide)
                refine lv_iconst (v := 1) hx hb dX4_readFact_165 (by decide) ?_
                refine lv_goto (tgt := 170) hx hb dX4_readFact_166 (by decide) ?_
                exact J170 (1 : Int32) (show iv 1 0 1 from ⟨by decide, by decide⟩) H159 locs159 hw _ (lv_sub hl [] rfl)
          · have r115fp : iv y41_s0 1 1 := (iv_ne_lo c115 c92_y41_s0 rfl).mono (by decide) (by decide)
            refine lv_aload_n hx hb dX4_readFact_118 rfl (lv_at hl 0 rfl) ?_
            refine lv_iload_n hx hb dX4_readFact_119 rfl (lv_at hl 1 rfl) ?_
            refine lv_iconst (v := 1) hx hb dX4_readFact_120 (by decide) ?_
            refine lv_iadd hx hb dX4_readFact_121 ?_
            refine lv_topi (fun x121 ex121 => ?_)
            have bx121 : iv x121 8 8 := iv_add c92_xp1 (show iv 1 1 1 from ⟨by decide, by decide⟩) ex121 (by decide)
            have qx121 := iv_add_eq c92_xp1 (show iv 1 1 1 from ⟨by decide, by decide⟩) ex121 (by decide)
            refine hp_callei (va_runV (As := [.int x121]) (rest := []) ⟨hx, hb, hml, hown, hts⟩ (sX4_readFact_8 l D T ap0 x121 ip0 bx121) (cwV 1 hts gX4_readFact_X4_readFact rfl rfl rfl (by decide +kernel) ⟨Nat.le_of_ble_eq_true rfl, Nat.le_of_ble_eq_true rfl⟩) (hp_preV hG hw hp0 rfl trivial) rfl rfl hl.1 rfl (lv_room (Nat.le_of_ble_eq_true rfl)) dX4_readFact_122 ⟨Nat.zero_le _, Nat.zero_le _⟩) hw (fun x122 st122 t122 H122 locs122 eh122 eg122 bx122 hw => ?_)
            have J142 : ∀ (y142_s0 : Int32), iv y142_s0 0 1 → ∀ (H : Heap) (locs : List Loc), hp_w D T s H locs → ∀ (ls : Array Slot), lv_has ls 5 [] → WX4_readFact_7 p l e s m below meth c D T ap0 xp1 H locs (F0 m 142 ls [.int y142_s0]) := by
              intro y142_s0 c142_y142_s0 H142 locs142 hw ls hl
              exact W.zret (v := y142_s0) hx hb hr (iv_nz c142_y142_s0) (fun t ht hW => ⟨some (.int y142_s0), rfl, ⟨y142_s0, rfl, c142_y142_s0⟩, by rw [ht]; exact hw.1, hw.2.F ht⟩) hw.2.2.2 dX4_readFact_142
            have J141 : ∀ (H : Heap) (locs : List Loc), hp_w D T s H locs → ∀ (ls : Array Slot), lv_has ls 5 [] → WX4_readFact_7 p l e s m below meth c D T ap0 xp1 H locs (F0 m 141 ls []) := by
              intro H141 locs141 hw ls hl
              refine lv_iconst (v := 0) hx hb dX4_readFact_141 (by decide) ?_
              exact J142 (0 : Int32) (show iv 0 0 1 from ⟨by decide, by decide⟩) H141 locs141 hw _ (lv_sub hl [] rfl)
            refine lv_if_eq (tgt := 141) hx hb dX4_readFact_125 (by decide) (fun c125 => ?_) (fun c125 => ?_)
            · have r125tp : iv x122 0 0 := (iv_both bx122 (iv_eq (show iv 0 0 0 from ⟨by decide, by decide⟩) c125)).mono (by decide) (by decide)
              exact J141 H122 locs122 hw _ (lv_sub hl [] rfl)
            · have r125fp : iv x122 1 1 := (iv_ne_lo c125 bx122 rfl).mono (by decide) (by decide)
              refine lv_aload_n hx hb dX4_readFact_128 rfl (lv_at hl 0 rfl) ?_
              refine lv_bipush (v := (-43)) hx hb dX4_readFact_129 (by decide) ?_
              refine hp_callei (va_runV (As := [.int (-43)]) (rest := []) ⟨hx, hb, hml, hown, hts⟩ (sX4_write l D T ap0 ((-43) : Int32) ip0) (cwV 1 hts gX4_readFact_X4_write rfl rfl rfl (by decide +kernel) ⟨Nat.le_of_ble_eq_true rfl, Nat.le_of_ble_eq_true rfl⟩) (hp_preV hG hw hp0 rfl trivial) rfl rfl hl.1 rfl (lv_room (Nat.le_of_ble_eq_true rfl)) dX4_readFact_131 ⟨Nat.zero_le _, Nat.zero_le _⟩) hw (fun x131 st131 t131 H131 locs131 eh131 eg131 bx131 hw => ?_)
              refine lv_if_eq (tgt := 141) hx hb dX4_readFact_134 (by decide) (fun c134 => ?_) (fun c134 => ?_)
              · exact iv_abs2 c134 bx131 (show iv 0 0 0 from ⟨by decide, by decide⟩) (by decide)
              · refine lv_iconst (v := 1) hx hb dX4_readFact_137 (by decide) ?_
                refine lv_goto (tgt := 142) hx hb dX4_readFact_138 (by decide) ?_
                exact J142 (1 : Int32) (show iv 1 0 1 from ⟨by decide, by decide⟩) H131 locs131 hw _ (lv_sub hl [] rfl)
        · exact iv_abs (iv_le_l (iv_nlt c95) (show iv 10 10 10 from ⟨by decide, by decide⟩) c92_xp1) (by decide)
      refine lv_if_ne (tgt := 92) hx hb dX4_readFact_43 (by decide) (fun c43 => ?_) (fun c43 => ?_)
      · have r43tp : iv y18_s0 1 1 := (iv_ne_lo c43 c41_y18_s0 rfl).mono (by decide) (by decide)
        exact J92 c41_xp1 c41_y41_s0 H41 locs41 hw _ (lv_sub hl [1, 2, 0] rfl)
      · have r43fp : iv y18_s0 0 0 := (iv_both c41_y18_s0 (iv_eq (show iv 0 0 0 from ⟨by decide, by decide⟩) c43)).mono (by decide) (by decide)
        refine lv_iload_n hx hb dX4_readFact_46 rfl (lv_at hl 0 rfl) ?_
        refine lv_if_ne (tgt := 92) hx hb dX4_readFact_47 (by decide) (fun c47 => ?_) (fun c47 => ?_)
        · have r47tp : iv y41_s0 1 1 := (iv_ne_lo c47 c41_y41_s0 rfl).mono (by decide) (by decide)
          exact J92 c41_xp1 (r47tp.mono (by decide) (by decide)) H41 locs41 hw _ (lv_sub hl [1, 2, 0] rfl)
        · have r47fp : iv y41_s0 0 0 := (iv_both c41_y41_s0 (iv_eq (show iv 0 0 0 from ⟨by decide, by decide⟩) c47)).mono (by decide) (by decide)
          refine lv_aload_n hx hb dX4_readFact_50 rfl (lv_at hl 1 rfl) ?_
          refine hp_callei (va_runV (As := []) (rest := []) ⟨hx, hb, hml, hown, hts⟩ (sX4_readSum l D T ap0 ip0) (cwV 0 hts gX4_readFact_X4_readSum rfl rfl rfl (by decide +kernel) ⟨Nat.le_of_ble_eq_true rfl, Nat.le_of_ble_eq_true rfl⟩) (hp_preV hG hw hp0 rfl trivial) rfl rfl hl.1 rfl (lv_room (Nat.le_of_ble_eq_true rfl)) dX4_readFact_51 ⟨Nat.zero_le _, Nat.zero_le _⟩) hw (fun x51 st51 t51 H51 locs51 eh51 eg51 bx51 hw => ?_)
          refine lv_if_ne (tgt := 59) hx hb dX4_readFact_54 (by decide) (fun c54 => ?_) (fun c54 => ?_)
          · have r54tp : iv x51 1 1 := (iv_ne_lo c54 bx51 rfl).mono (by decide) (by decide)
            refine lv_aload_n hx hb dX4_readFact_59 rfl (lv_at hl 1 rfl) ?_
            refine hp_callei (va_runV (As := []) (rest := []) ⟨hx, hb, hml, hown, hts⟩ (sX4_readSign l D T ap0 ip0) (cwV 0 hts gX4_readFact_X4_readSign rfl rfl rfl (by decide +kernel) ⟨Nat.le_of_ble_eq_true rfl, Nat.le_of_ble_eq_true rfl⟩) (hp_preV hG hw hp0 rfl trivial) rfl rfl hl.1 rfl (lv_room (Nat.le_of_ble_eq_true rfl)) dX4_readFact_60 ⟨Nat.zero_le _, Nat.zero_le _⟩) hw (fun x60 st60 t60 H60 locs60 eh60 eg60 bx60 hw => ?_)
            refine lv_istore (lv' := [(4, .int x60), (3, .int y41_s0), (0, .ref ap0), (1, .int xp1), (2, .int y18_s0)]) hx hb dX4_readFact_63 hl (by decide) rfl (fun ls hl => ?_)
            refine lv_iload hx hb dX4_readFact_65 (lv_at hl 0 rfl) ?_
            have J91 : ∀ (y91_s0 : Int32), iv y91_s0 0 1 → ∀ (H : Heap) (locs : List Loc), hp_w D T s H locs → ∀ (ls : Array Slot), lv_has ls 5 [] → WX4_readFact_7 p l e s m below meth c D T ap0 xp1 H locs (F0 m 91 ls [.int y91_s0]) := by
              intro y91_s0 c91_y91_s0 H91 locs91 hw ls hl
              exact W.zret (v := y91_s0) hx hb hr (iv_nz c91_y91_s0) (fun t ht hW => ⟨some (.int y91_s0), rfl, ⟨y91_s0, rfl, c91_y91_s0⟩, by rw [ht]; exact hw.1, hw.2.F ht⟩) hw.2.2.2 dX4_readFact_91
            have J90 : ∀ (H : Heap) (locs : List Loc), hp_w D T s H locs → ∀ (ls : Array Slot), lv_has ls 5 [] → WX4_readFact_7 p l e s m below meth c D T ap0 xp1 H locs (F0 m 90 ls []) := by
              intro H90 locs90 hw ls hl
              refine lv_iconst (v := 0) hx hb dX4_readFact_90 (by decide) ?_
              exact J91 (0 : Int32) (show iv 0 0 1 from ⟨by decide, by decide⟩) H90 locs90 hw _ (lv_sub hl [] rfl)
            refine lv_if_eq (tgt := 90) hx hb dX4_readFact_67 (by decide) (fun c67 => ?_) (fun c67 => ?_)
            · have r67tp : iv x60 0 0 := (iv_both (iv_any x60) (iv_eq (show iv 0 0 0 from ⟨by decide, by decide⟩) c67)).mono (by decide) (by decide)
              exact J90 H60 locs60 hw _ (lv_sub hl [] rfl)
            · refine lv_aload_n hx hb dX4_readFact_70 rfl (lv_at hl 2 rfl) ?_
              refine hp_callei (va_runV (As := []) (rest := []) ⟨hx, hb, hml, hown, hts⟩ (sX4_readSum l D T ap0 ip0) (cwV 0 hts gX4_readFact_X4_readSum rfl rfl rfl (by decide +kernel) ⟨Nat.le_of_ble_eq_true rfl, Nat.le_of_ble_eq_true rfl⟩) (hp_preV hG hw hp0 rfl trivial) rfl rfl hl.1 rfl (lv_room (Nat.le_of_ble_eq_true rfl)) dX4_readFact_71 ⟨Nat.zero_le _, Nat.zero_le _⟩) hw (fun x71 st71 t71 H71 locs71 eh71 eg71 bx71 hw => ?_)
              refine lv_if_eq (tgt := 90) hx hb dX4_readFact_74 (by decide) (fun c74 => ?_) (fun c74 => ?_)
              · have r74tp : iv x71 0 0 := (iv_both bx71 (iv_eq (show iv 0 0 0 from ⟨by decide, by decide⟩) c74)).mono (by decide) (by decide)
                exact J90 H71 locs71 hw _ (lv_sub hl [] rfl)
              · have r74fp : iv x71 1 1 := (iv_ne_lo c74 bx71 rfl).mono (by decide) (by decide)
                refine lv_aload_n hx hb dX4_readFact_77 rfl (lv_at hl 2 rfl) ?_
                refine lv_iload hx hb dX4_readFact_78 (lv_at hl 0 rfl) ?_
                refine hp_callei (va_runV (As := [.int x60]) (rest := []) ⟨hx, hb, hml, hown, hts⟩ (sX4_write l D T ap0 x60 ip0) (cwV 1 hts gX4_readFact_X4_write rfl rfl rfl (by decide +kernel) ⟨Nat.le_of_ble_eq_true rfl, Nat.le_of_ble_eq_true rfl⟩) (hp_preV hG hw hp0 rfl trivial) rfl rfl hl.1 rfl (lv_room (Nat.le_of_ble_eq_true rfl)) dX4_readFact_80 ⟨Nat.zero_le _, Nat.zero_le _⟩) hw (fun x80 st80 t80 H80 locs80 eh80 eg80 bx80 hw => ?_)
                refine lv_if_eq (tgt := 90) hx hb dX4_readFact_83 (by decide) (fun c83 => ?_) (fun c83 => ?_)
                · exact iv_abs2 c83 bx80 (show iv 0 0 0 from ⟨by decide, by decide⟩) (by decide)
                · refine lv_iconst (v := 1) hx hb dX4_readFact_86 (by decide) ?_
                  refine lv_goto (tgt := 91) hx hb dX4_readFact_87 (by decide) ?_
                  exact J91 (1 : Int32) (show iv 1 0 1 from ⟨by decide, by decide⟩) H80 locs80 hw _ (lv_sub hl [] rfl)
          · have r54fp : iv x51 0 0 := (iv_both bx51 (iv_eq (show iv 0 0 0 from ⟨by decide, by decide⟩) c54)).mono (by decide) (by decide)
            refine lv_iconst (v := 0) hx hb dX4_readFact_57 (by decide) ?_
            exact W.zret (v := 0) hx hb hr (iv_nz (show iv 0 0 1 from ⟨by decide, by decide⟩)) (fun t ht hW => ⟨some (.int 0), rfl, ⟨(0 : Int32), rfl, (show iv 0 0 1 from ⟨by decide, by decide⟩)⟩, by rw [ht]; exact hw.1, hw.2.F ht⟩) hw.2.2.2 dX4_readFact_58
    have J40 : iv xp1 7 7 → iv y18_s0 0 1 → ∀ (H : Heap) (locs : List Loc), hp_w D T s H locs → ∀ (ls : Array Slot), lv_has ls 5 [(0, .ref ap0), (1, .int xp1), (2, .int y18_s0)] → WX4_readFact_7 p l e s m below meth c D T ap0 xp1 H locs (F0 m 40 ls []) := by
      intro c40_xp1 c40_y18_s0 H40 locs40 hw ls hl
      refine lv_iconst (v := 0) hx hb dX4_readFact_40 (by decide) ?_
      exact J41 (0 : Int32) c40_xp1 c40_y18_s0 (show iv 0 0 1 from ⟨by decide, by decide⟩) H40 locs40 hw _ (lv_sub hl [0, 1, 2] rfl)
    refine lv_if_ne (tgt := 40) hx hb dX4_readFact_20 (by decide) (fun c20 => ?_) (fun c20 => ?_)
    · have r20tp : iv y18_s0 1 1 := (iv_ne_lo c20 c18_y18_s0 rfl).mono (by decide) (by decide)
      exact J40 c18_xp1 (r20tp.mono (by decide) (by decide)) H18 locs18 hw _ (lv_sub hl [1, 2, 0] rfl)
    · have r20fp : iv y18_s0 0 0 := (iv_both c18_y18_s0 (iv_eq (show iv 0 0 0 from ⟨by decide, by decide⟩) c20)).mono (by decide) (by decide)
      refine lv_aload_n hx hb dX4_readFact_23 rfl (lv_at hl 1 rfl) ?_
      refine hp_getr hx hb hts IX4 hown hK hw.1 hp0 rfl 0 (by decide) L26 rfl dX4_readFact_24 ?_
      refine va_ldcS hx hb hown hG.2.2.1.2.2.2.2.2.2.2.2.2.1 dX4_readFact_27 ?_
      refine hp_callei (va_runV (As := [.ref (D.2.2.1 9)]) (rest := []) ⟨hx, hb, hml, hown, hts⟩ (sX7_takeWord l D T ap0tp 9 ip0tp (by decide)) (cwV 1 hts gX4_readFact_X7_takeWord rfl rfl rfl (by decide +kernel) ⟨Nat.le_of_ble_eq_true rfl, Nat.le_of_ble_eq_true rfl⟩) (hp_preV hG hw hp0tp rfl trivial) rfl rfl hl.1 rfl (lv_room (Nat.le_of_ble_eq_true rfl)) dX4_readFact_29 ⟨Nat.zero_le _, Nat.zero_le _⟩) hw (fun x29 st29 t29 H29 locs29 eh29 eg29 bx29 hw => ?_)
      refine lv_iconst (v := (-1)) hx hb dX4_readFact_32 (by decide) ?_
      refine lv_icmp_eq (tgt := 40) hx hb dX4_readFact_33 (by decide) (fun c33 => ?_) (fun c33 => ?_)
      · have r33tp : iv x29 (-1) (-1) := (iv_both (iv_any x29) (iv_eq (show iv (-1) (-1) (-1) from ⟨by decide, by decide⟩) c33)).mono (by decide) (by decide)
        exact J40 c18_xp1 (r20fp.mono (by decide) (by decide)) H29 locs29 hw _ (lv_sub hl [1, 2, 0] rfl)
      · refine lv_iconst (v := 1) hx hb dX4_readFact_36 (by decide) ?_
        refine lv_goto (tgt := 41) hx hb dX4_readFact_37 (by decide) ?_
        exact J41 (1 : Int32) c18_xp1 (r20fp.mono (by decide) (by decide)) (show iv 1 0 1 from ⟨by decide, by decide⟩) H29 locs29 hw _ (lv_sub hl [1, 2, 0] rfl)
  refine lv_icmp_eq (tgt := 17) hx hb dX4_readFact_10 (by decide) (fun c10 => ?_) (fun c10 => ?_)
  · have r10tp : iv x6 (-1) (-1) := (iv_both (iv_any x6) (iv_eq (show iv (-1) (-1) (-1) from ⟨by decide, by decide⟩) c10)).mono (by decide) (by decide)
    refine lv_iconst (v := 0) hx hb dX4_readFact_17 (by decide) ?_
    exact J18 (0 : Int32) bp1 (show iv 0 0 1 from ⟨by decide, by decide⟩) H6 locs6 hw _ (lv_sub hl [0, 1] rfl)
  · refine lv_iconst (v := 1) hx hb dX4_readFact_13 (by decide) ?_
    refine lv_goto (tgt := 18) hx hb dX4_readFact_14 (by decide) ?_
    exact J18 (1 : Int32) bp1 (show iv 1 0 1 from ⟨by decide, by decide⟩) H6 locs6 hw _ (lv_sub hl [0, 1] rfl)
abbrev WX4_readTest_7 (p : Program) (l : Launch) (e : Env) (s : State) (m : MethodId) (below : List Frame) (meth : Method) (c : Code) (D : hp_D) (T : hp_T) (ap0 : Nat) (xp1 : Int32) (H : Heap) (locs : List Loc) (g : JFrame) : Prop := W p l e (headSpec wsX4_readTest ({ frames := 14, cells := 0, slots := 0, locals := 346 })).room s m ([.ref ap0, .int xp1] : List Value).toArray below meth c H locs 0 0 (MQ below (hq_e D T (fun v _ _ => ∃ r : Int32, v = some (.int r) ∧ iv r 0 1)) ([.ref ap0, .int xp1] : List Value).toArray s 0 0 (hp_F T)) g
set_option maxHeartbeats 4000000 in
set_option maxRecDepth 100000 in
theorem sX4_readTest_7 (l : Launch) (D : hp_D) (T : hp_T) (ap0 : Nat) (xp1 : Int32) (ip0 : isRuleReader T ap0) (bp1 : iv xp1 7 7) : Met l yX4_readTest wsX4_readTest ({ frames := 14, cells := 0, slots := 0, locals := 346 }) (hp_Pc D T [.ref ap0, .int xp1] (fun _ => True)) (hq_e D T (fun v _ _ => ∃ r : Int32, v = some (.int r) ∧ iv r 0 1)) 0 0 (hp_F T) := by
  obtain ⟨ap0tp, ap0stp, hp0, ip0tp, hp0stp⟩ := id ip0
  obtain ⟨ap0tpbt, hp0tp, hp0tpbt⟩ := id ip0tp
  refine Met.ofW (cc := cX4_readTest) (maxL := 6) (ret := (some .boolean)) (by decide) rfl ?_
  intro p e s m args below meth c s₁ B hml hv
  obtain ⟨rfl, hok, hG, hB⟩ := hv
  have hx := B.exec
  have hb := B.bytes
  have hr := B.returns
  have hts := atoms_spec (ws := wsX4_readTest) B.pre
  have hown : s.vm.findClass RX4 = some m.cls := findClass_of_methodNamed B.named
  have hlocks := B.notSynchronized
  have hK := hG.1
  have hw : hp_w D T s s.heap [] := hp_w.rf hok
  have IX4 : ∀ w ∈ wsX40, w ∈ wsX4_readTest := by decide +kernel
  have L26 := hts (.fieldLink RX4 26 "PalmCensus$RuleReader" "tape" "LPalmCensus$Tape;") (by decide +kernel)
  have hl := lv_entry ([.ref ap0, .int xp1]) (n := 6) (Nat.le_of_ble_eq_true rfl)
  rw [lg_entry_eq]
  generalize (lg_sl ([.ref ap0, .int xp1]) ++ List.replicate (6 - (lg_sl ([.ref ap0, .int xp1])).length) Slot.unset).toArray = ls at hl ⊢
  have hl : lv_has ls 6 [(0, .ref ap0), (1, .int xp1)] := hl
  show WX4_readTest_7 p l e s m below meth c D T ap0 xp1 s.heap [] (F0 m 0 ls [])
  refine lv_aload_n hx hb dX4_readTest_0 rfl (lv_at hl 0 rfl) ?_
  refine lv_iload_n hx hb dX4_readTest_1 rfl (lv_at hl 1 rfl) ?_
  refine hp_callei (va_runV (As := [.int xp1]) (rest := []) ⟨hx, hb, hml, hown, hts⟩ (sX4_readFact_7 l D T ap0 xp1 ip0 bp1) (cwV 1 hts gX4_readTest_X4_readFact rfl rfl rfl (by decide +kernel) ⟨Nat.le_of_ble_eq_true rfl, Nat.le_of_ble_eq_true rfl⟩) (hp_preV hG hw hp0 rfl trivial) rfl rfl hl.1 rfl (lv_room (Nat.le_of_ble_eq_true rfl)) dX4_readTest_2 ⟨Nat.zero_le _, Nat.zero_le _⟩) hw (fun x2 st2 t2 H2 locs2 eh2 eg2 bx2 hw => ?_)
  refine lv_if_ne (tgt := 10) hx hb dX4_readTest_5 (by decide) (fun c5 => ?_) (fun c5 => ?_)
  · have r5tp : iv x2 1 1 := (iv_ne_lo c5 bx2 rfl).mono (by decide) (by decide)
    refine lv_iconst (v := 0) hx hb dX4_readTest_10 (by decide) ?_
    refine lv_istore_n (lv' := [(2, .int 0), (0, .ref ap0), (1, .int xp1)]) hx hb dX4_readTest_11 rfl hl (by decide) rfl (fun ls hl => ?_)
    refine lv_iconst (v := 0) hx hb dX4_readTest_12 (by decide) ?_
    refine lv_istore_n (lv' := [(3, .int 0), (2, .int 0), (0, .ref ap0), (1, .int xp1)]) hx hb dX4_readTest_13 rfl hl (by decide) rfl (fun ls hl => ?_)
    have J14 : ∀ (n : Nat) (y14_l2 y14_l3 : Int32), (400 - y14_l3.toInt).toNat < n → iv xp1 7 7 → iv y14_l2 0 1 → iv y14_l3 0 400 → ∀ (H : Heap) (locs : List Loc), hp_w D T s H locs → ∀ (ls : Array Slot), lv_has ls 6 [(0, .ref ap0), (1, .int xp1), (2, .int y14_l2), (3, .int y14_l3)] → WX4_readTest_7 p l e s m below meth c D T ap0 xp1 H locs (F0 m 14 ls []) := by
      intro n
      induction n with
      | zero => intro y14_l2 y14_l3 hmu14 c14_xp1 c14_y14_l2 c14_y14_l3 H14 locs14 hw ls hl; exact absurd hmu14 (Nat.not_lt_zero _)
      | succ n ih14 =>
        intro y14_l2 y14_l3 hmu14 c14_xp1 c14_y14_l2 c14_y14_l3 H14 locs14 hw ls hl
        refine lv_iload_n hx hb dX4_readTest_14 rfl (lv_at hl 3 rfl) ?_
        refine lv_sipush (v := 400) hx hb dX4_readTest_15 (by decide) ?_
        have J103 : iv y14_l2 0 1 → ∀ (H : Heap) (locs : List Loc), hp_w D T s H locs → ∀ (ls : Array Slot), lv_has ls 6 [(0, .ref ap0), (2, .int y14_l2)] → WX4_readTest_7 p l e s m below meth c D T ap0 xp1 H locs (F0 m 103 ls []) := by
          intro c103_y14_l2 H103 locs103 hw ls hl
          refine lv_iload_n hx hb dX4_readTest_103 rfl (lv_at hl 1 rfl) ?_
          have J121 : ∀ (H : Heap) (locs : List Loc), hp_w D T s H locs → ∀ (ls : Array Slot), lv_has ls 6 [] → WX4_readTest_7 p l e s m below meth c D T ap0 xp1 H locs (F0 m 121 ls [.int 1]) := by
            intro H121 locs121 hw ls hl
            exact W.zret (v := 1) hx hb hr (iv_nz (show iv 1 0 1 from ⟨by decide, by decide⟩)) (fun t ht hW => ⟨some (.int 1), rfl, ⟨(1 : Int32), rfl, (show iv 1 0 1 from ⟨by decide, by decide⟩)⟩, by rw [ht]; exact hw.1, hw.2.F ht⟩) hw.2.2.2 dX4_readTest_121
          have J116 : ∀ (H : Heap) (locs : List Loc), hp_w D T s H locs → ∀ (ls : Array Slot), lv_has ls 6 [] → WX4_readTest_7 p l e s m below meth c D T ap0 xp1 H locs (F0 m 116 ls []) := by
            intro H116 locs116 hw ls hl
            refine lv_iconst (v := 1) hx hb dX4_readTest_116 (by decide) ?_
            refine lv_goto (tgt := 121) hx hb dX4_readTest_117 (by decide) ?_
            exact J121 H116 locs116 hw _ (lv_sub hl [] rfl)
          refine lv_if_eq (tgt := 116) hx hb dX4_readTest_104 (by decide) (fun c104 => ?_) (fun c104 => ?_)
          · have r104tp : iv y14_l2 0 0 := (iv_both c103_y14_l2 (iv_eq (show iv 0 0 0 from ⟨by decide, by decide⟩) c104)).mono (by decide) (by decide)
            exact J116 H103 locs103 hw _ (lv_sub hl [] rfl)
          · have r104fp : iv y14_l2 1 1 := (iv_ne_lo c104 c103_y14_l2 rfl).mono (by decide) (by decide)
            refine lv_aload_n hx hb dX4_readTest_107 rfl (lv_at hl 0 rfl) ?_
            refine lv_bipush (v := (-42)) hx hb dX4_readTest_108 (by decide) ?_
            refine hp_callei (va_runV (As := [.int (-42)]) (rest := []) ⟨hx, hb, hml, hown, hts⟩ (sX4_write l D T ap0 ((-42) : Int32) ip0) (cwV 1 hts gX4_readTest_X4_write rfl rfl rfl (by decide +kernel) ⟨Nat.le_of_ble_eq_true rfl, Nat.le_of_ble_eq_true rfl⟩) (hp_preV hG hw hp0 rfl trivial) rfl rfl hl.1 rfl (lv_room (Nat.le_of_ble_eq_true rfl)) dX4_readTest_110 ⟨Nat.zero_le _, Nat.zero_le _⟩) hw (fun x110 st110 t110 H110 locs110 eh110 eg110 bx110 hw => ?_)
            refine lv_if_eq (tgt := 120) hx hb dX4_readTest_113 (by decide) (fun c113 => ?_) (fun c113 => ?_)
            · exact iv_abs2 c113 bx110 (show iv 0 0 0 from ⟨by decide, by decide⟩) (by decide)
            · exact J116 H110 locs110 hw _ (lv_sub hl [] rfl)
        refine lv_icmp_ge (tgt := 103) hx hb dX4_readTest_18 (by decide) (fun c18 => ?_) (fun c18 => ?_)
        · have r18tq : iv y14_l3 400 400 := (iv_le_r c18 (show iv 400 400 400 from ⟨by decide, by decide⟩) c14_y14_l3).mono (by decide) (by decide)
          exact J103 c14_y14_l2 H14 locs14 hw _ (lv_sub hl [0, 2] rfl)
        · have r18fp : iv y14_l3 0 399 := (iv_lt_l (iv_nle c18) c14_y14_l3 (show iv 400 400 400 from ⟨by decide, by decide⟩)).mono (by decide) (by decide)
          refine lv_aload_n hx hb dX4_readTest_21 rfl (lv_at hl 0 rfl) ?_
          refine hp_getr hx hb hts IX4 hown hK hw.1 hp0 rfl 0 (by decide) L26 rfl dX4_readTest_22 ?_
          refine va_ldcS hx hb hown hG.2.2.1.2.2.2.2.2.2.2.1 dX4_readTest_25 ?_
          refine hp_callei (va_runV (As := [.ref (D.2.2.1 7)]) (rest := []) ⟨hx, hb, hml, hown, hts⟩ (sX7_takeWord l D T ap0tp 7 ip0tp (by decide)) (cwV 1 hts gX4_readTest_X7_takeWord rfl rfl rfl (by decide +kernel) ⟨Nat.le_of_ble_eq_true rfl, Nat.le_of_ble_eq_true rfl⟩) (hp_preV hG hw hp0tp rfl trivial) rfl rfl hl.1 rfl (lv_room (Nat.le_of_ble_eq_true rfl)) dX4_readTest_27 ⟨Nat.zero_le _, Nat.zero_le _⟩) hw (fun x27 st27 t27 H27 locs27 eh27 eg27 bx27 hw => ?_)
          refine lv_istore (lv' := [(4, .int x27), (0, .ref ap0), (1, .int xp1), (2, .int y14_l2), (3, .int y14_l3)]) hx hb dX4_readTest_30 hl (by decide) rfl (fun ls hl => ?_)
          refine lv_iload hx hb dX4_readTest_32 (lv_at hl 0 rfl) ?_
          refine lv_iconst (v := (-1)) hx hb dX4_readTest_34 (by decide) ?_
          refine lv_icmp_ne (tgt := 41) hx hb dX4_readTest_35 (by decide) (fun c35 => ?_) (fun c35 => ?_)
          · refine lv_iload hx hb dX4_readTest_41 (lv_at hl 0 rfl) ?_
            refine lv_iconst (v := 1) hx hb dX4_readTest_43 (by decide) ?_
            have J52 : ∀ (y52_s0 : Int32), iv xp1 7 7 → iv y14_l2 0 1 → iv y14_l3 0 399 → iv y52_s0 0 1 → ∀ (H : Heap) (locs : List Loc), hp_w D T s H locs → ∀ (ls : Array Slot), lv_has ls 6 [(0, .ref ap0), (1, .int xp1), (2, .int y14_l2), (3, .int y14_l3)] → WX4_readTest_7 p l e s m below meth c D T ap0 xp1 H locs (F0 m 52 ls [.int y52_s0]) := by
              intro y52_s0 c52_xp1 c52_y14_l2 c52_y14_l3 c52_y52_s0 H52 locs52 hw ls hl
              refine lv_istore (lv' := [(5, .int y52_s0), (0, .ref ap0), (1, .int xp1), (2, .int y14_l2), (3, .int y14_l3)]) hx hb dX4_readTest_52 hl (by decide) rfl (fun ls hl => ?_)
              refine lv_iload hx hb dX4_readTest_54 (lv_at hl 0 rfl) ?_
              have J70 : iv xp1 7 7 → iv y14_l2 0 1 → iv y14_l3 0 399 → iv y52_s0 0 1 → ∀ (H : Heap) (locs : List Loc), hp_w D T s H locs → ∀ (ls : Array Slot), lv_has ls 6 [(0, .ref ap0), (1, .int xp1), (2, .int y14_l2), (3, .int y14_l3), (5, .int y52_s0)] → WX4_readTest_7 p l e s m below meth c D T ap0 xp1 H locs (F0 m 70 ls []) := by
                intro c70_xp1 c70_y14_l2 c70_y14_l3 c70_y52_s0 H70 locs70 hw ls hl
                refine lv_iload_n hx hb dX4_readTest_70 rfl (lv_at hl 2 rfl) ?_
                refine lv_iload hx hb dX4_readTest_71 (lv_at hl 4 rfl) ?_
                refine lv_ior hx hb dX4_readTest_73 ?_
                refine lv_topi (fun x73 ex73 => ?_)
                have bx73 : iv x73 0 1 := iv_or 1 c70_y14_l2 c70_y52_s0 ex73 (by decide) (by decide)
                refine lv_istore_n (lv' := [(2, .int x73), (0, .ref ap0), (1, .int xp1), (3, .int y14_l3), (5, .int y52_s0)]) hx hb dX4_readTest_74 rfl hl (by decide) rfl (fun ls hl => ?_)
                refine lv_aload_n hx hb dX4_readTest_75 rfl (lv_at hl 1 rfl) ?_
                refine lv_iload_n hx hb dX4_readTest_76 rfl (lv_at hl 2 rfl) ?_
                refine hp_callei (va_runV (As := [.int xp1]) (rest := []) ⟨hx, hb, hml, hown, hts⟩ (sX4_readFact_7 l D T ap0 xp1 ip0 c70_xp1) (cwV 1 hts gX4_readTest_X4_readFact rfl rfl rfl (by decide +kernel) ⟨Nat.le_of_ble_eq_true rfl, Nat.le_of_ble_eq_true rfl⟩) (hp_preV hG hw hp0 rfl trivial) rfl rfl hl.1 rfl (lv_room (Nat.le_of_ble_eq_true rfl)) dX4_readTest_77 ⟨Nat.zero_le _, Nat.zero_le _⟩) hw (fun x77 st77 t77 H77 locs77 eh77 eg77 bx77 hw => ?_)
                refine lv_if_ne (tgt := 85) hx hb dX4_readTest_80 (by decide) (fun c80 => ?_) (fun c80 => ?_)
                · have r80tp : iv x77 1 1 := (iv_ne_lo c80 bx77 rfl).mono (by decide) (by decide)
                  refine lv_iload hx hb dX4_readTest_85 (lv_at hl 4 rfl) ?_
                  have J97 : iv xp1 7 7 → iv x73 0 1 → iv y14_l3 0 399 → ∀ (H : Heap) (locs : List Loc), hp_w D T s H locs → ∀ (ls : Array Slot), lv_has ls 6 [(0, .ref ap0), (1, .int xp1), (2, .int x73), (3, .int y14_l3)] → WX4_readTest_7 p l e s m below meth c D T ap0 xp1 H locs (F0 m 97 ls []) := by
                    intro c97_xp1 c97_x73 c97_y14_l3 H97 locs97 hw ls hl
                    obtain ⟨x97, ex97⟩ : ∃ y : Int32, y = y14_l3 + 1 := ⟨_, rfl⟩
                    have bx97 : iv x97 1 400 := iv_add c97_y14_l3 (show iv 1 1 1 from ⟨by decide, by decide⟩) ex97 (by decide)
                    have qx97 := iv_add_eq c97_y14_l3 (show iv 1 1 1 from ⟨by decide, by decide⟩) ex97 (by decide)
                    refine lv_iinc (v := x97) (lv' := [(3, .int x97), (0, .ref ap0), (1, .int xp1), (2, .int x73)]) hx hb dX4_readTest_97 hl (k := 3) rfl (by rw [ex97]; rfl) (by decide) rfl (fun ls hl => ?_)
                    refine lv_goto (tgt := 14) hx hb dX4_readTest_100 (by decide) ?_
                    exact ih14 x73 x97 (mu_up 1 hmu14 (qx97) (by decide) (show iv x97 0 400 from (bx97.mono (by decide) (by decide))).2) c97_xp1 c97_x73 (bx97.mono (by decide) (by decide)) H97 locs97 hw _ (lv_sub hl [1, 2, 3, 0] rfl)
                  refine lv_if_ne (tgt := 97) hx hb dX4_readTest_87 (by decide) (fun c87 => ?_) (fun c87 => ?_)
                  · have r87tp : iv y52_s0 1 1 := (iv_ne_lo c87 c70_y52_s0 rfl).mono (by decide) (by decide)
                    exact J97 c70_xp1 bx73 c70_y14_l3 H77 locs77 hw _ (lv_sub hl [1, 2, 0, 3] rfl)
                  · have r87fp : iv y52_s0 0 0 := (iv_both c70_y52_s0 (iv_eq (show iv 0 0 0 from ⟨by decide, by decide⟩) c87)).mono (by decide) (by decide)
                    refine lv_aload_n hx hb dX4_readTest_90 rfl (lv_at hl 1 rfl) ?_
                    refine lv_bipush (v := (-41)) hx hb dX4_readTest_91 (by decide) ?_
                    refine hp_callei (va_runV (As := [.int (-41)]) (rest := []) ⟨hx, hb, hml, hown, hts⟩ (sX4_write l D T ap0 ((-41) : Int32) ip0) (cwV 1 hts gX4_readTest_X4_write rfl rfl rfl (by decide +kernel) ⟨Nat.le_of_ble_eq_true rfl, Nat.le_of_ble_eq_true rfl⟩) (hp_preV hG hw hp0 rfl trivial) rfl rfl hl.1 rfl (lv_room (Nat.le_of_ble_eq_true rfl)) dX4_readTest_93 ⟨Nat.zero_le _, Nat.zero_le _⟩) hw (fun x93 st93 t93 H93 locs93 eh93 eg93 bx93 hw => ?_)
                    refine lv_pop hx hb dX4_readTest_96 rfl ?_
                    exact J97 c70_xp1 bx73 c70_y14_l3 H93 locs93 hw _ (lv_sub hl [1, 2, 0, 3] rfl)
                · have r80fp : iv x77 0 0 := (iv_both bx77 (iv_eq (show iv 0 0 0 from ⟨by decide, by decide⟩) c80)).mono (by decide) (by decide)
                  refine lv_iconst (v := 0) hx hb dX4_readTest_83 (by decide) ?_
                  exact W.zret (v := 0) hx hb hr (iv_nz (show iv 0 0 1 from ⟨by decide, by decide⟩)) (fun t ht hW => ⟨some (.int 0), rfl, ⟨(0 : Int32), rfl, (show iv 0 0 1 from ⟨by decide, by decide⟩)⟩, by rw [ht]; exact hw.1, hw.2.F ht⟩) hw.2.2.2 dX4_readTest_84
              refine lv_if_eq (tgt := 70) hx hb dX4_readTest_56 (by decide) (fun c56 => ?_) (fun c56 => ?_)
              · have r56tp : iv y52_s0 0 0 := (iv_both c52_y52_s0 (iv_eq (show iv 0 0 0 from ⟨by decide, by decide⟩) c56)).mono (by decide) (by decide)
                exact J70 c52_xp1 c52_y14_l2 c52_y14_l3 (r56tp.mono (by decide) (by decide)) H52 locs52 hw _ (lv_sub hl [1, 2, 3, 4, 0] rfl)
              · have r56fp : iv y52_s0 1 1 := (iv_ne_lo c56 c52_y52_s0 rfl).mono (by decide) (by decide)
                refine lv_iload_n hx hb dX4_readTest_59 rfl (lv_at hl 3 rfl) ?_
                refine lv_if_eq (tgt := 70) hx hb dX4_readTest_60 (by decide) (fun c60 => ?_) (fun c60 => ?_)
                · have r60tp : iv y14_l2 0 0 := (iv_both c52_y14_l2 (iv_eq (show iv 0 0 0 from ⟨by decide, by decide⟩) c60)).mono (by decide) (by decide)
                  exact J70 c52_xp1 (r60tp.mono (by decide) (by decide)) c52_y14_l3 (r56fp.mono (by decide) (by decide)) H52 locs52 hw _ (lv_sub hl [1, 2, 3, 4, 0] rfl)
                · have r60fp : iv y14_l2 1 1 := (iv_ne_lo c60 c52_y14_l2 rfl).mono (by decide) (by decide)
                  refine lv_aload_n hx hb dX4_readTest_63 rfl (lv_at hl 1 rfl) ?_
                  refine lv_bipush (v := (-42)) hx hb dX4_readTest_64 (by decide) ?_
                  refine hp_callei (va_runV (As := [.int (-42)]) (rest := []) ⟨hx, hb, hml, hown, hts⟩ (sX4_write l D T ap0 ((-42) : Int32) ip0) (cwV 1 hts gX4_readTest_X4_write rfl rfl rfl (by decide +kernel) ⟨Nat.le_of_ble_eq_true rfl, Nat.le_of_ble_eq_true rfl⟩) (hp_preV hG hw hp0 rfl trivial) rfl rfl hl.1 rfl (lv_room (Nat.le_of_ble_eq_true rfl)) dX4_readTest_66 ⟨Nat.zero_le _, Nat.zero_le _⟩) hw (fun x66 st66 t66 H66 locs66 eh66 eg66 bx66 hw => ?_)
                  refine lv_pop hx hb dX4_readTest_69 rfl ?_
                  exact J70 c52_xp1 (r60fp.mono (by decide) (by decide)) c52_y14_l3 (r56fp.mono (by decide) (by decide)) H66 locs66 hw _ (lv_sub hl [1, 2, 3, 4, 0] rfl)
            refine lv_icmp_ne (tgt := 51) hx hb dX4_readTest_44 (by decide) (fun c44 => ?_) (fun c44 => ?_)
            · refine lv_iconst (v := 0) hx hb dX4_readTest_51 (by decide) ?_
              exact J52 (0 : Int32) c14_xp1 c14_y14_l2 r18fp (show iv 0 0 1 from ⟨by decide, by decide⟩) H27 locs27 hw _ (lv_sub hl [1, 2, 3, 4] rfl)
            · have r44fp : iv x27 1 1 := (iv_both (iv_any x27) (iv_eq (show iv 1 1 1 from ⟨by decide, by decide⟩) c44)).mono (by decide) (by decide)
              refine lv_iconst (v := 1) hx hb dX4_readTest_47 (by decide) ?_
              refine lv_goto (tgt := 52) hx hb dX4_readTest_48 (by decide) ?_
              exact J52 (1 : Int32) c14_xp1 c14_y14_l2 r18fp (show iv 1 0 1 from ⟨by decide, by decide⟩) H27 locs27 hw _ (lv_sub hl [1, 2, 3, 4] rfl)
          · have r35fp : iv x27 (-1) (-1) := (iv_both (iv_any x27) (iv_eq (show iv (-1) (-1) (-1) from ⟨by decide, by decide⟩) c35)).mono (by decide) (by decide)
            refine lv_goto (tgt := 103) hx hb dX4_readTest_38 (by decide) ?_
            exact J103 c14_y14_l2 H27 locs27 hw _ (lv_sub hl [1, 3] rfl)
    exact J14 _ (0 : Int32) (0 : Int32) (Nat.lt_succ_self _) bp1 (show iv 0 0 1 from ⟨by decide, by decide⟩) (show iv 0 0 400 from ⟨by decide, by decide⟩) H2 locs2 hw _ (lv_sub hl [2, 3, 1, 0] rfl)
  · have r5fp : iv x2 0 0 := (iv_both bx2 (iv_eq (show iv 0 0 0 from ⟨by decide, by decide⟩) c5)).mono (by decide) (by decide)
    refine lv_iconst (v := 0) hx hb dX4_readTest_8 (by decide) ?_
    exact W.zret (v := 0) hx hb hr (iv_nz (show iv 0 0 1 from ⟨by decide, by decide⟩)) (fun t ht hW => ⟨some (.int 0), rfl, ⟨(0 : Int32), rfl, (show iv 0 0 1 from ⟨by decide, by decide⟩)⟩, by rw [ht]; exact hw.1, hw.2.F ht⟩) hw.2.2.2 dX4_readTest_9
abbrev WX4_readFact_6 (p : Program) (l : Launch) (e : Env) (s : State) (m : MethodId) (below : List Frame) (meth : Method) (c : Code) (D : hp_D) (T : hp_T) (ap0 : Nat) (xp1 : Int32) (H : Heap) (locs : List Loc) (g : JFrame) : Prop := W p l e (headSpec wsX4_readFact ({ frames := 15, cells := 0, slots := 0, locals := 371 })).room s m ([.ref ap0, .int xp1] : List Value).toArray below meth c H locs 0 0 (MQ below (hq_e D T (fun v _ _ => ∃ r : Int32, v = some (.int r) ∧ iv r 0 1)) ([.ref ap0, .int xp1] : List Value).toArray s 0 0 (hp_F T)) g
set_option maxHeartbeats 4000000 in
set_option maxRecDepth 100000 in
theorem sX4_readFact_6 (l : Launch) (D : hp_D) (T : hp_T) (ap0 : Nat) (xp1 : Int32) (ip0 : isRuleReader T ap0) (bp1 : iv xp1 6 6) : Met l yX4_readFact wsX4_readFact ({ frames := 15, cells := 0, slots := 0, locals := 371 }) (hp_Pc D T [.ref ap0, .int xp1] (fun _ => True)) (hq_e D T (fun v _ _ => ∃ r : Int32, v = some (.int r) ∧ iv r 0 1)) 0 0 (hp_F T) := by
  obtain ⟨ap0tp, ap0stp, hp0, ip0tp, hp0stp⟩ := id ip0
  obtain ⟨ap0tpbt, hp0tp, hp0tpbt⟩ := id ip0tp
  refine Met.ofW (cc := cX4_readFact) (maxL := 5) (ret := (some .boolean)) (by decide) rfl ?_
  intro p e s m args below meth c s₁ B hml hv
  obtain ⟨rfl, hok, hG, hB⟩ := hv
  have hx := B.exec
  have hb := B.bytes
  have hr := B.returns
  have hts := atoms_spec (ws := wsX4_readFact) B.pre
  have hown : s.vm.findClass RX4 = some m.cls := findClass_of_methodNamed B.named
  have hlocks := B.notSynchronized
  have hK := hG.1
  have hw : hp_w D T s s.heap [] := hp_w.rf hok
  have IX4 : ∀ w ∈ wsX40, w ∈ wsX4_readFact := by decide +kernel
  have L26 := hts (.fieldLink RX4 26 "PalmCensus$RuleReader" "tape" "LPalmCensus$Tape;") (by decide +kernel)
  have hl := lv_entry ([.ref ap0, .int xp1]) (n := 5) (Nat.le_of_ble_eq_true rfl)
  rw [lg_entry_eq]
  generalize (lg_sl ([.ref ap0, .int xp1]) ++ List.replicate (5 - (lg_sl ([.ref ap0, .int xp1])).length) Slot.unset).toArray = ls at hl ⊢
  have hl : lv_has ls 5 [(0, .ref ap0), (1, .int xp1)] := hl
  show WX4_readFact_6 p l e s m below meth c D T ap0 xp1 s.heap [] (F0 m 0 ls [])
  refine lv_aload_n hx hb dX4_readFact_0 rfl (lv_at hl 0 rfl) ?_
  refine hp_getr hx hb hts IX4 hown hK hw.1 hp0 rfl 0 (by decide) L26 rfl dX4_readFact_1 ?_
  refine va_ldcS hx hb hown hG.2.2.1.2.2.2.2.2.2.2.2.1 dX4_readFact_4 ?_
  refine hp_callei (va_runV (As := [.ref (D.2.2.1 8)]) (rest := []) ⟨hx, hb, hml, hown, hts⟩ (sX7_takeSignOf l D T ap0tp 8 ip0tp (by decide)) (cwV 1 hts gX4_readFact_X7_takeSignOf rfl rfl rfl (by decide +kernel) ⟨Nat.le_of_ble_eq_true rfl, Nat.le_of_ble_eq_true rfl⟩) (hp_preV hG hw hp0tp rfl trivial) rfl rfl hl.1 rfl (lv_room (Nat.le_of_ble_eq_true rfl)) dX4_readFact_6 ⟨Nat.zero_le _, Nat.zero_le _⟩) hw (fun x6 st6 t6 H6 locs6 eh6 eg6 bx6 hw => ?_)
  refine lv_iconst (v := (-1)) hx hb dX4_readFact_9 (by decide) ?_
  have J18 : ∀ (y18_s0 : Int32), iv xp1 6 6 → iv y18_s0 0 1 → ∀ (H : Heap) (locs : List Loc), hp_w D T s H locs → ∀ (ls : Array Slot), lv_has ls 5 [(0, .ref ap0), (1, .int xp1)] → WX4_readFact_6 p l e s m below meth c D T ap0 xp1 H locs (F0 m 18 ls [.int y18_s0]) := by
    intro y18_s0 c18_xp1 c18_y18_s0 H18 locs18 hw ls hl
    refine lv_istore_n (lv' := [(2, .int y18_s0), (0, .ref ap0), (1, .int xp1)]) hx hb dX4_readFact_18 rfl hl (by decide) rfl (fun ls hl => ?_)
    refine lv_iload_n hx hb dX4_readFact_19 rfl (lv_at hl 0 rfl) ?_
    have J41 : ∀ (y41_s0 : Int32), iv xp1 6 6 → iv y18_s0 0 1 → iv y41_s0 0 1 → ∀ (H : Heap) (locs : List Loc), hp_w D T s H locs → ∀ (ls : Array Slot), lv_has ls 5 [(0, .ref ap0), (1, .int xp1), (2, .int y18_s0)] → WX4_readFact_6 p l e s m below meth c D T ap0 xp1 H locs (F0 m 41 ls [.int y41_s0]) := by
      intro y41_s0 c41_xp1 c41_y18_s0 c41_y41_s0 H41 locs41 hw ls hl
      refine lv_istore_n (lv' := [(3, .int y41_s0), (0, .ref ap0), (1, .int xp1), (2, .int y18_s0)]) hx hb dX4_readFact_41 rfl hl (by decide) rfl (fun ls hl => ?_)
      refine lv_iload_n hx hb dX4_readFact_42 rfl (lv_at hl 3 rfl) ?_
      have J92 : iv xp1 6 6 → iv y41_s0 0 1 → ∀ (H : Heap) (locs : List Loc), hp_w D T s H locs → ∀ (ls : Array Slot), lv_has ls 5 [(0, .ref ap0), (1, .int xp1), (3, .int y41_s0)] → WX4_readFact_6 p l e s m below meth c D T ap0 xp1 H locs (F0 m 92 ls []) := by
        intro c92_xp1 c92_y41_s0 H92 locs92 hw ls hl
        refine lv_iload_n hx hb dX4_readFact_92 rfl (lv_at hl 1 rfl) ?_
        refine lv_bipush (v := 10) hx hb dX4_readFact_93 (by decide) ?_
        refine lv_icmp_lt (tgt := 114) hx hb dX4_readFact_95 (by decide) (fun c95 => ?_) (fun c95 => ?_)
        · refine lv_iload_n hx hb dX4_readFact_114 rfl (lv_at hl 2 rfl) ?_
          refine lv_if_eq (tgt := 143) hx hb dX4_readFact_115 (by decide) (fun c115 => ?_) (fun c115 => ?_)
          · have r115tp : iv y41_s0 0 0 := (iv_both c92_y41_s0 (iv_eq (show iv 0 0 0 from ⟨by decide, by decide⟩) c115)).mono (by decide) (by decide)
            refine lv_aload_n hx hb dX4_readFact_143 rfl (lv_at hl 0 rfl) ?_
            refine lv_iload_n hx hb dX4_readFact_144 rfl (lv_at hl 1 rfl) ?_
            refine lv_iconst (v := 1) hx hb dX4_readFact_145 (by decide) ?_
            refine lv_iadd hx hb dX4_readFact_146 ?_
            refine lv_topi (fun x146 ex146 => ?_)
            have bx146 : iv x146 7 7 := iv_add c92_xp1 (show iv 1 1 1 from ⟨by decide, by decide⟩) ex146 (by decide)
            have qx146 := iv_add_eq c92_xp1 (show iv 1 1 1 from ⟨by decide, by decide⟩) ex146 (by decide)
            refine hp_callei (va_runV (As := [.int x146]) (rest := []) ⟨hx, hb, hml, hown, hts⟩ (sX4_readTest_7 l D T ap0 x146 ip0 bx146) (cwV 1 hts gX4_readFact_X4_readTest rfl rfl rfl (by decide +kernel) ⟨Nat.le_of_ble_eq_true rfl, Nat.le_of_ble_eq_true rfl⟩) (hp_preV hG hw hp0 rfl trivial) rfl rfl hl.1 rfl (lv_room (Nat.le_of_ble_eq_true rfl)) dX4_readFact_147 ⟨Nat.zero_le _, Nat.zero_le _⟩) hw (fun x147 st147 t147 H147 locs147 eh147 eg147 bx147 hw => ?_)
            have J170 : ∀ (y170_s0 : Int32), iv y170_s0 0 1 → ∀ (H : Heap) (locs : List Loc), hp_w D T s H locs → ∀ (ls : Array Slot), lv_has ls 5 [] → WX4_readFact_6 p l e s m below meth c D T ap0 xp1 H locs (F0 m 170 ls [.int y170_s0]) := by
              intro y170_s0 c170_y170_s0 H170 locs170 hw ls hl
              exact W.zret (v := y170_s0) hx hb hr (iv_nz c170_y170_s0) (fun t ht hW => ⟨some (.int y170_s0), rfl, ⟨y170_s0, rfl, c170_y170_s0⟩, by rw [ht]; exact hw.1, hw.2.F ht⟩) hw.2.2.2 dX4_readFact_170
            have J169 : ∀ (H : Heap) (locs : List Loc), hp_w D T s H locs → ∀ (ls : Array Slot), lv_has ls 5 [] → WX4_readFact_6 p l e s m below meth c D T ap0 xp1 H locs (F0 m 169 ls []) := by
              intro H169 locs169 hw ls hl
              refine lv_iconst (v := 0) hx hb dX4_readFact_169 (by decide) ?_
              exact J170 (0 : Int32) (show iv 0 0 1 from ⟨by decide, by decide⟩) H169 locs169 hw _ (lv_sub hl [] rfl)
            refine lv_if_eq (tgt := 169) hx hb dX4_readFact_150 (by decide) (fun c150 => ?_) (fun c150 => ?_)
            · have r150tp : iv x147 0 0 := (iv_both bx147 (iv_eq (show iv 0 0 0 from ⟨by decide, by decide⟩) c150)).mono (by decide) (by decide)
              exact J169 H147 locs147 hw _ (lv_sub hl [] rfl)
            · have r150fp : iv x147 1 1 := (iv_ne_lo c150 bx147 rfl).mono (by decide) (by decide)
              refine lv_aload_n hx hb dX4_readFact_153 rfl (lv_at hl 0 rfl) ?_
              refine hp_getr hx hb hts IX4 hown hK hw.1 hp0 rfl 0 (by decide) L26 rfl dX4_readFact_154 ?_
              refine va_ldcS hx hb hown hG.2.2.1.1 dX4_readFact_157 ?_
              refine hp_callei (va_runV (As := [.ref (D.2.2.1 0)]) (rest := []) ⟨hx, hb, hml, hown, hts⟩ (sX7_needSign l D T ap0tp 0 ip0tp (by decide)) (cwV 1 hts gX4_readFact_X7_needSign rfl rfl rfl (by decide +kernel) ⟨Nat.le_of_ble_eq_true rfl, Nat.le_of_ble_eq_true rfl⟩) (hp_preV hG hw hp0tp rfl trivial) rfl rfl hl.1 rfl (lv_room (Nat.le_of_ble_eq_true rfl)) dX4_readFact_159 ⟨Nat.zero_le _, Nat.zero_le _⟩) hw (fun x159 st159 t159 H159 locs159 eh159 eg159 bx159 hw => ?_)
              refine lv_if_eq (tgt := 169) hx hb dX4_readFact_162 (by decide) (fun c162 => ?_) (fun c162 => ?_)
              · have r162tp : iv x159 0 0 := (iv_both bx159 (iv_eq (show iv 0 0 0 from ⟨by decide, by decide⟩) c162)).mono (by decide) (by decide)
                exact J169 H159 locs159 hw _ (lv_sub hl [] rfl)
              · have r162fp : iv x159 1 1 := (iv_ne_lo c162 bx159 rfl).mono (by decide) (by decide)
                refine lv_iconst (v := 1) hx hb dX4_readFact_165 (by decide) ?_
                refine lv_goto (tgt := 170) hx hb dX4_readFact_166 (by decide) ?_
                exact J170 (1 : Int32) (show iv 1 0 1 from ⟨by decide, by decide⟩) H159 locs159 hw _ (lv_sub hl [] rfl)
          · have r115fp : iv y41_s0 1 1 := (iv_ne_lo c115 c92_y41_s0 rfl).mono (by decide) (by decide)
            refine lv_aload_n hx hb dX4_readFact_118 rfl (lv_at hl 0 rfl) ?_
            refine lv_iload_n hx hb dX4_readFact_119 rfl (lv_at hl 1 rfl) ?_
            refine lv_iconst (v := 1) hx hb dX4_readFact_120 (by decide) ?_
            refine lv_iadd hx hb dX4_readFact_121 ?_
            refine lv_topi (fun x121 ex121 => ?_)
            have bx121 : iv x121 7 7 := iv_add c92_xp1 (show iv 1 1 1 from ⟨by decide, by decide⟩) ex121 (by decide)
            have qx121 := iv_add_eq c92_xp1 (show iv 1 1 1 from ⟨by decide, by decide⟩) ex121 (by decide)
            refine hp_callei (va_runV (As := [.int x121]) (rest := []) ⟨hx, hb, hml, hown, hts⟩ (sX4_readFact_7 l D T ap0 x121 ip0 bx121) (cwV 1 hts gX4_readFact_X4_readFact rfl rfl rfl (by decide +kernel) ⟨Nat.le_of_ble_eq_true rfl, Nat.le_of_ble_eq_true rfl⟩) (hp_preV hG hw hp0 rfl trivial) rfl rfl hl.1 rfl (lv_room (Nat.le_of_ble_eq_true rfl)) dX4_readFact_122 ⟨Nat.zero_le _, Nat.zero_le _⟩) hw (fun x122 st122 t122 H122 locs122 eh122 eg122 bx122 hw => ?_)
            have J142 : ∀ (y142_s0 : Int32), iv y142_s0 0 1 → ∀ (H : Heap) (locs : List Loc), hp_w D T s H locs → ∀ (ls : Array Slot), lv_has ls 5 [] → WX4_readFact_6 p l e s m below meth c D T ap0 xp1 H locs (F0 m 142 ls [.int y142_s0]) := by
              intro y142_s0 c142_y142_s0 H142 locs142 hw ls hl
              exact W.zret (v := y142_s0) hx hb hr (iv_nz c142_y142_s0) (fun t ht hW => ⟨some (.int y142_s0), rfl, ⟨y142_s0, rfl, c142_y142_s0⟩, by rw [ht]; exact hw.1, hw.2.F ht⟩) hw.2.2.2 dX4_readFact_142
            have J141 : ∀ (H : Heap) (locs : List Loc), hp_w D T s H locs → ∀ (ls : Array Slot), lv_has ls 5 [] → WX4_readFact_6 p l e s m below meth c D T ap0 xp1 H locs (F0 m 141 ls []) := by
              intro H141 locs141 hw ls hl
              refine lv_iconst (v := 0) hx hb dX4_readFact_141 (by decide) ?_
              exact J142 (0 : Int32) (show iv 0 0 1 from ⟨by decide, by decide⟩) H141 locs141 hw _ (lv_sub hl [] rfl)
            refine lv_if_eq (tgt := 141) hx hb dX4_readFact_125 (by decide) (fun c125 => ?_) (fun c125 => ?_)
            · have r125tp : iv x122 0 0 := (iv_both bx122 (iv_eq (show iv 0 0 0 from ⟨by decide, by decide⟩) c125)).mono (by decide) (by decide)
              exact J141 H122 locs122 hw _ (lv_sub hl [] rfl)
            · have r125fp : iv x122 1 1 := (iv_ne_lo c125 bx122 rfl).mono (by decide) (by decide)
              refine lv_aload_n hx hb dX4_readFact_128 rfl (lv_at hl 0 rfl) ?_
              refine lv_bipush (v := (-43)) hx hb dX4_readFact_129 (by decide) ?_
              refine hp_callei (va_runV (As := [.int (-43)]) (rest := []) ⟨hx, hb, hml, hown, hts⟩ (sX4_write l D T ap0 ((-43) : Int32) ip0) (cwV 1 hts gX4_readFact_X4_write rfl rfl rfl (by decide +kernel) ⟨Nat.le_of_ble_eq_true rfl, Nat.le_of_ble_eq_true rfl⟩) (hp_preV hG hw hp0 rfl trivial) rfl rfl hl.1 rfl (lv_room (Nat.le_of_ble_eq_true rfl)) dX4_readFact_131 ⟨Nat.zero_le _, Nat.zero_le _⟩) hw (fun x131 st131 t131 H131 locs131 eh131 eg131 bx131 hw => ?_)
              refine lv_if_eq (tgt := 141) hx hb dX4_readFact_134 (by decide) (fun c134 => ?_) (fun c134 => ?_)
              · exact iv_abs2 c134 bx131 (show iv 0 0 0 from ⟨by decide, by decide⟩) (by decide)
              · refine lv_iconst (v := 1) hx hb dX4_readFact_137 (by decide) ?_
                refine lv_goto (tgt := 142) hx hb dX4_readFact_138 (by decide) ?_
                exact J142 (1 : Int32) (show iv 1 0 1 from ⟨by decide, by decide⟩) H131 locs131 hw _ (lv_sub hl [] rfl)
        · exact iv_abs (iv_le_l (iv_nlt c95) (show iv 10 10 10 from ⟨by decide, by decide⟩) c92_xp1) (by decide)
      refine lv_if_ne (tgt := 92) hx hb dX4_readFact_43 (by decide) (fun c43 => ?_) (fun c43 => ?_)
      · have r43tp : iv y18_s0 1 1 := (iv_ne_lo c43 c41_y18_s0 rfl).mono (by decide) (by decide)
        exact J92 c41_xp1 c41_y41_s0 H41 locs41 hw _ (lv_sub hl [1, 2, 0] rfl)
      · have r43fp : iv y18_s0 0 0 := (iv_both c41_y18_s0 (iv_eq (show iv 0 0 0 from ⟨by decide, by decide⟩) c43)).mono (by decide) (by decide)
        refine lv_iload_n hx hb dX4_readFact_46 rfl (lv_at hl 0 rfl) ?_
        refine lv_if_ne (tgt := 92) hx hb dX4_readFact_47 (by decide) (fun c47 => ?_) (fun c47 => ?_)
        · have r47tp : iv y41_s0 1 1 := (iv_ne_lo c47 c41_y41_s0 rfl).mono (by decide) (by decide)
          exact J92 c41_xp1 (r47tp.mono (by decide) (by decide)) H41 locs41 hw _ (lv_sub hl [1, 2, 0] rfl)
        · have r47fp : iv y41_s0 0 0 := (iv_both c41_y41_s0 (iv_eq (show iv 0 0 0 from ⟨by decide, by decide⟩) c47)).mono (by decide) (by decide)
          refine lv_aload_n hx hb dX4_readFact_50 rfl (lv_at hl 1 rfl) ?_
          refine hp_callei (va_runV (As := []) (rest := []) ⟨hx, hb, hml, hown, hts⟩ (sX4_readSum l D T ap0 ip0) (cwV 0 hts gX4_readFact_X4_readSum rfl rfl rfl (by decide +kernel) ⟨Nat.le_of_ble_eq_true rfl, Nat.le_of_ble_eq_true rfl⟩) (hp_preV hG hw hp0 rfl trivial) rfl rfl hl.1 rfl (lv_room (Nat.le_of_ble_eq_true rfl)) dX4_readFact_51 ⟨Nat.zero_le _, Nat.zero_le _⟩) hw (fun x51 st51 t51 H51 locs51 eh51 eg51 bx51 hw => ?_)
          refine lv_if_ne (tgt := 59) hx hb dX4_readFact_54 (by decide) (fun c54 => ?_) (fun c54 => ?_)
          · have r54tp : iv x51 1 1 := (iv_ne_lo c54 bx51 rfl).mono (by decide) (by decide)
            refine lv_aload_n hx hb dX4_readFact_59 rfl (lv_at hl 1 rfl) ?_
            refine hp_callei (va_runV (As := []) (rest := []) ⟨hx, hb, hml, hown, hts⟩ (sX4_readSign l D T ap0 ip0) (cwV 0 hts gX4_readFact_X4_readSign rfl rfl rfl (by decide +kernel) ⟨Nat.le_of_ble_eq_true rfl, Nat.le_of_ble_eq_true rfl⟩) (hp_preV hG hw hp0 rfl trivial) rfl rfl hl.1 rfl (lv_room (Nat.le_of_ble_eq_true rfl)) dX4_readFact_60 ⟨Nat.zero_le _, Nat.zero_le _⟩) hw (fun x60 st60 t60 H60 locs60 eh60 eg60 bx60 hw => ?_)
            refine lv_istore (lv' := [(4, .int x60), (3, .int y41_s0), (0, .ref ap0), (1, .int xp1), (2, .int y18_s0)]) hx hb dX4_readFact_63 hl (by decide) rfl (fun ls hl => ?_)
            refine lv_iload hx hb dX4_readFact_65 (lv_at hl 0 rfl) ?_
            have J91 : ∀ (y91_s0 : Int32), iv y91_s0 0 1 → ∀ (H : Heap) (locs : List Loc), hp_w D T s H locs → ∀ (ls : Array Slot), lv_has ls 5 [] → WX4_readFact_6 p l e s m below meth c D T ap0 xp1 H locs (F0 m 91 ls [.int y91_s0]) := by
              intro y91_s0 c91_y91_s0 H91 locs91 hw ls hl
              exact W.zret (v := y91_s0) hx hb hr (iv_nz c91_y91_s0) (fun t ht hW => ⟨some (.int y91_s0), rfl, ⟨y91_s0, rfl, c91_y91_s0⟩, by rw [ht]; exact hw.1, hw.2.F ht⟩) hw.2.2.2 dX4_readFact_91
            have J90 : ∀ (H : Heap) (locs : List Loc), hp_w D T s H locs → ∀ (ls : Array Slot), lv_has ls 5 [] → WX4_readFact_6 p l e s m below meth c D T ap0 xp1 H locs (F0 m 90 ls []) := by
              intro H90 locs90 hw ls hl
              refine lv_iconst (v := 0) hx hb dX4_readFact_90 (by decide) ?_
              exact J91 (0 : Int32) (show iv 0 0 1 from ⟨by decide, by decide⟩) H90 locs90 hw _ (lv_sub hl [] rfl)
            refine lv_if_eq (tgt := 90) hx hb dX4_readFact_67 (by decide) (fun c67 => ?_) (fun c67 => ?_)
            · have r67tp : iv x60 0 0 := (iv_both (iv_any x60) (iv_eq (show iv 0 0 0 from ⟨by decide, by decide⟩) c67)).mono (by decide) (by decide)
              exact J90 H60 locs60 hw _ (lv_sub hl [] rfl)
            · refine lv_aload_n hx hb dX4_readFact_70 rfl (lv_at hl 2 rfl) ?_
              refine hp_callei (va_runV (As := []) (rest := []) ⟨hx, hb, hml, hown, hts⟩ (sX4_readSum l D T ap0 ip0) (cwV 0 hts gX4_readFact_X4_readSum rfl rfl rfl (by decide +kernel) ⟨Nat.le_of_ble_eq_true rfl, Nat.le_of_ble_eq_true rfl⟩) (hp_preV hG hw hp0 rfl trivial) rfl rfl hl.1 rfl (lv_room (Nat.le_of_ble_eq_true rfl)) dX4_readFact_71 ⟨Nat.zero_le _, Nat.zero_le _⟩) hw (fun x71 st71 t71 H71 locs71 eh71 eg71 bx71 hw => ?_)
              refine lv_if_eq (tgt := 90) hx hb dX4_readFact_74 (by decide) (fun c74 => ?_) (fun c74 => ?_)
              · have r74tp : iv x71 0 0 := (iv_both bx71 (iv_eq (show iv 0 0 0 from ⟨by decide, by decide⟩) c74)).mono (by decide) (by decide)
                exact J90 H71 locs71 hw _ (lv_sub hl [] rfl)
              · have r74fp : iv x71 1 1 := (iv_ne_lo c74 bx71 rfl).mono (by decide) (by decide)
                refine lv_aload_n hx hb dX4_readFact_77 rfl (lv_at hl 2 rfl) ?_
                refine lv_iload hx hb dX4_readFact_78 (lv_at hl 0 rfl) ?_
                refine hp_callei (va_runV (As := [.int x60]) (rest := []) ⟨hx, hb, hml, hown, hts⟩ (sX4_write l D T ap0 x60 ip0) (cwV 1 hts gX4_readFact_X4_write rfl rfl rfl (by decide +kernel) ⟨Nat.le_of_ble_eq_true rfl, Nat.le_of_ble_eq_true rfl⟩) (hp_preV hG hw hp0 rfl trivial) rfl rfl hl.1 rfl (lv_room (Nat.le_of_ble_eq_true rfl)) dX4_readFact_80 ⟨Nat.zero_le _, Nat.zero_le _⟩) hw (fun x80 st80 t80 H80 locs80 eh80 eg80 bx80 hw => ?_)
                refine lv_if_eq (tgt := 90) hx hb dX4_readFact_83 (by decide) (fun c83 => ?_) (fun c83 => ?_)
                · exact iv_abs2 c83 bx80 (show iv 0 0 0 from ⟨by decide, by decide⟩) (by decide)
                · refine lv_iconst (v := 1) hx hb dX4_readFact_86 (by decide) ?_
                  refine lv_goto (tgt := 91) hx hb dX4_readFact_87 (by decide) ?_
                  exact J91 (1 : Int32) (show iv 1 0 1 from ⟨by decide, by decide⟩) H80 locs80 hw _ (lv_sub hl [] rfl)
          · have r54fp : iv x51 0 0 := (iv_both bx51 (iv_eq (show iv 0 0 0 from ⟨by decide, by decide⟩) c54)).mono (by decide) (by decide)
            refine lv_iconst (v := 0) hx hb dX4_readFact_57 (by decide) ?_
            exact W.zret (v := 0) hx hb hr (iv_nz (show iv 0 0 1 from ⟨by decide, by decide⟩)) (fun t ht hW => ⟨some (.int 0), rfl, ⟨(0 : Int32), rfl, (show iv 0 0 1 from ⟨by decide, by decide⟩)⟩, by rw [ht]; exact hw.1, hw.2.F ht⟩) hw.2.2.2 dX4_readFact_58
    have J40 : iv xp1 6 6 → iv y18_s0 0 1 → ∀ (H : Heap) (locs : List Loc), hp_w D T s H locs → ∀ (ls : Array Slot), lv_has ls 5 [(0, .ref ap0), (1, .int xp1), (2, .int y18_s0)] → WX4_readFact_6 p l e s m below meth c D T ap0 xp1 H locs (F0 m 40 ls []) := by
      intro c40_xp1 c40_y18_s0 H40 locs40 hw ls hl
      refine lv_iconst (v := 0) hx hb dX4_readFact_40 (by decide) ?_
      exact J41 (0 : Int32) c40_xp1 c40_y18_s0 (show iv 0 0 1 from ⟨by decide, by decide⟩) H40 locs40 hw _ (lv_sub hl [0, 1, 2] rfl)
    refine lv_if_ne (tgt := 40) hx hb dX4_readFact_20 (by decide) (fun c20 => ?_) (fun c20 => ?_)
    · have r20tp : iv y18_s0 1 1 := (iv_ne_lo c20 c18_y18_s0 rfl).mono (by decide) (by decide)
      exact J40 c18_xp1 (r20tp.mono (by decide) (by decide)) H18 locs18 hw _ (lv_sub hl [1, 2, 0] rfl)
    · have r20fp : iv y18_s0 0 0 := (iv_both c18_y18_s0 (iv_eq (show iv 0 0 0 from ⟨by decide, by decide⟩) c20)).mono (by decide) (by decide)
      refine lv_aload_n hx hb dX4_readFact_23 rfl (lv_at hl 1 rfl) ?_
      refine hp_getr hx hb hts IX4 hown hK hw.1 hp0 rfl 0 (by decide) L26 rfl dX4_readFact_24 ?_
      refine va_ldcS hx hb hown hG.2.2.1.2.2.2.2.2.2.2.2.2.1 dX4_readFact_27 ?_
      refine hp_callei (va_runV (As := [.ref (D.2.2.1 9)]) (rest := []) ⟨hx, hb, hml, hown, hts⟩ (sX7_takeWord l D T ap0tp 9 ip0tp (by decide)) (cwV 1 hts gX4_readFact_X7_takeWord rfl rfl rfl (by decide +kernel) ⟨Nat.le_of_ble_eq_true rfl, Nat.le_of_ble_eq_true rfl⟩) (hp_preV hG hw hp0tp rfl trivial) rfl rfl hl.1 rfl (lv_room (Nat.le_of_ble_eq_true rfl)) dX4_readFact_29 ⟨Nat.zero_le _, Nat.zero_le _⟩) hw (fun x29 st29 t29 H29 locs29 eh29 eg29 bx29 hw => ?_)
      refine lv_iconst (v := (-1)) hx hb dX4_readFact_32 (by decide) ?_
      refine lv_icmp_eq (tgt := 40) hx hb dX4_readFact_33 (by decide) (fun c33 => ?_) (fun c33 => ?_)
      · have r33tp : iv x29 (-1) (-1) := (iv_both (iv_any x29) (iv_eq (show iv (-1) (-1) (-1) from ⟨by decide, by decide⟩) c33)).mono (by decide) (by decide)
        exact J40 c18_xp1 (r20fp.mono (by decide) (by decide)) H29 locs29 hw _ (lv_sub hl [1, 2, 0] rfl)
      · refine lv_iconst (v := 1) hx hb dX4_readFact_36 (by decide) ?_
        refine lv_goto (tgt := 41) hx hb dX4_readFact_37 (by decide) ?_
        exact J41 (1 : Int32) c18_xp1 (r20fp.mono (by decide) (by decide)) (show iv 1 0 1 from ⟨by decide, by decide⟩) H29 locs29 hw _ (lv_sub hl [1, 2, 0] rfl)
  refine lv_icmp_eq (tgt := 17) hx hb dX4_readFact_10 (by decide) (fun c10 => ?_) (fun c10 => ?_)
  · have r10tp : iv x6 (-1) (-1) := (iv_both (iv_any x6) (iv_eq (show iv (-1) (-1) (-1) from ⟨by decide, by decide⟩) c10)).mono (by decide) (by decide)
    refine lv_iconst (v := 0) hx hb dX4_readFact_17 (by decide) ?_
    exact J18 (0 : Int32) bp1 (show iv 0 0 1 from ⟨by decide, by decide⟩) H6 locs6 hw _ (lv_sub hl [0, 1] rfl)
  · refine lv_iconst (v := 1) hx hb dX4_readFact_13 (by decide) ?_
    refine lv_goto (tgt := 18) hx hb dX4_readFact_14 (by decide) ?_
    exact J18 (1 : Int32) bp1 (show iv 1 0 1 from ⟨by decide, by decide⟩) H6 locs6 hw _ (lv_sub hl [0, 1] rfl)
abbrev WX4_readTest_6 (p : Program) (l : Launch) (e : Env) (s : State) (m : MethodId) (below : List Frame) (meth : Method) (c : Code) (D : hp_D) (T : hp_T) (ap0 : Nat) (xp1 : Int32) (H : Heap) (locs : List Loc) (g : JFrame) : Prop := W p l e (headSpec wsX4_readTest ({ frames := 16, cells := 0, slots := 0, locals := 395 })).room s m ([.ref ap0, .int xp1] : List Value).toArray below meth c H locs 0 0 (MQ below (hq_e D T (fun v _ _ => ∃ r : Int32, v = some (.int r) ∧ iv r 0 1)) ([.ref ap0, .int xp1] : List Value).toArray s 0 0 (hp_F T)) g
set_option maxHeartbeats 4000000 in
set_option maxRecDepth 100000 in
theorem sX4_readTest_6 (l : Launch) (D : hp_D) (T : hp_T) (ap0 : Nat) (xp1 : Int32) (ip0 : isRuleReader T ap0) (bp1 : iv xp1 6 6) : Met l yX4_readTest wsX4_readTest ({ frames := 16, cells := 0, slots := 0, locals := 395 }) (hp_Pc D T [.ref ap0, .int xp1] (fun _ => True)) (hq_e D T (fun v _ _ => ∃ r : Int32, v = some (.int r) ∧ iv r 0 1)) 0 0 (hp_F T) := by
  obtain ⟨ap0tp, ap0stp, hp0, ip0tp, hp0stp⟩ := id ip0
  obtain ⟨ap0tpbt, hp0tp, hp0tpbt⟩ := id ip0tp
  refine Met.ofW (cc := cX4_readTest) (maxL := 6) (ret := (some .boolean)) (by decide) rfl ?_
  intro p e s m args below meth c s₁ B hml hv
  obtain ⟨rfl, hok, hG, hB⟩ := hv
  have hx := B.exec
  have hb := B.bytes
  have hr := B.returns
  have hts := atoms_spec (ws := wsX4_readTest) B.pre
  have hown : s.vm.findClass RX4 = some m.cls := findClass_of_methodNamed B.named
  have hlocks := B.notSynchronized
  have hK := hG.1
  have hw : hp_w D T s s.heap [] := hp_w.rf hok
  have IX4 : ∀ w ∈ wsX40, w ∈ wsX4_readTest := by decide +kernel
  have L26 := hts (.fieldLink RX4 26 "PalmCensus$RuleReader" "tape" "LPalmCensus$Tape;") (by decide +kernel)
  have hl := lv_entry ([.ref ap0, .int xp1]) (n := 6) (Nat.le_of_ble_eq_true rfl)
  rw [lg_entry_eq]
  generalize (lg_sl ([.ref ap0, .int xp1]) ++ List.replicate (6 - (lg_sl ([.ref ap0, .int xp1])).length) Slot.unset).toArray = ls at hl ⊢
  have hl : lv_has ls 6 [(0, .ref ap0), (1, .int xp1)] := hl
  show WX4_readTest_6 p l e s m below meth c D T ap0 xp1 s.heap [] (F0 m 0 ls [])
  refine lv_aload_n hx hb dX4_readTest_0 rfl (lv_at hl 0 rfl) ?_
  refine lv_iload_n hx hb dX4_readTest_1 rfl (lv_at hl 1 rfl) ?_
  refine hp_callei (va_runV (As := [.int xp1]) (rest := []) ⟨hx, hb, hml, hown, hts⟩ (sX4_readFact_6 l D T ap0 xp1 ip0 bp1) (cwV 1 hts gX4_readTest_X4_readFact rfl rfl rfl (by decide +kernel) ⟨Nat.le_of_ble_eq_true rfl, Nat.le_of_ble_eq_true rfl⟩) (hp_preV hG hw hp0 rfl trivial) rfl rfl hl.1 rfl (lv_room (Nat.le_of_ble_eq_true rfl)) dX4_readTest_2 ⟨Nat.zero_le _, Nat.zero_le _⟩) hw (fun x2 st2 t2 H2 locs2 eh2 eg2 bx2 hw => ?_)
  refine lv_if_ne (tgt := 10) hx hb dX4_readTest_5 (by decide) (fun c5 => ?_) (fun c5 => ?_)
  · have r5tp : iv x2 1 1 := (iv_ne_lo c5 bx2 rfl).mono (by decide) (by decide)
    refine lv_iconst (v := 0) hx hb dX4_readTest_10 (by decide) ?_
    refine lv_istore_n (lv' := [(2, .int 0), (0, .ref ap0), (1, .int xp1)]) hx hb dX4_readTest_11 rfl hl (by decide) rfl (fun ls hl => ?_)
    refine lv_iconst (v := 0) hx hb dX4_readTest_12 (by decide) ?_
    refine lv_istore_n (lv' := [(3, .int 0), (2, .int 0), (0, .ref ap0), (1, .int xp1)]) hx hb dX4_readTest_13 rfl hl (by decide) rfl (fun ls hl => ?_)
    have J14 : ∀ (n : Nat) (y14_l2 y14_l3 : Int32), (400 - y14_l3.toInt).toNat < n → iv xp1 6 6 → iv y14_l2 0 1 → iv y14_l3 0 400 → ∀ (H : Heap) (locs : List Loc), hp_w D T s H locs → ∀ (ls : Array Slot), lv_has ls 6 [(0, .ref ap0), (1, .int xp1), (2, .int y14_l2), (3, .int y14_l3)] → WX4_readTest_6 p l e s m below meth c D T ap0 xp1 H locs (F0 m 14 ls []) := by
      intro n
      induction n with
      | zero => intro y14_l2 y14_l3 hmu14 c14_xp1 c14_y14_l2 c14_y14_l3 H14 locs14 hw ls hl; exact absurd hmu14 (Nat.not_lt_zero _)
      | succ n ih14 =>
        intro y14_l2 y14_l3 hmu14 c14_xp1 c14_y14_l2 c14_y14_l3 H14 locs14 hw ls hl
        refine lv_iload_n hx hb dX4_readTest_14 rfl (lv_at hl 3 rfl) ?_
        refine lv_sipush (v := 400) hx hb dX4_readTest_15 (by decide) ?_
        have J103 : iv y14_l2 0 1 → ∀ (H : Heap) (locs : List Loc), hp_w D T s H locs → ∀ (ls : Array Slot), lv_has ls 6 [(0, .ref ap0), (2, .int y14_l2)] → WX4_readTest_6 p l e s m below meth c D T ap0 xp1 H locs (F0 m 103 ls []) := by
          intro c103_y14_l2 H103 locs103 hw ls hl
          refine lv_iload_n hx hb dX4_readTest_103 rfl (lv_at hl 1 rfl) ?_
          have J121 : ∀ (H : Heap) (locs : List Loc), hp_w D T s H locs → ∀ (ls : Array Slot), lv_has ls 6 [] → WX4_readTest_6 p l e s m below meth c D T ap0 xp1 H locs (F0 m 121 ls [.int 1]) := by
            intro H121 locs121 hw ls hl
            exact W.zret (v := 1) hx hb hr (iv_nz (show iv 1 0 1 from ⟨by decide, by decide⟩)) (fun t ht hW => ⟨some (.int 1), rfl, ⟨(1 : Int32), rfl, (show iv 1 0 1 from ⟨by decide, by decide⟩)⟩, by rw [ht]; exact hw.1, hw.2.F ht⟩) hw.2.2.2 dX4_readTest_121
          have J116 : ∀ (H : Heap) (locs : List Loc), hp_w D T s H locs → ∀ (ls : Array Slot), lv_has ls 6 [] → WX4_readTest_6 p l e s m below meth c D T ap0 xp1 H locs (F0 m 116 ls []) := by
            intro H116 locs116 hw ls hl
            refine lv_iconst (v := 1) hx hb dX4_readTest_116 (by decide) ?_
            refine lv_goto (tgt := 121) hx hb dX4_readTest_117 (by decide) ?_
            exact J121 H116 locs116 hw _ (lv_sub hl [] rfl)
          refine lv_if_eq (tgt := 116) hx hb dX4_readTest_104 (by decide) (fun c104 => ?_) (fun c104 => ?_)
          · have r104tp : iv y14_l2 0 0 := (iv_both c103_y14_l2 (iv_eq (show iv 0 0 0 from ⟨by decide, by decide⟩) c104)).mono (by decide) (by decide)
            exact J116 H103 locs103 hw _ (lv_sub hl [] rfl)
          · have r104fp : iv y14_l2 1 1 := (iv_ne_lo c104 c103_y14_l2 rfl).mono (by decide) (by decide)
            refine lv_aload_n hx hb dX4_readTest_107 rfl (lv_at hl 0 rfl) ?_
            refine lv_bipush (v := (-42)) hx hb dX4_readTest_108 (by decide) ?_
            refine hp_callei (va_runV (As := [.int (-42)]) (rest := []) ⟨hx, hb, hml, hown, hts⟩ (sX4_write l D T ap0 ((-42) : Int32) ip0) (cwV 1 hts gX4_readTest_X4_write rfl rfl rfl (by decide +kernel) ⟨Nat.le_of_ble_eq_true rfl, Nat.le_of_ble_eq_true rfl⟩) (hp_preV hG hw hp0 rfl trivial) rfl rfl hl.1 rfl (lv_room (Nat.le_of_ble_eq_true rfl)) dX4_readTest_110 ⟨Nat.zero_le _, Nat.zero_le _⟩) hw (fun x110 st110 t110 H110 locs110 eh110 eg110 bx110 hw => ?_)
            refine lv_if_eq (tgt := 120) hx hb dX4_readTest_113 (by decide) (fun c113 => ?_) (fun c113 => ?_)
            · exact iv_abs2 c113 bx110 (show iv 0 0 0 from ⟨by decide, by decide⟩) (by decide)
            · exact J116 H110 locs110 hw _ (lv_sub hl [] rfl)
        refine lv_icmp_ge (tgt := 103) hx hb dX4_readTest_18 (by decide) (fun c18 => ?_) (fun c18 => ?_)
        · have r18tq : iv y14_l3 400 400 := (iv_le_r c18 (show iv 400 400 400 from ⟨by decide, by decide⟩) c14_y14_l3).mono (by decide) (by decide)
          exact J103 c14_y14_l2 H14 locs14 hw _ (lv_sub hl [0, 2] rfl)
        · have r18fp : iv y14_l3 0 399 := (iv_lt_l (iv_nle c18) c14_y14_l3 (show iv 400 400 400 from ⟨by decide, by decide⟩)).mono (by decide) (by decide)
          refine lv_aload_n hx hb dX4_readTest_21 rfl (lv_at hl 0 rfl) ?_
          refine hp_getr hx hb hts IX4 hown hK hw.1 hp0 rfl 0 (by decide) L26 rfl dX4_readTest_22 ?_
          refine va_ldcS hx hb hown hG.2.2.1.2.2.2.2.2.2.2.1 dX4_readTest_25 ?_
          refine hp_callei (va_runV (As := [.ref (D.2.2.1 7)]) (rest := []) ⟨hx, hb, hml, hown, hts⟩ (sX7_takeWord l D T ap0tp 7 ip0tp (by decide)) (cwV 1 hts gX4_readTest_X7_takeWord rfl rfl rfl (by decide +kernel) ⟨Nat.le_of_ble_eq_true rfl, Nat.le_of_ble_eq_true rfl⟩) (hp_preV hG hw hp0tp rfl trivial) rfl rfl hl.1 rfl (lv_room (Nat.le_of_ble_eq_true rfl)) dX4_readTest_27 ⟨Nat.zero_le _, Nat.zero_le _⟩) hw (fun x27 st27 t27 H27 locs27 eh27 eg27 bx27 hw => ?_)
          refine lv_istore (lv' := [(4, .int x27), (0, .ref ap0), (1, .int xp1), (2, .int y14_l2), (3, .int y14_l3)]) hx hb dX4_readTest_30 hl (by decide) rfl (fun ls hl => ?_)
          refine lv_iload hx hb dX4_readTest_32 (lv_at hl 0 rfl) ?_
          refine lv_iconst (v := (-1)) hx hb dX4_readTest_34 (by decide) ?_
          refine lv_icmp_ne (tgt := 41) hx hb dX4_readTest_35 (by decide) (fun c35 => ?_) (fun c35 => ?_)
          · refine lv_iload hx hb dX4_readTest_41 (lv_at hl 0 rfl) ?_
            refine lv_iconst (v := 1) hx hb dX4_readTest_43 (by decide) ?_
            have J52 : ∀ (y52_s0 : Int32), iv xp1 6 6 → iv y14_l2 0 1 → iv y14_l3 0 399 → iv y52_s0 0 1 → ∀ (H : Heap) (locs : List Loc), hp_w D T s H locs → ∀ (ls : Array Slot), lv_has ls 6 [(0, .ref ap0), (1, .int xp1), (2, .int y14_l2), (3, .int y14_l3)] → WX4_readTest_6 p l e s m below meth c D T ap0 xp1 H locs (F0 m 52 ls [.int y52_s0]) := by
              intro y52_s0 c52_xp1 c52_y14_l2 c52_y14_l3 c52_y52_s0 H52 locs52 hw ls hl
              refine lv_istore (lv' := [(5, .int y52_s0), (0, .ref ap0), (1, .int xp1), (2, .int y14_l2), (3, .int y14_l3)]) hx hb dX4_readTest_52 hl (by decide) rfl (fun ls hl => ?_)
              refine lv_iload hx hb dX4_readTest_54 (lv_at hl 0 rfl) ?_
              have J70 : iv xp1 6 6 → iv y14_l2 0 1 → iv y14_l3 0 399 → iv y52_s0 0 1 → ∀ (H : Heap) (locs : List Loc), hp_w D T s H locs → ∀ (ls : Array Slot), lv_has ls 6 [(0, .ref ap0), (1, .int xp1), (2, .int y14_l2), (3, .int y14_l3), (5, .int y52_s0)] → WX4_readTest_6 p l e s m below meth c D T ap0 xp1 H locs (F0 m 70 ls []) := by
                intro c70_xp1 c70_y14_l2 c70_y14_l3 c70_y52_s0 H70 locs70 hw ls hl
                refine lv_iload_n hx hb dX4_readTest_70 rfl (lv_at hl 2 rfl) ?_
                refine lv_iload hx hb dX4_readTest_71 (lv_at hl 4 rfl) ?_
                refine lv_ior hx hb dX4_readTest_73 ?_
                refine lv_topi (fun x73 ex73 => ?_)
                have bx73 : iv x73 0 1 := iv_or 1 c70_y14_l2 c70_y52_s0 ex73 (by decide) (by decide)
                refine lv_istore_n (lv' := [(2, .int x73), (0, .ref ap0), (1, .int xp1), (3, .int y14_l3), (5, .int y52_s0)]) hx hb dX4_readTest_74 rfl hl (by decide) rfl (fun ls hl => ?_)
                refine lv_aload_n hx hb dX4_readTest_75 rfl (lv_at hl 1 rfl) ?_
                refine lv_iload_n hx hb dX4_readTest_76 rfl (lv_at hl 2 rfl) ?_
                refine hp_callei (va_runV (As := [.int xp1]) (rest := []) ⟨hx, hb, hml, hown, hts⟩ (sX4_readFact_6 l D T ap0 xp1 ip0 c70_xp1) (cwV 1 hts gX4_readTest_X4_readFact rfl rfl rfl (by decide +kernel) ⟨Nat.le_of_ble_eq_true rfl, Nat.le_of_ble_eq_true rfl⟩) (hp_preV hG hw hp0 rfl trivial) rfl rfl hl.1 rfl (lv_room (Nat.le_of_ble_eq_true rfl)) dX4_readTest_77 ⟨Nat.zero_le _, Nat.zero_le _⟩) hw (fun x77 st77 t77 H77 locs77 eh77 eg77 bx77 hw => ?_)
                refine lv_if_ne (tgt := 85) hx hb dX4_readTest_80 (by decide) (fun c80 => ?_) (fun c80 => ?_)
                · have r80tp : iv x77 1 1 := (iv_ne_lo c80 bx77 rfl).mono (by decide) (by decide)
                  refine lv_iload hx hb dX4_readTest_85 (lv_at hl 4 rfl) ?_
                  have J97 : iv xp1 6 6 → iv x73 0 1 → iv y14_l3 0 399 → ∀ (H : Heap) (locs : List Loc), hp_w D T s H locs → ∀ (ls : Array Slot), lv_has ls 6 [(0, .ref ap0), (1, .int xp1), (2, .int x73), (3, .int y14_l3)] → WX4_readTest_6 p l e s m below meth c D T ap0 xp1 H locs (F0 m 97 ls []) := by
                    intro c97_xp1 c97_x73 c97_y14_l3 H97 locs97 hw ls hl
                    obtain ⟨x97, ex97⟩ : ∃ y : Int32, y = y14_l3 + 1 := ⟨_, rfl⟩
                    have bx97 : iv x97 1 400 := iv_add c97_y14_l3 (show iv 1 1 1 from ⟨by decide, by decide⟩) ex97 (by decide)
                    have qx97 := iv_add_eq c97_y14_l3 (show iv 1 1 1 from ⟨by decide, by decide⟩) ex97 (by decide)
                    refine lv_iinc (v := x97) (lv' := [(3, .int x97), (0, .ref ap0), (1, .int xp1), (2, .int x73)]) hx hb dX4_readTest_97 hl (k := 3) rfl (by rw [ex97]; rfl) (by decide) rfl (fun ls hl => ?_)
                    refine lv_goto (tgt := 14) hx hb dX4_readTest_100 (by decide) ?_
                    exact ih14 x73 x97 (mu_up 1 hmu14 (qx97) (by decide) (show iv x97 0 400 from (bx97.mono (by decide) (by decide))).2) c97_xp1 c97_x73 (bx97.mono (by decide) (by decide)) H97 locs97 hw _ (lv_sub hl [1, 2, 3, 0] rfl)
                  refine lv_if_ne (tgt := 97) hx hb dX4_readTest_87 (by decide) (fun c87 => ?_) (fun c87 => ?_)
                  · have r87tp : iv y52_s0 1 1 := (iv_ne_lo c87 c70_y52_s0 rfl).mono (by decide) (by decide)
                    exact J97 c70_xp1 bx73 c70_y14_l3 H77 locs77 hw _ (lv_sub hl [1, 2, 0, 3] rfl)
                  · have r87fp : iv y52_s0 0 0 := (iv_both c70_y52_s0 (iv_eq (show iv 0 0 0 from ⟨by decide, by decide⟩) c87)).mono (by decide) (by decide)
                    refine lv_aload_n hx hb dX4_readTest_90 rfl (lv_at hl 1 rfl) ?_
                    refine lv_bipush (v := (-41)) hx hb dX4_readTest_91 (by decide) ?_
                    refine hp_callei (va_runV (As := [.int (-41)]) (rest := []) ⟨hx, hb, hml, hown, hts⟩ (sX4_write l D T ap0 ((-41) : Int32) ip0) (cwV 1 hts gX4_readTest_X4_write rfl rfl rfl (by decide +kernel) ⟨Nat.le_of_ble_eq_true rfl, Nat.le_of_ble_eq_true rfl⟩) (hp_preV hG hw hp0 rfl trivial) rfl rfl hl.1 rfl (lv_room (Nat.le_of_ble_eq_true rfl)) dX4_readTest_93 ⟨Nat.zero_le _, Nat.zero_le _⟩) hw (fun x93 st93 t93 H93 locs93 eh93 eg93 bx93 hw => ?_)
                    refine lv_pop hx hb dX4_readTest_96 rfl ?_
                    exact J97 c70_xp1 bx73 c70_y14_l3 H93 locs93 hw _ (lv_sub hl [1, 2, 0, 3] rfl)
                · have r80fp : iv x77 0 0 := (iv_both bx77 (iv_eq (show iv 0 0 0 from ⟨by decide, by decide⟩) c80)).mono (by decide) (by decide)
                  refine lv_iconst (v := 0) hx hb dX4_readTest_83 (by decide) ?_
                  exact W.zret (v := 0) hx hb hr (iv_nz (show iv 0 0 1 from ⟨by decide, by decide⟩)) (fun t ht hW => ⟨some (.int 0), rfl, ⟨(0 : Int32), rfl, (show iv 0 0 1 from ⟨by decide, by decide⟩)⟩, by rw [ht]; exact hw.1, hw.2.F ht⟩) hw.2.2.2 dX4_readTest_84
              refine lv_if_eq (tgt := 70) hx hb dX4_readTest_56 (by decide) (fun c56 => ?_) (fun c56 => ?_)
              · have r56tp : iv y52_s0 0 0 := (iv_both c52_y52_s0 (iv_eq (show iv 0 0 0 from ⟨by decide, by decide⟩) c56)).mono (by decide) (by decide)
                exact J70 c52_xp1 c52_y14_l2 c52_y14_l3 (r56tp.mono (by decide) (by decide)) H52 locs52 hw _ (lv_sub hl [1, 2, 3, 4, 0] rfl)
              · have r56fp : iv y52_s0 1 1 := (iv_ne_lo c56 c52_y52_s0 rfl).mono (by decide) (by decide)
                refine lv_iload_n hx hb dX4_readTest_59 rfl (lv_at hl 3 rfl) ?_
                refine lv_if_eq (tgt := 70) hx hb dX4_readTest_60 (by decide) (fun c60 => ?_) (fun c60 => ?_)
                · have r60tp : iv y14_l2 0 0 := (iv_both c52_y14_l2 (iv_eq (show iv 0 0 0 from ⟨by decide, by decide⟩) c60)).mono (by decide) (by decide)
                  exact J70 c52_xp1 (r60tp.mono (by decide) (by decide)) c52_y14_l3 (r56fp.mono (by decide) (by decide)) H52 locs52 hw _ (lv_sub hl [1, 2, 3, 4, 0] rfl)
                · have r60fp : iv y14_l2 1 1 := (iv_ne_lo c60 c52_y14_l2 rfl).mono (by decide) (by decide)
                  refine lv_aload_n hx hb dX4_readTest_63 rfl (lv_at hl 1 rfl) ?_
                  refine lv_bipush (v := (-42)) hx hb dX4_readTest_64 (by decide) ?_
                  refine hp_callei (va_runV (As := [.int (-42)]) (rest := []) ⟨hx, hb, hml, hown, hts⟩ (sX4_write l D T ap0 ((-42) : Int32) ip0) (cwV 1 hts gX4_readTest_X4_write rfl rfl rfl (by decide +kernel) ⟨Nat.le_of_ble_eq_true rfl, Nat.le_of_ble_eq_true rfl⟩) (hp_preV hG hw hp0 rfl trivial) rfl rfl hl.1 rfl (lv_room (Nat.le_of_ble_eq_true rfl)) dX4_readTest_66 ⟨Nat.zero_le _, Nat.zero_le _⟩) hw (fun x66 st66 t66 H66 locs66 eh66 eg66 bx66 hw => ?_)
                  refine lv_pop hx hb dX4_readTest_69 rfl ?_
                  exact J70 c52_xp1 (r60fp.mono (by decide) (by decide)) c52_y14_l3 (r56fp.mono (by decide) (by decide)) H66 locs66 hw _ (lv_sub hl [1, 2, 3, 4, 0] rfl)
            refine lv_icmp_ne (tgt := 51) hx hb dX4_readTest_44 (by decide) (fun c44 => ?_) (fun c44 => ?_)
            · refine lv_iconst (v := 0) hx hb dX4_readTest_51 (by decide) ?_
              exact J52 (0 : Int32) c14_xp1 c14_y14_l2 r18fp (show iv 0 0 1 from ⟨by decide, by decide⟩) H27 locs27 hw _ (lv_sub hl [1, 2, 3, 4] rfl)
            · have r44fp : iv x27 1 1 := (iv_both (iv_any x27) (iv_eq (show iv 1 1 1 from ⟨by decide, by decide⟩) c44)).mono (by decide) (by decide)
              refine lv_iconst (v := 1) hx hb dX4_readTest_47 (by decide) ?_
              refine lv_goto (tgt := 52) hx hb dX4_readTest_48 (by decide) ?_
              exact J52 (1 : Int32) c14_xp1 c14_y14_l2 r18fp (show iv 1 0 1 from ⟨by decide, by decide⟩) H27 locs27 hw _ (lv_sub hl [1, 2, 3, 4] rfl)
          · have r35fp : iv x27 (-1) (-1) := (iv_both (iv_any x27) (iv_eq (show iv (-1) (-1) (-1) from ⟨by decide, by decide⟩) c35)).mono (by decide) (by decide)
            refine lv_goto (tgt := 103) hx hb dX4_readTest_38 (by decide) ?_
            exact J103 c14_y14_l2 H27 locs27 hw _ (lv_sub hl [1, 3] rfl)
    exact J14 _ (0 : Int32) (0 : Int32) (Nat.lt_succ_self _) bp1 (show iv 0 0 1 from ⟨by decide, by decide⟩) (show iv 0 0 400 from ⟨by decide, by decide⟩) H2 locs2 hw _ (lv_sub hl [2, 3, 1, 0] rfl)
  · have r5fp : iv x2 0 0 := (iv_both bx2 (iv_eq (show iv 0 0 0 from ⟨by decide, by decide⟩) c5)).mono (by decide) (by decide)
    refine lv_iconst (v := 0) hx hb dX4_readTest_8 (by decide) ?_
    exact W.zret (v := 0) hx hb hr (iv_nz (show iv 0 0 1 from ⟨by decide, by decide⟩)) (fun t ht hW => ⟨some (.int 0), rfl, ⟨(0 : Int32), rfl, (show iv 0 0 1 from ⟨by decide, by decide⟩)⟩, by rw [ht]; exact hw.1, hw.2.F ht⟩) hw.2.2.2 dX4_readTest_9
abbrev WX4_readFact_5 (p : Program) (l : Launch) (e : Env) (s : State) (m : MethodId) (below : List Frame) (meth : Method) (c : Code) (D : hp_D) (T : hp_T) (ap0 : Nat) (xp1 : Int32) (H : Heap) (locs : List Loc) (g : JFrame) : Prop := W p l e (headSpec wsX4_readFact ({ frames := 17, cells := 0, slots := 0, locals := 420 })).room s m ([.ref ap0, .int xp1] : List Value).toArray below meth c H locs 0 0 (MQ below (hq_e D T (fun v _ _ => ∃ r : Int32, v = some (.int r) ∧ iv r 0 1)) ([.ref ap0, .int xp1] : List Value).toArray s 0 0 (hp_F T)) g
set_option maxHeartbeats 4000000 in
set_option maxRecDepth 100000 in
theorem sX4_readFact_5 (l : Launch) (D : hp_D) (T : hp_T) (ap0 : Nat) (xp1 : Int32) (ip0 : isRuleReader T ap0) (bp1 : iv xp1 5 5) : Met l yX4_readFact wsX4_readFact ({ frames := 17, cells := 0, slots := 0, locals := 420 }) (hp_Pc D T [.ref ap0, .int xp1] (fun _ => True)) (hq_e D T (fun v _ _ => ∃ r : Int32, v = some (.int r) ∧ iv r 0 1)) 0 0 (hp_F T) := by
  obtain ⟨ap0tp, ap0stp, hp0, ip0tp, hp0stp⟩ := id ip0
  obtain ⟨ap0tpbt, hp0tp, hp0tpbt⟩ := id ip0tp
  refine Met.ofW (cc := cX4_readFact) (maxL := 5) (ret := (some .boolean)) (by decide) rfl ?_
  intro p e s m args below meth c s₁ B hml hv
  obtain ⟨rfl, hok, hG, hB⟩ := hv
  have hx := B.exec
  have hb := B.bytes
  have hr := B.returns
  have hts := atoms_spec (ws := wsX4_readFact) B.pre
  have hown : s.vm.findClass RX4 = some m.cls := findClass_of_methodNamed B.named
  have hlocks := B.notSynchronized
  have hK := hG.1
  have hw : hp_w D T s s.heap [] := hp_w.rf hok
  have IX4 : ∀ w ∈ wsX40, w ∈ wsX4_readFact := by decide +kernel
  have L26 := hts (.fieldLink RX4 26 "PalmCensus$RuleReader" "tape" "LPalmCensus$Tape;") (by decide +kernel)
  have hl := lv_entry ([.ref ap0, .int xp1]) (n := 5) (Nat.le_of_ble_eq_true rfl)
  rw [lg_entry_eq]
  generalize (lg_sl ([.ref ap0, .int xp1]) ++ List.replicate (5 - (lg_sl ([.ref ap0, .int xp1])).length) Slot.unset).toArray = ls at hl ⊢
  have hl : lv_has ls 5 [(0, .ref ap0), (1, .int xp1)] := hl
  show WX4_readFact_5 p l e s m below meth c D T ap0 xp1 s.heap [] (F0 m 0 ls [])
  refine lv_aload_n hx hb dX4_readFact_0 rfl (lv_at hl 0 rfl) ?_
  refine hp_getr hx hb hts IX4 hown hK hw.1 hp0 rfl 0 (by decide) L26 rfl dX4_readFact_1 ?_
  refine va_ldcS hx hb hown hG.2.2.1.2.2.2.2.2.2.2.2.1 dX4_readFact_4 ?_
  refine hp_callei (va_runV (As := [.ref (D.2.2.1 8)]) (rest := []) ⟨hx, hb, hml, hown, hts⟩ (sX7_takeSignOf l D T ap0tp 8 ip0tp (by decide)) (cwV 1 hts gX4_readFact_X7_takeSignOf rfl rfl rfl (by decide +kernel) ⟨Nat.le_of_ble_eq_true rfl, Nat.le_of_ble_eq_true rfl⟩) (hp_preV hG hw hp0tp rfl trivial) rfl rfl hl.1 rfl (lv_room (Nat.le_of_ble_eq_true rfl)) dX4_readFact_6 ⟨Nat.zero_le _, Nat.zero_le _⟩) hw (fun x6 st6 t6 H6 locs6 eh6 eg6 bx6 hw => ?_)
  refine lv_iconst (v := (-1)) hx hb dX4_readFact_9 (by decide) ?_
  have J18 : ∀ (y18_s0 : Int32), iv xp1 5 5 → iv y18_s0 0 1 → ∀ (H : Heap) (locs : List Loc), hp_w D T s H locs → ∀ (ls : Array Slot), lv_has ls 5 [(0, .ref ap0), (1, .int xp1)] → WX4_readFact_5 p l e s m below meth c D T ap0 xp1 H locs (F0 m 18 ls [.int y18_s0]) := by
    intro y18_s0 c18_xp1 c18_y18_s0 H18 locs18 hw ls hl
    refine lv_istore_n (lv' := [(2, .int y18_s0), (0, .ref ap0), (1, .int xp1)]) hx hb dX4_readFact_18 rfl hl (by decide) rfl (fun ls hl => ?_)
    refine lv_iload_n hx hb dX4_readFact_19 rfl (lv_at hl 0 rfl) ?_
    have J41 : ∀ (y41_s0 : Int32), iv xp1 5 5 → iv y18_s0 0 1 → iv y41_s0 0 1 → ∀ (H : Heap) (locs : List Loc), hp_w D T s H locs → ∀ (ls : Array Slot), lv_has ls 5 [(0, .ref ap0), (1, .int xp1), (2, .int y18_s0)] → WX4_readFact_5 p l e s m below meth c D T ap0 xp1 H locs (F0 m 41 ls [.int y41_s0]) := by
      intro y41_s0 c41_xp1 c41_y18_s0 c41_y41_s0 H41 locs41 hw ls hl
      refine lv_istore_n (lv' := [(3, .int y41_s0), (0, .ref ap0), (1, .int xp1), (2, .int y18_s0)]) hx hb dX4_readFact_41 rfl hl (by decide) rfl (fun ls hl => ?_)
      refine lv_iload_n hx hb dX4_readFact_42 rfl (lv_at hl 3 rfl) ?_
      have J92 : iv xp1 5 5 → iv y41_s0 0 1 → ∀ (H : Heap) (locs : List Loc), hp_w D T s H locs → ∀ (ls : Array Slot), lv_has ls 5 [(0, .ref ap0), (1, .int xp1), (3, .int y41_s0)] → WX4_readFact_5 p l e s m below meth c D T ap0 xp1 H locs (F0 m 92 ls []) := by
        intro c92_xp1 c92_y41_s0 H92 locs92 hw ls hl
        refine lv_iload_n hx hb dX4_readFact_92 rfl (lv_at hl 1 rfl) ?_
        refine lv_bipush (v := 10) hx hb dX4_readFact_93 (by decide) ?_
        refine lv_icmp_lt (tgt := 114) hx hb dX4_readFact_95 (by decide) (fun c95 => ?_) (fun c95 => ?_)
        · refine lv_iload_n hx hb dX4_readFact_114 rfl (lv_at hl 2 rfl) ?_
          refine lv_if_eq (tgt := 143) hx hb dX4_readFact_115 (by decide) (fun c115 => ?_) (fun c115 => ?_)
          · have r115tp : iv y41_s0 0 0 := (iv_both c92_y41_s0 (iv_eq (show iv 0 0 0 from ⟨by decide, by decide⟩) c115)).mono (by decide) (by decide)
            refine lv_aload_n hx hb dX4_readFact_143 rfl (lv_at hl 0 rfl) ?_
            refine lv_iload_n hx hb dX4_readFact_144 rfl (lv_at hl 1 rfl) ?_
            refine lv_iconst (v := 1) hx hb dX4_readFact_145 (by decide) ?_
            refine lv_iadd hx hb dX4_readFact_146 ?_
            refine lv_topi (fun x146 ex146 => ?_)
            have bx146 : iv x146 6 6 := iv_add c92_xp1 (show iv 1 1 1 from ⟨by decide, by decide⟩) ex146 (by decide)
            have qx146 := iv_add_eq c92_xp1 (show iv 1 1 1 from ⟨by decide, by decide⟩) ex146 (by decide)
            refine hp_callei (va_runV (As := [.int x146]) (rest := []) ⟨hx, hb, hml, hown, hts⟩ (sX4_readTest_6 l D T ap0 x146 ip0 bx146) (cwV 1 hts gX4_readFact_X4_readTest rfl rfl rfl (by decide +kernel) ⟨Nat.le_of_ble_eq_true rfl, Nat.le_of_ble_eq_true rfl⟩) (hp_preV hG hw hp0 rfl trivial) rfl rfl hl.1 rfl (lv_room (Nat.le_of_ble_eq_true rfl)) dX4_readFact_147 ⟨Nat.zero_le _, Nat.zero_le _⟩) hw (fun x147 st147 t147 H147 locs147 eh147 eg147 bx147 hw => ?_)
            have J170 : ∀ (y170_s0 : Int32), iv y170_s0 0 1 → ∀ (H : Heap) (locs : List Loc), hp_w D T s H locs → ∀ (ls : Array Slot), lv_has ls 5 [] → WX4_readFact_5 p l e s m below meth c D T ap0 xp1 H locs (F0 m 170 ls [.int y170_s0]) := by
              intro y170_s0 c170_y170_s0 H170 locs170 hw ls hl
              exact W.zret (v := y170_s0) hx hb hr (iv_nz c170_y170_s0) (fun t ht hW => ⟨some (.int y170_s0), rfl, ⟨y170_s0, rfl, c170_y170_s0⟩, by rw [ht]; exact hw.1, hw.2.F ht⟩) hw.2.2.2 dX4_readFact_170
            have J169 : ∀ (H : Heap) (locs : List Loc), hp_w D T s H locs → ∀ (ls : Array Slot), lv_has ls 5 [] → WX4_readFact_5 p l e s m below meth c D T ap0 xp1 H locs (F0 m 169 ls []) := by
              intro H169 locs169 hw ls hl
              refine lv_iconst (v := 0) hx hb dX4_readFact_169 (by decide) ?_
              exact J170 (0 : Int32) (show iv 0 0 1 from ⟨by decide, by decide⟩) H169 locs169 hw _ (lv_sub hl [] rfl)
            refine lv_if_eq (tgt := 169) hx hb dX4_readFact_150 (by decide) (fun c150 => ?_) (fun c150 => ?_)
            · have r150tp : iv x147 0 0 := (iv_both bx147 (iv_eq (show iv 0 0 0 from ⟨by decide, by decide⟩) c150)).mono (by decide) (by decide)
              exact J169 H147 locs147 hw _ (lv_sub hl [] rfl)
            · have r150fp : iv x147 1 1 := (iv_ne_lo c150 bx147 rfl).mono (by decide) (by decide)
              refine lv_aload_n hx hb dX4_readFact_153 rfl (lv_at hl 0 rfl) ?_
              refine hp_getr hx hb hts IX4 hown hK hw.1 hp0 rfl 0 (by decide) L26 rfl dX4_readFact_154 ?_
              refine va_ldcS hx hb hown hG.2.2.1.1 dX4_readFact_157 ?_
              refine hp_callei (va_runV (As := [.ref (D.2.2.1 0)]) (rest := []) ⟨hx, hb, hml, hown, hts⟩ (sX7_needSign l D T ap0tp 0 ip0tp (by decide)) (cwV 1 hts gX4_readFact_X7_needSign rfl rfl rfl (by decide +kernel) ⟨Nat.le_of_ble_eq_true rfl, Nat.le_of_ble_eq_true rfl⟩) (hp_preV hG hw hp0tp rfl trivial) rfl rfl hl.1 rfl (lv_room (Nat.le_of_ble_eq_true rfl)) dX4_readFact_159 ⟨Nat.zero_le _, Nat.zero_le _⟩) hw (fun x159 st159 t159 H159 locs159 eh159 eg159 bx159 hw => ?_)
              refine lv_if_eq (tgt := 169) hx hb dX4_readFact_162 (by decide) (fun c162 => ?_) (fun c162 => ?_)
              · have r162tp : iv x159 0 0 := (iv_both bx159 (iv_eq (show iv 0 0 0 from ⟨by decide, by decide⟩) c162)).mono (by decide) (by decide)
                exact J169 H159 locs159 hw _ (lv_sub hl [] rfl)
              · have r162fp : iv x159 1 1 := (iv_ne_lo c162 bx159 rfl).mono (by decide) (by decide)
                refine lv_iconst (v := 1) hx hb dX4_readFact_165 (by decide) ?_
                refine lv_goto (tgt := 170) hx hb dX4_readFact_166 (by decide) ?_
                exact J170 (1 : Int32) (show iv 1 0 1 from ⟨by decide, by decide⟩) H159 locs159 hw _ (lv_sub hl [] rfl)
          · have r115fp : iv y41_s0 1 1 := (iv_ne_lo c115 c92_y41_s0 rfl).mono (by decide) (by decide)
            refine lv_aload_n hx hb dX4_readFact_118 rfl (lv_at hl 0 rfl) ?_
            refine lv_iload_n hx hb dX4_readFact_119 rfl (lv_at hl 1 rfl) ?_
            refine lv_iconst (v := 1) hx hb dX4_readFact_120 (by decide) ?_
            refine lv_iadd hx hb dX4_readFact_121 ?_
            refine lv_topi (fun x121 ex121 => ?_)
            have bx121 : iv x121 6 6 := iv_add c92_xp1 (show iv 1 1 1 from ⟨by decide, by decide⟩) ex121 (by decide)
            have qx121 := iv_add_eq c92_xp1 (show iv 1 1 1 from ⟨by decide, by decide⟩) ex121 (by decide)
            refine hp_callei (va_runV (As := [.int x121]) (rest := []) ⟨hx, hb, hml, hown, hts⟩ (sX4_readFact_6 l D T ap0 x121 ip0 bx121) (cwV 1 hts gX4_readFact_X4_readFact rfl rfl rfl (by decide +kernel) ⟨Nat.le_of_ble_eq_true rfl, Nat.le_of_ble_eq_true rfl⟩) (hp_preV hG hw hp0 rfl trivial) rfl rfl hl.1 rfl (lv_room (Nat.le_of_ble_eq_true rfl)) dX4_readFact_122 ⟨Nat.zero_le _, Nat.zero_le _⟩) hw (fun x122 st122 t122 H122 locs122 eh122 eg122 bx122 hw => ?_)
            have J142 : ∀ (y142_s0 : Int32), iv y142_s0 0 1 → ∀ (H : Heap) (locs : List Loc), hp_w D T s H locs → ∀ (ls : Array Slot), lv_has ls 5 [] → WX4_readFact_5 p l e s m below meth c D T ap0 xp1 H locs (F0 m 142 ls [.int y142_s0]) := by
              intro y142_s0 c142_y142_s0 H142 locs142 hw ls hl
              exact W.zret (v := y142_s0) hx hb hr (iv_nz c142_y142_s0) (fun t ht hW => ⟨some (.int y142_s0), rfl, ⟨y142_s0, rfl, c142_y142_s0⟩, by rw [ht]; exact hw.1, hw.2.F ht⟩) hw.2.2.2 dX4_readFact_142
            have J141 : ∀ (H : Heap) (locs : List Loc), hp_w D T s H locs → ∀ (ls : Array Slot), lv_has ls 5 [] → WX4_readFact_5 p l e s m below meth c D T ap0 xp1 H locs (F0 m 141 ls []) := by
              intro H141 locs141 hw ls hl
              refine lv_iconst (v := 0) hx hb dX4_readFact_141 (by decide) ?_
              exact J142 (0 : Int32) (show iv 0 0 1 from ⟨by decide, by decide⟩) H141 locs141 hw _ (lv_sub hl [] rfl)
            refine lv_if_eq (tgt := 141) hx hb dX4_readFact_125 (by decide) (fun c125 => ?_) (fun c125 => ?_)
            · have r125tp : iv x122 0 0 := (iv_both bx122 (iv_eq (show iv 0 0 0 from ⟨by decide, by decide⟩) c125)).mono (by decide) (by decide)
              exact J141 H122 locs122 hw _ (lv_sub hl [] rfl)
            · have r125fp : iv x122 1 1 := (iv_ne_lo c125 bx122 rfl).mono (by decide) (by decide)
              refine lv_aload_n hx hb dX4_readFact_128 rfl (lv_at hl 0 rfl) ?_
              refine lv_bipush (v := (-43)) hx hb dX4_readFact_129 (by decide) ?_
              refine hp_callei (va_runV (As := [.int (-43)]) (rest := []) ⟨hx, hb, hml, hown, hts⟩ (sX4_write l D T ap0 ((-43) : Int32) ip0) (cwV 1 hts gX4_readFact_X4_write rfl rfl rfl (by decide +kernel) ⟨Nat.le_of_ble_eq_true rfl, Nat.le_of_ble_eq_true rfl⟩) (hp_preV hG hw hp0 rfl trivial) rfl rfl hl.1 rfl (lv_room (Nat.le_of_ble_eq_true rfl)) dX4_readFact_131 ⟨Nat.zero_le _, Nat.zero_le _⟩) hw (fun x131 st131 t131 H131 locs131 eh131 eg131 bx131 hw => ?_)
              refine lv_if_eq (tgt := 141) hx hb dX4_readFact_134 (by decide) (fun c134 => ?_) (fun c134 => ?_)
              · exact iv_abs2 c134 bx131 (show iv 0 0 0 from ⟨by decide, by decide⟩) (by decide)
              · refine lv_iconst (v := 1) hx hb dX4_readFact_137 (by decide) ?_
                refine lv_goto (tgt := 142) hx hb dX4_readFact_138 (by decide) ?_
                exact J142 (1 : Int32) (show iv 1 0 1 from ⟨by decide, by decide⟩) H131 locs131 hw _ (lv_sub hl [] rfl)
        · exact iv_abs (iv_le_l (iv_nlt c95) (show iv 10 10 10 from ⟨by decide, by decide⟩) c92_xp1) (by decide)
      refine lv_if_ne (tgt := 92) hx hb dX4_readFact_43 (by decide) (fun c43 => ?_) (fun c43 => ?_)
      · have r43tp : iv y18_s0 1 1 := (iv_ne_lo c43 c41_y18_s0 rfl).mono (by decide) (by decide)
        exact J92 c41_xp1 c41_y41_s0 H41 locs41 hw _ (lv_sub hl [1, 2, 0] rfl)
      · have r43fp : iv y18_s0 0 0 := (iv_both c41_y18_s0 (iv_eq (show iv 0 0 0 from ⟨by decide, by decide⟩) c43)).mono (by decide) (by decide)
        refine lv_iload_n hx hb dX4_readFact_46 rfl (lv_at hl 0 rfl) ?_
        refine lv_if_ne (tgt := 92) hx hb dX4_readFact_47 (by decide) (fun c47 => ?_) (fun c47 => ?_)
        · have r47tp : iv y41_s0 1 1 := (iv_ne_lo c47 c41_y41_s0 rfl).mono (by decide) (by decide)
          exact J92 c41_xp1 (r47tp.mono (by decide) (by decide)) H41 locs41 hw _ (lv_sub hl [1, 2, 0] rfl)
        · have r47fp : iv y41_s0 0 0 := (iv_both c41_y41_s0 (iv_eq (show iv 0 0 0 from ⟨by decide, by decide⟩) c47)).mono (by decide) (by decide)
          refine lv_aload_n hx hb dX4_readFact_50 rfl (lv_at hl 1 rfl) ?_
          refine hp_callei (va_runV (As := []) (rest := []) ⟨hx, hb, hml, hown, hts⟩ (sX4_readSum l D T ap0 ip0) (cwV 0 hts gX4_readFact_X4_readSum rfl rfl rfl (by decide +kernel) ⟨Nat.le_of_ble_eq_true rfl, Nat.le_of_ble_eq_true rfl⟩) (hp_preV hG hw hp0 rfl trivial) rfl rfl hl.1 rfl (lv_room (Nat.le_of_ble_eq_true rfl)) dX4_readFact_51 ⟨Nat.zero_le _, Nat.zero_le _⟩) hw (fun x51 st51 t51 H51 locs51 eh51 eg51 bx51 hw => ?_)
          refine lv_if_ne (tgt := 59) hx hb dX4_readFact_54 (by decide) (fun c54 => ?_) (fun c54 => ?_)
          · have r54tp : iv x51 1 1 := (iv_ne_lo c54 bx51 rfl).mono (by decide) (by decide)
            refine lv_aload_n hx hb dX4_readFact_59 rfl (lv_at hl 1 rfl) ?_
            refine hp_callei (va_runV (As := []) (rest := []) ⟨hx, hb, hml, hown, hts⟩ (sX4_readSign l D T ap0 ip0) (cwV 0 hts gX4_readFact_X4_readSign rfl rfl rfl (by decide +kernel) ⟨Nat.le_of_ble_eq_true rfl, Nat.le_of_ble_eq_true rfl⟩) (hp_preV hG hw hp0 rfl trivial) rfl rfl hl.1 rfl (lv_room (Nat.le_of_ble_eq_true rfl)) dX4_readFact_60 ⟨Nat.zero_le _, Nat.zero_le _⟩) hw (fun x60 st60 t60 H60 locs60 eh60 eg60 bx60 hw => ?_)
            refine lv_istore (lv' := [(4, .int x60), (3, .int y41_s0), (0, .ref ap0), (1, .int xp1), (2, .int y18_s0)]) hx hb dX4_readFact_63 hl (by decide) rfl (fun ls hl => ?_)
            refine lv_iload hx hb dX4_readFact_65 (lv_at hl 0 rfl) ?_
            have J91 : ∀ (y91_s0 : Int32), iv y91_s0 0 1 → ∀ (H : Heap) (locs : List Loc), hp_w D T s H locs → ∀ (ls : Array Slot), lv_has ls 5 [] → WX4_readFact_5 p l e s m below meth c D T ap0 xp1 H locs (F0 m 91 ls [.int y91_s0]) := by
              intro y91_s0 c91_y91_s0 H91 locs91 hw ls hl
              exact W.zret (v := y91_s0) hx hb hr (iv_nz c91_y91_s0) (fun t ht hW => ⟨some (.int y91_s0), rfl, ⟨y91_s0, rfl, c91_y91_s0⟩, by rw [ht]; exact hw.1, hw.2.F ht⟩) hw.2.2.2 dX4_readFact_91
            have J90 : ∀ (H : Heap) (locs : List Loc), hp_w D T s H locs → ∀ (ls : Array Slot), lv_has ls 5 [] → WX4_readFact_5 p l e s m below meth c D T ap0 xp1 H locs (F0 m 90 ls []) := by
              intro H90 locs90 hw ls hl
              refine lv_iconst (v := 0) hx hb dX4_readFact_90 (by decide) ?_
              exact J91 (0 : Int32) (show iv 0 0 1 from ⟨by decide, by decide⟩) H90 locs90 hw _ (lv_sub hl [] rfl)
            refine lv_if_eq (tgt := 90) hx hb dX4_readFact_67 (by decide) (fun c67 => ?_) (fun c67 => ?_)
            · have r67tp : iv x60 0 0 := (iv_both (iv_any x60) (iv_eq (show iv 0 0 0 from ⟨by decide, by decide⟩) c67)).mono (by decide) (by decide)
              exact J90 H60 locs60 hw _ (lv_sub hl [] rfl)
            · refine lv_aload_n hx hb dX4_readFact_70 rfl (lv_at hl 2 rfl) ?_
              refine hp_callei (va_runV (As := []) (rest := []) ⟨hx, hb, hml, hown, hts⟩ (sX4_readSum l D T ap0 ip0) (cwV 0 hts gX4_readFact_X4_readSum rfl rfl rfl (by decide +kernel) ⟨Nat.le_of_ble_eq_true rfl, Nat.le_of_ble_eq_true rfl⟩) (hp_preV hG hw hp0 rfl trivial) rfl rfl hl.1 rfl (lv_room (Nat.le_of_ble_eq_true rfl)) dX4_readFact_71 ⟨Nat.zero_le _, Nat.zero_le _⟩) hw (fun x71 st71 t71 H71 locs71 eh71 eg71 bx71 hw => ?_)
              refine lv_if_eq (tgt := 90) hx hb dX4_readFact_74 (by decide) (fun c74 => ?_) (fun c74 => ?_)
              · have r74tp : iv x71 0 0 := (iv_both bx71 (iv_eq (show iv 0 0 0 from ⟨by decide, by decide⟩) c74)).mono (by decide) (by decide)
                exact J90 H71 locs71 hw _ (lv_sub hl [] rfl)
              · have r74fp : iv x71 1 1 := (iv_ne_lo c74 bx71 rfl).mono (by decide) (by decide)
                refine lv_aload_n hx hb dX4_readFact_77 rfl (lv_at hl 2 rfl) ?_
                refine lv_iload hx hb dX4_readFact_78 (lv_at hl 0 rfl) ?_
                refine hp_callei (va_runV (As := [.int x60]) (rest := []) ⟨hx, hb, hml, hown, hts⟩ (sX4_write l D T ap0 x60 ip0) (cwV 1 hts gX4_readFact_X4_write rfl rfl rfl (by decide +kernel) ⟨Nat.le_of_ble_eq_true rfl, Nat.le_of_ble_eq_true rfl⟩) (hp_preV hG hw hp0 rfl trivial) rfl rfl hl.1 rfl (lv_room (Nat.le_of_ble_eq_true rfl)) dX4_readFact_80 ⟨Nat.zero_le _, Nat.zero_le _⟩) hw (fun x80 st80 t80 H80 locs80 eh80 eg80 bx80 hw => ?_)
                refine lv_if_eq (tgt := 90) hx hb dX4_readFact_83 (by decide) (fun c83 => ?_) (fun c83 => ?_)
                · exact iv_abs2 c83 bx80 (show iv 0 0 0 from ⟨by decide, by decide⟩) (by decide)
                · refine lv_iconst (v := 1) hx hb dX4_readFact_86 (by decide) ?_
                  refine lv_goto (tgt := 91) hx hb dX4_readFact_87 (by decide) ?_
                  exact J91 (1 : Int32) (show iv 1 0 1 from ⟨by decide, by decide⟩) H80 locs80 hw _ (lv_sub hl [] rfl)
          · have r54fp : iv x51 0 0 := (iv_both bx51 (iv_eq (show iv 0 0 0 from ⟨by decide, by decide⟩) c54)).mono (by decide) (by decide)
            refine lv_iconst (v := 0) hx hb dX4_readFact_57 (by decide) ?_
            exact W.zret (v := 0) hx hb hr (iv_nz (show iv 0 0 1 from ⟨by decide, by decide⟩)) (fun t ht hW => ⟨some (.int 0), rfl, ⟨(0 : Int32), rfl, (show iv 0 0 1 from ⟨by decide, by decide⟩)⟩, by rw [ht]; exact hw.1, hw.2.F ht⟩) hw.2.2.2 dX4_readFact_58
    have J40 : iv xp1 5 5 → iv y18_s0 0 1 → ∀ (H : Heap) (locs : List Loc), hp_w D T s H locs → ∀ (ls : Array Slot), lv_has ls 5 [(0, .ref ap0), (1, .int xp1), (2, .int y18_s0)] → WX4_readFact_5 p l e s m below meth c D T ap0 xp1 H locs (F0 m 40 ls []) := by
      intro c40_xp1 c40_y18_s0 H40 locs40 hw ls hl
      refine lv_iconst (v := 0) hx hb dX4_readFact_40 (by decide) ?_
      exact J41 (0 : Int32) c40_xp1 c40_y18_s0 (show iv 0 0 1 from ⟨by decide, by decide⟩) H40 locs40 hw _ (lv_sub hl [0, 1, 2] rfl)
    refine lv_if_ne (tgt := 40) hx hb dX4_readFact_20 (by decide) (fun c20 => ?_) (fun c20 => ?_)
    · have r20tp : iv y18_s0 1 1 := (iv_ne_lo c20 c18_y18_s0 rfl).mono (by decide) (by decide)
      exact J40 c18_xp1 (r20tp.mono (by decide) (by decide)) H18 locs18 hw _ (lv_sub hl [1, 2, 0] rfl)
    · have r20fp : iv y18_s0 0 0 := (iv_both c18_y18_s0 (iv_eq (show iv 0 0 0 from ⟨by decide, by decide⟩) c20)).mono (by decide) (by decide)
      refine lv_aload_n hx hb dX4_readFact_23 rfl (lv_at hl 1 rfl) ?_
      refine hp_getr hx hb hts IX4 hown hK hw.1 hp0 rfl 0 (by decide) L26 rfl dX4_readFact_24 ?_
      refine va_ldcS hx hb hown hG.2.2.1.2.2.2.2.2.2.2.2.2.1 dX4_readFact_27 ?_
      refine hp_callei (va_runV (As := [.ref (D.2.2.1 9)]) (rest := []) ⟨hx, hb, hml, hown, hts⟩ (sX7_takeWord l D T ap0tp 9 ip0tp (by decide)) (cwV 1 hts gX4_readFact_X7_takeWord rfl rfl rfl (by decide +kernel) ⟨Nat.le_of_ble_eq_true rfl, Nat.le_of_ble_eq_true rfl⟩) (hp_preV hG hw hp0tp rfl trivial) rfl rfl hl.1 rfl (lv_room (Nat.le_of_ble_eq_true rfl)) dX4_readFact_29 ⟨Nat.zero_le _, Nat.zero_le _⟩) hw (fun x29 st29 t29 H29 locs29 eh29 eg29 bx29 hw => ?_)
      refine lv_iconst (v := (-1)) hx hb dX4_readFact_32 (by decide) ?_
      refine lv_icmp_eq (tgt := 40) hx hb dX4_readFact_33 (by decide) (fun c33 => ?_) (fun c33 => ?_)
      · have r33tp : iv x29 (-1) (-1) := (iv_both (iv_any x29) (iv_eq (show iv (-1) (-1) (-1) from ⟨by decide, by decide⟩) c33)).mono (by decide) (by decide)
        exact J40 c18_xp1 (r20fp.mono (by decide) (by decide)) H29 locs29 hw _ (lv_sub hl [1, 2, 0] rfl)
      · refine lv_iconst (v := 1) hx hb dX4_readFact_36 (by decide) ?_
        refine lv_goto (tgt := 41) hx hb dX4_readFact_37 (by decide) ?_
        exact J41 (1 : Int32) c18_xp1 (r20fp.mono (by decide) (by decide)) (show iv 1 0 1 from ⟨by decide, by decide⟩) H29 locs29 hw _ (lv_sub hl [1, 2, 0] rfl)
  refine lv_icmp_eq (tgt := 17) hx hb dX4_readFact_10 (by decide) (fun c10 => ?_) (fun c10 => ?_)
  · have r10tp : iv x6 (-1) (-1) := (iv_both (iv_any x6) (iv_eq (show iv (-1) (-1) (-1) from ⟨by decide, by decide⟩) c10)).mono (by decide) (by decide)
    refine lv_iconst (v := 0) hx hb dX4_readFact_17 (by decide) ?_
    exact J18 (0 : Int32) bp1 (show iv 0 0 1 from ⟨by decide, by decide⟩) H6 locs6 hw _ (lv_sub hl [0, 1] rfl)
  · refine lv_iconst (v := 1) hx hb dX4_readFact_13 (by decide) ?_
    refine lv_goto (tgt := 18) hx hb dX4_readFact_14 (by decide) ?_
    exact J18 (1 : Int32) bp1 (show iv 1 0 1 from ⟨by decide, by decide⟩) H6 locs6 hw _ (lv_sub hl [0, 1] rfl)
abbrev WX4_readTest_5 (p : Program) (l : Launch) (e : Env) (s : State) (m : MethodId) (below : List Frame) (meth : Method) (c : Code) (D : hp_D) (T : hp_T) (ap0 : Nat) (xp1 : Int32) (H : Heap) (locs : List Loc) (g : JFrame) : Prop := W p l e (headSpec wsX4_readTest ({ frames := 18, cells := 0, slots := 0, locals := 444 })).room s m ([.ref ap0, .int xp1] : List Value).toArray below meth c H locs 0 0 (MQ below (hq_e D T (fun v _ _ => ∃ r : Int32, v = some (.int r) ∧ iv r 0 1)) ([.ref ap0, .int xp1] : List Value).toArray s 0 0 (hp_F T)) g
set_option maxHeartbeats 4000000 in
set_option maxRecDepth 100000 in
theorem sX4_readTest_5 (l : Launch) (D : hp_D) (T : hp_T) (ap0 : Nat) (xp1 : Int32) (ip0 : isRuleReader T ap0) (bp1 : iv xp1 5 5) : Met l yX4_readTest wsX4_readTest ({ frames := 18, cells := 0, slots := 0, locals := 444 }) (hp_Pc D T [.ref ap0, .int xp1] (fun _ => True)) (hq_e D T (fun v _ _ => ∃ r : Int32, v = some (.int r) ∧ iv r 0 1)) 0 0 (hp_F T) := by
  obtain ⟨ap0tp, ap0stp, hp0, ip0tp, hp0stp⟩ := id ip0
  obtain ⟨ap0tpbt, hp0tp, hp0tpbt⟩ := id ip0tp
  refine Met.ofW (cc := cX4_readTest) (maxL := 6) (ret := (some .boolean)) (by decide) rfl ?_
  intro p e s m args below meth c s₁ B hml hv
  obtain ⟨rfl, hok, hG, hB⟩ := hv
  have hx := B.exec
  have hb := B.bytes
  have hr := B.returns
  have hts := atoms_spec (ws := wsX4_readTest) B.pre
  have hown : s.vm.findClass RX4 = some m.cls := findClass_of_methodNamed B.named
  have hlocks := B.notSynchronized
  have hK := hG.1
  have hw : hp_w D T s s.heap [] := hp_w.rf hok
  have IX4 : ∀ w ∈ wsX40, w ∈ wsX4_readTest := by decide +kernel
  have L26 := hts (.fieldLink RX4 26 "PalmCensus$RuleReader" "tape" "LPalmCensus$Tape;") (by decide +kernel)
  have hl := lv_entry ([.ref ap0, .int xp1]) (n := 6) (Nat.le_of_ble_eq_true rfl)
  rw [lg_entry_eq]
  generalize (lg_sl ([.ref ap0, .int xp1]) ++ List.replicate (6 - (lg_sl ([.ref ap0, .int xp1])).length) Slot.unset).toArray = ls at hl ⊢
  have hl : lv_has ls 6 [(0, .ref ap0), (1, .int xp1)] := hl
  show WX4_readTest_5 p l e s m below meth c D T ap0 xp1 s.heap [] (F0 m 0 ls [])
  refine lv_aload_n hx hb dX4_readTest_0 rfl (lv_at hl 0 rfl) ?_
  refine lv_iload_n hx hb dX4_readTest_1 rfl (lv_at hl 1 rfl) ?_
  refine hp_callei (va_runV (As := [.int xp1]) (rest := []) ⟨hx, hb, hml, hown, hts⟩ (sX4_readFact_5 l D T ap0 xp1 ip0 bp1) (cwV 1 hts gX4_readTest_X4_readFact rfl rfl rfl (by decide +kernel) ⟨Nat.le_of_ble_eq_true rfl, Nat.le_of_ble_eq_true rfl⟩) (hp_preV hG hw hp0 rfl trivial) rfl rfl hl.1 rfl (lv_room (Nat.le_of_ble_eq_true rfl)) dX4_readTest_2 ⟨Nat.zero_le _, Nat.zero_le _⟩) hw (fun x2 st2 t2 H2 locs2 eh2 eg2 bx2 hw => ?_)
  refine lv_if_ne (tgt := 10) hx hb dX4_readTest_5 (by decide) (fun c5 => ?_) (fun c5 => ?_)
  · have r5tp : iv x2 1 1 := (iv_ne_lo c5 bx2 rfl).mono (by decide) (by decide)
    refine lv_iconst (v := 0) hx hb dX4_readTest_10 (by decide) ?_
    refine lv_istore_n (lv' := [(2, .int 0), (0, .ref ap0), (1, .int xp1)]) hx hb dX4_readTest_11 rfl hl (by decide) rfl (fun ls hl => ?_)
    refine lv_iconst (v := 0) hx hb dX4_readTest_12 (by decide) ?_
    refine lv_istore_n (lv' := [(3, .int 0), (2, .int 0), (0, .ref ap0), (1, .int xp1)]) hx hb dX4_readTest_13 rfl hl (by decide) rfl (fun ls hl => ?_)
    have J14 : ∀ (n : Nat) (y14_l2 y14_l3 : Int32), (400 - y14_l3.toInt).toNat < n → iv xp1 5 5 → iv y14_l2 0 1 → iv y14_l3 0 400 → ∀ (H : Heap) (locs : List Loc), hp_w D T s H locs → ∀ (ls : Array Slot), lv_has ls 6 [(0, .ref ap0), (1, .int xp1), (2, .int y14_l2), (3, .int y14_l3)] → WX4_readTest_5 p l e s m below meth c D T ap0 xp1 H locs (F0 m 14 ls []) := by
      intro n
      induction n with
      | zero => intro y14_l2 y14_l3 hmu14 c14_xp1 c14_y14_l2 c14_y14_l3 H14 locs14 hw ls hl; exact absurd hmu14 (Nat.not_lt_zero _)
      | succ n ih14 =>
        intro y14_l2 y14_l3 hmu14 c14_xp1 c14_y14_l2 c14_y14_l3 H14 locs14 hw ls hl
        refine lv_iload_n hx hb dX4_readTest_14 rfl (lv_at hl 3 rfl) ?_
        refine lv_sipush (v := 400) hx hb dX4_readTest_15 (by decide) ?_
        have J103 : iv y14_l2 0 1 → ∀ (H : Heap) (locs : List Loc), hp_w D T s H locs → ∀ (ls : Array Slot), lv_has ls 6 [(0, .ref ap0), (2, .int y14_l2)] → WX4_readTest_5 p l e s m below meth c D T ap0 xp1 H locs (F0 m 103 ls []) := by
          intro c103_y14_l2 H103 locs103 hw ls hl
          refine lv_iload_n hx hb dX4_readTest_103 rfl (lv_at hl 1 rfl) ?_
          have J121 : ∀ (H : Heap) (locs : List Loc), hp_w D T s H locs → ∀ (ls : Array Slot), lv_has ls 6 [] → WX4_readTest_5 p l e s m below meth c D T ap0 xp1 H locs (F0 m 121 ls [.int 1]) := by
            intro H121 locs121 hw ls hl
            exact W.zret (v := 1) hx hb hr (iv_nz (show iv 1 0 1 from ⟨by decide, by decide⟩)) (fun t ht hW => ⟨some (.int 1), rfl, ⟨(1 : Int32), rfl, (show iv 1 0 1 from ⟨by decide, by decide⟩)⟩, by rw [ht]; exact hw.1, hw.2.F ht⟩) hw.2.2.2 dX4_readTest_121
          have J116 : ∀ (H : Heap) (locs : List Loc), hp_w D T s H locs → ∀ (ls : Array Slot), lv_has ls 6 [] → WX4_readTest_5 p l e s m below meth c D T ap0 xp1 H locs (F0 m 116 ls []) := by
            intro H116 locs116 hw ls hl
            refine lv_iconst (v := 1) hx hb dX4_readTest_116 (by decide) ?_
            refine lv_goto (tgt := 121) hx hb dX4_readTest_117 (by decide) ?_
            exact J121 H116 locs116 hw _ (lv_sub hl [] rfl)
          refine lv_if_eq (tgt := 116) hx hb dX4_readTest_104 (by decide) (fun c104 => ?_) (fun c104 => ?_)
          · have r104tp : iv y14_l2 0 0 := (iv_both c103_y14_l2 (iv_eq (show iv 0 0 0 from ⟨by decide, by decide⟩) c104)).mono (by decide) (by decide)
            exact J116 H103 locs103 hw _ (lv_sub hl [] rfl)
          · have r104fp : iv y14_l2 1 1 := (iv_ne_lo c104 c103_y14_l2 rfl).mono (by decide) (by decide)
            refine lv_aload_n hx hb dX4_readTest_107 rfl (lv_at hl 0 rfl) ?_
            refine lv_bipush (v := (-42)) hx hb dX4_readTest_108 (by decide) ?_
            refine hp_callei (va_runV (As := [.int (-42)]) (rest := []) ⟨hx, hb, hml, hown, hts⟩ (sX4_write l D T ap0 ((-42) : Int32) ip0) (cwV 1 hts gX4_readTest_X4_write rfl rfl rfl (by decide +kernel) ⟨Nat.le_of_ble_eq_true rfl, Nat.le_of_ble_eq_true rfl⟩) (hp_preV hG hw hp0 rfl trivial) rfl rfl hl.1 rfl (lv_room (Nat.le_of_ble_eq_true rfl)) dX4_readTest_110 ⟨Nat.zero_le _, Nat.zero_le _⟩) hw (fun x110 st110 t110 H110 locs110 eh110 eg110 bx110 hw => ?_)
            refine lv_if_eq (tgt := 120) hx hb dX4_readTest_113 (by decide) (fun c113 => ?_) (fun c113 => ?_)
            · exact iv_abs2 c113 bx110 (show iv 0 0 0 from ⟨by decide, by decide⟩) (by decide)
            · exact J116 H110 locs110 hw _ (lv_sub hl [] rfl)
        refine lv_icmp_ge (tgt := 103) hx hb dX4_readTest_18 (by decide) (fun c18 => ?_) (fun c18 => ?_)
        · have r18tq : iv y14_l3 400 400 := (iv_le_r c18 (show iv 400 400 400 from ⟨by decide, by decide⟩) c14_y14_l3).mono (by decide) (by decide)
          exact J103 c14_y14_l2 H14 locs14 hw _ (lv_sub hl [0, 2] rfl)
        · have r18fp : iv y14_l3 0 399 := (iv_lt_l (iv_nle c18) c14_y14_l3 (show iv 400 400 400 from ⟨by decide, by decide⟩)).mono (by decide) (by decide)
          refine lv_aload_n hx hb dX4_readTest_21 rfl (lv_at hl 0 rfl) ?_
          refine hp_getr hx hb hts IX4 hown hK hw.1 hp0 rfl 0 (by decide) L26 rfl dX4_readTest_22 ?_
          refine va_ldcS hx hb hown hG.2.2.1.2.2.2.2.2.2.2.1 dX4_readTest_25 ?_
          refine hp_callei (va_runV (As := [.ref (D.2.2.1 7)]) (rest := []) ⟨hx, hb, hml, hown, hts⟩ (sX7_takeWord l D T ap0tp 7 ip0tp (by decide)) (cwV 1 hts gX4_readTest_X7_takeWord rfl rfl rfl (by decide +kernel) ⟨Nat.le_of_ble_eq_true rfl, Nat.le_of_ble_eq_true rfl⟩) (hp_preV hG hw hp0tp rfl trivial) rfl rfl hl.1 rfl (lv_room (Nat.le_of_ble_eq_true rfl)) dX4_readTest_27 ⟨Nat.zero_le _, Nat.zero_le _⟩) hw (fun x27 st27 t27 H27 locs27 eh27 eg27 bx27 hw => ?_)
          refine lv_istore (lv' := [(4, .int x27), (0, .ref ap0), (1, .int xp1), (2, .int y14_l2), (3, .int y14_l3)]) hx hb dX4_readTest_30 hl (by decide) rfl (fun ls hl => ?_)
          refine lv_iload hx hb dX4_readTest_32 (lv_at hl 0 rfl) ?_
          refine lv_iconst (v := (-1)) hx hb dX4_readTest_34 (by decide) ?_
          refine lv_icmp_ne (tgt := 41) hx hb dX4_readTest_35 (by decide) (fun c35 => ?_) (fun c35 => ?_)
          · refine lv_iload hx hb dX4_readTest_41 (lv_at hl 0 rfl) ?_
            refine lv_iconst (v := 1) hx hb dX4_readTest_43 (by decide) ?_
            have J52 : ∀ (y52_s0 : Int32), iv xp1 5 5 → iv y14_l2 0 1 → iv y14_l3 0 399 → iv y52_s0 0 1 → ∀ (H : Heap) (locs : List Loc), hp_w D T s H locs → ∀ (ls : Array Slot), lv_has ls 6 [(0, .ref ap0), (1, .int xp1), (2, .int y14_l2), (3, .int y14_l3)] → WX4_readTest_5 p l e s m below meth c D T ap0 xp1 H locs (F0 m 52 ls [.int y52_s0]) := by
              intro y52_s0 c52_xp1 c52_y14_l2 c52_y14_l3 c52_y52_s0 H52 locs52 hw ls hl
              refine lv_istore (lv' := [(5, .int y52_s0), (0, .ref ap0), (1, .int xp1), (2, .int y14_l2), (3, .int y14_l3)]) hx hb dX4_readTest_52 hl (by decide) rfl (fun ls hl => ?_)
              refine lv_iload hx hb dX4_readTest_54 (lv_at hl 0 rfl) ?_
              have J70 : iv xp1 5 5 → iv y14_l2 0 1 → iv y14_l3 0 399 → iv y52_s0 0 1 → ∀ (H : Heap) (locs : List Loc), hp_w D T s H locs → ∀ (ls : Array Slot), lv_has ls 6 [(0, .ref ap0), (1, .int xp1), (2, .int y14_l2), (3, .int y14_l3), (5, .int y52_s0)] → WX4_readTest_5 p l e s m below meth c D T ap0 xp1 H locs (F0 m 70 ls []) := by
                intro c70_xp1 c70_y14_l2 c70_y14_l3 c70_y52_s0 H70 locs70 hw ls hl
                refine lv_iload_n hx hb dX4_readTest_70 rfl (lv_at hl 2 rfl) ?_
                refine lv_iload hx hb dX4_readTest_71 (lv_at hl 4 rfl) ?_
                refine lv_ior hx hb dX4_readTest_73 ?_
                refine lv_topi (fun x73 ex73 => ?_)
                have bx73 : iv x73 0 1 := iv_or 1 c70_y14_l2 c70_y52_s0 ex73 (by decide) (by decide)
                refine lv_istore_n (lv' := [(2, .int x73), (0, .ref ap0), (1, .int xp1), (3, .int y14_l3), (5, .int y52_s0)]) hx hb dX4_readTest_74 rfl hl (by decide) rfl (fun ls hl => ?_)
                refine lv_aload_n hx hb dX4_readTest_75 rfl (lv_at hl 1 rfl) ?_
                refine lv_iload_n hx hb dX4_readTest_76 rfl (lv_at hl 2 rfl) ?_
                refine hp_callei (va_runV (As := [.int xp1]) (rest := []) ⟨hx, hb, hml, hown, hts⟩ (sX4_readFact_5 l D T ap0 xp1 ip0 c70_xp1) (cwV 1 hts gX4_readTest_X4_readFact rfl rfl rfl (by decide +kernel) ⟨Nat.le_of_ble_eq_true rfl, Nat.le_of_ble_eq_true rfl⟩) (hp_preV hG hw hp0 rfl trivial) rfl rfl hl.1 rfl (lv_room (Nat.le_of_ble_eq_true rfl)) dX4_readTest_77 ⟨Nat.zero_le _, Nat.zero_le _⟩) hw (fun x77 st77 t77 H77 locs77 eh77 eg77 bx77 hw => ?_)
                refine lv_if_ne (tgt := 85) hx hb dX4_readTest_80 (by decide) (fun c80 => ?_) (fun c80 => ?_)
                · have r80tp : iv x77 1 1 := (iv_ne_lo c80 bx77 rfl).mono (by decide) (by decide)
                  refine lv_iload hx hb dX4_readTest_85 (lv_at hl 4 rfl) ?_
                  have J97 : iv xp1 5 5 → iv x73 0 1 → iv y14_l3 0 399 → ∀ (H : Heap) (locs : List Loc), hp_w D T s H locs → ∀ (ls : Array Slot), lv_has ls 6 [(0, .ref ap0), (1, .int xp1), (2, .int x73), (3, .int y14_l3)] → WX4_readTest_5 p l e s m below meth c D T ap0 xp1 H locs (F0 m 97 ls []) := by
                    intro c97_xp1 c97_x73 c97_y14_l3 H97 locs97 hw ls hl
                    obtain ⟨x97, ex97⟩ : ∃ y : Int32, y = y14_l3 + 1 := ⟨_, rfl⟩
                    have bx97 : iv x97 1 400 := iv_add c97_y14_l3 (show iv 1 1 1 from ⟨by decide, by decide⟩) ex97 (by decide)
                    have qx97 := iv_add_eq c97_y14_l3 (show iv 1 1 1 from ⟨by decide, by decide⟩) ex97 (by decide)
                    refine lv_iinc (v := x97) (lv' := [(3, .int x97), (0, .ref ap0), (1, .int xp1), (2, .int x73)]) hx hb dX4_readTest_97 hl (k := 3) rfl (by rw [ex97]; rfl) (by decide) rfl (fun ls hl => ?_)
                    refine lv_goto (tgt := 14) hx hb dX4_readTest_100 (by decide) ?_
                    exact ih14 x73 x97 (mu_up 1 hmu14 (qx97) (by decide) (show iv x97 0 400 from (bx97.mono (by decide) (by decide))).2) c97_xp1 c97_x73 (bx97.mono (by decide) (by decide)) H97 locs97 hw _ (lv_sub hl [1, 2, 3, 0] rfl)
                  refine lv_if_ne (tgt := 97) hx hb dX4_readTest_87 (by decide) (fun c87 => ?_) (fun c87 => ?_)
                  · have r87tp : iv y52_s0 1 1 := (iv_ne_lo c87 c70_y52_s0 rfl).mono (by decide) (by decide)
                    exact J97 c70_xp1 bx73 c70_y14_l3 H77 locs77 hw _ (lv_sub hl [1, 2, 0, 3] rfl)
                  · have r87fp : iv y52_s0 0 0 := (iv_both c70_y52_s0 (iv_eq (show iv 0 0 0 from ⟨by decide, by decide⟩) c87)).mono (by decide) (by decide)
                    refine lv_aload_n hx hb dX4_readTest_90 rfl (lv_at hl 1 rfl) ?_
                    refine lv_bipush (v := (-41)) hx hb dX4_readTest_91 (by decide) ?_
                    refine hp_callei (va_runV (As := [.int (-41)]) (rest := []) ⟨hx, hb, hml, hown, hts⟩ (sX4_write l D T ap0 ((-41) : Int32) ip0) (cwV 1 hts gX4_readTest_X4_write rfl rfl rfl (by decide +kernel) ⟨Nat.le_of_ble_eq_true rfl, Nat.le_of_ble_eq_true rfl⟩) (hp_preV hG hw hp0 rfl trivial) rfl rfl hl.1 rfl (lv_room (Nat.le_of_ble_eq_true rfl)) dX4_readTest_93 ⟨Nat.zero_le _, Nat.zero_le _⟩) hw (fun x93 st93 t93 H93 locs93 eh93 eg93 bx93 hw => ?_)
                    refine lv_pop hx hb dX4_readTest_96 rfl ?_
                    exact J97 c70_xp1 bx73 c70_y14_l3 H93 locs93 hw _ (lv_sub hl [1, 2, 0, 3] rfl)
                · have r80fp : iv x77 0 0 := (iv_both bx77 (iv_eq (show iv 0 0 0 from ⟨by decide, by decide⟩) c80)).mono (by decide) (by decide)
                  refine lv_iconst (v := 0) hx hb dX4_readTest_83 (by decide) ?_
                  exact W.zret (v := 0) hx hb hr (iv_nz (show iv 0 0 1 from ⟨by decide, by decide⟩)) (fun t ht hW => ⟨some (.int 0), rfl, ⟨(0 : Int32), rfl, (show iv 0 0 1 from ⟨by decide, by decide⟩)⟩, by rw [ht]; exact hw.1, hw.2.F ht⟩) hw.2.2.2 dX4_readTest_84
              refine lv_if_eq (tgt := 70) hx hb dX4_readTest_56 (by decide) (fun c56 => ?_) (fun c56 => ?_)
              · have r56tp : iv y52_s0 0 0 := (iv_both c52_y52_s0 (iv_eq (show iv 0 0 0 from ⟨by decide, by decide⟩) c56)).mono (by decide) (by decide)
                exact J70 c52_xp1 c52_y14_l2 c52_y14_l3 (r56tp.mono (by decide) (by decide)) H52 locs52 hw _ (lv_sub hl [1, 2, 3, 4, 0] rfl)
              · have r56fp : iv y52_s0 1 1 := (iv_ne_lo c56 c52_y52_s0 rfl).mono (by decide) (by decide)
                refine lv_iload_n hx hb dX4_readTest_59 rfl (lv_at hl 3 rfl) ?_
                refine lv_if_eq (tgt := 70) hx hb dX4_readTest_60 (by decide) (fun c60 => ?_) (fun c60 => ?_)
                · have r60tp : iv y14_l2 0 0 := (iv_both c52_y14_l2 (iv_eq (show iv 0 0 0 from ⟨by decide, by decide⟩) c60)).mono (by decide) (by decide)
                  exact J70 c52_xp1 (r60tp.mono (by decide) (by decide)) c52_y14_l3 (r56fp.mono (by decide) (by decide)) H52 locs52 hw _ (lv_sub hl [1, 2, 3, 4, 0] rfl)
                · have r60fp : iv y14_l2 1 1 := (iv_ne_lo c60 c52_y14_l2 rfl).mono (by decide) (by decide)
                  refine lv_aload_n hx hb dX4_readTest_63 rfl (lv_at hl 1 rfl) ?_
                  refine lv_bipush (v := (-42)) hx hb dX4_readTest_64 (by decide) ?_
                  refine hp_callei (va_runV (As := [.int (-42)]) (rest := []) ⟨hx, hb, hml, hown, hts⟩ (sX4_write l D T ap0 ((-42) : Int32) ip0) (cwV 1 hts gX4_readTest_X4_write rfl rfl rfl (by decide +kernel) ⟨Nat.le_of_ble_eq_true rfl, Nat.le_of_ble_eq_true rfl⟩) (hp_preV hG hw hp0 rfl trivial) rfl rfl hl.1 rfl (lv_room (Nat.le_of_ble_eq_true rfl)) dX4_readTest_66 ⟨Nat.zero_le _, Nat.zero_le _⟩) hw (fun x66 st66 t66 H66 locs66 eh66 eg66 bx66 hw => ?_)
                  refine lv_pop hx hb dX4_readTest_69 rfl ?_
                  exact J70 c52_xp1 (r60fp.mono (by decide) (by decide)) c52_y14_l3 (r56fp.mono (by decide) (by decide)) H66 locs66 hw _ (lv_sub hl [1, 2, 3, 4, 0] rfl)
            refine lv_icmp_ne (tgt := 51) hx hb dX4_readTest_44 (by decide) (fun c44 => ?_) (fun c44 => ?_)
            · refine lv_iconst (v := 0) hx hb dX4_readTest_51 (by decide) ?_
              exact J52 (0 : Int32) c14_xp1 c14_y14_l2 r18fp (show iv 0 0 1 from ⟨by decide, by decide⟩) H27 locs27 hw _ (lv_sub hl [1, 2, 3, 4] rfl)
            · have r44fp : iv x27 1 1 := (iv_both (iv_any x27) (iv_eq (show iv 1 1 1 from ⟨by decide, by decide⟩) c44)).mono (by decide) (by decide)
              refine lv_iconst (v := 1) hx hb dX4_readTest_47 (by decide) ?_
              refine lv_goto (tgt := 52) hx hb dX4_readTest_48 (by decide) ?_
              exact J52 (1 : Int32) c14_xp1 c14_y14_l2 r18fp (show iv 1 0 1 from ⟨by decide, by decide⟩) H27 locs27 hw _ (lv_sub hl [1, 2, 3, 4] rfl)
          · have r35fp : iv x27 (-1) (-1) := (iv_both (iv_any x27) (iv_eq (show iv (-1) (-1) (-1) from ⟨by decide, by decide⟩) c35)).mono (by decide) (by decide)
            refine lv_goto (tgt := 103) hx hb dX4_readTest_38 (by decide) ?_
            exact J103 c14_y14_l2 H27 locs27 hw _ (lv_sub hl [1, 3] rfl)
    exact J14 _ (0 : Int32) (0 : Int32) (Nat.lt_succ_self _) bp1 (show iv 0 0 1 from ⟨by decide, by decide⟩) (show iv 0 0 400 from ⟨by decide, by decide⟩) H2 locs2 hw _ (lv_sub hl [2, 3, 1, 0] rfl)
  · have r5fp : iv x2 0 0 := (iv_both bx2 (iv_eq (show iv 0 0 0 from ⟨by decide, by decide⟩) c5)).mono (by decide) (by decide)
    refine lv_iconst (v := 0) hx hb dX4_readTest_8 (by decide) ?_
    exact W.zret (v := 0) hx hb hr (iv_nz (show iv 0 0 1 from ⟨by decide, by decide⟩)) (fun t ht hW => ⟨some (.int 0), rfl, ⟨(0 : Int32), rfl, (show iv 0 0 1 from ⟨by decide, by decide⟩)⟩, by rw [ht]; exact hw.1, hw.2.F ht⟩) hw.2.2.2 dX4_readTest_9
abbrev WX4_readFact_4 (p : Program) (l : Launch) (e : Env) (s : State) (m : MethodId) (below : List Frame) (meth : Method) (c : Code) (D : hp_D) (T : hp_T) (ap0 : Nat) (xp1 : Int32) (H : Heap) (locs : List Loc) (g : JFrame) : Prop := W p l e (headSpec wsX4_readFact ({ frames := 19, cells := 0, slots := 0, locals := 469 })).room s m ([.ref ap0, .int xp1] : List Value).toArray below meth c H locs 0 0 (MQ below (hq_e D T (fun v _ _ => ∃ r : Int32, v = some (.int r) ∧ iv r 0 1)) ([.ref ap0, .int xp1] : List Value).toArray s 0 0 (hp_F T)) g
set_option maxHeartbeats 4000000 in
set_option maxRecDepth 100000 in
theorem sX4_readFact_4 (l : Launch) (D : hp_D) (T : hp_T) (ap0 : Nat) (xp1 : Int32) (ip0 : isRuleReader T ap0) (bp1 : iv xp1 4 4) : Met l yX4_readFact wsX4_readFact ({ frames := 19, cells := 0, slots := 0, locals := 469 }) (hp_Pc D T [.ref ap0, .int xp1] (fun _ => True)) (hq_e D T (fun v _ _ => ∃ r : Int32, v = some (.int r) ∧ iv r 0 1)) 0 0 (hp_F T) := by
  obtain ⟨ap0tp, ap0stp, hp0, ip0tp, hp0stp⟩ := id ip0
  obtain ⟨ap0tpbt, hp0tp, hp0tpbt⟩ := id ip0tp
  refine Met.ofW (cc := cX4_readFact) (maxL := 5) (ret := (some .boolean)) (by decide) rfl ?_
  intro p e s m args below meth c s₁ B hml hv
  obtain ⟨rfl, hok, hG, hB⟩ := hv
  have hx := B.exec
  have hb := B.bytes
  have hr := B.returns
  have hts := atoms_spec (ws := wsX4_readFact) B.pre
  have hown : s.vm.findClass RX4 = some m.cls := findClass_of_methodNamed B.named
  have hlocks := B.notSynchronized
  have hK := hG.1
  have hw : hp_w D T s s.heap [] := hp_w.rf hok
  have IX4 : ∀ w ∈ wsX40, w ∈ wsX4_readFact := by decide +kernel
  have L26 := hts (.fieldLink RX4 26 "PalmCensus$RuleReader" "tape" "LPalmCensus$Tape;") (by decide +kernel)
  have hl := lv_entry ([.ref ap0, .int xp1]) (n := 5) (Nat.le_of_ble_eq_true rfl)
  rw [lg_entry_eq]
  generalize (lg_sl ([.ref ap0, .int xp1]) ++ List.replicate (5 - (lg_sl ([.ref ap0, .int xp1])).length) Slot.unset).toArray = ls at hl ⊢
  have hl : lv_has ls 5 [(0, .ref ap0), (1, .int xp1)] := hl
  show WX4_readFact_4 p l e s m below meth c D T ap0 xp1 s.heap [] (F0 m 0 ls [])
  refine lv_aload_n hx hb dX4_readFact_0 rfl (lv_at hl 0 rfl) ?_
  refine hp_getr hx hb hts IX4 hown hK hw.1 hp0 rfl 0 (by decide) L26 rfl dX4_readFact_1 ?_
  refine va_ldcS hx hb hown hG.2.2.1.2.2.2.2.2.2.2.2.1 dX4_readFact_4 ?_
  refine hp_callei (va_runV (As := [.ref (D.2.2.1 8)]) (rest := []) ⟨hx, hb, hml, hown, hts⟩ (sX7_takeSignOf l D T ap0tp 8 ip0tp (by decide)) (cwV 1 hts gX4_readFact_X7_takeSignOf rfl rfl rfl (by decide +kernel) ⟨Nat.le_of_ble_eq_true rfl, Nat.le_of_ble_eq_true rfl⟩) (hp_preV hG hw hp0tp rfl trivial) rfl rfl hl.1 rfl (lv_room (Nat.le_of_ble_eq_true rfl)) dX4_readFact_6 ⟨Nat.zero_le _, Nat.zero_le _⟩) hw (fun x6 st6 t6 H6 locs6 eh6 eg6 bx6 hw => ?_)
  refine lv_iconst (v := (-1)) hx hb dX4_readFact_9 (by decide) ?_
  have J18 : ∀ (y18_s0 : Int32), iv xp1 4 4 → iv y18_s0 0 1 → ∀ (H : Heap) (locs : List Loc), hp_w D T s H locs → ∀ (ls : Array Slot), lv_has ls 5 [(0, .ref ap0), (1, .int xp1)] → WX4_readFact_4 p l e s m below meth c D T ap0 xp1 H locs (F0 m 18 ls [.int y18_s0]) := by
    intro y18_s0 c18_xp1 c18_y18_s0 H18 locs18 hw ls hl
    refine lv_istore_n (lv' := [(2, .int y18_s0), (0, .ref ap0), (1, .int xp1)]) hx hb dX4_readFact_18 rfl hl (by decide) rfl (fun ls hl => ?_)
    refine lv_iload_n hx hb dX4_readFact_19 rfl (lv_at hl 0 rfl) ?_
    have J41 : ∀ (y41_s0 : Int32), iv xp1 4 4 → iv y18_s0 0 1 → iv y41_s0 0 1 → ∀ (H : Heap) (locs : List Loc), hp_w D T s H locs → ∀ (ls : Array Slot), lv_has ls 5 [(0, .ref ap0), (1, .int xp1), (2, .int y18_s0)] → WX4_readFact_4 p l e s m below meth c D T ap0 xp1 H locs (F0 m 41 ls [.int y41_s0]) := by
      intro y41_s0 c41_xp1 c41_y18_s0 c41_y41_s0 H41 locs41 hw ls hl
      refine lv_istore_n (lv' := [(3, .int y41_s0), (0, .ref ap0), (1, .int xp1), (2, .int y18_s0)]) hx hb dX4_readFact_41 rfl hl (by decide) rfl (fun ls hl => ?_)
      refine lv_iload_n hx hb dX4_readFact_42 rfl (lv_at hl 3 rfl) ?_
      have J92 : iv xp1 4 4 → iv y41_s0 0 1 → ∀ (H : Heap) (locs : List Loc), hp_w D T s H locs → ∀ (ls : Array Slot), lv_has ls 5 [(0, .ref ap0), (1, .int xp1), (3, .int y41_s0)] → WX4_readFact_4 p l e s m below meth c D T ap0 xp1 H locs (F0 m 92 ls []) := by
        intro c92_xp1 c92_y41_s0 H92 locs92 hw ls hl
        refine lv_iload_n hx hb dX4_readFact_92 rfl (lv_at hl 1 rfl) ?_
        refine lv_bipush (v := 10) hx hb dX4_readFact_93 (by decide) ?_
        refine lv_icmp_lt (tgt := 114) hx hb dX4_readFact_95 (by decide) (fun c95 => ?_) (fun c95 => ?_)
        · refine lv_iload_n hx hb dX4_readFact_114 rfl (lv_at hl 2 rfl) ?_
          refine lv_if_eq (tgt := 143) hx hb dX4_readFact_115 (by decide) (fun c115 => ?_) (fun c115 => ?_)
          · have r115tp : iv y41_s0 0 0 := (iv_both c92_y41_s0 (iv_eq (show iv 0 0 0 from ⟨by decide, by decide⟩) c115)).mono (by decide) (by decide)
            refine lv_aload_n hx hb dX4_readFact_143 rfl (lv_at hl 0 rfl) ?_
            refine lv_iload_n hx hb dX4_readFact_144 rfl (lv_at hl 1 rfl) ?_
            refine lv_iconst (v := 1) hx hb dX4_readFact_145 (by decide) ?_
            refine lv_iadd hx hb dX4_readFact_146 ?_
            refine lv_topi (fun x146 ex146 => ?_)
            have bx146 : iv x146 5 5 := iv_add c92_xp1 (show iv 1 1 1 from ⟨by decide, by decide⟩) ex146 (by decide)
            have qx146 := iv_add_eq c92_xp1 (show iv 1 1 1 from ⟨by decide, by decide⟩) ex146 (by decide)
            refine hp_callei (va_runV (As := [.int x146]) (rest := []) ⟨hx, hb, hml, hown, hts⟩ (sX4_readTest_5 l D T ap0 x146 ip0 bx146) (cwV 1 hts gX4_readFact_X4_readTest rfl rfl rfl (by decide +kernel) ⟨Nat.le_of_ble_eq_true rfl, Nat.le_of_ble_eq_true rfl⟩) (hp_preV hG hw hp0 rfl trivial) rfl rfl hl.1 rfl (lv_room (Nat.le_of_ble_eq_true rfl)) dX4_readFact_147 ⟨Nat.zero_le _, Nat.zero_le _⟩) hw (fun x147 st147 t147 H147 locs147 eh147 eg147 bx147 hw => ?_)
            have J170 : ∀ (y170_s0 : Int32), iv y170_s0 0 1 → ∀ (H : Heap) (locs : List Loc), hp_w D T s H locs → ∀ (ls : Array Slot), lv_has ls 5 [] → WX4_readFact_4 p l e s m below meth c D T ap0 xp1 H locs (F0 m 170 ls [.int y170_s0]) := by
              intro y170_s0 c170_y170_s0 H170 locs170 hw ls hl
              exact W.zret (v := y170_s0) hx hb hr (iv_nz c170_y170_s0) (fun t ht hW => ⟨some (.int y170_s0), rfl, ⟨y170_s0, rfl, c170_y170_s0⟩, by rw [ht]; exact hw.1, hw.2.F ht⟩) hw.2.2.2 dX4_readFact_170
            have J169 : ∀ (H : Heap) (locs : List Loc), hp_w D T s H locs → ∀ (ls : Array Slot), lv_has ls 5 [] → WX4_readFact_4 p l e s m below meth c D T ap0 xp1 H locs (F0 m 169 ls []) := by
              intro H169 locs169 hw ls hl
              refine lv_iconst (v := 0) hx hb dX4_readFact_169 (by decide) ?_
              exact J170 (0 : Int32) (show iv 0 0 1 from ⟨by decide, by decide⟩) H169 locs169 hw _ (lv_sub hl [] rfl)
            refine lv_if_eq (tgt := 169) hx hb dX4_readFact_150 (by decide) (fun c150 => ?_) (fun c150 => ?_)
            · have r150tp : iv x147 0 0 := (iv_both bx147 (iv_eq (show iv 0 0 0 from ⟨by decide, by decide⟩) c150)).mono (by decide) (by decide)
              exact J169 H147 locs147 hw _ (lv_sub hl [] rfl)
            · have r150fp : iv x147 1 1 := (iv_ne_lo c150 bx147 rfl).mono (by decide) (by decide)
              refine lv_aload_n hx hb dX4_readFact_153 rfl (lv_at hl 0 rfl) ?_
              refine hp_getr hx hb hts IX4 hown hK hw.1 hp0 rfl 0 (by decide) L26 rfl dX4_readFact_154 ?_
              refine va_ldcS hx hb hown hG.2.2.1.1 dX4_readFact_157 ?_
              refine hp_callei (va_runV (As := [.ref (D.2.2.1 0)]) (rest := []) ⟨hx, hb, hml, hown, hts⟩ (sX7_needSign l D T ap0tp 0 ip0tp (by decide)) (cwV 1 hts gX4_readFact_X7_needSign rfl rfl rfl (by decide +kernel) ⟨Nat.le_of_ble_eq_true rfl, Nat.le_of_ble_eq_true rfl⟩) (hp_preV hG hw hp0tp rfl trivial) rfl rfl hl.1 rfl (lv_room (Nat.le_of_ble_eq_true rfl)) dX4_readFact_159 ⟨Nat.zero_le _, Nat.zero_le _⟩) hw (fun x159 st159 t159 H159 locs159 eh159 eg159 bx159 hw => ?_)
              refine lv_if_eq (tgt := 169) hx hb dX4_readFact_162 (by decide) (fun c162 => ?_) (fun c162 => ?_)
              · have r162tp : iv x159 0 0 := (iv_both bx159 (iv_eq (show iv 0 0 0 from ⟨by decide, by decide⟩) c162)).mono (by decide) (by decide)
                exact J169 H159 locs159 hw _ (lv_sub hl [] rfl)
              · have r162fp : iv x159 1 1 := (iv_ne_lo c162 bx159 rfl).mono (by decide) (by decide)
                refine lv_iconst (v := 1) hx hb dX4_readFact_165 (by decide) ?_
                refine lv_goto (tgt := 170) hx hb dX4_readFact_166 (by decide) ?_
                exact J170 (1 : Int32) (show iv 1 0 1 from ⟨by decide, by decide⟩) H159 locs159 hw _ (lv_sub hl [] rfl)
          · have r115fp : iv y41_s0 1 1 := (iv_ne_lo c115 c92_y41_s0 rfl).mono (by decide) (by decide)
            refine lv_aload_n hx hb dX4_readFact_118 rfl (lv_at hl 0 rfl) ?_
            refine lv_iload_n hx hb dX4_readFact_119 rfl (lv_at hl 1 rfl) ?_
            refine lv_iconst (v := 1) hx hb dX4_readFact_120 (by decide) ?_
            refine lv_iadd hx hb dX4_readFact_121 ?_
            refine lv_topi (fun x121 ex121 => ?_)
            have bx121 : iv x121 5 5 := iv_add c92_xp1 (show iv 1 1 1 from ⟨by decide, by decide⟩) ex121 (by decide)
            have qx121 := iv_add_eq c92_xp1 (show iv 1 1 1 from ⟨by decide, by decide⟩) ex121 (by decide)
            refine hp_callei (va_runV (As := [.int x121]) (rest := []) ⟨hx, hb, hml, hown, hts⟩ (sX4_readFact_5 l D T ap0 x121 ip0 bx121) (cwV 1 hts gX4_readFact_X4_readFact rfl rfl rfl (by decide +kernel) ⟨Nat.le_of_ble_eq_true rfl, Nat.le_of_ble_eq_true rfl⟩) (hp_preV hG hw hp0 rfl trivial) rfl rfl hl.1 rfl (lv_room (Nat.le_of_ble_eq_true rfl)) dX4_readFact_122 ⟨Nat.zero_le _, Nat.zero_le _⟩) hw (fun x122 st122 t122 H122 locs122 eh122 eg122 bx122 hw => ?_)
            have J142 : ∀ (y142_s0 : Int32), iv y142_s0 0 1 → ∀ (H : Heap) (locs : List Loc), hp_w D T s H locs → ∀ (ls : Array Slot), lv_has ls 5 [] → WX4_readFact_4 p l e s m below meth c D T ap0 xp1 H locs (F0 m 142 ls [.int y142_s0]) := by
              intro y142_s0 c142_y142_s0 H142 locs142 hw ls hl
              exact W.zret (v := y142_s0) hx hb hr (iv_nz c142_y142_s0) (fun t ht hW => ⟨some (.int y142_s0), rfl, ⟨y142_s0, rfl, c142_y142_s0⟩, by rw [ht]; exact hw.1, hw.2.F ht⟩) hw.2.2.2 dX4_readFact_142
            have J141 : ∀ (H : Heap) (locs : List Loc), hp_w D T s H locs → ∀ (ls : Array Slot), lv_has ls 5 [] → WX4_readFact_4 p l e s m below meth c D T ap0 xp1 H locs (F0 m 141 ls []) := by
              intro H141 locs141 hw ls hl
              refine lv_iconst (v := 0) hx hb dX4_readFact_141 (by decide) ?_
              exact J142 (0 : Int32) (show iv 0 0 1 from ⟨by decide, by decide⟩) H141 locs141 hw _ (lv_sub hl [] rfl)
            refine lv_if_eq (tgt := 141) hx hb dX4_readFact_125 (by decide) (fun c125 => ?_) (fun c125 => ?_)
            · have r125tp : iv x122 0 0 := (iv_both bx122 (iv_eq (show iv 0 0 0 from ⟨by decide, by decide⟩) c125)).mono (by decide) (by decide)
              exact J141 H122 locs122 hw _ (lv_sub hl [] rfl)
            · have r125fp : iv x122 1 1 := (iv_ne_lo c125 bx122 rfl).mono (by decide) (by decide)
              refine lv_aload_n hx hb dX4_readFact_128 rfl (lv_at hl 0 rfl) ?_
              refine lv_bipush (v := (-43)) hx hb dX4_readFact_129 (by decide) ?_
              refine hp_callei (va_runV (As := [.int (-43)]) (rest := []) ⟨hx, hb, hml, hown, hts⟩ (sX4_write l D T ap0 ((-43) : Int32) ip0) (cwV 1 hts gX4_readFact_X4_write rfl rfl rfl (by decide +kernel) ⟨Nat.le_of_ble_eq_true rfl, Nat.le_of_ble_eq_true rfl⟩) (hp_preV hG hw hp0 rfl trivial) rfl rfl hl.1 rfl (lv_room (Nat.le_of_ble_eq_true rfl)) dX4_readFact_131 ⟨Nat.zero_le _, Nat.zero_le _⟩) hw (fun x131 st131 t131 H131 locs131 eh131 eg131 bx131 hw => ?_)
              refine lv_if_eq (tgt := 141) hx hb dX4_readFact_134 (by decide) (fun c134 => ?_) (fun c134 => ?_)
              · exact iv_abs2 c134 bx131 (show iv 0 0 0 from ⟨by decide, by decide⟩) (by decide)
              · refine lv_iconst (v := 1) hx hb dX4_readFact_137 (by decide) ?_
                refine lv_goto (tgt := 142) hx hb dX4_readFact_138 (by decide) ?_
                exact J142 (1 : Int32) (show iv 1 0 1 from ⟨by decide, by decide⟩) H131 locs131 hw _ (lv_sub hl [] rfl)
        · exact iv_abs (iv_le_l (iv_nlt c95) (show iv 10 10 10 from ⟨by decide, by decide⟩) c92_xp1) (by decide)
      refine lv_if_ne (tgt := 92) hx hb dX4_readFact_43 (by decide) (fun c43 => ?_) (fun c43 => ?_)
      · have r43tp : iv y18_s0 1 1 := (iv_ne_lo c43 c41_y18_s0 rfl).mono (by decide) (by decide)
        exact J92 c41_xp1 c41_y41_s0 H41 locs41 hw _ (lv_sub hl [1, 2, 0] rfl)
      · have r43fp : iv y18_s0 0 0 := (iv_both c41_y18_s0 (iv_eq (show iv 0 0 0 from ⟨by decide, by decide⟩) c43)).mono (by decide) (by decide)
        refine lv_iload_n hx hb dX4_readFact_46 rfl (lv_at hl 0 rfl) ?_
        refine lv_if_ne (tgt := 92) hx hb dX4_readFact_47 (by decide) (fun c47 => ?_) (fun c47 => ?_)
        · have r47tp : iv y41_s0 1 1 := (iv_ne_lo c47 c41_y41_s0 rfl).mono (by decide) (by decide)
          exact J92 c41_xp1 (r47tp.mono (by decide) (by decide)) H41 locs41 hw _ (lv_sub hl [1, 2, 0] rfl)
        · have r47fp : iv y41_s0 0 0 := (iv_both c41_y41_s0 (iv_eq (show iv 0 0 0 from ⟨by decide, by decide⟩) c47)).mono (by decide) (by decide)
          refine lv_aload_n hx hb dX4_readFact_50 rfl (lv_at hl 1 rfl) ?_
          refine hp_callei (va_runV (As := []) (rest := []) ⟨hx, hb, hml, hown, hts⟩ (sX4_readSum l D T ap0 ip0) (cwV 0 hts gX4_readFact_X4_readSum rfl rfl rfl (by decide +kernel) ⟨Nat.le_of_ble_eq_true rfl, Nat.le_of_ble_eq_true rfl⟩) (hp_preV hG hw hp0 rfl trivial) rfl rfl hl.1 rfl (lv_room (Nat.le_of_ble_eq_true rfl)) dX4_readFact_51 ⟨Nat.zero_le _, Nat.zero_le _⟩) hw (fun x51 st51 t51 H51 locs51 eh51 eg51 bx51 hw => ?_)
          refine lv_if_ne (tgt := 59) hx hb dX4_readFact_54 (by decide) (fun c54 => ?_) (fun c54 => ?_)
          · have r54tp : iv x51 1 1 := (iv_ne_lo c54 bx51 rfl).mono (by decide) (by decide)
            refine lv_aload_n hx hb dX4_readFact_59 rfl (lv_at hl 1 rfl) ?_
            refine hp_callei (va_runV (As := []) (rest := []) ⟨hx, hb, hml, hown, hts⟩ (sX4_readSign l D T ap0 ip0) (cwV 0 hts gX4_readFact_X4_readSign rfl rfl rfl (by decide +kernel) ⟨Nat.le_of_ble_eq_true rfl, Nat.le_of_ble_eq_true rfl⟩) (hp_preV hG hw hp0 rfl trivial) rfl rfl hl.1 rfl (lv_room (Nat.le_of_ble_eq_true rfl)) dX4_readFact_60 ⟨Nat.zero_le _, Nat.zero_le _⟩) hw (fun x60 st60 t60 H60 locs60 eh60 eg60 bx60 hw => ?_)
            refine lv_istore (lv' := [(4, .int x60), (3, .int y41_s0), (0, .ref ap0), (1, .int xp1), (2, .int y18_s0)]) hx hb dX4_readFact_63 hl (by decide) rfl (fun ls hl => ?_)
            refine lv_iload hx hb dX4_readFact_65 (lv_at hl 0 rfl) ?_
            have J91 : ∀ (y91_s0 : Int32), iv y91_s0 0 1 → ∀ (H : Heap) (locs : List Loc), hp_w D T s H locs → ∀ (ls : Array Slot), lv_has ls 5 [] → WX4_readFact_4 p l e s m below meth c D T ap0 xp1 H locs (F0 m 91 ls [.int y91_s0]) := by
              intro y91_s0 c91_y91_s0 H91 locs91 hw ls hl
              exact W.zret (v := y91_s0) hx hb hr (iv_nz c91_y91_s0) (fun t ht hW => ⟨some (.int y91_s0), rfl, ⟨y91_s0, rfl, c91_y91_s0⟩, by rw [ht]; exact hw.1, hw.2.F ht⟩) hw.2.2.2 dX4_readFact_91
            have J90 : ∀ (H : Heap) (locs : List Loc), hp_w D T s H locs → ∀ (ls : Array Slot), lv_has ls 5 [] → WX4_readFact_4 p l e s m below meth c D T ap0 xp1 H locs (F0 m 90 ls []) := by
              intro H90 locs90 hw ls hl
              refine lv_iconst (v := 0) hx hb dX4_readFact_90 (by decide) ?_
              exact J91 (0 : Int32) (show iv 0 0 1 from ⟨by decide, by decide⟩) H90 locs90 hw _ (lv_sub hl [] rfl)
            refine lv_if_eq (tgt := 90) hx hb dX4_readFact_67 (by decide) (fun c67 => ?_) (fun c67 => ?_)
            · have r67tp : iv x60 0 0 := (iv_both (iv_any x60) (iv_eq (show iv 0 0 0 from ⟨by decide, by decide⟩) c67)).mono (by decide) (by decide)
              exact J90 H60 locs60 hw _ (lv_sub hl [] rfl)
            · refine lv_aload_n hx hb dX4_readFact_70 rfl (lv_at hl 2 rfl) ?_
              refine hp_callei (va_runV (As := []) (rest := []) ⟨hx, hb, hml, hown, hts⟩ (sX4_readSum l D T ap0 ip0) (cwV 0 hts gX4_readFact_X4_readSum rfl rfl rfl (by decide +kernel) ⟨Nat.le_of_ble_eq_true rfl, Nat.le_of_ble_eq_true rfl⟩) (hp_preV hG hw hp0 rfl trivial) rfl rfl hl.1 rfl (lv_room (Nat.le_of_ble_eq_true rfl)) dX4_readFact_71 ⟨Nat.zero_le _, Nat.zero_le _⟩) hw (fun x71 st71 t71 H71 locs71 eh71 eg71 bx71 hw => ?_)
              refine lv_if_eq (tgt := 90) hx hb dX4_readFact_74 (by decide) (fun c74 => ?_) (fun c74 => ?_)
              · have r74tp : iv x71 0 0 := (iv_both bx71 (iv_eq (show iv 0 0 0 from ⟨by decide, by decide⟩) c74)).mono (by decide) (by decide)
                exact J90 H71 locs71 hw _ (lv_sub hl [] rfl)
              · have r74fp : iv x71 1 1 := (iv_ne_lo c74 bx71 rfl).mono (by decide) (by decide)
                refine lv_aload_n hx hb dX4_readFact_77 rfl (lv_at hl 2 rfl) ?_
                refine lv_iload hx hb dX4_readFact_78 (lv_at hl 0 rfl) ?_
                refine hp_callei (va_runV (As := [.int x60]) (rest := []) ⟨hx, hb, hml, hown, hts⟩ (sX4_write l D T ap0 x60 ip0) (cwV 1 hts gX4_readFact_X4_write rfl rfl rfl (by decide +kernel) ⟨Nat.le_of_ble_eq_true rfl, Nat.le_of_ble_eq_true rfl⟩) (hp_preV hG hw hp0 rfl trivial) rfl rfl hl.1 rfl (lv_room (Nat.le_of_ble_eq_true rfl)) dX4_readFact_80 ⟨Nat.zero_le _, Nat.zero_le _⟩) hw (fun x80 st80 t80 H80 locs80 eh80 eg80 bx80 hw => ?_)
                refine lv_if_eq (tgt := 90) hx hb dX4_readFact_83 (by decide) (fun c83 => ?_) (fun c83 => ?_)
                · exact iv_abs2 c83 bx80 (show iv 0 0 0 from ⟨by decide, by decide⟩) (by decide)
                · refine lv_iconst (v := 1) hx hb dX4_readFact_86 (by decide) ?_
                  refine lv_goto (tgt := 91) hx hb dX4_readFact_87 (by decide) ?_
                  exact J91 (1 : Int32) (show iv 1 0 1 from ⟨by decide, by decide⟩) H80 locs80 hw _ (lv_sub hl [] rfl)
          · have r54fp : iv x51 0 0 := (iv_both bx51 (iv_eq (show iv 0 0 0 from ⟨by decide, by decide⟩) c54)).mono (by decide) (by decide)
            refine lv_iconst (v := 0) hx hb dX4_readFact_57 (by decide) ?_
            exact W.zret (v := 0) hx hb hr (iv_nz (show iv 0 0 1 from ⟨by decide, by decide⟩)) (fun t ht hW => ⟨some (.int 0), rfl, ⟨(0 : Int32), rfl, (show iv 0 0 1 from ⟨by decide, by decide⟩)⟩, by rw [ht]; exact hw.1, hw.2.F ht⟩) hw.2.2.2 dX4_readFact_58
    have J40 : iv xp1 4 4 → iv y18_s0 0 1 → ∀ (H : Heap) (locs : List Loc), hp_w D T s H locs → ∀ (ls : Array Slot), lv_has ls 5 [(0, .ref ap0), (1, .int xp1), (2, .int y18_s0)] → WX4_readFact_4 p l e s m below meth c D T ap0 xp1 H locs (F0 m 40 ls []) := by
      intro c40_xp1 c40_y18_s0 H40 locs40 hw ls hl
      refine lv_iconst (v := 0) hx hb dX4_readFact_40 (by decide) ?_
      exact J41 (0 : Int32) c40_xp1 c40_y18_s0 (show iv 0 0 1 from ⟨by decide, by decide⟩) H40 locs40 hw _ (lv_sub hl [0, 1, 2] rfl)
    refine lv_if_ne (tgt := 40) hx hb dX4_readFact_20 (by decide) (fun c20 => ?_) (fun c20 => ?_)
    · have r20tp : iv y18_s0 1 1 := (iv_ne_lo c20 c18_y18_s0 rfl).mono (by decide) (by decide)
      exact J40 c18_xp1 (r20tp.mono (by decide) (by decide)) H18 locs18 hw _ (lv_sub hl [1, 2, 0] rfl)
    · have r20fp : iv y18_s0 0 0 := (iv_both c18_y18_s0 (iv_eq (show iv 0 0 0 from ⟨by decide, by decide⟩) c20)).mono (by decide) (by decide)
      refine lv_aload_n hx hb dX4_readFact_23 rfl (lv_at hl 1 rfl) ?_
      refine hp_getr hx hb hts IX4 hown hK hw.1 hp0 rfl 0 (by decide) L26 rfl dX4_readFact_24 ?_
      refine va_ldcS hx hb hown hG.2.2.1.2.2.2.2.2.2.2.2.2.1 dX4_readFact_27 ?_
      refine hp_callei (va_runV (As := [.ref (D.2.2.1 9)]) (rest := []) ⟨hx, hb, hml, hown, hts⟩ (sX7_takeWord l D T ap0tp 9 ip0tp (by decide)) (cwV 1 hts gX4_readFact_X7_takeWord rfl rfl rfl (by decide +kernel) ⟨Nat.le_of_ble_eq_true rfl, Nat.le_of_ble_eq_true rfl⟩) (hp_preV hG hw hp0tp rfl trivial) rfl rfl hl.1 rfl (lv_room (Nat.le_of_ble_eq_true rfl)) dX4_readFact_29 ⟨Nat.zero_le _, Nat.zero_le _⟩) hw (fun x29 st29 t29 H29 locs29 eh29 eg29 bx29 hw => ?_)
      refine lv_iconst (v := (-1)) hx hb dX4_readFact_32 (by decide) ?_
      refine lv_icmp_eq (tgt := 40) hx hb dX4_readFact_33 (by decide) (fun c33 => ?_) (fun c33 => ?_)
      · have r33tp : iv x29 (-1) (-1) := (iv_both (iv_any x29) (iv_eq (show iv (-1) (-1) (-1) from ⟨by decide, by decide⟩) c33)).mono (by decide) (by decide)
        exact J40 c18_xp1 (r20fp.mono (by decide) (by decide)) H29 locs29 hw _ (lv_sub hl [1, 2, 0] rfl)
      · refine lv_iconst (v := 1) hx hb dX4_readFact_36 (by decide) ?_
        refine lv_goto (tgt := 41) hx hb dX4_readFact_37 (by decide) ?_
        exact J41 (1 : Int32) c18_xp1 (r20fp.mono (by decide) (by decide)) (show iv 1 0 1 from ⟨by decide, by decide⟩) H29 locs29 hw _ (lv_sub hl [1, 2, 0] rfl)
  refine lv_icmp_eq (tgt := 17) hx hb dX4_readFact_10 (by decide) (fun c10 => ?_) (fun c10 => ?_)
  · have r10tp : iv x6 (-1) (-1) := (iv_both (iv_any x6) (iv_eq (show iv (-1) (-1) (-1) from ⟨by decide, by decide⟩) c10)).mono (by decide) (by decide)
    refine lv_iconst (v := 0) hx hb dX4_readFact_17 (by decide) ?_
    exact J18 (0 : Int32) bp1 (show iv 0 0 1 from ⟨by decide, by decide⟩) H6 locs6 hw _ (lv_sub hl [0, 1] rfl)
  · refine lv_iconst (v := 1) hx hb dX4_readFact_13 (by decide) ?_
    refine lv_goto (tgt := 18) hx hb dX4_readFact_14 (by decide) ?_
    exact J18 (1 : Int32) bp1 (show iv 1 0 1 from ⟨by decide, by decide⟩) H6 locs6 hw _ (lv_sub hl [0, 1] rfl)
abbrev WX4_readTest_4 (p : Program) (l : Launch) (e : Env) (s : State) (m : MethodId) (below : List Frame) (meth : Method) (c : Code) (D : hp_D) (T : hp_T) (ap0 : Nat) (xp1 : Int32) (H : Heap) (locs : List Loc) (g : JFrame) : Prop := W p l e (headSpec wsX4_readTest ({ frames := 20, cells := 0, slots := 0, locals := 493 })).room s m ([.ref ap0, .int xp1] : List Value).toArray below meth c H locs 0 0 (MQ below (hq_e D T (fun v _ _ => ∃ r : Int32, v = some (.int r) ∧ iv r 0 1)) ([.ref ap0, .int xp1] : List Value).toArray s 0 0 (hp_F T)) g
set_option maxHeartbeats 4000000 in
set_option maxRecDepth 100000 in
theorem sX4_readTest_4 (l : Launch) (D : hp_D) (T : hp_T) (ap0 : Nat) (xp1 : Int32) (ip0 : isRuleReader T ap0) (bp1 : iv xp1 4 4) : Met l yX4_readTest wsX4_readTest ({ frames := 20, cells := 0, slots := 0, locals := 493 }) (hp_Pc D T [.ref ap0, .int xp1] (fun _ => True)) (hq_e D T (fun v _ _ => ∃ r : Int32, v = some (.int r) ∧ iv r 0 1)) 0 0 (hp_F T) := by
  obtain ⟨ap0tp, ap0stp, hp0, ip0tp, hp0stp⟩ := id ip0
  obtain ⟨ap0tpbt, hp0tp, hp0tpbt⟩ := id ip0tp
  refine Met.ofW (cc := cX4_readTest) (maxL := 6) (ret := (some .boolean)) (by decide) rfl ?_
  intro p e s m args below meth c s₁ B hml hv
  obtain ⟨rfl, hok, hG, hB⟩ := hv
  have hx := B.exec
  have hb := B.bytes
  have hr := B.returns
  have hts := atoms_spec (ws := wsX4_readTest) B.pre
  have hown : s.vm.findClass RX4 = some m.cls := findClass_of_methodNamed B.named
  have hlocks := B.notSynchronized
  have hK := hG.1
  have hw : hp_w D T s s.heap [] := hp_w.rf hok
  have IX4 : ∀ w ∈ wsX40, w ∈ wsX4_readTest := by decide +kernel
  have L26 := hts (.fieldLink RX4 26 "PalmCensus$RuleReader" "tape" "LPalmCensus$Tape;") (by decide +kernel)
  have hl := lv_entry ([.ref ap0, .int xp1]) (n := 6) (Nat.le_of_ble_eq_true rfl)
  rw [lg_entry_eq]
  generalize (lg_sl ([.ref ap0, .int xp1]) ++ List.replicate (6 - (lg_sl ([.ref ap0, .int xp1])).length) Slot.unset).toArray = ls at hl ⊢
  have hl : lv_has ls 6 [(0, .ref ap0), (1, .int xp1)] := hl
  show WX4_readTest_4 p l e s m below meth c D T ap0 xp1 s.heap [] (F0 m 0 ls [])
  refine lv_aload_n hx hb dX4_readTest_0 rfl (lv_at hl 0 rfl) ?_
  refine lv_iload_n hx hb dX4_readTest_1 rfl (lv_at hl 1 rfl) ?_
  refine hp_callei (va_runV (As := [.int xp1]) (rest := []) ⟨hx, hb, hml, hown, hts⟩ (sX4_readFact_4 l D T ap0 xp1 ip0 bp1) (cwV 1 hts gX4_readTest_X4_readFact rfl rfl rfl (by decide +kernel) ⟨Nat.le_of_ble_eq_true rfl, Nat.le_of_ble_eq_true rfl⟩) (hp_preV hG hw hp0 rfl trivial) rfl rfl hl.1 rfl (lv_room (Nat.le_of_ble_eq_true rfl)) dX4_readTest_2 ⟨Nat.zero_le _, Nat.zero_le _⟩) hw (fun x2 st2 t2 H2 locs2 eh2 eg2 bx2 hw => ?_)
  refine lv_if_ne (tgt := 10) hx hb dX4_readTest_5 (by decide) (fun c5 => ?_) (fun c5 => ?_)
  · have r5tp : iv x2 1 1 := (iv_ne_lo c5 bx2 rfl).mono (by decide) (by decide)
    refine lv_iconst (v := 0) hx hb dX4_readTest_10 (by decide) ?_
    refine lv_istore_n (lv' := [(2, .int 0), (0, .ref ap0), (1, .int xp1)]) hx hb dX4_readTest_11 rfl hl (by decide) rfl (fun ls hl => ?_)
    refine lv_iconst (v := 0) hx hb dX4_readTest_12 (by decide) ?_
    refine lv_istore_n (lv' := [(3, .int 0), (2, .int 0), (0, .ref ap0), (1, .int xp1)]) hx hb dX4_readTest_13 rfl hl (by decide) rfl (fun ls hl => ?_)
    have J14 : ∀ (n : Nat) (y14_l2 y14_l3 : Int32), (400 - y14_l3.toInt).toNat < n → iv xp1 4 4 → iv y14_l2 0 1 → iv y14_l3 0 400 → ∀ (H : Heap) (locs : List Loc), hp_w D T s H locs → ∀ (ls : Array Slot), lv_has ls 6 [(0, .ref ap0), (1, .int xp1), (2, .int y14_l2), (3, .int y14_l3)] → WX4_readTest_4 p l e s m below meth c D T ap0 xp1 H locs (F0 m 14 ls []) := by
      intro n
      induction n with
      | zero => intro y14_l2 y14_l3 hmu14 c14_xp1 c14_y14_l2 c14_y14_l3 H14 locs14 hw ls hl; exact absurd hmu14 (Nat.not_lt_zero _)
      | succ n ih14 =>
        intro y14_l2 y14_l3 hmu14 c14_xp1 c14_y14_l2 c14_y14_l3 H14 locs14 hw ls hl
        refine lv_iload_n hx hb dX4_readTest_14 rfl (lv_at hl 3 rfl) ?_
        refine lv_sipush (v := 400) hx hb dX4_readTest_15 (by decide) ?_
        have J103 : iv y14_l2 0 1 → ∀ (H : Heap) (locs : List Loc), hp_w D T s H locs → ∀ (ls : Array Slot), lv_has ls 6 [(0, .ref ap0), (2, .int y14_l2)] → WX4_readTest_4 p l e s m below meth c D T ap0 xp1 H locs (F0 m 103 ls []) := by
          intro c103_y14_l2 H103 locs103 hw ls hl
          refine lv_iload_n hx hb dX4_readTest_103 rfl (lv_at hl 1 rfl) ?_
          have J121 : ∀ (H : Heap) (locs : List Loc), hp_w D T s H locs → ∀ (ls : Array Slot), lv_has ls 6 [] → WX4_readTest_4 p l e s m below meth c D T ap0 xp1 H locs (F0 m 121 ls [.int 1]) := by
            intro H121 locs121 hw ls hl
            exact W.zret (v := 1) hx hb hr (iv_nz (show iv 1 0 1 from ⟨by decide, by decide⟩)) (fun t ht hW => ⟨some (.int 1), rfl, ⟨(1 : Int32), rfl, (show iv 1 0 1 from ⟨by decide, by decide⟩)⟩, by rw [ht]; exact hw.1, hw.2.F ht⟩) hw.2.2.2 dX4_readTest_121
          have J116 : ∀ (H : Heap) (locs : List Loc), hp_w D T s H locs → ∀ (ls : Array Slot), lv_has ls 6 [] → WX4_readTest_4 p l e s m below meth c D T ap0 xp1 H locs (F0 m 116 ls []) := by
            intro H116 locs116 hw ls hl
            refine lv_iconst (v := 1) hx hb dX4_readTest_116 (by decide) ?_
            refine lv_goto (tgt := 121) hx hb dX4_readTest_117 (by decide) ?_
            exact J121 H116 locs116 hw _ (lv_sub hl [] rfl)
          refine lv_if_eq (tgt := 116) hx hb dX4_readTest_104 (by decide) (fun c104 => ?_) (fun c104 => ?_)
          · have r104tp : iv y14_l2 0 0 := (iv_both c103_y14_l2 (iv_eq (show iv 0 0 0 from ⟨by decide, by decide⟩) c104)).mono (by decide) (by decide)
            exact J116 H103 locs103 hw _ (lv_sub hl [] rfl)
          · have r104fp : iv y14_l2 1 1 := (iv_ne_lo c104 c103_y14_l2 rfl).mono (by decide) (by decide)
            refine lv_aload_n hx hb dX4_readTest_107 rfl (lv_at hl 0 rfl) ?_
            refine lv_bipush (v := (-42)) hx hb dX4_readTest_108 (by decide) ?_
            refine hp_callei (va_runV (As := [.int (-42)]) (rest := []) ⟨hx, hb, hml, hown, hts⟩ (sX4_write l D T ap0 ((-42) : Int32) ip0) (cwV 1 hts gX4_readTest_X4_write rfl rfl rfl (by decide +kernel) ⟨Nat.le_of_ble_eq_true rfl, Nat.le_of_ble_eq_true rfl⟩) (hp_preV hG hw hp0 rfl trivial) rfl rfl hl.1 rfl (lv_room (Nat.le_of_ble_eq_true rfl)) dX4_readTest_110 ⟨Nat.zero_le _, Nat.zero_le _⟩) hw (fun x110 st110 t110 H110 locs110 eh110 eg110 bx110 hw => ?_)
            refine lv_if_eq (tgt := 120) hx hb dX4_readTest_113 (by decide) (fun c113 => ?_) (fun c113 => ?_)
            · exact iv_abs2 c113 bx110 (show iv 0 0 0 from ⟨by decide, by decide⟩) (by decide)
            · exact J116 H110 locs110 hw _ (lv_sub hl [] rfl)
        refine lv_icmp_ge (tgt := 103) hx hb dX4_readTest_18 (by decide) (fun c18 => ?_) (fun c18 => ?_)
        · have r18tq : iv y14_l3 400 400 := (iv_le_r c18 (show iv 400 400 400 from ⟨by decide, by decide⟩) c14_y14_l3).mono (by decide) (by decide)
          exact J103 c14_y14_l2 H14 locs14 hw _ (lv_sub hl [0, 2] rfl)
        · have r18fp : iv y14_l3 0 399 := (iv_lt_l (iv_nle c18) c14_y14_l3 (show iv 400 400 400 from ⟨by decide, by decide⟩)).mono (by decide) (by decide)
          refine lv_aload_n hx hb dX4_readTest_21 rfl (lv_at hl 0 rfl) ?_
          refine hp_getr hx hb hts IX4 hown hK hw.1 hp0 rfl 0 (by decide) L26 rfl dX4_readTest_22 ?_
          refine va_ldcS hx hb hown hG.2.2.1.2.2.2.2.2.2.2.1 dX4_readTest_25 ?_
          refine hp_callei (va_runV (As := [.ref (D.2.2.1 7)]) (rest := []) ⟨hx, hb, hml, hown, hts⟩ (sX7_takeWord l D T ap0tp 7 ip0tp (by decide)) (cwV 1 hts gX4_readTest_X7_takeWord rfl rfl rfl (by decide +kernel) ⟨Nat.le_of_ble_eq_true rfl, Nat.le_of_ble_eq_true rfl⟩) (hp_preV hG hw hp0tp rfl trivial) rfl rfl hl.1 rfl (lv_room (Nat.le_of_ble_eq_true rfl)) dX4_readTest_27 ⟨Nat.zero_le _, Nat.zero_le _⟩) hw (fun x27 st27 t27 H27 locs27 eh27 eg27 bx27 hw => ?_)
          refine lv_istore (lv' := [(4, .int x27), (0, .ref ap0), (1, .int xp1), (2, .int y14_l2), (3, .int y14_l3)]) hx hb dX4_readTest_30 hl (by decide) rfl (fun ls hl => ?_)
          refine lv_iload hx hb dX4_readTest_32 (lv_at hl 0 rfl) ?_
          refine lv_iconst (v := (-1)) hx hb dX4_readTest_34 (by decide) ?_
          refine lv_icmp_ne (tgt := 41) hx hb dX4_readTest_35 (by decide) (fun c35 => ?_) (fun c35 => ?_)
          · refine lv_iload hx hb dX4_readTest_41 (lv_at hl 0 rfl) ?_
            refine lv_iconst (v := 1) hx hb dX4_readTest_43 (by decide) ?_
            have J52 : ∀ (y52_s0 : Int32), iv xp1 4 4 → iv y14_l2 0 1 → iv y14_l3 0 399 → iv y52_s0 0 1 → ∀ (H : Heap) (locs : List Loc), hp_w D T s H locs → ∀ (ls : Array Slot), lv_has ls 6 [(0, .ref ap0), (1, .int xp1), (2, .int y14_l2), (3, .int y14_l3)] → WX4_readTest_4 p l e s m below meth c D T ap0 xp1 H locs (F0 m 52 ls [.int y52_s0]) := by
              intro y52_s0 c52_xp1 c52_y14_l2 c52_y14_l3 c52_y52_s0 H52 locs52 hw ls hl
              refine lv_istore (lv' := [(5, .int y52_s0), (0, .ref ap0), (1, .int xp1), (2, .int y14_l2), (3, .int y14_l3)]) hx hb dX4_readTest_52 hl (by decide) rfl (fun ls hl => ?_)
              refine lv_iload hx hb dX4_readTest_54 (lv_at hl 0 rfl) ?_
              have J70 : iv xp1 4 4 → iv y14_l2 0 1 → iv y14_l3 0 399 → iv y52_s0 0 1 → ∀ (H : Heap) (locs : List Loc), hp_w D T s H locs → ∀ (ls : Array Slot), lv_has ls 6 [(0, .ref ap0), (1, .int xp1), (2, .int y14_l2), (3, .int y14_l3), (5, .int y52_s0)] → WX4_readTest_4 p l e s m below meth c D T ap0 xp1 H locs (F0 m 70 ls []) := by
                intro c70_xp1 c70_y14_l2 c70_y14_l3 c70_y52_s0 H70 locs70 hw ls hl
                refine lv_iload_n hx hb dX4_readTest_70 rfl (lv_at hl 2 rfl) ?_
                refine lv_iload hx hb dX4_readTest_71 (lv_at hl 4 rfl) ?_
                refine lv_ior hx hb dX4_readTest_73 ?_
                refine lv_topi (fun x73 ex73 => ?_)
                have bx73 : iv x73 0 1 := iv_or 1 c70_y14_l2 c70_y52_s0 ex73 (by decide) (by decide)
                refine lv_istore_n (lv' := [(2, .int x73), (0, .ref ap0), (1, .int xp1), (3, .int y14_l3), (5, .int y52_s0)]) hx hb dX4_readTest_74 rfl hl (by decide) rfl (fun ls hl => ?_)
                refine lv_aload_n hx hb dX4_readTest_75 rfl (lv_at hl 1 rfl) ?_
                refine lv_iload_n hx hb dX4_readTest_76 rfl (lv_at hl 2 rfl) ?_
                refine hp_callei (va_runV (As := [.int xp1]) (rest := []) ⟨hx, hb, hml, hown, hts⟩ (sX4_readFact_4 l D T ap0 xp1 ip0 c70_xp1) (cwV 1 hts gX4_readTest_X4_readFact rfl rfl rfl (by decide +kernel) ⟨Nat.le_of_ble_eq_true rfl, Nat.le_of_ble_eq_true rfl⟩) (hp_preV hG hw hp0 rfl trivial) rfl rfl hl.1 rfl (lv_room (Nat.le_of_ble_eq_true rfl)) dX4_readTest_77 ⟨Nat.zero_le _, Nat.zero_le _⟩) hw (fun x77 st77 t77 H77 locs77 eh77 eg77 bx77 hw => ?_)
                refine lv_if_ne (tgt := 85) hx hb dX4_readTest_80 (by decide) (fun c80 => ?_) (fun c80 => ?_)
                · have r80tp : iv x77 1 1 := (iv_ne_lo c80 bx77 rfl).mono (by decide) (by decide)
                  refine lv_iload hx hb dX4_readTest_85 (lv_at hl 4 rfl) ?_
                  have J97 : iv xp1 4 4 → iv x73 0 1 → iv y14_l3 0 399 → ∀ (H : Heap) (locs : List Loc), hp_w D T s H locs → ∀ (ls : Array Slot), lv_has ls 6 [(0, .ref ap0), (1, .int xp1), (2, .int x73), (3, .int y14_l3)] → WX4_readTest_4 p l e s m below meth c D T ap0 xp1 H locs (F0 m 97 ls []) := by
                    intro c97_xp1 c97_x73 c97_y14_l3 H97 locs97 hw ls hl
                    obtain ⟨x97, ex97⟩ : ∃ y : Int32, y = y14_l3 + 1 := ⟨_, rfl⟩
                    have bx97 : iv x97 1 400 := iv_add c97_y14_l3 (show iv 1 1 1 from ⟨by decide, by decide⟩) ex97 (by decide)
                    have qx97 := iv_add_eq c97_y14_l3 (show iv 1 1 1 from ⟨by decide, by decide⟩) ex97 (by decide)
                    refine lv_iinc (v := x97) (lv' := [(3, .int x97), (0, .ref ap0), (1, .int xp1), (2, .int x73)]) hx hb dX4_readTest_97 hl (k := 3) rfl (by rw [ex97]; rfl) (by decide) rfl (fun ls hl => ?_)
                    refine lv_goto (tgt := 14) hx hb dX4_readTest_100 (by decide) ?_
                    exact ih14 x73 x97 (mu_up 1 hmu14 (qx97) (by decide) (show iv x97 0 400 from (bx97.mono (by decide) (by decide))).2) c97_xp1 c97_x73 (bx97.mono (by decide) (by decide)) H97 locs97 hw _ (lv_sub hl [1, 2, 3, 0] rfl)
                  refine lv_if_ne (tgt := 97) hx hb dX4_readTest_87 (by decide) (fun c87 => ?_) (fun c87 => ?_)
                  · have r87tp : iv y52_s0 1 1 := (iv_ne_lo c87 c70_y52_s0 rfl).mono (by decide) (by decide)
                    exact J97 c70_xp1 bx73 c70_y14_l3 H77 locs77 hw _ (lv_sub hl [1, 2, 0, 3] rfl)
                  · have r87fp : iv y52_s0 0 0 := (iv_both c70_y52_s0 (iv_eq (show iv 0 0 0 from ⟨by decide, by decide⟩) c87)).mono (by decide) (by decide)
                    refine lv_aload_n hx hb dX4_readTest_90 rfl (lv_at hl 1 rfl) ?_
                    refine lv_bipush (v := (-41)) hx hb dX4_readTest_91 (by decide) ?_
                    refine hp_callei (va_runV (As := [.int (-41)]) (rest := []) ⟨hx, hb, hml, hown, hts⟩ (sX4_write l D T ap0 ((-41) : Int32) ip0) (cwV 1 hts gX4_readTest_X4_write rfl rfl rfl (by decide +kernel) ⟨Nat.le_of_ble_eq_true rfl, Nat.le_of_ble_eq_true rfl⟩) (hp_preV hG hw hp0 rfl trivial) rfl rfl hl.1 rfl (lv_room (Nat.le_of_ble_eq_true rfl)) dX4_readTest_93 ⟨Nat.zero_le _, Nat.zero_le _⟩) hw (fun x93 st93 t93 H93 locs93 eh93 eg93 bx93 hw => ?_)
                    refine lv_pop hx hb dX4_readTest_96 rfl ?_
                    exact J97 c70_xp1 bx73 c70_y14_l3 H93 locs93 hw _ (lv_sub hl [1, 2, 0, 3] rfl)
                · have r80fp : iv x77 0 0 := (iv_both bx77 (iv_eq (show iv 0 0 0 from ⟨by decide, by decide⟩) c80)).mono (by decide) (by decide)
                  refine lv_iconst (v := 0) hx hb dX4_readTest_83 (by decide) ?_
                  exact W.zret (v := 0) hx hb hr (iv_nz (show iv 0 0 1 from ⟨by decide, by decide⟩)) (fun t ht hW => ⟨some (.int 0), rfl, ⟨(0 : Int32), rfl, (show iv 0 0 1 from ⟨by decide, by decide⟩)⟩, by rw [ht]; exact hw.1, hw.2.F ht⟩) hw.2.2.2 dX4_readTest_84
              refine lv_if_eq (tgt := 70) hx hb dX4_readTest_56 (by decide) (fun c56 => ?_) (fun c56 => ?_)
              · have r56tp : iv y52_s0 0 0 := (iv_both c52_y52_s0 (iv_eq (show iv 0 0 0 from ⟨by decide, by decide⟩) c56)).mono (by decide) (by decide)
                exact J70 c52_xp1 c52_y14_l2 c52_y14_l3 (r56tp.mono (by decide) (by decide)) H52 locs52 hw _ (lv_sub hl [1, 2, 3, 4, 0] rfl)
              · have r56fp : iv y52_s0 1 1 := (iv_ne_lo c56 c52_y52_s0 rfl).mono (by decide) (by decide)
                refine lv_iload_n hx hb dX4_readTest_59 rfl (lv_at hl 3 rfl) ?_
                refine lv_if_eq (tgt := 70) hx hb dX4_readTest_60 (by decide) (fun c60 => ?_) (fun c60 => ?_)
                · have r60tp : iv y14_l2 0 0 := (iv_both c52_y14_l2 (iv_eq (show iv 0 0 0 from ⟨by decide, by decide⟩) c60)).mono (by decide) (by decide)
                  exact J70 c52_xp1 (r60tp.mono (by decide) (by decide)) c52_y14_l3 (r56fp.mono (by decide) (by decide)) H52 locs52 hw _ (lv_sub hl [1, 2, 3, 4, 0] rfl)
                · have r60fp : iv y14_l2 1 1 := (iv_ne_lo c60 c52_y14_l2 rfl).mono (by decide) (by decide)
                  refine lv_aload_n hx hb dX4_readTest_63 rfl (lv_at hl 1 rfl) ?_
                  refine lv_bipush (v := (-42)) hx hb dX4_readTest_64 (by decide) ?_
                  refine hp_callei (va_runV (As := [.int (-42)]) (rest := []) ⟨hx, hb, hml, hown, hts⟩ (sX4_write l D T ap0 ((-42) : Int32) ip0) (cwV 1 hts gX4_readTest_X4_write rfl rfl rfl (by decide +kernel) ⟨Nat.le_of_ble_eq_true rfl, Nat.le_of_ble_eq_true rfl⟩) (hp_preV hG hw hp0 rfl trivial) rfl rfl hl.1 rfl (lv_room (Nat.le_of_ble_eq_true rfl)) dX4_readTest_66 ⟨Nat.zero_le _, Nat.zero_le _⟩) hw (fun x66 st66 t66 H66 locs66 eh66 eg66 bx66 hw => ?_)
                  refine lv_pop hx hb dX4_readTest_69 rfl ?_
                  exact J70 c52_xp1 (r60fp.mono (by decide) (by decide)) c52_y14_l3 (r56fp.mono (by decide) (by decide)) H66 locs66 hw _ (lv_sub hl [1, 2, 3, 4, 0] rfl)
            refine lv_icmp_ne (tgt := 51) hx hb dX4_readTest_44 (by decide) (fun c44 => ?_) (fun c44 => ?_)
            · refine lv_iconst (v := 0) hx hb dX4_readTest_51 (by decide) ?_
              exact J52 (0 : Int32) c14_xp1 c14_y14_l2 r18fp (show iv 0 0 1 from ⟨by decide, by decide⟩) H27 locs27 hw _ (lv_sub hl [1, 2, 3, 4] rfl)
            · have r44fp : iv x27 1 1 := (iv_both (iv_any x27) (iv_eq (show iv 1 1 1 from ⟨by decide, by decide⟩) c44)).mono (by decide) (by decide)
              refine lv_iconst (v := 1) hx hb dX4_readTest_47 (by decide) ?_
              refine lv_goto (tgt := 52) hx hb dX4_readTest_48 (by decide) ?_
              exact J52 (1 : Int32) c14_xp1 c14_y14_l2 r18fp (show iv 1 0 1 from ⟨by decide, by decide⟩) H27 locs27 hw _ (lv_sub hl [1, 2, 3, 4] rfl)
          · have r35fp : iv x27 (-1) (-1) := (iv_both (iv_any x27) (iv_eq (show iv (-1) (-1) (-1) from ⟨by decide, by decide⟩) c35)).mono (by decide) (by decide)
            refine lv_goto (tgt := 103) hx hb dX4_readTest_38 (by decide) ?_
            exact J103 c14_y14_l2 H27 locs27 hw _ (lv_sub hl [1, 3] rfl)
    exact J14 _ (0 : Int32) (0 : Int32) (Nat.lt_succ_self _) bp1 (show iv 0 0 1 from ⟨by decide, by decide⟩) (show iv 0 0 400 from ⟨by decide, by decide⟩) H2 locs2 hw _ (lv_sub hl [2, 3, 1, 0] rfl)
  · have r5fp : iv x2 0 0 := (iv_both bx2 (iv_eq (show iv 0 0 0 from ⟨by decide, by decide⟩) c5)).mono (by decide) (by decide)
    refine lv_iconst (v := 0) hx hb dX4_readTest_8 (by decide) ?_
    exact W.zret (v := 0) hx hb hr (iv_nz (show iv 0 0 1 from ⟨by decide, by decide⟩)) (fun t ht hW => ⟨some (.int 0), rfl, ⟨(0 : Int32), rfl, (show iv 0 0 1 from ⟨by decide, by decide⟩)⟩, by rw [ht]; exact hw.1, hw.2.F ht⟩) hw.2.2.2 dX4_readTest_9
abbrev WX4_readFact_3 (p : Program) (l : Launch) (e : Env) (s : State) (m : MethodId) (below : List Frame) (meth : Method) (c : Code) (D : hp_D) (T : hp_T) (ap0 : Nat) (xp1 : Int32) (H : Heap) (locs : List Loc) (g : JFrame) : Prop := W p l e (headSpec wsX4_readFact ({ frames := 21, cells := 0, slots := 0, locals := 518 })).room s m ([.ref ap0, .int xp1] : List Value).toArray below meth c H locs 0 0 (MQ below (hq_e D T (fun v _ _ => ∃ r : Int32, v = some (.int r) ∧ iv r 0 1)) ([.ref ap0, .int xp1] : List Value).toArray s 0 0 (hp_F T)) g
set_option maxHeartbeats 4000000 in
set_option maxRecDepth 100000 in
theorem sX4_readFact_3 (l : Launch) (D : hp_D) (T : hp_T) (ap0 : Nat) (xp1 : Int32) (ip0 : isRuleReader T ap0) (bp1 : iv xp1 3 3) : Met l yX4_readFact wsX4_readFact ({ frames := 21, cells := 0, slots := 0, locals := 518 }) (hp_Pc D T [.ref ap0, .int xp1] (fun _ => True)) (hq_e D T (fun v _ _ => ∃ r : Int32, v = some (.int r) ∧ iv r 0 1)) 0 0 (hp_F T) := by
  obtain ⟨ap0tp, ap0stp, hp0, ip0tp, hp0stp⟩ := id ip0
  obtain ⟨ap0tpbt, hp0tp, hp0tpbt⟩ := id ip0tp
  refine Met.ofW (cc := cX4_readFact) (maxL := 5) (ret := (some .boolean)) (by decide) rfl ?_
  intro p e s m args below meth c s₁ B hml hv
  obtain ⟨rfl, hok, hG, hB⟩ := hv
  have hx := B.exec
  have hb := B.bytes
  have hr := B.returns
  have hts := atoms_spec (ws := wsX4_readFact) B.pre
  have hown : s.vm.findClass RX4 = some m.cls := findClass_of_methodNamed B.named
  have hlocks := B.notSynchronized
  have hK := hG.1
  have hw : hp_w D T s s.heap [] := hp_w.rf hok
  have IX4 : ∀ w ∈ wsX40, w ∈ wsX4_readFact := by decide +kernel
  have L26 := hts (.fieldLink RX4 26 "PalmCensus$RuleReader" "tape" "LPalmCensus$Tape;") (by decide +kernel)
  have hl := lv_entry ([.ref ap0, .int xp1]) (n := 5) (Nat.le_of_ble_eq_true rfl)
  rw [lg_entry_eq]
  generalize (lg_sl ([.ref ap0, .int xp1]) ++ List.replicate (5 - (lg_sl ([.ref ap0, .int xp1])).length) Slot.unset).toArray = ls at hl ⊢
  have hl : lv_has ls 5 [(0, .ref ap0), (1, .int xp1)] := hl
  show WX4_readFact_3 p l e s m below meth c D T ap0 xp1 s.heap [] (F0 m 0 ls [])
  refine lv_aload_n hx hb dX4_readFact_0 rfl (lv_at hl 0 rfl) ?_
  refine hp_getr hx hb hts IX4 hown hK hw.1 hp0 rfl 0 (by decide) L26 rfl dX4_readFact_1 ?_
  refine va_ldcS hx hb hown hG.2.2.1.2.2.2.2.2.2.2.2.1 dX4_readFact_4 ?_
  refine hp_callei (va_runV (As := [.ref (D.2.2.1 8)]) (rest := []) ⟨hx, hb, hml, hown, hts⟩ (sX7_takeSignOf l D T ap0tp 8 ip0tp (by decide)) (cwV 1 hts gX4_readFact_X7_takeSignOf rfl rfl rfl (by decide +kernel) ⟨Nat.le_of_ble_eq_true rfl, Nat.le_of_ble_eq_true rfl⟩) (hp_preV hG hw hp0tp rfl trivial) rfl rfl hl.1 rfl (lv_room (Nat.le_of_ble_eq_true rfl)) dX4_readFact_6 ⟨Nat.zero_le _, Nat.zero_le _⟩) hw (fun x6 st6 t6 H6 locs6 eh6 eg6 bx6 hw => ?_)
  refine lv_iconst (v := (-1)) hx hb dX4_readFact_9 (by decide) ?_
  have J18 : ∀ (y18_s0 : Int32), iv xp1 3 3 → iv y18_s0 0 1 → ∀ (H : Heap) (locs : List Loc), hp_w D T s H locs → ∀ (ls : Array Slot), lv_has ls 5 [(0, .ref ap0), (1, .int xp1)] → WX4_readFact_3 p l e s m below meth c D T ap0 xp1 H locs (F0 m 18 ls [.int y18_s0]) := by
    intro y18_s0 c18_xp1 c18_y18_s0 H18 locs18 hw ls hl
    refine lv_istore_n (lv' := [(2, .int y18_s0), (0, .ref ap0), (1, .int xp1)]) hx hb dX4_readFact_18 rfl hl (by decide) rfl (fun ls hl => ?_)
    refine lv_iload_n hx hb dX4_readFact_19 rfl (lv_at hl 0 rfl) ?_
    have J41 : ∀ (y41_s0 : Int32), iv xp1 3 3 → iv y18_s0 0 1 → iv y41_s0 0 1 → ∀ (H : Heap) (locs : List Loc), hp_w D T s H locs → ∀ (ls : Array Slot), lv_has ls 5 [(0, .ref ap0), (1, .int xp1), (2, .int y18_s0)] → WX4_readFact_3 p l e s m below meth c D T ap0 xp1 H locs (F0 m 41 ls [.int y41_s0]) := by
      intro y41_s0 c41_xp1 c41_y18_s0 c41_y41_s0 H41 locs41 hw ls hl
      refine lv_istore_n (lv' := [(3, .int y41_s0), (0, .ref ap0), (1, .int xp1), (2, .int y18_s0)]) hx hb dX4_readFact_41 rfl hl (by decide) rfl (fun ls hl => ?_)
      refine lv_iload_n hx hb dX4_readFact_42 rfl (lv_at hl 3 rfl) ?_
      have J92 : iv xp1 3 3 → iv y41_s0 0 1 → ∀ (H : Heap) (locs : List Loc), hp_w D T s H locs → ∀ (ls : Array Slot), lv_has ls 5 [(0, .ref ap0), (1, .int xp1), (3, .int y41_s0)] → WX4_readFact_3 p l e s m below meth c D T ap0 xp1 H locs (F0 m 92 ls []) := by
        intro c92_xp1 c92_y41_s0 H92 locs92 hw ls hl
        refine lv_iload_n hx hb dX4_readFact_92 rfl (lv_at hl 1 rfl) ?_
        refine lv_bipush (v := 10) hx hb dX4_readFact_93 (by decide) ?_
        refine lv_icmp_lt (tgt := 114) hx hb dX4_readFact_95 (by decide) (fun c95 => ?_) (fun c95 => ?_)
        · refine lv_iload_n hx hb dX4_readFact_114 rfl (lv_at hl 2 rfl) ?_
          refine lv_if_eq (tgt := 143) hx hb dX4_readFact_115 (by decide) (fun c115 => ?_) (fun c115 => ?_)
          · have r115tp : iv y41_s0 0 0 := (iv_both c92_y41_s0 (iv_eq (show iv 0 0 0 from ⟨by decide, by decide⟩) c115)).mono (by decide) (by decide)
            refine lv_aload_n hx hb dX4_readFact_143 rfl (lv_at hl 0 rfl) ?_
            refine lv_iload_n hx hb dX4_readFact_144 rfl (lv_at hl 1 rfl) ?_
            refine lv_iconst (v := 1) hx hb dX4_readFact_145 (by decide) ?_
            refine lv_iadd hx hb dX4_readFact_146 ?_
            refine lv_topi (fun x146 ex146 => ?_)
            have bx146 : iv x146 4 4 := iv_add c92_xp1 (show iv 1 1 1 from ⟨by decide, by decide⟩) ex146 (by decide)
            have qx146 := iv_add_eq c92_xp1 (show iv 1 1 1 from ⟨by decide, by decide⟩) ex146 (by decide)
            refine hp_callei (va_runV (As := [.int x146]) (rest := []) ⟨hx, hb, hml, hown, hts⟩ (sX4_readTest_4 l D T ap0 x146 ip0 bx146) (cwV 1 hts gX4_readFact_X4_readTest rfl rfl rfl (by decide +kernel) ⟨Nat.le_of_ble_eq_true rfl, Nat.le_of_ble_eq_true rfl⟩) (hp_preV hG hw hp0 rfl trivial) rfl rfl hl.1 rfl (lv_room (Nat.le_of_ble_eq_true rfl)) dX4_readFact_147 ⟨Nat.zero_le _, Nat.zero_le _⟩) hw (fun x147 st147 t147 H147 locs147 eh147 eg147 bx147 hw => ?_)
            have J170 : ∀ (y170_s0 : Int32), iv y170_s0 0 1 → ∀ (H : Heap) (locs : List Loc), hp_w D T s H locs → ∀ (ls : Array Slot), lv_has ls 5 [] → WX4_readFact_3 p l e s m below meth c D T ap0 xp1 H locs (F0 m 170 ls [.int y170_s0]) := by
              intro y170_s0 c170_y170_s0 H170 locs170 hw ls hl
              exact W.zret (v := y170_s0) hx hb hr (iv_nz c170_y170_s0) (fun t ht hW => ⟨some (.int y170_s0), rfl, ⟨y170_s0, rfl, c170_y170_s0⟩, by rw [ht]; exact hw.1, hw.2.F ht⟩) hw.2.2.2 dX4_readFact_170
            have J169 : ∀ (H : Heap) (locs : List Loc), hp_w D T s H locs → ∀ (ls : Array Slot), lv_has ls 5 [] → WX4_readFact_3 p l e s m below meth c D T ap0 xp1 H locs (F0 m 169 ls []) := by
              intro H169 locs169 hw ls hl
              refine lv_iconst (v := 0) hx hb dX4_readFact_169 (by decide) ?_
              exact J170 (0 : Int32) (show iv 0 0 1 from ⟨by decide, by decide⟩) H169 locs169 hw _ (lv_sub hl [] rfl)
            refine lv_if_eq (tgt := 169) hx hb dX4_readFact_150 (by decide) (fun c150 => ?_) (fun c150 => ?_)
            · have r150tp : iv x147 0 0 := (iv_both bx147 (iv_eq (show iv 0 0 0 from ⟨by decide, by decide⟩) c150)).mono (by decide) (by decide)
              exact J169 H147 locs147 hw _ (lv_sub hl [] rfl)
            · have r150fp : iv x147 1 1 := (iv_ne_lo c150 bx147 rfl).mono (by decide) (by decide)
              refine lv_aload_n hx hb dX4_readFact_153 rfl (lv_at hl 0 rfl) ?_
              refine hp_getr hx hb hts IX4 hown hK hw.1 hp0 rfl 0 (by decide) L26 rfl dX4_readFact_154 ?_
              refine va_ldcS hx hb hown hG.2.2.1.1 dX4_readFact_157 ?_
              refine hp_callei (va_runV (As := [.ref (D.2.2.1 0)]) (rest := []) ⟨hx, hb, hml, hown, hts⟩ (sX7_needSign l D T ap0tp 0 ip0tp (by decide)) (cwV 1 hts gX4_readFact_X7_needSign rfl rfl rfl (by decide +kernel) ⟨Nat.le_of_ble_eq_true rfl, Nat.le_of_ble_eq_true rfl⟩) (hp_preV hG hw hp0tp rfl trivial) rfl rfl hl.1 rfl (lv_room (Nat.le_of_ble_eq_true rfl)) dX4_readFact_159 ⟨Nat.zero_le _, Nat.zero_le _⟩) hw (fun x159 st159 t159 H159 locs159 eh159 eg159 bx159 hw => ?_)
              refine lv_if_eq (tgt := 169) hx hb dX4_readFact_162 (by decide) (fun c162 => ?_) (fun c162 => ?_)
              · have r162tp : iv x159 0 0 := (iv_both bx159 (iv_eq (show iv 0 0 0 from ⟨by decide, by decide⟩) c162)).mono (by decide) (by decide)
                exact J169 H159 locs159 hw _ (lv_sub hl [] rfl)
              · have r162fp : iv x159 1 1 := (iv_ne_lo c162 bx159 rfl).mono (by decide) (by decide)
                refine lv_iconst (v := 1) hx hb dX4_readFact_165 (by decide) ?_
                refine lv_goto (tgt := 170) hx hb dX4_readFact_166 (by decide) ?_
                exact J170 (1 : Int32) (show iv 1 0 1 from ⟨by decide, by decide⟩) H159 locs159 hw _ (lv_sub hl [] rfl)
          · have r115fp : iv y41_s0 1 1 := (iv_ne_lo c115 c92_y41_s0 rfl).mono (by decide) (by decide)
            refine lv_aload_n hx hb dX4_readFact_118 rfl (lv_at hl 0 rfl) ?_
            refine lv_iload_n hx hb dX4_readFact_119 rfl (lv_at hl 1 rfl) ?_
            refine lv_iconst (v := 1) hx hb dX4_readFact_120 (by decide) ?_
            refine lv_iadd hx hb dX4_readFact_121 ?_
            refine lv_topi (fun x121 ex121 => ?_)
            have bx121 : iv x121 4 4 := iv_add c92_xp1 (show iv 1 1 1 from ⟨by decide, by decide⟩) ex121 (by decide)
            have qx121 := iv_add_eq c92_xp1 (show iv 1 1 1 from ⟨by decide, by decide⟩) ex121 (by decide)
            refine hp_callei (va_runV (As := [.int x121]) (rest := []) ⟨hx, hb, hml, hown, hts⟩ (sX4_readFact_4 l D T ap0 x121 ip0 bx121) (cwV 1 hts gX4_readFact_X4_readFact rfl rfl rfl (by decide +kernel) ⟨Nat.le_of_ble_eq_true rfl, Nat.le_of_ble_eq_true rfl⟩) (hp_preV hG hw hp0 rfl trivial) rfl rfl hl.1 rfl (lv_room (Nat.le_of_ble_eq_true rfl)) dX4_readFact_122 ⟨Nat.zero_le _, Nat.zero_le _⟩) hw (fun x122 st122 t122 H122 locs122 eh122 eg122 bx122 hw => ?_)
            have J142 : ∀ (y142_s0 : Int32), iv y142_s0 0 1 → ∀ (H : Heap) (locs : List Loc), hp_w D T s H locs → ∀ (ls : Array Slot), lv_has ls 5 [] → WX4_readFact_3 p l e s m below meth c D T ap0 xp1 H locs (F0 m 142 ls [.int y142_s0]) := by
              intro y142_s0 c142_y142_s0 H142 locs142 hw ls hl
              exact W.zret (v := y142_s0) hx hb hr (iv_nz c142_y142_s0) (fun t ht hW => ⟨some (.int y142_s0), rfl, ⟨y142_s0, rfl, c142_y142_s0⟩, by rw [ht]; exact hw.1, hw.2.F ht⟩) hw.2.2.2 dX4_readFact_142
            have J141 : ∀ (H : Heap) (locs : List Loc), hp_w D T s H locs → ∀ (ls : Array Slot), lv_has ls 5 [] → WX4_readFact_3 p l e s m below meth c D T ap0 xp1 H locs (F0 m 141 ls []) := by
              intro H141 locs141 hw ls hl
              refine lv_iconst (v := 0) hx hb dX4_readFact_141 (by decide) ?_
              exact J142 (0 : Int32) (show iv 0 0 1 from ⟨by decide, by decide⟩) H141 locs141 hw _ (lv_sub hl [] rfl)
            refine lv_if_eq (tgt := 141) hx hb dX4_readFact_125 (by decide) (fun c125 => ?_) (fun c125 => ?_)
            · have r125tp : iv x122 0 0 := (iv_both bx122 (iv_eq (show iv 0 0 0 from ⟨by decide, by decide⟩) c125)).mono (by decide) (by decide)
              exact J141 H122 locs122 hw _ (lv_sub hl [] rfl)
            · have r125fp : iv x122 1 1 := (iv_ne_lo c125 bx122 rfl).mono (by decide) (by decide)
              refine lv_aload_n hx hb dX4_readFact_128 rfl (lv_at hl 0 rfl) ?_
              refine lv_bipush (v := (-43)) hx hb dX4_readFact_129 (by decide) ?_
              refine hp_callei (va_runV (As := [.int (-43)]) (rest := []) ⟨hx, hb, hml, hown, hts⟩ (sX4_write l D T ap0 ((-43) : Int32) ip0) (cwV 1 hts gX4_readFact_X4_write rfl rfl rfl (by decide +kernel) ⟨Nat.le_of_ble_eq_true rfl, Nat.le_of_ble_eq_true rfl⟩) (hp_preV hG hw hp0 rfl trivial) rfl rfl hl.1 rfl (lv_room (Nat.le_of_ble_eq_true rfl)) dX4_readFact_131 ⟨Nat.zero_le _, Nat.zero_le _⟩) hw (fun x131 st131 t131 H131 locs131 eh131 eg131 bx131 hw => ?_)
              refine lv_if_eq (tgt := 141) hx hb dX4_readFact_134 (by decide) (fun c134 => ?_) (fun c134 => ?_)
              · exact iv_abs2 c134 bx131 (show iv 0 0 0 from ⟨by decide, by decide⟩) (by decide)
              · refine lv_iconst (v := 1) hx hb dX4_readFact_137 (by decide) ?_
                refine lv_goto (tgt := 142) hx hb dX4_readFact_138 (by decide) ?_
                exact J142 (1 : Int32) (show iv 1 0 1 from ⟨by decide, by decide⟩) H131 locs131 hw _ (lv_sub hl [] rfl)
        · exact iv_abs (iv_le_l (iv_nlt c95) (show iv 10 10 10 from ⟨by decide, by decide⟩) c92_xp1) (by decide)
      refine lv_if_ne (tgt := 92) hx hb dX4_readFact_43 (by decide) (fun c43 => ?_) (fun c43 => ?_)
      · have r43tp : iv y18_s0 1 1 := (iv_ne_lo c43 c41_y18_s0 rfl).mono (by decide) (by decide)
        exact J92 c41_xp1 c41_y41_s0 H41 locs41 hw _ (lv_sub hl [1, 2, 0] rfl)
      · have r43fp : iv y18_s0 0 0 := (iv_both c41_y18_s0 (iv_eq (show iv 0 0 0 from ⟨by decide, by decide⟩) c43)).mono (by decide) (by decide)
        refine lv_iload_n hx hb dX4_readFact_46 rfl (lv_at hl 0 rfl) ?_
        refine lv_if_ne (tgt := 92) hx hb dX4_readFact_47 (by decide) (fun c47 => ?_) (fun c47 => ?_)
        · have r47tp : iv y41_s0 1 1 := (iv_ne_lo c47 c41_y41_s0 rfl).mono (by decide) (by decide)
          exact J92 c41_xp1 (r47tp.mono (by decide) (by decide)) H41 locs41 hw _ (lv_sub hl [1, 2, 0] rfl)
        · have r47fp : iv y41_s0 0 0 := (iv_both c41_y41_s0 (iv_eq (show iv 0 0 0 from ⟨by decide, by decide⟩) c47)).mono (by decide) (by decide)
          refine lv_aload_n hx hb dX4_readFact_50 rfl (lv_at hl 1 rfl) ?_
          refine hp_callei (va_runV (As := []) (rest := []) ⟨hx, hb, hml, hown, hts⟩ (sX4_readSum l D T ap0 ip0) (cwV 0 hts gX4_readFact_X4_readSum rfl rfl rfl (by decide +kernel) ⟨Nat.le_of_ble_eq_true rfl, Nat.le_of_ble_eq_true rfl⟩) (hp_preV hG hw hp0 rfl trivial) rfl rfl hl.1 rfl (lv_room (Nat.le_of_ble_eq_true rfl)) dX4_readFact_51 ⟨Nat.zero_le _, Nat.zero_le _⟩) hw (fun x51 st51 t51 H51 locs51 eh51 eg51 bx51 hw => ?_)
          refine lv_if_ne (tgt := 59) hx hb dX4_readFact_54 (by decide) (fun c54 => ?_) (fun c54 => ?_)
          · have r54tp : iv x51 1 1 := (iv_ne_lo c54 bx51 rfl).mono (by decide) (by decide)
            refine lv_aload_n hx hb dX4_readFact_59 rfl (lv_at hl 1 rfl) ?_
            refine hp_callei (va_runV (As := []) (rest := []) ⟨hx, hb, hml, hown, hts⟩ (sX4_readSign l D T ap0 ip0) (cwV 0 hts gX4_readFact_X4_readSign rfl rfl rfl (by decide +kernel) ⟨Nat.le_of_ble_eq_true rfl, Nat.le_of_ble_eq_true rfl⟩) (hp_preV hG hw hp0 rfl trivial) rfl rfl hl.1 rfl (lv_room (Nat.le_of_ble_eq_true rfl)) dX4_readFact_60 ⟨Nat.zero_le _, Nat.zero_le _⟩) hw (fun x60 st60 t60 H60 locs60 eh60 eg60 bx60 hw => ?_)
            refine lv_istore (lv' := [(4, .int x60), (3, .int y41_s0), (0, .ref ap0), (1, .int xp1), (2, .int y18_s0)]) hx hb dX4_readFact_63 hl (by decide) rfl (fun ls hl => ?_)
            refine lv_iload hx hb dX4_readFact_65 (lv_at hl 0 rfl) ?_
            have J91 : ∀ (y91_s0 : Int32), iv y91_s0 0 1 → ∀ (H : Heap) (locs : List Loc), hp_w D T s H locs → ∀ (ls : Array Slot), lv_has ls 5 [] → WX4_readFact_3 p l e s m below meth c D T ap0 xp1 H locs (F0 m 91 ls [.int y91_s0]) := by
              intro y91_s0 c91_y91_s0 H91 locs91 hw ls hl
              exact W.zret (v := y91_s0) hx hb hr (iv_nz c91_y91_s0) (fun t ht hW => ⟨some (.int y91_s0), rfl, ⟨y91_s0, rfl, c91_y91_s0⟩, by rw [ht]; exact hw.1, hw.2.F ht⟩) hw.2.2.2 dX4_readFact_91
            have J90 : ∀ (H : Heap) (locs : List Loc), hp_w D T s H locs → ∀ (ls : Array Slot), lv_has ls 5 [] → WX4_readFact_3 p l e s m below meth c D T ap0 xp1 H locs (F0 m 90 ls []) := by
              intro H90 locs90 hw ls hl
              refine lv_iconst (v := 0) hx hb dX4_readFact_90 (by decide) ?_
              exact J91 (0 : Int32) (show iv 0 0 1 from ⟨by decide, by decide⟩) H90 locs90 hw _ (lv_sub hl [] rfl)
            refine lv_if_eq (tgt := 90) hx hb dX4_readFact_67 (by decide) (fun c67 => ?_) (fun c67 => ?_)
            · have r67tp : iv x60 0 0 := (iv_both (iv_any x60) (iv_eq (show iv 0 0 0 from ⟨by decide, by decide⟩) c67)).mono (by decide) (by decide)
              exact J90 H60 locs60 hw _ (lv_sub hl [] rfl)
            · refine lv_aload_n hx hb dX4_readFact_70 rfl (lv_at hl 2 rfl) ?_
              refine hp_callei (va_runV (As := []) (rest := []) ⟨hx, hb, hml, hown, hts⟩ (sX4_readSum l D T ap0 ip0) (cwV 0 hts gX4_readFact_X4_readSum rfl rfl rfl (by decide +kernel) ⟨Nat.le_of_ble_eq_true rfl, Nat.le_of_ble_eq_true rfl⟩) (hp_preV hG hw hp0 rfl trivial) rfl rfl hl.1 rfl (lv_room (Nat.le_of_ble_eq_true rfl)) dX4_readFact_71 ⟨Nat.zero_le _, Nat.zero_le _⟩) hw (fun x71 st71 t71 H71 locs71 eh71 eg71 bx71 hw => ?_)
              refine lv_if_eq (tgt := 90) hx hb dX4_readFact_74 (by decide) (fun c74 => ?_) (fun c74 => ?_)
              · have r74tp : iv x71 0 0 := (iv_both bx71 (iv_eq (show iv 0 0 0 from ⟨by decide, by decide⟩) c74)).mono (by decide) (by decide)
                exact J90 H71 locs71 hw _ (lv_sub hl [] rfl)
              · have r74fp : iv x71 1 1 := (iv_ne_lo c74 bx71 rfl).mono (by decide) (by decide)
                refine lv_aload_n hx hb dX4_readFact_77 rfl (lv_at hl 2 rfl) ?_
                refine lv_iload hx hb dX4_readFact_78 (lv_at hl 0 rfl) ?_
                refine hp_callei (va_runV (As := [.int x60]) (rest := []) ⟨hx, hb, hml, hown, hts⟩ (sX4_write l D T ap0 x60 ip0) (cwV 1 hts gX4_readFact_X4_write rfl rfl rfl (by decide +kernel) ⟨Nat.le_of_ble_eq_true rfl, Nat.le_of_ble_eq_true rfl⟩) (hp_preV hG hw hp0 rfl trivial) rfl rfl hl.1 rfl (lv_room (Nat.le_of_ble_eq_true rfl)) dX4_readFact_80 ⟨Nat.zero_le _, Nat.zero_le _⟩) hw (fun x80 st80 t80 H80 locs80 eh80 eg80 bx80 hw => ?_)
                refine lv_if_eq (tgt := 90) hx hb dX4_readFact_83 (by decide) (fun c83 => ?_) (fun c83 => ?_)
                · exact iv_abs2 c83 bx80 (show iv 0 0 0 from ⟨by decide, by decide⟩) (by decide)
                · refine lv_iconst (v := 1) hx hb dX4_readFact_86 (by decide) ?_
                  refine lv_goto (tgt := 91) hx hb dX4_readFact_87 (by decide) ?_
                  exact J91 (1 : Int32) (show iv 1 0 1 from ⟨by decide, by decide⟩) H80 locs80 hw _ (lv_sub hl [] rfl)
          · have r54fp : iv x51 0 0 := (iv_both bx51 (iv_eq (show iv 0 0 0 from ⟨by decide, by decide⟩) c54)).mono (by decide) (by decide)
            refine lv_iconst (v := 0) hx hb dX4_readFact_57 (by decide) ?_
            exact W.zret (v := 0) hx hb hr (iv_nz (show iv 0 0 1 from ⟨by decide, by decide⟩)) (fun t ht hW => ⟨some (.int 0), rfl, ⟨(0 : Int32), rfl, (show iv 0 0 1 from ⟨by decide, by decide⟩)⟩, by rw [ht]; exact hw.1, hw.2.F ht⟩) hw.2.2.2 dX4_readFact_58
    have J40 : iv xp1 3 3 → iv y18_s0 0 1 → ∀ (H : Heap) (locs : List Loc), hp_w D T s H locs → ∀ (ls : Array Slot), lv_has ls 5 [(0, .ref ap0), (1, .int xp1), (2, .int y18_s0)] → WX4_readFact_3 p l e s m below meth c D T ap0 xp1 H locs (F0 m 40 ls []) := by
      intro c40_xp1 c40_y18_s0 H40 locs40 hw ls hl
      refine lv_iconst (v := 0) hx hb dX4_readFact_40 (by decide) ?_
      exact J41 (0 : Int32) c40_xp1 c40_y18_s0 (show iv 0 0 1 from ⟨by decide, by decide⟩) H40 locs40 hw _ (lv_sub hl [0, 1, 2] rfl)
    refine lv_if_ne (tgt := 40) hx hb dX4_readFact_20 (by decide) (fun c20 => ?_) (fun c20 => ?_)
    · have r20tp : iv y18_s0 1 1 := (iv_ne_lo c20 c18_y18_s0 rfl).mono (by decide) (by decide)
      exact J40 c18_xp1 (r20tp.mono (by decide) (by decide)) H18 locs18 hw _ (lv_sub hl [1, 2, 0] rfl)
    · have r20fp : iv y18_s0 0 0 := (iv_both c18_y18_s0 (iv_eq (show iv 0 0 0 from ⟨by decide, by decide⟩) c20)).mono (by decide) (by decide)
      refine lv_aload_n hx hb dX4_readFact_23 rfl (lv_at hl 1 rfl) ?_
      refine hp_getr hx hb hts IX4 hown hK hw.1 hp0 rfl 0 (by decide) L26 rfl dX4_readFact_24 ?_
      refine va_ldcS hx hb hown hG.2.2.1.2.2.2.2.2.2.2.2.2.1 dX4_readFact_27 ?_
      refine hp_callei (va_runV (As := [.ref (D.2.2.1 9)]) (rest := []) ⟨hx, hb, hml, hown, hts⟩ (sX7_takeWord l D T ap0tp 9 ip0tp (by decide)) (cwV 1 hts gX4_readFact_X7_takeWord rfl rfl rfl (by decide +kernel) ⟨Nat.le_of_ble_eq_true rfl, Nat.le_of_ble_eq_true rfl⟩) (hp_preV hG hw hp0tp rfl trivial) rfl rfl hl.1 rfl (lv_room (Nat.le_of_ble_eq_true rfl)) dX4_readFact_29 ⟨Nat.zero_le _, Nat.zero_le _⟩) hw (fun x29 st29 t29 H29 locs29 eh29 eg29 bx29 hw => ?_)
      refine lv_iconst (v := (-1)) hx hb dX4_readFact_32 (by decide) ?_
      refine lv_icmp_eq (tgt := 40) hx hb dX4_readFact_33 (by decide) (fun c33 => ?_) (fun c33 => ?_)
      · have r33tp : iv x29 (-1) (-1) := (iv_both (iv_any x29) (iv_eq (show iv (-1) (-1) (-1) from ⟨by decide, by decide⟩) c33)).mono (by decide) (by decide)
        exact J40 c18_xp1 (r20fp.mono (by decide) (by decide)) H29 locs29 hw _ (lv_sub hl [1, 2, 0] rfl)
      · refine lv_iconst (v := 1) hx hb dX4_readFact_36 (by decide) ?_
        refine lv_goto (tgt := 41) hx hb dX4_readFact_37 (by decide) ?_
        exact J41 (1 : Int32) c18_xp1 (r20fp.mono (by decide) (by decide)) (show iv 1 0 1 from ⟨by decide, by decide⟩) H29 locs29 hw _ (lv_sub hl [1, 2, 0] rfl)
  refine lv_icmp_eq (tgt := 17) hx hb dX4_readFact_10 (by decide) (fun c10 => ?_) (fun c10 => ?_)
  · have r10tp : iv x6 (-1) (-1) := (iv_both (iv_any x6) (iv_eq (show iv (-1) (-1) (-1) from ⟨by decide, by decide⟩) c10)).mono (by decide) (by decide)
    refine lv_iconst (v := 0) hx hb dX4_readFact_17 (by decide) ?_
    exact J18 (0 : Int32) bp1 (show iv 0 0 1 from ⟨by decide, by decide⟩) H6 locs6 hw _ (lv_sub hl [0, 1] rfl)
  · refine lv_iconst (v := 1) hx hb dX4_readFact_13 (by decide) ?_
    refine lv_goto (tgt := 18) hx hb dX4_readFact_14 (by decide) ?_
    exact J18 (1 : Int32) bp1 (show iv 1 0 1 from ⟨by decide, by decide⟩) H6 locs6 hw _ (lv_sub hl [0, 1] rfl)
abbrev WX4_readTest_3 (p : Program) (l : Launch) (e : Env) (s : State) (m : MethodId) (below : List Frame) (meth : Method) (c : Code) (D : hp_D) (T : hp_T) (ap0 : Nat) (xp1 : Int32) (H : Heap) (locs : List Loc) (g : JFrame) : Prop := W p l e (headSpec wsX4_readTest ({ frames := 22, cells := 0, slots := 0, locals := 542 })).room s m ([.ref ap0, .int xp1] : List Value).toArray below meth c H locs 0 0 (MQ below (hq_e D T (fun v _ _ => ∃ r : Int32, v = some (.int r) ∧ iv r 0 1)) ([.ref ap0, .int xp1] : List Value).toArray s 0 0 (hp_F T)) g
set_option maxHeartbeats 4000000 in
set_option maxRecDepth 100000 in
theorem sX4_readTest_3 (l : Launch) (D : hp_D) (T : hp_T) (ap0 : Nat) (xp1 : Int32) (ip0 : isRuleReader T ap0) (bp1 : iv xp1 3 3) : Met l yX4_readTest wsX4_readTest ({ frames := 22, cells := 0, slots := 0, locals := 542 }) (hp_Pc D T [.ref ap0, .int xp1] (fun _ => True)) (hq_e D T (fun v _ _ => ∃ r : Int32, v = some (.int r) ∧ iv r 0 1)) 0 0 (hp_F T) := by
  obtain ⟨ap0tp, ap0stp, hp0, ip0tp, hp0stp⟩ := id ip0
  obtain ⟨ap0tpbt, hp0tp, hp0tpbt⟩ := id ip0tp
  refine Met.ofW (cc := cX4_readTest) (maxL := 6) (ret := (some .boolean)) (by decide) rfl ?_
  intro p e s m args below meth c s₁ B hml hv
  obtain ⟨rfl, hok, hG, hB⟩ := hv
  have hx := B.exec
  have hb := B.bytes
  have hr := B.returns
  have hts := atoms_spec (ws := wsX4_readTest) B.pre
  have hown : s.vm.findClass RX4 = some m.cls := findClass_of_methodNamed B.named
  have hlocks := B.notSynchronized
  have hK := hG.1
  have hw : hp_w D T s s.heap [] := hp_w.rf hok
  have IX4 : ∀ w ∈ wsX40, w ∈ wsX4_readTest := by decide +kernel
  have L26 := hts (.fieldLink RX4 26 "PalmCensus$RuleReader" "tape" "LPalmCensus$Tape;") (by decide +kernel)
  have hl := lv_entry ([.ref ap0, .int xp1]) (n := 6) (Nat.le_of_ble_eq_true rfl)
  rw [lg_entry_eq]
  generalize (lg_sl ([.ref ap0, .int xp1]) ++ List.replicate (6 - (lg_sl ([.ref ap0, .int xp1])).length) Slot.unset).toArray = ls at hl ⊢
  have hl : lv_has ls 6 [(0, .ref ap0), (1, .int xp1)] := hl
  show WX4_readTest_3 p l e s m below meth c D T ap0 xp1 s.heap [] (F0 m 0 ls [])
  refine lv_aload_n hx hb dX4_readTest_0 rfl (lv_at hl 0 rfl) ?_
  refine lv_iload_n hx hb dX4_readTest_1 rfl (lv_at hl 1 rfl) ?_
  refine hp_callei (va_runV (As := [.int xp1]) (rest := []) ⟨hx, hb, hml, hown, hts⟩ (sX4_readFact_3 l D T ap0 xp1 ip0 bp1) (cwV 1 hts gX4_readTest_X4_readFact rfl rfl rfl (by decide +kernel) ⟨Nat.le_of_ble_eq_true rfl, Nat.le_of_ble_eq_true rfl⟩) (hp_preV hG hw hp0 rfl trivial) rfl rfl hl.1 rfl (lv_room (Nat.le_of_ble_eq_true rfl)) dX4_readTest_2 ⟨Nat.zero_le _, Nat.zero_le _⟩) hw (fun x2 st2 t2 H2 locs2 eh2 eg2 bx2 hw => ?_)
  refine lv_if_ne (tgt := 10) hx hb dX4_readTest_5 (by decide) (fun c5 => ?_) (fun c5 => ?_)
  · have r5tp : iv x2 1 1 := (iv_ne_lo c5 bx2 rfl).mono (by decide) (by decide)
    refine lv_iconst (v := 0) hx hb dX4_readTest_10 (by decide) ?_
    refine lv_istore_n (lv' := [(2, .int 0), (0, .ref ap0), (1, .int xp1)]) hx hb dX4_readTest_11 rfl hl (by decide) rfl (fun ls hl => ?_)
    refine lv_iconst (v := 0) hx hb dX4_readTest_12 (by decide) ?_
    refine lv_istore_n (lv' := [(3, .int 0), (2, .int 0), (0, .ref ap0), (1, .int xp1)]) hx hb dX4_readTest_13 rfl hl (by decide) rfl (fun ls hl => ?_)
    have J14 : ∀ (n : Nat) (y14_l2 y14_l3 : Int32), (400 - y14_l3.toInt).toNat < n → iv xp1 3 3 → iv y14_l2 0 1 → iv y14_l3 0 400 → ∀ (H : Heap) (locs : List Loc), hp_w D T s H locs → ∀ (ls : Array Slot), lv_has ls 6 [(0, .ref ap0), (1, .int xp1), (2, .int y14_l2), (3, .int y14_l3)] → WX4_readTest_3 p l e s m below meth c D T ap0 xp1 H locs (F0 m 14 ls []) := by
      intro n
      induction n with
      | zero => intro y14_l2 y14_l3 hmu14 c14_xp1 c14_y14_l2 c14_y14_l3 H14 locs14 hw ls hl; exact absurd hmu14 (Nat.not_lt_zero _)
      | succ n ih14 =>
        intro y14_l2 y14_l3 hmu14 c14_xp1 c14_y14_l2 c14_y14_l3 H14 locs14 hw ls hl
        refine lv_iload_n hx hb dX4_readTest_14 rfl (lv_at hl 3 rfl) ?_
        refine lv_sipush (v := 400) hx hb dX4_readTest_15 (by decide) ?_
        have J103 : iv y14_l2 0 1 → ∀ (H : Heap) (locs : List Loc), hp_w D T s H locs → ∀ (ls : Array Slot), lv_has ls 6 [(0, .ref ap0), (2, .int y14_l2)] → WX4_readTest_3 p l e s m below meth c D T ap0 xp1 H locs (F0 m 103 ls []) := by
          intro c103_y14_l2 H103 locs103 hw ls hl
          refine lv_iload_n hx hb dX4_readTest_103 rfl (lv_at hl 1 rfl) ?_
          have J121 : ∀ (H : Heap) (locs : List Loc), hp_w D T s H locs → ∀ (ls : Array Slot), lv_has ls 6 [] → WX4_readTest_3 p l e s m below meth c D T ap0 xp1 H locs (F0 m 121 ls [.int 1]) := by
            intro H121 locs121 hw ls hl
            exact W.zret (v := 1) hx hb hr (iv_nz (show iv 1 0 1 from ⟨by decide, by decide⟩)) (fun t ht hW => ⟨some (.int 1), rfl, ⟨(1 : Int32), rfl, (show iv 1 0 1 from ⟨by decide, by decide⟩)⟩, by rw [ht]; exact hw.1, hw.2.F ht⟩) hw.2.2.2 dX4_readTest_121
          have J116 : ∀ (H : Heap) (locs : List Loc), hp_w D T s H locs → ∀ (ls : Array Slot), lv_has ls 6 [] → WX4_readTest_3 p l e s m below meth c D T ap0 xp1 H locs (F0 m 116 ls []) := by
            intro H116 locs116 hw ls hl
            refine lv_iconst (v := 1) hx hb dX4_readTest_116 (by decide) ?_
            refine lv_goto (tgt := 121) hx hb dX4_readTest_117 (by decide) ?_
            exact J121 H116 locs116 hw _ (lv_sub hl [] rfl)
          refine lv_if_eq (tgt := 116) hx hb dX4_readTest_104 (by decide) (fun c104 => ?_) (fun c104 => ?_)
          · have r104tp : iv y14_l2 0 0 := (iv_both c103_y14_l2 (iv_eq (show iv 0 0 0 from ⟨by decide, by decide⟩) c104)).mono (by decide) (by decide)
            exact J116 H103 locs103 hw _ (lv_sub hl [] rfl)
          · have r104fp : iv y14_l2 1 1 := (iv_ne_lo c104 c103_y14_l2 rfl).mono (by decide) (by decide)
            refine lv_aload_n hx hb dX4_readTest_107 rfl (lv_at hl 0 rfl) ?_
            refine lv_bipush (v := (-42)) hx hb dX4_readTest_108 (by decide) ?_
            refine hp_callei (va_runV (As := [.int (-42)]) (rest := []) ⟨hx, hb, hml, hown, hts⟩ (sX4_write l D T ap0 ((-42) : Int32) ip0) (cwV 1 hts gX4_readTest_X4_write rfl rfl rfl (by decide +kernel) ⟨Nat.le_of_ble_eq_true rfl, Nat.le_of_ble_eq_true rfl⟩) (hp_preV hG hw hp0 rfl trivial) rfl rfl hl.1 rfl (lv_room (Nat.le_of_ble_eq_true rfl)) dX4_readTest_110 ⟨Nat.zero_le _, Nat.zero_le _⟩) hw (fun x110 st110 t110 H110 locs110 eh110 eg110 bx110 hw => ?_)
            refine lv_if_eq (tgt := 120) hx hb dX4_readTest_113 (by decide) (fun c113 => ?_) (fun c113 => ?_)
            · exact iv_abs2 c113 bx110 (show iv 0 0 0 from ⟨by decide, by decide⟩) (by decide)
            · exact J116 H110 locs110 hw _ (lv_sub hl [] rfl)
        refine lv_icmp_ge (tgt := 103) hx hb dX4_readTest_18 (by decide) (fun c18 => ?_) (fun c18 => ?_)
        · have r18tq : iv y14_l3 400 400 := (iv_le_r c18 (show iv 400 400 400 from ⟨by decide, by decide⟩) c14_y14_l3).mono (by decide) (by decide)
          exact J103 c14_y14_l2 H14 locs14 hw _ (lv_sub hl [0, 2] rfl)
        · have r18fp : iv y14_l3 0 399 := (iv_lt_l (iv_nle c18) c14_y14_l3 (show iv 400 400 400 from ⟨by decide, by decide⟩)).mono (by decide) (by decide)
          refine lv_aload_n hx hb dX4_readTest_21 rfl (lv_at hl 0 rfl) ?_
          refine hp_getr hx hb hts IX4 hown hK hw.1 hp0 rfl 0 (by decide) L26 rfl dX4_readTest_22 ?_
          refine va_ldcS hx hb hown hG.2.2.1.2.2.2.2.2.2.2.1 dX4_readTest_25 ?_
          refine hp_callei (va_runV (As := [.ref (D.2.2.1 7)]) (rest := []) ⟨hx, hb, hml, hown, hts⟩ (sX7_takeWord l D T ap0tp 7 ip0tp (by decide)) (cwV 1 hts gX4_readTest_X7_takeWord rfl rfl rfl (by decide +kernel) ⟨Nat.le_of_ble_eq_true rfl, Nat.le_of_ble_eq_true rfl⟩) (hp_preV hG hw hp0tp rfl trivial) rfl rfl hl.1 rfl (lv_room (Nat.le_of_ble_eq_true rfl)) dX4_readTest_27 ⟨Nat.zero_le _, Nat.zero_le _⟩) hw (fun x27 st27 t27 H27 locs27 eh27 eg27 bx27 hw => ?_)
          refine lv_istore (lv' := [(4, .int x27), (0, .ref ap0), (1, .int xp1), (2, .int y14_l2), (3, .int y14_l3)]) hx hb dX4_readTest_30 hl (by decide) rfl (fun ls hl => ?_)
          refine lv_iload hx hb dX4_readTest_32 (lv_at hl 0 rfl) ?_
          refine lv_iconst (v := (-1)) hx hb dX4_readTest_34 (by decide) ?_
          refine lv_icmp_ne (tgt := 41) hx hb dX4_readTest_35 (by decide) (fun c35 => ?_) (fun c35 => ?_)
          · refine lv_iload hx hb dX4_readTest_41 (lv_at hl 0 rfl) ?_
            refine lv_iconst (v := 1) hx hb dX4_readTest_43 (by decide) ?_
            have J52 : ∀ (y52_s0 : Int32), iv xp1 3 3 → iv y14_l2 0 1 → iv y14_l3 0 399 → iv y52_s0 0 1 → ∀ (H : Heap) (locs : List Loc), hp_w D T s H locs → ∀ (ls : Array Slot), lv_has ls 6 [(0, .ref ap0), (1, .int xp1), (2, .int y14_l2), (3, .int y14_l3)] → WX4_readTest_3 p l e s m below meth c D T ap0 xp1 H locs (F0 m 52 ls [.int y52_s0]) := by
              intro y52_s0 c52_xp1 c52_y14_l2 c52_y14_l3 c52_y52_s0 H52 locs52 hw ls hl
              refine lv_istore (lv' := [(5, .int y52_s0), (0, .ref ap0), (1, .int xp1), (2, .int y14_l2), (3, .int y14_l3)]) hx hb dX4_readTest_52 hl (by decide) rfl (fun ls hl => ?_)
              refine lv_iload hx hb dX4_readTest_54 (lv_at hl 0 rfl) ?_
              have J70 : iv xp1 3 3 → iv y14_l2 0 1 → iv y14_l3 0 399 → iv y52_s0 0 1 → ∀ (H : Heap) (locs : List Loc), hp_w D T s H locs → ∀ (ls : Array Slot), lv_has ls 6 [(0, .ref ap0), (1, .int xp1), (2, .int y14_l2), (3, .int y14_l3), (5, .int y52_s0)] → WX4_readTest_3 p l e s m below meth c D T ap0 xp1 H locs (F0 m 70 ls []) := by
                intro c70_xp1 c70_y14_l2 c70_y14_l3 c70_y52_s0 H70 locs70 hw ls hl
                refine lv_iload_n hx hb dX4_readTest_70 rfl (lv_at hl 2 rfl) ?_
                refine lv_iload hx hb dX4_readTest_71 (lv_at hl 4 rfl) ?_
                refine lv_ior hx hb dX4_readTest_73 ?_
                refine lv_topi (fun x73 ex73 => ?_)
                have bx73 : iv x73 0 1 := iv_or 1 c70_y14_l2 c70_y52_s0 ex73 (by decide) (by decide)
                refine lv_istore_n (lv' := [(2, .int x73), (0, .ref ap0), (1, .int xp1), (3, .int y14_l3), (5, .int y52_s0)]) hx hb dX4_readTest_74 rfl hl (by decide) rfl (fun ls hl => ?_)
                refine lv_aload_n hx hb dX4_readTest_75 rfl (lv_at hl 1 rfl) ?_
                refine lv_iload_n hx hb dX4_readTest_76 rfl (lv_at hl 2 rfl) ?_
                refine hp_callei (va_runV (As := [.int xp1]) (rest := []) ⟨hx, hb, hml, hown, hts⟩ (sX4_readFact_3 l D T ap0 xp1 ip0 c70_xp1) (cwV 1 hts gX4_readTest_X4_readFact rfl rfl rfl (by decide +kernel) ⟨Nat.le_of_ble_eq_true rfl, Nat.le_of_ble_eq_true rfl⟩) (hp_preV hG hw hp0 rfl trivial) rfl rfl hl.1 rfl (lv_room (Nat.le_of_ble_eq_true rfl)) dX4_readTest_77 ⟨Nat.zero_le _, Nat.zero_le _⟩) hw (fun x77 st77 t77 H77 locs77 eh77 eg77 bx77 hw => ?_)
                refine lv_if_ne (tgt := 85) hx hb dX4_readTest_80 (by decide) (fun c80 => ?_) (fun c80 => ?_)
                · have r80tp : iv x77 1 1 := (iv_ne_lo c80 bx77 rfl).mono (by decide) (by decide)
                  refine lv_iload hx hb dX4_readTest_85 (lv_at hl 4 rfl) ?_
                  have J97 : iv xp1 3 3 → iv x73 0 1 → iv y14_l3 0 399 → ∀ (H : Heap) (locs : List Loc), hp_w D T s H locs → ∀ (ls : Array Slot), lv_has ls 6 [(0, .ref ap0), (1, .int xp1), (2, .int x73), (3, .int y14_l3)] → WX4_readTest_3 p l e s m below meth c D T ap0 xp1 H locs (F0 m 97 ls []) := by
                    intro c97_xp1 c97_x73 c97_y14_l3 H97 locs97 hw ls hl
                    obtain ⟨x97, ex97⟩ : ∃ y : Int32, y = y14_l3 + 1 := ⟨_, rfl⟩
                    have bx97 : iv x97 1 400 := iv_add c97_y14_l3 (show iv 1 1 1 from ⟨by decide, by decide⟩) ex97 (by decide)
                    have qx97 := iv_add_eq c97_y14_l3 (show iv 1 1 1 from ⟨by decide, by decide⟩) ex97 (by decide)
                    refine lv_iinc (v := x97) (lv' := [(3, .int x97), (0, .ref ap0), (1, .int xp1), (2, .int x73)]) hx hb dX4_readTest_97 hl (k := 3) rfl (by rw [ex97]; rfl) (by decide) rfl (fun ls hl => ?_)
                    refine lv_goto (tgt := 14) hx hb dX4_readTest_100 (by decide) ?_
                    exact ih14 x73 x97 (mu_up 1 hmu14 (qx97) (by decide) (show iv x97 0 400 from (bx97.mono (by decide) (by decide))).2) c97_xp1 c97_x73 (bx97.mono (by decide) (by decide)) H97 locs97 hw _ (lv_sub hl [1, 2, 3, 0] rfl)
                  refine lv_if_ne (tgt := 97) hx hb dX4_readTest_87 (by decide) (fun c87 => ?_) (fun c87 => ?_)
                  · have r87tp : iv y52_s0 1 1 := (iv_ne_lo c87 c70_y52_s0 rfl).mono (by decide) (by decide)
                    exact J97 c70_xp1 bx73 c70_y14_l3 H77 locs77 hw _ (lv_sub hl [1, 2, 0, 3] rfl)
                  · have r87fp : iv y52_s0 0 0 := (iv_both c70_y52_s0 (iv_eq (show iv 0 0 0 from ⟨by decide, by decide⟩) c87)).mono (by decide) (by decide)
                    refine lv_aload_n hx hb dX4_readTest_90 rfl (lv_at hl 1 rfl) ?_
                    refine lv_bipush (v := (-41)) hx hb dX4_readTest_91 (by decide) ?_
                    refine hp_callei (va_runV (As := [.int (-41)]) (rest := []) ⟨hx, hb, hml, hown, hts⟩ (sX4_write l D T ap0 ((-41) : Int32) ip0) (cwV 1 hts gX4_readTest_X4_write rfl rfl rfl (by decide +kernel) ⟨Nat.le_of_ble_eq_true rfl, Nat.le_of_ble_eq_true rfl⟩) (hp_preV hG hw hp0 rfl trivial) rfl rfl hl.1 rfl (lv_room (Nat.le_of_ble_eq_true rfl)) dX4_readTest_93 ⟨Nat.zero_le _, Nat.zero_le _⟩) hw (fun x93 st93 t93 H93 locs93 eh93 eg93 bx93 hw => ?_)
                    refine lv_pop hx hb dX4_readTest_96 rfl ?_
                    exact J97 c70_xp1 bx73 c70_y14_l3 H93 locs93 hw _ (lv_sub hl [1, 2, 0, 3] rfl)
                · have r80fp : iv x77 0 0 := (iv_both bx77 (iv_eq (show iv 0 0 0 from ⟨by decide, by decide⟩) c80)).mono (by decide) (by decide)
                  refine lv_iconst (v := 0) hx hb dX4_readTest_83 (by decide) ?_
                  exact W.zret (v := 0) hx hb hr (iv_nz (show iv 0 0 1 from ⟨by decide, by decide⟩)) (fun t ht hW => ⟨some (.int 0), rfl, ⟨(0 : Int32), rfl, (show iv 0 0 1 from ⟨by decide, by decide⟩)⟩, by rw [ht]; exact hw.1, hw.2.F ht⟩) hw.2.2.2 dX4_readTest_84
              refine lv_if_eq (tgt := 70) hx hb dX4_readTest_56 (by decide) (fun c56 => ?_) (fun c56 => ?_)
              · have r56tp : iv y52_s0 0 0 := (iv_both c52_y52_s0 (iv_eq (show iv 0 0 0 from ⟨by decide, by decide⟩) c56)).mono (by decide) (by decide)
                exact J70 c52_xp1 c52_y14_l2 c52_y14_l3 (r56tp.mono (by decide) (by decide)) H52 locs52 hw _ (lv_sub hl [1, 2, 3, 4, 0] rfl)
              · have r56fp : iv y52_s0 1 1 := (iv_ne_lo c56 c52_y52_s0 rfl).mono (by decide) (by decide)
                refine lv_iload_n hx hb dX4_readTest_59 rfl (lv_at hl 3 rfl) ?_
                refine lv_if_eq (tgt := 70) hx hb dX4_readTest_60 (by decide) (fun c60 => ?_) (fun c60 => ?_)
                · have r60tp : iv y14_l2 0 0 := (iv_both c52_y14_l2 (iv_eq (show iv 0 0 0 from ⟨by decide, by decide⟩) c60)).mono (by decide) (by decide)
                  exact J70 c52_xp1 (r60tp.mono (by decide) (by decide)) c52_y14_l3 (r56fp.mono (by decide) (by decide)) H52 locs52 hw _ (lv_sub hl [1, 2, 3, 4, 0] rfl)
                · have r60fp : iv y14_l2 1 1 := (iv_ne_lo c60 c52_y14_l2 rfl).mono (by decide) (by decide)
                  refine lv_aload_n hx hb dX4_readTest_63 rfl (lv_at hl 1 rfl) ?_
                  refine lv_bipush (v := (-42)) hx hb dX4_readTest_64 (by decide) ?_
                  refine hp_callei (va_runV (As := [.int (-42)]) (rest := []) ⟨hx, hb, hml, hown, hts⟩ (sX4_write l D T ap0 ((-42) : Int32) ip0) (cwV 1 hts gX4_readTest_X4_write rfl rfl rfl (by decide +kernel) ⟨Nat.le_of_ble_eq_true rfl, Nat.le_of_ble_eq_true rfl⟩) (hp_preV hG hw hp0 rfl trivial) rfl rfl hl.1 rfl (lv_room (Nat.le_of_ble_eq_true rfl)) dX4_readTest_66 ⟨Nat.zero_le _, Nat.zero_le _⟩) hw (fun x66 st66 t66 H66 locs66 eh66 eg66 bx66 hw => ?_)
                  refine lv_pop hx hb dX4_readTest_69 rfl ?_
                  exact J70 c52_xp1 (r60fp.mono (by decide) (by decide)) c52_y14_l3 (r56fp.mono (by decide) (by decide)) H66 locs66 hw _ (lv_sub hl [1, 2, 3, 4, 0] rfl)
            refine lv_icmp_ne (tgt := 51) hx hb dX4_readTest_44 (by decide) (fun c44 => ?_) (fun c44 => ?_)
            · refine lv_iconst (v := 0) hx hb dX4_readTest_51 (by decide) ?_
              exact J52 (0 : Int32) c14_xp1 c14_y14_l2 r18fp (show iv 0 0 1 from ⟨by decide, by decide⟩) H27 locs27 hw _ (lv_sub hl [1, 2, 3, 4] rfl)
            · have r44fp : iv x27 1 1 := (iv_both (iv_any x27) (iv_eq (show iv 1 1 1 from ⟨by decide, by decide⟩) c44)).mono (by decide) (by decide)
              refine lv_iconst (v := 1) hx hb dX4_readTest_47 (by decide) ?_
              refine lv_goto (tgt := 52) hx hb dX4_readTest_48 (by decide) ?_
              exact J52 (1 : Int32) c14_xp1 c14_y14_l2 r18fp (show iv 1 0 1 from ⟨by decide, by decide⟩) H27 locs27 hw _ (lv_sub hl [1, 2, 3, 4] rfl)
          · have r35fp : iv x27 (-1) (-1) := (iv_both (iv_any x27) (iv_eq (show iv (-1) (-1) (-1) from ⟨by decide, by decide⟩) c35)).mono (by decide) (by decide)
            refine lv_goto (tgt := 103) hx hb dX4_readTest_38 (by decide) ?_
            exact J103 c14_y14_l2 H27 locs27 hw _ (lv_sub hl [1, 3] rfl)
    exact J14 _ (0 : Int32) (0 : Int32) (Nat.lt_succ_self _) bp1 (show iv 0 0 1 from ⟨by decide, by decide⟩) (show iv 0 0 400 from ⟨by decide, by decide⟩) H2 locs2 hw _ (lv_sub hl [2, 3, 1, 0] rfl)
  · have r5fp : iv x2 0 0 := (iv_both bx2 (iv_eq (show iv 0 0 0 from ⟨by decide, by decide⟩) c5)).mono (by decide) (by decide)
    refine lv_iconst (v := 0) hx hb dX4_readTest_8 (by decide) ?_
    exact W.zret (v := 0) hx hb hr (iv_nz (show iv 0 0 1 from ⟨by decide, by decide⟩)) (fun t ht hW => ⟨some (.int 0), rfl, ⟨(0 : Int32), rfl, (show iv 0 0 1 from ⟨by decide, by decide⟩)⟩, by rw [ht]; exact hw.1, hw.2.F ht⟩) hw.2.2.2 dX4_readTest_9
abbrev WX4_readFact_2 (p : Program) (l : Launch) (e : Env) (s : State) (m : MethodId) (below : List Frame) (meth : Method) (c : Code) (D : hp_D) (T : hp_T) (ap0 : Nat) (xp1 : Int32) (H : Heap) (locs : List Loc) (g : JFrame) : Prop := W p l e (headSpec wsX4_readFact ({ frames := 23, cells := 0, slots := 0, locals := 567 })).room s m ([.ref ap0, .int xp1] : List Value).toArray below meth c H locs 0 0 (MQ below (hq_e D T (fun v _ _ => ∃ r : Int32, v = some (.int r) ∧ iv r 0 1)) ([.ref ap0, .int xp1] : List Value).toArray s 0 0 (hp_F T)) g
set_option maxHeartbeats 4000000 in
set_option maxRecDepth 100000 in
theorem sX4_readFact_2 (l : Launch) (D : hp_D) (T : hp_T) (ap0 : Nat) (xp1 : Int32) (ip0 : isRuleReader T ap0) (bp1 : iv xp1 2 2) : Met l yX4_readFact wsX4_readFact ({ frames := 23, cells := 0, slots := 0, locals := 567 }) (hp_Pc D T [.ref ap0, .int xp1] (fun _ => True)) (hq_e D T (fun v _ _ => ∃ r : Int32, v = some (.int r) ∧ iv r 0 1)) 0 0 (hp_F T) := by
  obtain ⟨ap0tp, ap0stp, hp0, ip0tp, hp0stp⟩ := id ip0
  obtain ⟨ap0tpbt, hp0tp, hp0tpbt⟩ := id ip0tp
  refine Met.ofW (cc := cX4_readFact) (maxL := 5) (ret := (some .boolean)) (by decide) rfl ?_
  intro p e s m args below meth c s₁ B hml hv
  obtain ⟨rfl, hok, hG, hB⟩ := hv
  have hx := B.exec
  have hb := B.bytes
  have hr := B.returns
  have hts := atoms_spec (ws := wsX4_readFact) B.pre
  have hown : s.vm.findClass RX4 = some m.cls := findClass_of_methodNamed B.named
  have hlocks := B.notSynchronized
  have hK := hG.1
  have hw : hp_w D T s s.heap [] := hp_w.rf hok
  have IX4 : ∀ w ∈ wsX40, w ∈ wsX4_readFact := by decide +kernel
  have L26 := hts (.fieldLink RX4 26 "PalmCensus$RuleReader" "tape" "LPalmCensus$Tape;") (by decide +kernel)
  have hl := lv_entry ([.ref ap0, .int xp1]) (n := 5) (Nat.le_of_ble_eq_true rfl)
  rw [lg_entry_eq]
  generalize (lg_sl ([.ref ap0, .int xp1]) ++ List.replicate (5 - (lg_sl ([.ref ap0, .int xp1])).length) Slot.unset).toArray = ls at hl ⊢
  have hl : lv_has ls 5 [(0, .ref ap0), (1, .int xp1)] := hl
  show WX4_readFact_2 p l e s m below meth c D T ap0 xp1 s.heap [] (F0 m 0 ls [])
  refine lv_aload_n hx hb dX4_readFact_0 rfl (lv_at hl 0 rfl) ?_
  refine hp_getr hx hb hts IX4 hown hK hw.1 hp0 rfl 0 (by decide) L26 rfl dX4_readFact_1 ?_
  refine va_ldcS hx hb hown hG.2.2.1.2.2.2.2.2.2.2.2.1 dX4_readFact_4 ?_
  refine hp_callei (va_runV (As := [.ref (D.2.2.1 8)]) (rest := []) ⟨hx, hb, hml, hown, hts⟩ (sX7_takeSignOf l D T ap0tp 8 ip0tp (by decide)) (cwV 1 hts gX4_readFact_X7_takeSignOf rfl rfl rfl (by decide +kernel) ⟨Nat.le_of_ble_eq_true rfl, Nat.le_of_ble_eq_true rfl⟩) (hp_preV hG hw hp0tp rfl trivial) rfl rfl hl.1 rfl (lv_room (Nat.le_of_ble_eq_true rfl)) dX4_readFact_6 ⟨Nat.zero_le _, Nat.zero_le _⟩) hw (fun x6 st6 t6 H6 locs6 eh6 eg6 bx6 hw => ?_)
  refine lv_iconst (v := (-1)) hx hb dX4_readFact_9 (by decide) ?_
  have J18 : ∀ (y18_s0 : Int32), iv xp1 2 2 → iv y18_s0 0 1 → ∀ (H : Heap) (locs : List Loc), hp_w D T s H locs → ∀ (ls : Array Slot), lv_has ls 5 [(0, .ref ap0), (1, .int xp1)] → WX4_readFact_2 p l e s m below meth c D T ap0 xp1 H locs (F0 m 18 ls [.int y18_s0]) := by
    intro y18_s0 c18_xp1 c18_y18_s0 H18 locs18 hw ls hl
    refine lv_istore_n (lv' := [(2, .int y18_s0), (0, .ref ap0), (1, .int xp1)]) hx hb dX4_readFact_18 rfl hl (by decide) rfl (fun ls hl => ?_)
    refine lv_iload_n hx hb dX4_readFact_19 rfl (lv_at hl 0 rfl) ?_
    have J41 : ∀ (y41_s0 : Int32), iv xp1 2 2 → iv y18_s0 0 1 → iv y41_s0 0 1 → ∀ (H : Heap) (locs : List Loc), hp_w D T s H locs → ∀ (ls : Array Slot), lv_has ls 5 [(0, .ref ap0), (1, .int xp1), (2, .int y18_s0)] → WX4_readFact_2 p l e s m below meth c D T ap0 xp1 H locs (F0 m 41 ls [.int y41_s0]) := by
      intro y41_s0 c41_xp1 c41_y18_s0 c41_y41_s0 H41 locs41 hw ls hl
      refine lv_istore_n (lv' := [(3, .int y41_s0), (0, .ref ap0), (1, .int xp1), (2, .int y18_s0)]) hx hb dX4_readFact_41 rfl hl (by decide) rfl (fun ls hl => ?_)
      refine lv_iload_n hx hb dX4_readFact_42 rfl (lv_at hl 3 rfl) ?_
      have J92 : iv xp1 2 2 → iv y41_s0 0 1 → ∀ (H : Heap) (locs : List Loc), hp_w D T s H locs → ∀ (ls : Array Slot), lv_has ls 5 [(0, .ref ap0), (1, .int xp1), (3, .int y41_s0)] → WX4_readFact_2 p l e s m below meth c D T ap0 xp1 H locs (F0 m 92 ls []) := by
        intro c92_xp1 c92_y41_s0 H92 locs92 hw ls hl
        refine lv_iload_n hx hb dX4_readFact_92 rfl (lv_at hl 1 rfl) ?_
        refine lv_bipush (v := 10) hx hb dX4_readFact_93 (by decide) ?_
        refine lv_icmp_lt (tgt := 114) hx hb dX4_readFact_95 (by decide) (fun c95 => ?_) (fun c95 => ?_)
        · refine lv_iload_n hx hb dX4_readFact_114 rfl (lv_at hl 2 rfl) ?_
          refine lv_if_eq (tgt := 143) hx hb dX4_readFact_115 (by decide) (fun c115 => ?_) (fun c115 => ?_)
          · have r115tp : iv y41_s0 0 0 := (iv_both c92_y41_s0 (iv_eq (show iv 0 0 0 from ⟨by decide, by decide⟩) c115)).mono (by decide) (by decide)
            refine lv_aload_n hx hb dX4_readFact_143 rfl (lv_at hl 0 rfl) ?_
            refine lv_iload_n hx hb dX4_readFact_144 rfl (lv_at hl 1 rfl) ?_
            refine lv_iconst (v := 1) hx hb dX4_readFact_145 (by decide) ?_
            refine lv_iadd hx hb dX4_readFact_146 ?_
            refine lv_topi (fun x146 ex146 => ?_)
            have bx146 : iv x146 3 3 := iv_add c92_xp1 (show iv 1 1 1 from ⟨by decide, by decide⟩) ex146 (by decide)
            have qx146 := iv_add_eq c92_xp1 (show iv 1 1 1 from ⟨by decide, by decide⟩) ex146 (by decide)
            refine hp_callei (va_runV (As := [.int x146]) (rest := []) ⟨hx, hb, hml, hown, hts⟩ (sX4_readTest_3 l D T ap0 x146 ip0 bx146) (cwV 1 hts gX4_readFact_X4_readTest rfl rfl rfl (by decide +kernel) ⟨Nat.le_of_ble_eq_true rfl, Nat.le_of_ble_eq_true rfl⟩) (hp_preV hG hw hp0 rfl trivial) rfl rfl hl.1 rfl (lv_room (Nat.le_of_ble_eq_true rfl)) dX4_readFact_147 ⟨Nat.zero_le _, Nat.zero_le _⟩) hw (fun x147 st147 t147 H147 locs147 eh147 eg147 bx147 hw => ?_)
            have J170 : ∀ (y170_s0 : Int32), iv y170_s0 0 1 → ∀ (H : Heap) (locs : List Loc), hp_w D T s H locs → ∀ (ls : Array Slot), lv_has ls 5 [] → WX4_readFact_2 p l e s m below meth c D T ap0 xp1 H locs (F0 m 170 ls [.int y170_s0]) := by
              intro y170_s0 c170_y170_s0 H170 locs170 hw ls hl
              exact W.zret (v := y170_s0) hx hb hr (iv_nz c170_y170_s0) (fun t ht hW => ⟨some (.int y170_s0), rfl, ⟨y170_s0, rfl, c170_y170_s0⟩, by rw [ht]; exact hw.1, hw.2.F ht⟩) hw.2.2.2 dX4_readFact_170
            have J169 : ∀ (H : Heap) (locs : List Loc), hp_w D T s H locs → ∀ (ls : Array Slot), lv_has ls 5 [] → WX4_readFact_2 p l e s m below meth c D T ap0 xp1 H locs (F0 m 169 ls []) := by
              intro H169 locs169 hw ls hl
              refine lv_iconst (v := 0) hx hb dX4_readFact_169 (by decide) ?_
              exact J170 (0 : Int32) (show iv 0 0 1 from ⟨by decide, by decide⟩) H169 locs169 hw _ (lv_sub hl [] rfl)
            refine lv_if_eq (tgt := 169) hx hb dX4_readFact_150 (by decide) (fun c150 => ?_) (fun c150 => ?_)
            · have r150tp : iv x147 0 0 := (iv_both bx147 (iv_eq (show iv 0 0 0 from ⟨by decide, by decide⟩) c150)).mono (by decide) (by decide)
              exact J169 H147 locs147 hw _ (lv_sub hl [] rfl)
            · have r150fp : iv x147 1 1 := (iv_ne_lo c150 bx147 rfl).mono (by decide) (by decide)
              refine lv_aload_n hx hb dX4_readFact_153 rfl (lv_at hl 0 rfl) ?_
              refine hp_getr hx hb hts IX4 hown hK hw.1 hp0 rfl 0 (by decide) L26 rfl dX4_readFact_154 ?_
              refine va_ldcS hx hb hown hG.2.2.1.1 dX4_readFact_157 ?_
              refine hp_callei (va_runV (As := [.ref (D.2.2.1 0)]) (rest := []) ⟨hx, hb, hml, hown, hts⟩ (sX7_needSign l D T ap0tp 0 ip0tp (by decide)) (cwV 1 hts gX4_readFact_X7_needSign rfl rfl rfl (by decide +kernel) ⟨Nat.le_of_ble_eq_true rfl, Nat.le_of_ble_eq_true rfl⟩) (hp_preV hG hw hp0tp rfl trivial) rfl rfl hl.1 rfl (lv_room (Nat.le_of_ble_eq_true rfl)) dX4_readFact_159 ⟨Nat.zero_le _, Nat.zero_le _⟩) hw (fun x159 st159 t159 H159 locs159 eh159 eg159 bx159 hw => ?_)
              refine lv_if_eq (tgt := 169) hx hb dX4_readFact_162 (by decide) (fun c162 => ?_) (fun c162 => ?_)
              · have r162tp : iv x159 0 0 := (iv_both bx159 (iv_eq (show iv 0 0 0 from ⟨by decide, by decide⟩) c162)).mono (by decide) (by decide)
                exact J169 H159 locs159 hw _ (lv_sub hl [] rfl)
              · have r162fp : iv x159 1 1 := (iv_ne_lo c162 bx159 rfl).mono (by decide) (by decide)
                refine lv_iconst (v := 1) hx hb dX4_readFact_165 (by decide) ?_
                refine lv_goto (tgt := 170) hx hb dX4_readFact_166 (by decide) ?_
                exact J170 (1 : Int32) (show iv 1 0 1 from ⟨by decide, by decide⟩) H159 locs159 hw _ (lv_sub hl [] rfl)
          · have r115fp : iv y41_s0 1 1 := (iv_ne_lo c115 c92_y41_s0 rfl).mono (by decide) (by decide)
            refine lv_aload_n hx hb dX4_readFact_118 rfl (lv_at hl 0 rfl) ?_
            refine lv_iload_n hx hb dX4_readFact_119 rfl (lv_at hl 1 rfl) ?_
            refine lv_iconst (v := 1) hx hb dX4_readFact_120 (by decide) ?_
            refine lv_iadd hx hb dX4_readFact_121 ?_
            refine lv_topi (fun x121 ex121 => ?_)
            have bx121 : iv x121 3 3 := iv_add c92_xp1 (show iv 1 1 1 from ⟨by decide, by decide⟩) ex121 (by decide)
            have qx121 := iv_add_eq c92_xp1 (show iv 1 1 1 from ⟨by decide, by decide⟩) ex121 (by decide)
            refine hp_callei (va_runV (As := [.int x121]) (rest := []) ⟨hx, hb, hml, hown, hts⟩ (sX4_readFact_3 l D T ap0 x121 ip0 bx121) (cwV 1 hts gX4_readFact_X4_readFact rfl rfl rfl (by decide +kernel) ⟨Nat.le_of_ble_eq_true rfl, Nat.le_of_ble_eq_true rfl⟩) (hp_preV hG hw hp0 rfl trivial) rfl rfl hl.1 rfl (lv_room (Nat.le_of_ble_eq_true rfl)) dX4_readFact_122 ⟨Nat.zero_le _, Nat.zero_le _⟩) hw (fun x122 st122 t122 H122 locs122 eh122 eg122 bx122 hw => ?_)
            have J142 : ∀ (y142_s0 : Int32), iv y142_s0 0 1 → ∀ (H : Heap) (locs : List Loc), hp_w D T s H locs → ∀ (ls : Array Slot), lv_has ls 5 [] → WX4_readFact_2 p l e s m below meth c D T ap0 xp1 H locs (F0 m 142 ls [.int y142_s0]) := by
              intro y142_s0 c142_y142_s0 H142 locs142 hw ls hl
              exact W.zret (v := y142_s0) hx hb hr (iv_nz c142_y142_s0) (fun t ht hW => ⟨some (.int y142_s0), rfl, ⟨y142_s0, rfl, c142_y142_s0⟩, by rw [ht]; exact hw.1, hw.2.F ht⟩) hw.2.2.2 dX4_readFact_142
            have J141 : ∀ (H : Heap) (locs : List Loc), hp_w D T s H locs → ∀ (ls : Array Slot), lv_has ls 5 [] → WX4_readFact_2 p l e s m below meth c D T ap0 xp1 H locs (F0 m 141 ls []) := by
              intro H141 locs141 hw ls hl
              refine lv_iconst (v := 0) hx hb dX4_readFact_141 (by decide) ?_
              exact J142 (0 : Int32) (show iv 0 0 1 from ⟨by decide, by decide⟩) H141 locs141 hw _ (lv_sub hl [] rfl)
            refine lv_if_eq (tgt := 141) hx hb dX4_readFact_125 (by decide) (fun c125 => ?_) (fun c125 => ?_)
            · have r125tp : iv x122 0 0 := (iv_both bx122 (iv_eq (show iv 0 0 0 from ⟨by decide, by decide⟩) c125)).mono (by decide) (by decide)
              exact J141 H122 locs122 hw _ (lv_sub hl [] rfl)
            · have r125fp : iv x122 1 1 := (iv_ne_lo c125 bx122 rfl).mono (by decide) (by decide)
              refine lv_aload_n hx hb dX4_readFact_128 rfl (lv_at hl 0 rfl) ?_
              refine lv_bipush (v := (-43)) hx hb dX4_readFact_129 (by decide) ?_
              refine hp_callei (va_runV (As := [.int (-43)]) (rest := []) ⟨hx, hb, hml, hown, hts⟩ (sX4_write l D T ap0 ((-43) : Int32) ip0) (cwV 1 hts gX4_readFact_X4_write rfl rfl rfl (by decide +kernel) ⟨Nat.le_of_ble_eq_true rfl, Nat.le_of_ble_eq_true rfl⟩) (hp_preV hG hw hp0 rfl trivial) rfl rfl hl.1 rfl (lv_room (Nat.le_of_ble_eq_true rfl)) dX4_readFact_131 ⟨Nat.zero_le _, Nat.zero_le _⟩) hw (fun x131 st131 t131 H131 locs131 eh131 eg131 bx131 hw => ?_)
              refine lv_if_eq (tgt := 141) hx hb dX4_readFact_134 (by decide) (fun c134 => ?_) (fun c134 => ?_)
              · exact iv_abs2 c134 bx131 (show iv 0 0 0 from ⟨by decide, by decide⟩) (by decide)
              · refine lv_iconst (v := 1) hx hb dX4_readFact_137 (by decide) ?_
                refine lv_goto (tgt := 142) hx hb dX4_readFact_138 (by decide) ?_
                exact J142 (1 : Int32) (show iv 1 0 1 from ⟨by decide, by decide⟩) H131 locs131 hw _ (lv_sub hl [] rfl)
        · exact iv_abs (iv_le_l (iv_nlt c95) (show iv 10 10 10 from ⟨by decide, by decide⟩) c92_xp1) (by decide)
      refine lv_if_ne (tgt := 92) hx hb dX4_readFact_43 (by decide) (fun c43 => ?_) (fun c43 => ?_)
      · have r43tp : iv y18_s0 1 1 := (iv_ne_lo c43 c41_y18_s0 rfl).mono (by decide) (by decide)
        exact J92 c41_xp1 c41_y41_s0 H41 locs41 hw _ (lv_sub hl [1, 2, 0] rfl)
      · have r43fp : iv y18_s0 0 0 := (iv_both c41_y18_s0 (iv_eq (show iv 0 0 0 from ⟨by decide, by decide⟩) c43)).mono (by decide) (by decide)
        refine lv_iload_n hx hb dX4_readFact_46 rfl (lv_at hl 0 rfl) ?_
        refine lv_if_ne (tgt := 92) hx hb dX4_readFact_47 (by decide) (fun c47 => ?_) (fun c47 => ?_)
        · have r47tp : iv y41_s0 1 1 := (iv_ne_lo c47 c41_y41_s0 rfl).mono (by decide) (by decide)
          exact J92 c41_xp1 (r47tp.mono (by decide) (by decide)) H41 locs41 hw _ (lv_sub hl [1, 2, 0] rfl)
        · have r47fp : iv y41_s0 0 0 := (iv_both c41_y41_s0 (iv_eq (show iv 0 0 0 from ⟨by decide, by decide⟩) c47)).mono (by decide) (by decide)
          refine lv_aload_n hx hb dX4_readFact_50 rfl (lv_at hl 1 rfl) ?_
          refine hp_callei (va_runV (As := []) (rest := []) ⟨hx, hb, hml, hown, hts⟩ (sX4_readSum l D T ap0 ip0) (cwV 0 hts gX4_readFact_X4_readSum rfl rfl rfl (by decide +kernel) ⟨Nat.le_of_ble_eq_true rfl, Nat.le_of_ble_eq_true rfl⟩) (hp_preV hG hw hp0 rfl trivial) rfl rfl hl.1 rfl (lv_room (Nat.le_of_ble_eq_true rfl)) dX4_readFact_51 ⟨Nat.zero_le _, Nat.zero_le _⟩) hw (fun x51 st51 t51 H51 locs51 eh51 eg51 bx51 hw => ?_)
          refine lv_if_ne (tgt := 59) hx hb dX4_readFact_54 (by decide) (fun c54 => ?_) (fun c54 => ?_)
          · have r54tp : iv x51 1 1 := (iv_ne_lo c54 bx51 rfl).mono (by decide) (by decide)
            refine lv_aload_n hx hb dX4_readFact_59 rfl (lv_at hl 1 rfl) ?_
            refine hp_callei (va_runV (As := []) (rest := []) ⟨hx, hb, hml, hown, hts⟩ (sX4_readSign l D T ap0 ip0) (cwV 0 hts gX4_readFact_X4_readSign rfl rfl rfl (by decide +kernel) ⟨Nat.le_of_ble_eq_true rfl, Nat.le_of_ble_eq_true rfl⟩) (hp_preV hG hw hp0 rfl trivial) rfl rfl hl.1 rfl (lv_room (Nat.le_of_ble_eq_true rfl)) dX4_readFact_60 ⟨Nat.zero_le _, Nat.zero_le _⟩) hw (fun x60 st60 t60 H60 locs60 eh60 eg60 bx60 hw => ?_)
            refine lv_istore (lv' := [(4, .int x60), (3, .int y41_s0), (0, .ref ap0), (1, .int xp1), (2, .int y18_s0)]) hx hb dX4_readFact_63 hl (by decide) rfl (fun ls hl => ?_)
            refine lv_iload hx hb dX4_readFact_65 (lv_at hl 0 rfl) ?_
            have J91 : ∀ (y91_s0 : Int32), iv y91_s0 0 1 → ∀ (H : Heap) (locs : List Loc), hp_w D T s H locs → ∀ (ls : Array Slot), lv_has ls 5 [] → WX4_readFact_2 p l e s m below meth c D T ap0 xp1 H locs (F0 m 91 ls [.int y91_s0]) := by
              intro y91_s0 c91_y91_s0 H91 locs91 hw ls hl
              exact W.zret (v := y91_s0) hx hb hr (iv_nz c91_y91_s0) (fun t ht hW => ⟨some (.int y91_s0), rfl, ⟨y91_s0, rfl, c91_y91_s0⟩, by rw [ht]; exact hw.1, hw.2.F ht⟩) hw.2.2.2 dX4_readFact_91
            have J90 : ∀ (H : Heap) (locs : List Loc), hp_w D T s H locs → ∀ (ls : Array Slot), lv_has ls 5 [] → WX4_readFact_2 p l e s m below meth c D T ap0 xp1 H locs (F0 m 90 ls []) := by
              intro H90 locs90 hw ls hl
              refine lv_iconst (v := 0) hx hb dX4_readFact_90 (by decide) ?_
              exact J91 (0 : Int32) (show iv 0 0 1 from ⟨by decide, by decide⟩) H90 locs90 hw _ (lv_sub hl [] rfl)
            refine lv_if_eq (tgt := 90) hx hb dX4_readFact_67 (by decide) (fun c67 => ?_) (fun c67 => ?_)
            · have r67tp : iv x60 0 0 := (iv_both (iv_any x60) (iv_eq (show iv 0 0 0 from ⟨by decide, by decide⟩) c67)).mono (by decide) (by decide)
              exact J90 H60 locs60 hw _ (lv_sub hl [] rfl)
            · refine lv_aload_n hx hb dX4_readFact_70 rfl (lv_at hl 2 rfl) ?_
              refine hp_callei (va_runV (As := []) (rest := []) ⟨hx, hb, hml, hown, hts⟩ (sX4_readSum l D T ap0 ip0) (cwV 0 hts gX4_readFact_X4_readSum rfl rfl rfl (by decide +kernel) ⟨Nat.le_of_ble_eq_true rfl, Nat.le_of_ble_eq_true rfl⟩) (hp_preV hG hw hp0 rfl trivial) rfl rfl hl.1 rfl (lv_room (Nat.le_of_ble_eq_true rfl)) dX4_readFact_71 ⟨Nat.zero_le _, Nat.zero_le _⟩) hw (fun x71 st71 t71 H71 locs71 eh71 eg71 bx71 hw => ?_)
              refine lv_if_eq (tgt := 90) hx hb dX4_readFact_74 (by decide) (fun c74 => ?_) (fun c74 => ?_)
              · have r74tp : iv x71 0 0 := (iv_both bx71 (iv_eq (show iv 0 0 0 from ⟨by decide, by decide⟩) c74)).mono (by decide) (by decide)
                exact J90 H71 locs71 hw _ (lv_sub hl [] rfl)
              · have r74fp : iv x71 1 1 := (iv_ne_lo c74 bx71 rfl).mono (by decide) (by decide)
                refine lv_aload_n hx hb dX4_readFact_77 rfl (lv_at hl 2 rfl) ?_
                refine lv_iload hx hb dX4_readFact_78 (lv_at hl 0 rfl) ?_
                refine hp_callei (va_runV (As := [.int x60]) (rest := []) ⟨hx, hb, hml, hown, hts⟩ (sX4_write l D T ap0 x60 ip0) (cwV 1 hts gX4_readFact_X4_write rfl rfl rfl (by decide +kernel) ⟨Nat.le_of_ble_eq_true rfl, Nat.le_of_ble_eq_true rfl⟩) (hp_preV hG hw hp0 rfl trivial) rfl rfl hl.1 rfl (lv_room (Nat.le_of_ble_eq_true rfl)) dX4_readFact_80 ⟨Nat.zero_le _, Nat.zero_le _⟩) hw (fun x80 st80 t80 H80 locs80 eh80 eg80 bx80 hw => ?_)
                refine lv_if_eq (tgt := 90) hx hb dX4_readFact_83 (by decide) (fun c83 => ?_) (fun c83 => ?_)
                · exact iv_abs2 c83 bx80 (show iv 0 0 0 from ⟨by decide, by decide⟩) (by decide)
                · refine lv_iconst (v := 1) hx hb dX4_readFact_86 (by decide) ?_
                  refine lv_goto (tgt := 91) hx hb dX4_readFact_87 (by decide) ?_
                  exact J91 (1 : Int32) (show iv 1 0 1 from ⟨by decide, by decide⟩) H80 locs80 hw _ (lv_sub hl [] rfl)
          · have r54fp : iv x51 0 0 := (iv_both bx51 (iv_eq (show iv 0 0 0 from ⟨by decide, by decide⟩) c54)).mono (by decide) (by decide)
            refine lv_iconst (v := 0) hx hb dX4_readFact_57 (by decide) ?_
            exact W.zret (v := 0) hx hb hr (iv_nz (show iv 0 0 1 from ⟨by decide, by decide⟩)) (fun t ht hW => ⟨some (.int 0), rfl, ⟨(0 : Int32), rfl, (show iv 0 0 1 from ⟨by decide, by decide⟩)⟩, by rw [ht]; exact hw.1, hw.2.F ht⟩) hw.2.2.2 dX4_readFact_58
    have J40 : iv xp1 2 2 → iv y18_s0 0 1 → ∀ (H : Heap) (locs : List Loc), hp_w D T s H locs → ∀ (ls : Array Slot), lv_has ls 5 [(0, .ref ap0), (1, .int xp1), (2, .int y18_s0)] → WX4_readFact_2 p l e s m below meth c D T ap0 xp1 H locs (F0 m 40 ls []) := by
      intro c40_xp1 c40_y18_s0 H40 locs40 hw ls hl
      refine lv_iconst (v := 0) hx hb dX4_readFact_40 (by decide) ?_
      exact J41 (0 : Int32) c40_xp1 c40_y18_s0 (show iv 0 0 1 from ⟨by decide, by decide⟩) H40 locs40 hw _ (lv_sub hl [0, 1, 2] rfl)
    refine lv_if_ne (tgt := 40) hx hb dX4_readFact_20 (by decide) (fun c20 => ?_) (fun c20 => ?_)
    · have r20tp : iv y18_s0 1 1 := (iv_ne_lo c20 c18_y18_s0 rfl).mono (by decide) (by decide)
      exact J40 c18_xp1 (r20tp.mono (by decide) (by decide)) H18 locs18 hw _ (lv_sub hl [1, 2, 0] rfl)
    · have r20fp : iv y18_s0 0 0 := (iv_both c18_y18_s0 (iv_eq (show iv 0 0 0 from ⟨by decide, by decide⟩) c20)).mono (by decide) (by decide)
      refine lv_aload_n hx hb dX4_readFact_23 rfl (lv_at hl 1 rfl) ?_
      refine hp_getr hx hb hts IX4 hown hK hw.1 hp0 rfl 0 (by decide) L26 rfl dX4_readFact_24 ?_
      refine va_ldcS hx hb hown hG.2.2.1.2.2.2.2.2.2.2.2.2.1 dX4_readFact_27 ?_
      refine hp_callei (va_runV (As := [.ref (D.2.2.1 9)]) (rest := []) ⟨hx, hb, hml, hown, hts⟩ (sX7_takeWord l D T ap0tp 9 ip0tp (by decide)) (cwV 1 hts gX4_readFact_X7_takeWord rfl rfl rfl (by decide +kernel) ⟨Nat.le_of_ble_eq_true rfl, Nat.le_of_ble_eq_true rfl⟩) (hp_preV hG hw hp0tp rfl trivial) rfl rfl hl.1 rfl (lv_room (Nat.le_of_ble_eq_true rfl)) dX4_readFact_29 ⟨Nat.zero_le _, Nat.zero_le _⟩) hw (fun x29 st29 t29 H29 locs29 eh29 eg29 bx29 hw => ?_)
      refine lv_iconst (v := (-1)) hx hb dX4_readFact_32 (by decide) ?_
      refine lv_icmp_eq (tgt := 40) hx hb dX4_readFact_33 (by decide) (fun c33 => ?_) (fun c33 => ?_)
      · have r33tp : iv x29 (-1) (-1) := (iv_both (iv_any x29) (iv_eq (show iv (-1) (-1) (-1) from ⟨by decide, by decide⟩) c33)).mono (by decide) (by decide)
        exact J40 c18_xp1 (r20fp.mono (by decide) (by decide)) H29 locs29 hw _ (lv_sub hl [1, 2, 0] rfl)
      · refine lv_iconst (v := 1) hx hb dX4_readFact_36 (by decide) ?_
        refine lv_goto (tgt := 41) hx hb dX4_readFact_37 (by decide) ?_
        exact J41 (1 : Int32) c18_xp1 (r20fp.mono (by decide) (by decide)) (show iv 1 0 1 from ⟨by decide, by decide⟩) H29 locs29 hw _ (lv_sub hl [1, 2, 0] rfl)
  refine lv_icmp_eq (tgt := 17) hx hb dX4_readFact_10 (by decide) (fun c10 => ?_) (fun c10 => ?_)
  · have r10tp : iv x6 (-1) (-1) := (iv_both (iv_any x6) (iv_eq (show iv (-1) (-1) (-1) from ⟨by decide, by decide⟩) c10)).mono (by decide) (by decide)
    refine lv_iconst (v := 0) hx hb dX4_readFact_17 (by decide) ?_
    exact J18 (0 : Int32) bp1 (show iv 0 0 1 from ⟨by decide, by decide⟩) H6 locs6 hw _ (lv_sub hl [0, 1] rfl)
  · refine lv_iconst (v := 1) hx hb dX4_readFact_13 (by decide) ?_
    refine lv_goto (tgt := 18) hx hb dX4_readFact_14 (by decide) ?_
    exact J18 (1 : Int32) bp1 (show iv 1 0 1 from ⟨by decide, by decide⟩) H6 locs6 hw _ (lv_sub hl [0, 1] rfl)
abbrev WX4_readTest_2 (p : Program) (l : Launch) (e : Env) (s : State) (m : MethodId) (below : List Frame) (meth : Method) (c : Code) (D : hp_D) (T : hp_T) (ap0 : Nat) (xp1 : Int32) (H : Heap) (locs : List Loc) (g : JFrame) : Prop := W p l e (headSpec wsX4_readTest ({ frames := 24, cells := 0, slots := 0, locals := 591 })).room s m ([.ref ap0, .int xp1] : List Value).toArray below meth c H locs 0 0 (MQ below (hq_e D T (fun v _ _ => ∃ r : Int32, v = some (.int r) ∧ iv r 0 1)) ([.ref ap0, .int xp1] : List Value).toArray s 0 0 (hp_F T)) g
set_option maxHeartbeats 4000000 in
set_option maxRecDepth 100000 in
theorem sX4_readTest_2 (l : Launch) (D : hp_D) (T : hp_T) (ap0 : Nat) (xp1 : Int32) (ip0 : isRuleReader T ap0) (bp1 : iv xp1 2 2) : Met l yX4_readTest wsX4_readTest ({ frames := 24, cells := 0, slots := 0, locals := 591 }) (hp_Pc D T [.ref ap0, .int xp1] (fun _ => True)) (hq_e D T (fun v _ _ => ∃ r : Int32, v = some (.int r) ∧ iv r 0 1)) 0 0 (hp_F T) := by
  obtain ⟨ap0tp, ap0stp, hp0, ip0tp, hp0stp⟩ := id ip0
  obtain ⟨ap0tpbt, hp0tp, hp0tpbt⟩ := id ip0tp
  refine Met.ofW (cc := cX4_readTest) (maxL := 6) (ret := (some .boolean)) (by decide) rfl ?_
  intro p e s m args below meth c s₁ B hml hv
  obtain ⟨rfl, hok, hG, hB⟩ := hv
  have hx := B.exec
  have hb := B.bytes
  have hr := B.returns
  have hts := atoms_spec (ws := wsX4_readTest) B.pre
  have hown : s.vm.findClass RX4 = some m.cls := findClass_of_methodNamed B.named
  have hlocks := B.notSynchronized
  have hK := hG.1
  have hw : hp_w D T s s.heap [] := hp_w.rf hok
  have IX4 : ∀ w ∈ wsX40, w ∈ wsX4_readTest := by decide +kernel
  have L26 := hts (.fieldLink RX4 26 "PalmCensus$RuleReader" "tape" "LPalmCensus$Tape;") (by decide +kernel)
  have hl := lv_entry ([.ref ap0, .int xp1]) (n := 6) (Nat.le_of_ble_eq_true rfl)
  rw [lg_entry_eq]
  generalize (lg_sl ([.ref ap0, .int xp1]) ++ List.replicate (6 - (lg_sl ([.ref ap0, .int xp1])).length) Slot.unset).toArray = ls at hl ⊢
  have hl : lv_has ls 6 [(0, .ref ap0), (1, .int xp1)] := hl
  show WX4_readTest_2 p l e s m below meth c D T ap0 xp1 s.heap [] (F0 m 0 ls [])
  refine lv_aload_n hx hb dX4_readTest_0 rfl (lv_at hl 0 rfl) ?_
  refine lv_iload_n hx hb dX4_readTest_1 rfl (lv_at hl 1 rfl) ?_
  refine hp_callei (va_runV (As := [.int xp1]) (rest := []) ⟨hx, hb, hml, hown, hts⟩ (sX4_readFact_2 l D T ap0 xp1 ip0 bp1) (cwV 1 hts gX4_readTest_X4_readFact rfl rfl rfl (by decide +kernel) ⟨Nat.le_of_ble_eq_true rfl, Nat.le_of_ble_eq_true rfl⟩) (hp_preV hG hw hp0 rfl trivial) rfl rfl hl.1 rfl (lv_room (Nat.le_of_ble_eq_true rfl)) dX4_readTest_2 ⟨Nat.zero_le _, Nat.zero_le _⟩) hw (fun x2 st2 t2 H2 locs2 eh2 eg2 bx2 hw => ?_)
  refine lv_if_ne (tgt := 10) hx hb dX4_readTest_5 (by decide) (fun c5 => ?_) (fun c5 => ?_)
  · have r5tp : iv x2 1 1 := (iv_ne_lo c5 bx2 rfl).mono (by decide) (by decide)
    refine lv_iconst (v := 0) hx hb dX4_readTest_10 (by decide) ?_
    refine lv_istore_n (lv' := [(2, .int 0), (0, .ref ap0), (1, .int xp1)]) hx hb dX4_readTest_11 rfl hl (by decide) rfl (fun ls hl => ?_)
    refine lv_iconst (v := 0) hx hb dX4_readTest_12 (by decide) ?_
    refine lv_istore_n (lv' := [(3, .int 0), (2, .int 0), (0, .ref ap0), (1, .int xp1)]) hx hb dX4_readTest_13 rfl hl (by decide) rfl (fun ls hl => ?_)
    have J14 : ∀ (n : Nat) (y14_l2 y14_l3 : Int32), (400 - y14_l3.toInt).toNat < n → iv xp1 2 2 → iv y14_l2 0 1 → iv y14_l3 0 400 → ∀ (H : Heap) (locs : List Loc), hp_w D T s H locs → ∀ (ls : Array Slot), lv_has ls 6 [(0, .ref ap0), (1, .int xp1), (2, .int y14_l2), (3, .int y14_l3)] → WX4_readTest_2 p l e s m below meth c D T ap0 xp1 H locs (F0 m 14 ls []) := by
      intro n
      induction n with
      | zero => intro y14_l2 y14_l3 hmu14 c14_xp1 c14_y14_l2 c14_y14_l3 H14 locs14 hw ls hl; exact absurd hmu14 (Nat.not_lt_zero _)
      | succ n ih14 =>
        intro y14_l2 y14_l3 hmu14 c14_xp1 c14_y14_l2 c14_y14_l3 H14 locs14 hw ls hl
        refine lv_iload_n hx hb dX4_readTest_14 rfl (lv_at hl 3 rfl) ?_
        refine lv_sipush (v := 400) hx hb dX4_readTest_15 (by decide) ?_
        have J103 : iv y14_l2 0 1 → ∀ (H : Heap) (locs : List Loc), hp_w D T s H locs → ∀ (ls : Array Slot), lv_has ls 6 [(0, .ref ap0), (2, .int y14_l2)] → WX4_readTest_2 p l e s m below meth c D T ap0 xp1 H locs (F0 m 103 ls []) := by
          intro c103_y14_l2 H103 locs103 hw ls hl
          refine lv_iload_n hx hb dX4_readTest_103 rfl (lv_at hl 1 rfl) ?_
          have J121 : ∀ (H : Heap) (locs : List Loc), hp_w D T s H locs → ∀ (ls : Array Slot), lv_has ls 6 [] → WX4_readTest_2 p l e s m below meth c D T ap0 xp1 H locs (F0 m 121 ls [.int 1]) := by
            intro H121 locs121 hw ls hl
            exact W.zret (v := 1) hx hb hr (iv_nz (show iv 1 0 1 from ⟨by decide, by decide⟩)) (fun t ht hW => ⟨some (.int 1), rfl, ⟨(1 : Int32), rfl, (show iv 1 0 1 from ⟨by decide, by decide⟩)⟩, by rw [ht]; exact hw.1, hw.2.F ht⟩) hw.2.2.2 dX4_readTest_121
          have J116 : ∀ (H : Heap) (locs : List Loc), hp_w D T s H locs → ∀ (ls : Array Slot), lv_has ls 6 [] → WX4_readTest_2 p l e s m below meth c D T ap0 xp1 H locs (F0 m 116 ls []) := by
            intro H116 locs116 hw ls hl
            refine lv_iconst (v := 1) hx hb dX4_readTest_116 (by decide) ?_
            refine lv_goto (tgt := 121) hx hb dX4_readTest_117 (by decide) ?_
            exact J121 H116 locs116 hw _ (lv_sub hl [] rfl)
          refine lv_if_eq (tgt := 116) hx hb dX4_readTest_104 (by decide) (fun c104 => ?_) (fun c104 => ?_)
          · have r104tp : iv y14_l2 0 0 := (iv_both c103_y14_l2 (iv_eq (show iv 0 0 0 from ⟨by decide, by decide⟩) c104)).mono (by decide) (by decide)
            exact J116 H103 locs103 hw _ (lv_sub hl [] rfl)
          · have r104fp : iv y14_l2 1 1 := (iv_ne_lo c104 c103_y14_l2 rfl).mono (by decide) (by decide)
            refine lv_aload_n hx hb dX4_readTest_107 rfl (lv_at hl 0 rfl) ?_
            refine lv_bipush (v := (-42)) hx hb dX4_readTest_108 (by decide) ?_
            refine hp_callei (va_runV (As := [.int (-42)]) (rest := []) ⟨hx, hb, hml, hown, hts⟩ (sX4_write l D T ap0 ((-42) : Int32) ip0) (cwV 1 hts gX4_readTest_X4_write rfl rfl rfl (by decide +kernel) ⟨Nat.le_of_ble_eq_true rfl, Nat.le_of_ble_eq_true rfl⟩) (hp_preV hG hw hp0 rfl trivial) rfl rfl hl.1 rfl (lv_room (Nat.le_of_ble_eq_true rfl)) dX4_readTest_110 ⟨Nat.zero_le _, Nat.zero_le _⟩) hw (fun x110 st110 t110 H110 locs110 eh110 eg110 bx110 hw => ?_)
            refine lv_if_eq (tgt := 120) hx hb dX4_readTest_113 (by decide) (fun c113 => ?_) (fun c113 => ?_)
            · exact iv_abs2 c113 bx110 (show iv 0 0 0 from ⟨by decide, by decide⟩) (by decide)
            · exact J116 H110 locs110 hw _ (lv_sub hl [] rfl)
        refine lv_icmp_ge (tgt := 103) hx hb dX4_readTest_18 (by decide) (fun c18 => ?_) (fun c18 => ?_)
        · have r18tq : iv y14_l3 400 400 := (iv_le_r c18 (show iv 400 400 400 from ⟨by decide, by decide⟩) c14_y14_l3).mono (by decide) (by decide)
          exact J103 c14_y14_l2 H14 locs14 hw _ (lv_sub hl [0, 2] rfl)
        · have r18fp : iv y14_l3 0 399 := (iv_lt_l (iv_nle c18) c14_y14_l3 (show iv 400 400 400 from ⟨by decide, by decide⟩)).mono (by decide) (by decide)
          refine lv_aload_n hx hb dX4_readTest_21 rfl (lv_at hl 0 rfl) ?_
          refine hp_getr hx hb hts IX4 hown hK hw.1 hp0 rfl 0 (by decide) L26 rfl dX4_readTest_22 ?_
          refine va_ldcS hx hb hown hG.2.2.1.2.2.2.2.2.2.2.1 dX4_readTest_25 ?_
          refine hp_callei (va_runV (As := [.ref (D.2.2.1 7)]) (rest := []) ⟨hx, hb, hml, hown, hts⟩ (sX7_takeWord l D T ap0tp 7 ip0tp (by decide)) (cwV 1 hts gX4_readTest_X7_takeWord rfl rfl rfl (by decide +kernel) ⟨Nat.le_of_ble_eq_true rfl, Nat.le_of_ble_eq_true rfl⟩) (hp_preV hG hw hp0tp rfl trivial) rfl rfl hl.1 rfl (lv_room (Nat.le_of_ble_eq_true rfl)) dX4_readTest_27 ⟨Nat.zero_le _, Nat.zero_le _⟩) hw (fun x27 st27 t27 H27 locs27 eh27 eg27 bx27 hw => ?_)
          refine lv_istore (lv' := [(4, .int x27), (0, .ref ap0), (1, .int xp1), (2, .int y14_l2), (3, .int y14_l3)]) hx hb dX4_readTest_30 hl (by decide) rfl (fun ls hl => ?_)
          refine lv_iload hx hb dX4_readTest_32 (lv_at hl 0 rfl) ?_
          refine lv_iconst (v := (-1)) hx hb dX4_readTest_34 (by decide) ?_
          refine lv_icmp_ne (tgt := 41) hx hb dX4_readTest_35 (by decide) (fun c35 => ?_) (fun c35 => ?_)
          · refine lv_iload hx hb dX4_readTest_41 (lv_at hl 0 rfl) ?_
            refine lv_iconst (v := 1) hx hb dX4_readTest_43 (by decide) ?_
            have J52 : ∀ (y52_s0 : Int32), iv xp1 2 2 → iv y14_l2 0 1 → iv y14_l3 0 399 → iv y52_s0 0 1 → ∀ (H : Heap) (locs : List Loc), hp_w D T s H locs → ∀ (ls : Array Slot), lv_has ls 6 [(0, .ref ap0), (1, .int xp1), (2, .int y14_l2), (3, .int y14_l3)] → WX4_readTest_2 p l e s m below meth c D T ap0 xp1 H locs (F0 m 52 ls [.int y52_s0]) := by
              intro y52_s0 c52_xp1 c52_y14_l2 c52_y14_l3 c52_y52_s0 H52 locs52 hw ls hl
              refine lv_istore (lv' := [(5, .int y52_s0), (0, .ref ap0), (1, .int xp1), (2, .int y14_l2), (3, .int y14_l3)]) hx hb dX4_readTest_52 hl (by decide) rfl (fun ls hl => ?_)
              refine lv_iload hx hb dX4_readTest_54 (lv_at hl 0 rfl) ?_
              have J70 : iv xp1 2 2 → iv y14_l2 0 1 → iv y14_l3 0 399 → iv y52_s0 0 1 → ∀ (H : Heap) (locs : List Loc), hp_w D T s H locs → ∀ (ls : Array Slot), lv_has ls 6 [(0, .ref ap0), (1, .int xp1), (2, .int y14_l2), (3, .int y14_l3), (5, .int y52_s0)] → WX4_readTest_2 p l e s m below meth c D T ap0 xp1 H locs (F0 m 70 ls []) := by
                intro c70_xp1 c70_y14_l2 c70_y14_l3 c70_y52_s0 H70 locs70 hw ls hl
                refine lv_iload_n hx hb dX4_readTest_70 rfl (lv_at hl 2 rfl) ?_
                refine lv_iload hx hb dX4_readTest_71 (lv_at hl 4 rfl) ?_
                refine lv_ior hx hb dX4_readTest_73 ?_
                refine lv_topi (fun x73 ex73 => ?_)
                have bx73 : iv x73 0 1 := iv_or 1 c70_y14_l2 c70_y52_s0 ex73 (by decide) (by decide)
                refine lv_istore_n (lv' := [(2, .int x73), (0, .ref ap0), (1, .int xp1), (3, .int y14_l3), (5, .int y52_s0)]) hx hb dX4_readTest_74 rfl hl (by decide) rfl (fun ls hl => ?_)
                refine lv_aload_n hx hb dX4_readTest_75 rfl (lv_at hl 1 rfl) ?_
                refine lv_iload_n hx hb dX4_readTest_76 rfl (lv_at hl 2 rfl) ?_
                refine hp_callei (va_runV (As := [.int xp1]) (rest := []) ⟨hx, hb, hml, hown, hts⟩ (sX4_readFact_2 l D T ap0 xp1 ip0 c70_xp1) (cwV 1 hts gX4_readTest_X4_readFact rfl rfl rfl (by decide +kernel) ⟨Nat.le_of_ble_eq_true rfl, Nat.le_of_ble_eq_true rfl⟩) (hp_preV hG hw hp0 rfl trivial) rfl rfl hl.1 rfl (lv_room (Nat.le_of_ble_eq_true rfl)) dX4_readTest_77 ⟨Nat.zero_le _, Nat.zero_le _⟩) hw (fun x77 st77 t77 H77 locs77 eh77 eg77 bx77 hw => ?_)
                refine lv_if_ne (tgt := 85) hx hb dX4_readTest_80 (by decide) (fun c80 => ?_) (fun c80 => ?_)
                · have r80tp : iv x77 1 1 := (iv_ne_lo c80 bx77 rfl).mono (by decide) (by decide)
                  refine lv_iload hx hb dX4_readTest_85 (lv_at hl 4 rfl) ?_
                  have J97 : iv xp1 2 2 → iv x73 0 1 → iv y14_l3 0 399 → ∀ (H : Heap) (locs : List Loc), hp_w D T s H locs → ∀ (ls : Array Slot), lv_has ls 6 [(0, .ref ap0), (1, .int xp1), (2, .int x73), (3, .int y14_l3)] → WX4_readTest_2 p l e s m below meth c D T ap0 xp1 H locs (F0 m 97 ls []) := by
                    intro c97_xp1 c97_x73 c97_y14_l3 H97 locs97 hw ls hl
                    obtain ⟨x97, ex97⟩ : ∃ y : Int32, y = y14_l3 + 1 := ⟨_, rfl⟩
                    have bx97 : iv x97 1 400 := iv_add c97_y14_l3 (show iv 1 1 1 from ⟨by decide, by decide⟩) ex97 (by decide)
                    have qx97 := iv_add_eq c97_y14_l3 (show iv 1 1 1 from ⟨by decide, by decide⟩) ex97 (by decide)
                    refine lv_iinc (v := x97) (lv' := [(3, .int x97), (0, .ref ap0), (1, .int xp1), (2, .int x73)]) hx hb dX4_readTest_97 hl (k := 3) rfl (by rw [ex97]; rfl) (by decide) rfl (fun ls hl => ?_)
                    refine lv_goto (tgt := 14) hx hb dX4_readTest_100 (by decide) ?_
                    exact ih14 x73 x97 (mu_up 1 hmu14 (qx97) (by decide) (show iv x97 0 400 from (bx97.mono (by decide) (by decide))).2) c97_xp1 c97_x73 (bx97.mono (by decide) (by decide)) H97 locs97 hw _ (lv_sub hl [1, 2, 3, 0] rfl)
                  refine lv_if_ne (tgt := 97) hx hb dX4_readTest_87 (by decide) (fun c87 => ?_) (fun c87 => ?_)
                  · have r87tp : iv y52_s0 1 1 := (iv_ne_lo c87 c70_y52_s0 rfl).mono (by decide) (by decide)
                    exact J97 c70_xp1 bx73 c70_y14_l3 H77 locs77 hw _ (lv_sub hl [1, 2, 0, 3] rfl)
                  · have r87fp : iv y52_s0 0 0 := (iv_both c70_y52_s0 (iv_eq (show iv 0 0 0 from ⟨by decide, by decide⟩) c87)).mono (by decide) (by decide)
                    refine lv_aload_n hx hb dX4_readTest_90 rfl (lv_at hl 1 rfl) ?_
                    refine lv_bipush (v := (-41)) hx hb dX4_readTest_91 (by decide) ?_
                    refine hp_callei (va_runV (As := [.int (-41)]) (rest := []) ⟨hx, hb, hml, hown, hts⟩ (sX4_write l D T ap0 ((-41) : Int32) ip0) (cwV 1 hts gX4_readTest_X4_write rfl rfl rfl (by decide +kernel) ⟨Nat.le_of_ble_eq_true rfl, Nat.le_of_ble_eq_true rfl⟩) (hp_preV hG hw hp0 rfl trivial) rfl rfl hl.1 rfl (lv_room (Nat.le_of_ble_eq_true rfl)) dX4_readTest_93 ⟨Nat.zero_le _, Nat.zero_le _⟩) hw (fun x93 st93 t93 H93 locs93 eh93 eg93 bx93 hw => ?_)
                    refine lv_pop hx hb dX4_readTest_96 rfl ?_
                    exact J97 c70_xp1 bx73 c70_y14_l3 H93 locs93 hw _ (lv_sub hl [1, 2, 0, 3] rfl)
                · have r80fp : iv x77 0 0 := (iv_both bx77 (iv_eq (show iv 0 0 0 from ⟨by decide, by decide⟩) c80)).mono (by decide) (by decide)
                  refine lv_iconst (v := 0) hx hb dX4_readTest_83 (by decide) ?_
                  exact W.zret (v := 0) hx hb hr (iv_nz (show iv 0 0 1 from ⟨by decide, by decide⟩)) (fun t ht hW => ⟨some (.int 0), rfl, ⟨(0 : Int32), rfl, (show iv 0 0 1 from ⟨by decide, by decide⟩)⟩, by rw [ht]; exact hw.1, hw.2.F ht⟩) hw.2.2.2 dX4_readTest_84
              refine lv_if_eq (tgt := 70) hx hb dX4_readTest_56 (by decide) (fun c56 => ?_) (fun c56 => ?_)
              · have r56tp : iv y52_s0 0 0 := (iv_both c52_y52_s0 (iv_eq (show iv 0 0 0 from ⟨by decide, by decide⟩) c56)).mono (by decide) (by decide)
                exact J70 c52_xp1 c52_y14_l2 c52_y14_l3 (r56tp.mono (by decide) (by decide)) H52 locs52 hw _ (lv_sub hl [1, 2, 3, 4, 0] rfl)
              · have r56fp : iv y52_s0 1 1 := (iv_ne_lo c56 c52_y52_s0 rfl).mono (by decide) (by decide)
                refine lv_iload_n hx hb dX4_readTest_59 rfl (lv_at hl 3 rfl) ?_
                refine lv_if_eq (tgt := 70) hx hb dX4_readTest_60 (by decide) (fun c60 => ?_) (fun c60 => ?_)
                · have r60tp : iv y14_l2 0 0 := (iv_both c52_y14_l2 (iv_eq (show iv 0 0 0 from ⟨by decide, by decide⟩) c60)).mono (by decide) (by decide)
                  exact J70 c52_xp1 (r60tp.mono (by decide) (by decide)) c52_y14_l3 (r56fp.mono (by decide) (by decide)) H52 locs52 hw _ (lv_sub hl [1, 2, 3, 4, 0] rfl)
                · have r60fp : iv y14_l2 1 1 := (iv_ne_lo c60 c52_y14_l2 rfl).mono (by decide) (by decide)
                  refine lv_aload_n hx hb dX4_readTest_63 rfl (lv_at hl 1 rfl) ?_
                  refine lv_bipush (v := (-42)) hx hb dX4_readTest_64 (by decide) ?_
                  refine hp_callei (va_runV (As := [.int (-42)]) (rest := []) ⟨hx, hb, hml, hown, hts⟩ (sX4_write l D T ap0 ((-42) : Int32) ip0) (cwV 1 hts gX4_readTest_X4_write rfl rfl rfl (by decide +kernel) ⟨Nat.le_of_ble_eq_true rfl, Nat.le_of_ble_eq_true rfl⟩) (hp_preV hG hw hp0 rfl trivial) rfl rfl hl.1 rfl (lv_room (Nat.le_of_ble_eq_true rfl)) dX4_readTest_66 ⟨Nat.zero_le _, Nat.zero_le _⟩) hw (fun x66 st66 t66 H66 locs66 eh66 eg66 bx66 hw => ?_)
                  refine lv_pop hx hb dX4_readTest_69 rfl ?_
                  exact J70 c52_xp1 (r60fp.mono (by decide) (by decide)) c52_y14_l3 (r56fp.mono (by decide) (by decide)) H66 locs66 hw _ (lv_sub hl [1, 2, 3, 4, 0] rfl)
            refine lv_icmp_ne (tgt := 51) hx hb dX4_readTest_44 (by decide) (fun c44 => ?_) (fun c44 => ?_)
            · refine lv_iconst (v := 0) hx hb dX4_readTest_51 (by decide) ?_
              exact J52 (0 : Int32) c14_xp1 c14_y14_l2 r18fp (show iv 0 0 1 from ⟨by decide, by decide⟩) H27 locs27 hw _ (lv_sub hl [1, 2, 3, 4] rfl)
            · have r44fp : iv x27 1 1 := (iv_both (iv_any x27) (iv_eq (show iv 1 1 1 from ⟨by decide, by decide⟩) c44)).mono (by decide) (by decide)
              refine lv_iconst (v := 1) hx hb dX4_readTest_47 (by decide) ?_
              refine lv_goto (tgt := 52) hx hb dX4_readTest_48 (by decide) ?_
              exact J52 (1 : Int32) c14_xp1 c14_y14_l2 r18fp (show iv 1 0 1 from ⟨by decide, by decide⟩) H27 locs27 hw _ (lv_sub hl [1, 2, 3, 4] rfl)
          · have r35fp : iv x27 (-1) (-1) := (iv_both (iv_any x27) (iv_eq (show iv (-1) (-1) (-1) from ⟨by decide, by decide⟩) c35)).mono (by decide) (by decide)
            refine lv_goto (tgt := 103) hx hb dX4_readTest_38 (by decide) ?_
            exact J103 c14_y14_l2 H27 locs27 hw _ (lv_sub hl [1, 3] rfl)
    exact J14 _ (0 : Int32) (0 : Int32) (Nat.lt_succ_self _) bp1 (show iv 0 0 1 from ⟨by decide, by decide⟩) (show iv 0 0 400 from ⟨by decide, by decide⟩) H2 locs2 hw _ (lv_sub hl [2, 3, 1, 0] rfl)
  · have r5fp : iv x2 0 0 := (iv_both bx2 (iv_eq (show iv 0 0 0 from ⟨by decide, by decide⟩) c5)).mono (by decide) (by decide)
    refine lv_iconst (v := 0) hx hb dX4_readTest_8 (by decide) ?_
    exact W.zret (v := 0) hx hb hr (iv_nz (show iv 0 0 1 from ⟨by decide, by decide⟩)) (fun t ht hW => ⟨some (.int 0), rfl, ⟨(0 : Int32), rfl, (show iv 0 0 1 from ⟨by decide, by decide⟩)⟩, by rw [ht]; exact hw.1, hw.2.F ht⟩) hw.2.2.2 dX4_readTest_9
abbrev WX4_readFact_1 (p : Program) (l : Launch) (e : Env) (s : State) (m : MethodId) (below : List Frame) (meth : Method) (c : Code) (D : hp_D) (T : hp_T) (ap0 : Nat) (xp1 : Int32) (H : Heap) (locs : List Loc) (g : JFrame) : Prop := W p l e (headSpec wsX4_readFact ({ frames := 25, cells := 0, slots := 0, locals := 616 })).room s m ([.ref ap0, .int xp1] : List Value).toArray below meth c H locs 0 0 (MQ below (hq_e D T (fun v _ _ => ∃ r : Int32, v = some (.int r) ∧ iv r 0 1)) ([.ref ap0, .int xp1] : List Value).toArray s 0 0 (hp_F T)) g
set_option maxHeartbeats 4000000 in
set_option maxRecDepth 100000 in
theorem sX4_readFact_1 (l : Launch) (D : hp_D) (T : hp_T) (ap0 : Nat) (xp1 : Int32) (ip0 : isRuleReader T ap0) (bp1 : iv xp1 1 1) : Met l yX4_readFact wsX4_readFact ({ frames := 25, cells := 0, slots := 0, locals := 616 }) (hp_Pc D T [.ref ap0, .int xp1] (fun _ => True)) (hq_e D T (fun v _ _ => ∃ r : Int32, v = some (.int r) ∧ iv r 0 1)) 0 0 (hp_F T) := by
  obtain ⟨ap0tp, ap0stp, hp0, ip0tp, hp0stp⟩ := id ip0
  obtain ⟨ap0tpbt, hp0tp, hp0tpbt⟩ := id ip0tp
  refine Met.ofW (cc := cX4_readFact) (maxL := 5) (ret := (some .boolean)) (by decide) rfl ?_
  intro p e s m args below meth c s₁ B hml hv
  obtain ⟨rfl, hok, hG, hB⟩ := hv
  have hx := B.exec
  have hb := B.bytes
  have hr := B.returns
  have hts := atoms_spec (ws := wsX4_readFact) B.pre
  have hown : s.vm.findClass RX4 = some m.cls := findClass_of_methodNamed B.named
  have hlocks := B.notSynchronized
  have hK := hG.1
  have hw : hp_w D T s s.heap [] := hp_w.rf hok
  have IX4 : ∀ w ∈ wsX40, w ∈ wsX4_readFact := by decide +kernel
  have L26 := hts (.fieldLink RX4 26 "PalmCensus$RuleReader" "tape" "LPalmCensus$Tape;") (by decide +kernel)
  have hl := lv_entry ([.ref ap0, .int xp1]) (n := 5) (Nat.le_of_ble_eq_true rfl)
  rw [lg_entry_eq]
  generalize (lg_sl ([.ref ap0, .int xp1]) ++ List.replicate (5 - (lg_sl ([.ref ap0, .int xp1])).length) Slot.unset).toArray = ls at hl ⊢
  have hl : lv_has ls 5 [(0, .ref ap0), (1, .int xp1)] := hl
  show WX4_readFact_1 p l e s m below meth c D T ap0 xp1 s.heap [] (F0 m 0 ls [])
  refine lv_aload_n hx hb dX4_readFact_0 rfl (lv_at hl 0 rfl) ?_
  refine hp_getr hx hb hts IX4 hown hK hw.1 hp0 rfl 0 (by decide) L26 rfl dX4_readFact_1 ?_
  refine va_ldcS hx hb hown hG.2.2.1.2.2.2.2.2.2.2.2.1 dX4_readFact_4 ?_
  refine hp_callei (va_runV (As := [.ref (D.2.2.1 8)]) (rest := []) ⟨hx, hb, hml, hown, hts⟩ (sX7_takeSignOf l D T ap0tp 8 ip0tp (by decide)) (cwV 1 hts gX4_readFact_X7_takeSignOf rfl rfl rfl (by decide +kernel) ⟨Nat.le_of_ble_eq_true rfl, Nat.le_of_ble_eq_true rfl⟩) (hp_preV hG hw hp0tp rfl trivial) rfl rfl hl.1 rfl (lv_room (Nat.le_of_ble_eq_true rfl)) dX4_readFact_6 ⟨Nat.zero_le _, Nat.zero_le _⟩) hw (fun x6 st6 t6 H6 locs6 eh6 eg6 bx6 hw => ?_)
  refine lv_iconst (v := (-1)) hx hb dX4_readFact_9 (by decide) ?_
  have J18 : ∀ (y18_s0 : Int32), iv xp1 1 1 → iv y18_s0 0 1 → ∀ (H : Heap) (locs : List Loc), hp_w D T s H locs → ∀ (ls : Array Slot), lv_has ls 5 [(0, .ref ap0), (1, .int xp1)] → WX4_readFact_1 p l e s m below meth c D T ap0 xp1 H locs (F0 m 18 ls [.int y18_s0]) := by
    intro y18_s0 c18_xp1 c18_y18_s0 H18 locs18 hw ls hl
    refine lv_istore_n (lv' := [(2, .int y18_s0), (0, .ref ap0), (1, .int xp1)]) hx hb dX4_readFact_18 rfl hl (by decide) rfl (fun ls hl => ?_)
    refine lv_iload_n hx hb dX4_readFact_19 rfl (lv_at hl 0 rfl) ?_
    have J41 : ∀ (y41_s0 : Int32), iv xp1 1 1 → iv y18_s0 0 1 → iv y41_s0 0 1 → ∀ (H : Heap) (locs : List Loc), hp_w D T s H locs → ∀ (ls : Array Slot), lv_has ls 5 [(0, .ref ap0), (1, .int xp1), (2, .int y18_s0)] → WX4_readFact_1 p l e s m below meth c D T ap0 xp1 H locs (F0 m 41 ls [.int y41_s0]) := by
      intro y41_s0 c41_xp1 c41_y18_s0 c41_y41_s0 H41 locs41 hw ls hl
      refine lv_istore_n (lv' := [(3, .int y41_s0), (0, .ref ap0), (1, .int xp1), (2, .int y18_s0)]) hx hb dX4_readFact_41 rfl hl (by decide) rfl (fun ls hl => ?_)
      refine lv_iload_n hx hb dX4_readFact_42 rfl (lv_at hl 3 rfl) ?_
      have J92 : iv xp1 1 1 → iv y41_s0 0 1 → ∀ (H : Heap) (locs : List Loc), hp_w D T s H locs → ∀ (ls : Array Slot), lv_has ls 5 [(0, .ref ap0), (1, .int xp1), (3, .int y41_s0)] → WX4_readFact_1 p l e s m below meth c D T ap0 xp1 H locs (F0 m 92 ls []) := by
        intro c92_xp1 c92_y41_s0 H92 locs92 hw ls hl
        refine lv_iload_n hx hb dX4_readFact_92 rfl (lv_at hl 1 rfl) ?_
        refine lv_bipush (v := 10) hx hb dX4_readFact_93 (by decide) ?_
        refine lv_icmp_lt (tgt := 114) hx hb dX4_readFact_95 (by decide) (fun c95 => ?_) (fun c95 => ?_)
        · refine lv_iload_n hx hb dX4_readFact_114 rfl (lv_at hl 2 rfl) ?_
          refine lv_if_eq (tgt := 143) hx hb dX4_readFact_115 (by decide) (fun c115 => ?_) (fun c115 => ?_)
          · have r115tp : iv y41_s0 0 0 := (iv_both c92_y41_s0 (iv_eq (show iv 0 0 0 from ⟨by decide, by decide⟩) c115)).mono (by decide) (by decide)
            refine lv_aload_n hx hb dX4_readFact_143 rfl (lv_at hl 0 rfl) ?_
            refine lv_iload_n hx hb dX4_readFact_144 rfl (lv_at hl 1 rfl) ?_
            refine lv_iconst (v := 1) hx hb dX4_readFact_145 (by decide) ?_
            refine lv_iadd hx hb dX4_readFact_146 ?_
            refine lv_topi (fun x146 ex146 => ?_)
            have bx146 : iv x146 2 2 := iv_add c92_xp1 (show iv 1 1 1 from ⟨by decide, by decide⟩) ex146 (by decide)
            have qx146 := iv_add_eq c92_xp1 (show iv 1 1 1 from ⟨by decide, by decide⟩) ex146 (by decide)
            refine hp_callei (va_runV (As := [.int x146]) (rest := []) ⟨hx, hb, hml, hown, hts⟩ (sX4_readTest_2 l D T ap0 x146 ip0 bx146) (cwV 1 hts gX4_readFact_X4_readTest rfl rfl rfl (by decide +kernel) ⟨Nat.le_of_ble_eq_true rfl, Nat.le_of_ble_eq_true rfl⟩) (hp_preV hG hw hp0 rfl trivial) rfl rfl hl.1 rfl (lv_room (Nat.le_of_ble_eq_true rfl)) dX4_readFact_147 ⟨Nat.zero_le _, Nat.zero_le _⟩) hw (fun x147 st147 t147 H147 locs147 eh147 eg147 bx147 hw => ?_)
            have J170 : ∀ (y170_s0 : Int32), iv y170_s0 0 1 → ∀ (H : Heap) (locs : List Loc), hp_w D T s H locs → ∀ (ls : Array Slot), lv_has ls 5 [] → WX4_readFact_1 p l e s m below meth c D T ap0 xp1 H locs (F0 m 170 ls [.int y170_s0]) := by
              intro y170_s0 c170_y170_s0 H170 locs170 hw ls hl
              exact W.zret (v := y170_s0) hx hb hr (iv_nz c170_y170_s0) (fun t ht hW => ⟨some (.int y170_s0), rfl, ⟨y170_s0, rfl, c170_y170_s0⟩, by rw [ht]; exact hw.1, hw.2.F ht⟩) hw.2.2.2 dX4_readFact_170
            have J169 : ∀ (H : Heap) (locs : List Loc), hp_w D T s H locs → ∀ (ls : Array Slot), lv_has ls 5 [] → WX4_readFact_1 p l e s m below meth c D T ap0 xp1 H locs (F0 m 169 ls []) := by
              intro H169 locs169 hw ls hl
              refine lv_iconst (v := 0) hx hb dX4_readFact_169 (by decide) ?_
              exact J170 (0 : Int32) (show iv 0 0 1 from ⟨by decide, by decide⟩) H169 locs169 hw _ (lv_sub hl [] rfl)
            refine lv_if_eq (tgt := 169) hx hb dX4_readFact_150 (by decide) (fun c150 => ?_) (fun c150 => ?_)
            · have r150tp : iv x147 0 0 := (iv_both bx147 (iv_eq (show iv 0 0 0 from ⟨by decide, by decide⟩) c150)).mono (by decide) (by decide)
              exact J169 H147 locs147 hw _ (lv_sub hl [] rfl)
            · have r150fp : iv x147 1 1 := (iv_ne_lo c150 bx147 rfl).mono (by decide) (by decide)
              refine lv_aload_n hx hb dX4_readFact_153 rfl (lv_at hl 0 rfl) ?_
              refine hp_getr hx hb hts IX4 hown hK hw.1 hp0 rfl 0 (by decide) L26 rfl dX4_readFact_154 ?_
              refine va_ldcS hx hb hown hG.2.2.1.1 dX4_readFact_157 ?_
              refine hp_callei (va_runV (As := [.ref (D.2.2.1 0)]) (rest := []) ⟨hx, hb, hml, hown, hts⟩ (sX7_needSign l D T ap0tp 0 ip0tp (by decide)) (cwV 1 hts gX4_readFact_X7_needSign rfl rfl rfl (by decide +kernel) ⟨Nat.le_of_ble_eq_true rfl, Nat.le_of_ble_eq_true rfl⟩) (hp_preV hG hw hp0tp rfl trivial) rfl rfl hl.1 rfl (lv_room (Nat.le_of_ble_eq_true rfl)) dX4_readFact_159 ⟨Nat.zero_le _, Nat.zero_le _⟩) hw (fun x159 st159 t159 H159 locs159 eh159 eg159 bx159 hw => ?_)
              refine lv_if_eq (tgt := 169) hx hb dX4_readFact_162 (by decide) (fun c162 => ?_) (fun c162 => ?_)
              · have r162tp : iv x159 0 0 := (iv_both bx159 (iv_eq (show iv 0 0 0 from ⟨by decide, by decide⟩) c162)).mono (by decide) (by decide)
                exact J169 H159 locs159 hw _ (lv_sub hl [] rfl)
              · have r162fp : iv x159 1 1 := (iv_ne_lo c162 bx159 rfl).mono (by decide) (by decide)
                refine lv_iconst (v := 1) hx hb dX4_readFact_165 (by decide) ?_
                refine lv_goto (tgt := 170) hx hb dX4_readFact_166 (by decide) ?_
                exact J170 (1 : Int32) (show iv 1 0 1 from ⟨by decide, by decide⟩) H159 locs159 hw _ (lv_sub hl [] rfl)
          · have r115fp : iv y41_s0 1 1 := (iv_ne_lo c115 c92_y41_s0 rfl).mono (by decide) (by decide)
            refine lv_aload_n hx hb dX4_readFact_118 rfl (lv_at hl 0 rfl) ?_
            refine lv_iload_n hx hb dX4_readFact_119 rfl (lv_at hl 1 rfl) ?_
            refine lv_iconst (v := 1) hx hb dX4_readFact_120 (by decide) ?_
            refine lv_iadd hx hb dX4_readFact_121 ?_
            refine lv_topi (fun x121 ex121 => ?_)
            have bx121 : iv x121 2 2 := iv_add c92_xp1 (show iv 1 1 1 from ⟨by decide, by decide⟩) ex121 (by decide)
            have qx121 := iv_add_eq c92_xp1 (show iv 1 1 1 from ⟨by decide, by decide⟩) ex121 (by decide)
            refine hp_callei (va_runV (As := [.int x121]) (rest := []) ⟨hx, hb, hml, hown, hts⟩ (sX4_readFact_2 l D T ap0 x121 ip0 bx121) (cwV 1 hts gX4_readFact_X4_readFact rfl rfl rfl (by decide +kernel) ⟨Nat.le_of_ble_eq_true rfl, Nat.le_of_ble_eq_true rfl⟩) (hp_preV hG hw hp0 rfl trivial) rfl rfl hl.1 rfl (lv_room (Nat.le_of_ble_eq_true rfl)) dX4_readFact_122 ⟨Nat.zero_le _, Nat.zero_le _⟩) hw (fun x122 st122 t122 H122 locs122 eh122 eg122 bx122 hw => ?_)
            have J142 : ∀ (y142_s0 : Int32), iv y142_s0 0 1 → ∀ (H : Heap) (locs : List Loc), hp_w D T s H locs → ∀ (ls : Array Slot), lv_has ls 5 [] → WX4_readFact_1 p l e s m below meth c D T ap0 xp1 H locs (F0 m 142 ls [.int y142_s0]) := by
              intro y142_s0 c142_y142_s0 H142 locs142 hw ls hl
              exact W.zret (v := y142_s0) hx hb hr (iv_nz c142_y142_s0) (fun t ht hW => ⟨some (.int y142_s0), rfl, ⟨y142_s0, rfl, c142_y142_s0⟩, by rw [ht]; exact hw.1, hw.2.F ht⟩) hw.2.2.2 dX4_readFact_142
            have J141 : ∀ (H : Heap) (locs : List Loc), hp_w D T s H locs → ∀ (ls : Array Slot), lv_has ls 5 [] → WX4_readFact_1 p l e s m below meth c D T ap0 xp1 H locs (F0 m 141 ls []) := by
              intro H141 locs141 hw ls hl
              refine lv_iconst (v := 0) hx hb dX4_readFact_141 (by decide) ?_
              exact J142 (0 : Int32) (show iv 0 0 1 from ⟨by decide, by decide⟩) H141 locs141 hw _ (lv_sub hl [] rfl)
            refine lv_if_eq (tgt := 141) hx hb dX4_readFact_125 (by decide) (fun c125 => ?_) (fun c125 => ?_)
            · have r125tp : iv x122 0 0 := (iv_both bx122 (iv_eq (show iv 0 0 0 from ⟨by decide, by decide⟩) c125)).mono (by decide) (by decide)
              exact J141 H122 locs122 hw _ (lv_sub hl [] rfl)
            · have r125fp : iv x122 1 1 := (iv_ne_lo c125 bx122 rfl).mono (by decide) (by decide)
              refine lv_aload_n hx hb dX4_readFact_128 rfl (lv_at hl 0 rfl) ?_
              refine lv_bipush (v := (-43)) hx hb dX4_readFact_129 (by decide) ?_
              refine hp_callei (va_runV (As := [.int (-43)]) (rest := []) ⟨hx, hb, hml, hown, hts⟩ (sX4_write l D T ap0 ((-43) : Int32) ip0) (cwV 1 hts gX4_readFact_X4_write rfl rfl rfl (by decide +kernel) ⟨Nat.le_of_ble_eq_true rfl, Nat.le_of_ble_eq_true rfl⟩) (hp_preV hG hw hp0 rfl trivial) rfl rfl hl.1 rfl (lv_room (Nat.le_of_ble_eq_true rfl)) dX4_readFact_131 ⟨Nat.zero_le _, Nat.zero_le _⟩) hw (fun x131 st131 t131 H131 locs131 eh131 eg131 bx131 hw => ?_)
              refine lv_if_eq (tgt := 141) hx hb dX4_readFact_134 (by decide) (fun c134 => ?_) (fun c134 => ?_)
              · exact iv_abs2 c134 bx131 (show iv 0 0 0 from ⟨by decide, by decide⟩) (by decide)
              · refine lv_iconst (v := 1) hx hb dX4_readFact_137 (by decide) ?_
                refine lv_goto (tgt := 142) hx hb dX4_readFact_138 (by decide) ?_
                exact J142 (1 : Int32) (show iv 1 0 1 from ⟨by decide, by decide⟩) H131 locs131 hw _ (lv_sub hl [] rfl)
        · exact iv_abs (iv_le_l (iv_nlt c95) (show iv 10 10 10 from ⟨by decide, by decide⟩) c92_xp1) (by decide)
      refine lv_if_ne (tgt := 92) hx hb dX4_readFact_43 (by decide) (fun c43 => ?_) (fun c43 => ?_)
      · have r43tp : iv y18_s0 1 1 := (iv_ne_lo c43 c41_y18_s0 rfl).mono (by decide) (by decide)
        exact J92 c41_xp1 c41_y41_s0 H41 locs41 hw _ (lv_sub hl [1, 2, 0] rfl)
      · have r43fp : iv y18_s0 0 0 := (iv_both c41_y18_s0 (iv_eq (show iv 0 0 0 from ⟨by decide, by decide⟩) c43)).mono (by decide) (by decide)
        refine lv_iload_n hx hb dX4_readFact_46 rfl (lv_at hl 0 rfl) ?_
        refine lv_if_ne (tgt := 92) hx hb dX4_readFact_47 (by decide) (fun c47 => ?_) (fun c47 => ?_)
        · have r47tp : iv y41_s0 1 1 := (iv_ne_lo c47 c41_y41_s0 rfl).mono (by decide) (by decide)
          exact J92 c41_xp1 (r47tp.mono (by decide) (by decide)) H41 locs41 hw _ (lv_sub hl [1, 2, 0] rfl)
        · have r47fp : iv y41_s0 0 0 := (iv_both c41_y41_s0 (iv_eq (show iv 0 0 0 from ⟨by decide, by decide⟩) c47)).mono (by decide) (by decide)
          refine lv_aload_n hx hb dX4_readFact_50 rfl (lv_at hl 1 rfl) ?_
          refine hp_callei (va_runV (As := []) (rest := []) ⟨hx, hb, hml, hown, hts⟩ (sX4_readSum l D T ap0 ip0) (cwV 0 hts gX4_readFact_X4_readSum rfl rfl rfl (by decide +kernel) ⟨Nat.le_of_ble_eq_true rfl, Nat.le_of_ble_eq_true rfl⟩) (hp_preV hG hw hp0 rfl trivial) rfl rfl hl.1 rfl (lv_room (Nat.le_of_ble_eq_true rfl)) dX4_readFact_51 ⟨Nat.zero_le _, Nat.zero_le _⟩) hw (fun x51 st51 t51 H51 locs51 eh51 eg51 bx51 hw => ?_)
          refine lv_if_ne (tgt := 59) hx hb dX4_readFact_54 (by decide) (fun c54 => ?_) (fun c54 => ?_)
          · have r54tp : iv x51 1 1 := (iv_ne_lo c54 bx51 rfl).mono (by decide) (by decide)
            refine lv_aload_n hx hb dX4_readFact_59 rfl (lv_at hl 1 rfl) ?_
            refine hp_callei (va_runV (As := []) (rest := []) ⟨hx, hb, hml, hown, hts⟩ (sX4_readSign l D T ap0 ip0) (cwV 0 hts gX4_readFact_X4_readSign rfl rfl rfl (by decide +kernel) ⟨Nat.le_of_ble_eq_true rfl, Nat.le_of_ble_eq_true rfl⟩) (hp_preV hG hw hp0 rfl trivial) rfl rfl hl.1 rfl (lv_room (Nat.le_of_ble_eq_true rfl)) dX4_readFact_60 ⟨Nat.zero_le _, Nat.zero_le _⟩) hw (fun x60 st60 t60 H60 locs60 eh60 eg60 bx60 hw => ?_)
            refine lv_istore (lv' := [(4, .int x60), (3, .int y41_s0), (0, .ref ap0), (1, .int xp1), (2, .int y18_s0)]) hx hb dX4_readFact_63 hl (by decide) rfl (fun ls hl => ?_)
            refine lv_iload hx hb dX4_readFact_65 (lv_at hl 0 rfl) ?_
            have J91 : ∀ (y91_s0 : Int32), iv y91_s0 0 1 → ∀ (H : Heap) (locs : List Loc), hp_w D T s H locs → ∀ (ls : Array Slot), lv_has ls 5 [] → WX4_readFact_1 p l e s m below meth c D T ap0 xp1 H locs (F0 m 91 ls [.int y91_s0]) := by
              intro y91_s0 c91_y91_s0 H91 locs91 hw ls hl
              exact W.zret (v := y91_s0) hx hb hr (iv_nz c91_y91_s0) (fun t ht hW => ⟨some (.int y91_s0), rfl, ⟨y91_s0, rfl, c91_y91_s0⟩, by rw [ht]; exact hw.1, hw.2.F ht⟩) hw.2.2.2 dX4_readFact_91
            have J90 : ∀ (H : Heap) (locs : List Loc), hp_w D T s H locs → ∀ (ls : Array Slot), lv_has ls 5 [] → WX4_readFact_1 p l e s m below meth c D T ap0 xp1 H locs (F0 m 90 ls []) := by
              intro H90 locs90 hw ls hl
              refine lv_iconst (v := 0) hx hb dX4_readFact_90 (by decide) ?_
              exact J91 (0 : Int32) (show iv 0 0 1 from ⟨by decide, by decide⟩) H90 locs90 hw _ (lv_sub hl [] rfl)
            refine lv_if_eq (tgt := 90) hx hb dX4_readFact_67 (by decide) (fun c67 => ?_) (fun c67 => ?_)
            · have r67tp : iv x60 0 0 := (iv_both (iv_any x60) (iv_eq (show iv 0 0 0 from ⟨by decide, by decide⟩) c67)).mono (by decide) (by decide)
              exact J90 H60 locs60 hw _ (lv_sub hl [] rfl)
            · refine lv_aload_n hx hb dX4_readFact_70 rfl (lv_at hl 2 rfl) ?_
              refine hp_callei (va_runV (As := []) (rest := []) ⟨hx, hb, hml, hown, hts⟩ (sX4_readSum l D T ap0 ip0) (cwV 0 hts gX4_readFact_X4_readSum rfl rfl rfl (by decide +kernel) ⟨Nat.le_of_ble_eq_true rfl, Nat.le_of_ble_eq_true rfl⟩) (hp_preV hG hw hp0 rfl trivial) rfl rfl hl.1 rfl (lv_room (Nat.le_of_ble_eq_true rfl)) dX4_readFact_71 ⟨Nat.zero_le _, Nat.zero_le _⟩) hw (fun x71 st71 t71 H71 locs71 eh71 eg71 bx71 hw => ?_)
              refine lv_if_eq (tgt := 90) hx hb dX4_readFact_74 (by decide) (fun c74 => ?_) (fun c74 => ?_)
              · have r74tp : iv x71 0 0 := (iv_both bx71 (iv_eq (show iv 0 0 0 from ⟨by decide, by decide⟩) c74)).mono (by decide) (by decide)
                exact J90 H71 locs71 hw _ (lv_sub hl [] rfl)
              · have r74fp : iv x71 1 1 := (iv_ne_lo c74 bx71 rfl).mono (by decide) (by decide)
                refine lv_aload_n hx hb dX4_readFact_77 rfl (lv_at hl 2 rfl) ?_
                refine lv_iload hx hb dX4_readFact_78 (lv_at hl 0 rfl) ?_
                refine hp_callei (va_runV (As := [.int x60]) (rest := []) ⟨hx, hb, hml, hown, hts⟩ (sX4_write l D T ap0 x60 ip0) (cwV 1 hts gX4_readFact_X4_write rfl rfl rfl (by decide +kernel) ⟨Nat.le_of_ble_eq_true rfl, Nat.le_of_ble_eq_true rfl⟩) (hp_preV hG hw hp0 rfl trivial) rfl rfl hl.1 rfl (lv_room (Nat.le_of_ble_eq_true rfl)) dX4_readFact_80 ⟨Nat.zero_le _, Nat.zero_le _⟩) hw (fun x80 st80 t80 H80 locs80 eh80 eg80 bx80 hw => ?_)
                refine lv_if_eq (tgt := 90) hx hb dX4_readFact_83 (by decide) (fun c83 => ?_) (fun c83 => ?_)
                · exact iv_abs2 c83 bx80 (show iv 0 0 0 from ⟨by decide, by decide⟩) (by decide)
                · refine lv_iconst (v := 1) hx hb dX4_readFact_86 (by decide) ?_
                  refine lv_goto (tgt := 91) hx hb dX4_readFact_87 (by decide) ?_
                  exact J91 (1 : Int32) (show iv 1 0 1 from ⟨by decide, by decide⟩) H80 locs80 hw _ (lv_sub hl [] rfl)
          · have r54fp : iv x51 0 0 := (iv_both bx51 (iv_eq (show iv 0 0 0 from ⟨by decide, by decide⟩) c54)).mono (by decide) (by decide)
            refine lv_iconst (v := 0) hx hb dX4_readFact_57 (by decide) ?_
            exact W.zret (v := 0) hx hb hr (iv_nz (show iv 0 0 1 from ⟨by decide, by decide⟩)) (fun t ht hW => ⟨some (.int 0), rfl, ⟨(0 : Int32), rfl, (show iv 0 0 1 from ⟨by decide, by decide⟩)⟩, by rw [ht]; exact hw.1, hw.2.F ht⟩) hw.2.2.2 dX4_readFact_58
    have J40 : iv xp1 1 1 → iv y18_s0 0 1 → ∀ (H : Heap) (locs : List Loc), hp_w D T s H locs → ∀ (ls : Array Slot), lv_has ls 5 [(0, .ref ap0), (1, .int xp1), (2, .int y18_s0)] → WX4_readFact_1 p l e s m below meth c D T ap0 xp1 H locs (F0 m 40 ls []) := by
      intro c40_xp1 c40_y18_s0 H40 locs40 hw ls hl
      refine lv_iconst (v := 0) hx hb dX4_readFact_40 (by decide) ?_
      exact J41 (0 : Int32) c40_xp1 c40_y18_s0 (show iv 0 0 1 from ⟨by decide, by decide⟩) H40 locs40 hw _ (lv_sub hl [0, 1, 2] rfl)
    refine lv_if_ne (tgt := 40) hx hb dX4_readFact_20 (by decide) (fun c20 => ?_) (fun c20 => ?_)
    · have r20tp : iv y18_s0 1 1 := (iv_ne_lo c20 c18_y18_s0 rfl).mono (by decide) (by decide)
      exact J40 c18_xp1 (r20tp.mono (by decide) (by decide)) H18 locs18 hw _ (lv_sub hl [1, 2, 0] rfl)
    · have r20fp : iv y18_s0 0 0 := (iv_both c18_y18_s0 (iv_eq (show iv 0 0 0 from ⟨by decide, by decide⟩) c20)).mono (by decide) (by decide)
      refine lv_aload_n hx hb dX4_readFact_23 rfl (lv_at hl 1 rfl) ?_
      refine hp_getr hx hb hts IX4 hown hK hw.1 hp0 rfl 0 (by decide) L26 rfl dX4_readFact_24 ?_
      refine va_ldcS hx hb hown hG.2.2.1.2.2.2.2.2.2.2.2.2.1 dX4_readFact_27 ?_
      refine hp_callei (va_runV (As := [.ref (D.2.2.1 9)]) (rest := []) ⟨hx, hb, hml, hown, hts⟩ (sX7_takeWord l D T ap0tp 9 ip0tp (by decide)) (cwV 1 hts gX4_readFact_X7_takeWord rfl rfl rfl (by decide +kernel) ⟨Nat.le_of_ble_eq_true rfl, Nat.le_of_ble_eq_true rfl⟩) (hp_preV hG hw hp0tp rfl trivial) rfl rfl hl.1 rfl (lv_room (Nat.le_of_ble_eq_true rfl)) dX4_readFact_29 ⟨Nat.zero_le _, Nat.zero_le _⟩) hw (fun x29 st29 t29 H29 locs29 eh29 eg29 bx29 hw => ?_)
      refine lv_iconst (v := (-1)) hx hb dX4_readFact_32 (by decide) ?_
      refine lv_icmp_eq (tgt := 40) hx hb dX4_readFact_33 (by decide) (fun c33 => ?_) (fun c33 => ?_)
      · have r33tp : iv x29 (-1) (-1) := (iv_both (iv_any x29) (iv_eq (show iv (-1) (-1) (-1) from ⟨by decide, by decide⟩) c33)).mono (by decide) (by decide)
        exact J40 c18_xp1 (r20fp.mono (by decide) (by decide)) H29 locs29 hw _ (lv_sub hl [1, 2, 0] rfl)
      · refine lv_iconst (v := 1) hx hb dX4_readFact_36 (by decide) ?_
        refine lv_goto (tgt := 41) hx hb dX4_readFact_37 (by decide) ?_
        exact J41 (1 : Int32) c18_xp1 (r20fp.mono (by decide) (by decide)) (show iv 1 0 1 from ⟨by decide, by decide⟩) H29 locs29 hw _ (lv_sub hl [1, 2, 0] rfl)
  refine lv_icmp_eq (tgt := 17) hx hb dX4_readFact_10 (by decide) (fun c10 => ?_) (fun c10 => ?_)
  · have r10tp : iv x6 (-1) (-1) := (iv_both (iv_any x6) (iv_eq (show iv (-1) (-1) (-1) from ⟨by decide, by decide⟩) c10)).mono (by decide) (by decide)
    refine lv_iconst (v := 0) hx hb dX4_readFact_17 (by decide) ?_
    exact J18 (0 : Int32) bp1 (show iv 0 0 1 from ⟨by decide, by decide⟩) H6 locs6 hw _ (lv_sub hl [0, 1] rfl)
  · refine lv_iconst (v := 1) hx hb dX4_readFact_13 (by decide) ?_
    refine lv_goto (tgt := 18) hx hb dX4_readFact_14 (by decide) ?_
    exact J18 (1 : Int32) bp1 (show iv 1 0 1 from ⟨by decide, by decide⟩) H6 locs6 hw _ (lv_sub hl [0, 1] rfl)
abbrev WX4_readTest_1 (p : Program) (l : Launch) (e : Env) (s : State) (m : MethodId) (below : List Frame) (meth : Method) (c : Code) (D : hp_D) (T : hp_T) (ap0 : Nat) (xp1 : Int32) (H : Heap) (locs : List Loc) (g : JFrame) : Prop := W p l e (headSpec wsX4_readTest ({ frames := 26, cells := 0, slots := 0, locals := 640 })).room s m ([.ref ap0, .int xp1] : List Value).toArray below meth c H locs 0 0 (MQ below (hq_e D T (fun v _ _ => ∃ r : Int32, v = some (.int r) ∧ iv r 0 1)) ([.ref ap0, .int xp1] : List Value).toArray s 0 0 (hp_F T)) g
set_option maxHeartbeats 4000000 in
set_option maxRecDepth 100000 in
theorem sX4_readTest_1 (l : Launch) (D : hp_D) (T : hp_T) (ap0 : Nat) (xp1 : Int32) (ip0 : isRuleReader T ap0) (bp1 : iv xp1 1 1) : Met l yX4_readTest wsX4_readTest ({ frames := 26, cells := 0, slots := 0, locals := 640 }) (hp_Pc D T [.ref ap0, .int xp1] (fun _ => True)) (hq_e D T (fun v _ _ => ∃ r : Int32, v = some (.int r) ∧ iv r 0 1)) 0 0 (hp_F T) := by
  obtain ⟨ap0tp, ap0stp, hp0, ip0tp, hp0stp⟩ := id ip0
  obtain ⟨ap0tpbt, hp0tp, hp0tpbt⟩ := id ip0tp
  refine Met.ofW (cc := cX4_readTest) (maxL := 6) (ret := (some .boolean)) (by decide) rfl ?_
  intro p e s m args below meth c s₁ B hml hv
  obtain ⟨rfl, hok, hG, hB⟩ := hv
  have hx := B.exec
  have hb := B.bytes
  have hr := B.returns
  have hts := atoms_spec (ws := wsX4_readTest) B.pre
  have hown : s.vm.findClass RX4 = some m.cls := findClass_of_methodNamed B.named
  have hlocks := B.notSynchronized
  have hK := hG.1
  have hw : hp_w D T s s.heap [] := hp_w.rf hok
  have IX4 : ∀ w ∈ wsX40, w ∈ wsX4_readTest := by decide +kernel
  have L26 := hts (.fieldLink RX4 26 "PalmCensus$RuleReader" "tape" "LPalmCensus$Tape;") (by decide +kernel)
  have hl := lv_entry ([.ref ap0, .int xp1]) (n := 6) (Nat.le_of_ble_eq_true rfl)
  rw [lg_entry_eq]
  generalize (lg_sl ([.ref ap0, .int xp1]) ++ List.replicate (6 - (lg_sl ([.ref ap0, .int xp1])).length) Slot.unset).toArray = ls at hl ⊢
  have hl : lv_has ls 6 [(0, .ref ap0), (1, .int xp1)] := hl
  show WX4_readTest_1 p l e s m below meth c D T ap0 xp1 s.heap [] (F0 m 0 ls [])
  refine lv_aload_n hx hb dX4_readTest_0 rfl (lv_at hl 0 rfl) ?_
  refine lv_iload_n hx hb dX4_readTest_1 rfl (lv_at hl 1 rfl) ?_
  refine hp_callei (va_runV (As := [.int xp1]) (rest := []) ⟨hx, hb, hml, hown, hts⟩ (sX4_readFact_1 l D T ap0 xp1 ip0 bp1) (cwV 1 hts gX4_readTest_X4_readFact rfl rfl rfl (by decide +kernel) ⟨Nat.le_of_ble_eq_true rfl, Nat.le_of_ble_eq_true rfl⟩) (hp_preV hG hw hp0 rfl trivial) rfl rfl hl.1 rfl (lv_room (Nat.le_of_ble_eq_true rfl)) dX4_readTest_2 ⟨Nat.zero_le _, Nat.zero_le _⟩) hw (fun x2 st2 t2 H2 locs2 eh2 eg2 bx2 hw => ?_)
  refine lv_if_ne (tgt := 10) hx hb dX4_readTest_5 (by decide) (fun c5 => ?_) (fun c5 => ?_)
  · have r5tp : iv x2 1 1 := (iv_ne_lo c5 bx2 rfl).mono (by decide) (by decide)
    refine lv_iconst (v := 0) hx hb dX4_readTest_10 (by decide) ?_
    refine lv_istore_n (lv' := [(2, .int 0), (0, .ref ap0), (1, .int xp1)]) hx hb dX4_readTest_11 rfl hl (by decide) rfl (fun ls hl => ?_)
    refine lv_iconst (v := 0) hx hb dX4_readTest_12 (by decide) ?_
    refine lv_istore_n (lv' := [(3, .int 0), (2, .int 0), (0, .ref ap0), (1, .int xp1)]) hx hb dX4_readTest_13 rfl hl (by decide) rfl (fun ls hl => ?_)
    have J14 : ∀ (n : Nat) (y14_l2 y14_l3 : Int32), (400 - y14_l3.toInt).toNat < n → iv xp1 1 1 → iv y14_l2 0 1 → iv y14_l3 0 400 → ∀ (H : Heap) (locs : List Loc), hp_w D T s H locs → ∀ (ls : Array Slot), lv_has ls 6 [(0, .ref ap0), (1, .int xp1), (2, .int y14_l2), (3, .int y14_l3)] → WX4_readTest_1 p l e s m below meth c D T ap0 xp1 H locs (F0 m 14 ls []) := by
      intro n
      induction n with
      | zero => intro y14_l2 y14_l3 hmu14 c14_xp1 c14_y14_l2 c14_y14_l3 H14 locs14 hw ls hl; exact absurd hmu14 (Nat.not_lt_zero _)
      | succ n ih14 =>
        intro y14_l2 y14_l3 hmu14 c14_xp1 c14_y14_l2 c14_y14_l3 H14 locs14 hw ls hl
        refine lv_iload_n hx hb dX4_readTest_14 rfl (lv_at hl 3 rfl) ?_
        refine lv_sipush (v := 400) hx hb dX4_readTest_15 (by decide) ?_
        have J103 : iv y14_l2 0 1 → ∀ (H : Heap) (locs : List Loc), hp_w D T s H locs → ∀ (ls : Array Slot), lv_has ls 6 [(0, .ref ap0), (2, .int y14_l2)] → WX4_readTest_1 p l e s m below meth c D T ap0 xp1 H locs (F0 m 103 ls []) := by
          intro c103_y14_l2 H103 locs103 hw ls hl
          refine lv_iload_n hx hb dX4_readTest_103 rfl (lv_at hl 1 rfl) ?_
          have J121 : ∀ (H : Heap) (locs : List Loc), hp_w D T s H locs → ∀ (ls : Array Slot), lv_has ls 6 [] → WX4_readTest_1 p l e s m below meth c D T ap0 xp1 H locs (F0 m 121 ls [.int 1]) := by
            intro H121 locs121 hw ls hl
            exact W.zret (v := 1) hx hb hr (iv_nz (show iv 1 0 1 from ⟨by decide, by decide⟩)) (fun t ht hW => ⟨some (.int 1), rfl, ⟨(1 : Int32), rfl, (show iv 1 0 1 from ⟨by decide, by decide⟩)⟩, by rw [ht]; exact hw.1, hw.2.F ht⟩) hw.2.2.2 dX4_readTest_121
          have J116 : ∀ (H : Heap) (locs : List Loc), hp_w D T s H locs → ∀ (ls : Array Slot), lv_has ls 6 [] → WX4_readTest_1 p l e s m below meth c D T ap0 xp1 H locs (F0 m 116 ls []) := by
            intro H116 locs116 hw ls hl
            refine lv_iconst (v := 1) hx hb dX4_readTest_116 (by decide) ?_
            refine lv_goto (tgt := 121) hx hb dX4_readTest_117 (by decide) ?_
            exact J121 H116 locs116 hw _ (lv_sub hl [] rfl)
          refine lv_if_eq (tgt := 116) hx hb dX4_readTest_104 (by decide) (fun c104 => ?_) (fun c104 => ?_)
          · have r104tp : iv y14_l2 0 0 := (iv_both c103_y14_l2 (iv_eq (show iv 0 0 0 from ⟨by decide, by decide⟩) c104)).mono (by decide) (by decide)
            exact J116 H103 locs103 hw _ (lv_sub hl [] rfl)
          · have r104fp : iv y14_l2 1 1 := (iv_ne_lo c104 c103_y14_l2 rfl).mono (by decide) (by decide)
            refine lv_aload_n hx hb dX4_readTest_107 rfl (lv_at hl 0 rfl) ?_
            refine lv_bipush (v := (-42)) hx hb dX4_readTest_108 (by decide) ?_
            refine hp_callei (va_runV (As := [.int (-42)]) (rest := []) ⟨hx, hb, hml, hown, hts⟩ (sX4_write l D T ap0 ((-42) : Int32) ip0) (cwV 1 hts gX4_readTest_X4_write rfl rfl rfl (by decide +kernel) ⟨Nat.le_of_ble_eq_true rfl, Nat.le_of_ble_eq_true rfl⟩) (hp_preV hG hw hp0 rfl trivial) rfl rfl hl.1 rfl (lv_room (Nat.le_of_ble_eq_true rfl)) dX4_readTest_110 ⟨Nat.zero_le _, Nat.zero_le _⟩) hw (fun x110 st110 t110 H110 locs110 eh110 eg110 bx110 hw => ?_)
            refine lv_if_eq (tgt := 120) hx hb dX4_readTest_113 (by decide) (fun c113 => ?_) (fun c113 => ?_)
            · exact iv_abs2 c113 bx110 (show iv 0 0 0 from ⟨by decide, by decide⟩) (by decide)
            · exact J116 H110 locs110 hw _ (lv_sub hl [] rfl)
        refine lv_icmp_ge (tgt := 103) hx hb dX4_readTest_18 (by decide) (fun c18 => ?_) (fun c18 => ?_)
        · have r18tq : iv y14_l3 400 400 := (iv_le_r c18 (show iv 400 400 400 from ⟨by decide, by decide⟩) c14_y14_l3).mono (by decide) (by decide)
          exact J103 c14_y14_l2 H14 locs14 hw _ (lv_sub hl [0, 2] rfl)
        · have r18fp : iv y14_l3 0 399 := (iv_lt_l (iv_nle c18) c14_y14_l3 (show iv 400 400 400 from ⟨by decide, by decide⟩)).mono (by decide) (by decide)
          refine lv_aload_n hx hb dX4_readTest_21 rfl (lv_at hl 0 rfl) ?_
          refine hp_getr hx hb hts IX4 hown hK hw.1 hp0 rfl 0 (by decide) L26 rfl dX4_readTest_22 ?_
          refine va_ldcS hx hb hown hG.2.2.1.2.2.2.2.2.2.2.1 dX4_readTest_25 ?_
          refine hp_callei (va_runV (As := [.ref (D.2.2.1 7)]) (rest := []) ⟨hx, hb, hml, hown, hts⟩ (sX7_takeWord l D T ap0tp 7 ip0tp (by decide)) (cwV 1 hts gX4_readTest_X7_takeWord rfl rfl rfl (by decide +kernel) ⟨Nat.le_of_ble_eq_true rfl, Nat.le_of_ble_eq_true rfl⟩) (hp_preV hG hw hp0tp rfl trivial) rfl rfl hl.1 rfl (lv_room (Nat.le_of_ble_eq_true rfl)) dX4_readTest_27 ⟨Nat.zero_le _, Nat.zero_le _⟩) hw (fun x27 st27 t27 H27 locs27 eh27 eg27 bx27 hw => ?_)
          refine lv_istore (lv' := [(4, .int x27), (0, .ref ap0), (1, .int xp1), (2, .int y14_l2), (3, .int y14_l3)]) hx hb dX4_readTest_30 hl (by decide) rfl (fun ls hl => ?_)
          refine lv_iload hx hb dX4_readTest_32 (lv_at hl 0 rfl) ?_
          refine lv_iconst (v := (-1)) hx hb dX4_readTest_34 (by decide) ?_
          refine lv_icmp_ne (tgt := 41) hx hb dX4_readTest_35 (by decide) (fun c35 => ?_) (fun c35 => ?_)
          · refine lv_iload hx hb dX4_readTest_41 (lv_at hl 0 rfl) ?_
            refine lv_iconst (v := 1) hx hb dX4_readTest_43 (by decide) ?_
            have J52 : ∀ (y52_s0 : Int32), iv xp1 1 1 → iv y14_l2 0 1 → iv y14_l3 0 399 → iv y52_s0 0 1 → ∀ (H : Heap) (locs : List Loc), hp_w D T s H locs → ∀ (ls : Array Slot), lv_has ls 6 [(0, .ref ap0), (1, .int xp1), (2, .int y14_l2), (3, .int y14_l3)] → WX4_readTest_1 p l e s m below meth c D T ap0 xp1 H locs (F0 m 52 ls [.int y52_s0]) := by
              intro y52_s0 c52_xp1 c52_y14_l2 c52_y14_l3 c52_y52_s0 H52 locs52 hw ls hl
              refine lv_istore (lv' := [(5, .int y52_s0), (0, .ref ap0), (1, .int xp1), (2, .int y14_l2), (3, .int y14_l3)]) hx hb dX4_readTest_52 hl (by decide) rfl (fun ls hl => ?_)
              refine lv_iload hx hb dX4_readTest_54 (lv_at hl 0 rfl) ?_
              have J70 : iv xp1 1 1 → iv y14_l2 0 1 → iv y14_l3 0 399 → iv y52_s0 0 1 → ∀ (H : Heap) (locs : List Loc), hp_w D T s H locs → ∀ (ls : Array Slot), lv_has ls 6 [(0, .ref ap0), (1, .int xp1), (2, .int y14_l2), (3, .int y14_l3), (5, .int y52_s0)] → WX4_readTest_1 p l e s m below meth c D T ap0 xp1 H locs (F0 m 70 ls []) := by
                intro c70_xp1 c70_y14_l2 c70_y14_l3 c70_y52_s0 H70 locs70 hw ls hl
                refine lv_iload_n hx hb dX4_readTest_70 rfl (lv_at hl 2 rfl) ?_
                refine lv_iload hx hb dX4_readTest_71 (lv_at hl 4 rfl) ?_
                refine lv_ior hx hb dX4_readTest_73 ?_
                refine lv_topi (fun x73 ex73 => ?_)
                have bx73 : iv x73 0 1 := iv_or 1 c70_y14_l2 c70_y52_s0 ex73 (by decide) (by decide)
                refine lv_istore_n (lv' := [(2, .int x73), (0, .ref ap0), (1, .int xp1), (3, .int y14_l3), (5, .int y52_s0)]) hx hb dX4_readTest_74 rfl hl (by decide) rfl (fun ls hl => ?_)
                refine lv_aload_n hx hb dX4_readTest_75 rfl (lv_at hl 1 rfl) ?_
                refine lv_iload_n hx hb dX4_readTest_76 rfl (lv_at hl 2 rfl) ?_
                refine hp_callei (va_runV (As := [.int xp1]) (rest := []) ⟨hx, hb, hml, hown, hts⟩ (sX4_readFact_1 l D T ap0 xp1 ip0 c70_xp1) (cwV 1 hts gX4_readTest_X4_readFact rfl rfl rfl (by decide +kernel) ⟨Nat.le_of_ble_eq_true rfl, Nat.le_of_ble_eq_true rfl⟩) (hp_preV hG hw hp0 rfl trivial) rfl rfl hl.1 rfl (lv_room (Nat.le_of_ble_eq_true rfl)) dX4_readTest_77 ⟨Nat.zero_le _, Nat.zero_le _⟩) hw (fun x77 st77 t77 H77 locs77 eh77 eg77 bx77 hw => ?_)
                refine lv_if_ne (tgt := 85) hx hb dX4_readTest_80 (by decide) (fun c80 => ?_) (fun c80 => ?_)
                · have r80tp : iv x77 1 1 := (iv_ne_lo c80 bx77 rfl).mono (by decide) (by decide)
                  refine lv_iload hx hb dX4_readTest_85 (lv_at hl 4 rfl) ?_
                  have J97 : iv xp1 1 1 → iv x73 0 1 → iv y14_l3 0 399 → ∀ (H : Heap) (locs : List Loc), hp_w D T s H locs → ∀ (ls : Array Slot), lv_has ls 6 [(0, .ref ap0), (1, .int xp1), (2, .int x73), (3, .int y14_l3)] → WX4_readTest_1 p l e s m below meth c D T ap0 xp1 H locs (F0 m 97 ls []) := by
                    intro c97_xp1 c97_x73 c97_y14_l3 H97 locs97 hw ls hl
                    obtain ⟨x97, ex97⟩ : ∃ y : Int32, y = y14_l3 + 1 := ⟨_, rfl⟩
                    have bx97 : iv x97 1 400 := iv_add c97_y14_l3 (show iv 1 1 1 from ⟨by decide, by decide⟩) ex97 (by decide)
                    have qx97 := iv_add_eq c97_y14_l3 (show iv 1 1 1 from ⟨by decide, by decide⟩) ex97 (by decide)
                    refine lv_iinc (v := x97) (lv' := [(3, .int x97), (0, .ref ap0), (1, .int xp1), (2, .int x73)]) hx hb dX4_readTest_97 hl (k := 3) rfl (by rw [ex97]; rfl) (by decide) rfl (fun ls hl => ?_)
                    refine lv_goto (tgt := 14) hx hb dX4_readTest_100 (by decide) ?_
                    exact ih14 x73 x97 (mu_up 1 hmu14 (qx97) (by decide) (show iv x97 0 400 from (bx97.mono (by decide) (by decide))).2) c97_xp1 c97_x73 (bx97.mono (by decide) (by decide)) H97 locs97 hw _ (lv_sub hl [1, 2, 3, 0] rfl)
                  refine lv_if_ne (tgt := 97) hx hb dX4_readTest_87 (by decide) (fun c87 => ?_) (fun c87 => ?_)
                  · have r87tp : iv y52_s0 1 1 := (iv_ne_lo c87 c70_y52_s0 rfl).mono (by decide) (by decide)
                    exact J97 c70_xp1 bx73 c70_y14_l3 H77 locs77 hw _ (lv_sub hl [1, 2, 0, 3] rfl)
                  · have r87fp : iv y52_s0 0 0 := (iv_both c70_y52_s0 (iv_eq (show iv 0 0 0 from ⟨by decide, by decide⟩) c87)).mono (by decide) (by decide)
                    refine lv_aload_n hx hb dX4_readTest_90 rfl (lv_at hl 1 rfl) ?_
                    refine lv_bipush (v := (-41)) hx hb dX4_readTest_91 (by decide) ?_
                    refine hp_callei (va_runV (As := [.int (-41)]) (rest := []) ⟨hx, hb, hml, hown, hts⟩ (sX4_write l D T ap0 ((-41) : Int32) ip0) (cwV 1 hts gX4_readTest_X4_write rfl rfl rfl (by decide +kernel) ⟨Nat.le_of_ble_eq_true rfl, Nat.le_of_ble_eq_true rfl⟩) (hp_preV hG hw hp0 rfl trivial) rfl rfl hl.1 rfl (lv_room (Nat.le_of_ble_eq_true rfl)) dX4_readTest_93 ⟨Nat.zero_le _, Nat.zero_le _⟩) hw (fun x93 st93 t93 H93 locs93 eh93 eg93 bx93 hw => ?_)
                    refine lv_pop hx hb dX4_readTest_96 rfl ?_
                    exact J97 c70_xp1 bx73 c70_y14_l3 H93 locs93 hw _ (lv_sub hl [1, 2, 0, 3] rfl)
                · have r80fp : iv x77 0 0 := (iv_both bx77 (iv_eq (show iv 0 0 0 from ⟨by decide, by decide⟩) c80)).mono (by decide) (by decide)
                  refine lv_iconst (v := 0) hx hb dX4_readTest_83 (by decide) ?_
                  exact W.zret (v := 0) hx hb hr (iv_nz (show iv 0 0 1 from ⟨by decide, by decide⟩)) (fun t ht hW => ⟨some (.int 0), rfl, ⟨(0 : Int32), rfl, (show iv 0 0 1 from ⟨by decide, by decide⟩)⟩, by rw [ht]; exact hw.1, hw.2.F ht⟩) hw.2.2.2 dX4_readTest_84
              refine lv_if_eq (tgt := 70) hx hb dX4_readTest_56 (by decide) (fun c56 => ?_) (fun c56 => ?_)
              · have r56tp : iv y52_s0 0 0 := (iv_both c52_y52_s0 (iv_eq (show iv 0 0 0 from ⟨by decide, by decide⟩) c56)).mono (by decide) (by decide)
                exact J70 c52_xp1 c52_y14_l2 c52_y14_l3 (r56tp.mono (by decide) (by decide)) H52 locs52 hw _ (lv_sub hl [1, 2, 3, 4, 0] rfl)
              · have r56fp : iv y52_s0 1 1 := (iv_ne_lo c56 c52_y52_s0 rfl).mono (by decide) (by decide)
                refine lv_iload_n hx hb dX4_readTest_59 rfl (lv_at hl 3 rfl) ?_
                refine lv_if_eq (tgt := 70) hx hb dX4_readTest_60 (by decide) (fun c60 => ?_) (fun c60 => ?_)
                · have r60tp : iv y14_l2 0 0 := (iv_both c52_y14_l2 (iv_eq (show iv 0 0 0 from ⟨by decide, by decide⟩) c60)).mono (by decide) (by decide)
                  exact J70 c52_xp1 (r60tp.mono (by decide) (by decide)) c52_y14_l3 (r56fp.mono (by decide) (by decide)) H52 locs52 hw _ (lv_sub hl [1, 2, 3, 4, 0] rfl)
                · have r60fp : iv y14_l2 1 1 := (iv_ne_lo c60 c52_y14_l2 rfl).mono (by decide) (by decide)
                  refine lv_aload_n hx hb dX4_readTest_63 rfl (lv_at hl 1 rfl) ?_
                  refine lv_bipush (v := (-42)) hx hb dX4_readTest_64 (by decide) ?_
                  refine hp_callei (va_runV (As := [.int (-42)]) (rest := []) ⟨hx, hb, hml, hown, hts⟩ (sX4_write l D T ap0 ((-42) : Int32) ip0) (cwV 1 hts gX4_readTest_X4_write rfl rfl rfl (by decide +kernel) ⟨Nat.le_of_ble_eq_true rfl, Nat.le_of_ble_eq_true rfl⟩) (hp_preV hG hw hp0 rfl trivial) rfl rfl hl.1 rfl (lv_room (Nat.le_of_ble_eq_true rfl)) dX4_readTest_66 ⟨Nat.zero_le _, Nat.zero_le _⟩) hw (fun x66 st66 t66 H66 locs66 eh66 eg66 bx66 hw => ?_)
                  refine lv_pop hx hb dX4_readTest_69 rfl ?_
                  exact J70 c52_xp1 (r60fp.mono (by decide) (by decide)) c52_y14_l3 (r56fp.mono (by decide) (by decide)) H66 locs66 hw _ (lv_sub hl [1, 2, 3, 4, 0] rfl)
            refine lv_icmp_ne (tgt := 51) hx hb dX4_readTest_44 (by decide) (fun c44 => ?_) (fun c44 => ?_)
            · refine lv_iconst (v := 0) hx hb dX4_readTest_51 (by decide) ?_
              exact J52 (0 : Int32) c14_xp1 c14_y14_l2 r18fp (show iv 0 0 1 from ⟨by decide, by decide⟩) H27 locs27 hw _ (lv_sub hl [1, 2, 3, 4] rfl)
            · have r44fp : iv x27 1 1 := (iv_both (iv_any x27) (iv_eq (show iv 1 1 1 from ⟨by decide, by decide⟩) c44)).mono (by decide) (by decide)
              refine lv_iconst (v := 1) hx hb dX4_readTest_47 (by decide) ?_
              refine lv_goto (tgt := 52) hx hb dX4_readTest_48 (by decide) ?_
              exact J52 (1 : Int32) c14_xp1 c14_y14_l2 r18fp (show iv 1 0 1 from ⟨by decide, by decide⟩) H27 locs27 hw _ (lv_sub hl [1, 2, 3, 4] rfl)
          · have r35fp : iv x27 (-1) (-1) := (iv_both (iv_any x27) (iv_eq (show iv (-1) (-1) (-1) from ⟨by decide, by decide⟩) c35)).mono (by decide) (by decide)
            refine lv_goto (tgt := 103) hx hb dX4_readTest_38 (by decide) ?_
            exact J103 c14_y14_l2 H27 locs27 hw _ (lv_sub hl [1, 3] rfl)
    exact J14 _ (0 : Int32) (0 : Int32) (Nat.lt_succ_self _) bp1 (show iv 0 0 1 from ⟨by decide, by decide⟩) (show iv 0 0 400 from ⟨by decide, by decide⟩) H2 locs2 hw _ (lv_sub hl [2, 3, 1, 0] rfl)
  · have r5fp : iv x2 0 0 := (iv_both bx2 (iv_eq (show iv 0 0 0 from ⟨by decide, by decide⟩) c5)).mono (by decide) (by decide)
    refine lv_iconst (v := 0) hx hb dX4_readTest_8 (by decide) ?_
    exact W.zret (v := 0) hx hb hr (iv_nz (show iv 0 0 1 from ⟨by decide, by decide⟩)) (fun t ht hW => ⟨some (.int 0), rfl, ⟨(0 : Int32), rfl, (show iv 0 0 1 from ⟨by decide, by decide⟩)⟩, by rw [ht]; exact hw.1, hw.2.F ht⟩) hw.2.2.2 dX4_readTest_9
abbrev WX4_readFact_0 (p : Program) (l : Launch) (e : Env) (s : State) (m : MethodId) (below : List Frame) (meth : Method) (c : Code) (D : hp_D) (T : hp_T) (ap0 : Nat) (xp1 : Int32) (H : Heap) (locs : List Loc) (g : JFrame) : Prop := W p l e (headSpec wsX4_readFact ({ frames := 27, cells := 0, slots := 0, locals := 665 })).room s m ([.ref ap0, .int xp1] : List Value).toArray below meth c H locs 0 0 (MQ below (hq_e D T (fun v _ _ => ∃ r : Int32, v = some (.int r) ∧ iv r 0 1)) ([.ref ap0, .int xp1] : List Value).toArray s 0 0 (hp_F T)) g
set_option maxHeartbeats 4000000 in
set_option maxRecDepth 100000 in
theorem sX4_readFact_0 (l : Launch) (D : hp_D) (T : hp_T) (ap0 : Nat) (xp1 : Int32) (ip0 : isRuleReader T ap0) (bp1 : iv xp1 0 0) : Met l yX4_readFact wsX4_readFact ({ frames := 27, cells := 0, slots := 0, locals := 665 }) (hp_Pc D T [.ref ap0, .int xp1] (fun _ => True)) (hq_e D T (fun v _ _ => ∃ r : Int32, v = some (.int r) ∧ iv r 0 1)) 0 0 (hp_F T) := by
  obtain ⟨ap0tp, ap0stp, hp0, ip0tp, hp0stp⟩ := id ip0
  obtain ⟨ap0tpbt, hp0tp, hp0tpbt⟩ := id ip0tp
  refine Met.ofW (cc := cX4_readFact) (maxL := 5) (ret := (some .boolean)) (by decide) rfl ?_
  intro p e s m args below meth c s₁ B hml hv
  obtain ⟨rfl, hok, hG, hB⟩ := hv
  have hx := B.exec
  have hb := B.bytes
  have hr := B.returns
  have hts := atoms_spec (ws := wsX4_readFact) B.pre
  have hown : s.vm.findClass RX4 = some m.cls := findClass_of_methodNamed B.named
  have hlocks := B.notSynchronized
  have hK := hG.1
  have hw : hp_w D T s s.heap [] := hp_w.rf hok
  have IX4 : ∀ w ∈ wsX40, w ∈ wsX4_readFact := by decide +kernel
  have L26 := hts (.fieldLink RX4 26 "PalmCensus$RuleReader" "tape" "LPalmCensus$Tape;") (by decide +kernel)
  have hl := lv_entry ([.ref ap0, .int xp1]) (n := 5) (Nat.le_of_ble_eq_true rfl)
  rw [lg_entry_eq]
  generalize (lg_sl ([.ref ap0, .int xp1]) ++ List.replicate (5 - (lg_sl ([.ref ap0, .int xp1])).length) Slot.unset).toArray = ls at hl ⊢
  have hl : lv_has ls 5 [(0, .ref ap0), (1, .int xp1)] := hl
  show WX4_readFact_0 p l e s m below meth c D T ap0 xp1 s.heap [] (F0 m 0 ls [])
  refine lv_aload_n hx hb dX4_readFact_0 rfl (lv_at hl 0 rfl) ?_
  refine hp_getr hx hb hts IX4 hown hK hw.1 hp0 rfl 0 (by decide) L26 rfl dX4_readFact_1 ?_
  refine va_ldcS hx hb hown hG.2.2.1.2.2.2.2.2.2.2.2.1 dX4_readFact_4 ?_
  refine hp_callei (va_runV (As := [.ref (D.2.2.1 8)]) (rest := []) ⟨hx, hb, hml, hown, hts⟩ (sX7_takeSignOf l D T ap0tp 8 ip0tp (by decide)) (cwV 1 hts gX4_readFact_X7_takeSignOf rfl rfl rfl (by decide +kernel) ⟨Nat.le_of_ble_eq_true rfl, Nat.le_of_ble_eq_true rfl⟩) (hp_preV hG hw hp0tp rfl trivial) rfl rfl hl.1 rfl (lv_room (Nat.le_of_ble_eq_true rfl)) dX4_readFact_6 ⟨Nat.zero_le _, Nat.zero_le _⟩) hw (fun x6 st6 t6 H6 locs6 eh6 eg6 bx6 hw => ?_)
  refine lv_iconst (v := (-1)) hx hb dX4_readFact_9 (by decide) ?_
  have J18 : ∀ (y18_s0 : Int32), iv xp1 0 0 → iv y18_s0 0 1 → ∀ (H : Heap) (locs : List Loc), hp_w D T s H locs → ∀ (ls : Array Slot), lv_has ls 5 [(0, .ref ap0), (1, .int xp1)] → WX4_readFact_0 p l e s m below meth c D T ap0 xp1 H locs (F0 m 18 ls [.int y18_s0]) := by
    intro y18_s0 c18_xp1 c18_y18_s0 H18 locs18 hw ls hl
    refine lv_istore_n (lv' := [(2, .int y18_s0), (0, .ref ap0), (1, .int xp1)]) hx hb dX4_readFact_18 rfl hl (by decide) rfl (fun ls hl => ?_)
    refine lv_iload_n hx hb dX4_readFact_19 rfl (lv_at hl 0 rfl) ?_
    have J41 : ∀ (y41_s0 : Int32), iv xp1 0 0 → iv y18_s0 0 1 → iv y41_s0 0 1 → ∀ (H : Heap) (locs : List Loc), hp_w D T s H locs → ∀ (ls : Array Slot), lv_has ls 5 [(0, .ref ap0), (1, .int xp1), (2, .int y18_s0)] → WX4_readFact_0 p l e s m below meth c D T ap0 xp1 H locs (F0 m 41 ls [.int y41_s0]) := by
      intro y41_s0 c41_xp1 c41_y18_s0 c41_y41_s0 H41 locs41 hw ls hl
      refine lv_istore_n (lv' := [(3, .int y41_s0), (0, .ref ap0), (1, .int xp1), (2, .int y18_s0)]) hx hb dX4_readFact_41 rfl hl (by decide) rfl (fun ls hl => ?_)
      refine lv_iload_n hx hb dX4_readFact_42 rfl (lv_at hl 3 rfl) ?_
      have J92 : iv xp1 0 0 → iv y41_s0 0 1 → ∀ (H : Heap) (locs : List Loc), hp_w D T s H locs → ∀ (ls : Array Slot), lv_has ls 5 [(0, .ref ap0), (1, .int xp1), (3, .int y41_s0)] → WX4_readFact_0 p l e s m below meth c D T ap0 xp1 H locs (F0 m 92 ls []) := by
        intro c92_xp1 c92_y41_s0 H92 locs92 hw ls hl
        refine lv_iload_n hx hb dX4_readFact_92 rfl (lv_at hl 1 rfl) ?_
        refine lv_bipush (v := 10) hx hb dX4_readFact_93 (by decide) ?_
        refine lv_icmp_lt (tgt := 114) hx hb dX4_readFact_95 (by decide) (fun c95 => ?_) (fun c95 => ?_)
        · refine lv_iload_n hx hb dX4_readFact_114 rfl (lv_at hl 2 rfl) ?_
          refine lv_if_eq (tgt := 143) hx hb dX4_readFact_115 (by decide) (fun c115 => ?_) (fun c115 => ?_)
          · have r115tp : iv y41_s0 0 0 := (iv_both c92_y41_s0 (iv_eq (show iv 0 0 0 from ⟨by decide, by decide⟩) c115)).mono (by decide) (by decide)
            refine lv_aload_n hx hb dX4_readFact_143 rfl (lv_at hl 0 rfl) ?_
            refine lv_iload_n hx hb dX4_readFact_144 rfl (lv_at hl 1 rfl) ?_
            refine lv_iconst (v := 1) hx hb dX4_readFact_145 (by decide) ?_
            refine lv_iadd hx hb dX4_readFact_146 ?_
            refine lv_topi (fun x146 ex146 => ?_)
            have bx146 : iv x146 1 1 := iv_add c92_xp1 (show iv 1 1 1 from ⟨by decide, by decide⟩) ex146 (by decide)
            have qx146 := iv_add_eq c92_xp1 (show iv 1 1 1 from ⟨by decide, by decide⟩) ex146 (by decide)
            refine hp_callei (va_runV (As := [.int x146]) (rest := []) ⟨hx, hb, hml, hown, hts⟩ (sX4_readTest_1 l D T ap0 x146 ip0 bx146) (cwV 1 hts gX4_readFact_X4_readTest rfl rfl rfl (by decide +kernel) ⟨Nat.le_of_ble_eq_true rfl, Nat.le_of_ble_eq_true rfl⟩) (hp_preV hG hw hp0 rfl trivial) rfl rfl hl.1 rfl (lv_room (Nat.le_of_ble_eq_true rfl)) dX4_readFact_147 ⟨Nat.zero_le _, Nat.zero_le _⟩) hw (fun x147 st147 t147 H147 locs147 eh147 eg147 bx147 hw => ?_)
            have J170 : ∀ (y170_s0 : Int32), iv y170_s0 0 1 → ∀ (H : Heap) (locs : List Loc), hp_w D T s H locs → ∀ (ls : Array Slot), lv_has ls 5 [] → WX4_readFact_0 p l e s m below meth c D T ap0 xp1 H locs (F0 m 170 ls [.int y170_s0]) := by
              intro y170_s0 c170_y170_s0 H170 locs170 hw ls hl
              exact W.zret (v := y170_s0) hx hb hr (iv_nz c170_y170_s0) (fun t ht hW => ⟨some (.int y170_s0), rfl, ⟨y170_s0, rfl, c170_y170_s0⟩, by rw [ht]; exact hw.1, hw.2.F ht⟩) hw.2.2.2 dX4_readFact_170
            have J169 : ∀ (H : Heap) (locs : List Loc), hp_w D T s H locs → ∀ (ls : Array Slot), lv_has ls 5 [] → WX4_readFact_0 p l e s m below meth c D T ap0 xp1 H locs (F0 m 169 ls []) := by
              intro H169 locs169 hw ls hl
              refine lv_iconst (v := 0) hx hb dX4_readFact_169 (by decide) ?_
              exact J170 (0 : Int32) (show iv 0 0 1 from ⟨by decide, by decide⟩) H169 locs169 hw _ (lv_sub hl [] rfl)
            refine lv_if_eq (tgt := 169) hx hb dX4_readFact_150 (by decide) (fun c150 => ?_) (fun c150 => ?_)
            · have r150tp : iv x147 0 0 := (iv_both bx147 (iv_eq (show iv 0 0 0 from ⟨by decide, by decide⟩) c150)).mono (by decide) (by decide)
              exact J169 H147 locs147 hw _ (lv_sub hl [] rfl)
            · have r150fp : iv x147 1 1 := (iv_ne_lo c150 bx147 rfl).mono (by decide) (by decide)
              refine lv_aload_n hx hb dX4_readFact_153 rfl (lv_at hl 0 rfl) ?_
              refine hp_getr hx hb hts IX4 hown hK hw.1 hp0 rfl 0 (by decide) L26 rfl dX4_readFact_154 ?_
              refine va_ldcS hx hb hown hG.2.2.1.1 dX4_readFact_157 ?_
              refine hp_callei (va_runV (As := [.ref (D.2.2.1 0)]) (rest := []) ⟨hx, hb, hml, hown, hts⟩ (sX7_needSign l D T ap0tp 0 ip0tp (by decide)) (cwV 1 hts gX4_readFact_X7_needSign rfl rfl rfl (by decide +kernel) ⟨Nat.le_of_ble_eq_true rfl, Nat.le_of_ble_eq_true rfl⟩) (hp_preV hG hw hp0tp rfl trivial) rfl rfl hl.1 rfl (lv_room (Nat.le_of_ble_eq_true rfl)) dX4_readFact_159 ⟨Nat.zero_le _, Nat.zero_le _⟩) hw (fun x159 st159 t159 H159 locs159 eh159 eg159 bx159 hw => ?_)
              refine lv_if_eq (tgt := 169) hx hb dX4_readFact_162 (by decide) (fun c162 => ?_) (fun c162 => ?_)
              · have r162tp : iv x159 0 0 := (iv_both bx159 (iv_eq (show iv 0 0 0 from ⟨by decide, by decide⟩) c162)).mono (by decide) (by decide)
                exact J169 H159 locs159 hw _ (lv_sub hl [] rfl)
              · have r162fp : iv x159 1 1 := (iv_ne_lo c162 bx159 rfl).mono (by decide) (by decide)
                refine lv_iconst (v := 1) hx hb dX4_readFact_165 (by decide) ?_
                refine lv_goto (tgt := 170) hx hb dX4_readFact_166 (by decide) ?_
                exact J170 (1 : Int32) (show iv 1 0 1 from ⟨by decide, by decide⟩) H159 locs159 hw _ (lv_sub hl [] rfl)
          · have r115fp : iv y41_s0 1 1 := (iv_ne_lo c115 c92_y41_s0 rfl).mono (by decide) (by decide)
            refine lv_aload_n hx hb dX4_readFact_118 rfl (lv_at hl 0 rfl) ?_
            refine lv_iload_n hx hb dX4_readFact_119 rfl (lv_at hl 1 rfl) ?_
            refine lv_iconst (v := 1) hx hb dX4_readFact_120 (by decide) ?_
            refine lv_iadd hx hb dX4_readFact_121 ?_
            refine lv_topi (fun x121 ex121 => ?_)
            have bx121 : iv x121 1 1 := iv_add c92_xp1 (show iv 1 1 1 from ⟨by decide, by decide⟩) ex121 (by decide)
            have qx121 := iv_add_eq c92_xp1 (show iv 1 1 1 from ⟨by decide, by decide⟩) ex121 (by decide)
            refine hp_callei (va_runV (As := [.int x121]) (rest := []) ⟨hx, hb, hml, hown, hts⟩ (sX4_readFact_1 l D T ap0 x121 ip0 bx121) (cwV 1 hts gX4_readFact_X4_readFact rfl rfl rfl (by decide +kernel) ⟨Nat.le_of_ble_eq_true rfl, Nat.le_of_ble_eq_true rfl⟩) (hp_preV hG hw hp0 rfl trivial) rfl rfl hl.1 rfl (lv_room (Nat.le_of_ble_eq_true rfl)) dX4_readFact_122 ⟨Nat.zero_le _, Nat.zero_le _⟩) hw (fun x122 st122 t122 H122 locs122 eh122 eg122 bx122 hw => ?_)
            have J142 : ∀ (y142_s0 : Int32), iv y142_s0 0 1 → ∀ (H : Heap) (locs : List Loc), hp_w D T s H locs → ∀ (ls : Array Slot), lv_has ls 5 [] → WX4_readFact_0 p l e s m below meth c D T ap0 xp1 H locs (F0 m 142 ls [.int y142_s0]) := by
              intro y142_s0 c142_y142_s0 H142 locs142 hw ls hl
              exact W.zret (v := y142_s0) hx hb hr (iv_nz c142_y142_s0) (fun t ht hW => ⟨some (.int y142_s0), rfl, ⟨y142_s0, rfl, c142_y142_s0⟩, by rw [ht]; exact hw.1, hw.2.F ht⟩) hw.2.2.2 dX4_readFact_142
            have J141 : ∀ (H : Heap) (locs : List Loc), hp_w D T s H locs → ∀ (ls : Array Slot), lv_has ls 5 [] → WX4_readFact_0 p l e s m below meth c D T ap0 xp1 H locs (F0 m 141 ls []) := by
              intro H141 locs141 hw ls hl
              refine lv_iconst (v := 0) hx hb dX4_readFact_141 (by decide) ?_
              exact J142 (0 : Int32) (show iv 0 0 1 from ⟨by decide, by decide⟩) H141 locs141 hw _ (lv_sub hl [] rfl)
            refine lv_if_eq (tgt := 141) hx hb dX4_readFact_125 (by decide) (fun c125 => ?_) (fun c125 => ?_)
            · have r125tp : iv x122 0 0 := (iv_both bx122 (iv_eq (show iv 0 0 0 from ⟨by decide, by decide⟩) c125)).mono (by decide) (by decide)
              exact J141 H122 locs122 hw _ (lv_sub hl [] rfl)
            · have r125fp : iv x122 1 1 := (iv_ne_lo c125 bx122 rfl).mono (by decide) (by decide)
              refine lv_aload_n hx hb dX4_readFact_128 rfl (lv_at hl 0 rfl) ?_
              refine lv_bipush (v := (-43)) hx hb dX4_readFact_129 (by decide) ?_
              refine hp_callei (va_runV (As := [.int (-43)]) (rest := []) ⟨hx, hb, hml, hown, hts⟩ (sX4_write l D T ap0 ((-43) : Int32) ip0) (cwV 1 hts gX4_readFact_X4_write rfl rfl rfl (by decide +kernel) ⟨Nat.le_of_ble_eq_true rfl, Nat.le_of_ble_eq_true rfl⟩) (hp_preV hG hw hp0 rfl trivial) rfl rfl hl.1 rfl (lv_room (Nat.le_of_ble_eq_true rfl)) dX4_readFact_131 ⟨Nat.zero_le _, Nat.zero_le _⟩) hw (fun x131 st131 t131 H131 locs131 eh131 eg131 bx131 hw => ?_)
              refine lv_if_eq (tgt := 141) hx hb dX4_readFact_134 (by decide) (fun c134 => ?_) (fun c134 => ?_)
              · exact iv_abs2 c134 bx131 (show iv 0 0 0 from ⟨by decide, by decide⟩) (by decide)
              · refine lv_iconst (v := 1) hx hb dX4_readFact_137 (by decide) ?_
                refine lv_goto (tgt := 142) hx hb dX4_readFact_138 (by decide) ?_
                exact J142 (1 : Int32) (show iv 1 0 1 from ⟨by decide, by decide⟩) H131 locs131 hw _ (lv_sub hl [] rfl)
        · exact iv_abs (iv_le_l (iv_nlt c95) (show iv 10 10 10 from ⟨by decide, by decide⟩) c92_xp1) (by decide)
      refine lv_if_ne (tgt := 92) hx hb dX4_readFact_43 (by decide) (fun c43 => ?_) (fun c43 => ?_)
      · have r43tp : iv y18_s0 1 1 := (iv_ne_lo c43 c41_y18_s0 rfl).mono (by decide) (by decide)
        exact J92 c41_xp1 c41_y41_s0 H41 locs41 hw _ (lv_sub hl [1, 2, 0] rfl)
      · have r43fp : iv y18_s0 0 0 := (iv_both c41_y18_s0 (iv_eq (show iv 0 0 0 from ⟨by decide, by decide⟩) c43)).mono (by decide) (by decide)
        refine lv_iload_n hx hb dX4_readFact_46 rfl (lv_at hl 0 rfl) ?_
        refine lv_if_ne (tgt := 92) hx hb dX4_readFact_47 (by decide) (fun c47 => ?_) (fun c47 => ?_)
        · have r47tp : iv y41_s0 1 1 := (iv_ne_lo c47 c41_y41_s0 rfl).mono (by decide) (by decide)
          exact J92 c41_xp1 (r47tp.mono (by decide) (by decide)) H41 locs41 hw _ (lv_sub hl [1, 2, 0] rfl)
        · have r47fp : iv y41_s0 0 0 := (iv_both c41_y41_s0 (iv_eq (show iv 0 0 0 from ⟨by decide, by decide⟩) c47)).mono (by decide) (by decide)
          refine lv_aload_n hx hb dX4_readFact_50 rfl (lv_at hl 1 rfl) ?_
          refine hp_callei (va_runV (As := []) (rest := []) ⟨hx, hb, hml, hown, hts⟩ (sX4_readSum l D T ap0 ip0) (cwV 0 hts gX4_readFact_X4_readSum rfl rfl rfl (by decide +kernel) ⟨Nat.le_of_ble_eq_true rfl, Nat.le_of_ble_eq_true rfl⟩) (hp_preV hG hw hp0 rfl trivial) rfl rfl hl.1 rfl (lv_room (Nat.le_of_ble_eq_true rfl)) dX4_readFact_51 ⟨Nat.zero_le _, Nat.zero_le _⟩) hw (fun x51 st51 t51 H51 locs51 eh51 eg51 bx51 hw => ?_)
          refine lv_if_ne (tgt := 59) hx hb dX4_readFact_54 (by decide) (fun c54 => ?_) (fun c54 => ?_)
          · have r54tp : iv x51 1 1 := (iv_ne_lo c54 bx51 rfl).mono (by decide) (by decide)
            refine lv_aload_n hx hb dX4_readFact_59 rfl (lv_at hl 1 rfl) ?_
            refine hp_callei (va_runV (As := []) (rest := []) ⟨hx, hb, hml, hown, hts⟩ (sX4_readSign l D T ap0 ip0) (cwV 0 hts gX4_readFact_X4_readSign rfl rfl rfl (by decide +kernel) ⟨Nat.le_of_ble_eq_true rfl, Nat.le_of_ble_eq_true rfl⟩) (hp_preV hG hw hp0 rfl trivial) rfl rfl hl.1 rfl (lv_room (Nat.le_of_ble_eq_true rfl)) dX4_readFact_60 ⟨Nat.zero_le _, Nat.zero_le _⟩) hw (fun x60 st60 t60 H60 locs60 eh60 eg60 bx60 hw => ?_)
            refine lv_istore (lv' := [(4, .int x60), (3, .int y41_s0), (0, .ref ap0), (1, .int xp1), (2, .int y18_s0)]) hx hb dX4_readFact_63 hl (by decide) rfl (fun ls hl => ?_)
            refine lv_iload hx hb dX4_readFact_65 (lv_at hl 0 rfl) ?_
            have J91 : ∀ (y91_s0 : Int32), iv y91_s0 0 1 → ∀ (H : Heap) (locs : List Loc), hp_w D T s H locs → ∀ (ls : Array Slot), lv_has ls 5 [] → WX4_readFact_0 p l e s m below meth c D T ap0 xp1 H locs (F0 m 91 ls [.int y91_s0]) := by
              intro y91_s0 c91_y91_s0 H91 locs91 hw ls hl
              exact W.zret (v := y91_s0) hx hb hr (iv_nz c91_y91_s0) (fun t ht hW => ⟨some (.int y91_s0), rfl, ⟨y91_s0, rfl, c91_y91_s0⟩, by rw [ht]; exact hw.1, hw.2.F ht⟩) hw.2.2.2 dX4_readFact_91
            have J90 : ∀ (H : Heap) (locs : List Loc), hp_w D T s H locs → ∀ (ls : Array Slot), lv_has ls 5 [] → WX4_readFact_0 p l e s m below meth c D T ap0 xp1 H locs (F0 m 90 ls []) := by
              intro H90 locs90 hw ls hl
              refine lv_iconst (v := 0) hx hb dX4_readFact_90 (by decide) ?_
              exact J91 (0 : Int32) (show iv 0 0 1 from ⟨by decide, by decide⟩) H90 locs90 hw _ (lv_sub hl [] rfl)
            refine lv_if_eq (tgt := 90) hx hb dX4_readFact_67 (by decide) (fun c67 => ?_) (fun c67 => ?_)
            · have r67tp : iv x60 0 0 := (iv_both (iv_any x60) (iv_eq (show iv 0 0 0 from ⟨by decide, by decide⟩) c67)).mono (by decide) (by decide)
              exact J90 H60 locs60 hw _ (lv_sub hl [] rfl)
            · refine lv_aload_n hx hb dX4_readFact_70 rfl (lv_at hl 2 rfl) ?_
              refine hp_callei (va_runV (As := []) (rest := []) ⟨hx, hb, hml, hown, hts⟩ (sX4_readSum l D T ap0 ip0) (cwV 0 hts gX4_readFact_X4_readSum rfl rfl rfl (by decide +kernel) ⟨Nat.le_of_ble_eq_true rfl, Nat.le_of_ble_eq_true rfl⟩) (hp_preV hG hw hp0 rfl trivial) rfl rfl hl.1 rfl (lv_room (Nat.le_of_ble_eq_true rfl)) dX4_readFact_71 ⟨Nat.zero_le _, Nat.zero_le _⟩) hw (fun x71 st71 t71 H71 locs71 eh71 eg71 bx71 hw => ?_)
              refine lv_if_eq (tgt := 90) hx hb dX4_readFact_74 (by decide) (fun c74 => ?_) (fun c74 => ?_)
              · have r74tp : iv x71 0 0 := (iv_both bx71 (iv_eq (show iv 0 0 0 from ⟨by decide, by decide⟩) c74)).mono (by decide) (by decide)
                exact J90 H71 locs71 hw _ (lv_sub hl [] rfl)
              · have r74fp : iv x71 1 1 := (iv_ne_lo c74 bx71 rfl).mono (by decide) (by decide)
                refine lv_aload_n hx hb dX4_readFact_77 rfl (lv_at hl 2 rfl) ?_
                refine lv_iload hx hb dX4_readFact_78 (lv_at hl 0 rfl) ?_
                refine hp_callei (va_runV (As := [.int x60]) (rest := []) ⟨hx, hb, hml, hown, hts⟩ (sX4_write l D T ap0 x60 ip0) (cwV 1 hts gX4_readFact_X4_write rfl rfl rfl (by decide +kernel) ⟨Nat.le_of_ble_eq_true rfl, Nat.le_of_ble_eq_true rfl⟩) (hp_preV hG hw hp0 rfl trivial) rfl rfl hl.1 rfl (lv_room (Nat.le_of_ble_eq_true rfl)) dX4_readFact_80 ⟨Nat.zero_le _, Nat.zero_le _⟩) hw (fun x80 st80 t80 H80 locs80 eh80 eg80 bx80 hw => ?_)
                refine lv_if_eq (tgt := 90) hx hb dX4_readFact_83 (by decide) (fun c83 => ?_) (fun c83 => ?_)
                · exact iv_abs2 c83 bx80 (show iv 0 0 0 from ⟨by decide, by decide⟩) (by decide)
                · refine lv_iconst (v := 1) hx hb dX4_readFact_86 (by decide) ?_
                  refine lv_goto (tgt := 91) hx hb dX4_readFact_87 (by decide) ?_
                  exact J91 (1 : Int32) (show iv 1 0 1 from ⟨by decide, by decide⟩) H80 locs80 hw _ (lv_sub hl [] rfl)
          · have r54fp : iv x51 0 0 := (iv_both bx51 (iv_eq (show iv 0 0 0 from ⟨by decide, by decide⟩) c54)).mono (by decide) (by decide)
            refine lv_iconst (v := 0) hx hb dX4_readFact_57 (by decide) ?_
            exact W.zret (v := 0) hx hb hr (iv_nz (show iv 0 0 1 from ⟨by decide, by decide⟩)) (fun t ht hW => ⟨some (.int 0), rfl, ⟨(0 : Int32), rfl, (show iv 0 0 1 from ⟨by decide, by decide⟩)⟩, by rw [ht]; exact hw.1, hw.2.F ht⟩) hw.2.2.2 dX4_readFact_58
    have J40 : iv xp1 0 0 → iv y18_s0 0 1 → ∀ (H : Heap) (locs : List Loc), hp_w D T s H locs → ∀ (ls : Array Slot), lv_has ls 5 [(0, .ref ap0), (1, .int xp1), (2, .int y18_s0)] → WX4_readFact_0 p l e s m below meth c D T ap0 xp1 H locs (F0 m 40 ls []) := by
      intro c40_xp1 c40_y18_s0 H40 locs40 hw ls hl
      refine lv_iconst (v := 0) hx hb dX4_readFact_40 (by decide) ?_
      exact J41 (0 : Int32) c40_xp1 c40_y18_s0 (show iv 0 0 1 from ⟨by decide, by decide⟩) H40 locs40 hw _ (lv_sub hl [0, 1, 2] rfl)
    refine lv_if_ne (tgt := 40) hx hb dX4_readFact_20 (by decide) (fun c20 => ?_) (fun c20 => ?_)
    · have r20tp : iv y18_s0 1 1 := (iv_ne_lo c20 c18_y18_s0 rfl).mono (by decide) (by decide)
      exact J40 c18_xp1 (r20tp.mono (by decide) (by decide)) H18 locs18 hw _ (lv_sub hl [1, 2, 0] rfl)
    · have r20fp : iv y18_s0 0 0 := (iv_both c18_y18_s0 (iv_eq (show iv 0 0 0 from ⟨by decide, by decide⟩) c20)).mono (by decide) (by decide)
      refine lv_aload_n hx hb dX4_readFact_23 rfl (lv_at hl 1 rfl) ?_
      refine hp_getr hx hb hts IX4 hown hK hw.1 hp0 rfl 0 (by decide) L26 rfl dX4_readFact_24 ?_
      refine va_ldcS hx hb hown hG.2.2.1.2.2.2.2.2.2.2.2.2.1 dX4_readFact_27 ?_
      refine hp_callei (va_runV (As := [.ref (D.2.2.1 9)]) (rest := []) ⟨hx, hb, hml, hown, hts⟩ (sX7_takeWord l D T ap0tp 9 ip0tp (by decide)) (cwV 1 hts gX4_readFact_X7_takeWord rfl rfl rfl (by decide +kernel) ⟨Nat.le_of_ble_eq_true rfl, Nat.le_of_ble_eq_true rfl⟩) (hp_preV hG hw hp0tp rfl trivial) rfl rfl hl.1 rfl (lv_room (Nat.le_of_ble_eq_true rfl)) dX4_readFact_29 ⟨Nat.zero_le _, Nat.zero_le _⟩) hw (fun x29 st29 t29 H29 locs29 eh29 eg29 bx29 hw => ?_)
      refine lv_iconst (v := (-1)) hx hb dX4_readFact_32 (by decide) ?_
      refine lv_icmp_eq (tgt := 40) hx hb dX4_readFact_33 (by decide) (fun c33 => ?_) (fun c33 => ?_)
      · have r33tp : iv x29 (-1) (-1) := (iv_both (iv_any x29) (iv_eq (show iv (-1) (-1) (-1) from ⟨by decide, by decide⟩) c33)).mono (by decide) (by decide)
        exact J40 c18_xp1 (r20fp.mono (by decide) (by decide)) H29 locs29 hw _ (lv_sub hl [1, 2, 0] rfl)
      · refine lv_iconst (v := 1) hx hb dX4_readFact_36 (by decide) ?_
        refine lv_goto (tgt := 41) hx hb dX4_readFact_37 (by decide) ?_
        exact J41 (1 : Int32) c18_xp1 (r20fp.mono (by decide) (by decide)) (show iv 1 0 1 from ⟨by decide, by decide⟩) H29 locs29 hw _ (lv_sub hl [1, 2, 0] rfl)
  refine lv_icmp_eq (tgt := 17) hx hb dX4_readFact_10 (by decide) (fun c10 => ?_) (fun c10 => ?_)
  · have r10tp : iv x6 (-1) (-1) := (iv_both (iv_any x6) (iv_eq (show iv (-1) (-1) (-1) from ⟨by decide, by decide⟩) c10)).mono (by decide) (by decide)
    refine lv_iconst (v := 0) hx hb dX4_readFact_17 (by decide) ?_
    exact J18 (0 : Int32) bp1 (show iv 0 0 1 from ⟨by decide, by decide⟩) H6 locs6 hw _ (lv_sub hl [0, 1] rfl)
  · refine lv_iconst (v := 1) hx hb dX4_readFact_13 (by decide) ?_
    refine lv_goto (tgt := 18) hx hb dX4_readFact_14 (by decide) ?_
    exact J18 (1 : Int32) bp1 (show iv 1 0 1 from ⟨by decide, by decide⟩) H6 locs6 hw _ (lv_sub hl [0, 1] rfl)
abbrev WX4_readTest_0 (p : Program) (l : Launch) (e : Env) (s : State) (m : MethodId) (below : List Frame) (meth : Method) (c : Code) (D : hp_D) (T : hp_T) (ap0 : Nat) (xp1 : Int32) (H : Heap) (locs : List Loc) (g : JFrame) : Prop := W p l e (headSpec wsX4_readTest ({ frames := 28, cells := 0, slots := 0, locals := 689 })).room s m ([.ref ap0, .int xp1] : List Value).toArray below meth c H locs 0 0 (MQ below (hq_e D T (fun v _ _ => ∃ r : Int32, v = some (.int r) ∧ iv r 0 1)) ([.ref ap0, .int xp1] : List Value).toArray s 0 0 (hp_F T)) g
set_option maxHeartbeats 4000000 in
set_option maxRecDepth 100000 in
theorem sX4_readTest_0 (l : Launch) (D : hp_D) (T : hp_T) (ap0 : Nat) (xp1 : Int32) (ip0 : isRuleReader T ap0) (bp1 : iv xp1 0 0) : Met l yX4_readTest wsX4_readTest ({ frames := 28, cells := 0, slots := 0, locals := 689 }) (hp_Pc D T [.ref ap0, .int xp1] (fun _ => True)) (hq_e D T (fun v _ _ => ∃ r : Int32, v = some (.int r) ∧ iv r 0 1)) 0 0 (hp_F T) := by
  obtain ⟨ap0tp, ap0stp, hp0, ip0tp, hp0stp⟩ := id ip0
  obtain ⟨ap0tpbt, hp0tp, hp0tpbt⟩ := id ip0tp
  refine Met.ofW (cc := cX4_readTest) (maxL := 6) (ret := (some .boolean)) (by decide) rfl ?_
  intro p e s m args below meth c s₁ B hml hv
  obtain ⟨rfl, hok, hG, hB⟩ := hv
  have hx := B.exec
  have hb := B.bytes
  have hr := B.returns
  have hts := atoms_spec (ws := wsX4_readTest) B.pre
  have hown : s.vm.findClass RX4 = some m.cls := findClass_of_methodNamed B.named
  have hlocks := B.notSynchronized
  have hK := hG.1
  have hw : hp_w D T s s.heap [] := hp_w.rf hok
  have IX4 : ∀ w ∈ wsX40, w ∈ wsX4_readTest := by decide +kernel
  have L26 := hts (.fieldLink RX4 26 "PalmCensus$RuleReader" "tape" "LPalmCensus$Tape;") (by decide +kernel)
  have hl := lv_entry ([.ref ap0, .int xp1]) (n := 6) (Nat.le_of_ble_eq_true rfl)
  rw [lg_entry_eq]
  generalize (lg_sl ([.ref ap0, .int xp1]) ++ List.replicate (6 - (lg_sl ([.ref ap0, .int xp1])).length) Slot.unset).toArray = ls at hl ⊢
  have hl : lv_has ls 6 [(0, .ref ap0), (1, .int xp1)] := hl
  show WX4_readTest_0 p l e s m below meth c D T ap0 xp1 s.heap [] (F0 m 0 ls [])
  refine lv_aload_n hx hb dX4_readTest_0 rfl (lv_at hl 0 rfl) ?_
  refine lv_iload_n hx hb dX4_readTest_1 rfl (lv_at hl 1 rfl) ?_
  refine hp_callei (va_runV (As := [.int xp1]) (rest := []) ⟨hx, hb, hml, hown, hts⟩ (sX4_readFact_0 l D T ap0 xp1 ip0 bp1) (cwV 1 hts gX4_readTest_X4_readFact rfl rfl rfl (by decide +kernel) ⟨Nat.le_of_ble_eq_true rfl, Nat.le_of_ble_eq_true rfl⟩) (hp_preV hG hw hp0 rfl trivial) rfl rfl hl.1 rfl (lv_room (Nat.le_of_ble_eq_true rfl)) dX4_readTest_2 ⟨Nat.zero_le _, Nat.zero_le _⟩) hw (fun x2 st2 t2 H2 locs2 eh2 eg2 bx2 hw => ?_)
  refine lv_if_ne (tgt := 10) hx hb dX4_readTest_5 (by decide) (fun c5 => ?_) (fun c5 => ?_)
  · have r5tp : iv x2 1 1 := (iv_ne_lo c5 bx2 rfl).mono (by decide) (by decide)
    refine lv_iconst (v := 0) hx hb dX4_readTest_10 (by decide) ?_
    refine lv_istore_n (lv' := [(2, .int 0), (0, .ref ap0), (1, .int xp1)]) hx hb dX4_readTest_11 rfl hl (by decide) rfl (fun ls hl => ?_)
    refine lv_iconst (v := 0) hx hb dX4_readTest_12 (by decide) ?_
    refine lv_istore_n (lv' := [(3, .int 0), (2, .int 0), (0, .ref ap0), (1, .int xp1)]) hx hb dX4_readTest_13 rfl hl (by decide) rfl (fun ls hl => ?_)
    have J14 : ∀ (n : Nat) (y14_l2 y14_l3 : Int32), (400 - y14_l3.toInt).toNat < n → iv xp1 0 0 → iv y14_l2 0 1 → iv y14_l3 0 400 → ∀ (H : Heap) (locs : List Loc), hp_w D T s H locs → ∀ (ls : Array Slot), lv_has ls 6 [(0, .ref ap0), (1, .int xp1), (2, .int y14_l2), (3, .int y14_l3)] → WX4_readTest_0 p l e s m below meth c D T ap0 xp1 H locs (F0 m 14 ls []) := by
      intro n
      induction n with
      | zero => intro y14_l2 y14_l3 hmu14 c14_xp1 c14_y14_l2 c14_y14_l3 H14 locs14 hw ls hl; exact absurd hmu14 (Nat.not_lt_zero _)
      | succ n ih14 =>
        intro y14_l2 y14_l3 hmu14 c14_xp1 c14_y14_l2 c14_y14_l3 H14 locs14 hw ls hl
        refine lv_iload_n hx hb dX4_readTest_14 rfl (lv_at hl 3 rfl) ?_
        refine lv_sipush (v := 400) hx hb dX4_readTest_15 (by decide) ?_
        have J103 : iv y14_l2 0 1 → ∀ (H : Heap) (locs : List Loc), hp_w D T s H locs → ∀ (ls : Array Slot), lv_has ls 6 [(0, .ref ap0), (2, .int y14_l2)] → WX4_readTest_0 p l e s m below meth c D T ap0 xp1 H locs (F0 m 103 ls []) := by
          intro c103_y14_l2 H103 locs103 hw ls hl
          refine lv_iload_n hx hb dX4_readTest_103 rfl (lv_at hl 1 rfl) ?_
          have J121 : ∀ (H : Heap) (locs : List Loc), hp_w D T s H locs → ∀ (ls : Array Slot), lv_has ls 6 [] → WX4_readTest_0 p l e s m below meth c D T ap0 xp1 H locs (F0 m 121 ls [.int 1]) := by
            intro H121 locs121 hw ls hl
            exact W.zret (v := 1) hx hb hr (iv_nz (show iv 1 0 1 from ⟨by decide, by decide⟩)) (fun t ht hW => ⟨some (.int 1), rfl, ⟨(1 : Int32), rfl, (show iv 1 0 1 from ⟨by decide, by decide⟩)⟩, by rw [ht]; exact hw.1, hw.2.F ht⟩) hw.2.2.2 dX4_readTest_121
          have J116 : ∀ (H : Heap) (locs : List Loc), hp_w D T s H locs → ∀ (ls : Array Slot), lv_has ls 6 [] → WX4_readTest_0 p l e s m below meth c D T ap0 xp1 H locs (F0 m 116 ls []) := by
            intro H116 locs116 hw ls hl
            refine lv_iconst (v := 1) hx hb dX4_readTest_116 (by decide) ?_
            refine lv_goto (tgt := 121) hx hb dX4_readTest_117 (by decide) ?_
            exact J121 H116 locs116 hw _ (lv_sub hl [] rfl)
          refine lv_if_eq (tgt := 116) hx hb dX4_readTest_104 (by decide) (fun c104 => ?_) (fun c104 => ?_)
          · have r104tp : iv y14_l2 0 0 := (iv_both c103_y14_l2 (iv_eq (show iv 0 0 0 from ⟨by decide, by decide⟩) c104)).mono (by decide) (by decide)
            exact J116 H103 locs103 hw _ (lv_sub hl [] rfl)
          · have r104fp : iv y14_l2 1 1 := (iv_ne_lo c104 c103_y14_l2 rfl).mono (by decide) (by decide)
            refine lv_aload_n hx hb dX4_readTest_107 rfl (lv_at hl 0 rfl) ?_
            refine lv_bipush (v := (-42)) hx hb dX4_readTest_108 (by decide) ?_
            refine hp_callei (va_runV (As := [.int (-42)]) (rest := []) ⟨hx, hb, hml, hown, hts⟩ (sX4_write l D T ap0 ((-42) : Int32) ip0) (cwV 1 hts gX4_readTest_X4_write rfl rfl rfl (by decide +kernel) ⟨Nat.le_of_ble_eq_true rfl, Nat.le_of_ble_eq_true rfl⟩) (hp_preV hG hw hp0 rfl trivial) rfl rfl hl.1 rfl (lv_room (Nat.le_of_ble_eq_true rfl)) dX4_readTest_110 ⟨Nat.zero_le _, Nat.zero_le _⟩) hw (fun x110 st110 t110 H110 locs110 eh110 eg110 bx110 hw => ?_)
            refine lv_if_eq (tgt := 120) hx hb dX4_readTest_113 (by decide) (fun c113 => ?_) (fun c113 => ?_)
            · exact iv_abs2 c113 bx110 (show iv 0 0 0 from ⟨by decide, by decide⟩) (by decide)
            · exact J116 H110 locs110 hw _ (lv_sub hl [] rfl)
        refine lv_icmp_ge (tgt := 103) hx hb dX4_readTest_18 (by decide) (fun c18 => ?_) (fun c18 => ?_)
        · have r18tq : iv y14_l3 400 400 := (iv_le_r c18 (show iv 400 400 400 from ⟨by decide, by decide⟩) c14_y14_l3).mono (by decide) (by decide)
          exact J103 c14_y14_l2 H14 locs14 hw _ (lv_sub hl [0, 2] rfl)
        · have r18fp : iv y14_l3 0 399 := (iv_lt_l (iv_nle c18) c14_y14_l3 (show iv 400 400 400 from ⟨by decide, by decide⟩)).mono (by decide) (by decide)
          refine lv_aload_n hx hb dX4_readTest_21 rfl (lv_at hl 0 rfl) ?_
          refine hp_getr hx hb hts IX4 hown hK hw.1 hp0 rfl 0 (by decide) L26 rfl dX4_readTest_22 ?_
          refine va_ldcS hx hb hown hG.2.2.1.2.2.2.2.2.2.2.1 dX4_readTest_25 ?_
          refine hp_callei (va_runV (As := [.ref (D.2.2.1 7)]) (rest := []) ⟨hx, hb, hml, hown, hts⟩ (sX7_takeWord l D T ap0tp 7 ip0tp (by decide)) (cwV 1 hts gX4_readTest_X7_takeWord rfl rfl rfl (by decide +kernel) ⟨Nat.le_of_ble_eq_true rfl, Nat.le_of_ble_eq_true rfl⟩) (hp_preV hG hw hp0tp rfl trivial) rfl rfl hl.1 rfl (lv_room (Nat.le_of_ble_eq_true rfl)) dX4_readTest_27 ⟨Nat.zero_le _, Nat.zero_le _⟩) hw (fun x27 st27 t27 H27 locs27 eh27 eg27 bx27 hw => ?_)
          refine lv_istore (lv' := [(4, .int x27), (0, .ref ap0), (1, .int xp1), (2, .int y14_l2), (3, .int y14_l3)]) hx hb dX4_readTest_30 hl (by decide) rfl (fun ls hl => ?_)
          refine lv_iload hx hb dX4_readTest_32 (lv_at hl 0 rfl) ?_
          refine lv_iconst (v := (-1)) hx hb dX4_readTest_34 (by decide) ?_
          refine lv_icmp_ne (tgt := 41) hx hb dX4_readTest_35 (by decide) (fun c35 => ?_) (fun c35 => ?_)
          · refine lv_iload hx hb dX4_readTest_41 (lv_at hl 0 rfl) ?_
            refine lv_iconst (v := 1) hx hb dX4_readTest_43 (by decide) ?_
            have J52 : ∀ (y52_s0 : Int32), iv xp1 0 0 → iv y14_l2 0 1 → iv y14_l3 0 399 → iv y52_s0 0 1 → ∀ (H : Heap) (locs : List Loc), hp_w D T s H locs → ∀ (ls : Array Slot), lv_has ls 6 [(0, .ref ap0), (1, .int xp1), (2, .int y14_l2), (3, .int y14_l3)] → WX4_readTest_0 p l e s m below meth c D T ap0 xp1 H locs (F0 m 52 ls [.int y52_s0]) := by
              intro y52_s0 c52_xp1 c52_y14_l2 c52_y14_l3 c52_y52_s0 H52 locs52 hw ls hl
              refine lv_istore (lv' := [(5, .int y52_s0), (0, .ref ap0), (1, .int xp1), (2, .int y14_l2), (3, .int y14_l3)]) hx hb dX4_readTest_52 hl (by decide) rfl (fun ls hl => ?_)
              refine lv_iload hx hb dX4_readTest_54 (lv_at hl 0 rfl) ?_
              have J70 : iv xp1 0 0 → iv y14_l2 0 1 → iv y14_l3 0 399 → iv y52_s0 0 1 → ∀ (H : Heap) (locs : List Loc), hp_w D T s H locs → ∀ (ls : Array Slot), lv_has ls 6 [(0, .ref ap0), (1, .int xp1), (2, .int y14_l2), (3, .int y14_l3), (5, .int y52_s0)] → WX4_readTest_0 p l e s m below meth c D T ap0 xp1 H locs (F0 m 70 ls []) := by
                intro c70_xp1 c70_y14_l2 c70_y14_l3 c70_y52_s0 H70 locs70 hw ls hl
                refine lv_iload_n hx hb dX4_readTest_70 rfl (lv_at hl 2 rfl) ?_
                refine lv_iload hx hb dX4_readTest_71 (lv_at hl 4 rfl) ?_
                refine lv_ior hx hb dX4_readTest_73 ?_
                refine lv_topi (fun x73 ex73 => ?_)
                have bx73 : iv x73 0 1 := iv_or 1 c70_y14_l2 c70_y52_s0 ex73 (by decide) (by decide)
                refine lv_istore_n (lv' := [(2, .int x73), (0, .ref ap0), (1, .int xp1), (3, .int y14_l3), (5, .int y52_s0)]) hx hb dX4_readTest_74 rfl hl (by decide) rfl (fun ls hl => ?_)
                refine lv_aload_n hx hb dX4_readTest_75 rfl (lv_at hl 1 rfl) ?_
                refine lv_iload_n hx hb dX4_readTest_76 rfl (lv_at hl 2 rfl) ?_
                refine hp_callei (va_runV (As := [.int xp1]) (rest := []) ⟨hx, hb, hml, hown, hts⟩ (sX4_readFact_0 l D T ap0 xp1 ip0 c70_xp1) (cwV 1 hts gX4_readTest_X4_readFact rfl rfl rfl (by decide +kernel) ⟨Nat.le_of_ble_eq_true rfl, Nat.le_of_ble_eq_true rfl⟩) (hp_preV hG hw hp0 rfl trivial) rfl rfl hl.1 rfl (lv_room (Nat.le_of_ble_eq_true rfl)) dX4_readTest_77 ⟨Nat.zero_le _, Nat.zero_le _⟩) hw (fun x77 st77 t77 H77 locs77 eh77 eg77 bx77 hw => ?_)
                refine lv_if_ne (tgt := 85) hx hb dX4_readTest_80 (by decide) (fun c80 => ?_) (fun c80 => ?_)
                · have r80tp : iv x77 1 1 := (iv_ne_lo c80 bx77 rfl).mono (by decide) (by decide)
                  refine lv_iload hx hb dX4_readTest_85 (lv_at hl 4 rfl) ?_
                  have J97 : iv xp1 0 0 → iv x73 0 1 → iv y14_l3 0 399 → ∀ (H : Heap) (locs : List Loc), hp_w D T s H locs → ∀ (ls : Array Slot), lv_has ls 6 [(0, .ref ap0), (1, .int xp1), (2, .int x73), (3, .int y14_l3)] → WX4_readTest_0 p l e s m below meth c D T ap0 xp1 H locs (F0 m 97 ls []) := by
                    intro c97_xp1 c97_x73 c97_y14_l3 H97 locs97 hw ls hl
                    obtain ⟨x97, ex97⟩ : ∃ y : Int32, y = y14_l3 + 1 := ⟨_, rfl⟩
                    have bx97 : iv x97 1 400 := iv_add c97_y14_l3 (show iv 1 1 1 from ⟨by decide, by decide⟩) ex97 (by decide)
                    have qx97 := iv_add_eq c97_y14_l3 (show iv 1 1 1 from ⟨by decide, by decide⟩) ex97 (by decide)
                    refine lv_iinc (v := x97) (lv' := [(3, .int x97), (0, .ref ap0), (1, .int xp1), (2, .int x73)]) hx hb dX4_readTest_97 hl (k := 3) rfl (by rw [ex97]; rfl) (by decide) rfl (fun ls hl => ?_)
                    refine lv_goto (tgt := 14) hx hb dX4_readTest_100 (by decide) ?_
                    exact ih14 x73 x97 (mu_up 1 hmu14 (qx97) (by decide) (show iv x97 0 400 from (bx97.mono (by decide) (by decide))).2) c97_xp1 c97_x73 (bx97.mono (by decide) (by decide)) H97 locs97 hw _ (lv_sub hl [1, 2, 3, 0] rfl)
                  refine lv_if_ne (tgt := 97) hx hb dX4_readTest_87 (by decide) (fun c87 => ?_) (fun c87 => ?_)
                  · have r87tp : iv y52_s0 1 1 := (iv_ne_lo c87 c70_y52_s0 rfl).mono (by decide) (by decide)
                    exact J97 c70_xp1 bx73 c70_y14_l3 H77 locs77 hw _ (lv_sub hl [1, 2, 0, 3] rfl)
                  · have r87fp : iv y52_s0 0 0 := (iv_both c70_y52_s0 (iv_eq (show iv 0 0 0 from ⟨by decide, by decide⟩) c87)).mono (by decide) (by decide)
                    refine lv_aload_n hx hb dX4_readTest_90 rfl (lv_at hl 1 rfl) ?_
                    refine lv_bipush (v := (-41)) hx hb dX4_readTest_91 (by decide) ?_
                    refine hp_callei (va_runV (As := [.int (-41)]) (rest := []) ⟨hx, hb, hml, hown, hts⟩ (sX4_write l D T ap0 ((-41) : Int32) ip0) (cwV 1 hts gX4_readTest_X4_write rfl rfl rfl (by decide +kernel) ⟨Nat.le_of_ble_eq_true rfl, Nat.le_of_ble_eq_true rfl⟩) (hp_preV hG hw hp0 rfl trivial) rfl rfl hl.1 rfl (lv_room (Nat.le_of_ble_eq_true rfl)) dX4_readTest_93 ⟨Nat.zero_le _, Nat.zero_le _⟩) hw (fun x93 st93 t93 H93 locs93 eh93 eg93 bx93 hw => ?_)
                    refine lv_pop hx hb dX4_readTest_96 rfl ?_
                    exact J97 c70_xp1 bx73 c70_y14_l3 H93 locs93 hw _ (lv_sub hl [1, 2, 0, 3] rfl)
                · have r80fp : iv x77 0 0 := (iv_both bx77 (iv_eq (show iv 0 0 0 from ⟨by decide, by decide⟩) c80)).mono (by decide) (by decide)
                  refine lv_iconst (v := 0) hx hb dX4_readTest_83 (by decide) ?_
                  exact W.zret (v := 0) hx hb hr (iv_nz (show iv 0 0 1 from ⟨by decide, by decide⟩)) (fun t ht hW => ⟨some (.int 0), rfl, ⟨(0 : Int32), rfl, (show iv 0 0 1 from ⟨by decide, by decide⟩)⟩, by rw [ht]; exact hw.1, hw.2.F ht⟩) hw.2.2.2 dX4_readTest_84
              refine lv_if_eq (tgt := 70) hx hb dX4_readTest_56 (by decide) (fun c56 => ?_) (fun c56 => ?_)
              · have r56tp : iv y52_s0 0 0 := (iv_both c52_y52_s0 (iv_eq (show iv 0 0 0 from ⟨by decide, by decide⟩) c56)).mono (by decide) (by decide)
                exact J70 c52_xp1 c52_y14_l2 c52_y14_l3 (r56tp.mono (by decide) (by decide)) H52 locs52 hw _ (lv_sub hl [1, 2, 3, 4, 0] rfl)
              · have r56fp : iv y52_s0 1 1 := (iv_ne_lo c56 c52_y52_s0 rfl).mono (by decide) (by decide)
                refine lv_iload_n hx hb dX4_readTest_59 rfl (lv_at hl 3 rfl) ?_
                refine lv_if_eq (tgt := 70) hx hb dX4_readTest_60 (by decide) (fun c60 => ?_) (fun c60 => ?_)
                · have r60tp : iv y14_l2 0 0 := (iv_both c52_y14_l2 (iv_eq (show iv 0 0 0 from ⟨by decide, by decide⟩) c60)).mono (by decide) (by decide)
                  exact J70 c52_xp1 (r60tp.mono (by decide) (by decide)) c52_y14_l3 (r56fp.mono (by decide) (by decide)) H52 locs52 hw _ (lv_sub hl [1, 2, 3, 4, 0] rfl)
                · have r60fp : iv y14_l2 1 1 := (iv_ne_lo c60 c52_y14_l2 rfl).mono (by decide) (by decide)
                  refine lv_aload_n hx hb dX4_readTest_63 rfl (lv_at hl 1 rfl) ?_
                  refine lv_bipush (v := (-42)) hx hb dX4_readTest_64 (by decide) ?_
                  refine hp_callei (va_runV (As := [.int (-42)]) (rest := []) ⟨hx, hb, hml, hown, hts⟩ (sX4_write l D T ap0 ((-42) : Int32) ip0) (cwV 1 hts gX4_readTest_X4_write rfl rfl rfl (by decide +kernel) ⟨Nat.le_of_ble_eq_true rfl, Nat.le_of_ble_eq_true rfl⟩) (hp_preV hG hw hp0 rfl trivial) rfl rfl hl.1 rfl (lv_room (Nat.le_of_ble_eq_true rfl)) dX4_readTest_66 ⟨Nat.zero_le _, Nat.zero_le _⟩) hw (fun x66 st66 t66 H66 locs66 eh66 eg66 bx66 hw => ?_)
                  refine lv_pop hx hb dX4_readTest_69 rfl ?_
                  exact J70 c52_xp1 (r60fp.mono (by decide) (by decide)) c52_y14_l3 (r56fp.mono (by decide) (by decide)) H66 locs66 hw _ (lv_sub hl [1, 2, 3, 4, 0] rfl)
            refine lv_icmp_ne (tgt := 51) hx hb dX4_readTest_44 (by decide) (fun c44 => ?_) (fun c44 => ?_)
            · refine lv_iconst (v := 0) hx hb dX4_readTest_51 (by decide) ?_
              exact J52 (0 : Int32) c14_xp1 c14_y14_l2 r18fp (show iv 0 0 1 from ⟨by decide, by decide⟩) H27 locs27 hw _ (lv_sub hl [1, 2, 3, 4] rfl)
            · have r44fp : iv x27 1 1 := (iv_both (iv_any x27) (iv_eq (show iv 1 1 1 from ⟨by decide, by decide⟩) c44)).mono (by decide) (by decide)
              refine lv_iconst (v := 1) hx hb dX4_readTest_47 (by decide) ?_
              refine lv_goto (tgt := 52) hx hb dX4_readTest_48 (by decide) ?_
              exact J52 (1 : Int32) c14_xp1 c14_y14_l2 r18fp (show iv 1 0 1 from ⟨by decide, by decide⟩) H27 locs27 hw _ (lv_sub hl [1, 2, 3, 4] rfl)
          · have r35fp : iv x27 (-1) (-1) := (iv_both (iv_any x27) (iv_eq (show iv (-1) (-1) (-1) from ⟨by decide, by decide⟩) c35)).mono (by decide) (by decide)
            refine lv_goto (tgt := 103) hx hb dX4_readTest_38 (by decide) ?_
            exact J103 c14_y14_l2 H27 locs27 hw _ (lv_sub hl [1, 3] rfl)
    exact J14 _ (0 : Int32) (0 : Int32) (Nat.lt_succ_self _) bp1 (show iv 0 0 1 from ⟨by decide, by decide⟩) (show iv 0 0 400 from ⟨by decide, by decide⟩) H2 locs2 hw _ (lv_sub hl [2, 3, 1, 0] rfl)
  · have r5fp : iv x2 0 0 := (iv_both bx2 (iv_eq (show iv 0 0 0 from ⟨by decide, by decide⟩) c5)).mono (by decide) (by decide)
    refine lv_iconst (v := 0) hx hb dX4_readTest_8 (by decide) ?_
    exact W.zret (v := 0) hx hb hr (iv_nz (show iv 0 0 1 from ⟨by decide, by decide⟩)) (fun t ht hW => ⟨some (.int 0), rfl, ⟨(0 : Int32), rfl, (show iv 0 0 1 from ⟨by decide, by decide⟩)⟩, by rw [ht]; exact hw.1, hw.2.F ht⟩) hw.2.2.2 dX4_readTest_9
abbrev WX4_readRule (p : Program) (l : Launch) (e : Env) (s : State) (m : MethodId) (below : List Frame) (meth : Method) (c : Code) (D : hp_D) (T : hp_T) (ap0 : Nat) (H : Heap) (locs : List Loc) (g : JFrame) : Prop := W p l e (headSpec wsX4_readRule ({ frames := 29, cells := 0, slots := 0, locals := 714 })).room s m ([.ref ap0] : List Value).toArray below meth c H locs 0 0 (MQ below (hq_e D T (fun v _ _ => ∃ r : Int32, v = some (.int r) ∧ iv r 0 1)) ([.ref ap0] : List Value).toArray s 0 0 (hp_F T)) g
set_option maxHeartbeats 4000000 in
set_option maxRecDepth 100000 in
theorem sX4_readRule (l : Launch) (D : hp_D) (T : hp_T) (ap0 : Nat) (ip0 : isRuleReader T ap0) : Met l yX4_readRule wsX4_readRule ({ frames := 29, cells := 0, slots := 0, locals := 714 }) (hp_Pc D T [.ref ap0] (fun _ => True)) (hq_e D T (fun v _ _ => ∃ r : Int32, v = some (.int r) ∧ iv r 0 1)) 0 0 (hp_F T) := by
  obtain ⟨ap0tp, ap0stp, hp0, ip0tp, hp0stp⟩ := id ip0
  obtain ⟨ap0tpbt, hp0tp, hp0tpbt⟩ := id ip0tp
  refine Met.ofW (cc := cX4_readRule) (maxL := 3) (ret := (some .boolean)) (by decide) rfl ?_
  intro p e s m args below meth c s₁ B hml hv
  obtain ⟨rfl, hok, hG, hB⟩ := hv
  have hx := B.exec
  have hb := B.bytes
  have hr := B.returns
  have hts := atoms_spec (ws := wsX4_readRule) B.pre
  have hown : s.vm.findClass RX4 = some m.cls := findClass_of_methodNamed B.named
  have hlocks := B.notSynchronized
  have hK := hG.1
  have hw : hp_w D T s s.heap [] := hp_w.rf hok
  have IX4 : ∀ w ∈ wsX40, w ∈ wsX4_readRule := by decide +kernel
  have L15 := hts (.fieldLink RX4 15 "PalmCensus$RuleReader" "size" "I") (by decide +kernel)
  have L19 := hts (.fieldLink RX4 19 "PalmCensus$RuleReader" "counted" "I") (by decide +kernel)
  have L22 := hts (.fieldLink RX4 22 "PalmCensus$RuleReader" "mindsCrowd" "Z") (by decide +kernel)
  have L26 := hts (.fieldLink RX4 26 "PalmCensus$RuleReader" "tape" "LPalmCensus$Tape;") (by decide +kernel)
  have hl := lv_entry ([.ref ap0]) (n := 3) (Nat.le_of_ble_eq_true rfl)
  rw [lg_entry_eq]
  generalize (lg_sl ([.ref ap0]) ++ List.replicate (3 - (lg_sl ([.ref ap0])).length) Slot.unset).toArray = ls at hl ⊢
  have hl : lv_has ls 3 [(0, .ref ap0)] := hl
  show WX4_readRule p l e s m below meth c D T ap0 s.heap [] (F0 m 0 ls [])
  refine lv_aload_n hx hb dX4_readRule_0 rfl (lv_at hl 0 rfl) ?_
  refine lv_iconst (v := 0) hx hb dX4_readRule_1 (by decide) ?_
  refine hp_put hx hb hts IX4 tyX4 tyX4_ok nmX4 hown hK hw hp0 rfl 2 (by decide) L15 rfl rfl ⟨_, rfl, (show iv 0 0 400 from ⟨by decide, by decide⟩)⟩ rfl rfl dX4_readRule_2 (fun H2 locs2 hw f2n g2 => ?_)
  refine lv_aload_n hx hb dX4_readRule_5 rfl (lv_at hl 0 rfl) ?_
  refine lv_iconst (v := 0) hx hb dX4_readRule_6 (by decide) ?_
  refine hp_put hx hb hts IX4 tyX4 tyX4_ok nmX4 hown hK hw hp0 rfl 3 (by decide) L19 rfl rfl ⟨_, rfl⟩ rfl rfl dX4_readRule_7 (fun H7 locs7 hw f7n g7 => ?_)
  refine lv_aload_n hx hb dX4_readRule_10 rfl (lv_at hl 0 rfl) ?_
  refine lv_iconst (v := 0) hx hb dX4_readRule_11 (by decide) ?_
  refine hp_put hx hb hts IX4 tyX4 tyX4_ok nmX4 hown hK hw hp0 rfl 4 (by decide) L22 rfl rfl ⟨_, rfl, (show iv 0 0 1 from ⟨by decide, by decide⟩)⟩ (iv_nz (show iv 0 0 1 from ⟨by decide, by decide⟩)) (iv_fz (show iv 0 0 1 from ⟨by decide, by decide⟩)) dX4_readRule_12 (fun H12 locs12 hw f12n g12 => ?_)
  refine lv_aload_n hx hb dX4_readRule_15 rfl (lv_at hl 0 rfl) ?_
  refine hp_getr hx hb hts IX4 hown hK hw.1 hp0 rfl 0 (by decide) L26 rfl dX4_readRule_16 ?_
  refine hp_callev (va_runV (As := []) (rest := []) ⟨hx, hb, hml, hown, hts⟩ (sX7_startReading l D T ap0tp ip0tp) (cwV 0 hts gX4_readRule_X7_startReading rfl rfl rfl (by decide +kernel) ⟨Nat.le_of_ble_eq_true rfl, Nat.le_of_ble_eq_true rfl⟩) (hp_preV hG hw hp0tp rfl trivial) rfl rfl hl.1 rfl (lv_room (Nat.le_of_ble_eq_true rfl)) dX4_readRule_19 ⟨Nat.zero_le _, Nat.zero_le _⟩) hw (fun st19 t19 H19 locs19 eh19 eg19 bx19 hw => ?_)
  refine lv_iconst (v := 0) hx hb dX4_readRule_22 (by decide) ?_
  refine lv_istore_n (lv' := [(1, .int 0), (0, .ref ap0)]) hx hb dX4_readRule_23 rfl hl (by decide) rfl (fun ls hl => ?_)
  have J24 : ∀ (n : Nat) (y24_l1 : Int32), (13 - y24_l1.toInt).toNat < n → iv y24_l1 0 13 → ∀ (H : Heap) (locs : List Loc), hp_w D T s H locs → ∀ (ls : Array Slot), lv_has ls 3 [(0, .ref ap0), (1, .int y24_l1)] → WX4_readRule p l e s m below meth c D T ap0 H locs (F0 m 24 ls []) := by
    intro n
    induction n with
    | zero => intro y24_l1 hmu24 c24_y24_l1 H24 locs24 hw ls hl; exact absurd hmu24 (Nat.not_lt_zero _)
    | succ n ih24 =>
      intro y24_l1 hmu24 c24_y24_l1 H24 locs24 hw ls hl
      refine lv_iload_n hx hb dX4_readRule_24 rfl (lv_at hl 1 rfl) ?_
      refine lv_bipush (v := 12) hx hb dX4_readRule_25 (by decide) ?_
      refine lv_icmp_gt (tgt := 128) hx hb dX4_readRule_27 (by decide) (fun c27 => ?_) (fun c27 => ?_)
      · have r27tq : iv y24_l1 13 13 := (iv_lt_r c27 (show iv 12 12 12 from ⟨by decide, by decide⟩) c24_y24_l1).mono (by decide) (by decide)
        refine lv_iconst (v := 0) hx hb dX4_readRule_128 (by decide) ?_
        exact W.zret (v := 0) hx hb hr (iv_nz (show iv 0 0 1 from ⟨by decide, by decide⟩)) (fun t ht hW => ⟨some (.int 0), rfl, ⟨(0 : Int32), rfl, (show iv 0 0 1 from ⟨by decide, by decide⟩)⟩, by rw [ht]; exact hw.1, hw.2.F ht⟩) hw.2.2.2 dX4_readRule_129
      · have r27fp : iv y24_l1 0 12 := (iv_le_l (iv_nlt c27) c24_y24_l1 (show iv 12 12 12 from ⟨by decide, by decide⟩)).mono (by decide) (by decide)
        refine lv_aload_n hx hb dX4_readRule_30 rfl (lv_at hl 0 rfl) ?_
        refine lv_iload_n hx hb dX4_readRule_31 rfl (lv_at hl 1 rfl) ?_
        refine hp_callei (va_runV (As := [.int y24_l1]) (rest := []) ⟨hx, hb, hml, hown, hts⟩ (sX4_readHead l D T ap0 y24_l1 ip0) (cwV 1 hts gX4_readRule_X4_readHead rfl rfl rfl (by decide +kernel) ⟨Nat.le_of_ble_eq_true rfl, Nat.le_of_ble_eq_true rfl⟩) (hp_preV hG hw hp0 rfl trivial) rfl rfl hl.1 rfl (lv_room (Nat.le_of_ble_eq_true rfl)) dX4_readRule_32 ⟨Nat.zero_le _, Nat.zero_le _⟩) hw (fun x32 st32 t32 H32 locs32 eh32 eg32 bx32 hw => ?_)
        have J45 : ∀ (H : Heap) (locs : List Loc), hp_w D T s H locs → ∀ (ls : Array Slot), lv_has ls 3 [] → WX4_readRule p l e s m below meth c D T ap0 H locs (F0 m 45 ls []) := by
          intro H45 locs45 hw ls hl
          refine lv_iconst (v := 0) hx hb dX4_readRule_45 (by decide) ?_
          exact W.zret (v := 0) hx hb hr (iv_nz (show iv 0 0 1 from ⟨by decide, by decide⟩)) (fun t ht hW => ⟨some (.int 0), rfl, ⟨(0 : Int32), rfl, (show iv 0 0 1 from ⟨by decide, by decide⟩)⟩, by rw [ht]; exact hw.1, hw.2.F ht⟩) hw.2.2.2 dX4_readRule_46
        refine lv_if_eq (tgt := 45) hx hb dX4_readRule_35 (by decide) (fun c35 => ?_) (fun c35 => ?_)
        · have r35tp : iv x32 0 0 := (iv_both bx32 (iv_eq (show iv 0 0 0 from ⟨by decide, by decide⟩) c35)).mono (by decide) (by decide)
          exact J45 H32 locs32 hw _ (lv_sub hl [] rfl)
        · have r35fp : iv x32 1 1 := (iv_ne_lo c35 bx32 rfl).mono (by decide) (by decide)
          refine lv_aload_n hx hb dX4_readRule_38 rfl (lv_at hl 0 rfl) ?_
          refine hp_callei (va_runV (As := []) (rest := []) ⟨hx, hb, hml, hown, hts⟩ (sX4_readSum l D T ap0 ip0) (cwV 0 hts gX4_readRule_X4_readSum rfl rfl rfl (by decide +kernel) ⟨Nat.le_of_ble_eq_true rfl, Nat.le_of_ble_eq_true rfl⟩) (hp_preV hG hw hp0 rfl trivial) rfl rfl hl.1 rfl (lv_room (Nat.le_of_ble_eq_true rfl)) dX4_readRule_39 ⟨Nat.zero_le _, Nat.zero_le _⟩) hw (fun x39 st39 t39 H39 locs39 eh39 eg39 bx39 hw => ?_)
          refine lv_if_ne (tgt := 47) hx hb dX4_readRule_42 (by decide) (fun c42 => ?_) (fun c42 => ?_)
          · have r42tp : iv x39 1 1 := (iv_ne_lo c42 bx39 rfl).mono (by decide) (by decide)
            refine lv_aload_n hx hb dX4_readRule_47 rfl (lv_at hl 0 rfl) ?_
            refine hp_getr hx hb hts IX4 hown hK hw.1 hp0 rfl 0 (by decide) L26 rfl dX4_readRule_48 ?_
            refine va_ldcS hx hb hown hG.2.2.1.2.2.2.2.1 dX4_readRule_51 ?_
            refine hp_callei (va_runV (As := [.ref (D.2.2.1 4)]) (rest := []) ⟨hx, hb, hml, hown, hts⟩ (sX7_takeWord l D T ap0tp 4 ip0tp (by decide)) (cwV 1 hts gX4_readRule_X7_takeWord rfl rfl rfl (by decide +kernel) ⟨Nat.le_of_ble_eq_true rfl, Nat.le_of_ble_eq_true rfl⟩) (hp_preV hG hw hp0tp rfl trivial) rfl rfl hl.1 rfl (lv_room (Nat.le_of_ble_eq_true rfl)) dX4_readRule_53 ⟨Nat.zero_le _, Nat.zero_le _⟩) hw (fun x53 st53 t53 H53 locs53 eh53 eg53 bx53 hw => ?_)
            refine lv_iconst (v := (-1)) hx hb dX4_readRule_56 (by decide) ?_
            have J65 : ∀ (y65_s0 : Int32), iv y24_l1 0 12 → iv y65_s0 0 1 → ∀ (H : Heap) (locs : List Loc), hp_w D T s H locs → ∀ (ls : Array Slot), lv_has ls 3 [(0, .ref ap0), (1, .int y24_l1)] → WX4_readRule p l e s m below meth c D T ap0 H locs (F0 m 65 ls [.int y65_s0]) := by
              intro y65_s0 c65_y24_l1 c65_y65_s0 H65 locs65 hw ls hl
              refine lv_istore_n (lv' := [(2, .int y65_s0), (0, .ref ap0), (1, .int y24_l1)]) hx hb dX4_readRule_65 rfl hl (by decide) rfl (fun ls hl => ?_)
              refine lv_iload_n hx hb dX4_readRule_66 rfl (lv_at hl 0 rfl) ?_
              have J80 : iv y24_l1 0 12 → iv y65_s0 0 1 → ∀ (H : Heap) (locs : List Loc), hp_w D T s H locs → ∀ (ls : Array Slot), lv_has ls 3 [(0, .ref ap0), (1, .int y24_l1), (2, .int y65_s0)] → WX4_readRule p l e s m below meth c D T ap0 H locs (F0 m 80 ls []) := by
                intro c80_y24_l1 c80_y65_s0 H80 locs80 hw ls hl
                refine lv_aload_n hx hb dX4_readRule_80 rfl (lv_at hl 0 rfl) ?_
                refine lv_iload_n hx hb dX4_readRule_81 rfl (lv_at hl 2 rfl) ?_
                have J92 : ∀ (y92_s1 : Int32), iv y24_l1 0 12 → iv y92_s1 (-52) (-51) → ∀ (H : Heap) (locs : List Loc), hp_w D T s H locs → ∀ (ls : Array Slot), lv_has ls 3 [(0, .ref ap0), (1, .int y24_l1)] → WX4_readRule p l e s m below meth c D T ap0 H locs (F0 m 92 ls [.int y92_s1, .ref ap0]) := by
                  intro y92_s1 c92_y24_l1 c92_y92_s1 H92 locs92 hw ls hl
                  refine hp_callei (va_runV (As := [.int y92_s1]) (rest := []) ⟨hx, hb, hml, hown, hts⟩ (sX4_write l D T ap0 y92_s1 ip0) (cwV 1 hts gX4_readRule_X4_write rfl rfl rfl (by decide +kernel) ⟨Nat.le_of_ble_eq_true rfl, Nat.le_of_ble_eq_true rfl⟩) (hp_preV hG hw hp0 rfl trivial) rfl rfl hl.1 rfl (lv_room (Nat.le_of_ble_eq_true rfl)) dX4_readRule_92 ⟨Nat.zero_le _, Nat.zero_le _⟩) hw (fun x92 st92 t92 H92 locs92 eh92 eg92 bx92 hw => ?_)
                  refine lv_pop hx hb dX4_readRule_95 rfl ?_
                  refine lv_aload_n hx hb dX4_readRule_96 rfl (lv_at hl 0 rfl) ?_
                  refine hp_getr hx hb hts IX4 hown hK hw.1 hp0 rfl 0 (by decide) L26 rfl dX4_readRule_97 ?_
                  refine hp_callei (va_runV (As := []) (rest := []) ⟨hx, hb, hml, hown, hts⟩ (sX7_isAtEnd l D T ap0tp ip0tp) (cwV 0 hts gX4_readRule_X7_isAtEnd rfl rfl rfl (by decide +kernel) ⟨Nat.le_of_ble_eq_true rfl, Nat.le_of_ble_eq_true rfl⟩) (hp_preV hG hw hp0tp rfl trivial) rfl rfl hl.1 rfl (lv_room (Nat.le_of_ble_eq_true rfl)) dX4_readRule_100 ⟨Nat.zero_le _, Nat.zero_le _⟩) hw (fun x100 st100 t100 H100 locs100 eh100 eg100 bx100 hw => ?_)
                  refine lv_if_eq (tgt := 108) hx hb dX4_readRule_103 (by decide) (fun c103 => ?_) (fun c103 => ?_)
                  · have r103tp : iv x100 0 0 := (iv_both bx100 (iv_eq (show iv 0 0 0 from ⟨by decide, by decide⟩) c103)).mono (by decide) (by decide)
                    refine lv_aload_n hx hb dX4_readRule_108 rfl (lv_at hl 0 rfl) ?_
                    refine hp_getr hx hb hts IX4 hown hK hw.1 hp0 rfl 0 (by decide) L26 rfl dX4_readRule_109 ?_
                    refine va_ldcS hx hb hown hG.2.2.1.2.2.2.2.2.1 dX4_readRule_112 ?_
                    refine hp_callei (va_runV (As := [.ref (D.2.2.1 5)]) (rest := []) ⟨hx, hb, hml, hown, hts⟩ (sX7_needSign l D T ap0tp 5 ip0tp (by decide)) (cwV 1 hts gX4_readRule_X7_needSign rfl rfl rfl (by decide +kernel) ⟨Nat.le_of_ble_eq_true rfl, Nat.le_of_ble_eq_true rfl⟩) (hp_preV hG hw hp0tp rfl trivial) rfl rfl hl.1 rfl (lv_room (Nat.le_of_ble_eq_true rfl)) dX4_readRule_114 ⟨Nat.zero_le _, Nat.zero_le _⟩) hw (fun x114 st114 t114 H114 locs114 eh114 eg114 bx114 hw => ?_)
                    refine lv_if_ne (tgt := 122) hx hb dX4_readRule_117 (by decide) (fun c117 => ?_) (fun c117 => ?_)
                    · have r117tp : iv x114 1 1 := (iv_ne_lo c117 bx114 rfl).mono (by decide) (by decide)
                      obtain ⟨x122, ex122⟩ : ∃ y : Int32, y = y24_l1 + 1 := ⟨_, rfl⟩
                      have bx122 : iv x122 1 13 := iv_add c92_y24_l1 (show iv 1 1 1 from ⟨by decide, by decide⟩) ex122 (by decide)
                      have qx122 := iv_add_eq c92_y24_l1 (show iv 1 1 1 from ⟨by decide, by decide⟩) ex122 (by decide)
                      refine lv_iinc (v := x122) (lv' := [(1, .int x122), (0, .ref ap0)]) hx hb dX4_readRule_122 hl (k := 1) rfl (by rw [ex122]; rfl) (by decide) rfl (fun ls hl => ?_)
                      refine lv_goto (tgt := 24) hx hb dX4_readRule_125 (by decide) ?_
                      exact ih24 x122 (mu_up 1 hmu24 (qx122) (by decide) (show iv x122 0 13 from (bx122.mono (by decide) (by decide))).2) (bx122.mono (by decide) (by decide)) H114 locs114 hw _ (lv_sub hl [1, 0] rfl)
                    · have r117fp : iv x114 0 0 := (iv_both bx114 (iv_eq (show iv 0 0 0 from ⟨by decide, by decide⟩) c117)).mono (by decide) (by decide)
                      refine lv_iconst (v := 0) hx hb dX4_readRule_120 (by decide) ?_
                      exact W.zret (v := 0) hx hb hr (iv_nz (show iv 0 0 1 from ⟨by decide, by decide⟩)) (fun t ht hW => ⟨some (.int 0), rfl, ⟨(0 : Int32), rfl, (show iv 0 0 1 from ⟨by decide, by decide⟩)⟩, by rw [ht]; exact hw.1, hw.2.F ht⟩) hw.2.2.2 dX4_readRule_121
                  · have r103fp : iv x100 1 1 := (iv_ne_lo c103 bx100 rfl).mono (by decide) (by decide)
                    refine lv_iconst (v := 1) hx hb dX4_readRule_106 (by decide) ?_
                    exact W.zret (v := 1) hx hb hr (iv_nz (show iv 1 0 1 from ⟨by decide, by decide⟩)) (fun t ht hW => ⟨some (.int 1), rfl, ⟨(1 : Int32), rfl, (show iv 1 0 1 from ⟨by decide, by decide⟩)⟩, by rw [ht]; exact hw.1, hw.2.F ht⟩) hw.2.2.2 dX4_readRule_107
                refine lv_if_eq (tgt := 90) hx hb dX4_readRule_82 (by decide) (fun c82 => ?_) (fun c82 => ?_)
                · have r82tp : iv y65_s0 0 0 := (iv_both c80_y65_s0 (iv_eq (show iv 0 0 0 from ⟨by decide, by decide⟩) c82)).mono (by decide) (by decide)
                  refine lv_bipush (v := (-52)) hx hb dX4_readRule_90 (by decide) ?_
                  exact J92 ((-52) : Int32) c80_y24_l1 (show iv (-52) (-52) (-51) from ⟨by decide, by decide⟩) H80 locs80 hw _ (lv_sub hl [0, 1] rfl)
                · have r82fp : iv y65_s0 1 1 := (iv_ne_lo c82 c80_y65_s0 rfl).mono (by decide) (by decide)
                  refine lv_bipush (v := (-51)) hx hb dX4_readRule_85 (by decide) ?_
                  refine lv_goto (tgt := 92) hx hb dX4_readRule_87 (by decide) ?_
                  exact J92 ((-51) : Int32) c80_y24_l1 (show iv (-51) (-52) (-51) from ⟨by decide, by decide⟩) H80 locs80 hw _ (lv_sub hl [0, 1] rfl)
              refine lv_if_eq (tgt := 80) hx hb dX4_readRule_67 (by decide) (fun c67 => ?_) (fun c67 => ?_)
              · have r67tp : iv y65_s0 0 0 := (iv_both c65_y65_s0 (iv_eq (show iv 0 0 0 from ⟨by decide, by decide⟩) c67)).mono (by decide) (by decide)
                exact J80 c65_y24_l1 (r67tp.mono (by decide) (by decide)) H65 locs65 hw _ (lv_sub hl [1, 2, 0] rfl)
              · have r67fp : iv y65_s0 1 1 := (iv_ne_lo c67 c65_y65_s0 rfl).mono (by decide) (by decide)
                refine lv_aload_n hx hb dX4_readRule_70 rfl (lv_at hl 1 rfl) ?_
                refine lv_iconst (v := 0) hx hb dX4_readRule_71 (by decide) ?_
                refine hp_callei (va_runV (As := [.int 0]) (rest := []) ⟨hx, hb, hml, hown, hts⟩ (sX4_readTest_0 l D T ap0 (0 : Int32) ip0 (show iv 0 0 0 from ⟨by decide, by decide⟩)) (cwV 1 hts gX4_readRule_X4_readTest rfl rfl rfl (by decide +kernel) ⟨Nat.le_of_ble_eq_true rfl, Nat.le_of_ble_eq_true rfl⟩) (hp_preV hG hw hp0 rfl trivial) rfl rfl hl.1 rfl (lv_room (Nat.le_of_ble_eq_true rfl)) dX4_readRule_72 ⟨Nat.zero_le _, Nat.zero_le _⟩) hw (fun x72 st72 t72 H72 locs72 eh72 eg72 bx72 hw => ?_)
                refine lv_if_ne (tgt := 80) hx hb dX4_readRule_75 (by decide) (fun c75 => ?_) (fun c75 => ?_)
                · have r75tp : iv x72 1 1 := (iv_ne_lo c75 bx72 rfl).mono (by decide) (by decide)
                  exact J80 c65_y24_l1 (r67fp.mono (by decide) (by decide)) H72 locs72 hw _ (lv_sub hl [1, 2, 0] rfl)
                · have r75fp : iv x72 0 0 := (iv_both bx72 (iv_eq (show iv 0 0 0 from ⟨by decide, by decide⟩) c75)).mono (by decide) (by decide)
                  refine lv_iconst (v := 0) hx hb dX4_readRule_78 (by decide) ?_
                  exact W.zret (v := 0) hx hb hr (iv_nz (show iv 0 0 1 from ⟨by decide, by decide⟩)) (fun t ht hW => ⟨some (.int 0), rfl, ⟨(0 : Int32), rfl, (show iv 0 0 1 from ⟨by decide, by decide⟩)⟩, by rw [ht]; exact hw.1, hw.2.F ht⟩) hw.2.2.2 dX4_readRule_79
            refine lv_icmp_eq (tgt := 64) hx hb dX4_readRule_57 (by decide) (fun c57 => ?_) (fun c57 => ?_)
            · have r57tp : iv x53 (-1) (-1) := (iv_both (iv_any x53) (iv_eq (show iv (-1) (-1) (-1) from ⟨by decide, by decide⟩) c57)).mono (by decide) (by decide)
              refine lv_iconst (v := 0) hx hb dX4_readRule_64 (by decide) ?_
              exact J65 (0 : Int32) r27fp (show iv 0 0 1 from ⟨by decide, by decide⟩) H53 locs53 hw _ (lv_sub hl [0, 1] rfl)
            · refine lv_iconst (v := 1) hx hb dX4_readRule_60 (by decide) ?_
              refine lv_goto (tgt := 65) hx hb dX4_readRule_61 (by decide) ?_
              exact J65 (1 : Int32) r27fp (show iv 1 0 1 from ⟨by decide, by decide⟩) H53 locs53 hw _ (lv_sub hl [0, 1] rfl)
          · have r42fp : iv x39 0 0 := (iv_both bx39 (iv_eq (show iv 0 0 0 from ⟨by decide, by decide⟩) c42)).mono (by decide) (by decide)
            exact J45 H39 locs39 hw _ (lv_sub hl [] rfl)
  exact J24 _ (0 : Int32) (Nat.lt_succ_self _) (show iv 0 0 13 from ⟨by decide, by decide⟩) H19 locs19 hw _ (lv_sub hl [1, 0] rfl)
