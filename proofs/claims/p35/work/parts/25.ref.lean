abbrev WX12_fits (p : Program) (l : Launch) (e : Env) (s : State) (m : MethodId) (below : List Frame) (meth : Method) (c : Code) (D : hp_D) (T : hp_T) (ap0 : Nat) (xp1 : Int32) (H : Heap) (locs : List Loc) (g : JFrame) : Prop := W p l e (headSpec wsX12_fits ({ frames := 5, cells := 0, slots := 0, locals := 128 })).room s m ([.ref ap0, .int xp1] : List Value).toArray below meth c H locs 0 0 (MQ below (hq_e D T (fun v st t => ∃ r : Int32, v = some (.int r) ∧ ((iv r 0 1) ∧ hp_km D [(12, 18)] st.heap t.heap))) ([.ref ap0, .int xp1] : List Value).toArray s 0 0 (hp_F T)) g
set_option maxHeartbeats 4000000 in
set_option maxRecDepth 100000 in
theorem sX12_fits (l : Launch) (D : hp_D) (T : hp_T) (ap0 : Nat) (xp1 : Int32) (Gm : moG) (ip0 : isMo T ap0 Gm) : Met l yX12_fits wsX12_fits ({ frames := 5, cells := 0, slots := 0, locals := 128 }) (hp_Pc D T [.ref ap0, .int xp1] (fun _ => True)) (hq_e D T (fun v st t => ∃ r : Int32, v = some (.int r) ∧ ((iv r 0 1) ∧ hp_km D [(12, 18)] st.heap t.heap))) 0 0 (hp_F T) := by
  obtain ⟨ap0tape, ap0sign, ap0len, ap0clause, ap0clauses, ap0read, ap0opn, ap0stack, ap0word, ap0said, ap0was, ap0fitting, ap0sums, ap0sort, ap0sumsBy, ap0oneOf, ap0otherOf, ap0kept, ap0images, ap0acts, ap0iUnd, ap0iFor, ap0iX, ap0made, gok, hp0, hp0tape, hp0sign, hp0len, hp0clause, hp0clauses, hp0read, hp0opn, hp0stack, hp0word, hp0said, hp0was, hp0fitting, hp0sums, hp0sort, hp0sumsBy, hp0oneOf, hp0otherOf, hp0kept, hp0images, hp0acts, hp0iUnd, hp0iFor, hp0iX, hp0made⟩ := id ip0
  have hpx := gok.1
  have gsok := gok.2.2.2.2
  have ggd := gok.2.2.2.1
  refine Met.ofW (cc := cX12_fits) (maxL := 4) (ret := (some .boolean)) (by decide) rfl ?_
  intro p e s m args below meth c s₁ B hml hv
  obtain ⟨rfl, hok, hG, hB⟩ := hv
  have hx := B.exec
  have hb := B.bytes
  have hr := B.returns
  have hts := atoms_spec (ws := wsX12_fits) B.pre
  have hown : s.vm.findClass RX12 = some m.cls := findClass_of_methodNamed B.named
  have hlocks := B.notSynchronized
  have hK := hG.1
  have hw : hp_w D T s s.heap [] := hp_w.rf hok
  have IX12 : ∀ w ∈ wsX120, w ∈ wsX12_fits := by decide +kernel
  have L39 := hts (.fieldLink RX12 39 "PalmCensusModel" "said" "[I") (by decide +kernel)
  have hkm : hp_km D [(12, 18)] s.heap s.heap := fun _ _ _ _ h _ => h
  have hl := lv_entry ([.ref ap0, .int xp1]) (n := 4) (Nat.le_of_ble_eq_true rfl)
  rw [lg_entry_eq]
  generalize (lg_sl ([.ref ap0, .int xp1]) ++ List.replicate (4 - (lg_sl ([.ref ap0, .int xp1])).length) Slot.unset).toArray = ls at hl ⊢
  have hl : lv_has ls 4 [(0, .ref ap0), (1, .int xp1)] := hl
  show WX12_fits p l e s m below meth c D T ap0 xp1 s.heap [] (F0 m 0 ls [])
  refine lv_iconst (v := 0) hx hb dX12_fits_0 (by decide) ?_
  refine lv_istore_n (lv' := [(2, .int 0), (0, .ref ap0), (1, .int xp1)]) hx hb dX12_fits_1 rfl hl (by decide) rfl (fun ls hl => ?_)
  have J2 : ∀ (n : Nat) (y2_l2 : Int32), (10 - y2_l2.toInt).toNat < n → iv y2_l2 0 10 → ∀ (H : Heap) (locs : List Loc), hp_w D T s H locs → hp_km D [(12, 18)] s.heap H → ∀ (ls : Array Slot), lv_has ls 4 [(0, .ref ap0), (1, .int xp1), (2, .int y2_l2)] → WX12_fits p l e s m below meth c D T ap0 xp1 H locs (F0 m 2 ls []) := by
    intro n
    induction n with
    | zero => intro y2_l2 hmu2 c2_y2_l2 H2 locs2 hw hkm ls hl; exact absurd hmu2 (Nat.not_lt_zero _)
    | succ n ih2 =>
      intro y2_l2 hmu2 c2_y2_l2 H2 locs2 hw hkm ls hl
      refine lv_iload_n hx hb dX12_fits_2 rfl (lv_at hl 2 rfl) ?_
      refine lv_aload_n hx hb dX12_fits_3 rfl (lv_at hl 0 rfl) ?_
      refine hp_getr hx hb hts IX12 hown hK hw.1 hp0 rfl 20 (by decide) L39 rfl dX12_fits_4 ?_
      refine lv_sipush (v := 210) hx hb dX12_fits_7 (by decide) ?_
      refine hp_iald hx hb hK hw.1 hp0said (vp_iv (show iv 210 210 210 from ⟨by decide, by decide⟩) (by decide)) dX12_fits_10 (fun v10 hr10 => ?_)
      have h10 := gsok _ _ hr10
      obtain ⟨x10, rfl, bx10⟩ := sP_rd210 h10 (show iv 210 210 210 from ⟨by decide, by decide⟩)
      refine lv_icmp_ge (tgt := 60) hx hb dX12_fits_11 (by decide) (fun c11 => ?_) (fun c11 => ?_)
      · refine lv_iconst (v := 1) hx hb dX12_fits_60 (by decide) ?_
        exact W.zret (v := 1) hx hb hr (iv_nz (show iv 1 0 1 from ⟨by decide, by decide⟩)) (fun t ht hW => ⟨some (.int 1), rfl, ⟨(1 : Int32), rfl, ⟨(show iv 1 0 1 from ⟨by decide, by decide⟩), by rw [ht]; exact hkm⟩⟩, by rw [ht]; exact hw.1, hw.2.F ht⟩) hw.2.2.2 dX12_fits_61
      · have r11fp : iv y2_l2 0 9 := (iv_lt_l (iv_nle c11) c2_y2_l2 bx10).mono (by decide) (by decide)
        have r11fq : iv x10 1 10 := (iv_lt_r (iv_nle c11) c2_y2_l2 bx10).mono (by decide) (by decide)
        refine lv_sipush (v := 170) hx hb dX12_fits_14 (by decide) ?_
        refine lv_iconst (v := 3) hx hb dX12_fits_17 (by decide) ?_
        refine lv_iload_n hx hb dX12_fits_18 rfl (lv_at hl 2 rfl) ?_
        refine lv_imul hx hb dX12_fits_19 ?_
        refine lv_topi (fun x19 ex19 => ?_)
        have bx19 : iv x19 0 27 := iv_mul (show iv 3 3 3 from ⟨by decide, by decide⟩) r11fp ex19 (by decide)
        refine lv_iadd hx hb dX12_fits_20 ?_
        refine lv_topi (fun x20 ex20 => ?_)
        have bx20 : iv x20 170 197 := iv_add (show iv 170 170 170 from ⟨by decide, by decide⟩) bx19 ex20 (by decide)
        have qx20 := iv_add_eq (show iv 170 170 170 from ⟨by decide, by decide⟩) bx19 ex20 (by decide)
        refine lv_istore_n (lv' := [(3, .int x20), (0, .ref ap0), (1, .int xp1), (2, .int y2_l2)]) hx hb dX12_fits_21 rfl hl (by decide) rfl (fun ls hl => ?_)
        refine lv_aload_n hx hb dX12_fits_22 rfl (lv_at hl 1 rfl) ?_
        refine lv_iload_n hx hb dX12_fits_23 rfl (lv_at hl 2 rfl) ?_
        refine lv_aload_n hx hb dX12_fits_24 rfl (lv_at hl 1 rfl) ?_
        refine hp_getr hx hb hts IX12 hown hK hw.1 hp0 rfl 20 (by decide) L39 rfl dX12_fits_25 ?_
        refine lv_iload_n hx hb dX12_fits_28 rfl (lv_at hl 0 rfl) ?_
        refine hp_iald hx hb hK hw.1 hp0said (vp_iv bx20 (by decide)) dX12_fits_29 (fun v29 hr29 => ?_)
        have h29 := gsok _ _ hr29
        obtain ⟨x29, rfl⟩ := sP_any h29
        refine lv_aload_n hx hb dX12_fits_30 rfl (lv_at hl 1 rfl) ?_
        refine hp_getr hx hb hts IX12 hown hK hw.1 hp0 rfl 20 (by decide) L39 rfl dX12_fits_31 ?_
        refine lv_iload_n hx hb dX12_fits_34 rfl (lv_at hl 0 rfl) ?_
        refine lv_iconst (v := 1) hx hb dX12_fits_35 (by decide) ?_
        refine lv_iadd hx hb dX12_fits_36 ?_
        refine lv_topi (fun x36 ex36 => ?_)
        have bx36 : iv x36 171 198 := iv_add bx20 (show iv 1 1 1 from ⟨by decide, by decide⟩) ex36 (by decide)
        have qx36 := iv_add_eq bx20 (show iv 1 1 1 from ⟨by decide, by decide⟩) ex36 (by decide)
        refine hp_iald hx hb hK hw.1 hp0said (vp_iv bx36 (by decide)) dX12_fits_37 (fun v37 hr37 => ?_)
        have h37 := gsok _ _ hr37
        obtain ⟨x37, rfl⟩ := sP_any h37
        have bx37 : iv x37 0 11 := rI_iv (sP_hour h37 (k := y2_l2.toInt) (by have := iv_m3 ex19 (r11fp.mono (by decide) (by decide)); have := (bx36).1; have := (bx36).2; have := (r11fp).1; have := (r11fp).2; have := (r11fq).1; have := (r11fq).2; have := (bx20).1; have := (bx20).2; have := (bx19).1; have := (bx19).2; have := (Int32.lt_iff_toInt_lt.mp (iv_nle c11)); have : (1 : Int32).toInt = 1 := (by decide); have : (170 : Int32).toInt = 170 := (by decide); omega) (by have := (r11fp).1; have := (r11fp).2; have := (r11fq).1; have := (r11fq).2; have := (Int32.lt_iff_toInt_lt.mp (iv_nle c11)); omega) (by have := (r11fp).1; have := (r11fp).2; have := (r11fq).1; have := (r11fq).2; have := (Int32.lt_iff_toInt_lt.mp (iv_nle c11)); omega))
        refine hp_callei (va_runV (As := [.int xp1, .int x29, .int x37]) (rest := []) ⟨hx, hb, hml, hown, hts⟩ (sX12_sumOf l D T ap0 xp1 x29 x37 Gm ip0 bx37) (cwV 3 hts gX12_fits_X12_sumOf rfl rfl rfl (by decide +kernel) ⟨Nat.le_of_ble_eq_true rfl, Nat.le_of_ble_eq_true rfl⟩) (hp_preV hG hw hp0 rfl trivial) rfl rfl hl.1 rfl (lv_room (Nat.le_of_ble_eq_true rfl)) dX12_fits_38 ⟨Nat.zero_le _, Nat.zero_le _⟩) hw (fun x38 st38 t38 H38 locs38 eh38 eg38 bx38 hw => ?_)
        obtain ⟨bx38, g38⟩ := bx38
        rw [eh38, eg38] at g38
        have hkm := hkm.call g38 (by decide)
        refine lv_aload_n hx hb dX12_fits_41 rfl (lv_at hl 1 rfl) ?_
        refine hp_getr hx hb hts IX12 hown hK hw.1 hp0 rfl 20 (by decide) L39 rfl dX12_fits_42 ?_
        refine lv_iload_n hx hb dX12_fits_45 rfl (lv_at hl 0 rfl) ?_
        refine lv_iconst (v := 2) hx hb dX12_fits_46 (by decide) ?_
        refine lv_iadd hx hb dX12_fits_47 ?_
        refine lv_topi (fun x47 ex47 => ?_)
        have bx47 : iv x47 172 199 := iv_add bx20 (show iv 2 2 2 from ⟨by decide, by decide⟩) ex47 (by decide)
        have qx47 := iv_add_eq bx20 (show iv 2 2 2 from ⟨by decide, by decide⟩) ex47 (by decide)
        refine hp_iald hx hb hK hw.1 hp0said (vp_iv bx47 (by decide)) dX12_fits_48 (fun v48 hr48 => ?_)
        have h48 := gsok _ _ hr48
        obtain ⟨x48, rfl⟩ := sP_any h48
        refine lv_icmp_eq (tgt := 54) hx hb dX12_fits_49 (by decide) (fun c49 => ?_) (fun c49 => ?_)
        · obtain ⟨x54, ex54⟩ : ∃ y : Int32, y = y2_l2 + 1 := ⟨_, rfl⟩
          have bx54 : iv x54 1 10 := iv_add r11fp (show iv 1 1 1 from ⟨by decide, by decide⟩) ex54 (by decide)
          have qx54 := iv_add_eq r11fp (show iv 1 1 1 from ⟨by decide, by decide⟩) ex54 (by decide)
          refine lv_iinc (v := x54) (lv' := [(2, .int x54), (3, .int x20), (0, .ref ap0), (1, .int xp1)]) hx hb dX12_fits_54 hl (k := 3) rfl (by rw [ex54]; rfl) (by decide) rfl (fun ls hl => ?_)
          refine lv_goto (tgt := 2) hx hb dX12_fits_57 (by decide) ?_
          exact ih2 x54 (mu_up 1 hmu2 (qx54) (by decide) (show iv x54 0 10 from (bx54.mono (by decide) (by decide))).2) (bx54.mono (by decide) (by decide)) H38 locs38 hw hkm _ (lv_sub hl [2, 3, 0] rfl)
        · refine lv_iconst (v := 0) hx hb dX12_fits_52 (by decide) ?_
          exact W.zret (v := 0) hx hb hr (iv_nz (show iv 0 0 1 from ⟨by decide, by decide⟩)) (fun t ht hW => ⟨some (.int 0), rfl, ⟨(0 : Int32), rfl, ⟨(show iv 0 0 1 from ⟨by decide, by decide⟩), by rw [ht]; exact hkm⟩⟩, by rw [ht]; exact hw.1, hw.2.F ht⟩) hw.2.2.2 dX12_fits_53
  exact J2 _ (0 : Int32) (Nat.lt_succ_self _) (show iv 0 0 10 from ⟨by decide, by decide⟩) s.heap [] hw hkm _ (lv_sub hl [1, 2, 0] rfl)
abbrev WX12_told (p : Program) (l : Launch) (e : Env) (s : State) (m : MethodId) (below : List Frame) (meth : Method) (c : Code) (D : hp_D) (T : hp_T) (ap0 : Nat) (xp1 : Int32) (xp2 : Int32) (xp3 : Int32) (H : Heap) (locs : List Loc) (g : JFrame) : Prop := W p l e (headSpec wsX12_told ({ frames := 1, cells := 0, slots := 0, locals := 25 })).room s m ([.ref ap0, .int xp1, .int xp2, .int xp3] : List Value).toArray below meth c H locs 0 0 (MQ below (hq_e D T (fun v _ _ => ∃ r : Int32, v = some (.int r) ∧ True)) ([.ref ap0, .int xp1, .int xp2, .int xp3] : List Value).toArray s 0 0 (hp_F T)) g
set_option maxHeartbeats 4000000 in
set_option maxRecDepth 100000 in
theorem sX12_told (l : Launch) (D : hp_D) (T : hp_T) (ap0 : Nat) (xp1 : Int32) (xp2 : Int32) (xp3 : Int32) (Gm : moG) (ip0 : isMo T ap0 Gm) (hgs : ∀ j v, sP j v → gs Gm j v) : Met l yX12_told wsX12_told ({ frames := 1, cells := 0, slots := 0, locals := 25 }) (hp_Pc D T [.ref ap0, .int xp1, .int xp2, .int xp3] (fun _ => True)) (hq_e D T (fun v _ _ => ∃ r : Int32, v = some (.int r) ∧ True)) 0 0 (hp_F T) := by
  obtain ⟨ap0tape, ap0sign, ap0len, ap0clause, ap0clauses, ap0read, ap0opn, ap0stack, ap0word, ap0said, ap0was, ap0fitting, ap0sums, ap0sort, ap0sumsBy, ap0oneOf, ap0otherOf, ap0kept, ap0images, ap0acts, ap0iUnd, ap0iFor, ap0iX, ap0made, gok, hp0, hp0tape, hp0sign, hp0len, hp0clause, hp0clauses, hp0read, hp0opn, hp0stack, hp0word, hp0said, hp0was, hp0fitting, hp0sums, hp0sort, hp0sumsBy, hp0oneOf, hp0otherOf, hp0kept, hp0images, hp0acts, hp0iUnd, hp0iFor, hp0iX, hp0made⟩ := id ip0
  have hpx := gok.1
  have gsok := gok.2.2.2.2
  have ggd := gok.2.2.2.1
  refine Met.ofW (cc := cX12_told) (maxL := 5) (ret := (some .int)) (by decide) rfl ?_
  intro p e s m args below meth c s₁ B hml hv
  obtain ⟨rfl, hok, hG, hB⟩ := hv
  have hx := B.exec
  have hb := B.bytes
  have hr := B.returns
  have hts := atoms_spec (ws := wsX12_told) B.pre
  have hown : s.vm.findClass RX12 = some m.cls := findClass_of_methodNamed B.named
  have hlocks := B.notSynchronized
  have hK := hG.1
  have hw : hp_w D T s s.heap [] := hp_w.rf hok
  have IX12 : ∀ w ∈ wsX120, w ∈ wsX12_told := by decide +kernel
  have K366 := hts (.constantLong RX12 366 (-100000)) (by decide +kernel)
  have K368 := hts (.constantLong RX12 368 100000) (by decide +kernel)
  have L39 := hts (.fieldLink RX12 39 "PalmCensusModel" "said" "[I") (by decide +kernel)
  have hl := lv_entry ([.ref ap0, .int xp1, .int xp2, .int xp3]) (n := 5) (Nat.le_of_ble_eq_true rfl)
  rw [lg_entry_eq]
  generalize (lg_sl ([.ref ap0, .int xp1, .int xp2, .int xp3]) ++ List.replicate (5 - (lg_sl ([.ref ap0, .int xp1, .int xp2, .int xp3])).length) Slot.unset).toArray = ls at hl ⊢
  have hl : lv_has ls 5 [(0, .ref ap0), (1, .int xp1), (2, .int xp2), (3, .int xp3)] := hl
  show WX12_told p l e s m below meth c D T ap0 xp1 xp2 xp3 s.heap [] (F0 m 0 ls [])
  refine lv_iload_n hx hb dX12_told_0 rfl (lv_at hl 1 rfl) ?_
  refine lv_iconst (v := (-1)) hx hb dX12_told_1 (by decide) ?_
  refine lv_icmp_ne (tgt := 16) hx hb dX12_told_2 (by decide) (fun c2 => ?_) (fun c2 => ?_)
  · refine lv_aload_n hx hb dX12_told_16 rfl (lv_at hl 0 rfl) ?_
    refine lv_iload_n hx hb dX12_told_17 rfl (lv_at hl 1 rfl) ?_
    refine hp_callpi (va_runV (As := [.int xp1]) (rest := []) ⟨hx, hb, hml, hown, hts⟩ (sX12_isGate l D T ap0 xp1 Gm ip0) (cwV 1 hts gX12_told_X12_isGate rfl rfl rfl (by decide +kernel) ⟨Nat.le_of_ble_eq_true rfl, Nat.le_of_ble_eq_true rfl⟩) (hp_preV hG hw hp0 rfl trivial) rfl rfl hl.1 rfl (lv_room (Nat.le_of_ble_eq_true rfl)) dX12_told_18 ⟨Nat.zero_le _, Nat.zero_le _⟩) (fun x18 bx18 => ?_)
    obtain ⟨bx18, ix18_0⟩ := bx18
    have J59 : ∀ (H : Heap) (locs : List Loc), hp_w D T s H locs → ∀ (ls : Array Slot), lv_has ls 5 [] → WX12_told p l e s m below meth c D T ap0 xp1 xp2 xp3 H locs (F0 m 59 ls []) := by
      intro H59 locs59 hw ls hl
      refine lv_bipush (v := (-2)) hx hb dX12_told_59 (by decide) ?_
      exact W.iret (v := (-2)) hx hb hr (fun t ht hW => ⟨some (.int (-2)), rfl, ⟨((-2) : Int32), rfl, trivial⟩, by rw [ht]; exact hw.1, hw.2.F ht⟩) hw.2.2.2 dX12_told_61
    refine lv_if_eq (tgt := 59) hx hb dX12_told_21 (by decide) (fun c21 => ?_) (fun c21 => ?_)
    · have r21tp : iv x18 0 0 := (iv_both bx18 (iv_eq (show iv 0 0 0 from ⟨by decide, by decide⟩) c21)).mono (by decide) (by decide)
      exact J59 s.heap [] hw _ (lv_sub hl [] rfl)
    · have r21fp : iv x18 1 1 := (iv_ne_lo c21 bx18 rfl).mono (by decide) (by decide)
      have r21fpz : iv xp1 0 5 := (iv_both (iv_any xp1) (ix18_0 (iv_ne0 r21fp (by decide)))).mono (by decide) (by decide)
      refine lv_aload_n hx hb dX12_told_24 rfl (lv_at hl 0 rfl) ?_
      refine lv_iload_n hx hb dX12_told_25 rfl (lv_at hl 2 rfl) ?_
      refine hp_callpi (va_runV (As := [.int xp2]) (rest := []) ⟨hx, hb, hml, hown, hts⟩ (sX12_isHour l D T ap0 xp2 Gm ip0) (cwV 1 hts gX12_told_X12_isHour rfl rfl rfl (by decide +kernel) ⟨Nat.le_of_ble_eq_true rfl, Nat.le_of_ble_eq_true rfl⟩) (hp_preV hG hw hp0 rfl trivial) rfl rfl hl.1 rfl (lv_room (Nat.le_of_ble_eq_true rfl)) dX12_told_26 ⟨Nat.zero_le _, Nat.zero_le _⟩) (fun x26 bx26 => ?_)
      obtain ⟨bx26, ix26_0⟩ := bx26
      refine lv_if_eq (tgt := 59) hx hb dX12_told_29 (by decide) (fun c29 => ?_) (fun c29 => ?_)
      · have r29tp : iv x26 0 0 := (iv_both bx26 (iv_eq (show iv 0 0 0 from ⟨by decide, by decide⟩) c29)).mono (by decide) (by decide)
        exact J59 s.heap [] hw _ (lv_sub hl [] rfl)
      · have r29fp : iv x26 1 1 := (iv_ne_lo c29 bx26 rfl).mono (by decide) (by decide)
        have r29fpz : iv xp2 0 11 := (iv_both (iv_any xp2) (ix26_0 (iv_ne0 r29fp (by decide)))).mono (by decide) (by decide)
        refine lv_iload_n hx hb dX12_told_32 rfl (lv_at hl 3 rfl) ?_
        obtain ⟨x33, ex33⟩ : ∃ y : Int64, xp3.toInt64 = y := ⟨_, rfl⟩
        refine lv_i2l (v := x33) hx hb dX12_told_33 ex33 ?_
        refine lv_ldc2 (v := (-100000)) hx hb hown K366 dX12_told_34 ?_
        refine lv_ldc2 (v := 100000) hx hb hown K368 dX12_told_37 ?_
        refine hp_callpi (va_runS (As := [.long x33, .long (-100000), .long 100000]) (rest := []) ⟨hx, hb, hml, hown, hts⟩ (sX12_in l D T x33 (-100000) 100000) (va_cwS 3 hts gX12_told_X12_in rfl rfl rfl (by decide +kernel) ⟨Nat.le_of_ble_eq_true rfl, Nat.le_of_ble_eq_true rfl⟩) (hp_preS hG hw trivial) rfl rfl hl.1 rfl (lv_room (Nat.le_of_ble_eq_true rfl)) dX12_told_40 ⟨Nat.zero_le _, Nat.zero_le _⟩) (fun x40 bx40 => ?_)
        obtain ⟨bx40, ox40, nx40⟩ := bx40
        have ox40a_ : x40 = 0 ∨ iv xp3 (-100000) 100000 := ox40.imp id (fun h => iv_in64 ex33 h.1 h.2 (by decide) (by decide))
        have ox40a : x40 = 0 ∨ iv xp3 (-100000) 100000 := ox40.imp id (fun h => iv_in64 ex33 h.1 h.2 (by decide) (by decide))
        refine lv_if_eq (tgt := 59) hx hb dX12_told_43 (by decide) (fun c43 => ?_) (fun c43 => ?_)
        · have r43tp : iv x40 0 0 := (iv_both bx40 (iv_eq (show iv 0 0 0 from ⟨by decide, by decide⟩) c43)).mono (by decide) (by decide)
          exact J59 s.heap [] hw _ (lv_sub hl [] rfl)
        · have r43fp : iv x40 1 1 := (iv_ne_lo c43 bx40 rfl).mono (by decide) (by decide)
          have r43fpz : iv xp3 (-100000) 100000 := (iv_both (iv_any xp3) ((fun h9 => ox40a.resolve_left h9) (iv_ne0 r43fp (by decide)))).mono (by decide) (by decide)
          refine lv_aload_n hx hb dX12_told_46 rfl (lv_at hl 0 rfl) ?_
          refine hp_getr hx hb hts IX12 hown hK hw.1 hp0 rfl 20 (by decide) L39 rfl dX12_told_47 ?_
          refine lv_sipush (v := 210) hx hb dX12_told_50 (by decide) ?_
          refine hp_ialdE hx hb hK hw.1 hp0said (vp_iv (show iv 210 210 210 from ⟨by decide, by decide⟩) (by decide)) dX12_told_53 (fun v53 hr53 E53 => ?_)
          have h53 := gsok _ _ hr53
          obtain ⟨x53, rfl, bx53⟩ := sP_rd210 h53 (show iv 210 210 210 from ⟨by decide, by decide⟩)
          refine lv_bipush (v := 10) hx hb dX12_told_54 (by decide) ?_
          refine lv_icmp_ne (tgt := 62) hx hb dX12_told_56 (by decide) (fun c56 => ?_) (fun c56 => ?_)
          · have r56tp : iv x53 0 9 := (iv_ne_hi c56 bx53 rfl).mono (by decide) (by decide)
            refine lv_sipush (v := 170) hx hb dX12_told_62 (by decide) ?_
            refine lv_iconst (v := 3) hx hb dX12_told_65 (by decide) ?_
            refine lv_aload_n hx hb dX12_told_66 rfl (lv_at hl 0 rfl) ?_
            refine hp_getr hx hb hts IX12 hown hK hw.1 hp0 rfl 20 (by decide) L39 rfl dX12_told_67 ?_
            refine lv_sipush (v := 210) hx hb dX12_told_70 (by decide) ?_
            refine hp_ialdE hx hb hK hw.1 hp0said (vp_iv (show iv 210 210 210 from ⟨by decide, by decide⟩) (by decide)) dX12_told_73 (fun v73 hr73 E73 => ?_)
            have h73 := gsok _ _ hr73
            obtain ⟨x73, rfl, bx73⟩ := sP_rd210 h73 (show iv 210 210 210 from ⟨by decide, by decide⟩)
            have u73 := E53.int E73
            have bu73 : iv x73 0 9 := (iv_both bx73 (iv_eq r56tp u73.symm)).mono (by decide) (by decide)
            refine lv_imul hx hb dX12_told_74 ?_
            refine lv_topi (fun x74 ex74 => ?_)
            have bx74 : iv x74 0 27 := iv_mul (show iv 3 3 3 from ⟨by decide, by decide⟩) bu73 ex74 (by decide)
            refine lv_iadd hx hb dX12_told_75 ?_
            refine lv_topi (fun x75 ex75 => ?_)
            have bx75 : iv x75 170 197 := iv_add (show iv 170 170 170 from ⟨by decide, by decide⟩) bx74 ex75 (by decide)
            have qx75 := iv_add_eq (show iv 170 170 170 from ⟨by decide, by decide⟩) bx74 ex75 (by decide)
            refine lv_istore (lv' := [(4, .int x75), (0, .ref ap0), (1, .int xp1), (2, .int xp2), (3, .int xp3)]) hx hb dX12_told_76 hl (by decide) rfl (fun ls hl => ?_)
            refine lv_aload_n hx hb dX12_told_78 rfl (lv_at hl 1 rfl) ?_
            refine hp_getr hx hb hts IX12 hown hK hw.1 hp0 rfl 20 (by decide) L39 rfl dX12_told_79 ?_
            refine lv_iload hx hb dX12_told_82 (lv_at hl 0 rfl) ?_
            refine lv_iload_n hx hb dX12_told_84 rfl (lv_at hl 2 rfl) ?_
            refine hp_iastE hx hb hK hw hp0said (vp_iv bx75 (by decide)) (hgs _ _ (sP_sto (k := x73.toInt) (d := 0) (by have := iv_m3 ex74 ((bu73.mono (by decide) (by decide))); have := (bx75).1; have := (bx75).2; have := (bu73).1; have := (bu73).2; have := (bx74).1; have := (bx74).2; have : ((-1) : Int32).toInt = (-1) := (by decide); have : (0 : Int32).toInt = 0 := (by decide); have : (10 : Int32).toInt = 10 := (by decide); have : (170 : Int32).toInt = 170 := (by decide); omega) (by have := (bu73).1; have := (bu73).2; have : ((-1) : Int32).toInt = (-1) := (by decide); have : (0 : Int32).toInt = 0 := (by decide); have : (10 : Int32).toInt = 10 := (by decide); omega) (by have := (bu73).1; have := (bu73).2; have : ((-1) : Int32).toInt = (-1) := (by decide); have : (0 : Int32).toInt = 0 := (by decide); have : (10 : Int32).toInt = 10 := (by decide); omega) (by decide))) dX12_told_85 (fun H85 locs85 hw g85 o85 ge85 E85 => ?_)
            have E85_210 := ge85 _ _ (iv_nei bx75 (by decide) (by decide)) E53
            refine lv_aload_n hx hb dX12_told_86 rfl (lv_at hl 1 rfl) ?_
            refine hp_getr hx hb hts IX12 hown hK hw.1 hp0 rfl 20 (by decide) L39 rfl dX12_told_87 ?_
            refine lv_iload hx hb dX12_told_90 (lv_at hl 0 rfl) ?_
            refine lv_iconst (v := 1) hx hb dX12_told_92 (by decide) ?_
            refine lv_iadd hx hb dX12_told_93 ?_
            refine lv_topi (fun x93 ex93 => ?_)
            have bx93 : iv x93 171 198 := iv_add bx75 (show iv 1 1 1 from ⟨by decide, by decide⟩) ex93 (by decide)
            have qx93 := iv_add_eq bx75 (show iv 1 1 1 from ⟨by decide, by decide⟩) ex93 (by decide)
            refine lv_iload_n hx hb dX12_told_94 rfl (lv_at hl 3 rfl) ?_
            refine hp_iastE hx hb hK hw hp0said (vp_iv bx93 (by decide)) (hgs _ _ (sP_sth (k := x73.toInt) (by have := iv_m3 ex74 ((bu73.mono (by decide) (by decide))); have := (bx93).1; have := (bx93).2; have := (bu73).1; have := (bu73).2; have := (bx75).1; have := (bx75).2; have := (bx74).1; have := (bx74).2; have : ((-1) : Int32).toInt = (-1) := (by decide); have : (0 : Int32).toInt = 0 := (by decide); have : (1 : Int32).toInt = 1 := (by decide); have : (10 : Int32).toInt = 10 := (by decide); have : (170 : Int32).toInt = 170 := (by decide); omega) (by have := (bu73).1; have := (bu73).2; have : ((-1) : Int32).toInt = (-1) := (by decide); have : (0 : Int32).toInt = 0 := (by decide); have : (10 : Int32).toInt = 10 := (by decide); omega) (by have := (bu73).1; have := (bu73).2; have : ((-1) : Int32).toInt = (-1) := (by decide); have : (0 : Int32).toInt = 0 := (by decide); have : (10 : Int32).toInt = 10 := (by decide); omega) r29fpz)) dX12_told_95 (fun H95 locs95 hw g95 o95 ge95 E95 => ?_)
            have E95_210 := ge95 _ _ (iv_nei bx93 (by decide) (by decide)) E85_210
            refine lv_aload_n hx hb dX12_told_96 rfl (lv_at hl 1 rfl) ?_
            refine hp_getr hx hb hts IX12 hown hK hw.1 hp0 rfl 20 (by decide) L39 rfl dX12_told_97 ?_
            refine lv_iload hx hb dX12_told_100 (lv_at hl 0 rfl) ?_
            refine lv_iconst (v := 2) hx hb dX12_told_102 (by decide) ?_
            refine lv_iadd hx hb dX12_told_103 ?_
            refine lv_topi (fun x103 ex103 => ?_)
            have bx103 : iv x103 172 199 := iv_add bx75 (show iv 2 2 2 from ⟨by decide, by decide⟩) ex103 (by decide)
            have qx103 := iv_add_eq bx75 (show iv 2 2 2 from ⟨by decide, by decide⟩) ex103 (by decide)
            refine lv_iload_n hx hb dX12_told_104 rfl (lv_at hl 4 rfl) ?_
            refine hp_iastE hx hb hK hw hp0said (vp_iv bx103 (by decide)) (hgs _ _ (sP_sto (k := x73.toInt) (d := 2) (by have := iv_m3 ex74 ((bu73.mono (by decide) (by decide))); have := (bx103).1; have := (bx103).2; have := (bu73).1; have := (bu73).2; have := (bx75).1; have := (bx75).2; have := (bx74).1; have := (bx74).2; have : ((-1) : Int32).toInt = (-1) := (by decide); have : (0 : Int32).toInt = 0 := (by decide); have : (2 : Int32).toInt = 2 := (by decide); have : (10 : Int32).toInt = 10 := (by decide); have : (170 : Int32).toInt = 170 := (by decide); omega) (by have := (bu73).1; have := (bu73).2; have : ((-1) : Int32).toInt = (-1) := (by decide); have : (0 : Int32).toInt = 0 := (by decide); have : (10 : Int32).toInt = 10 := (by decide); omega) (by have := (bu73).1; have := (bu73).2; have : ((-1) : Int32).toInt = (-1) := (by decide); have : (0 : Int32).toInt = 0 := (by decide); have : (10 : Int32).toInt = 10 := (by decide); omega) (by decide))) dX12_told_105 (fun H105 locs105 hw g105 o105 ge105 E105 => ?_)
            have E105_210 := ge105 _ _ (iv_nei bx103 (by decide) (by decide)) E95_210
            refine lv_aload_n hx hb dX12_told_106 rfl (lv_at hl 1 rfl) ?_
            refine hp_getr hx hb hts IX12 hown hK hw.1 hp0 rfl 20 (by decide) L39 rfl dX12_told_107 ?_
            refine lv_sipush (v := 210) hx hb dX12_told_110 (by decide) ?_
            refine lv_dup2_11 hx hb dX12_told_113 rfl rfl ?_
            refine hp_ialdE hx hb hK hw.1 hp0said (vp_iv (show iv 210 210 210 from ⟨by decide, by decide⟩) (by decide)) dX12_told_114 (fun v114 hr114 E114 => ?_)
            have h114 := gsok _ _ hr114
            obtain ⟨x114, rfl, bx114⟩ := sP_rd210 h114 (show iv 210 210 210 from ⟨by decide, by decide⟩)
            have u114 := E105_210.int E114
            have bu114 : iv x114 0 9 := (iv_both bx114 (iv_eq r56tp u114.symm)).mono (by decide) (by decide)
            refine lv_iconst (v := 1) hx hb dX12_told_115 (by decide) ?_
            refine lv_iadd hx hb dX12_told_116 ?_
            refine lv_topi (fun x116 ex116 => ?_)
            have bx116 : iv x116 1 10 := iv_add bu114 (show iv 1 1 1 from ⟨by decide, by decide⟩) ex116 (by decide)
            have qx116 := iv_add_eq bu114 (show iv 1 1 1 from ⟨by decide, by decide⟩) ex116 (by decide)
            refine hp_iastE hx hb hK hw hp0said (vp_iv (show iv 210 210 210 from ⟨by decide, by decide⟩) (by decide)) (hgs _ _ (sP_st210 (bx116.mono (by decide) (by decide)))) dX12_told_117 (fun H117 locs117 hw g117 o117 ge117 E117 => ?_)
            refine lv_aload_n hx hb dX12_told_118 rfl (lv_at hl 1 rfl) ?_
            refine hp_getr hx hb hts IX12 hown hK hw.1 hp0 rfl 20 (by decide) L39 rfl dX12_told_119 ?_
            refine lv_sipush (v := 210) hx hb dX12_told_122 (by decide) ?_
            refine hp_ialdE hx hb hK hw.1 hp0said (vp_iv (show iv 210 210 210 from ⟨by decide, by decide⟩) (by decide)) dX12_told_125 (fun v125 hr125 E125 => ?_)
            have h125 := gsok _ _ hr125
            obtain ⟨x125, rfl, bx125⟩ := sP_rd210 h125 (show iv 210 210 210 from ⟨by decide, by decide⟩)
            have u125 := E117.int E125
            have bu125 : iv x125 1 10 := (iv_both bx125 (iv_eq bx116 u125.symm)).mono (by decide) (by decide)
            exact W.iret (v := x125) hx hb hr (fun t ht hW => ⟨some (.int x125), rfl, ⟨x125, rfl, trivial⟩, by rw [ht]; exact hw.1, hw.2.F ht⟩) hw.2.2.2 dX12_told_126
          · have r56fp : iv x53 10 10 := (iv_both bx53 (iv_eq (show iv 10 10 10 from ⟨by decide, by decide⟩) c56)).mono (by decide) (by decide)
            exact J59 s.heap [] hw _ (lv_sub hl [] rfl)
  · have r2fp : iv xp1 (-1) (-1) := (iv_both (iv_any xp1) (iv_eq (show iv (-1) (-1) (-1) from ⟨by decide, by decide⟩) c2)).mono (by decide) (by decide)
    refine lv_aload_n hx hb dX12_told_5 rfl (lv_at hl 0 rfl) ?_
    refine hp_getr hx hb hts IX12 hown hK hw.1 hp0 rfl 20 (by decide) L39 rfl dX12_told_6 ?_
    refine lv_sipush (v := 210) hx hb dX12_told_9 (by decide) ?_
    refine lv_iconst (v := 0) hx hb dX12_told_12 (by decide) ?_
    refine hp_iastE hx hb hK hw hp0said (vp_iv (show iv 210 210 210 from ⟨by decide, by decide⟩) (by decide)) (hgs _ _ (sP_zero _)) dX12_told_13 (fun H13 locs13 hw g13 o13 ge13 E13 => ?_)
    refine lv_iconst (v := 0) hx hb dX12_told_14 (by decide) ?_
    exact W.iret (v := 0) hx hb hr (fun t ht hW => ⟨some (.int 0), rfl, ⟨(0 : Int32), rfl, trivial⟩, by rw [ht]; exact hw.1, hw.2.F ht⟩) hw.2.2.2 dX12_told_15
abbrev WX12_gathersFitting (p : Program) (l : Launch) (e : Env) (s : State) (m : MethodId) (below : List Frame) (meth : Method) (c : Code) (D : hp_D) (T : hp_T) (ap0 : Nat) (H : Heap) (locs : List Loc) (g : JFrame) : Prop := W p l e (headSpec wsX12_gathersFitting ({ frames := 6, cells := 0, slots := 0, locals := 151 })).room s m ([.ref ap0] : List Value).toArray below meth c H locs 0 0 (MQ below (hq_e D T (fun v st t => v = none ∧ ((True) ∧ hp_km D [(12, 18), (12, 26)] st.heap t.heap))) ([.ref ap0] : List Value).toArray s 0 0 (hp_F T)) g
set_option maxHeartbeats 4000000 in
set_option maxRecDepth 100000 in
theorem sX12_gathersFitting (l : Launch) (D : hp_D) (T : hp_T) (ap0 : Nat) (Gm : moG) (ip0 : isMo T ap0 Gm) : Met l yX12_gathersFitting wsX12_gathersFitting ({ frames := 6, cells := 0, slots := 0, locals := 151 }) (hp_Pc D T [.ref ap0] (fun _ => True)) (hq_e D T (fun v st t => v = none ∧ ((True) ∧ hp_km D [(12, 18), (12, 26)] st.heap t.heap))) 0 0 (hp_F T) := by
  obtain ⟨ap0tape, ap0sign, ap0len, ap0clause, ap0clauses, ap0read, ap0opn, ap0stack, ap0word, ap0said, ap0was, ap0fitting, ap0sums, ap0sort, ap0sumsBy, ap0oneOf, ap0otherOf, ap0kept, ap0images, ap0acts, ap0iUnd, ap0iFor, ap0iX, ap0made, gok, hp0, hp0tape, hp0sign, hp0len, hp0clause, hp0clauses, hp0read, hp0opn, hp0stack, hp0word, hp0said, hp0was, hp0fitting, hp0sums, hp0sort, hp0sumsBy, hp0oneOf, hp0otherOf, hp0kept, hp0images, hp0acts, hp0iUnd, hp0iFor, hp0iX, hp0made⟩ := id ip0
  have hpx := gok.1
  have gsok := gok.2.2.2.2
  have ggd := gok.2.2.2.1
  refine Met.ofW (cc := cX12_gathersFitting) (maxL := 2) (ret := none) (by decide) rfl ?_
  intro p e s m args below meth c s₁ B hml hv
  obtain ⟨rfl, hok, hG, hB⟩ := hv
  have hx := B.exec
  have hb := B.bytes
  have hr := B.returns
  have hts := atoms_spec (ws := wsX12_gathersFitting) B.pre
  have hown : s.vm.findClass RX12 = some m.cls := findClass_of_methodNamed B.named
  have hlocks := B.notSynchronized
  have hK := hG.1
  have hw : hp_w D T s s.heap [] := hp_w.rf hok
  have IX12 : ∀ w ∈ wsX120, w ∈ wsX12_gathersFitting := by decide +kernel
  have L370 := hts (.fieldLink RX12 370 "PalmCensusModel" "fittingMany" "I") (by decide +kernel)
  have L49 := hts (.fieldLink RX12 49 "PalmCensusModel" "fitting" "[I") (by decide +kernel)
  have hkm : hp_km D [(12, 18), (12, 26)] s.heap s.heap := fun _ _ _ _ h _ => h
  have hl := lv_entry ([.ref ap0]) (n := 2) (Nat.le_of_ble_eq_true rfl)
  rw [lg_entry_eq]
  generalize (lg_sl ([.ref ap0]) ++ List.replicate (2 - (lg_sl ([.ref ap0])).length) Slot.unset).toArray = ls at hl ⊢
  have hl : lv_has ls 2 [(0, .ref ap0)] := hl
  show WX12_gathersFitting p l e s m below meth c D T ap0 s.heap [] (F0 m 0 ls [])
  obtain ⟨x9000op0_26, bx9000op0_26, fx9000op0_26⟩ := hp_opI hw.1 hp0 26 rfl
  refine lv_aload_n hx hb dX12_gathersFitting_0 rfl (lv_at hl 0 rfl) ?_
  refine lv_iconst (v := 0) hx hb dX12_gathersFitting_1 (by decide) ?_
  refine hp_put hx hb hts IX12 tyX12 tyX12_ok nmX12 hown hK hw hp0 rfl 26 (by decide) L370 rfl rfl ⟨_, rfl, (show iv 0 0 1024 from ⟨by decide, by decide⟩)⟩ rfl rfl dX12_gathersFitting_2 (fun H2 locs2 hw f2n g2 => ?_)
  have hkm := hkm.put g2 (by decide)
  refine lv_iconst (v := 0) hx hb dX12_gathersFitting_5 (by decide) ?_
  refine lv_istore_n (lv' := [(1, .int 0), (0, .ref ap0)]) hx hb dX12_gathersFitting_6 rfl hl (by decide) rfl (fun ls hl => ?_)
  have J7 : ∀ (n : Nat) (y7_l1 y7_fp0_26 : Int32), (1024 - y7_l1.toInt).toNat < n → iv y7_l1 0 1024 → iv y7_fp0_26 0 1024 → y7_fp0_26.toInt ≤ y7_l1.toInt → ∀ (H : Heap) (locs : List Loc), hp_w D T s H locs → hp_km D [(12, 18), (12, 26)] s.heap H → hp_f D H ap0 12 26 (.int y7_fp0_26) → ∀ (ls : Array Slot), lv_has ls 2 [(0, .ref ap0), (1, .int y7_l1)] → WX12_gathersFitting p l e s m below meth c D T ap0 H locs (F0 m 7 ls []) := by
    intro n
    induction n with
    | zero => intro y7_l1 y7_fp0_26 hmu7 c7_y7_l1 c7_y7_fp0_26 hv7_0 H7 locs7 hw hkm f_p0_26 ls hl; exact absurd hmu7 (Nat.not_lt_zero _)
    | succ n ih7 =>
      intro y7_l1 y7_fp0_26 hmu7 c7_y7_l1 c7_y7_fp0_26 hv7_0 H7 locs7 hw hkm f_p0_26 ls hl
      refine lv_iload_n hx hb dX12_gathersFitting_7 rfl (lv_at hl 1 rfl) ?_
      refine lv_aload_n hx hb dX12_gathersFitting_8 rfl (lv_at hl 0 rfl) ?_
      refine hp_callpi (va_runV (As := []) (rest := [.int y7_l1]) ⟨hx, hb, hml, hown, hts⟩ (sX12_everybody_0 l D T ap0 Gm ip0) (cwV 0 hts gX12_gathersFitting_X12_everybody rfl rfl rfl (by decide +kernel) ⟨Nat.le_of_ble_eq_true rfl, Nat.le_of_ble_eq_true rfl⟩) (hp_preV hG hw hp0 rfl trivial) rfl rfl hl.1 rfl (lv_room (Nat.le_of_ble_eq_true rfl)) dX12_gathersFitting_9 ⟨Nat.zero_le _, Nat.zero_le _⟩) (fun x9 bx9 => ?_)
      refine lv_icmp_gt (tgt := 52) hx hb dX12_gathersFitting_12 (by decide) (fun c12 => ?_) (fun c12 => ?_)
      · have r12tq : iv y7_l1 1 1024 := (iv_lt_r c12 bx9 c7_y7_l1).mono (by decide) (by decide)
        exact W.vret hx hb hr (fun t ht hW => ⟨none, rfl, ⟨rfl, ⟨trivial, by rw [ht]; exact hkm⟩⟩, by rw [ht]; exact hw.1, hw.2.F ht⟩) hw.2.2.2 dX12_gathersFitting_52
      · have r12fp : iv y7_l1 0 1023 := (iv_le_l (iv_nlt c12) c7_y7_l1 bx9).mono (by decide) (by decide)
        refine lv_aload_n hx hb dX12_gathersFitting_15 rfl (lv_at hl 0 rfl) ?_
        refine lv_iload_n hx hb dX12_gathersFitting_16 rfl (lv_at hl 1 rfl) ?_
        refine hp_callei (va_runV (As := [.int y7_l1]) (rest := []) ⟨hx, hb, hml, hown, hts⟩ (sX12_fits l D T ap0 y7_l1 Gm ip0) (cwV 1 hts gX12_gathersFitting_X12_fits rfl rfl rfl (by decide +kernel) ⟨Nat.le_of_ble_eq_true rfl, Nat.le_of_ble_eq_true rfl⟩) (hp_preV hG hw hp0 rfl trivial) rfl rfl hl.1 rfl (lv_room (Nat.le_of_ble_eq_true rfl)) dX12_gathersFitting_17 ⟨Nat.zero_le _, Nat.zero_le _⟩) hw (fun x17 st17 t17 H17 locs17 eh17 eg17 bx17 hw => ?_)
        obtain ⟨bx17, g17⟩ := bx17
        rw [eh17, eg17] at g17
        have hkm := hkm.call g17 (by decide)
        have f_p0_26 := g17 _ _ _ _ f_p0_26 (by decide)
        have J46 : ∀ (y46_fp0_26 : Int32), iv y7_l1 0 1023 → iv y46_fp0_26 0 1024 → y46_fp0_26.toInt ≤ y7_l1.toInt + 1 → ∀ (H : Heap) (locs : List Loc), hp_w D T s H locs → hp_km D [(12, 18), (12, 26)] s.heap H → hp_f D H ap0 12 26 (.int y46_fp0_26) → ∀ (ls : Array Slot), lv_has ls 2 [(0, .ref ap0), (1, .int y7_l1)] → WX12_gathersFitting p l e s m below meth c D T ap0 H locs (F0 m 46 ls []) := by
          intro y46_fp0_26 c46_y7_l1 c46_y46_fp0_26 hv46_0 H46 locs46 hw hkm f_p0_26 ls hl
          obtain ⟨x46, ex46⟩ : ∃ y : Int32, y = y7_l1 + 1 := ⟨_, rfl⟩
          have bx46 : iv x46 1 1024 := iv_add c46_y7_l1 (show iv 1 1 1 from ⟨by decide, by decide⟩) ex46 (by decide)
          have qx46 := iv_add_eq c46_y7_l1 (show iv 1 1 1 from ⟨by decide, by decide⟩) ex46 (by decide)
          refine lv_iinc (v := x46) (lv' := [(1, .int x46), (0, .ref ap0)]) hx hb dX12_gathersFitting_46 hl (k := 1) rfl (by rw [ex46]; rfl) (by decide) rfl (fun ls hl => ?_)
          refine lv_goto (tgt := 7) hx hb dX12_gathersFitting_49 (by decide) ?_
          exact ih7 x46 y46_fp0_26 (mu_up 1 hmu7 (qx46) (by decide) (show iv x46 0 1024 from (bx46.mono (by decide) (by decide))).2) (bx46.mono (by decide) (by decide)) c46_y46_fp0_26 (show y46_fp0_26.toInt ≤ x46.toInt from by have := (c46_y46_fp0_26).1; have := (c46_y46_fp0_26).2; have := (bx46).1; have := (bx46).2; have := (c46_y7_l1).1; have := (c46_y7_l1).2; have : (1 : Int32).toInt = 1 := (by decide); omega) H46 locs46 hw hkm f_p0_26 _ (lv_sub hl [1, 0] rfl)
        refine lv_if_ne (tgt := 26) hx hb dX12_gathersFitting_20 (by decide) (fun c20 => ?_) (fun c20 => ?_)
        · have r20tp : iv x17 1 1 := (iv_ne_lo c20 bx17 rfl).mono (by decide) (by decide)
          have wf : iv y7_fp0_26 0 1023 := ⟨c7_y7_fp0_26.1, by have := (c7_y7_fp0_26).1; have := (c7_y7_fp0_26).2; have := (r12fp).1; have := (r12fp).2; have := (bx9).1; have := (bx9).2; have := (Int32.le_iff_toInt_le.mp (iv_nlt c12)); have : (0 : Int32).toInt = 0 := (by decide); omega⟩
          refine lv_aload_n hx hb dX12_gathersFitting_26 rfl (lv_at hl 0 rfl) ?_
          refine hp_getr hx hb hts IX12 hown hK hw.1 hp0 rfl 25 (by decide) L49 rfl dX12_gathersFitting_27 ?_
          refine lv_aload_n hx hb dX12_gathersFitting_30 rfl (lv_at hl 0 rfl) ?_
          refine hp_getf hx hb hts IX12 hown hK f_p0_26 rfl (by decide) L370 dX12_gathersFitting_31 ?_
          refine lv_iload_n hx hb dX12_gathersFitting_34 rfl (lv_at hl 1 rfl) ?_
          refine hp_iast hx hb hK hw hp0fitting (vp_iv wf (by decide)) ⟨_, rfl, r12fp⟩ dX12_gathersFitting_35 (fun H35 locs35 hw g35 => ?_)
          have hkm := hkm.ar g35
          have f_p0_26 := g35 _ _ _ _ f_p0_26
          refine lv_aload_n hx hb dX12_gathersFitting_36 rfl (lv_at hl 0 rfl) ?_
          refine lv_dup hx hb dX12_gathersFitting_37 rfl ?_
          refine hp_getf hx hb hts IX12 hown hK f_p0_26 rfl (by decide) L370 dX12_gathersFitting_38 ?_
          refine lv_iconst (v := 1) hx hb dX12_gathersFitting_41 (by decide) ?_
          refine lv_iadd hx hb dX12_gathersFitting_42 ?_
          refine lv_topi (fun x42 ex42 => ?_)
          have bx42 : iv x42 1 1024 := iv_add wf (show iv 1 1 1 from ⟨by decide, by decide⟩) ex42 (by decide)
          have qx42 := iv_add_eq wf (show iv 1 1 1 from ⟨by decide, by decide⟩) ex42 (by decide)
          refine hp_put hx hb hts IX12 tyX12 tyX12_ok nmX12 hown hK hw hp0 rfl 26 (by decide) L370 rfl rfl ⟨_, rfl, (bx42.mono (by decide) (by decide))⟩ rfl rfl dX12_gathersFitting_43 (fun H43 locs43 hw f43n g43 => ?_)
          have hkm := hkm.put g43 (by decide)
          exact J46 x42 r12fp (bx42.mono (by decide) (by decide)) (show x42.toInt ≤ y7_l1.toInt + 1 from by have := (bx42).1; have := (bx42).2; have := (r12fp).1; have := (r12fp).2; have := (bx9).1; have := (bx9).2; have := (wf).1; have := (wf).2; have := (Int32.le_iff_toInt_le.mp (iv_nlt c12)); have : (0 : Int32).toInt = 0 := (by decide); have : (1 : Int32).toInt = 1 := (by decide); omega) H43 locs43 hw hkm f43n _ (lv_sub hl [0, 1] rfl)
        · have r20fp : iv x17 0 0 := (iv_both bx17 (iv_eq (show iv 0 0 0 from ⟨by decide, by decide⟩) c20)).mono (by decide) (by decide)
          refine lv_goto (tgt := 46) hx hb dX12_gathersFitting_23 (by decide) ?_
          exact J46 y7_fp0_26 r12fp c7_y7_fp0_26 (show y7_fp0_26.toInt ≤ y7_l1.toInt + 1 from by have := (c7_y7_fp0_26).1; have := (c7_y7_fp0_26).2; have := (r12fp).1; have := (r12fp).2; have := (bx9).1; have := (bx9).2; have := (Int32.le_iff_toInt_le.mp (iv_nlt c12)); omega) H17 locs17 hw hkm f_p0_26 _ (lv_sub hl [0, 1] rfl)
  exact J7 _ (0 : Int32) (0 : Int32) (Nat.lt_succ_self _) (show iv 0 0 1024 from ⟨by decide, by decide⟩) (show iv 0 0 1024 from ⟨by decide, by decide⟩) (show 0 ≤ 0 from by omega) H2 locs2 hw hkm f2n _ (lv_sub hl [1, 0] rfl)
abbrev WX12_mostAlike (p : Program) (l : Launch) (e : Env) (s : State) (m : MethodId) (below : List Frame) (meth : Method) (c : Code) (D : hp_D) (T : hp_T) (ap0 : Nat) (xp1 : Int32) (xp2 : Int32) (H : Heap) (locs : List Loc) (g : JFrame) : Prop := W p l e (headSpec wsX12_mostAlike ({ frames := 5, cells := 0, slots := 0, locals := 128 })).room s m ([.ref ap0, .int xp1, .int xp2] : List Value).toArray below meth c H locs 0 0 (MQ below (hq_e D T (fun v st t => ∃ r : Int32, v = some (.int r) ∧ ((True) ∧ hp_km D [(12, 18)] st.heap t.heap))) ([.ref ap0, .int xp1, .int xp2] : List Value).toArray s 0 0 (hp_F T)) g
set_option maxHeartbeats 4000000 in
set_option maxRecDepth 100000 in
theorem sX12_mostAlike (l : Launch) (D : hp_D) (T : hp_T) (ap0 : Nat) (xp1 : Int32) (xp2 : Int32) (Gm : moG) (ip0 : isMo T ap0 Gm) (bp2 : iv xp2 0 11) : Met l yX12_mostAlike wsX12_mostAlike ({ frames := 5, cells := 0, slots := 0, locals := 128 }) (hp_Pc D T [.ref ap0, .int xp1, .int xp2] (fun _ => True)) (hq_e D T (fun v st t => ∃ r : Int32, v = some (.int r) ∧ ((True) ∧ hp_km D [(12, 18)] st.heap t.heap))) 0 0 (hp_F T) := by
  obtain ⟨ap0tape, ap0sign, ap0len, ap0clause, ap0clauses, ap0read, ap0opn, ap0stack, ap0word, ap0said, ap0was, ap0fitting, ap0sums, ap0sort, ap0sumsBy, ap0oneOf, ap0otherOf, ap0kept, ap0images, ap0acts, ap0iUnd, ap0iFor, ap0iX, ap0made, gok, hp0, hp0tape, hp0sign, hp0len, hp0clause, hp0clauses, hp0read, hp0opn, hp0stack, hp0word, hp0said, hp0was, hp0fitting, hp0sums, hp0sort, hp0sumsBy, hp0oneOf, hp0otherOf, hp0kept, hp0images, hp0acts, hp0iUnd, hp0iFor, hp0iX, hp0made⟩ := id ip0
  have hpx := gok.1
  have gsok := gok.2.2.2.2
  have ggd := gok.2.2.2.1
  refine Met.ofW (cc := cX12_mostAlike) (maxL := 7) (ret := (some .int)) (by decide) rfl ?_
  intro p e s m args below meth c s₁ B hml hv
  obtain ⟨rfl, hok, hG, hB⟩ := hv
  have hx := B.exec
  have hb := B.bytes
  have hr := B.returns
  have hts := atoms_spec (ws := wsX12_mostAlike) B.pre
  have hown : s.vm.findClass RX12 = some m.cls := findClass_of_methodNamed B.named
  have hlocks := B.notSynchronized
  have hK := hG.1
  have hw : hp_w D T s s.heap [] := hp_w.rf hok
  have IX12 : ∀ w ∈ wsX120, w ∈ wsX12_mostAlike := by decide +kernel
  have L370 := hts (.fieldLink RX12 370 "PalmCensusModel" "fittingMany" "I") (by decide +kernel)
  have L52 := hts (.fieldLink RX12 52 "PalmCensusModel" "sums" "[I") (by decide +kernel)
  have L49 := hts (.fieldLink RX12 49 "PalmCensusModel" "fitting" "[I") (by decide +kernel)
  have hkm : hp_km D [(12, 18)] s.heap s.heap := fun _ _ _ _ h _ => h
  have hl := lv_entry ([.ref ap0, .int xp1, .int xp2]) (n := 7) (Nat.le_of_ble_eq_true rfl)
  rw [lg_entry_eq]
  generalize (lg_sl ([.ref ap0, .int xp1, .int xp2]) ++ List.replicate (7 - (lg_sl ([.ref ap0, .int xp1, .int xp2])).length) Slot.unset).toArray = ls at hl ⊢
  have hl : lv_has ls 7 [(0, .ref ap0), (1, .int xp1), (2, .int xp2)] := hl
  show WX12_mostAlike p l e s m below meth c D T ap0 xp1 xp2 s.heap [] (F0 m 0 ls [])
  refine lv_iconst (v := 0) hx hb dX12_mostAlike_0 (by decide) ?_
  refine lv_istore_n (lv' := [(3, .int 0), (0, .ref ap0), (1, .int xp1), (2, .int xp2)]) hx hb dX12_mostAlike_1 rfl hl (by decide) rfl (fun ls hl => ?_)
  refine lv_iconst (v := 0) hx hb dX12_mostAlike_2 (by decide) ?_
  refine lv_istore (lv' := [(4, .int 0), (3, .int 0), (0, .ref ap0), (1, .int xp1), (2, .int xp2)]) hx hb dX12_mostAlike_3 hl (by decide) rfl (fun ls hl => ?_)
  have J5 : ∀ (n : Nat) (y5_l4 : Int32), (1024 - y5_l4.toInt).toNat < n → iv xp2 0 11 → iv y5_l4 0 1024 → ∀ (H : Heap) (locs : List Loc), hp_w D T s H locs → hp_km D [(12, 18)] s.heap H → ∀ (ls : Array Slot), lv_has ls 7 [(0, .ref ap0), (1, .int xp1), (2, .int xp2), (3, .int 0), (4, .int y5_l4)] → WX12_mostAlike p l e s m below meth c D T ap0 xp1 xp2 H locs (F0 m 5 ls []) := by
    intro n
    induction n with
    | zero => intro y5_l4 hmu5 c5_xp2 c5_y5_l4 H5 locs5 hw hkm ls hl; exact absurd hmu5 (Nat.not_lt_zero _)
    | succ n ih5 =>
      intro y5_l4 hmu5 c5_xp2 c5_y5_l4 H5 locs5 hw hkm ls hl
      refine lv_iload hx hb dX12_mostAlike_5 (lv_at hl 4 rfl) ?_
      refine lv_aload_n hx hb dX12_mostAlike_7 rfl (lv_at hl 0 rfl) ?_
      refine hp_geti hx hb hts IX12 hown hK hw.1 hp0 rfl 26 (by decide) L370 rfl dX12_mostAlike_8 (fun x8 bx8 fx8 => ?_)
      refine lv_icmp_ge (tgt := 40) hx hb dX12_mostAlike_11 (by decide) (fun c11 => ?_) (fun c11 => ?_)
      · refine lv_iconst (v := 0) hx hb dX12_mostAlike_40 (by decide) ?_
        refine lv_istore (lv' := [(4, .int 0), (0, .ref ap0), (1, .int xp1), (2, .int xp2), (3, .int 0)]) hx hb dX12_mostAlike_41 hl (by decide) rfl (fun ls hl => ?_)
        have J43 : ∀ (n : Nat) (y43_l3 y43_l4 : Int32), (1024 - y43_l4.toInt).toNat < n → iv y43_l3 0 2147483647 → iv y43_l4 0 1024 → ∀ (H : Heap) (locs : List Loc), hp_w D T s H locs → hp_km D [(12, 18)] s.heap H → ∀ (ls : Array Slot), lv_has ls 7 [(0, .ref ap0), (3, .int y43_l3), (4, .int y43_l4)] → WX12_mostAlike p l e s m below meth c D T ap0 xp1 xp2 H locs (F0 m 43 ls []) := by
          intro n
          induction n with
          | zero => intro y43_l3 y43_l4 hmu43 c43_y43_l3 c43_y43_l4 H43 locs43 hw hkm ls hl; exact absurd hmu43 (Nat.not_lt_zero _)
          | succ n ih43 =>
            intro y43_l3 y43_l4 hmu43 c43_y43_l3 c43_y43_l4 H43 locs43 hw hkm ls hl
            refine lv_iload hx hb dX12_mostAlike_43 (lv_at hl 2 rfl) ?_
            refine lv_aload_n hx hb dX12_mostAlike_45 rfl (lv_at hl 0 rfl) ?_
            refine hp_geti hx hb hts IX12 hown hK hw.1 hp0 rfl 26 (by decide) L370 rfl dX12_mostAlike_46 (fun x46 bx46 fx46 => ?_)
            refine lv_icmp_ge (tgt := 119) hx hb dX12_mostAlike_49 (by decide) (fun c49 => ?_) (fun c49 => ?_)
            · refine lv_iload_n hx hb dX12_mostAlike_119 rfl (lv_at hl 1 rfl) ?_
              exact W.iret (v := y43_l3) hx hb hr (fun t ht hW => ⟨some (.int y43_l3), rfl, ⟨y43_l3, rfl, ⟨trivial, by rw [ht]; exact hkm⟩⟩, by rw [ht]; exact hw.1, hw.2.F ht⟩) hw.2.2.2 dX12_mostAlike_120
            · have r49fp : iv y43_l4 0 1023 := (iv_lt_l (iv_nle c49) c43_y43_l4 bx46).mono (by decide) (by decide)
              have r49fq : iv x46 1 1024 := (iv_lt_r (iv_nle c49) c43_y43_l4 bx46).mono (by decide) (by decide)
              refine lv_iconst (v := 0) hx hb dX12_mostAlike_52 (by decide) ?_
              refine lv_istore (lv' := [(5, .int 0), (0, .ref ap0), (3, .int y43_l3), (4, .int y43_l4)]) hx hb dX12_mostAlike_53 hl (by decide) rfl (fun ls hl => ?_)
              refine lv_iconst (v := 0) hx hb dX12_mostAlike_55 (by decide) ?_
              refine lv_istore (lv' := [(6, .int 0), (5, .int 0), (0, .ref ap0), (3, .int y43_l3), (4, .int y43_l4)]) hx hb dX12_mostAlike_56 hl (by decide) rfl (fun ls hl => ?_)
              have J58 : ∀ (n : Nat) (y58_l5 y58_l6 : Int32), (1024 - y58_l6.toInt).toNat < n → iv y43_l3 0 2147483647 → iv y43_l4 0 1023 → iv y58_l6 0 1024 → ∀ (H : Heap) (locs : List Loc), hp_w D T s H locs → hp_km D [(12, 18)] s.heap H → ∀ (ls : Array Slot), lv_has ls 7 [(0, .ref ap0), (3, .int y43_l3), (4, .int y43_l4), (5, .int y58_l5), (6, .int y58_l6)] → WX12_mostAlike p l e s m below meth c D T ap0 xp1 xp2 H locs (F0 m 58 ls []) := by
                intro n
                induction n with
                | zero => intro y58_l5 y58_l6 hmu58 c58_y43_l3 c58_y43_l4 c58_y58_l6 H58 locs58 hw hkm ls hl; exact absurd hmu58 (Nat.not_lt_zero _)
                | succ n ih58 =>
                  intro y58_l5 y58_l6 hmu58 c58_y43_l3 c58_y43_l4 c58_y58_l6 H58 locs58 hw hkm ls hl
                  refine lv_iload hx hb dX12_mostAlike_58 (lv_at hl 4 rfl) ?_
                  refine lv_aload_n hx hb dX12_mostAlike_60 rfl (lv_at hl 0 rfl) ?_
                  refine hp_geti hx hb hts IX12 hown hK hw.1 hp0 rfl 26 (by decide) L370 rfl dX12_mostAlike_61 (fun x61 bx61 fx61 => ?_)
                  refine lv_icmp_ge (tgt := 100) hx hb dX12_mostAlike_64 (by decide) (fun c64 => ?_) (fun c64 => ?_)
                  · refine lv_iload hx hb dX12_mostAlike_100 (lv_at hl 3 rfl) ?_
                    refine lv_iload_n hx hb dX12_mostAlike_102 rfl (lv_at hl 1 rfl) ?_
                    have J112 : ∀ (y112_s0 : Int32), iv y43_l4 0 1023 → iv y112_s0 0 2147483647 → ∀ (H : Heap) (locs : List Loc), hp_w D T s H locs → hp_km D [(12, 18)] s.heap H → ∀ (ls : Array Slot), lv_has ls 7 [(0, .ref ap0), (4, .int y43_l4)] → WX12_mostAlike p l e s m below meth c D T ap0 xp1 xp2 H locs (F0 m 112 ls [.int y112_s0]) := by
                      intro y112_s0 c112_y43_l4 c112_y112_s0 H112 locs112 hw hkm ls hl
                      refine lv_istore_n (lv' := [(3, .int y112_s0), (0, .ref ap0), (4, .int y43_l4)]) hx hb dX12_mostAlike_112 rfl hl (by decide) rfl (fun ls hl => ?_)
                      obtain ⟨x113, ex113⟩ : ∃ y : Int32, y = y43_l4 + 1 := ⟨_, rfl⟩
                      have bx113 : iv x113 1 1024 := iv_add c112_y43_l4 (show iv 1 1 1 from ⟨by decide, by decide⟩) ex113 (by decide)
                      have qx113 := iv_add_eq c112_y43_l4 (show iv 1 1 1 from ⟨by decide, by decide⟩) ex113 (by decide)
                      refine lv_iinc (v := x113) (lv' := [(4, .int x113), (3, .int y112_s0), (0, .ref ap0)]) hx hb dX12_mostAlike_113 hl (k := 2) rfl (by rw [ex113]; rfl) (by decide) rfl (fun ls hl => ?_)
                      refine lv_goto (tgt := 43) hx hb dX12_mostAlike_116 (by decide) ?_
                      exact ih43 y112_s0 x113 (mu_up 1 hmu43 (qx113) (by decide) (show iv x113 0 1024 from (bx113.mono (by decide) (by decide))).2) c112_y112_s0 (bx113.mono (by decide) (by decide)) H112 locs112 hw hkm _ (lv_sub hl [2, 1, 0] rfl)
                    refine lv_icmp_le (tgt := 111) hx hb dX12_mostAlike_103 (by decide) (fun c103 => ?_) (fun c103 => ?_)
                    · refine lv_iload_n hx hb dX12_mostAlike_111 rfl (lv_at hl 1 rfl) ?_
                      exact J112 y43_l3 c58_y43_l4 c58_y43_l3 H58 locs58 hw hkm _ (lv_sub hl [0, 2] rfl)
                    · have r103fp : iv y43_l3 0 2147483646 := (iv_lt_l (iv_nle c103) c58_y43_l3 (iv_any y58_l5)).mono (by decide) (by decide)
                      have r103fq : iv y58_l5 1 2147483647 := (iv_lt_r (iv_nle c103) c58_y43_l3 (iv_any y58_l5)).mono (by decide) (by decide)
                      refine lv_iload hx hb dX12_mostAlike_106 (lv_at hl 3 rfl) ?_
                      refine lv_goto (tgt := 112) hx hb dX12_mostAlike_108 (by decide) ?_
                      exact J112 y58_l5 c58_y43_l4 (r103fq.mono (by decide) (by decide)) H58 locs58 hw hkm _ (lv_sub hl [0, 2] rfl)
                  · have r64fp : iv y58_l6 0 1023 := (iv_lt_l (iv_nle c64) c58_y58_l6 bx61).mono (by decide) (by decide)
                    have r64fq : iv x61 1 1024 := (iv_lt_r (iv_nle c64) c58_y58_l6 bx61).mono (by decide) (by decide)
                    refine lv_iload hx hb dX12_mostAlike_67 (lv_at hl 3 rfl) ?_
                    refine lv_aload_n hx hb dX12_mostAlike_69 rfl (lv_at hl 0 rfl) ?_
                    refine hp_getr hx hb hts IX12 hown hK hw.1 hp0 rfl 27 (by decide) L52 rfl dX12_mostAlike_70 ?_
                    refine lv_iload hx hb dX12_mostAlike_73 (lv_at hl 4 rfl) ?_
                    refine hp_ialdA hx hb hK hw.1 hp0sums (vp_iv r64fp (by decide)) dX12_mostAlike_75 (fun x75 => ?_)
                    refine lv_aload_n hx hb dX12_mostAlike_76 rfl (lv_at hl 0 rfl) ?_
                    refine hp_getr hx hb hts IX12 hown hK hw.1 hp0 rfl 27 (by decide) L52 rfl dX12_mostAlike_77 ?_
                    refine lv_iload hx hb dX12_mostAlike_80 (lv_at hl 2 rfl) ?_
                    refine hp_ialdA hx hb hK hw.1 hp0sums (vp_iv c58_y43_l4 (by decide)) dX12_mostAlike_82 (fun x82 => ?_)
                    have J91 : ∀ (y91_s1 : Int32), iv y43_l3 0 2147483647 → iv y43_l4 0 1023 → iv y58_l6 0 1023 → iv y91_s1 0 1 → ∀ (H : Heap) (locs : List Loc), hp_w D T s H locs → hp_km D [(12, 18)] s.heap H → ∀ (ls : Array Slot), lv_has ls 7 [(0, .ref ap0), (3, .int y43_l3), (4, .int y43_l4), (6, .int y58_l6)] → WX12_mostAlike p l e s m below meth c D T ap0 xp1 xp2 H locs (F0 m 91 ls [.int y91_s1, .int y58_l5]) := by
                      intro y91_s1 c91_y43_l3 c91_y43_l4 c91_y58_l6 c91_y91_s1 H91 locs91 hw hkm ls hl
                      refine lv_iadd hx hb dX12_mostAlike_91 ?_
                      refine lv_topi (fun x91 ex91 => ?_)
                      refine lv_istore (lv' := [(5, .int x91), (0, .ref ap0), (3, .int y43_l3), (4, .int y43_l4), (6, .int y58_l6)]) hx hb dX12_mostAlike_92 hl (by decide) rfl (fun ls hl => ?_)
                      obtain ⟨x94, ex94⟩ : ∃ y : Int32, y = y58_l6 + 1 := ⟨_, rfl⟩
                      have bx94 : iv x94 1 1024 := iv_add c91_y58_l6 (show iv 1 1 1 from ⟨by decide, by decide⟩) ex94 (by decide)
                      have qx94 := iv_add_eq c91_y58_l6 (show iv 1 1 1 from ⟨by decide, by decide⟩) ex94 (by decide)
                      refine lv_iinc (v := x94) (lv' := [(6, .int x94), (5, .int x91), (0, .ref ap0), (3, .int y43_l3), (4, .int y43_l4)]) hx hb dX12_mostAlike_94 hl (k := 4) rfl (by rw [ex94]; rfl) (by decide) rfl (fun ls hl => ?_)
                      refine lv_goto (tgt := 58) hx hb dX12_mostAlike_97 (by decide) ?_
                      exact ih58 x91 x94 (mu_up 1 hmu58 (qx94) (by decide) (show iv x94 0 1024 from (bx94.mono (by decide) (by decide))).2) c91_y43_l3 c91_y43_l4 (bx94.mono (by decide) (by decide)) H91 locs91 hw hkm _ (lv_sub hl [2, 3, 4, 1, 0] rfl)
                    refine lv_icmp_ne (tgt := 90) hx hb dX12_mostAlike_83 (by decide) (fun c83 => ?_) (fun c83 => ?_)
                    · refine lv_iconst (v := 0) hx hb dX12_mostAlike_90 (by decide) ?_
                      exact J91 (0 : Int32) c58_y43_l3 c58_y43_l4 r64fp (show iv 0 0 1 from ⟨by decide, by decide⟩) H58 locs58 hw hkm _ (lv_sub hl [0, 1, 2, 4] rfl)
                    · refine lv_iconst (v := 1) hx hb dX12_mostAlike_86 (by decide) ?_
                      refine lv_goto (tgt := 91) hx hb dX12_mostAlike_87 (by decide) ?_
                      exact J91 (1 : Int32) c58_y43_l3 c58_y43_l4 r64fp (show iv 1 0 1 from ⟨by decide, by decide⟩) H58 locs58 hw hkm _ (lv_sub hl [0, 1, 2, 4] rfl)
              exact J58 _ (0 : Int32) (0 : Int32) (Nat.lt_succ_self _) c43_y43_l3 r49fp (show iv 0 0 1024 from ⟨by decide, by decide⟩) H43 locs43 hw hkm _ (lv_sub hl [2, 3, 4, 1, 0] rfl)
        exact J43 _ (0 : Int32) (0 : Int32) (Nat.lt_succ_self _) (show iv 0 0 2147483647 from ⟨by decide, by decide⟩) (show iv 0 0 1024 from ⟨by decide, by decide⟩) H5 locs5 hw hkm _ (lv_sub hl [1, 4, 0] rfl)
      · have r11fp : iv y5_l4 0 1023 := (iv_lt_l (iv_nle c11) c5_y5_l4 bx8).mono (by decide) (by decide)
        have r11fq : iv x8 1 1024 := (iv_lt_r (iv_nle c11) c5_y5_l4 bx8).mono (by decide) (by decide)
        refine lv_aload_n hx hb dX12_mostAlike_14 rfl (lv_at hl 0 rfl) ?_
        refine hp_getr hx hb hts IX12 hown hK hw.1 hp0 rfl 27 (by decide) L52 rfl dX12_mostAlike_15 ?_
        refine lv_iload hx hb dX12_mostAlike_18 (lv_at hl 4 rfl) ?_
        refine lv_aload_n hx hb dX12_mostAlike_20 rfl (lv_at hl 0 rfl) ?_
        refine lv_aload_n hx hb dX12_mostAlike_21 rfl (lv_at hl 0 rfl) ?_
        refine hp_getr hx hb hts IX12 hown hK hw.1 hp0 rfl 25 (by decide) L49 rfl dX12_mostAlike_22 ?_
        refine lv_iload hx hb dX12_mostAlike_25 (lv_at hl 4 rfl) ?_
        refine hp_ialdI hx hb hK hw.1 hp0fitting (vp_iv r11fp (by decide)) dX12_mostAlike_27 (fun x27 bx27 => ?_)
        refine lv_iload_n hx hb dX12_mostAlike_28 rfl (lv_at hl 1 rfl) ?_
        refine lv_iload_n hx hb dX12_mostAlike_29 rfl (lv_at hl 2 rfl) ?_
        refine hp_callei (va_runV (As := [.int x27, .int xp1, .int xp2]) (rest := [.int y5_l4, .ref ap0sums]) ⟨hx, hb, hml, hown, hts⟩ (sX12_sumOf l D T ap0 x27 xp1 xp2 Gm ip0 c5_xp2) (cwV 3 hts gX12_mostAlike_X12_sumOf rfl rfl rfl (by decide +kernel) ⟨Nat.le_of_ble_eq_true rfl, Nat.le_of_ble_eq_true rfl⟩) (hp_preV hG hw hp0 rfl trivial) rfl rfl hl.1 rfl (lv_room (Nat.le_of_ble_eq_true rfl)) dX12_mostAlike_30 ⟨Nat.zero_le _, Nat.zero_le _⟩) hw (fun x30 st30 t30 H30 locs30 eh30 eg30 bx30 hw => ?_)
        obtain ⟨bx30, g30⟩ := bx30
        rw [eh30, eg30] at g30
        have hkm := hkm.call g30 (by decide)
        refine hp_iast hx hb hK hw hp0sums (vp_iv r11fp (by decide)) ⟨_, rfl⟩ dX12_mostAlike_33 (fun H33 locs33 hw g33 => ?_)
        have hkm := hkm.ar g33
        obtain ⟨x34, ex34⟩ : ∃ y : Int32, y = y5_l4 + 1 := ⟨_, rfl⟩
        have bx34 : iv x34 1 1024 := iv_add r11fp (show iv 1 1 1 from ⟨by decide, by decide⟩) ex34 (by decide)
        have qx34 := iv_add_eq r11fp (show iv 1 1 1 from ⟨by decide, by decide⟩) ex34 (by decide)
        refine lv_iinc (v := x34) (lv' := [(4, .int x34), (0, .ref ap0), (1, .int xp1), (2, .int xp2), (3, .int 0)]) hx hb dX12_mostAlike_34 hl (k := 4) rfl (by rw [ex34]; rfl) (by decide) rfl (fun ls hl => ?_)
        refine lv_goto (tgt := 5) hx hb dX12_mostAlike_37 (by decide) ?_
        exact ih5 x34 (mu_up 1 hmu5 (qx34) (by decide) (show iv x34 0 1024 from (bx34.mono (by decide) (by decide))).2) c5_xp2 (bx34.mono (by decide) (by decide)) H33 locs33 hw hkm _ (lv_sub hl [1, 2, 3, 4, 0] rfl)
  exact J5 _ (0 : Int32) (Nat.lt_succ_self _) bp2 (show iv 0 0 1024 from ⟨by decide, by decide⟩) s.heap [] hw hkm _ (lv_sub hl [2, 3, 4, 1, 0] rfl)
abbrev WX12_worlds (p : Program) (l : Launch) (e : Env) (s : State) (m : MethodId) (below : List Frame) (meth : Method) (c : Code) (D : hp_D) (T : hp_T) (ap0 : Nat) (xp1 : Int32) (H : Heap) (locs : List Loc) (g : JFrame) : Prop := W p l e (headSpec wsX12_worlds ({ frames := 7, cells := 0, slots := 0, locals := 172 })).room s m ([.ref ap0, .int xp1] : List Value).toArray below meth c H locs 0 0 (MQ below (hq_e D T (fun v _ _ => ∃ r : Int32, v = some (.int r) ∧ True)) ([.ref ap0, .int xp1] : List Value).toArray s 0 0 (hp_F T)) g
set_option maxHeartbeats 4000000 in
set_option maxRecDepth 100000 in
theorem sX12_worlds (l : Launch) (D : hp_D) (T : hp_T) (ap0 : Nat) (xp1 : Int32) (Gm : moG) (ip0 : isMo T ap0 Gm) : Met l yX12_worlds wsX12_worlds ({ frames := 7, cells := 0, slots := 0, locals := 172 }) (hp_Pc D T [.ref ap0, .int xp1] (fun _ => True)) (hq_e D T (fun v _ _ => ∃ r : Int32, v = some (.int r) ∧ True)) 0 0 (hp_F T) := by
  obtain ⟨ap0tape, ap0sign, ap0len, ap0clause, ap0clauses, ap0read, ap0opn, ap0stack, ap0word, ap0said, ap0was, ap0fitting, ap0sums, ap0sort, ap0sumsBy, ap0oneOf, ap0otherOf, ap0kept, ap0images, ap0acts, ap0iUnd, ap0iFor, ap0iX, ap0made, gok, hp0, hp0tape, hp0sign, hp0len, hp0clause, hp0clauses, hp0read, hp0opn, hp0stack, hp0word, hp0said, hp0was, hp0fitting, hp0sums, hp0sort, hp0sumsBy, hp0oneOf, hp0otherOf, hp0kept, hp0images, hp0acts, hp0iUnd, hp0iFor, hp0iX, hp0made⟩ := id ip0
  have hpx := gok.1
  have gsok := gok.2.2.2.2
  have ggd := gok.2.2.2.1
  refine Met.ofW (cc := cX12_worlds) (maxL := 8) (ret := (some .int)) (by decide) rfl ?_
  intro p e s m args below meth c s₁ B hml hv
  obtain ⟨rfl, hok, hG, hB⟩ := hv
  have hx := B.exec
  have hb := B.bytes
  have hr := B.returns
  have hts := atoms_spec (ws := wsX12_worlds) B.pre
  have hown : s.vm.findClass RX12 = some m.cls := findClass_of_methodNamed B.named
  have hlocks := B.notSynchronized
  have hK := hG.1
  have hw : hp_w D T s s.heap [] := hp_w.rf hok
  have IX12 : ∀ w ∈ wsX120, w ∈ wsX12_worlds := by decide +kernel
  have K348 := hts (.constantLong RX12 348 4) (by decide +kernel)
  have L370 := hts (.fieldLink RX12 370 "PalmCensusModel" "fittingMany" "I") (by decide +kernel)
  have L49 := hts (.fieldLink RX12 49 "PalmCensusModel" "fitting" "[I") (by decide +kernel)
  have hl := lv_entry ([.ref ap0, .int xp1]) (n := 8) (Nat.le_of_ble_eq_true rfl)
  rw [lg_entry_eq]
  generalize (lg_sl ([.ref ap0, .int xp1]) ++ List.replicate (8 - (lg_sl ([.ref ap0, .int xp1])).length) Slot.unset).toArray = ls at hl ⊢
  have hl : lv_has ls 8 [(0, .ref ap0), (1, .int xp1)] := hl
  show WX12_worlds p l e s m below meth c D T ap0 xp1 s.heap [] (F0 m 0 ls [])
  refine lv_aload_n hx hb dX12_worlds_0 rfl (lv_at hl 0 rfl) ?_
  refine hp_callpi (va_runV (As := []) (rest := []) ⟨hx, hb, hml, hown, hts⟩ (sX12_isTown l D T ap0 Gm ip0) (cwV 0 hts gX12_worlds_X12_isTown rfl rfl rfl (by decide +kernel) ⟨Nat.le_of_ble_eq_true rfl, Nat.le_of_ble_eq_true rfl⟩) (hp_preV hG hw hp0 rfl trivial) rfl rfl hl.1 rfl (lv_room (Nat.le_of_ble_eq_true rfl)) dX12_worlds_1 ⟨Nat.zero_le _, Nat.zero_le _⟩) (fun x1 bx1 => ?_)
  have J19 : ∀ (H : Heap) (locs : List Loc), hp_w D T s H locs → ∀ (ls : Array Slot), lv_has ls 8 [] → WX12_worlds p l e s m below meth c D T ap0 xp1 H locs (F0 m 19 ls []) := by
    intro H19 locs19 hw ls hl
    refine lv_iconst (v := (-1)) hx hb dX12_worlds_19 (by decide) ?_
    exact W.iret (v := (-1)) hx hb hr (fun t ht hW => ⟨some (.int (-1)), rfl, ⟨((-1) : Int32), rfl, trivial⟩, by rw [ht]; exact hw.1, hw.2.F ht⟩) hw.2.2.2 dX12_worlds_20
  refine lv_if_eq (tgt := 19) hx hb dX12_worlds_4 (by decide) (fun c4 => ?_) (fun c4 => ?_)
  · have r4tp : iv x1 0 0 := (iv_both bx1 (iv_eq (show iv 0 0 0 from ⟨by decide, by decide⟩) c4)).mono (by decide) (by decide)
    exact J19 s.heap [] hw _ (lv_sub hl [] rfl)
  · have r4fp : iv x1 1 1 := (iv_ne_lo c4 bx1 rfl).mono (by decide) (by decide)
    refine lv_iload_n hx hb dX12_worlds_7 rfl (lv_at hl 1 rfl) ?_
    obtain ⟨x8, ex8⟩ : ∃ y : Int64, xp1.toInt64 = y := ⟨_, rfl⟩
    refine lv_i2l (v := x8) hx hb dX12_worlds_8 ex8 ?_
    refine lv_lconst (v := 0) hx hb dX12_worlds_9 (by decide) ?_
    refine lv_ldc2 (v := 4) hx hb hown K348 dX12_worlds_10 ?_
    refine hp_callpi (va_runS (As := [.long x8, .long 0, .long 4]) (rest := []) ⟨hx, hb, hml, hown, hts⟩ (sX12_in l D T x8 0 4) (va_cwS 3 hts gX12_worlds_X12_in rfl rfl rfl (by decide +kernel) ⟨Nat.le_of_ble_eq_true rfl, Nat.le_of_ble_eq_true rfl⟩) (hp_preS hG hw trivial) rfl rfl hl.1 rfl (lv_room (Nat.le_of_ble_eq_true rfl)) dX12_worlds_13 ⟨Nat.zero_le _, Nat.zero_le _⟩) (fun x13 bx13 => ?_)
    obtain ⟨bx13, ox13, nx13⟩ := bx13
    have ox13a_ : x13 = 0 ∨ iv xp1 0 4 := ox13.imp id (fun h => iv_in64 ex8 h.1 h.2 (by decide) (by decide))
    have ox13a : x13 = 0 ∨ iv xp1 0 4 := ox13.imp id (fun h => iv_in64 ex8 h.1 h.2 (by decide) (by decide))
    refine lv_if_ne (tgt := 21) hx hb dX12_worlds_16 (by decide) (fun c16 => ?_) (fun c16 => ?_)
    · have r16tp : iv x13 1 1 := (iv_ne_lo c16 bx13 rfl).mono (by decide) (by decide)
      have r16tpz : iv xp1 0 4 := (iv_both (iv_any xp1) ((fun h9 => ox13a.resolve_left h9) (iv_ne0 r16tp (by decide)))).mono (by decide) (by decide)
      refine lv_aload_n hx hb dX12_worlds_21 rfl (lv_at hl 0 rfl) ?_
      refine hp_callev (va_runV (As := []) (rest := []) ⟨hx, hb, hml, hown, hts⟩ (sX12_gathersFitting l D T ap0 Gm ip0) (cwV 0 hts gX12_worlds_X12_gathersFitting rfl rfl rfl (by decide +kernel) ⟨Nat.le_of_ble_eq_true rfl, Nat.le_of_ble_eq_true rfl⟩) (hp_preV hG hw hp0 rfl trivial) rfl rfl hl.1 rfl (lv_room (Nat.le_of_ble_eq_true rfl)) dX12_worlds_22 ⟨Nat.zero_le _, Nat.zero_le _⟩) hw (fun st22 t22 H22 locs22 eh22 eg22 bx22 hw => ?_)
      obtain ⟨bx22, g22⟩ := bx22
      rw [eh22, eg22] at g22
      refine lv_iload_n hx hb dX12_worlds_25 rfl (lv_at hl 1 rfl) ?_
      refine lv_if_ne (tgt := 34) hx hb dX12_worlds_26 (by decide) (fun c26 => ?_) (fun c26 => ?_)
      · have r26tp : iv xp1 1 4 := (iv_ne_lo c26 r16tpz rfl).mono (by decide) (by decide)
        refine lv_aload_n hx hb dX12_worlds_34 rfl (lv_at hl 0 rfl) ?_
        refine hp_geti hx hb hts IX12 hown hK hw.1 hp0 rfl 26 (by decide) L370 rfl dX12_worlds_35 (fun x35 bx35 fx35 => ?_)
        refine lv_if_ne (tgt := 53) hx hb dX12_worlds_38 (by decide) (fun c38 => ?_) (fun c38 => ?_)
        · have r38tp : iv x35 1 1024 := (iv_ne_lo c38 bx35 rfl).mono (by decide) (by decide)
          refine lv_bipush (v := 10) hx hb dX12_worlds_53 (by decide) ?_
          refine lv_istore_n (lv' := [(2, .int 10), (0, .ref ap0), (1, .int xp1)]) hx hb dX12_worlds_55 rfl hl (by decide) rfl (fun ls hl => ?_)
          refine lv_iconst (v := 0) hx hb dX12_worlds_56 (by decide) ?_
          refine lv_istore_n (lv' := [(3, .int 0), (2, .int 10), (0, .ref ap0), (1, .int xp1)]) hx hb dX12_worlds_57 rfl hl (by decide) rfl (fun ls hl => ?_)
          refine lv_aload_n hx hb dX12_worlds_58 rfl (lv_at hl 2 rfl) ?_
          refine hp_callpi (va_runV (As := []) (rest := []) ⟨hx, hb, hml, hown, hts⟩ (sX12_everybody_0 l D T ap0 Gm ip0) (cwV 0 hts gX12_worlds_X12_everybody rfl rfl rfl (by decide +kernel) ⟨Nat.le_of_ble_eq_true rfl, Nat.le_of_ble_eq_true rfl⟩) (hp_preV hG hw hp0 rfl trivial) rfl rfl hl.1 rfl (lv_room (Nat.le_of_ble_eq_true rfl)) dX12_worlds_59 ⟨Nat.zero_le _, Nat.zero_le _⟩) (fun x59 bx59 => ?_)
          refine lv_istore (lv' := [(4, .int x59), (3, .int 0), (2, .int 10), (0, .ref ap0), (1, .int xp1)]) hx hb dX12_worlds_62 hl (by decide) rfl (fun ls hl => ?_)
          refine lv_iconst (v := 0) hx hb dX12_worlds_64 (by decide) ?_
          refine lv_istore (lv' := [(5, .int 0), (4, .int x59), (3, .int 0), (2, .int 10), (0, .ref ap0), (1, .int xp1)]) hx hb dX12_worlds_65 hl (by decide) rfl (fun ls hl => ?_)
          refine lv_iconst (v := 0) hx hb dX12_worlds_67 (by decide) ?_
          refine lv_istore (lv' := [(6, .int 0), (5, .int 0), (4, .int x59), (3, .int 0), (2, .int 10), (0, .ref ap0), (1, .int xp1)]) hx hb dX12_worlds_68 hl (by decide) rfl (fun ls hl => ?_)
          have J70 : ∀ (n : Nat) (y70_l2 y70_l3 y70_l4 y70_l5 y70_l6 : Int32), (1024 - y70_l6.toInt).toNat < n → iv xp1 1 4 → iv y70_l2 (-2147483648) 10 → iv y70_l3 0 2147483647 → iv y70_l4 0 1023 → iv y70_l5 0 1023 → iv y70_l6 0 1024 → ∀ (H : Heap) (locs : List Loc), hp_w D T s H locs → ∀ (ls : Array Slot), lv_has ls 8 [(0, .ref ap0), (1, .int xp1), (2, .int y70_l2), (3, .int y70_l3), (4, .int y70_l4), (5, .int y70_l5), (6, .int y70_l6)] → WX12_worlds p l e s m below meth c D T ap0 xp1 H locs (F0 m 70 ls []) := by
            intro n
            induction n with
            | zero => intro y70_l2 y70_l3 y70_l4 y70_l5 y70_l6 hmu70 c70_xp1 c70_y70_l2 c70_y70_l3 c70_y70_l4 c70_y70_l5 c70_y70_l6 H70 locs70 hw ls hl; exact absurd hmu70 (Nat.not_lt_zero _)
            | succ n ih70 =>
              intro y70_l2 y70_l3 y70_l4 y70_l5 y70_l6 hmu70 c70_xp1 c70_y70_l2 c70_y70_l3 c70_y70_l4 c70_y70_l5 c70_y70_l6 H70 locs70 hw ls hl
              refine lv_iload hx hb dX12_worlds_70 (lv_at hl 6 rfl) ?_
              refine lv_aload_n hx hb dX12_worlds_72 rfl (lv_at hl 0 rfl) ?_
              refine hp_geti hx hb hts IX12 hown hK hw.1 hp0 rfl 26 (by decide) L370 rfl dX12_worlds_73 (fun x73 bx73 fx73 => ?_)
              refine lv_icmp_ge (tgt := 147) hx hb dX12_worlds_76 (by decide) (fun c76 => ?_) (fun c76 => ?_)
              · refine lv_iload_n hx hb dX12_worlds_147 rfl (lv_at hl 1 rfl) ?_
                refine lv_iconst (v := 1) hx hb dX12_worlds_148 (by decide) ?_
                have J184 : ∀ (y184_s0 : Int32), ∀ (H : Heap) (locs : List Loc), hp_w D T s H locs → ∀ (ls : Array Slot), lv_has ls 8 [] → WX12_worlds p l e s m below meth c D T ap0 xp1 H locs (F0 m 184 ls [.int y184_s0]) := by
                  intro y184_s0 H184 locs184 hw ls hl
                  exact W.iret (v := y184_s0) hx hb hr (fun t ht hW => ⟨some (.int y184_s0), rfl, ⟨y184_s0, rfl, trivial⟩, by rw [ht]; exact hw.1, hw.2.F ht⟩) hw.2.2.2 dX12_worlds_184
                refine lv_icmp_ne (tgt := 156) hx hb dX12_worlds_149 (by decide) (fun c149 => ?_) (fun c149 => ?_)
                · have r149tp : iv xp1 2 4 := (iv_ne_lo c149 c70_xp1 rfl).mono (by decide) (by decide)
                  refine lv_iload_n hx hb dX12_worlds_156 rfl (lv_at hl 1 rfl) ?_
                  refine lv_iconst (v := 2) hx hb dX12_worlds_157 (by decide) ?_
                  refine lv_icmp_ne (tgt := 165) hx hb dX12_worlds_158 (by decide) (fun c158 => ?_) (fun c158 => ?_)
                  · have r158tp : iv xp1 3 4 := (iv_ne_lo c158 r149tp rfl).mono (by decide) (by decide)
                    refine lv_iload_n hx hb dX12_worlds_165 rfl (lv_at hl 1 rfl) ?_
                    refine lv_iconst (v := 3) hx hb dX12_worlds_166 (by decide) ?_
                    refine lv_icmp_ne (tgt := 175) hx hb dX12_worlds_167 (by decide) (fun c167 => ?_) (fun c167 => ?_)
                    · have r167tp : iv xp1 4 4 := (iv_ne_lo c167 r158tp rfl).mono (by decide) (by decide)
                      refine lv_aload_n hx hb dX12_worlds_175 rfl (lv_at hl 0 rfl) ?_
                      refine hp_callpi (va_runV (As := []) (rest := []) ⟨hx, hb, hml, hown, hts⟩ (sX12_everybody_0 l D T ap0 Gm ip0) (cwV 0 hts gX12_worlds_X12_everybody rfl rfl rfl (by decide +kernel) ⟨Nat.le_of_ble_eq_true rfl, Nat.le_of_ble_eq_true rfl⟩) (hp_preV hG hw hp0 rfl trivial) rfl rfl hl.1 rfl (lv_room (Nat.le_of_ble_eq_true rfl)) dX12_worlds_176 ⟨Nat.zero_le _, Nat.zero_le _⟩) (fun x176 bx176 => ?_)
                      refine lv_iload hx hb dX12_worlds_179 (lv_at hl 5 rfl) ?_
                      refine lv_iconst (v := (-1)) hx hb dX12_worlds_181 (by decide) ?_
                      refine lv_ixor hx hb dX12_worlds_182 ?_
                      refine lv_topi (fun x182 ex182 => ?_)
                      refine lv_iand hx hb dX12_worlds_183 ?_
                      refine lv_topi (fun x183 ex183 => ?_)
                      have bx183 : iv x183 0 1023 := iv_and_l bx176 ex183
                      exact J184 x183 H70 locs70 hw _ (lv_sub hl [] rfl)
                    · have r167fp : iv xp1 3 3 := (iv_both r158tp (iv_eq (show iv 3 3 3 from ⟨by decide, by decide⟩) c167)).mono (by decide) (by decide)
                      refine lv_iload hx hb dX12_worlds_170 (lv_at hl 4 rfl) ?_
                      refine lv_goto (tgt := 184) hx hb dX12_worlds_172 (by decide) ?_
                      exact J184 y70_l4 H70 locs70 hw _ (lv_sub hl [] rfl)
                  · have r158fp : iv xp1 2 2 := (iv_both r149tp (iv_eq (show iv 2 2 2 from ⟨by decide, by decide⟩) c158)).mono (by decide) (by decide)
                    refine lv_iload_n hx hb dX12_worlds_161 rfl (lv_at hl 3 rfl) ?_
                    refine lv_goto (tgt := 184) hx hb dX12_worlds_162 (by decide) ?_
                    exact J184 y70_l3 H70 locs70 hw _ (lv_sub hl [] rfl)
                · have r149fp : iv xp1 1 1 := (iv_both c70_xp1 (iv_eq (show iv 1 1 1 from ⟨by decide, by decide⟩) c149)).mono (by decide) (by decide)
                  refine lv_iload_n hx hb dX12_worlds_152 rfl (lv_at hl 2 rfl) ?_
                  refine lv_goto (tgt := 184) hx hb dX12_worlds_153 (by decide) ?_
                  exact J184 y70_l2 H70 locs70 hw _ (lv_sub hl [] rfl)
              · have r76fp : iv y70_l6 0 1023 := (iv_lt_l (iv_nle c76) c70_y70_l6 bx73).mono (by decide) (by decide)
                have r76fq : iv x73 1 1024 := (iv_lt_r (iv_nle c76) c70_y70_l6 bx73).mono (by decide) (by decide)
                refine lv_aload_n hx hb dX12_worlds_79 rfl (lv_at hl 0 rfl) ?_
                refine hp_getr hx hb hts IX12 hown hK hw.1 hp0 rfl 25 (by decide) L49 rfl dX12_worlds_80 ?_
                refine lv_iload hx hb dX12_worlds_83 (lv_at hl 6 rfl) ?_
                refine hp_ialdI hx hb hK hw.1 hp0fitting (vp_iv r76fp (by decide)) dX12_worlds_85 (fun x85 bx85 => ?_)
                refine hp_callpi (va_runS (As := [.int x85]) (rest := []) ⟨hx, hb, hml, hown, hts⟩ (sX12_bits l D T x85) (va_cwS 1 hts gX12_worlds_X12_bits rfl rfl rfl (by decide +kernel) ⟨Nat.le_of_ble_eq_true rfl, Nat.le_of_ble_eq_true rfl⟩) (hp_preS hG hw trivial) rfl rfl hl.1 rfl (lv_room (Nat.le_of_ble_eq_true rfl)) dX12_worlds_86 ⟨Nat.zero_le _, Nat.zero_le _⟩) (fun x86 bx86 => ?_)
                refine lv_istore (lv' := [(7, .int x86), (0, .ref ap0), (1, .int xp1), (2, .int y70_l2), (3, .int y70_l3), (4, .int y70_l4), (5, .int y70_l5), (6, .int y70_l6)]) hx hb dX12_worlds_89 hl (by decide) rfl (fun ls hl => ?_)
                refine lv_iload hx hb dX12_worlds_91 (lv_at hl 0 rfl) ?_
                refine lv_iload_n hx hb dX12_worlds_93 rfl (lv_at hl 3 rfl) ?_
                have J103 : ∀ (y103_s0 : Int32), iv xp1 1 4 → iv y70_l3 0 2147483647 → iv y70_l4 0 1023 → iv y70_l5 0 1023 → iv y70_l6 0 1023 → iv y103_s0 (-2147483648) 10 → ∀ (H : Heap) (locs : List Loc), hp_w D T s H locs → ∀ (ls : Array Slot), lv_has ls 8 [(0, .ref ap0), (1, .int xp1), (3, .int y70_l3), (4, .int y70_l4), (5, .int y70_l5), (6, .int y70_l6), (7, .int x86)] → WX12_worlds p l e s m below meth c D T ap0 xp1 H locs (F0 m 103 ls [.int y103_s0]) := by
                  intro y103_s0 c103_xp1 c103_y70_l3 c103_y70_l4 c103_y70_l5 c103_y70_l6 c103_y103_s0 H103 locs103 hw ls hl
                  refine lv_istore_n (lv' := [(2, .int y103_s0), (0, .ref ap0), (1, .int xp1), (3, .int y70_l3), (4, .int y70_l4), (5, .int y70_l5), (6, .int y70_l6), (7, .int x86)]) hx hb dX12_worlds_103 rfl hl (by decide) rfl (fun ls hl => ?_)
                  refine lv_iload hx hb dX12_worlds_104 (lv_at hl 7 rfl) ?_
                  refine lv_iload_n hx hb dX12_worlds_106 rfl (lv_at hl 3 rfl) ?_
                  have J116 : ∀ (y116_s0 : Int32), iv xp1 1 4 → iv y103_s0 (-2147483648) 10 → iv y70_l4 0 1023 → iv y70_l5 0 1023 → iv y70_l6 0 1023 → iv y116_s0 0 2147483647 → ∀ (H : Heap) (locs : List Loc), hp_w D T s H locs → ∀ (ls : Array Slot), lv_has ls 8 [(0, .ref ap0), (1, .int xp1), (2, .int y103_s0), (4, .int y70_l4), (5, .int y70_l5), (6, .int y70_l6)] → WX12_worlds p l e s m below meth c D T ap0 xp1 H locs (F0 m 116 ls [.int y116_s0]) := by
                    intro y116_s0 c116_xp1 c116_y103_s0 c116_y70_l4 c116_y70_l5 c116_y70_l6 c116_y116_s0 H116 locs116 hw ls hl
                    refine lv_istore_n (lv' := [(3, .int y116_s0), (0, .ref ap0), (1, .int xp1), (2, .int y103_s0), (4, .int y70_l4), (5, .int y70_l5), (6, .int y70_l6)]) hx hb dX12_worlds_116 rfl hl (by decide) rfl (fun ls hl => ?_)
                    refine lv_iload hx hb dX12_worlds_117 (lv_at hl 4 rfl) ?_
                    refine lv_aload_n hx hb dX12_worlds_119 rfl (lv_at hl 1 rfl) ?_
                    refine hp_getr hx hb hts IX12 hown hK hw.1 hp0 rfl 25 (by decide) L49 rfl dX12_worlds_120 ?_
                    refine lv_iload hx hb dX12_worlds_123 (lv_at hl 6 rfl) ?_
                    refine hp_ialdI hx hb hK hw.1 hp0fitting (vp_iv c116_y70_l6 (by decide)) dX12_worlds_125 (fun x125 bx125 => ?_)
                    refine lv_iand hx hb dX12_worlds_126 ?_
                    refine lv_topi (fun x126 ex126 => ?_)
                    have bx126 : iv x126 0 1023 := iv_and_l c116_y70_l4 ex126
                    refine lv_istore (lv' := [(4, .int x126), (3, .int y116_s0), (0, .ref ap0), (1, .int xp1), (2, .int y103_s0), (5, .int y70_l5), (6, .int y70_l6)]) hx hb dX12_worlds_127 hl (by decide) rfl (fun ls hl => ?_)
                    refine lv_iload hx hb dX12_worlds_129 (lv_at hl 5 rfl) ?_
                    refine lv_aload_n hx hb dX12_worlds_131 rfl (lv_at hl 2 rfl) ?_
                    refine hp_getr hx hb hts IX12 hown hK hw.1 hp0 rfl 25 (by decide) L49 rfl dX12_worlds_132 ?_
                    refine lv_iload hx hb dX12_worlds_135 (lv_at hl 6 rfl) ?_
                    refine hp_ialdI hx hb hK hw.1 hp0fitting (vp_iv c116_y70_l6 (by decide)) dX12_worlds_137 (fun x137 bx137 => ?_)
                    refine lv_ior hx hb dX12_worlds_138 ?_
                    refine lv_topi (fun x138 ex138 => ?_)
                    have bx138 : iv x138 0 1023 := iv_or 10 c116_y70_l5 bx137 ex138 (by decide) (by decide)
                    refine lv_istore (lv' := [(5, .int x138), (4, .int x126), (3, .int y116_s0), (0, .ref ap0), (1, .int xp1), (2, .int y103_s0), (6, .int y70_l6)]) hx hb dX12_worlds_139 hl (by decide) rfl (fun ls hl => ?_)
                    obtain ⟨x141, ex141⟩ : ∃ y : Int32, y = y70_l6 + 1 := ⟨_, rfl⟩
                    have bx141 : iv x141 1 1024 := iv_add c116_y70_l6 (show iv 1 1 1 from ⟨by decide, by decide⟩) ex141 (by decide)
                    have qx141 := iv_add_eq c116_y70_l6 (show iv 1 1 1 from ⟨by decide, by decide⟩) ex141 (by decide)
                    refine lv_iinc (v := x141) (lv' := [(6, .int x141), (5, .int x138), (4, .int x126), (3, .int y116_s0), (0, .ref ap0), (1, .int xp1), (2, .int y103_s0)]) hx hb dX12_worlds_141 hl (k := 6) rfl (by rw [ex141]; rfl) (by decide) rfl (fun ls hl => ?_)
                    refine lv_goto (tgt := 70) hx hb dX12_worlds_144 (by decide) ?_
                    exact ih70 y103_s0 y116_s0 x126 x138 x141 (mu_up 1 hmu70 (qx141) (by decide) (show iv x141 0 1024 from (bx141.mono (by decide) (by decide))).2) c116_xp1 c116_y103_s0 c116_y116_s0 bx126 bx138 (bx141.mono (by decide) (by decide)) H116 locs116 hw _ (lv_sub hl [4, 5, 6, 3, 2, 1, 0] rfl)
                  refine lv_icmp_le (tgt := 115) hx hb dX12_worlds_107 (by decide) (fun c107 => ?_) (fun c107 => ?_)
                  · refine lv_iload_n hx hb dX12_worlds_115 rfl (lv_at hl 3 rfl) ?_
                    exact J116 y70_l3 c103_xp1 c103_y103_s0 c103_y70_l4 c103_y70_l5 c103_y70_l6 c103_y70_l3 H103 locs103 hw _ (lv_sub hl [1, 2, 0, 4, 5, 6] rfl)
                  · have r107fp : iv y70_l3 0 2147483646 := (iv_lt_l (iv_nle c107) c103_y70_l3 (iv_any x86)).mono (by decide) (by decide)
                    have r107fq : iv x86 1 2147483647 := (iv_lt_r (iv_nle c107) c103_y70_l3 (iv_any x86)).mono (by decide) (by decide)
                    refine lv_iload hx hb dX12_worlds_110 (lv_at hl 7 rfl) ?_
                    refine lv_goto (tgt := 116) hx hb dX12_worlds_112 (by decide) ?_
                    exact J116 x86 c103_xp1 c103_y103_s0 c103_y70_l4 c103_y70_l5 c103_y70_l6 (r107fq.mono (by decide) (by decide)) H103 locs103 hw _ (lv_sub hl [1, 2, 0, 4, 5, 6] rfl)
                refine lv_icmp_ge (tgt := 102) hx hb dX12_worlds_94 (by decide) (fun c94 => ?_) (fun c94 => ?_)
                · refine lv_iload_n hx hb dX12_worlds_102 rfl (lv_at hl 3 rfl) ?_
                  exact J103 y70_l2 c70_xp1 c70_y70_l3 c70_y70_l4 c70_y70_l5 r76fp c70_y70_l2 H70 locs70 hw _ (lv_sub hl [1, 2, 4, 5, 6, 7, 0] rfl)
                · have r94fp : iv x86 (-2147483648) 9 := (iv_lt_l (iv_nle c94) (iv_any x86) c70_y70_l2).mono (by decide) (by decide)
                  have r94fq : iv y70_l2 (-2147483647) 10 := (iv_lt_r (iv_nle c94) (iv_any x86) c70_y70_l2).mono (by decide) (by decide)
                  refine lv_iload hx hb dX12_worlds_97 (lv_at hl 0 rfl) ?_
                  refine lv_goto (tgt := 103) hx hb dX12_worlds_99 (by decide) ?_
                  exact J103 x86 c70_xp1 c70_y70_l3 c70_y70_l4 c70_y70_l5 r76fp (r94fp.mono (by decide) (by decide)) H70 locs70 hw _ (lv_sub hl [1, 2, 4, 5, 6, 7, 0] rfl)
          exact J70 _ (10 : Int32) (0 : Int32) x59 (0 : Int32) (0 : Int32) (Nat.lt_succ_self _) r26tp (show iv 10 (-2147483648) 10 from ⟨by decide, by decide⟩) (show iv 0 0 2147483647 from ⟨by decide, by decide⟩) bx59 (show iv 0 0 1023 from ⟨by decide, by decide⟩) (show iv 0 0 1024 from ⟨by decide, by decide⟩) H22 locs22 hw _ (lv_sub hl [5, 6, 4, 3, 2, 1, 0] rfl)
        · have r38fp : iv x35 0 0 := (iv_both bx35 (iv_eq (show iv 0 0 0 from ⟨by decide, by decide⟩) c38)).mono (by decide) (by decide)
          refine lv_iload_n hx hb dX12_worlds_41 rfl (lv_at hl 1 rfl) ?_
          refine lv_iconst (v := 3) hx hb dX12_worlds_42 (by decide) ?_
          have J52 : ∀ (y52_s0 : Int32), iv y52_s0 (-2) 0 → ∀ (H : Heap) (locs : List Loc), hp_w D T s H locs → ∀ (ls : Array Slot), lv_has ls 8 [] → WX12_worlds p l e s m below meth c D T ap0 xp1 H locs (F0 m 52 ls [.int y52_s0]) := by
            intro y52_s0 c52_y52_s0 H52 locs52 hw ls hl
            exact W.iret (v := y52_s0) hx hb hr (fun t ht hW => ⟨some (.int y52_s0), rfl, ⟨y52_s0, rfl, trivial⟩, by rw [ht]; exact hw.1, hw.2.F ht⟩) hw.2.2.2 dX12_worlds_52
          refine lv_icmp_ge (tgt := 51) hx hb dX12_worlds_43 (by decide) (fun c43 => ?_) (fun c43 => ?_)
          · have r43tq : iv xp1 3 4 := (iv_le_r c43 (show iv 3 3 3 from ⟨by decide, by decide⟩) r26tp).mono (by decide) (by decide)
            refine lv_iconst (v := 0) hx hb dX12_worlds_51 (by decide) ?_
            exact J52 (0 : Int32) (show iv 0 (-2) 0 from ⟨by decide, by decide⟩) H22 locs22 hw _ (lv_sub hl [] rfl)
          · have r43fp : iv xp1 1 2 := (iv_lt_l (iv_nle c43) r26tp (show iv 3 3 3 from ⟨by decide, by decide⟩)).mono (by decide) (by decide)
            refine lv_bipush (v := (-2)) hx hb dX12_worlds_46 (by decide) ?_
            refine lv_goto (tgt := 52) hx hb dX12_worlds_48 (by decide) ?_
            exact J52 ((-2) : Int32) (show iv (-2) (-2) 0 from ⟨by decide, by decide⟩) H22 locs22 hw _ (lv_sub hl [] rfl)
      · have r26fp : iv xp1 0 0 := (iv_both r16tpz (iv_eq (show iv 0 0 0 from ⟨by decide, by decide⟩) c26)).mono (by decide) (by decide)
        refine lv_aload_n hx hb dX12_worlds_29 rfl (lv_at hl 0 rfl) ?_
        refine hp_geti hx hb hts IX12 hown hK hw.1 hp0 rfl 26 (by decide) L370 rfl dX12_worlds_30 (fun x30 bx30 fx30 => ?_)
        exact W.iret (v := x30) hx hb hr (fun t ht hW => ⟨some (.int x30), rfl, ⟨x30, rfl, trivial⟩, by rw [ht]; exact hw.1, hw.2.F ht⟩) hw.2.2.2 dX12_worlds_33
    · have r16fp : iv x13 0 0 := (iv_both bx13 (iv_eq (show iv 0 0 0 from ⟨by decide, by decide⟩) c16)).mono (by decide) (by decide)
      exact J19 s.heap [] hw _ (lv_sub hl [] rfl)
abbrev WX12_ask (p : Program) (l : Launch) (e : Env) (s : State) (m : MethodId) (below : List Frame) (meth : Method) (c : Code) (D : hp_D) (T : hp_T) (ap0 : Nat) (xp1 : Int32) (H : Heap) (locs : List Loc) (g : JFrame) : Prop := W p l e (headSpec wsX12_ask ({ frames := 7, cells := 0, slots := 0, locals := 172 })).room s m ([.ref ap0, .int xp1] : List Value).toArray below meth c H locs 0 0 (MQ below (hq_e D T (fun v _ _ => ∃ r : Int32, v = some (.int r) ∧ True)) ([.ref ap0, .int xp1] : List Value).toArray s 0 0 (hp_F T)) g
set_option maxHeartbeats 4000000 in
set_option maxRecDepth 100000 in
theorem sX12_ask (l : Launch) (D : hp_D) (T : hp_T) (ap0 : Nat) (xp1 : Int32) (Gm : moG) (ip0 : isMo T ap0 Gm) : Met l yX12_ask wsX12_ask ({ frames := 7, cells := 0, slots := 0, locals := 172 }) (hp_Pc D T [.ref ap0, .int xp1] (fun _ => True)) (hq_e D T (fun v _ _ => ∃ r : Int32, v = some (.int r) ∧ True)) 0 0 (hp_F T) := by
  obtain ⟨ap0tape, ap0sign, ap0len, ap0clause, ap0clauses, ap0read, ap0opn, ap0stack, ap0word, ap0said, ap0was, ap0fitting, ap0sums, ap0sort, ap0sumsBy, ap0oneOf, ap0otherOf, ap0kept, ap0images, ap0acts, ap0iUnd, ap0iFor, ap0iX, ap0made, gok, hp0, hp0tape, hp0sign, hp0len, hp0clause, hp0clauses, hp0read, hp0opn, hp0stack, hp0word, hp0said, hp0was, hp0fitting, hp0sums, hp0sort, hp0sumsBy, hp0oneOf, hp0otherOf, hp0kept, hp0images, hp0acts, hp0iUnd, hp0iFor, hp0iX, hp0made⟩ := id ip0
  have hpx := gok.1
  have gsok := gok.2.2.2.2
  have ggd := gok.2.2.2.1
  refine Met.ofW (cc := cX12_ask) (maxL := 7) (ret := (some .int)) (by decide) rfl ?_
  intro p e s m args below meth c s₁ B hml hv
  obtain ⟨rfl, hok, hG, hB⟩ := hv
  have hx := B.exec
  have hb := B.bytes
  have hr := B.returns
  have hts := atoms_spec (ws := wsX12_ask) B.pre
  have hown : s.vm.findClass RX12 = some m.cls := findClass_of_methodNamed B.named
  have hlocks := B.notSynchronized
  have hK := hG.1
  have hw : hp_w D T s s.heap [] := hp_w.rf hok
  have IX12 : ∀ w ∈ wsX120, w ∈ wsX12_ask := by decide +kernel
  have K379 := hts (.constantLong RX12 379 2) (by decide +kernel)
  have L370 := hts (.fieldLink RX12 370 "PalmCensusModel" "fittingMany" "I") (by decide +kernel)
  have L39 := hts (.fieldLink RX12 39 "PalmCensusModel" "said" "[I") (by decide +kernel)
  have hl := lv_entry ([.ref ap0, .int xp1]) (n := 7) (Nat.le_of_ble_eq_true rfl)
  rw [lg_entry_eq]
  generalize (lg_sl ([.ref ap0, .int xp1]) ++ List.replicate (7 - (lg_sl ([.ref ap0, .int xp1])).length) Slot.unset).toArray = ls at hl ⊢
  have hl : lv_has ls 7 [(0, .ref ap0), (1, .int xp1)] := hl
  show WX12_ask p l e s m below meth c D T ap0 xp1 s.heap [] (F0 m 0 ls [])
  refine lv_aload_n hx hb dX12_ask_0 rfl (lv_at hl 0 rfl) ?_
  refine hp_callpi (va_runV (As := []) (rest := []) ⟨hx, hb, hml, hown, hts⟩ (sX12_isTown l D T ap0 Gm ip0) (cwV 0 hts gX12_ask_X12_isTown rfl rfl rfl (by decide +kernel) ⟨Nat.le_of_ble_eq_true rfl, Nat.le_of_ble_eq_true rfl⟩) (hp_preV hG hw hp0 rfl trivial) rfl rfl hl.1 rfl (lv_room (Nat.le_of_ble_eq_true rfl)) dX12_ask_1 ⟨Nat.zero_le _, Nat.zero_le _⟩) (fun x1 bx1 => ?_)
  have J19 : ∀ (H : Heap) (locs : List Loc), hp_w D T s H locs → ∀ (ls : Array Slot), lv_has ls 7 [] → WX12_ask p l e s m below meth c D T ap0 xp1 H locs (F0 m 19 ls []) := by
    intro H19 locs19 hw ls hl
    refine lv_iconst (v := (-1)) hx hb dX12_ask_19 (by decide) ?_
    exact W.iret (v := (-1)) hx hb hr (fun t ht hW => ⟨some (.int (-1)), rfl, ⟨((-1) : Int32), rfl, trivial⟩, by rw [ht]; exact hw.1, hw.2.F ht⟩) hw.2.2.2 dX12_ask_20
  refine lv_if_eq (tgt := 19) hx hb dX12_ask_4 (by decide) (fun c4 => ?_) (fun c4 => ?_)
  · have r4tp : iv x1 0 0 := (iv_both bx1 (iv_eq (show iv 0 0 0 from ⟨by decide, by decide⟩) c4)).mono (by decide) (by decide)
    exact J19 s.heap [] hw _ (lv_sub hl [] rfl)
  · have r4fp : iv x1 1 1 := (iv_ne_lo c4 bx1 rfl).mono (by decide) (by decide)
    refine lv_iload_n hx hb dX12_ask_7 rfl (lv_at hl 1 rfl) ?_
    obtain ⟨x8, ex8⟩ : ∃ y : Int64, xp1.toInt64 = y := ⟨_, rfl⟩
    refine lv_i2l (v := x8) hx hb dX12_ask_8 ex8 ?_
    refine lv_lconst (v := 0) hx hb dX12_ask_9 (by decide) ?_
    refine lv_ldc2 (v := 2) hx hb hown K379 dX12_ask_10 ?_
    refine hp_callpi (va_runS (As := [.long x8, .long 0, .long 2]) (rest := []) ⟨hx, hb, hml, hown, hts⟩ (sX12_in l D T x8 0 2) (va_cwS 3 hts gX12_ask_X12_in rfl rfl rfl (by decide +kernel) ⟨Nat.le_of_ble_eq_true rfl, Nat.le_of_ble_eq_true rfl⟩) (hp_preS hG hw trivial) rfl rfl hl.1 rfl (lv_room (Nat.le_of_ble_eq_true rfl)) dX12_ask_13 ⟨Nat.zero_le _, Nat.zero_le _⟩) (fun x13 bx13 => ?_)
    obtain ⟨bx13, ox13, nx13⟩ := bx13
    have ox13a_ : x13 = 0 ∨ iv xp1 0 2 := ox13.imp id (fun h => iv_in64 ex8 h.1 h.2 (by decide) (by decide))
    have ox13a : x13 = 0 ∨ iv xp1 0 2 := ox13.imp id (fun h => iv_in64 ex8 h.1 h.2 (by decide) (by decide))
    refine lv_if_ne (tgt := 21) hx hb dX12_ask_16 (by decide) (fun c16 => ?_) (fun c16 => ?_)
    · have r16tp : iv x13 1 1 := (iv_ne_lo c16 bx13 rfl).mono (by decide) (by decide)
      have r16tpz : iv xp1 0 2 := (iv_both (iv_any xp1) ((fun h9 => ox13a.resolve_left h9) (iv_ne0 r16tp (by decide)))).mono (by decide) (by decide)
      refine lv_aload_n hx hb dX12_ask_21 rfl (lv_at hl 0 rfl) ?_
      refine hp_callev (va_runV (As := []) (rest := []) ⟨hx, hb, hml, hown, hts⟩ (sX12_gathersFitting l D T ap0 Gm ip0) (cwV 0 hts gX12_ask_X12_gathersFitting rfl rfl rfl (by decide +kernel) ⟨Nat.le_of_ble_eq_true rfl, Nat.le_of_ble_eq_true rfl⟩) (hp_preV hG hw hp0 rfl trivial) rfl rfl hl.1 rfl (lv_room (Nat.le_of_ble_eq_true rfl)) dX12_ask_22 ⟨Nat.zero_le _, Nat.zero_le _⟩) hw (fun st22 t22 H22 locs22 eh22 eg22 bx22 hw => ?_)
      obtain ⟨bx22, g22⟩ := bx22
      rw [eh22, eg22] at g22
      refine lv_aload_n hx hb dX12_ask_25 rfl (lv_at hl 0 rfl) ?_
      refine hp_geti hx hb hts IX12 hown hK hw.1 hp0 rfl 26 (by decide) L370 rfl dX12_ask_26 (fun x26 bx26 fx26 => ?_)
      refine lv_if_ne (tgt := 35) hx hb dX12_ask_29 (by decide) (fun c29 => ?_) (fun c29 => ?_)
      · have r29tp : iv x26 1 1024 := (iv_ne_lo c29 bx26 rfl).mono (by decide) (by decide)
        refine lv_iconst (v := (-1)) hx hb dX12_ask_35 (by decide) ?_
        refine lv_istore_n (lv' := [(2, .int (-1)), (0, .ref ap0), (1, .int xp1)]) hx hb dX12_ask_36 rfl hl (by decide) rfl (fun ls hl => ?_)
        refine lv_iconst (v := 0) hx hb dX12_ask_37 (by decide) ?_
        refine lv_istore_n (lv' := [(3, .int 0), (2, .int (-1)), (0, .ref ap0), (1, .int xp1)]) hx hb dX12_ask_38 rfl hl (by decide) rfl (fun ls hl => ?_)
        refine lv_iconst (v := 0) hx hb dX12_ask_39 (by decide) ?_
        refine lv_istore (lv' := [(4, .int 0), (3, .int 0), (2, .int (-1)), (0, .ref ap0), (1, .int xp1)]) hx hb dX12_ask_40 hl (by decide) rfl (fun ls hl => ?_)
        have J42 : ∀ (n : Nat) (y42_l2 y42_l3 y42_l4 : Int32), (12 - y42_l4.toInt).toNat < n → iv xp1 0 2 → iv y42_l2 (-1) 71 → iv y42_l4 0 12 → ∀ (H : Heap) (locs : List Loc), hp_w D T s H locs → ∀ (ls : Array Slot), lv_has ls 7 [(0, .ref ap0), (1, .int xp1), (2, .int y42_l2), (3, .int y42_l3), (4, .int y42_l4)] → WX12_ask p l e s m below meth c D T ap0 xp1 H locs (F0 m 42 ls []) := by
          intro n
          induction n with
          | zero => intro y42_l2 y42_l3 y42_l4 hmu42 c42_xp1 c42_y42_l2 c42_y42_l4 H42 locs42 hw ls hl; exact absurd hmu42 (Nat.not_lt_zero _)
          | succ n ih42 =>
            intro y42_l2 y42_l3 y42_l4 hmu42 c42_xp1 c42_y42_l2 c42_y42_l4 H42 locs42 hw ls hl
            refine lv_iload hx hb dX12_ask_42 (lv_at hl 4 rfl) ?_
            refine lv_aload_n hx hb dX12_ask_44 rfl (lv_at hl 0 rfl) ?_
            refine hp_getr hx hb hts IX12 hown hK hw.1 hp0 rfl 20 (by decide) L39 rfl dX12_ask_45 ?_
            refine lv_iconst (v := 1) hx hb dX12_ask_48 (by decide) ?_
            refine hp_iald hx hb hK hw.1 hp0said (vp_iv (show iv 1 1 1 from ⟨by decide, by decide⟩) (by decide)) dX12_ask_49 (fun v49 hr49 => ?_)
            have h49 := gsok _ _ hr49
            obtain ⟨x49, rfl, bx49⟩ := sP_rd1 h49 (show iv 1 1 1 from ⟨by decide, by decide⟩)
            refine lv_icmp_ge (tgt := 114) hx hb dX12_ask_50 (by decide) (fun c50 => ?_) (fun c50 => ?_)
            · refine lv_iload_n hx hb dX12_ask_114 rfl (lv_at hl 1 rfl) ?_
              have J138 : ∀ (y138_s0 : Int32), ∀ (H : Heap) (locs : List Loc), hp_w D T s H locs → ∀ (ls : Array Slot), lv_has ls 7 [] → WX12_ask p l e s m below meth c D T ap0 xp1 H locs (F0 m 138 ls [.int y138_s0]) := by
                intro y138_s0 H138 locs138 hw ls hl
                exact W.iret (v := y138_s0) hx hb hr (fun t ht hW => ⟨some (.int y138_s0), rfl, ⟨y138_s0, rfl, trivial⟩, by rw [ht]; exact hw.1, hw.2.F ht⟩) hw.2.2.2 dX12_ask_138
              refine lv_if_ne (tgt := 125) hx hb dX12_ask_115 (by decide) (fun c115 => ?_) (fun c115 => ?_)
              · have r115tp : iv xp1 1 2 := (iv_ne_lo c115 c42_xp1 rfl).mono (by decide) (by decide)
                refine lv_iload_n hx hb dX12_ask_125 rfl (lv_at hl 1 rfl) ?_
                refine lv_iconst (v := 1) hx hb dX12_ask_126 (by decide) ?_
                refine lv_icmp_ne (tgt := 137) hx hb dX12_ask_127 (by decide) (fun c127 => ?_) (fun c127 => ?_)
                · have r127tp : iv xp1 2 2 := (iv_ne_lo c127 r115tp rfl).mono (by decide) (by decide)
                  refine lv_iload_n hx hb dX12_ask_137 rfl (lv_at hl 3 rfl) ?_
                  exact J138 y42_l3 H42 locs42 hw _ (lv_sub hl [] rfl)
                · have r127fp : iv xp1 1 1 := (iv_both r115tp (iv_eq (show iv 1 1 1 from ⟨by decide, by decide⟩) c127)).mono (by decide) (by decide)
                  refine lv_iload_n hx hb dX12_ask_130 rfl (lv_at hl 2 rfl) ?_
                  refine lv_bipush (v := 6) hx hb dX12_ask_131 (by decide) ?_
                  refine lv_idiv hx hb dX12_ask_133 (iv_ne0 (show iv 6 6 6 from ⟨by decide, by decide⟩) (by decide)) ?_
                  refine lv_topi (fun x133 ex133 => ?_)
                  refine lv_goto (tgt := 138) hx hb dX12_ask_134 (by decide) ?_
                  exact J138 x133 H42 locs42 hw _ (lv_sub hl [] rfl)
              · have r115fp : iv xp1 0 0 := (iv_both c42_xp1 (iv_eq (show iv 0 0 0 from ⟨by decide, by decide⟩) c115)).mono (by decide) (by decide)
                refine lv_iload_n hx hb dX12_ask_118 rfl (lv_at hl 2 rfl) ?_
                refine lv_bipush (v := 6) hx hb dX12_ask_119 (by decide) ?_
                refine lv_irem hx hb dX12_ask_121 (iv_ne0 (show iv 6 6 6 from ⟨by decide, by decide⟩) (by decide)) ?_
                refine lv_topi (fun x121 ex121 => ?_)
                refine lv_goto (tgt := 138) hx hb dX12_ask_122 (by decide) ?_
                exact J138 x121 H42 locs42 hw _ (lv_sub hl [] rfl)
            · have r50fp : iv y42_l4 0 11 := (iv_lt_l (iv_nle c50) c42_y42_l4 bx49).mono (by decide) (by decide)
              have r50fq : iv x49 1 12 := (iv_lt_r (iv_nle c50) c42_y42_l4 bx49).mono (by decide) (by decide)
              refine lv_iconst (v := 0) hx hb dX12_ask_53 (by decide) ?_
              refine lv_istore (lv' := [(5, .int 0), (0, .ref ap0), (1, .int xp1), (2, .int y42_l2), (3, .int y42_l3), (4, .int y42_l4)]) hx hb dX12_ask_54 hl (by decide) rfl (fun ls hl => ?_)
              have J56 : ∀ (n : Nat) (y56_l2 y56_l3 y56_l5 : Int32), (6 - y56_l5.toInt).toNat < n → iv xp1 0 2 → iv y56_l2 (-1) 71 → iv y42_l4 0 11 → iv y56_l5 0 6 → ∀ (H : Heap) (locs : List Loc), hp_w D T s H locs → ∀ (ls : Array Slot), lv_has ls 7 [(0, .ref ap0), (1, .int xp1), (2, .int y56_l2), (3, .int y56_l3), (4, .int y42_l4), (5, .int y56_l5)] → WX12_ask p l e s m below meth c D T ap0 xp1 H locs (F0 m 56 ls []) := by
                intro n
                induction n with
                | zero => intro y56_l2 y56_l3 y56_l5 hmu56 c56_xp1 c56_y56_l2 c56_y42_l4 c56_y56_l5 H56 locs56 hw ls hl; exact absurd hmu56 (Nat.not_lt_zero _)
                | succ n ih56 =>
                  intro y56_l2 y56_l3 y56_l5 hmu56 c56_xp1 c56_y56_l2 c56_y42_l4 c56_y56_l5 H56 locs56 hw ls hl
                  refine lv_iload hx hb dX12_ask_56 (lv_at hl 5 rfl) ?_
                  refine lv_aload_n hx hb dX12_ask_58 rfl (lv_at hl 0 rfl) ?_
                  refine hp_getr hx hb hts IX12 hown hK hw.1 hp0 rfl 20 (by decide) L39 rfl dX12_ask_59 ?_
                  refine lv_iconst (v := 0) hx hb dX12_ask_62 (by decide) ?_
                  refine hp_iald hx hb hK hw.1 hp0said (vp_iv (show iv 0 0 0 from ⟨by decide, by decide⟩) (by decide)) dX12_ask_63 (fun v63 hr63 => ?_)
                  have h63 := gsok _ _ hr63
                  obtain ⟨x63, rfl, bx63⟩ := sP_rd0 h63 (show iv 0 0 0 from ⟨by decide, by decide⟩)
                  refine lv_icmp_ge (tgt := 108) hx hb dX12_ask_64 (by decide) (fun c64 => ?_) (fun c64 => ?_)
                  · obtain ⟨x108, ex108⟩ : ∃ y : Int32, y = y42_l4 + 1 := ⟨_, rfl⟩
                    have bx108 : iv x108 1 12 := iv_add c56_y42_l4 (show iv 1 1 1 from ⟨by decide, by decide⟩) ex108 (by decide)
                    have qx108 := iv_add_eq c56_y42_l4 (show iv 1 1 1 from ⟨by decide, by decide⟩) ex108 (by decide)
                    refine lv_iinc (v := x108) (lv' := [(4, .int x108), (0, .ref ap0), (1, .int xp1), (2, .int y56_l2), (3, .int y56_l3), (5, .int y56_l5)]) hx hb dX12_ask_108 hl (k := 4) rfl (by rw [ex108]; rfl) (by decide) rfl (fun ls hl => ?_)
                    refine lv_goto (tgt := 42) hx hb dX12_ask_111 (by decide) ?_
                    exact ih42 y56_l2 y56_l3 x108 (mu_up 1 hmu42 (qx108) (by decide) (show iv x108 0 12 from (bx108.mono (by decide) (by decide))).2) c56_xp1 c56_y56_l2 (bx108.mono (by decide) (by decide)) H56 locs56 hw _ (lv_sub hl [1, 2, 3, 4, 0] rfl)
                  · have r64fp : iv y56_l5 0 5 := (iv_lt_l (iv_nle c64) c56_y56_l5 bx63).mono (by decide) (by decide)
                    have r64fq : iv x63 1 6 := (iv_lt_r (iv_nle c64) c56_y56_l5 bx63).mono (by decide) (by decide)
                    refine lv_aload_n hx hb dX12_ask_67 rfl (lv_at hl 0 rfl) ?_
                    refine lv_iload hx hb dX12_ask_68 (lv_at hl 5 rfl) ?_
                    refine lv_iload hx hb dX12_ask_70 (lv_at hl 4 rfl) ?_
                    refine hp_callei (va_runV (As := [.int y56_l5, .int y42_l4]) (rest := []) ⟨hx, hb, hml, hown, hts⟩ (sX12_mostAlike l D T ap0 y56_l5 y42_l4 Gm ip0 c56_y42_l4) (cwV 2 hts gX12_ask_X12_mostAlike rfl rfl rfl (by decide +kernel) ⟨Nat.le_of_ble_eq_true rfl, Nat.le_of_ble_eq_true rfl⟩) (hp_preV hG hw hp0 rfl trivial) rfl rfl hl.1 rfl (lv_room (Nat.le_of_ble_eq_true rfl)) dX12_ask_72 ⟨Nat.zero_le _, Nat.zero_le _⟩) hw (fun x72 st72 t72 H72 locs72 eh72 eg72 bx72 hw => ?_)
                    obtain ⟨bx72, g72⟩ := bx72
                    rw [eh72, eg72] at g72
                    refine lv_istore (lv' := [(6, .int x72), (0, .ref ap0), (1, .int xp1), (2, .int y56_l2), (3, .int y56_l3), (4, .int y42_l4), (5, .int y56_l5)]) hx hb dX12_ask_75 hl (by decide) rfl (fun ls hl => ?_)
                    refine lv_iload_n hx hb dX12_ask_77 rfl (lv_at hl 3 rfl) ?_
                    have J102 : ∀ (y102_l2 y102_l3 : Int32), iv xp1 0 2 → iv y102_l2 0 71 → iv y42_l4 0 11 → iv y56_l5 0 5 → ∀ (H : Heap) (locs : List Loc), hp_w D T s H locs → ∀ (ls : Array Slot), lv_has ls 7 [(0, .ref ap0), (1, .int xp1), (2, .int y102_l2), (3, .int y102_l3), (4, .int y42_l4), (5, .int y56_l5)] → WX12_ask p l e s m below meth c D T ap0 xp1 H locs (F0 m 102 ls []) := by
                      intro y102_l2 y102_l3 c102_xp1 c102_y102_l2 c102_y42_l4 c102_y56_l5 H102 locs102 hw ls hl
                      obtain ⟨x102, ex102⟩ : ∃ y : Int32, y = y56_l5 + 1 := ⟨_, rfl⟩
                      have bx102 : iv x102 1 6 := iv_add c102_y56_l5 (show iv 1 1 1 from ⟨by decide, by decide⟩) ex102 (by decide)
                      have qx102 := iv_add_eq c102_y56_l5 (show iv 1 1 1 from ⟨by decide, by decide⟩) ex102 (by decide)
                      refine lv_iinc (v := x102) (lv' := [(5, .int x102), (0, .ref ap0), (1, .int xp1), (2, .int y102_l2), (3, .int y102_l3), (4, .int y42_l4)]) hx hb dX12_ask_102 hl (k := 5) rfl (by rw [ex102]; rfl) (by decide) rfl (fun ls hl => ?_)
                      refine lv_goto (tgt := 56) hx hb dX12_ask_105 (by decide) ?_
                      exact ih56 y102_l2 y102_l3 x102 (mu_up 1 hmu56 (qx102) (by decide) (show iv x102 0 6 from (bx102.mono (by decide) (by decide))).2) c102_xp1 (c102_y102_l2.mono (by decide) (by decide)) c102_y42_l4 (bx102.mono (by decide) (by decide)) H102 locs102 hw _ (lv_sub hl [1, 2, 3, 4, 5, 0] rfl)
                    have J90 : iv xp1 0 2 → iv y42_l4 0 11 → iv y56_l5 0 5 → ∀ (H : Heap) (locs : List Loc), hp_w D T s H locs → ∀ (ls : Array Slot), lv_has ls 7 [(0, .ref ap0), (1, .int xp1), (4, .int y42_l4), (5, .int y56_l5), (6, .int x72)] → WX12_ask p l e s m below meth c D T ap0 xp1 H locs (F0 m 90 ls []) := by
                      intro c90_xp1 c90_y42_l4 c90_y56_l5 H90 locs90 hw ls hl
                      refine lv_bipush (v := 6) hx hb dX12_ask_90 (by decide) ?_
                      refine lv_iload hx hb dX12_ask_92 (lv_at hl 2 rfl) ?_
                      refine lv_imul hx hb dX12_ask_94 ?_
                      refine lv_topi (fun x94 ex94 => ?_)
                      have bx94 : iv x94 0 66 := iv_mul (show iv 6 6 6 from ⟨by decide, by decide⟩) c90_y42_l4 ex94 (by decide)
                      refine lv_iload hx hb dX12_ask_95 (lv_at hl 3 rfl) ?_
                      refine lv_iadd hx hb dX12_ask_97 ?_
                      refine lv_topi (fun x97 ex97 => ?_)
                      have bx97 : iv x97 0 71 := iv_add bx94 c90_y56_l5 ex97 (by decide)
                      have qx97 := iv_add_eq bx94 c90_y56_l5 ex97 (by decide)
                      refine lv_istore_n (lv' := [(2, .int x97), (0, .ref ap0), (1, .int xp1), (4, .int y42_l4), (5, .int y56_l5), (6, .int x72)]) hx hb dX12_ask_98 rfl hl (by decide) rfl (fun ls hl => ?_)
                      refine lv_iload hx hb dX12_ask_99 (lv_at hl 5 rfl) ?_
                      refine lv_istore_n (lv' := [(3, .int x72), (2, .int x97), (0, .ref ap0), (1, .int xp1), (4, .int y42_l4), (5, .int y56_l5), (6, .int x72)]) hx hb dX12_ask_101 rfl hl (by decide) rfl (fun ls hl => ?_)
                      exact J102 x97 x72 c90_xp1 bx97 c90_y42_l4 c90_y56_l5 H90 locs90 hw _ (lv_sub hl [2, 3, 1, 0, 4, 5] rfl)
                    refine lv_if_lt (tgt := 90) hx hb dX12_ask_78 (by decide) (fun c78 => ?_) (fun c78 => ?_)
                    · have r78tp : iv y56_l2 (-1) (-1) := (iv_lt_l c78 c56_y56_l2 (show iv 0 0 0 from ⟨by decide, by decide⟩)).mono (by decide) (by decide)
                      exact J90 c56_xp1 c56_y42_l4 r64fp H72 locs72 hw _ (lv_sub hl [1, 2, 5, 6, 0] rfl)
                    · have r78fq : iv y56_l2 0 71 := (iv_le_r (iv_nlt c78) (show iv 0 0 0 from ⟨by decide, by decide⟩) c56_y56_l2).mono (by decide) (by decide)
                      refine lv_iload hx hb dX12_ask_81 (lv_at hl 0 rfl) ?_
                      refine lv_iload_n hx hb dX12_ask_83 rfl (lv_at hl 4 rfl) ?_
                      refine lv_icmp_lt (tgt := 90) hx hb dX12_ask_84 (by decide) (fun c84 => ?_) (fun c84 => ?_)
                      · have r84tp : iv x72 (-2147483648) 2147483646 := (iv_lt_l c84 (iv_any x72) (iv_any y56_l3)).mono (by decide) (by decide)
                        have r84tq : iv y56_l3 (-2147483647) 2147483647 := (iv_lt_r c84 (iv_any x72) (iv_any y56_l3)).mono (by decide) (by decide)
                        exact J90 c56_xp1 c56_y42_l4 r64fp H72 locs72 hw _ (lv_sub hl [1, 2, 5, 6, 0] rfl)
                      · refine lv_goto (tgt := 102) hx hb dX12_ask_87 (by decide) ?_
                        exact J102 y56_l2 y56_l3 c56_xp1 r78fq c56_y42_l4 r64fp H72 locs72 hw _ (lv_sub hl [1, 2, 3, 4, 5, 6] rfl)
              exact J56 _ y42_l2 y42_l3 (0 : Int32) (Nat.lt_succ_self _) c42_xp1 c42_y42_l2 r50fp (show iv 0 0 6 from ⟨by decide, by decide⟩) H42 locs42 hw _ (lv_sub hl [1, 2, 3, 4, 5, 0] rfl)
        exact J42 _ ((-1) : Int32) (0 : Int32) (0 : Int32) (Nat.lt_succ_self _) r16tpz (show iv (-1) (-1) 71 from ⟨by decide, by decide⟩) (show iv 0 0 12 from ⟨by decide, by decide⟩) H22 locs22 hw _ (lv_sub hl [3, 4, 2, 1, 0] rfl)
      · have r29fp : iv x26 0 0 := (iv_both bx26 (iv_eq (show iv 0 0 0 from ⟨by decide, by decide⟩) c29)).mono (by decide) (by decide)
        refine lv_bipush (v := (-2)) hx hb dX12_ask_32 (by decide) ?_
        exact W.iret (v := (-2)) hx hb hr (fun t ht hW => ⟨some (.int (-2)), rfl, ⟨((-2) : Int32), rfl, trivial⟩, by rw [ht]; exact hw.1, hw.2.F ht⟩) hw.2.2.2 dX12_ask_34
    · have r16fp : iv x13 0 0 := (iv_both bx13 (iv_eq (show iv 0 0 0 from ⟨by decide, by decide⟩) c16)).mono (by decide) (by decide)
      exact J19 s.heap [] hw _ (lv_sub hl [] rfl)
abbrev WX12_cheat (p : Program) (l : Launch) (e : Env) (s : State) (m : MethodId) (below : List Frame) (meth : Method) (c : Code) (D : hp_D) (T : hp_T) (ap0 : Nat) (xp1 : Int32) (xp2 : Int32) (H : Heap) (locs : List Loc) (g : JFrame) : Prop := W p l e (headSpec wsX12_cheat ({ frames := 6, cells := 0, slots := 0, locals := 151 })).room s m ([.ref ap0, .int xp1, .int xp2] : List Value).toArray below meth c H locs 0 0 (MQ below (hq_e D T (fun v _ _ => ∃ r : Int32, v = some (.int r) ∧ True)) ([.ref ap0, .int xp1, .int xp2] : List Value).toArray s 0 0 (hp_F T)) g
set_option maxHeartbeats 4000000 in
set_option maxRecDepth 100000 in
theorem sX12_cheat (l : Launch) (D : hp_D) (T : hp_T) (ap0 : Nat) (xp1 : Int32) (xp2 : Int32) (Gm : moG) (ip0 : isMo T ap0 Gm) (hgs : ∀ j v, sP j v → gs Gm j v) : Met l yX12_cheat wsX12_cheat ({ frames := 6, cells := 0, slots := 0, locals := 151 }) (hp_Pc D T [.ref ap0, .int xp1, .int xp2] (fun _ => True)) (hq_e D T (fun v _ _ => ∃ r : Int32, v = some (.int r) ∧ True)) 0 0 (hp_F T) := by
  obtain ⟨ap0tape, ap0sign, ap0len, ap0clause, ap0clauses, ap0read, ap0opn, ap0stack, ap0word, ap0said, ap0was, ap0fitting, ap0sums, ap0sort, ap0sumsBy, ap0oneOf, ap0otherOf, ap0kept, ap0images, ap0acts, ap0iUnd, ap0iFor, ap0iX, ap0made, gok, hp0, hp0tape, hp0sign, hp0len, hp0clause, hp0clauses, hp0read, hp0opn, hp0stack, hp0word, hp0said, hp0was, hp0fitting, hp0sums, hp0sort, hp0sumsBy, hp0oneOf, hp0otherOf, hp0kept, hp0images, hp0acts, hp0iUnd, hp0iFor, hp0iX, hp0made⟩ := id ip0
  have hpx := gok.1
  have gsok := gok.2.2.2.2
  have ggd := gok.2.2.2.1
  refine Met.ofW (cc := cX12_cheat) (maxL := 11) (ret := (some .int)) (by decide) rfl ?_
  intro p e s m args below meth c s₁ B hml hv
  obtain ⟨rfl, hok, hG, hB⟩ := hv
  have hx := B.exec
  have hb := B.bytes
  have hr := B.returns
  have hts := atoms_spec (ws := wsX12_cheat) B.pre
  have hown : s.vm.findClass RX12 = some m.cls := findClass_of_methodNamed B.named
  have hlocks := B.notSynchronized
  have hK := hG.1
  have hw : hp_w D T s s.heap [] := hp_w.rf hok
  have IX12 : ∀ w ∈ wsX120, w ∈ wsX12_cheat := by decide +kernel
  have K356 := hts (.constant RX12 356 (-1000000)) (by decide +kernel)
  have K379 := hts (.constantLong RX12 379 2) (by decide +kernel)
  have L39 := hts (.fieldLink RX12 39 "PalmCensusModel" "said" "[I") (by decide +kernel)
  have hl := lv_entry ([.ref ap0, .int xp1, .int xp2]) (n := 11) (Nat.le_of_ble_eq_true rfl)
  rw [lg_entry_eq]
  generalize (lg_sl ([.ref ap0, .int xp1, .int xp2]) ++ List.replicate (11 - (lg_sl ([.ref ap0, .int xp1, .int xp2])).length) Slot.unset).toArray = ls at hl ⊢
  have hl : lv_has ls 11 [(0, .ref ap0), (1, .int xp1), (2, .int xp2)] := hl
  show WX12_cheat p l e s m below meth c D T ap0 xp1 xp2 s.heap [] (F0 m 0 ls [])
  refine lv_aload_n hx hb dX12_cheat_0 rfl (lv_at hl 0 rfl) ?_
  refine lv_iload_n hx hb dX12_cheat_1 rfl (lv_at hl 1 rfl) ?_
  refine hp_callpi (va_runV (As := [.int xp1]) (rest := []) ⟨hx, hb, hml, hown, hts⟩ (sX12_isPerson l D T ap0 xp1 Gm ip0) (cwV 1 hts gX12_cheat_X12_isPerson rfl rfl rfl (by decide +kernel) ⟨Nat.le_of_ble_eq_true rfl, Nat.le_of_ble_eq_true rfl⟩) (hp_preV hG hw hp0 rfl trivial) rfl rfl hl.1 rfl (lv_room (Nat.le_of_ble_eq_true rfl)) dX12_cheat_2 ⟨Nat.zero_le _, Nat.zero_le _⟩) (fun x2 bx2 => ?_)
  obtain ⟨bx2, ix2_0⟩ := bx2
  have J20 : ∀ (H : Heap) (locs : List Loc), hp_w D T s H locs → ∀ (ls : Array Slot), lv_has ls 11 [] → WX12_cheat p l e s m below meth c D T ap0 xp1 xp2 H locs (F0 m 20 ls []) := by
    intro H20 locs20 hw ls hl
    refine lv_ldcw (v := (-1000000)) hx hb hown K356 dX12_cheat_20 ?_
    exact W.iret (v := (-1000000)) hx hb hr (fun t ht hW => ⟨some (.int (-1000000)), rfl, ⟨((-1000000) : Int32), rfl, trivial⟩, by rw [ht]; exact hw.1, hw.2.F ht⟩) hw.2.2.2 dX12_cheat_23
  refine lv_if_eq (tgt := 20) hx hb dX12_cheat_5 (by decide) (fun c5 => ?_) (fun c5 => ?_)
  · have r5tp : iv x2 0 0 := (iv_both bx2 (iv_eq (show iv 0 0 0 from ⟨by decide, by decide⟩) c5)).mono (by decide) (by decide)
    exact J20 s.heap [] hw _ (lv_sub hl [] rfl)
  · have r5fp : iv x2 1 1 := (iv_ne_lo c5 bx2 rfl).mono (by decide) (by decide)
    have r5fpz : iv xp1 0 9 := (iv_both (iv_any xp1) (ix2_0 (iv_ne0 r5fp (by decide)))).mono (by decide) (by decide)
    refine lv_iload_n hx hb dX12_cheat_8 rfl (lv_at hl 2 rfl) ?_
    obtain ⟨x9, ex9⟩ : ∃ y : Int64, xp2.toInt64 = y := ⟨_, rfl⟩
    refine lv_i2l (v := x9) hx hb dX12_cheat_9 ex9 ?_
    refine lv_lconst (v := 0) hx hb dX12_cheat_10 (by decide) ?_
    refine lv_ldc2 (v := 2) hx hb hown K379 dX12_cheat_11 ?_
    refine hp_callpi (va_runS (As := [.long x9, .long 0, .long 2]) (rest := []) ⟨hx, hb, hml, hown, hts⟩ (sX12_in l D T x9 0 2) (va_cwS 3 hts gX12_cheat_X12_in rfl rfl rfl (by decide +kernel) ⟨Nat.le_of_ble_eq_true rfl, Nat.le_of_ble_eq_true rfl⟩) (hp_preS hG hw trivial) rfl rfl hl.1 rfl (lv_room (Nat.le_of_ble_eq_true rfl)) dX12_cheat_14 ⟨Nat.zero_le _, Nat.zero_le _⟩) (fun x14 bx14 => ?_)
    obtain ⟨bx14, ox14, nx14⟩ := bx14
    have ox14a_ : x14 = 0 ∨ iv xp2 0 2 := ox14.imp id (fun h => iv_in64 ex9 h.1 h.2 (by decide) (by decide))
    have ox14a : x14 = 0 ∨ iv xp2 0 2 := ox14.imp id (fun h => iv_in64 ex9 h.1 h.2 (by decide) (by decide))
    refine lv_if_ne (tgt := 24) hx hb dX12_cheat_17 (by decide) (fun c17 => ?_) (fun c17 => ?_)
    · have r17tp : iv x14 1 1 := (iv_ne_lo c17 bx14 rfl).mono (by decide) (by decide)
      have r17tpz : iv xp2 0 2 := (iv_both (iv_any xp2) ((fun h9 => ox14a.resolve_left h9) (iv_ne0 r17tp (by decide)))).mono (by decide) (by decide)
      refine lv_iconst (v := (-1)) hx hb dX12_cheat_24 (by decide) ?_
      refine lv_istore_n (lv' := [(3, .int (-1)), (0, .ref ap0), (1, .int xp1), (2, .int xp2)]) hx hb dX12_cheat_25 rfl hl (by decide) rfl (fun ls hl => ?_)
      refine lv_iconst (v := (-1)) hx hb dX12_cheat_26 (by decide) ?_
      refine lv_istore (lv' := [(4, .int (-1)), (3, .int (-1)), (0, .ref ap0), (1, .int xp1), (2, .int xp2)]) hx hb dX12_cheat_27 hl (by decide) rfl (fun ls hl => ?_)
      refine lv_iconst (v := 0) hx hb dX12_cheat_29 (by decide) ?_
      refine lv_istore (lv' := [(5, .int 0), (4, .int (-1)), (3, .int (-1)), (0, .ref ap0), (1, .int xp1), (2, .int xp2)]) hx hb dX12_cheat_30 hl (by decide) rfl (fun ls hl => ?_)
      refine lv_iconst (v := 0) hx hb dX12_cheat_32 (by decide) ?_
      refine lv_istore (lv' := [(6, .int 0), (5, .int 0), (4, .int (-1)), (3, .int (-1)), (0, .ref ap0), (1, .int xp1), (2, .int xp2)]) hx hb dX12_cheat_33 hl (by decide) rfl (fun ls hl => ?_)
      have J35 : ∀ (n : Nat) (y35_l3 y35_l4 y35_l5 y35_l6 : Int32), (12 - y35_l6.toInt).toNat < n → iv xp1 0 9 → iv xp2 0 2 → iv y35_l3 (-1) 11 → iv y35_l4 (-1) 99 → iv y35_l6 0 12 → ∀ (H : Heap) (locs : List Loc), hp_w D T s H locs → ∀ (ls : Array Slot), lv_has ls 11 [(0, .ref ap0), (1, .int xp1), (2, .int xp2), (3, .int y35_l3), (4, .int y35_l4), (5, .int y35_l5), (6, .int y35_l6)] → WX12_cheat p l e s m below meth c D T ap0 xp1 xp2 H locs (F0 m 35 ls []) := by
        intro n
        induction n with
        | zero => intro y35_l3 y35_l4 y35_l5 y35_l6 hmu35 c35_xp1 c35_xp2 c35_y35_l3 c35_y35_l4 c35_y35_l6 H35 locs35 hw ls hl; exact absurd hmu35 (Nat.not_lt_zero _)
        | succ n ih35 =>
          intro y35_l3 y35_l4 y35_l5 y35_l6 hmu35 c35_xp1 c35_xp2 c35_y35_l3 c35_y35_l4 c35_y35_l6 H35 locs35 hw ls hl
          refine lv_iload hx hb dX12_cheat_35 (lv_at hl 6 rfl) ?_
          refine lv_aload_n hx hb dX12_cheat_37 rfl (lv_at hl 0 rfl) ?_
          refine hp_getr hx hb hts IX12 hown hK hw.1 hp0 rfl 20 (by decide) L39 rfl dX12_cheat_38 ?_
          refine lv_iconst (v := 1) hx hb dX12_cheat_41 (by decide) ?_
          refine hp_iald hx hb hK hw.1 hp0said (vp_iv (show iv 1 1 1 from ⟨by decide, by decide⟩) (by decide)) dX12_cheat_42 (fun v42 hr42 => ?_)
          have h42 := gsok _ _ hr42
          obtain ⟨x42, rfl, bx42⟩ := sP_rd1 h42 (show iv 1 1 1 from ⟨by decide, by decide⟩)
          refine lv_icmp_ge (tgt := 170) hx hb dX12_cheat_43 (by decide) (fun c43 => ?_) (fun c43 => ?_)
          · refine lv_iload_n hx hb dX12_cheat_170 rfl (lv_at hl 2 rfl) ?_
            have J190 : ∀ (y190_s0 : Int32), ∀ (H : Heap) (locs : List Loc), hp_w D T s H locs → ∀ (ls : Array Slot), lv_has ls 11 [] → WX12_cheat p l e s m below meth c D T ap0 xp1 xp2 H locs (F0 m 190 ls [.int y190_s0]) := by
              intro y190_s0 H190 locs190 hw ls hl
              exact W.iret (v := y190_s0) hx hb hr (fun t ht hW => ⟨some (.int y190_s0), rfl, ⟨y190_s0, rfl, trivial⟩, by rw [ht]; exact hw.1, hw.2.F ht⟩) hw.2.2.2 dX12_cheat_190
            refine lv_if_ne (tgt := 179) hx hb dX12_cheat_171 (by decide) (fun c171 => ?_) (fun c171 => ?_)
            · have r171tp : iv xp2 1 2 := (iv_ne_lo c171 c35_xp2 rfl).mono (by decide) (by decide)
              refine lv_iload_n hx hb dX12_cheat_179 rfl (lv_at hl 2 rfl) ?_
              refine lv_iconst (v := 1) hx hb dX12_cheat_180 (by decide) ?_
              refine lv_icmp_ne (tgt := 188) hx hb dX12_cheat_181 (by decide) (fun c181 => ?_) (fun c181 => ?_)
              · have r181tp : iv xp2 2 2 := (iv_ne_lo c181 r171tp rfl).mono (by decide) (by decide)
                refine lv_iload hx hb dX12_cheat_188 (lv_at hl 4 rfl) ?_
                exact J190 y35_l4 H35 locs35 hw _ (lv_sub hl [] rfl)
              · have r181fp : iv xp2 1 1 := (iv_both r171tp (iv_eq (show iv 1 1 1 from ⟨by decide, by decide⟩) c181)).mono (by decide) (by decide)
                refine lv_iload_n hx hb dX12_cheat_184 rfl (lv_at hl 3 rfl) ?_
                refine lv_goto (tgt := 190) hx hb dX12_cheat_185 (by decide) ?_
                exact J190 y35_l3 H35 locs35 hw _ (lv_sub hl [] rfl)
            · have r171fp : iv xp2 0 0 := (iv_both c35_xp2 (iv_eq (show iv 0 0 0 from ⟨by decide, by decide⟩) c171)).mono (by decide) (by decide)
              refine lv_iload hx hb dX12_cheat_174 (lv_at hl 5 rfl) ?_
              refine lv_goto (tgt := 190) hx hb dX12_cheat_176 (by decide) ?_
              exact J190 y35_l5 H35 locs35 hw _ (lv_sub hl [] rfl)
          · have r43fp : iv y35_l6 0 11 := (iv_lt_l (iv_nle c43) c35_y35_l6 bx42).mono (by decide) (by decide)
            have r43fq : iv x42 1 12 := (iv_lt_r (iv_nle c43) c35_y35_l6 bx42).mono (by decide) (by decide)
            refine lv_aload_n hx hb dX12_cheat_46 rfl (lv_at hl 0 rfl) ?_
            refine lv_iload_n hx hb dX12_cheat_47 rfl (lv_at hl 1 rfl) ?_
            refine lv_iload hx hb dX12_cheat_48 (lv_at hl 6 rfl) ?_
            refine hp_callpi (va_runV (As := [.int xp1, .int y35_l6]) (rest := []) ⟨hx, hb, hml, hown, hts⟩ (sX12_placeOf l D T ap0 xp1 y35_l6 Gm ip0 c35_xp1 r43fp) (cwV 2 hts gX12_cheat_X12_placeOf rfl rfl rfl (by decide +kernel) ⟨Nat.le_of_ble_eq_true rfl, Nat.le_of_ble_eq_true rfl⟩) (hp_preV hG hw hp0 rfl trivial) rfl rfl hl.1 rfl (lv_room (Nat.le_of_ble_eq_true rfl)) dX12_cheat_50 ⟨Nat.zero_le _, Nat.zero_le _⟩) (fun x50 bx50 => ?_)
            refine lv_istore (lv' := [(7, .int x50), (0, .ref ap0), (1, .int xp1), (2, .int xp2), (3, .int y35_l3), (4, .int y35_l4), (5, .int y35_l5), (6, .int y35_l6)]) hx hb dX12_cheat_53 hl (by decide) rfl (fun ls hl => ?_)
            refine lv_iconst (v := (-1)) hx hb dX12_cheat_55 (by decide) ?_
            refine lv_istore (lv' := [(8, .int (-1)), (7, .int x50), (0, .ref ap0), (1, .int xp1), (2, .int xp2), (3, .int y35_l3), (4, .int y35_l4), (5, .int y35_l5), (6, .int y35_l6)]) hx hb dX12_cheat_56 hl (by decide) rfl (fun ls hl => ?_)
            have J58 : ∀ (n : Nat) (y58_l3 y58_l4 y58_l5 y58_l8 : Int32), (6 - y58_l8.toInt).toNat < n → iv xp1 0 9 → iv xp2 0 2 → iv y58_l3 (-1) 11 → iv y58_l4 (-1) 99 → iv y35_l6 0 11 → iv y58_l8 (-1) 6 → ∀ (H : Heap) (locs : List Loc), hp_w D T s H locs → ∀ (ls : Array Slot), lv_has ls 11 [(0, .ref ap0), (1, .int xp1), (2, .int xp2), (3, .int y58_l3), (4, .int y58_l4), (5, .int y58_l5), (6, .int y35_l6), (7, .int x50), (8, .int y58_l8)] → WX12_cheat p l e s m below meth c D T ap0 xp1 xp2 H locs (F0 m 58 ls []) := by
              intro n
              induction n with
              | zero => intro y58_l3 y58_l4 y58_l5 y58_l8 hmu58 c58_xp1 c58_xp2 c58_y58_l3 c58_y58_l4 c58_y35_l6 c58_y58_l8 H58 locs58 hw ls hl; exact absurd hmu58 (Nat.not_lt_zero _)
              | succ n ih58 =>
                intro y58_l3 y58_l4 y58_l5 y58_l8 hmu58 c58_xp1 c58_xp2 c58_y58_l3 c58_y58_l4 c58_y35_l6 c58_y58_l8 H58 locs58 hw ls hl
                refine lv_iload hx hb dX12_cheat_58 (lv_at hl 8 rfl) ?_
                refine lv_aload_n hx hb dX12_cheat_60 rfl (lv_at hl 0 rfl) ?_
                refine hp_getr hx hb hts IX12 hown hK hw.1 hp0 rfl 20 (by decide) L39 rfl dX12_cheat_61 ?_
                refine lv_iconst (v := 0) hx hb dX12_cheat_64 (by decide) ?_
                refine hp_iald hx hb hK hw.1 hp0said (vp_iv (show iv 0 0 0 from ⟨by decide, by decide⟩) (by decide)) dX12_cheat_65 (fun v65 hr65 => ?_)
                have h65 := gsok _ _ hr65
                obtain ⟨x65, rfl, bx65⟩ := sP_rd0 h65 (show iv 0 0 0 from ⟨by decide, by decide⟩)
                refine lv_icmp_ge (tgt := 147) hx hb dX12_cheat_66 (by decide) (fun c66 => ?_) (fun c66 => ?_)
                · have r66tq : iv y58_l8 0 6 := (iv_le_r c66 bx65 c58_y58_l8).mono (by decide) (by decide)
                  refine lv_aload_n hx hb dX12_cheat_147 rfl (lv_at hl 0 rfl) ?_
                  refine hp_getr hx hb hts IX12 hown hK hw.1 hp0 rfl 20 (by decide) L39 rfl dX12_cheat_148 ?_
                  refine lv_bipush (v := 10) hx hb dX12_cheat_151 (by decide) ?_
                  refine lv_bipush (v := 12) hx hb dX12_cheat_153 (by decide) ?_
                  refine lv_iload_n hx hb dX12_cheat_155 rfl (lv_at hl 1 rfl) ?_
                  refine lv_imul hx hb dX12_cheat_156 ?_
                  refine lv_topi (fun x156 ex156 => ?_)
                  have bx156 : iv x156 0 108 := iv_mul (show iv 12 12 12 from ⟨by decide, by decide⟩) c58_xp1 ex156 (by decide)
                  refine lv_iadd hx hb dX12_cheat_157 ?_
                  refine lv_topi (fun x157 ex157 => ?_)
                  have bx157 : iv x157 10 118 := iv_add (show iv 10 10 10 from ⟨by decide, by decide⟩) bx156 ex157 (by decide)
                  have qx157 := iv_add_eq (show iv 10 10 10 from ⟨by decide, by decide⟩) bx156 ex157 (by decide)
                  refine lv_iload hx hb dX12_cheat_158 (lv_at hl 6 rfl) ?_
                  refine lv_iadd hx hb dX12_cheat_160 ?_
                  refine lv_topi (fun x160 ex160 => ?_)
                  have bx160 : iv x160 10 129 := iv_add bx157 c58_y35_l6 ex160 (by decide)
                  have qx160 := iv_add_eq bx157 c58_y35_l6 ex160 (by decide)
                  refine lv_iload hx hb dX12_cheat_161 (lv_at hl 7 rfl) ?_
                  refine hp_iast hx hb hK hw hp0said (vp_iv bx160 (by decide)) (hgs _ _ (sP_st bx160 (by decide))) dX12_cheat_163 (fun H163 locs163 hw g163 => ?_)
                  obtain ⟨x164, ex164⟩ : ∃ y : Int32, y = y35_l6 + 1 := ⟨_, rfl⟩
                  have bx164 : iv x164 1 12 := iv_add c58_y35_l6 (show iv 1 1 1 from ⟨by decide, by decide⟩) ex164 (by decide)
                  have qx164 := iv_add_eq c58_y35_l6 (show iv 1 1 1 from ⟨by decide, by decide⟩) ex164 (by decide)
                  refine lv_iinc (v := x164) (lv' := [(6, .int x164), (0, .ref ap0), (1, .int xp1), (2, .int xp2), (3, .int y58_l3), (4, .int y58_l4), (5, .int y58_l5), (7, .int x50), (8, .int y58_l8)]) hx hb dX12_cheat_164 hl (k := 6) rfl (by rw [ex164]; rfl) (by decide) rfl (fun ls hl => ?_)
                  refine lv_goto (tgt := 35) hx hb dX12_cheat_167 (by decide) ?_
                  exact ih35 y58_l3 y58_l4 y58_l5 x164 (mu_up 1 hmu35 (qx164) (by decide) (show iv x164 0 12 from (bx164.mono (by decide) (by decide))).2) c58_xp1 c58_xp2 c58_y58_l3 c58_y58_l4 (bx164.mono (by decide) (by decide)) H163 locs163 hw _ (lv_sub hl [1, 2, 3, 4, 5, 6, 0] rfl)
                · have r66fp : iv y58_l8 (-1) 5 := (iv_lt_l (iv_nle c66) c58_y58_l8 bx65).mono (by decide) (by decide)
                  refine lv_iload hx hb dX12_cheat_69 (lv_at hl 8 rfl) ?_
                  have J81 : ∀ (y81_s0 : Int32), iv xp1 0 9 → iv xp2 0 2 → iv y58_l3 (-1) 11 → iv y58_l4 (-1) 99 → iv y35_l6 0 11 → iv y58_l8 (-1) 5 → iv y81_s0 0 99 → ∀ (H : Heap) (locs : List Loc), hp_w D T s H locs → ∀ (ls : Array Slot), lv_has ls 11 [(0, .ref ap0), (1, .int xp1), (2, .int xp2), (3, .int y58_l3), (4, .int y58_l4), (5, .int y58_l5), (6, .int y35_l6), (7, .int x50), (8, .int y58_l8)] → WX12_cheat p l e s m below meth c D T ap0 xp1 xp2 H locs (F0 m 81 ls [.int y81_s0]) := by
                    intro y81_s0 c81_xp1 c81_xp2 c81_y58_l3 c81_y58_l4 c81_y35_l6 c81_y58_l8 c81_y81_s0 H81 locs81 hw ls hl
                    refine lv_istore (lv' := [(9, .int y81_s0), (0, .ref ap0), (1, .int xp1), (2, .int xp2), (3, .int y58_l3), (4, .int y58_l4), (5, .int y58_l5), (6, .int y35_l6), (7, .int x50), (8, .int y58_l8)]) hx hb dX12_cheat_81 hl (by decide) rfl (fun ls hl => ?_)
                    refine lv_iload hx hb dX12_cheat_83 (lv_at hl 0 rfl) ?_
                    refine lv_iload hx hb dX12_cheat_85 (lv_at hl 8 rfl) ?_
                    have J141 : ∀ (y141_l3 y141_l4 y141_l5 : Int32), iv xp1 0 9 → iv xp2 0 2 → iv y141_l3 (-1) 11 → iv y141_l4 (-1) 99 → iv y35_l6 0 11 → iv y58_l8 (-1) 5 → ∀ (H : Heap) (locs : List Loc), hp_w D T s H locs → ∀ (ls : Array Slot), lv_has ls 11 [(0, .ref ap0), (1, .int xp1), (2, .int xp2), (3, .int y141_l3), (4, .int y141_l4), (5, .int y141_l5), (6, .int y35_l6), (7, .int x50), (8, .int y58_l8)] → WX12_cheat p l e s m below meth c D T ap0 xp1 xp2 H locs (F0 m 141 ls []) := by
                      intro y141_l3 y141_l4 y141_l5 c141_xp1 c141_xp2 c141_y141_l3 c141_y141_l4 c141_y35_l6 c141_y58_l8 H141 locs141 hw ls hl
                      obtain ⟨x141, ex141⟩ : ∃ y : Int32, y = y58_l8 + 1 := ⟨_, rfl⟩
                      have bx141 : iv x141 0 6 := iv_add c141_y58_l8 (show iv 1 1 1 from ⟨by decide, by decide⟩) ex141 (by decide)
                      have qx141 := iv_add_eq c141_y58_l8 (show iv 1 1 1 from ⟨by decide, by decide⟩) ex141 (by decide)
                      refine lv_iinc (v := x141) (lv' := [(8, .int x141), (0, .ref ap0), (1, .int xp1), (2, .int xp2), (3, .int y141_l3), (4, .int y141_l4), (5, .int y141_l5), (6, .int y35_l6), (7, .int x50)]) hx hb dX12_cheat_141 hl (k := 8) rfl (by rw [ex141]; rfl) (by decide) rfl (fun ls hl => ?_)
                      refine lv_goto (tgt := 58) hx hb dX12_cheat_144 (by decide) ?_
                      exact ih58 y141_l3 y141_l4 y141_l5 x141 (mu_up 1 hmu58 (qx141) (by decide) (show iv x141 (-1) 6 from (bx141.mono (by decide) (by decide))).2) c141_xp1 c141_xp2 c141_y141_l3 c141_y141_l4 c141_y35_l6 (bx141.mono (by decide) (by decide)) H141 locs141 hw _ (lv_sub hl [1, 2, 3, 4, 5, 6, 7, 8, 0] rfl)
                    refine lv_icmp_ne (tgt := 93) hx hb dX12_cheat_87 (by decide) (fun c87 => ?_) (fun c87 => ?_)
                    · refine lv_aload_n hx hb dX12_cheat_93 rfl (lv_at hl 1 rfl) ?_
                      refine hp_getr hx hb hts IX12 hown hK hw.1 hp0 rfl 20 (by decide) L39 rfl dX12_cheat_94 ?_
                      refine lv_bipush (v := 10) hx hb dX12_cheat_97 (by decide) ?_
                      refine lv_bipush (v := 12) hx hb dX12_cheat_99 (by decide) ?_
                      refine lv_iload_n hx hb dX12_cheat_101 rfl (lv_at hl 2 rfl) ?_
                      refine lv_imul hx hb dX12_cheat_102 ?_
                      refine lv_topi (fun x102 ex102 => ?_)
                      have bx102 : iv x102 0 108 := iv_mul (show iv 12 12 12 from ⟨by decide, by decide⟩) c81_xp1 ex102 (by decide)
                      refine lv_iadd hx hb dX12_cheat_103 ?_
                      refine lv_topi (fun x103 ex103 => ?_)
                      have bx103 : iv x103 10 118 := iv_add (show iv 10 10 10 from ⟨by decide, by decide⟩) bx102 ex103 (by decide)
                      have qx103 := iv_add_eq (show iv 10 10 10 from ⟨by decide, by decide⟩) bx102 ex103 (by decide)
                      refine lv_iload hx hb dX12_cheat_104 (lv_at hl 7 rfl) ?_
                      refine lv_iadd hx hb dX12_cheat_106 ?_
                      refine lv_topi (fun x106 ex106 => ?_)
                      have bx106 : iv x106 10 129 := iv_add bx103 c81_y35_l6 ex106 (by decide)
                      have qx106 := iv_add_eq bx103 c81_y35_l6 ex106 (by decide)
                      refine lv_iload hx hb dX12_cheat_107 (lv_at hl 0 rfl) ?_
                      refine hp_iast hx hb hK hw hp0said (vp_iv bx106 (by decide)) (hgs _ _ (sP_st bx106 (by decide))) dX12_cheat_109 (fun H109 locs109 hw g109 => ?_)
                      refine lv_aload_n hx hb dX12_cheat_110 rfl (lv_at hl 1 rfl) ?_
                      refine hp_callei (va_runV (As := []) (rest := []) ⟨hx, hb, hml, hown, hts⟩ (sX12_totalOf l D T ap0 Gm ip0) (cwV 0 hts gX12_cheat_X12_totalOf rfl rfl rfl (by decide +kernel) ⟨Nat.le_of_ble_eq_true rfl, Nat.le_of_ble_eq_true rfl⟩) (hp_preV hG hw hp0 rfl trivial) rfl rfl hl.1 rfl (lv_room (Nat.le_of_ble_eq_true rfl)) dX12_cheat_111 ⟨Nat.zero_le _, Nat.zero_le _⟩) hw (fun x111 st111 t111 H111 locs111 eh111 eg111 bx111 hw => ?_)
                      obtain ⟨bx111, g111⟩ := bx111
                      rw [eh111, eg111] at g111
                      refine lv_istore (lv' := [(10, .int x111), (9, .int y81_s0), (0, .ref ap0), (1, .int xp1), (2, .int xp2), (3, .int y58_l3), (4, .int y58_l4), (5, .int y58_l5), (6, .int y35_l6), (7, .int x50), (8, .int y58_l8)]) hx hb dX12_cheat_114 hl (by decide) rfl (fun ls hl => ?_)
                      refine lv_iload_n hx hb dX12_cheat_116 rfl (lv_at hl 5 rfl) ?_
                      have J130 : ∀ (y130_l9 : Int32), iv xp1 0 9 → iv xp2 0 2 → iv y35_l6 0 11 → iv y58_l8 (-1) 5 → iv y130_l9 0 99 → ∀ (H : Heap) (locs : List Loc), hp_w D T s H locs → ∀ (ls : Array Slot), lv_has ls 11 [(0, .ref ap0), (1, .int xp1), (2, .int xp2), (6, .int y35_l6), (7, .int x50), (8, .int y58_l8), (9, .int y130_l9), (10, .int x111)] → WX12_cheat p l e s m below meth c D T ap0 xp1 xp2 H locs (F0 m 130 ls []) := by
                        intro y130_l9 c130_xp1 c130_xp2 c130_y35_l6 c130_y58_l8 c130_y130_l9 H130 locs130 hw ls hl
                        refine lv_iload hx hb dX12_cheat_130 (lv_at hl 3 rfl) ?_
                        refine lv_istore_n (lv' := [(3, .int y35_l6), (0, .ref ap0), (1, .int xp1), (2, .int xp2), (6, .int y35_l6), (7, .int x50), (8, .int y58_l8), (9, .int y130_l9), (10, .int x111)]) hx hb dX12_cheat_132 rfl hl (by decide) rfl (fun ls hl => ?_)
                        refine lv_iload hx hb dX12_cheat_133 (lv_at hl 7 rfl) ?_
                        refine lv_istore (lv' := [(4, .int y130_l9), (3, .int y35_l6), (0, .ref ap0), (1, .int xp1), (2, .int xp2), (6, .int y35_l6), (7, .int x50), (8, .int y58_l8), (9, .int y130_l9), (10, .int x111)]) hx hb dX12_cheat_135 hl (by decide) rfl (fun ls hl => ?_)
                        refine lv_iload hx hb dX12_cheat_137 (lv_at hl 9 rfl) ?_
                        refine lv_istore (lv' := [(5, .int x111), (4, .int y130_l9), (3, .int y35_l6), (0, .ref ap0), (1, .int xp1), (2, .int xp2), (6, .int y35_l6), (7, .int x50), (8, .int y58_l8), (9, .int y130_l9), (10, .int x111)]) hx hb dX12_cheat_139 hl (by decide) rfl (fun ls hl => ?_)
                        exact J141 y35_l6 y130_l9 x111 c130_xp1 c130_xp2 (c130_y35_l6.mono (by decide) (by decide)) (c130_y130_l9.mono (by decide) (by decide)) c130_y35_l6 c130_y58_l8 H130 locs130 hw _ (lv_sub hl [3, 4, 5, 2, 1, 0, 6, 7, 8] rfl)
                      refine lv_if_lt (tgt := 130) hx hb dX12_cheat_117 (by decide) (fun c117 => ?_) (fun c117 => ?_)
                      · have r117tp : iv y58_l3 (-1) (-1) := (iv_lt_l c117 c81_y58_l3 (show iv 0 0 0 from ⟨by decide, by decide⟩)).mono (by decide) (by decide)
                        exact J130 y81_s0 c81_xp1 c81_xp2 c81_y35_l6 c81_y58_l8 c81_y81_s0 H111 locs111 hw _ (lv_sub hl [2, 3, 4, 8, 9, 10, 1, 0] rfl)
                      · have r117fq : iv y58_l3 0 11 := (iv_le_r (iv_nlt c117) (show iv 0 0 0 from ⟨by decide, by decide⟩) c81_y58_l3).mono (by decide) (by decide)
                        refine lv_iload hx hb dX12_cheat_120 (lv_at hl 0 rfl) ?_
                        refine lv_iload hx hb dX12_cheat_122 (lv_at hl 7 rfl) ?_
                        refine lv_icmp_gt (tgt := 130) hx hb dX12_cheat_124 (by decide) (fun c124 => ?_) (fun c124 => ?_)
                        · have r124tp : iv y58_l5 (-2147483648) 2147483646 := (iv_lt_l c124 (iv_any y58_l5) (iv_any x111)).mono (by decide) (by decide)
                          have r124tq : iv x111 (-2147483647) 2147483647 := (iv_lt_r c124 (iv_any y58_l5) (iv_any x111)).mono (by decide) (by decide)
                          exact J130 y81_s0 c81_xp1 c81_xp2 c81_y35_l6 c81_y58_l8 c81_y81_s0 H111 locs111 hw _ (lv_sub hl [2, 3, 4, 8, 9, 10, 1, 0] rfl)
                        · refine lv_goto (tgt := 141) hx hb dX12_cheat_127 (by decide) ?_
                          exact J141 y58_l3 y58_l4 y58_l5 c81_xp1 c81_xp2 (r117fq.mono (by decide) (by decide)) c81_y58_l4 c81_y35_l6 c81_y58_l8 H111 locs111 hw _ (lv_sub hl [2, 3, 4, 5, 6, 7, 8, 9, 10] rfl)
                    · have r87fq : iv x50 0 99 := (iv_both (iv_any x50) (iv_eq c81_y81_s0 c87.symm)).mono (by decide) (by decide)
                      refine lv_goto (tgt := 141) hx hb dX12_cheat_90 (by decide) ?_
                      exact J141 y58_l3 y58_l4 y58_l5 c81_xp1 c81_xp2 c81_y58_l3 c81_y58_l4 c81_y35_l6 c81_y58_l8 H81 locs81 hw _ (lv_sub hl [1, 2, 3, 4, 5, 6, 7, 8, 9] rfl)
                  refine lv_if_ge (tgt := 79) hx hb dX12_cheat_71 (by decide) (fun c71 => ?_) (fun c71 => ?_)
                  · have r71tq : iv y58_l8 0 5 := (iv_le_r c71 (show iv 0 0 0 from ⟨by decide, by decide⟩) r66fp).mono (by decide) (by decide)
                    refine lv_iload hx hb dX12_cheat_79 (lv_at hl 8 rfl) ?_
                    exact J81 y58_l8 c58_xp1 c58_xp2 c58_y58_l3 c58_y58_l4 c58_y35_l6 (r71tq.mono (by decide) (by decide)) (r71tq.mono (by decide) (by decide)) H58 locs58 hw _ (lv_sub hl [0, 1, 2, 3, 4, 5, 6, 7, 8] rfl)
                  · have r71fp : iv y58_l8 (-1) (-1) := (iv_lt_l (iv_nle c71) r66fp (show iv 0 0 0 from ⟨by decide, by decide⟩)).mono (by decide) (by decide)
                    refine lv_bipush (v := 99) hx hb dX12_cheat_74 (by decide) ?_
                    refine lv_goto (tgt := 81) hx hb dX12_cheat_76 (by decide) ?_
                    exact J81 (99 : Int32) c58_xp1 c58_xp2 c58_y58_l3 c58_y58_l4 c58_y35_l6 (r71fp.mono (by decide) (by decide)) (show iv 99 0 99 from ⟨by decide, by decide⟩) H58 locs58 hw _ (lv_sub hl [0, 1, 2, 3, 4, 5, 6, 7, 8] rfl)
            exact J58 _ y35_l3 y35_l4 y35_l5 ((-1) : Int32) (Nat.lt_succ_self _) c35_xp1 c35_xp2 c35_y35_l3 c35_y35_l4 r43fp (show iv (-1) (-1) 6 from ⟨by decide, by decide⟩) H35 locs35 hw _ (lv_sub hl [2, 3, 4, 5, 6, 7, 8, 1, 0] rfl)
      exact J35 _ ((-1) : Int32) ((-1) : Int32) (0 : Int32) (0 : Int32) (Nat.lt_succ_self _) r5fpz r17tpz (show iv (-1) (-1) 11 from ⟨by decide, by decide⟩) (show iv (-1) (-1) 99 from ⟨by decide, by decide⟩) (show iv 0 0 12 from ⟨by decide, by decide⟩) s.heap [] hw _ (lv_sub hl [4, 5, 6, 3, 2, 1, 0] rfl)
    · have r17fp : iv x14 0 0 := (iv_both bx14 (iv_eq (show iv 0 0 0 from ⟨by decide, by decide⟩) c17)).mono (by decide) (by decide)
      exact J20 s.heap [] hw _ (lv_sub hl [] rfl)
abbrev WX12_odd (p : Program) (l : Launch) (e : Env) (s : State) (m : MethodId) (below : List Frame) (meth : Method) (c : Code) (D : hp_D) (T : hp_T) (ap0 : Nat) (xp1 : Int32) (H : Heap) (locs : List Loc) (g : JFrame) : Prop := W p l e (headSpec wsX12_odd ({ frames := 6, cells := 0, slots := 0, locals := 151 })).room s m ([.ref ap0, .int xp1] : List Value).toArray below meth c H locs 0 0 (MQ below (hq_e D T (fun v _ _ => ∃ r : Int32, v = some (.int r) ∧ True)) ([.ref ap0, .int xp1] : List Value).toArray s 0 0 (hp_F T)) g
set_option maxHeartbeats 4000000 in
set_option maxRecDepth 100000 in
theorem sX12_odd (l : Launch) (D : hp_D) (T : hp_T) (ap0 : Nat) (xp1 : Int32) (Gm : moG) (ip0 : isMo T ap0 Gm) (hgs : ∀ j v, sP j v → gs Gm j v) : Met l yX12_odd wsX12_odd ({ frames := 6, cells := 0, slots := 0, locals := 151 }) (hp_Pc D T [.ref ap0, .int xp1] (fun _ => True)) (hq_e D T (fun v _ _ => ∃ r : Int32, v = some (.int r) ∧ True)) 0 0 (hp_F T) := by
  obtain ⟨ap0tape, ap0sign, ap0len, ap0clause, ap0clauses, ap0read, ap0opn, ap0stack, ap0word, ap0said, ap0was, ap0fitting, ap0sums, ap0sort, ap0sumsBy, ap0oneOf, ap0otherOf, ap0kept, ap0images, ap0acts, ap0iUnd, ap0iFor, ap0iX, ap0made, gok, hp0, hp0tape, hp0sign, hp0len, hp0clause, hp0clauses, hp0read, hp0opn, hp0stack, hp0word, hp0said, hp0was, hp0fitting, hp0sums, hp0sort, hp0sumsBy, hp0oneOf, hp0otherOf, hp0kept, hp0images, hp0acts, hp0iUnd, hp0iFor, hp0iX, hp0made⟩ := id ip0
  have hpx := gok.1
  have gsok := gok.2.2.2.2
  have ggd := gok.2.2.2.1
  refine Met.ofW (cc := cX12_odd) (maxL := 5) (ret := (some .int)) (by decide) rfl ?_
  intro p e s m args below meth c s₁ B hml hv
  obtain ⟨rfl, hok, hG, hB⟩ := hv
  have hx := B.exec
  have hb := B.bytes
  have hr := B.returns
  have hts := atoms_spec (ws := wsX12_odd) B.pre
  have hown : s.vm.findClass RX12 = some m.cls := findClass_of_methodNamed B.named
  have hlocks := B.notSynchronized
  have hK := hG.1
  have hw : hp_w D T s s.heap [] := hp_w.rf hok
  have hl := lv_entry ([.ref ap0, .int xp1]) (n := 5) (Nat.le_of_ble_eq_true rfl)
  rw [lg_entry_eq]
  generalize (lg_sl ([.ref ap0, .int xp1]) ++ List.replicate (5 - (lg_sl ([.ref ap0, .int xp1])).length) Slot.unset).toArray = ls at hl ⊢
  have hl : lv_has ls 5 [(0, .ref ap0), (1, .int xp1)] := hl
  show WX12_odd p l e s m below meth c D T ap0 xp1 s.heap [] (F0 m 0 ls [])
  refine lv_aload_n hx hb dX12_odd_0 rfl (lv_at hl 0 rfl) ?_
  refine hp_callpi (va_runV (As := []) (rest := []) ⟨hx, hb, hml, hown, hts⟩ (sX12_isTown l D T ap0 Gm ip0) (cwV 0 hts gX12_odd_X12_isTown rfl rfl rfl (by decide +kernel) ⟨Nat.le_of_ble_eq_true rfl, Nat.le_of_ble_eq_true rfl⟩) (hp_preV hG hw hp0 rfl trivial) rfl rfl hl.1 rfl (lv_room (Nat.le_of_ble_eq_true rfl)) dX12_odd_1 ⟨Nat.zero_le _, Nat.zero_le _⟩) (fun x1 bx1 => ?_)
  have J17 : ∀ (H : Heap) (locs : List Loc), hp_w D T s H locs → ∀ (ls : Array Slot), lv_has ls 5 [] → WX12_odd p l e s m below meth c D T ap0 xp1 H locs (F0 m 17 ls []) := by
    intro H17 locs17 hw ls hl
    refine lv_iconst (v := (-1)) hx hb dX12_odd_17 (by decide) ?_
    exact W.iret (v := (-1)) hx hb hr (fun t ht hW => ⟨some (.int (-1)), rfl, ⟨((-1) : Int32), rfl, trivial⟩, by rw [ht]; exact hw.1, hw.2.F ht⟩) hw.2.2.2 dX12_odd_18
  refine lv_if_eq (tgt := 17) hx hb dX12_odd_4 (by decide) (fun c4 => ?_) (fun c4 => ?_)
  · have r4tp : iv x1 0 0 := (iv_both bx1 (iv_eq (show iv 0 0 0 from ⟨by decide, by decide⟩) c4)).mono (by decide) (by decide)
    exact J17 s.heap [] hw _ (lv_sub hl [] rfl)
  · have r4fp : iv x1 1 1 := (iv_ne_lo c4 bx1 rfl).mono (by decide) (by decide)
    refine lv_iload_n hx hb dX12_odd_7 rfl (lv_at hl 1 rfl) ?_
    obtain ⟨x8, ex8⟩ : ∃ y : Int64, xp1.toInt64 = y := ⟨_, rfl⟩
    refine lv_i2l (v := x8) hx hb dX12_odd_8 ex8 ?_
    refine lv_lconst (v := 0) hx hb dX12_odd_9 (by decide) ?_
    refine lv_lconst (v := 1) hx hb dX12_odd_10 (by decide) ?_
    refine hp_callpi (va_runS (As := [.long x8, .long 0, .long 1]) (rest := []) ⟨hx, hb, hml, hown, hts⟩ (sX12_in l D T x8 0 1) (va_cwS 3 hts gX12_odd_X12_in rfl rfl rfl (by decide +kernel) ⟨Nat.le_of_ble_eq_true rfl, Nat.le_of_ble_eq_true rfl⟩) (hp_preS hG hw trivial) rfl rfl hl.1 rfl (lv_room (Nat.le_of_ble_eq_true rfl)) dX12_odd_11 ⟨Nat.zero_le _, Nat.zero_le _⟩) (fun x11 bx11 => ?_)
    obtain ⟨bx11, ox11, nx11⟩ := bx11
    have ox11a_ : x11 = 0 ∨ iv xp1 0 1 := ox11.imp id (fun h => iv_in64 ex8 h.1 h.2 (by decide) (by decide))
    have ox11a : x11 = 0 ∨ iv xp1 0 1 := ox11.imp id (fun h => iv_in64 ex8 h.1 h.2 (by decide) (by decide))
    refine lv_if_ne (tgt := 19) hx hb dX12_odd_14 (by decide) (fun c14 => ?_) (fun c14 => ?_)
    · have r14tp : iv x11 1 1 := (iv_ne_lo c14 bx11 rfl).mono (by decide) (by decide)
      have r14tpz : iv xp1 0 1 := (iv_both (iv_any xp1) ((fun h9 => ox11a.resolve_left h9) (iv_ne0 r14tp (by decide)))).mono (by decide) (by decide)
      refine lv_bipush (v := (-2)) hx hb dX12_odd_19 (by decide) ?_
      refine lv_istore_n (lv' := [(2, .int (-2)), (0, .ref ap0), (1, .int xp1)]) hx hb dX12_odd_21 rfl hl (by decide) rfl (fun ls hl => ?_)
      refine lv_iconst (v := 0) hx hb dX12_odd_22 (by decide) ?_
      refine lv_istore_n (lv' := [(3, .int 0), (2, .int (-2)), (0, .ref ap0), (1, .int xp1)]) hx hb dX12_odd_23 rfl hl (by decide) rfl (fun ls hl => ?_)
      have J24 : ∀ (n : Nat) (y24_l2 y24_l3 : Int32), (1024 - y24_l3.toInt).toNat < n → iv xp1 0 1 → iv y24_l2 (-2) 1023 → iv y24_l3 0 1024 → ∀ (H : Heap) (locs : List Loc), hp_w D T s H locs → ∀ (ls : Array Slot), lv_has ls 5 [(0, .ref ap0), (1, .int xp1), (2, .int y24_l2), (3, .int y24_l3)] → WX12_odd p l e s m below meth c D T ap0 xp1 H locs (F0 m 24 ls []) := by
        intro n
        induction n with
        | zero => intro y24_l2 y24_l3 hmu24 c24_xp1 c24_y24_l2 c24_y24_l3 H24 locs24 hw ls hl; exact absurd hmu24 (Nat.not_lt_zero _)
        | succ n ih24 =>
          intro y24_l2 y24_l3 hmu24 c24_xp1 c24_y24_l2 c24_y24_l3 H24 locs24 hw ls hl
          refine lv_iload_n hx hb dX12_odd_24 rfl (lv_at hl 3 rfl) ?_
          refine lv_aload_n hx hb dX12_odd_25 rfl (lv_at hl 0 rfl) ?_
          refine hp_callpi (va_runV (As := []) (rest := [.int y24_l3]) ⟨hx, hb, hml, hown, hts⟩ (sX12_everybody_0 l D T ap0 Gm ip0) (cwV 0 hts gX12_odd_X12_everybody rfl rfl rfl (by decide +kernel) ⟨Nat.le_of_ble_eq_true rfl, Nat.le_of_ble_eq_true rfl⟩) (hp_preV hG hw hp0 rfl trivial) rfl rfl hl.1 rfl (lv_room (Nat.le_of_ble_eq_true rfl)) dX12_odd_26 ⟨Nat.zero_le _, Nat.zero_le _⟩) (fun x26 bx26 => ?_)
          refine lv_icmp_gt (tgt := 81) hx hb dX12_odd_29 (by decide) (fun c29 => ?_) (fun c29 => ?_)
          · have r29tq : iv y24_l3 1 1024 := (iv_lt_r c29 bx26 c24_y24_l3).mono (by decide) (by decide)
            refine lv_iload_n hx hb dX12_odd_81 rfl (lv_at hl 2 rfl) ?_
            have J102 : ∀ (y102_s0 : Int32), ∀ (H : Heap) (locs : List Loc), hp_w D T s H locs → ∀ (ls : Array Slot), lv_has ls 5 [] → WX12_odd p l e s m below meth c D T ap0 xp1 H locs (F0 m 102 ls [.int y102_s0]) := by
              intro y102_s0 H102 locs102 hw ls hl
              exact W.iret (v := y102_s0) hx hb hr (fun t ht hW => ⟨some (.int y102_s0), rfl, ⟨y102_s0, rfl, trivial⟩, by rw [ht]; exact hw.1, hw.2.F ht⟩) hw.2.2.2 dX12_odd_102
            refine lv_if_ge (tgt := 90) hx hb dX12_odd_82 (by decide) (fun c82 => ?_) (fun c82 => ?_)
            · have r82tq : iv y24_l2 0 1023 := (iv_le_r c82 (show iv 0 0 0 from ⟨by decide, by decide⟩) c24_y24_l2).mono (by decide) (by decide)
              refine lv_iload_n hx hb dX12_odd_90 rfl (lv_at hl 1 rfl) ?_
              refine lv_if_ne (tgt := 101) hx hb dX12_odd_91 (by decide) (fun c91 => ?_) (fun c91 => ?_)
              · have r91tp : iv xp1 1 1 := (iv_ne_lo c91 c24_xp1 rfl).mono (by decide) (by decide)
                refine lv_iload_n hx hb dX12_odd_101 rfl (lv_at hl 2 rfl) ?_
                exact J102 y24_l2 H24 locs24 hw _ (lv_sub hl [] rfl)
              · have r91fp : iv xp1 0 0 := (iv_both c24_xp1 (iv_eq (show iv 0 0 0 from ⟨by decide, by decide⟩) c91)).mono (by decide) (by decide)
                refine lv_iload_n hx hb dX12_odd_94 rfl (lv_at hl 2 rfl) ?_
                refine hp_callpi (va_runS (As := [.int y24_l2]) (rest := []) ⟨hx, hb, hml, hown, hts⟩ (sX12_bits l D T y24_l2) (va_cwS 1 hts gX12_odd_X12_bits rfl rfl rfl (by decide +kernel) ⟨Nat.le_of_ble_eq_true rfl, Nat.le_of_ble_eq_true rfl⟩) (hp_preS hG hw trivial) rfl rfl hl.1 rfl (lv_room (Nat.le_of_ble_eq_true rfl)) dX12_odd_95 ⟨Nat.zero_le _, Nat.zero_le _⟩) (fun x95 bx95 => ?_)
                refine lv_goto (tgt := 102) hx hb dX12_odd_98 (by decide) ?_
                exact J102 x95 H24 locs24 hw _ (lv_sub hl [] rfl)
            · have r82fp : iv y24_l2 (-2) (-1) := (iv_lt_l (iv_nle c82) c24_y24_l2 (show iv 0 0 0 from ⟨by decide, by decide⟩)).mono (by decide) (by decide)
              refine lv_bipush (v := (-2)) hx hb dX12_odd_85 (by decide) ?_
              refine lv_goto (tgt := 102) hx hb dX12_odd_87 (by decide) ?_
              exact J102 ((-2) : Int32) H24 locs24 hw _ (lv_sub hl [] rfl)
          · have r29fp : iv y24_l3 0 1023 := (iv_le_l (iv_nlt c29) c24_y24_l3 bx26).mono (by decide) (by decide)
            refine lv_iload_n hx hb dX12_odd_32 rfl (lv_at hl 2 rfl) ?_
            have J75 : ∀ (y75_l2 : Int32), iv xp1 0 1 → iv y75_l2 (-2) 1023 → iv y24_l3 0 1023 → ∀ (H : Heap) (locs : List Loc), hp_w D T s H locs → ∀ (ls : Array Slot), lv_has ls 5 [(0, .ref ap0), (1, .int xp1), (2, .int y75_l2), (3, .int y24_l3)] → WX12_odd p l e s m below meth c D T ap0 xp1 H locs (F0 m 75 ls []) := by
              intro y75_l2 c75_xp1 c75_y75_l2 c75_y24_l3 H75 locs75 hw ls hl
              obtain ⟨x75, ex75⟩ : ∃ y : Int32, y = y24_l3 + 1 := ⟨_, rfl⟩
              have bx75 : iv x75 1 1024 := iv_add c75_y24_l3 (show iv 1 1 1 from ⟨by decide, by decide⟩) ex75 (by decide)
              have qx75 := iv_add_eq c75_y24_l3 (show iv 1 1 1 from ⟨by decide, by decide⟩) ex75 (by decide)
              refine lv_iinc (v := x75) (lv' := [(3, .int x75), (0, .ref ap0), (1, .int xp1), (2, .int y75_l2)]) hx hb dX12_odd_75 hl (k := 3) rfl (by rw [ex75]; rfl) (by decide) rfl (fun ls hl => ?_)
              refine lv_goto (tgt := 24) hx hb dX12_odd_78 (by decide) ?_
              exact ih24 y75_l2 x75 (mu_up 1 hmu24 (qx75) (by decide) (show iv x75 0 1024 from (bx75.mono (by decide) (by decide))).2) c75_xp1 c75_y75_l2 (bx75.mono (by decide) (by decide)) H75 locs75 hw _ (lv_sub hl [1, 2, 3, 0] rfl)
            have J50 : iv xp1 0 1 → iv y24_l2 (-2) 1023 → iv y24_l3 0 1023 → ∀ (H : Heap) (locs : List Loc), hp_w D T s H locs → ∀ (ls : Array Slot), lv_has ls 5 [(0, .ref ap0), (1, .int xp1), (2, .int y24_l2), (3, .int y24_l3)] → WX12_odd p l e s m below meth c D T ap0 xp1 H locs (F0 m 50 ls []) := by
              intro c50_xp1 c50_y24_l2 c50_y24_l3 H50 locs50 hw ls hl
              refine lv_aload_n hx hb dX12_odd_50 rfl (lv_at hl 0 rfl) ?_
              refine lv_iload_n hx hb dX12_odd_51 rfl (lv_at hl 3 rfl) ?_
              refine hp_callev (va_runV (As := [.int y24_l3]) (rest := []) ⟨hx, hb, hml, hown, hts⟩ (sX12_turnsGloves l D T ap0 y24_l3 Gm ip0 hgs) (cwV 1 hts gX12_odd_X12_turnsGloves rfl rfl rfl (by decide +kernel) ⟨Nat.le_of_ble_eq_true rfl, Nat.le_of_ble_eq_true rfl⟩) (hp_preV hG hw hp0 rfl trivial) rfl rfl hl.1 rfl (lv_room (Nat.le_of_ble_eq_true rfl)) dX12_odd_52 ⟨Nat.zero_le _, Nat.zero_le _⟩) hw (fun st52 t52 H52 locs52 eh52 eg52 bx52 hw => ?_)
              refine lv_aload_n hx hb dX12_odd_55 rfl (lv_at hl 0 rfl) ?_
              refine hp_callei (va_runV (As := []) (rest := []) ⟨hx, hb, hml, hown, hts⟩ (sX12_totalOf l D T ap0 Gm ip0) (cwV 0 hts gX12_odd_X12_totalOf rfl rfl rfl (by decide +kernel) ⟨Nat.le_of_ble_eq_true rfl, Nat.le_of_ble_eq_true rfl⟩) (hp_preV hG hw hp0 rfl trivial) rfl rfl hl.1 rfl (lv_room (Nat.le_of_ble_eq_true rfl)) dX12_odd_56 ⟨Nat.zero_le _, Nat.zero_le _⟩) hw (fun x56 st56 t56 H56 locs56 eh56 eg56 bx56 hw => ?_)
              obtain ⟨bx56, g56⟩ := bx56
              rw [eh56, eg56] at g56
              refine lv_istore (lv' := [(4, .int x56), (0, .ref ap0), (1, .int xp1), (2, .int y24_l2), (3, .int y24_l3)]) hx hb dX12_odd_59 hl (by decide) rfl (fun ls hl => ?_)
              refine lv_aload_n hx hb dX12_odd_61 rfl (lv_at hl 1 rfl) ?_
              refine lv_iload_n hx hb dX12_odd_62 rfl (lv_at hl 4 rfl) ?_
              refine hp_callev (va_runV (As := [.int y24_l3]) (rest := []) ⟨hx, hb, hml, hown, hts⟩ (sX12_turnsGloves l D T ap0 y24_l3 Gm ip0 hgs) (cwV 1 hts gX12_odd_X12_turnsGloves rfl rfl rfl (by decide +kernel) ⟨Nat.le_of_ble_eq_true rfl, Nat.le_of_ble_eq_true rfl⟩) (hp_preV hG hw hp0 rfl trivial) rfl rfl hl.1 rfl (lv_room (Nat.le_of_ble_eq_true rfl)) dX12_odd_63 ⟨Nat.zero_le _, Nat.zero_le _⟩) hw (fun st63 t63 H63 locs63 eh63 eg63 bx63 hw => ?_)
              refine lv_iload hx hb dX12_odd_66 (lv_at hl 0 rfl) ?_
              refine lv_iconst (v := 2) hx hb dX12_odd_68 (by decide) ?_
              refine lv_irem hx hb dX12_odd_69 (iv_ne0 (show iv 2 2 2 from ⟨by decide, by decide⟩) (by decide)) ?_
              refine lv_topi (fun x69 ex69 => ?_)
              refine lv_if_eq (tgt := 75) hx hb dX12_odd_70 (by decide) (fun c70 => ?_) (fun c70 => ?_)
              · have r70tp : iv x69 0 0 := (iv_both (iv_any x69) (iv_eq (show iv 0 0 0 from ⟨by decide, by decide⟩) c70)).mono (by decide) (by decide)
                exact J75 y24_l2 c50_xp1 c50_y24_l2 c50_y24_l3 H63 locs63 hw _ (lv_sub hl [1, 2, 3, 4] rfl)
              · refine lv_iload_n hx hb dX12_odd_73 rfl (lv_at hl 4 rfl) ?_
                refine lv_istore_n (lv' := [(2, .int y24_l3), (4, .int x56), (0, .ref ap0), (1, .int xp1), (3, .int y24_l3)]) hx hb dX12_odd_74 rfl hl (by decide) rfl (fun ls hl => ?_)
                exact J75 y24_l3 c50_xp1 (c50_y24_l3.mono (by decide) (by decide)) c50_y24_l3 H63 locs63 hw _ (lv_sub hl [2, 3, 0, 4] rfl)
            refine lv_if_lt (tgt := 50) hx hb dX12_odd_33 (by decide) (fun c33 => ?_) (fun c33 => ?_)
            · have r33tp : iv y24_l2 (-2) (-1) := (iv_lt_l c33 c24_y24_l2 (show iv 0 0 0 from ⟨by decide, by decide⟩)).mono (by decide) (by decide)
              exact J50 c24_xp1 (r33tp.mono (by decide) (by decide)) r29fp H24 locs24 hw _ (lv_sub hl [0, 1, 2, 3] rfl)
            · have r33fq : iv y24_l2 0 1023 := (iv_le_r (iv_nlt c33) (show iv 0 0 0 from ⟨by decide, by decide⟩) c24_y24_l2).mono (by decide) (by decide)
              refine lv_iload_n hx hb dX12_odd_36 rfl (lv_at hl 3 rfl) ?_
              refine hp_callpi (va_runS (As := [.int y24_l3]) (rest := []) ⟨hx, hb, hml, hown, hts⟩ (sX12_bits l D T y24_l3) (va_cwS 1 hts gX12_odd_X12_bits rfl rfl rfl (by decide +kernel) ⟨Nat.le_of_ble_eq_true rfl, Nat.le_of_ble_eq_true rfl⟩) (hp_preS hG hw trivial) rfl rfl hl.1 rfl (lv_room (Nat.le_of_ble_eq_true rfl)) dX12_odd_37 ⟨Nat.zero_le _, Nat.zero_le _⟩) (fun x37 bx37 => ?_)
              refine lv_iload_n hx hb dX12_odd_40 rfl (lv_at hl 2 rfl) ?_
              refine hp_callpi (va_runS (As := [.int y24_l2]) (rest := [.int x37]) ⟨hx, hb, hml, hown, hts⟩ (sX12_bits l D T y24_l2) (va_cwS 1 hts gX12_odd_X12_bits rfl rfl rfl (by decide +kernel) ⟨Nat.le_of_ble_eq_true rfl, Nat.le_of_ble_eq_true rfl⟩) (hp_preS hG hw trivial) rfl rfl hl.1 rfl (lv_room (Nat.le_of_ble_eq_true rfl)) dX12_odd_41 ⟨Nat.zero_le _, Nat.zero_le _⟩) (fun x41 bx41 => ?_)
              refine lv_icmp_lt (tgt := 50) hx hb dX12_odd_44 (by decide) (fun c44 => ?_) (fun c44 => ?_)
              · have r44tp : iv x37 (-2147483648) 2147483646 := (iv_lt_l c44 (iv_any x37) (iv_any x41)).mono (by decide) (by decide)
                have r44tq : iv x41 (-2147483647) 2147483647 := (iv_lt_r c44 (iv_any x37) (iv_any x41)).mono (by decide) (by decide)
                exact J50 c24_xp1 (r33fq.mono (by decide) (by decide)) r29fp H24 locs24 hw _ (lv_sub hl [0, 1, 2, 3] rfl)
              · refine lv_goto (tgt := 75) hx hb dX12_odd_47 (by decide) ?_
                exact J75 y24_l2 c24_xp1 (r33fq.mono (by decide) (by decide)) r29fp H24 locs24 hw _ (lv_sub hl [0, 1, 2, 3] rfl)
      exact J24 _ ((-2) : Int32) (0 : Int32) (Nat.lt_succ_self _) r14tpz (show iv (-2) (-2) 1023 from ⟨by decide, by decide⟩) (show iv 0 0 1024 from ⟨by decide, by decide⟩) s.heap [] hw _ (lv_sub hl [2, 3, 1, 0] rfl)
    · have r14fp : iv x11 0 0 := (iv_both bx11 (iv_eq (show iv 0 0 0 from ⟨by decide, by decide⟩) c14)).mono (by decide) (by decide)
      exact J17 s.heap [] hw _ (lv_sub hl [] rfl)
