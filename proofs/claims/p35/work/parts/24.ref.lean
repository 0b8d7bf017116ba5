abbrev WX12_shakeOf (p : Program) (l : Launch) (e : Env) (s : State) (m : MethodId) (below : List Frame) (meth : Method) (c : Code) (D : hp_D) (T : hp_T) (ap0 : Nat) (xp1 : Int32) (xp2 : Int32) (xp3 : Int32) (xp4 : Int32) (H : Heap) (locs : List Loc) (g : JFrame) : Prop := W p l e (headSpec wsX12_shakeOf ({ frames := 3, cells := 0, slots := 0, locals := 70 })).room s m ([.ref ap0, .int xp1, .int xp2, .int xp3, .int xp4] : List Value).toArray below meth c H locs 0 0 (MQ below (hq_e D T (fun v st t => ∃ r : Int32, v = some (.int r) ∧ ((True) ∧ hp_km D [(12, 18)] st.heap t.heap))) ([.ref ap0, .int xp1, .int xp2, .int xp3, .int xp4] : List Value).toArray s 0 0 (hp_F T)) g
set_option maxHeartbeats 4000000 in
set_option maxRecDepth 100000 in
theorem sX12_shakeOf (l : Launch) (D : hp_D) (T : hp_T) (ap0 : Nat) (xp1 : Int32) (xp2 : Int32) (xp3 : Int32) (xp4 : Int32) (Gm : moG) (ip0 : isMo T ap0 Gm) (bp1 : iv xp1 0 9) (bp2 : iv xp2 0 9) (bp3 : iv xp3 0 11) : Met l yX12_shakeOf wsX12_shakeOf ({ frames := 3, cells := 0, slots := 0, locals := 70 }) (hp_Pc D T [.ref ap0, .int xp1, .int xp2, .int xp3, .int xp4] (fun _ => True)) (hq_e D T (fun v st t => ∃ r : Int32, v = some (.int r) ∧ ((True) ∧ hp_km D [(12, 18)] st.heap t.heap))) 0 0 (hp_F T) := by
  obtain ⟨ap0tape, ap0sign, ap0len, ap0clause, ap0clauses, ap0read, ap0opn, ap0stack, ap0word, ap0said, ap0was, ap0fitting, ap0sums, ap0sort, ap0sumsBy, ap0oneOf, ap0otherOf, ap0kept, ap0images, ap0acts, ap0iUnd, ap0iFor, ap0iX, ap0made, gok, hp0, hp0tape, hp0sign, hp0len, hp0clause, hp0clauses, hp0read, hp0opn, hp0stack, hp0word, hp0said, hp0was, hp0fitting, hp0sums, hp0sort, hp0sumsBy, hp0oneOf, hp0otherOf, hp0kept, hp0images, hp0acts, hp0iUnd, hp0iFor, hp0iX, hp0made⟩ := id ip0
  have hpx := gok.1
  have gsok := gok.2.2.2.2
  have ggd := gok.2.2.2.1
  refine Met.ofW (cc := cX12_shakeOf) (maxL := 11) (ret := (some .int)) (by decide) rfl ?_
  intro p e s m args below meth c s₁ B hml hv
  obtain ⟨rfl, hok, hG, hB⟩ := hv
  have hx := B.exec
  have hb := B.bytes
  have hr := B.returns
  have hts := atoms_spec (ws := wsX12_shakeOf) B.pre
  have hown : s.vm.findClass RX12 = some m.cls := findClass_of_methodNamed B.named
  have hlocks := B.notSynchronized
  have hK := hG.1
  have hw : hp_w D T s s.heap [] := hp_w.rf hok
  have IX12 : ∀ w ∈ wsX120, w ∈ wsX12_shakeOf := by decide +kernel
  have L42 := hts (.fieldLink RX12 42 "PalmCensusModel" "force" "I") (by decide +kernel)
  have L36 := hts (.fieldLink RX12 36 "PalmCensusModel" "word" "[J") (by decide +kernel)
  have L39 := hts (.fieldLink RX12 39 "PalmCensusModel" "said" "[I") (by decide +kernel)
  have L23 := hts (.fieldLink RX12 23 "PalmCensusModel" "clauses" "[I") (by decide +kernel)
  have L20 := hts (.fieldLink RX12 20 "PalmCensusModel" "clause" "[I") (by decide +kernel)
  have K319 := hts (.constantLong RX12 319 (-999)) (by decide +kernel)
  have K321 := hts (.constantLong RX12 321 999) (by decide +kernel)
  have hkm : hp_km D [(12, 18)] s.heap s.heap := fun _ _ _ _ h _ => h
  have hl := lv_entry ([.ref ap0, .int xp1, .int xp2, .int xp3, .int xp4]) (n := 11) (Nat.le_of_ble_eq_true rfl)
  rw [lg_entry_eq]
  generalize (lg_sl ([.ref ap0, .int xp1, .int xp2, .int xp3, .int xp4]) ++ List.replicate (11 - (lg_sl ([.ref ap0, .int xp1, .int xp2, .int xp3, .int xp4])).length) Slot.unset).toArray = ls at hl ⊢
  have hl : lv_has ls 11 [(0, .ref ap0), (1, .int xp1), (2, .int xp2), (3, .int xp3), (4, .int xp4)] := hl
  show WX12_shakeOf p l e s m below meth c D T ap0 xp1 xp2 xp3 xp4 s.heap [] (F0 m 0 ls [])
  obtain ⟨x9000op0_21, bx9000op0_21, fx9000op0_21⟩ := hp_opI hw.1 hp0 21 rfl
  refine lv_aload_n hx hb dX12_shakeOf_0 rfl (lv_at hl 0 rfl) ?_
  refine lv_iload_n hx hb dX12_shakeOf_1 rfl (lv_at hl 1 rfl) ?_
  refine lv_iload_n hx hb dX12_shakeOf_2 rfl (lv_at hl 2 rfl) ?_
  refine lv_iload_n hx hb dX12_shakeOf_3 rfl (lv_at hl 3 rfl) ?_
  refine hp_callpi (va_runV (As := [.int xp1, .int xp2, .int xp3]) (rest := []) ⟨hx, hb, hml, hown, hts⟩ (sX12_metAhead l D T ap0 xp1 xp2 xp3 Gm ip0 bp1 bp2 bp3) (cwV 3 hts gX12_shakeOf_X12_metAhead rfl rfl rfl (by decide +kernel) ⟨Nat.le_of_ble_eq_true rfl, Nat.le_of_ble_eq_true rfl⟩) (hp_preV hG hw hp0 rfl trivial) rfl rfl hl.1 rfl (lv_room (Nat.le_of_ble_eq_true rfl)) dX12_shakeOf_4 ⟨Nat.zero_le _, Nat.zero_le _⟩) (fun x4 bx4 => ?_)
  refine lv_istore (lv' := [(5, .int x4), (0, .ref ap0), (1, .int xp1), (2, .int xp2), (3, .int xp3), (4, .int xp4)]) hx hb dX12_shakeOf_7 hl (by decide) rfl (fun ls hl => ?_)
  refine lv_aload_n hx hb dX12_shakeOf_9 rfl (lv_at hl 1 rfl) ?_
  refine lv_iload_n hx hb dX12_shakeOf_10 rfl (lv_at hl 2 rfl) ?_
  refine lv_iconst (v := 3) hx hb dX12_shakeOf_11 (by decide) ?_
  refine hp_callpi (va_runV (As := [.int xp1, .int 3]) (rest := []) ⟨hx, hb, hml, hown, hts⟩ (sX12_personOf l D T ap0 xp1 (3 : Int32) Gm ip0 bp1 (show iv 3 0 3 from ⟨by decide, by decide⟩)) (cwV 2 hts gX12_shakeOf_X12_personOf rfl rfl rfl (by decide +kernel) ⟨Nat.le_of_ble_eq_true rfl, Nat.le_of_ble_eq_true rfl⟩) (hp_preV hG hw hp0 rfl trivial) rfl rfl hl.1 rfl (lv_room (Nat.le_of_ble_eq_true rfl)) dX12_shakeOf_12 ⟨Nat.zero_le _, Nat.zero_le _⟩) (fun x12 bx12 => ?_)
  refine lv_iload_n hx hb dX12_shakeOf_15 rfl (lv_at hl 3 rfl) ?_
  refine hp_callpi (va_runS (As := [.int x12, .int xp2]) (rest := []) ⟨hx, hb, hml, hown, hts⟩ (sX12_isOf l D T x12 xp2) (va_cwS 2 hts gX12_shakeOf_X12_isOf rfl rfl rfl (by decide +kernel) ⟨Nat.le_of_ble_eq_true rfl, Nat.le_of_ble_eq_true rfl⟩) (hp_preS hG hw trivial) rfl rfl hl.1 rfl (lv_room (Nat.le_of_ble_eq_true rfl)) dX12_shakeOf_16 ⟨Nat.zero_le _, Nat.zero_le _⟩) (fun x16 bx16 => ?_)
  refine lv_istore (lv' := [(6, .int x16), (5, .int x4), (0, .ref ap0), (1, .int xp1), (2, .int xp2), (3, .int xp3), (4, .int xp4)]) hx hb dX12_shakeOf_19 hl (by decide) rfl (fun ls hl => ?_)
  refine lv_aload_n hx hb dX12_shakeOf_21 rfl (lv_at hl 2 rfl) ?_
  refine hp_getf hx hb hts IX12 hown hK fx9000op0_21 rfl (by decide) L42 dX12_shakeOf_22 ?_
  refine lv_if_ge (tgt := 60) hx hb dX12_shakeOf_25 (by decide) (fun c25 => ?_) (fun c25 => ?_)
  · have r25tq : iv x9000op0_21 0 5 := (iv_le_r c25 (show iv 0 0 0 from ⟨by decide, by decide⟩) bx9000op0_21).mono (by decide) (by decide)
    refine lv_aload_n hx hb dX12_shakeOf_60 rfl (lv_at hl 2 rfl) ?_
    refine hp_getr hx hb hts IX12 hown hK hw.1 hp0 rfl 19 (by decide) L36 rfl dX12_shakeOf_61 ?_
    refine lv_iconst (v := 0) hx hb dX12_shakeOf_64 (by decide) ?_
    refine lv_iload_n hx hb dX12_shakeOf_65 rfl (lv_at hl 3 rfl) ?_
    obtain ⟨x66, ex66⟩ : ∃ y : Int64, xp1.toInt64 = y := ⟨_, rfl⟩
    refine lv_i2l (v := x66) hx hb dX12_shakeOf_66 ex66 ?_
    refine hp_lastA hx hb hK hw hp0word (vp_iv (show iv 0 0 0 from ⟨by decide, by decide⟩) (by decide)) dX12_shakeOf_67 (fun H67 locs67 hw g67 => ?_)
    have hkm := hkm.ar g67
    have f_p0_21 := g67 _ _ _ _ fx9000op0_21
    refine lv_aload_n hx hb dX12_shakeOf_68 rfl (lv_at hl 2 rfl) ?_
    refine hp_getr hx hb hts IX12 hown hK hw.1 hp0 rfl 19 (by decide) L36 rfl dX12_shakeOf_69 ?_
    refine lv_iconst (v := 1) hx hb dX12_shakeOf_72 (by decide) ?_
    refine lv_iload_n hx hb dX12_shakeOf_73 rfl (lv_at hl 4 rfl) ?_
    obtain ⟨x74, ex74⟩ : ∃ y : Int64, xp2.toInt64 = y := ⟨_, rfl⟩
    refine lv_i2l (v := x74) hx hb dX12_shakeOf_74 ex74 ?_
    refine hp_lastA hx hb hK hw hp0word (vp_iv (show iv 1 1 1 from ⟨by decide, by decide⟩) (by decide)) dX12_shakeOf_75 (fun H75 locs75 hw g75 => ?_)
    have hkm := hkm.ar g75
    have f_p0_21 := g75 _ _ _ _ f_p0_21
    refine lv_aload_n hx hb dX12_shakeOf_76 rfl (lv_at hl 2 rfl) ?_
    refine hp_getr hx hb hts IX12 hown hK hw.1 hp0 rfl 19 (by decide) L36 rfl dX12_shakeOf_77 ?_
    refine lv_iconst (v := 2) hx hb dX12_shakeOf_80 (by decide) ?_
    refine lv_aload_n hx hb dX12_shakeOf_81 rfl (lv_at hl 2 rfl) ?_
    refine lv_iload_n hx hb dX12_shakeOf_82 rfl (lv_at hl 3 rfl) ?_
    refine lv_iload_n hx hb dX12_shakeOf_83 rfl (lv_at hl 5 rfl) ?_
    refine hp_callpi (va_runV (As := [.int xp1, .int xp3]) (rest := [.int 2, .ref ap0word]) ⟨hx, hb, hml, hown, hts⟩ (sX12_placeOf l D T ap0 xp1 xp3 Gm ip0 bp1 bp3) (cwV 2 hts gX12_shakeOf_X12_placeOf rfl rfl rfl (by decide +kernel) ⟨Nat.le_of_ble_eq_true rfl, Nat.le_of_ble_eq_true rfl⟩) (hp_preV hG hw hp0 rfl trivial) rfl rfl hl.1 rfl (lv_room (Nat.le_of_ble_eq_true rfl)) dX12_shakeOf_84 ⟨Nat.zero_le _, Nat.zero_le _⟩) (fun x84 bx84 => ?_)
    obtain ⟨x87, ex87⟩ : ∃ y : Int64, x84.toInt64 = y := ⟨_, rfl⟩
    refine lv_i2l (v := x87) hx hb dX12_shakeOf_87 ex87 ?_
    refine hp_lastA hx hb hK hw hp0word (vp_iv (show iv 2 2 2 from ⟨by decide, by decide⟩) (by decide)) dX12_shakeOf_88 (fun H88 locs88 hw g88 => ?_)
    have hkm := hkm.ar g88
    have f_p0_21 := g88 _ _ _ _ f_p0_21
    refine lv_aload_n hx hb dX12_shakeOf_89 rfl (lv_at hl 2 rfl) ?_
    refine hp_getr hx hb hts IX12 hown hK hw.1 hp0 rfl 19 (by decide) L36 rfl dX12_shakeOf_90 ?_
    refine lv_iconst (v := 3) hx hb dX12_shakeOf_93 (by decide) ?_
    refine lv_iload_n hx hb dX12_shakeOf_94 rfl (lv_at hl 5 rfl) ?_
    obtain ⟨x95, ex95⟩ : ∃ y : Int64, xp3.toInt64 = y := ⟨_, rfl⟩
    refine lv_i2l (v := x95) hx hb dX12_shakeOf_95 ex95 ?_
    refine hp_lastA hx hb hK hw hp0word (vp_iv (show iv 3 3 3 from ⟨by decide, by decide⟩) (by decide)) dX12_shakeOf_96 (fun H96 locs96 hw g96 => ?_)
    have hkm := hkm.ar g96
    have f_p0_21 := g96 _ _ _ _ f_p0_21
    refine lv_aload_n hx hb dX12_shakeOf_97 rfl (lv_at hl 2 rfl) ?_
    refine hp_getr hx hb hts IX12 hown hK hw.1 hp0 rfl 19 (by decide) L36 rfl dX12_shakeOf_98 ?_
    refine lv_iconst (v := 4) hx hb dX12_shakeOf_101 (by decide) ?_
    refine lv_aload_n hx hb dX12_shakeOf_102 rfl (lv_at hl 2 rfl) ?_
    refine hp_getr hx hb hts IX12 hown hK hw.1 hp0 rfl 20 (by decide) L39 rfl dX12_shakeOf_103 ?_
    refine lv_iconst (v := 3) hx hb dX12_shakeOf_106 (by decide) ?_
    refine hp_iald hx hb hK hw.1 hp0said (vp_iv (show iv 3 3 3 from ⟨by decide, by decide⟩) (by decide)) dX12_shakeOf_107 (fun v107 hr107 => ?_)
    have h107 := gsok _ _ hr107
    obtain ⟨x107, rfl⟩ := sP_any h107
    obtain ⟨x108, ex108⟩ : ∃ y : Int64, x107.toInt64 = y := ⟨_, rfl⟩
    refine lv_i2l (v := x108) hx hb dX12_shakeOf_108 ex108 ?_
    refine hp_lastA hx hb hK hw hp0word (vp_iv (show iv 4 4 4 from ⟨by decide, by decide⟩) (by decide)) dX12_shakeOf_109 (fun H109 locs109 hw g109 => ?_)
    have hkm := hkm.ar g109
    have f_p0_21 := g109 _ _ _ _ f_p0_21
    refine lv_aload_n hx hb dX12_shakeOf_110 rfl (lv_at hl 2 rfl) ?_
    refine hp_getr hx hb hts IX12 hown hK hw.1 hp0 rfl 19 (by decide) L36 rfl dX12_shakeOf_111 ?_
    refine lv_iconst (v := 5) hx hb dX12_shakeOf_114 (by decide) ?_
    refine lv_iload hx hb dX12_shakeOf_115 (lv_at hl 1 rfl) ?_
    obtain ⟨x117, ex117⟩ : ∃ y : Int64, x4.toInt64 = y := ⟨_, rfl⟩
    refine lv_i2l (v := x117) hx hb dX12_shakeOf_117 ex117 ?_
    refine hp_lastA hx hb hK hw hp0word (vp_iv (show iv 5 5 5 from ⟨by decide, by decide⟩) (by decide)) dX12_shakeOf_118 (fun H118 locs118 hw g118 => ?_)
    have hkm := hkm.ar g118
    have f_p0_21 := g118 _ _ _ _ f_p0_21
    refine lv_aload_n hx hb dX12_shakeOf_119 rfl (lv_at hl 2 rfl) ?_
    refine hp_getr hx hb hts IX12 hown hK hw.1 hp0 rfl 19 (by decide) L36 rfl dX12_shakeOf_120 ?_
    refine lv_bipush (v := 6) hx hb dX12_shakeOf_123 (by decide) ?_
    refine lv_iload hx hb dX12_shakeOf_125 (lv_at hl 0 rfl) ?_
    have J135 : ∀ (y135_s2 : Int64), iv xp1 0 9 → iv xp2 0 9 → iv x9000op0_21 0 5 → ∀ (H : Heap) (locs : List Loc), hp_w D T s H locs → hp_km D [(12, 18)] s.heap H → hp_f D H ap0 12 21 (.int x9000op0_21) → ∀ (ls : Array Slot), lv_has ls 11 [(0, .ref ap0), (1, .int xp1), (2, .int xp2), (4, .int xp4)] → WX12_shakeOf p l e s m below meth c D T ap0 xp1 xp2 xp3 xp4 H locs (F0 m 135 ls [.long y135_s2, .int 6, .ref ap0word]) := by
      intro y135_s2 c135_xp1 c135_xp2 c135_x9000op0_21 H135 locs135 hw hkm f_p0_21 ls hl
      refine hp_lastA hx hb hK hw hp0word (vp_iv (show iv 6 6 6 from ⟨by decide, by decide⟩) (by decide)) dX12_shakeOf_135 (fun H135 locs135 hw g135 => ?_)
      have hkm := hkm.ar g135
      have f_p0_21 := g135 _ _ _ _ f_p0_21
      refine lv_iconst (v := 0) hx hb dX12_shakeOf_136 (by decide) ?_
      refine lv_istore (lv' := [(7, .int 0), (0, .ref ap0), (1, .int xp1), (2, .int xp2), (4, .int xp4)]) hx hb dX12_shakeOf_137 hl (by decide) rfl (fun ls hl => ?_)
      have J139 : ∀ (n : Nat) (y139_l7 y139_fp0_21 : Int32), (3 - y139_l7.toInt).toNat < n → iv xp1 0 9 → iv xp2 0 9 → iv y139_l7 0 3 → iv y139_fp0_21 0 5 → ∀ (H : Heap) (locs : List Loc), hp_w D T s H locs → hp_km D [(12, 18)] s.heap H → hp_f D H ap0 12 21 (.int y139_fp0_21) → ∀ (ls : Array Slot), lv_has ls 11 [(0, .ref ap0), (1, .int xp1), (2, .int xp2), (4, .int xp4), (7, .int y139_l7)] → WX12_shakeOf p l e s m below meth c D T ap0 xp1 xp2 xp3 xp4 H locs (F0 m 139 ls []) := by
        intro n
        induction n with
        | zero => intro y139_l7 y139_fp0_21 hmu139 c139_xp1 c139_xp2 c139_y139_l7 c139_y139_fp0_21 H139 locs139 hw hkm f_p0_21 ls hl; exact absurd hmu139 (Nat.not_lt_zero _)
        | succ n ih139 =>
          intro y139_l7 y139_fp0_21 hmu139 c139_xp1 c139_xp2 c139_y139_l7 c139_y139_fp0_21 H139 locs139 hw hkm f_p0_21 ls hl
          refine lv_iload hx hb dX12_shakeOf_139 (lv_at hl 4 rfl) ?_
          refine lv_iconst (v := 3) hx hb dX12_shakeOf_141 (by decide) ?_
          refine lv_icmp_ge (tgt := 177) hx hb dX12_shakeOf_142 (by decide) (fun c142 => ?_) (fun c142 => ?_)
          · have r142tq : iv y139_l7 3 3 := (iv_le_r c142 (show iv 3 3 3 from ⟨by decide, by decide⟩) c139_y139_l7).mono (by decide) (by decide)
            refine lv_aload_n hx hb dX12_shakeOf_177 rfl (lv_at hl 0 rfl) ?_
            refine hp_getr hx hb hts IX12 hown hK hw.1 hp0 rfl 19 (by decide) L36 rfl dX12_shakeOf_178 ?_
            refine lv_bipush (v := 10) hx hb dX12_shakeOf_181 (by decide) ?_
            refine lv_iload hx hb dX12_shakeOf_183 (lv_at hl 3 rfl) ?_
            obtain ⟨x185, ex185⟩ : ∃ y : Int64, xp4.toInt64 = y := ⟨_, rfl⟩
            refine lv_i2l (v := x185) hx hb dX12_shakeOf_185 ex185 ?_
            refine hp_lastA hx hb hK hw hp0word (vp_iv (show iv 10 10 10 from ⟨by decide, by decide⟩) (by decide)) dX12_shakeOf_186 (fun H186 locs186 hw g186 => ?_)
            have hkm := hkm.ar g186
            have f_p0_21 := g186 _ _ _ _ f_p0_21
            refine lv_iconst (v := 0) hx hb dX12_shakeOf_187 (by decide) ?_
            refine lv_istore (lv' := [(7, .int 0), (0, .ref ap0), (1, .int xp1), (2, .int xp2), (4, .int xp4)]) hx hb dX12_shakeOf_188 hl (by decide) rfl (fun ls hl => ?_)
            have J190 : ∀ (n : Nat) (y190_l7 y190_fp0_21 : Int32), (12 - y190_l7.toInt).toNat < n → iv y190_l7 0 12 → iv y190_fp0_21 0 5 → ∀ (H : Heap) (locs : List Loc), hp_w D T s H locs → hp_km D [(12, 18)] s.heap H → hp_f D H ap0 12 21 (.int y190_fp0_21) → ∀ (ls : Array Slot), lv_has ls 11 [(0, .ref ap0), (7, .int y190_l7)] → WX12_shakeOf p l e s m below meth c D T ap0 xp1 xp2 xp3 xp4 H locs (F0 m 190 ls []) := by
              intro n
              induction n with
              | zero => intro y190_l7 y190_fp0_21 hmu190 c190_y190_l7 c190_y190_fp0_21 H190 locs190 hw hkm f_p0_21 ls hl; exact absurd hmu190 (Nat.not_lt_zero _)
              | succ n ih190 =>
                intro y190_l7 y190_fp0_21 hmu190 c190_y190_l7 c190_y190_fp0_21 H190 locs190 hw hkm f_p0_21 ls hl
                refine lv_iload hx hb dX12_shakeOf_190 (lv_at hl 1 rfl) ?_
                refine lv_aload_n hx hb dX12_shakeOf_192 rfl (lv_at hl 0 rfl) ?_
                refine hp_getr hx hb hts IX12 hown hK hw.1 hp0 rfl 6 (by decide) L23 rfl dX12_shakeOf_193 ?_
                refine lv_aload_n hx hb dX12_shakeOf_196 rfl (lv_at hl 0 rfl) ?_
                refine hp_getf hx hb hts IX12 hown hK f_p0_21 rfl (by decide) L42 dX12_shakeOf_197 ?_
                refine hp_iald hx hb hK hw.1 hp0clauses (vp_iv c190_y190_fp0_21 (by decide)) dX12_shakeOf_200 (fun v200 h200 => ?_)
                obtain ⟨x200, ex200, rfl⟩ : ∃ y : Int32, y = gC Gm (y190_fp0_21).toNatClampNeg ∧ v200 = .int y := ⟨_, rfl, h200⟩
                have bx200 : iv x200 0 12 := by rw [ex200]; exact (ggd _ (iv_ltn c190_y190_fp0_21 (by decide))).1
                refine lv_icmp_ge (tgt := 330) hx hb dX12_shakeOf_201 (by decide) (fun c201 => ?_) (fun c201 => ?_)
                · refine lv_iconst (v := 0) hx hb dX12_shakeOf_330 (by decide) ?_
                  exact W.iret (v := 0) hx hb hr (fun t ht hW => ⟨some (.int 0), rfl, ⟨(0 : Int32), rfl, ⟨trivial, by rw [ht]; exact hkm⟩⟩, by rw [ht]; exact hw.1, hw.2.F ht⟩) hw.2.2.2 dX12_shakeOf_331
                · have r201fp : iv y190_l7 0 11 := (iv_lt_l (iv_nle c201) c190_y190_l7 bx200).mono (by decide) (by decide)
                  have r201fq : iv x200 1 12 := (iv_lt_r (iv_nle c201) c190_y190_l7 bx200).mono (by decide) (by decide)
                  have oC : 0 ≤ y190_l7.toInt ∧ y190_l7.toInt ≤ 11 := r201fp
                  have hg := (ggd y190_fp0_21.toNatClampNeg (iv_ltn c190_y190_fp0_21 (by decide))).2 y190_l7.toInt.toNat (by rw [← ex200]; (have := (r201fp).1; have := (r201fp).2; have := (r201fq).1; have := (r201fq).2; have := (Int32.lt_iff_toInt_lt.mp (iv_nle c201)); omega))
                  refine lv_bipush (v := 48) hx hb dX12_shakeOf_204 (by decide) ?_
                  refine lv_aload_n hx hb dX12_shakeOf_206 rfl (lv_at hl 0 rfl) ?_
                  refine hp_getf hx hb hts IX12 hown hK f_p0_21 rfl (by decide) L42 dX12_shakeOf_207 ?_
                  refine lv_imul hx hb dX12_shakeOf_210 ?_
                  refine lv_topi (fun x210 ex210 => ?_)
                  have bx210 : iv x210 0 240 := iv_mul (show iv 48 48 48 from ⟨by decide, by decide⟩) c190_y190_fp0_21 ex210 (by decide)
                  refine lv_iconst (v := 4) hx hb dX12_shakeOf_211 (by decide) ?_
                  refine lv_iload hx hb dX12_shakeOf_212 (lv_at hl 1 rfl) ?_
                  refine lv_imul hx hb dX12_shakeOf_214 ?_
                  refine lv_topi (fun x214 ex214 => ?_)
                  have bx214 : iv x214 0 44 := iv_mul (show iv 4 4 4 from ⟨by decide, by decide⟩) r201fp ex214 (by decide)
                  refine lv_iadd hx hb dX12_shakeOf_215 ?_
                  refine lv_topi (fun x215 ex215 => ?_)
                  have bx215 : iv x215 0 284 := iv_add bx210 bx214 ex215 (by decide)
                  have qx215 := iv_add_eq bx210 bx214 ex215 (by decide)
                  refine lv_istore (lv' := [(8, .int x215), (0, .ref ap0), (7, .int y190_l7)]) hx hb dX12_shakeOf_216 hl (by decide) rfl (fun ls hl => ?_)
                  have h48 := iv_at48 ex210 ex214 ex215 c190_y190_fp0_21 r201fp
                  have f48 : y190_fp0_21.toNatClampNeg = y190_fp0_21.toInt.toNat := rfl
                  refine lv_aload_n hx hb dX12_shakeOf_218 rfl (lv_at hl 1 rfl) ?_
                  refine hp_getr hx hb hts IX12 hown hK hw.1 hp0 rfl 5 (by decide) L20 rfl dX12_shakeOf_219 ?_
                  refine lv_iload hx hb dX12_shakeOf_222 (lv_at hl 0 rfl) ?_
                  refine lv_iconst (v := 2) hx hb dX12_shakeOf_224 (by decide) ?_
                  refine lv_iadd hx hb dX12_shakeOf_225 ?_
                  refine lv_topi (fun x225 ex225 => ?_)
                  have bx225 : iv x225 2 286 := iv_add bx215 (show iv 2 2 2 from ⟨by decide, by decide⟩) ex225 (by decide)
                  have qx225 := iv_add_eq bx215 (show iv 2 2 2 from ⟨by decide, by decide⟩) ex225 (by decide)
                  refine hp_iald hx hb hK hw.1 hp0clause (vp_iv bx225 (by decide)) dX12_shakeOf_226 (fun v226 h226 => ?_)
                  obtain ⟨x226, ex226, rfl⟩ : ∃ y : Int32, y = gK Gm (x225).toNatClampNeg ∧ v226 = .int y := ⟨_, rfl, h226⟩
                  have nx226 : x226 = gK Gm (48 * y190_fp0_21.toNatClampNeg + 4 * y190_l7.toInt.toNat + 2) := by rw [ex226, show (x225).toNatClampNeg = 48 * y190_fp0_21.toNatClampNeg + 4 * y190_l7.toInt.toNat + 2 from (by show (x225).toInt.toNat = _; have := (c190_y190_fp0_21).1; have := (c190_y190_fp0_21).2; have := (r201fp).1; have := (r201fp).2; have := (bx225).1; have := (bx225).2; have := (r201fq).1; have := (r201fq).2; have := (bx215).1; have := (bx215).2; have := (bx210).1; have := (bx210).2; have := (bx214).1; have := (bx214).2; have := (Int32.lt_iff_toInt_lt.mp (iv_nle c201)); have : (2 : Int32).toInt = 2 := (by decide); omega)]
                  have J264 : iv x215 0 284 → iv y190_fp0_21 0 5 → ∀ (H : Heap) (locs : List Loc), hp_w D T s H locs → hp_km D [(12, 18)] s.heap H → hp_f D H ap0 12 21 (.int y190_fp0_21) → ∀ (ls : Array Slot), lv_has ls 11 [(0, .ref ap0), (8, .int x215)] → WX12_shakeOf p l e s m below meth c D T ap0 xp1 xp2 xp3 xp4 H locs (F0 m 264 ls []) := by
                    intro c264_x215 c264_y190_fp0_21 H264 locs264 hw hkm f_p0_21 ls hl
                    refine lv_aload_n hx hb dX12_shakeOf_264 rfl (lv_at hl 0 rfl) ?_
                    refine lv_aload_n hx hb dX12_shakeOf_265 rfl (lv_at hl 0 rfl) ?_
                    refine hp_getf hx hb hts IX12 hown hK f_p0_21 rfl (by decide) L42 dX12_shakeOf_266 ?_
                    refine lv_aload_n hx hb dX12_shakeOf_269 rfl (lv_at hl 0 rfl) ?_
                    refine hp_getr hx hb hts IX12 hown hK hw.1 hp0 rfl 5 (by decide) L20 rfl dX12_shakeOf_270 ?_
                    refine lv_iload hx hb dX12_shakeOf_273 (lv_at hl 1 rfl) ?_
                    refine hp_iald hx hb hK hw.1 hp0clause (vp_iv c264_x215 (by decide)) dX12_shakeOf_275 (fun v275 h275 => ?_)
                    obtain ⟨x275, ex275, rfl⟩ : ∃ y : Int32, y = gK Gm (x215).toNatClampNeg ∧ v275 = .int y := ⟨_, rfl, h275⟩
                    have nx275 : x275 = gK Gm (48 * y190_fp0_21.toNatClampNeg + 4 * y190_l7.toInt.toNat + 0) := by rw [ex275, show (x215).toNatClampNeg = 48 * y190_fp0_21.toNatClampNeg + 4 * y190_l7.toInt.toNat + 0 from (by show (x215).toInt.toNat = _; have := (c264_y190_fp0_21).1; have := (c264_y190_fp0_21).2; have := (c264_x215).1; have := (c264_x215).2; omega)]
                    refine lv_aload_n hx hb dX12_shakeOf_276 rfl (lv_at hl 0 rfl) ?_
                    refine hp_getr hx hb hts IX12 hown hK hw.1 hp0 rfl 5 (by decide) L20 rfl dX12_shakeOf_277 ?_
                    refine lv_iload hx hb dX12_shakeOf_280 (lv_at hl 1 rfl) ?_
                    refine lv_iconst (v := 1) hx hb dX12_shakeOf_282 (by decide) ?_
                    refine lv_iadd hx hb dX12_shakeOf_283 ?_
                    refine lv_topi (fun x283 ex283 => ?_)
                    have bx283 : iv x283 1 285 := iv_add c264_x215 (show iv 1 1 1 from ⟨by decide, by decide⟩) ex283 (by decide)
                    have qx283 := iv_add_eq c264_x215 (show iv 1 1 1 from ⟨by decide, by decide⟩) ex283 (by decide)
                    refine hp_iald hx hb hK hw.1 hp0clause (vp_iv bx283 (by decide)) dX12_shakeOf_284 (fun v284 h284 => ?_)
                    obtain ⟨x284, ex284, rfl⟩ : ∃ y : Int32, y = gK Gm (x283).toNatClampNeg ∧ v284 = .int y := ⟨_, rfl, h284⟩
                    have nx284 : x284 = gK Gm (48 * y190_fp0_21.toNatClampNeg + 4 * y190_l7.toInt.toNat + 1) := by rw [ex284, show (x283).toNatClampNeg = 48 * y190_fp0_21.toNatClampNeg + 4 * y190_l7.toInt.toNat + 1 from (by show (x283).toInt.toNat = _; have := (c264_y190_fp0_21).1; have := (c264_y190_fp0_21).2; have := (bx283).1; have := (bx283).2; have := (c264_x215).1; have := (c264_x215).2; have : (1 : Int32).toInt = 1 := (by decide); omega)]
                    have g275 : c_g (gS Gm) y190_fp0_21.toInt.toNat x275 x284 := by rw [nx275, nx284]; exact hg.1
                    refine hp_callel (va_runV (As := [.int y190_fp0_21, .int x275, .int x284]) (rest := []) ⟨hx, hb, hml, hown, hts⟩ (sX12_reckons l D T ap0 y190_fp0_21 x275 x284 Gm ip0 g275 c264_y190_fp0_21 g275.1 g275.2.1) (cwV 3 hts gX12_shakeOf_X12_reckons rfl rfl rfl (by decide +kernel) ⟨Nat.le_of_ble_eq_true rfl, Nat.le_of_ble_eq_true rfl⟩) (hp_preV hG hw hp0 rfl trivial) rfl rfl hl.1 rfl (lv_room (Nat.le_of_ble_eq_true rfl)) dX12_shakeOf_285 ⟨Nat.zero_le _, Nat.zero_le _⟩) hw (fun x285 st285 t285 H285 locs285 eh285 eg285 bx285 hw => ?_)
                    obtain ⟨bx285, g285⟩ := bx285
                    rw [eh285, eg285] at g285
                    have hkm := hkm.call g285 (by decide)
                    have f_p0_21 := g285 _ _ _ _ f_p0_21 (by decide)
                    refine lv_lstore (lv' := [(9, .long x285), (0, .ref ap0), (8, .int x215)]) hx hb dX12_shakeOf_288 hl (by decide) rfl (fun ls hl => ?_)
                    refine lv_lload hx hb dX12_shakeOf_290 (lv_at hl 0 rfl) ?_
                    refine lv_ldc2 (v := (-999)) hx hb hown K319 dX12_shakeOf_292 ?_
                    refine W.lcmp hx hb dX12_shakeOf_295 ?_
                    refine lv_topi (fun x295 ex295 => ?_)
                    have bx295 : iv x295 (-1) 1 := iv_lcmp ex295
                    have J323 : ∀ (y323_s0 : Int32), iv y190_fp0_21 0 5 → ∀ (H : Heap) (locs : List Loc), hp_w D T s H locs → hp_km D [(12, 18)] s.heap H → hp_f D H ap0 12 21 (.int y190_fp0_21) → ∀ (ls : Array Slot), lv_has ls 11 [] → WX12_shakeOf p l e s m below meth c D T ap0 xp1 xp2 xp3 xp4 H locs (F0 m 323 ls [.int y323_s0]) := by
                      intro y323_s0 c323_y190_fp0_21 H323 locs323 hw hkm f_p0_21 ls hl
                      exact W.iret (v := y323_s0) hx hb hr (fun t ht hW => ⟨some (.int y323_s0), rfl, ⟨y323_s0, rfl, ⟨trivial, by rw [ht]; exact hkm⟩⟩, by rw [ht]; exact hw.1, hw.2.F ht⟩) hw.2.2.2 dX12_shakeOf_323
                    refine lv_if_ge (tgt := 305) hx hb dX12_shakeOf_296 (by decide) (fun c296 => ?_) (fun c296 => ?_)
                    · have r296tq : iv x295 0 1 := (iv_le_r c296 (show iv 0 0 0 from ⟨by decide, by decide⟩) bx295).mono (by decide) (by decide)
                      refine lv_lload hx hb dX12_shakeOf_305 (lv_at hl 0 rfl) ?_
                      refine lv_ldc2 (v := 999) hx hb hown K321 dX12_shakeOf_307 ?_
                      refine W.lcmp hx hb dX12_shakeOf_310 ?_
                      refine lv_topi (fun x310 ex310 => ?_)
                      have bx310 : iv x310 (-1) 1 := iv_lcmp ex310
                      refine lv_if_le (tgt := 320) hx hb dX12_shakeOf_311 (by decide) (fun c311 => ?_) (fun c311 => ?_)
                      · have r311tp : iv x310 (-1) 0 := (iv_le_l c311 bx310 (show iv 0 0 0 from ⟨by decide, by decide⟩)).mono (by decide) (by decide)
                        refine lv_lload hx hb dX12_shakeOf_320 (lv_at hl 0 rfl) ?_
                        obtain ⟨x322, ex322⟩ : ∃ y : Int32, x285.toInt32 = y := ⟨_, rfl⟩
                        refine lv_l2i (v := x322) hx hb dX12_shakeOf_322 ex322 ?_
                        exact J323 x322 c264_y190_fp0_21 H285 locs285 hw hkm f_p0_21 _ (lv_sub hl [] rfl)
                      · have r311fq : iv x310 1 1 := (iv_lt_r (iv_nle c311) (show iv 0 0 0 from ⟨by decide, by decide⟩) bx310).mono (by decide) (by decide)
                        refine lv_sipush (v := 999) hx hb dX12_shakeOf_314 (by decide) ?_
                        refine lv_goto (tgt := 323) hx hb dX12_shakeOf_317 (by decide) ?_
                        exact J323 (999 : Int32) c264_y190_fp0_21 H285 locs285 hw hkm f_p0_21 _ (lv_sub hl [] rfl)
                    · have r296fp : iv x295 (-1) (-1) := (iv_lt_l (iv_nle c296) bx295 (show iv 0 0 0 from ⟨by decide, by decide⟩)).mono (by decide) (by decide)
                      refine lv_sipush (v := (-999)) hx hb dX12_shakeOf_299 (by decide) ?_
                      refine lv_goto (tgt := 323) hx hb dX12_shakeOf_302 (by decide) ?_
                      exact J323 ((-999) : Int32) c264_y190_fp0_21 H285 locs285 hw hkm f_p0_21 _ (lv_sub hl [] rfl)
                  refine lv_if_lt (tgt := 264) hx hb dX12_shakeOf_227 (by decide) (fun c227 => ?_) (fun c227 => ?_)
                  · have r227tp : iv x226 (-2147483648) (-1) := (iv_lt_l c227 (iv_any x226) (show iv 0 0 0 from ⟨by decide, by decide⟩)).mono (by decide) (by decide)
                    exact J264 bx215 c190_y190_fp0_21 H190 locs190 hw hkm f_p0_21 _ (lv_sub hl [1, 0] rfl)
                  · have r227fq : iv x226 0 2147483647 := (iv_le_r (iv_nlt c227) (show iv 0 0 0 from ⟨by decide, by decide⟩) (iv_any x226)).mono (by decide) (by decide)
                    refine lv_aload_n hx hb dX12_shakeOf_230 rfl (lv_at hl 1 rfl) ?_
                    refine lv_aload_n hx hb dX12_shakeOf_231 rfl (lv_at hl 1 rfl) ?_
                    refine hp_getf hx hb hts IX12 hown hK f_p0_21 rfl (by decide) L42 dX12_shakeOf_232 ?_
                    refine lv_aload_n hx hb dX12_shakeOf_235 rfl (lv_at hl 1 rfl) ?_
                    refine hp_getr hx hb hts IX12 hown hK hw.1 hp0 rfl 5 (by decide) L20 rfl dX12_shakeOf_236 ?_
                    refine lv_iload hx hb dX12_shakeOf_239 (lv_at hl 0 rfl) ?_
                    refine lv_iconst (v := 2) hx hb dX12_shakeOf_241 (by decide) ?_
                    refine lv_iadd hx hb dX12_shakeOf_242 ?_
                    refine lv_topi (fun x242 ex242 => ?_)
                    have bx242 : iv x242 2 286 := iv_add bx215 (show iv 2 2 2 from ⟨by decide, by decide⟩) ex242 (by decide)
                    have qx242 := iv_add_eq bx215 (show iv 2 2 2 from ⟨by decide, by decide⟩) ex242 (by decide)
                    refine hp_iald hx hb hK hw.1 hp0clause (vp_iv bx242 (by decide)) dX12_shakeOf_243 (fun v243 h243 => ?_)
                    obtain ⟨x243, ex243, rfl⟩ : ∃ y : Int32, y = gK Gm (x242).toNatClampNeg ∧ v243 = .int y := ⟨_, rfl, h243⟩
                    have nx243 : x243 = gK Gm (48 * y190_fp0_21.toNatClampNeg + 4 * y190_l7.toInt.toNat + 2) := by rw [ex243, show (x242).toNatClampNeg = 48 * y190_fp0_21.toNatClampNeg + 4 * y190_l7.toInt.toNat + 2 from (by show (x242).toInt.toNat = _; have := (c190_y190_fp0_21).1; have := (c190_y190_fp0_21).2; have := (r201fp).1; have := (r201fp).2; have := (bx242).1; have := (bx242).2; have := (r201fq).1; have := (r201fq).2; have := (r227fq).1; have := (r227fq).2; have := (bx215).1; have := (bx215).2; have := (bx210).1; have := (bx210).2; have := (bx214).1; have := (bx214).2; have := (Int32.lt_iff_toInt_lt.mp (iv_nle c201)); have := (Int32.le_iff_toInt_le.mp (iv_nlt c227)); have : (0 : Int32).toInt = 0 := (by decide); have : (2 : Int32).toInt = 2 := (by decide); omega)]
                    refine lv_aload_n hx hb dX12_shakeOf_244 rfl (lv_at hl 1 rfl) ?_
                    refine hp_getr hx hb hts IX12 hown hK hw.1 hp0 rfl 5 (by decide) L20 rfl dX12_shakeOf_245 ?_
                    refine lv_iload hx hb dX12_shakeOf_248 (lv_at hl 0 rfl) ?_
                    refine lv_iconst (v := 3) hx hb dX12_shakeOf_250 (by decide) ?_
                    refine lv_iadd hx hb dX12_shakeOf_251 ?_
                    refine lv_topi (fun x251 ex251 => ?_)
                    have bx251 : iv x251 3 287 := iv_add bx215 (show iv 3 3 3 from ⟨by decide, by decide⟩) ex251 (by decide)
                    have qx251 := iv_add_eq bx215 (show iv 3 3 3 from ⟨by decide, by decide⟩) ex251 (by decide)
                    refine hp_iald hx hb hK hw.1 hp0clause (vp_iv bx251 (by decide)) dX12_shakeOf_252 (fun v252 h252 => ?_)
                    obtain ⟨x252, ex252, rfl⟩ : ∃ y : Int32, y = gK Gm (x251).toNatClampNeg ∧ v252 = .int y := ⟨_, rfl, h252⟩
                    have nx252 : x252 = gK Gm (48 * y190_fp0_21.toNatClampNeg + 4 * y190_l7.toInt.toNat + 3) := by rw [ex252, show (x251).toNatClampNeg = 48 * y190_fp0_21.toNatClampNeg + 4 * y190_l7.toInt.toNat + 3 from (by show (x251).toInt.toNat = _; have := (c190_y190_fp0_21).1; have := (c190_y190_fp0_21).2; have := (r201fp).1; have := (r201fp).2; have := (bx251).1; have := (bx251).2; have := (r201fq).1; have := (r201fq).2; have := (r227fq).1; have := (r227fq).2; have := (bx215).1; have := (bx215).2; have := (bx210).1; have := (bx210).2; have := (bx214).1; have := (bx214).2; have := (Int32.lt_iff_toInt_lt.mp (iv_nle c201)); have := (Int32.le_iff_toInt_le.mp (iv_nlt c227)); have : (0 : Int32).toInt = 0 := (by decide); have : (3 : Int32).toInt = 3 := (by decide); omega)]
                    have g243 : c_g (gS Gm) y190_fp0_21.toInt.toNat x243 x252 := by rcases hg.2 with g9 | g9; (rw [← nx226] at g9; exact absurd g9 c227); (rw [nx243, nx252]; exact g9)
                    refine hp_callel (va_runV (As := [.int y190_fp0_21, .int x243, .int x252]) (rest := []) ⟨hx, hb, hml, hown, hts⟩ (sX12_reckons l D T ap0 y190_fp0_21 x243 x252 Gm ip0 g243 c190_y190_fp0_21 g243.1 g243.2.1) (cwV 3 hts gX12_shakeOf_X12_reckons rfl rfl rfl (by decide +kernel) ⟨Nat.le_of_ble_eq_true rfl, Nat.le_of_ble_eq_true rfl⟩) (hp_preV hG hw hp0 rfl trivial) rfl rfl hl.1 rfl (lv_room (Nat.le_of_ble_eq_true rfl)) dX12_shakeOf_253 ⟨Nat.zero_le _, Nat.zero_le _⟩) hw (fun x253 st253 t253 H253 locs253 eh253 eg253 bx253 hw => ?_)
                    obtain ⟨bx253, g253⟩ := bx253
                    rw [eh253, eg253] at g253
                    have hkm := hkm.call g253 (by decide)
                    have f_p0_21 := g253 _ _ _ _ f_p0_21 (by decide)
                    refine lv_lconst (v := 1) hx hb dX12_shakeOf_256 (by decide) ?_
                    refine W.lcmp hx hb dX12_shakeOf_257 ?_
                    refine lv_topi (fun x257 ex257 => ?_)
                    have bx257 : iv x257 (-1) 1 := iv_lcmp ex257
                    refine lv_if_eq (tgt := 264) hx hb dX12_shakeOf_258 (by decide) (fun c258 => ?_) (fun c258 => ?_)
                    · have r258tp : iv x257 0 0 := (iv_both bx257 (iv_eq (show iv 0 0 0 from ⟨by decide, by decide⟩) c258)).mono (by decide) (by decide)
                      exact J264 bx215 c190_y190_fp0_21 H253 locs253 hw hkm f_p0_21 _ (lv_sub hl [1, 0] rfl)
                    · refine lv_goto (tgt := 324) hx hb dX12_shakeOf_261 (by decide) ?_
                      obtain ⟨x324, ex324⟩ : ∃ y : Int32, y = y190_l7 + 1 := ⟨_, rfl⟩
                      have bx324 : iv x324 1 12 := iv_add r201fp (show iv 1 1 1 from ⟨by decide, by decide⟩) ex324 (by decide)
                      have qx324 := iv_add_eq r201fp (show iv 1 1 1 from ⟨by decide, by decide⟩) ex324 (by decide)
                      refine lv_iinc (v := x324) (lv' := [(7, .int x324), (8, .int x215), (0, .ref ap0)]) hx hb dX12_shakeOf_324 hl (k := 2) rfl (by rw [ex324]; rfl) (by decide) rfl (fun ls hl => ?_)
                      refine lv_goto (tgt := 190) hx hb dX12_shakeOf_327 (by decide) ?_
                      exact ih190 x324 y190_fp0_21 (mu_up 1 hmu190 (qx324) (by decide) (show iv x324 0 12 from (bx324.mono (by decide) (by decide))).2) (bx324.mono (by decide) (by decide)) c190_y190_fp0_21 H253 locs253 hw hkm f_p0_21 _ (lv_sub hl [2, 0] rfl)
            exact J190 _ (0 : Int32) y139_fp0_21 (Nat.lt_succ_self _) (show iv 0 0 12 from ⟨by decide, by decide⟩) c139_y139_fp0_21 H186 locs186 hw hkm f_p0_21 _ (lv_sub hl [1, 0] rfl)
          · have r142fp : iv y139_l7 0 2 := (iv_lt_l (iv_nle c142) c139_y139_l7 (show iv 3 3 3 from ⟨by decide, by decide⟩)).mono (by decide) (by decide)
            refine lv_aload_n hx hb dX12_shakeOf_145 rfl (lv_at hl 0 rfl) ?_
            refine hp_getr hx hb hts IX12 hown hK hw.1 hp0 rfl 19 (by decide) L36 rfl dX12_shakeOf_146 ?_
            refine lv_bipush (v := 7) hx hb dX12_shakeOf_149 (by decide) ?_
            refine lv_iload hx hb dX12_shakeOf_151 (lv_at hl 4 rfl) ?_
            refine lv_iadd hx hb dX12_shakeOf_153 ?_
            refine lv_topi (fun x153 ex153 => ?_)
            have bx153 : iv x153 7 9 := iv_add (show iv 7 7 7 from ⟨by decide, by decide⟩) r142fp ex153 (by decide)
            have qx153 := iv_add_eq (show iv 7 7 7 from ⟨by decide, by decide⟩) r142fp ex153 (by decide)
            refine lv_aload_n hx hb dX12_shakeOf_154 rfl (lv_at hl 0 rfl) ?_
            refine lv_iload_n hx hb dX12_shakeOf_155 rfl (lv_at hl 1 rfl) ?_
            refine lv_iload hx hb dX12_shakeOf_156 (lv_at hl 4 rfl) ?_
            refine hp_callpi (va_runV (As := [.int xp1, .int y139_l7]) (rest := [.int x153, .ref ap0word]) ⟨hx, hb, hml, hown, hts⟩ (sX12_personOf l D T ap0 xp1 y139_l7 Gm ip0 c139_xp1 (r142fp.mono (by decide) (by decide))) (cwV 2 hts gX12_shakeOf_X12_personOf rfl rfl rfl (by decide +kernel) ⟨Nat.le_of_ble_eq_true rfl, Nat.le_of_ble_eq_true rfl⟩) (hp_preV hG hw hp0 rfl trivial) rfl rfl hl.1 rfl (lv_room (Nat.le_of_ble_eq_true rfl)) dX12_shakeOf_158 ⟨Nat.zero_le _, Nat.zero_le _⟩) (fun x158 bx158 => ?_)
            refine lv_aload_n hx hb dX12_shakeOf_161 rfl (lv_at hl 0 rfl) ?_
            refine lv_iload_n hx hb dX12_shakeOf_162 rfl (lv_at hl 2 rfl) ?_
            refine lv_iload hx hb dX12_shakeOf_163 (lv_at hl 4 rfl) ?_
            refine hp_callpi (va_runV (As := [.int xp2, .int y139_l7]) (rest := [.int x158, .int x153, .ref ap0word]) ⟨hx, hb, hml, hown, hts⟩ (sX12_personOf l D T ap0 xp2 y139_l7 Gm ip0 c139_xp2 (r142fp.mono (by decide) (by decide))) (cwV 2 hts gX12_shakeOf_X12_personOf rfl rfl rfl (by decide +kernel) ⟨Nat.le_of_ble_eq_true rfl, Nat.le_of_ble_eq_true rfl⟩) (hp_preV hG hw hp0 rfl trivial) rfl rfl hl.1 rfl (lv_room (Nat.le_of_ble_eq_true rfl)) dX12_shakeOf_165 ⟨Nat.zero_le _, Nat.zero_le _⟩) (fun x165 bx165 => ?_)
            refine lv_iadd hx hb dX12_shakeOf_168 ?_
            refine lv_topi (fun x168 ex168 => ?_)
            obtain ⟨x169, ex169⟩ : ∃ y : Int64, x168.toInt64 = y := ⟨_, rfl⟩
            refine lv_i2l (v := x169) hx hb dX12_shakeOf_169 ex169 ?_
            refine hp_lastA hx hb hK hw hp0word (vp_iv bx153 (by decide)) dX12_shakeOf_170 (fun H170 locs170 hw g170 => ?_)
            have hkm := hkm.ar g170
            have f_p0_21 := g170 _ _ _ _ f_p0_21
            obtain ⟨x171, ex171⟩ : ∃ y : Int32, y = y139_l7 + 1 := ⟨_, rfl⟩
            have bx171 : iv x171 1 3 := iv_add r142fp (show iv 1 1 1 from ⟨by decide, by decide⟩) ex171 (by decide)
            have qx171 := iv_add_eq r142fp (show iv 1 1 1 from ⟨by decide, by decide⟩) ex171 (by decide)
            refine lv_iinc (v := x171) (lv' := [(7, .int x171), (0, .ref ap0), (1, .int xp1), (2, .int xp2), (4, .int xp4)]) hx hb dX12_shakeOf_171 hl (k := 4) rfl (by rw [ex171]; rfl) (by decide) rfl (fun ls hl => ?_)
            refine lv_goto (tgt := 139) hx hb dX12_shakeOf_174 (by decide) ?_
            exact ih139 x171 y139_fp0_21 (mu_up 1 hmu139 (qx171) (by decide) (show iv x171 0 3 from (bx171.mono (by decide) (by decide))).2) c139_xp1 c139_xp2 (bx171.mono (by decide) (by decide)) c139_y139_fp0_21 H170 locs170 hw hkm f_p0_21 _ (lv_sub hl [1, 2, 3, 4, 0] rfl)
      exact J139 _ (0 : Int32) x9000op0_21 (Nat.lt_succ_self _) c135_xp1 c135_xp2 (show iv 0 0 3 from ⟨by decide, by decide⟩) c135_x9000op0_21 H135 locs135 hw hkm f_p0_21 _ (lv_sub hl [1, 2, 3, 4, 0] rfl)
    refine lv_if_eq (tgt := 134) hx hb dX12_shakeOf_127 (by decide) (fun c127 => ?_) (fun c127 => ?_)
    · have r127tp : iv x16 0 0 := (iv_both bx16 (iv_eq (show iv 0 0 0 from ⟨by decide, by decide⟩) c127)).mono (by decide) (by decide)
      refine lv_lconst (v := 0) hx hb dX12_shakeOf_134 (by decide) ?_
      exact J135 (0 : Int64) bp1 bp2 r25tq H118 locs118 hw hkm f_p0_21 _ (lv_sub hl [2, 3, 4, 6] rfl)
    · have r127fp : iv x16 1 1 := (iv_ne_lo c127 bx16 rfl).mono (by decide) (by decide)
      refine lv_lconst (v := 1) hx hb dX12_shakeOf_130 (by decide) ?_
      refine lv_goto (tgt := 135) hx hb dX12_shakeOf_131 (by decide) ?_
      exact J135 (1 : Int64) bp1 bp2 r25tq H118 locs118 hw hkm f_p0_21 _ (lv_sub hl [2, 3, 4, 6] rfl)
  · have r25fp : iv x9000op0_21 (-1) (-1) := (iv_lt_l (iv_nle c25) bx9000op0_21 (show iv 0 0 0 from ⟨by decide, by decide⟩)).mono (by decide) (by decide)
    refine lv_iload hx hb dX12_shakeOf_28 (lv_at hl 1 rfl) ?_
    have J59 : ∀ (y59_s0 : Int32), iv x9000op0_21 (-1) (-1) → ∀ (H : Heap) (locs : List Loc), hp_w D T s H locs → hp_km D [(12, 18)] s.heap H → hp_f D H ap0 12 21 (.int x9000op0_21) → ∀ (ls : Array Slot), lv_has ls 11 [] → WX12_shakeOf p l e s m below meth c D T ap0 xp1 xp2 xp3 xp4 H locs (F0 m 59 ls [.int y59_s0]) := by
      intro y59_s0 c59_x9000op0_21 H59 locs59 hw hkm f_p0_21 ls hl
      exact W.iret (v := y59_s0) hx hb hr (fun t ht hW => ⟨some (.int y59_s0), rfl, ⟨y59_s0, rfl, ⟨trivial, by rw [ht]; exact hkm⟩⟩, by rw [ht]; exact hw.1, hw.2.F ht⟩) hw.2.2.2 dX12_shakeOf_59
    refine lv_if_le (tgt := 37) hx hb dX12_shakeOf_30 (by decide) (fun c30 => ?_) (fun c30 => ?_)
    · have r30tp : iv x4 (-2147483648) 0 := (iv_le_l c30 (iv_any x4) (show iv 0 0 0 from ⟨by decide, by decide⟩)).mono (by decide) (by decide)
      refine lv_aload_n hx hb dX12_shakeOf_37 rfl (lv_at hl 2 rfl) ?_
      refine lv_iload_n hx hb dX12_shakeOf_38 rfl (lv_at hl 3 rfl) ?_
      refine hp_callpi (va_runV (As := [.int xp1]) (rest := []) ⟨hx, hb, hml, hown, hts⟩ (sX12_gives l D T ap0 xp1 Gm ip0 bp1) (cwV 1 hts gX12_shakeOf_X12_gives rfl rfl rfl (by decide +kernel) ⟨Nat.le_of_ble_eq_true rfl, Nat.le_of_ble_eq_true rfl⟩) (hp_preV hG hw hp0 rfl trivial) rfl rfl hl.1 rfl (lv_room (Nat.le_of_ble_eq_true rfl)) dX12_shakeOf_39 ⟨Nat.zero_le _, Nat.zero_le _⟩) (fun x39 bx39 => ?_)
      refine lv_aload_n hx hb dX12_shakeOf_42 rfl (lv_at hl 2 rfl) ?_
      refine lv_iload_n hx hb dX12_shakeOf_43 rfl (lv_at hl 4 rfl) ?_
      refine hp_callpi (va_runV (As := [.int xp2]) (rest := [.int x39]) ⟨hx, hb, hml, hown, hts⟩ (sX12_gives l D T ap0 xp2 Gm ip0 bp2) (cwV 1 hts gX12_shakeOf_X12_gives rfl rfl rfl (by decide +kernel) ⟨Nat.le_of_ble_eq_true rfl, Nat.le_of_ble_eq_true rfl⟩) (hp_preV hG hw hp0 rfl trivial) rfl rfl hl.1 rfl (lv_room (Nat.le_of_ble_eq_true rfl)) dX12_shakeOf_44 ⟨Nat.zero_le _, Nat.zero_le _⟩) (fun x44 bx44 => ?_)
      refine lv_iadd hx hb dX12_shakeOf_47 ?_
      refine lv_topi (fun x47 ex47 => ?_)
      refine lv_iload hx hb dX12_shakeOf_48 (lv_at hl 0 rfl) ?_
      have J58 : ∀ (y58_s1 : Int32), iv y58_s1 1 2 → iv x9000op0_21 (-1) (-1) → ∀ (H : Heap) (locs : List Loc), hp_w D T s H locs → hp_km D [(12, 18)] s.heap H → hp_f D H ap0 12 21 (.int x9000op0_21) → ∀ (ls : Array Slot), lv_has ls 11 [] → WX12_shakeOf p l e s m below meth c D T ap0 xp1 xp2 xp3 xp4 H locs (F0 m 58 ls [.int y58_s1, .int x47]) := by
        intro y58_s1 c58_y58_s1 c58_x9000op0_21 H58 locs58 hw hkm f_p0_21 ls hl
        refine lv_imul hx hb dX12_shakeOf_58 ?_
        refine lv_topi (fun x58 ex58 => ?_)
        exact J59 x58 c58_x9000op0_21 H58 locs58 hw hkm f_p0_21 _ (lv_sub hl [] rfl)
      refine lv_if_eq (tgt := 57) hx hb dX12_shakeOf_50 (by decide) (fun c50 => ?_) (fun c50 => ?_)
      · have r50tp : iv x16 0 0 := (iv_both bx16 (iv_eq (show iv 0 0 0 from ⟨by decide, by decide⟩) c50)).mono (by decide) (by decide)
        refine lv_iconst (v := 1) hx hb dX12_shakeOf_57 (by decide) ?_
        exact J58 (1 : Int32) (show iv 1 1 2 from ⟨by decide, by decide⟩) r25fp s.heap [] hw hkm fx9000op0_21 _ (lv_sub hl [] rfl)
      · have r50fp : iv x16 1 1 := (iv_ne_lo c50 bx16 rfl).mono (by decide) (by decide)
        refine lv_iconst (v := 2) hx hb dX12_shakeOf_53 (by decide) ?_
        refine lv_goto (tgt := 58) hx hb dX12_shakeOf_54 (by decide) ?_
        exact J58 (2 : Int32) (show iv 2 1 2 from ⟨by decide, by decide⟩) r25fp s.heap [] hw hkm fx9000op0_21 _ (lv_sub hl [] rfl)
    · have r30fq : iv x4 1 2147483647 := (iv_lt_r (iv_nle c30) (show iv 0 0 0 from ⟨by decide, by decide⟩) (iv_any x4)).mono (by decide) (by decide)
      refine lv_iconst (v := 0) hx hb dX12_shakeOf_33 (by decide) ?_
      refine lv_goto (tgt := 59) hx hb dX12_shakeOf_34 (by decide) ?_
      exact J59 (0 : Int32) r25fp s.heap [] hw hkm fx9000op0_21 _ (lv_sub hl [] rfl)
abbrev WX12_sumOf (p : Program) (l : Launch) (e : Env) (s : State) (m : MethodId) (below : List Frame) (meth : Method) (c : Code) (D : hp_D) (T : hp_T) (ap0 : Nat) (xp1 : Int32) (xp2 : Int32) (xp3 : Int32) (H : Heap) (locs : List Loc) (g : JFrame) : Prop := W p l e (headSpec wsX12_sumOf ({ frames := 4, cells := 0, slots := 0, locals := 100 })).room s m ([.ref ap0, .int xp1, .int xp2, .int xp3] : List Value).toArray below meth c H locs 0 0 (MQ below (hq_e D T (fun v st t => ∃ r : Int32, v = some (.int r) ∧ ((True) ∧ hp_km D [(12, 18)] st.heap t.heap))) ([.ref ap0, .int xp1, .int xp2, .int xp3] : List Value).toArray s 0 0 (hp_F T)) g
set_option maxHeartbeats 4000000 in
set_option maxRecDepth 100000 in
theorem sX12_sumOf (l : Launch) (D : hp_D) (T : hp_T) (ap0 : Nat) (xp1 : Int32) (xp2 : Int32) (xp3 : Int32) (Gm : moG) (ip0 : isMo T ap0 Gm) (bp3 : iv xp3 0 11) : Met l yX12_sumOf wsX12_sumOf ({ frames := 4, cells := 0, slots := 0, locals := 100 }) (hp_Pc D T [.ref ap0, .int xp1, .int xp2, .int xp3] (fun _ => True)) (hq_e D T (fun v st t => ∃ r : Int32, v = some (.int r) ∧ ((True) ∧ hp_km D [(12, 18)] st.heap t.heap))) 0 0 (hp_F T) := by
  obtain ⟨ap0tape, ap0sign, ap0len, ap0clause, ap0clauses, ap0read, ap0opn, ap0stack, ap0word, ap0said, ap0was, ap0fitting, ap0sums, ap0sort, ap0sumsBy, ap0oneOf, ap0otherOf, ap0kept, ap0images, ap0acts, ap0iUnd, ap0iFor, ap0iX, ap0made, gok, hp0, hp0tape, hp0sign, hp0len, hp0clause, hp0clauses, hp0read, hp0opn, hp0stack, hp0word, hp0said, hp0was, hp0fitting, hp0sums, hp0sort, hp0sumsBy, hp0oneOf, hp0otherOf, hp0kept, hp0images, hp0acts, hp0iUnd, hp0iFor, hp0iX, hp0made⟩ := id ip0
  have hpx := gok.1
  have gsok := gok.2.2.2.2
  have ggd := gok.2.2.2.1
  refine Met.ofW (cc := cX12_sumOf) (maxL := 9) (ret := (some .int)) (by decide) rfl ?_
  intro p e s m args below meth c s₁ B hml hv
  obtain ⟨rfl, hok, hG, hB⟩ := hv
  have hx := B.exec
  have hb := B.bytes
  have hr := B.returns
  have hts := atoms_spec (ws := wsX12_sumOf) B.pre
  have hown : s.vm.findClass RX12 = some m.cls := findClass_of_methodNamed B.named
  have hlocks := B.notSynchronized
  have hK := hG.1
  have hw : hp_w D T s s.heap [] := hp_w.rf hok
  have IX12 : ∀ w ∈ wsX120, w ∈ wsX12_sumOf := by decide +kernel
  have L39 := hts (.fieldLink RX12 39 "PalmCensusModel" "said" "[I") (by decide +kernel)
  have hkm : hp_km D [(12, 18)] s.heap s.heap := fun _ _ _ _ h _ => h
  have hl := lv_entry ([.ref ap0, .int xp1, .int xp2, .int xp3]) (n := 9) (Nat.le_of_ble_eq_true rfl)
  rw [lg_entry_eq]
  generalize (lg_sl ([.ref ap0, .int xp1, .int xp2, .int xp3]) ++ List.replicate (9 - (lg_sl ([.ref ap0, .int xp1, .int xp2, .int xp3])).length) Slot.unset).toArray = ls at hl ⊢
  have hl : lv_has ls 9 [(0, .ref ap0), (1, .int xp1), (2, .int xp2), (3, .int xp3)] := hl
  show WX12_sumOf p l e s m below meth c D T ap0 xp1 xp2 xp3 s.heap [] (F0 m 0 ls [])
  refine lv_aload_n hx hb dX12_sumOf_0 rfl (lv_at hl 0 rfl) ?_
  refine lv_iload_n hx hb dX12_sumOf_1 rfl (lv_at hl 1 rfl) ?_
  refine lv_iload_n hx hb dX12_sumOf_2 rfl (lv_at hl 2 rfl) ?_
  refine lv_iload_n hx hb dX12_sumOf_3 rfl (lv_at hl 3 rfl) ?_
  refine hp_callpi (va_runV (As := [.int xp1, .int xp2, .int xp3]) (rest := []) ⟨hx, hb, hml, hown, hts⟩ (sX12_crowdOf l D T ap0 xp1 xp2 xp3 Gm ip0 bp3) (cwV 3 hts gX12_sumOf_X12_crowdOf rfl rfl rfl (by decide +kernel) ⟨Nat.le_of_ble_eq_true rfl, Nat.le_of_ble_eq_true rfl⟩) (hp_preV hG hw hp0 rfl trivial) rfl rfl hl.1 rfl (lv_room (Nat.le_of_ble_eq_true rfl)) dX12_sumOf_4 ⟨Nat.zero_le _, Nat.zero_le _⟩) (fun x4 bx4 => ?_)
  refine lv_istore (lv' := [(4, .int x4), (0, .ref ap0), (1, .int xp1), (2, .int xp2), (3, .int xp3)]) hx hb dX12_sumOf_7 hl (by decide) rfl (fun ls hl => ?_)
  refine lv_iload hx hb dX12_sumOf_9 (lv_at hl 0 rfl) ?_
  refine hp_callpi (va_runS (As := [.int x4]) (rest := []) ⟨hx, hb, hml, hown, hts⟩ (sX12_bits l D T x4) (va_cwS 1 hts gX12_sumOf_X12_bits rfl rfl rfl (by decide +kernel) ⟨Nat.le_of_ble_eq_true rfl, Nat.le_of_ble_eq_true rfl⟩) (hp_preS hG hw trivial) rfl rfl hl.1 rfl (lv_room (Nat.le_of_ble_eq_true rfl)) dX12_sumOf_11 ⟨Nat.zero_le _, Nat.zero_le _⟩) (fun x11 bx11 => ?_)
  refine lv_istore (lv' := [(5, .int x11), (4, .int x4), (0, .ref ap0), (1, .int xp1), (2, .int xp2), (3, .int xp3)]) hx hb dX12_sumOf_14 hl (by decide) rfl (fun ls hl => ?_)
  refine lv_iconst (v := 0) hx hb dX12_sumOf_16 (by decide) ?_
  refine lv_istore (lv' := [(6, .int 0), (5, .int x11), (4, .int x4), (0, .ref ap0), (1, .int xp1), (2, .int xp2), (3, .int xp3)]) hx hb dX12_sumOf_17 hl (by decide) rfl (fun ls hl => ?_)
  refine lv_iconst (v := 0) hx hb dX12_sumOf_19 (by decide) ?_
  refine lv_istore (lv' := [(7, .int 0), (6, .int 0), (5, .int x11), (4, .int x4), (0, .ref ap0), (1, .int xp1), (2, .int xp2), (3, .int xp3)]) hx hb dX12_sumOf_20 hl (by decide) rfl (fun ls hl => ?_)
  have J22 : ∀ (n : Nat) (y22_l6 y22_l7 : Int32), (10 - y22_l7.toInt).toNat < n → iv xp3 0 11 → iv y22_l7 0 10 → ∀ (H : Heap) (locs : List Loc), hp_w D T s H locs → hp_km D [(12, 18)] s.heap H → ∀ (ls : Array Slot), lv_has ls 9 [(0, .ref ap0), (3, .int xp3), (4, .int x4), (5, .int x11), (6, .int y22_l6), (7, .int y22_l7)] → WX12_sumOf p l e s m below meth c D T ap0 xp1 xp2 xp3 H locs (F0 m 22 ls []) := by
    intro n
    induction n with
    | zero => intro y22_l6 y22_l7 hmu22 c22_xp3 c22_y22_l7 H22 locs22 hw hkm ls hl; exact absurd hmu22 (Nat.not_lt_zero _)
    | succ n ih22 =>
      intro y22_l6 y22_l7 hmu22 c22_xp3 c22_y22_l7 H22 locs22 hw hkm ls hl
      refine lv_iload hx hb dX12_sumOf_22 (lv_at hl 5 rfl) ?_
      refine lv_aload_n hx hb dX12_sumOf_24 rfl (lv_at hl 0 rfl) ?_
      refine hp_getr hx hb hts IX12 hown hK hw.1 hp0 rfl 20 (by decide) L39 rfl dX12_sumOf_25 ?_
      refine lv_iconst (v := 2) hx hb dX12_sumOf_28 (by decide) ?_
      refine hp_iald hx hb hK hw.1 hp0said (vp_iv (show iv 2 2 2 from ⟨by decide, by decide⟩) (by decide)) dX12_sumOf_29 (fun v29 hr29 => ?_)
      have h29 := gsok _ _ hr29
      obtain ⟨x29, rfl, bx29⟩ := sP_rd2 h29 (show iv 2 2 2 from ⟨by decide, by decide⟩)
      refine lv_icmp_ge (tgt := 98) hx hb dX12_sumOf_30 (by decide) (fun c30 => ?_) (fun c30 => ?_)
      · refine lv_iload hx hb dX12_sumOf_98 (lv_at hl 4 rfl) ?_
        exact W.iret (v := y22_l6) hx hb hr (fun t ht hW => ⟨some (.int y22_l6), rfl, ⟨y22_l6, rfl, ⟨trivial, by rw [ht]; exact hkm⟩⟩, by rw [ht]; exact hw.1, hw.2.F ht⟩) hw.2.2.2 dX12_sumOf_100
      · have r30fp : iv y22_l7 0 9 := (iv_lt_l (iv_nle c30) c22_y22_l7 bx29).mono (by decide) (by decide)
        have r30fq : iv x29 1 10 := (iv_lt_r (iv_nle c30) c22_y22_l7 bx29).mono (by decide) (by decide)
        refine lv_iload hx hb dX12_sumOf_33 (lv_at hl 5 rfl) ?_
        refine lv_iconst (v := 1) hx hb dX12_sumOf_35 (by decide) ?_
        refine lv_iadd hx hb dX12_sumOf_36 ?_
        refine lv_topi (fun x36 ex36 => ?_)
        have bx36 : iv x36 1 10 := iv_add r30fp (show iv 1 1 1 from ⟨by decide, by decide⟩) ex36 (by decide)
        have qx36 := iv_add_eq r30fp (show iv 1 1 1 from ⟨by decide, by decide⟩) ex36 (by decide)
        refine lv_istore (lv' := [(8, .int x36), (0, .ref ap0), (3, .int xp3), (4, .int x4), (5, .int x11), (6, .int y22_l6), (7, .int y22_l7)]) hx hb dX12_sumOf_37 hl (by decide) rfl (fun ls hl => ?_)
        have J39 : ∀ (n : Nat) (y39_l6 y39_l8 : Int32), (10 - y39_l8.toInt).toNat < n → iv xp3 0 11 → iv y22_l7 0 9 → iv y39_l8 1 10 → ∀ (H : Heap) (locs : List Loc), hp_w D T s H locs → hp_km D [(12, 18)] s.heap H → ∀ (ls : Array Slot), lv_has ls 9 [(0, .ref ap0), (3, .int xp3), (4, .int x4), (5, .int x11), (6, .int y39_l6), (7, .int y22_l7), (8, .int y39_l8)] → WX12_sumOf p l e s m below meth c D T ap0 xp1 xp2 xp3 H locs (F0 m 39 ls []) := by
          intro n
          induction n with
          | zero => intro y39_l6 y39_l8 hmu39 c39_xp3 c39_y22_l7 c39_y39_l8 H39 locs39 hw hkm ls hl; exact absurd hmu39 (Nat.not_lt_zero _)
          | succ n ih39 =>
            intro y39_l6 y39_l8 hmu39 c39_xp3 c39_y22_l7 c39_y39_l8 H39 locs39 hw hkm ls hl
            refine lv_iload hx hb dX12_sumOf_39 (lv_at hl 6 rfl) ?_
            refine lv_aload_n hx hb dX12_sumOf_41 rfl (lv_at hl 0 rfl) ?_
            refine hp_getr hx hb hts IX12 hown hK hw.1 hp0 rfl 20 (by decide) L39 rfl dX12_sumOf_42 ?_
            refine lv_iconst (v := 2) hx hb dX12_sumOf_45 (by decide) ?_
            refine hp_iald hx hb hK hw.1 hp0said (vp_iv (show iv 2 2 2 from ⟨by decide, by decide⟩) (by decide)) dX12_sumOf_46 (fun v46 hr46 => ?_)
            have h46 := gsok _ _ hr46
            obtain ⟨x46, rfl, bx46⟩ := sP_rd2 h46 (show iv 2 2 2 from ⟨by decide, by decide⟩)
            refine lv_icmp_ge (tgt := 92) hx hb dX12_sumOf_47 (by decide) (fun c47 => ?_) (fun c47 => ?_)
            · obtain ⟨x92, ex92⟩ : ∃ y : Int32, y = y22_l7 + 1 := ⟨_, rfl⟩
              have bx92 : iv x92 1 10 := iv_add c39_y22_l7 (show iv 1 1 1 from ⟨by decide, by decide⟩) ex92 (by decide)
              have qx92 := iv_add_eq c39_y22_l7 (show iv 1 1 1 from ⟨by decide, by decide⟩) ex92 (by decide)
              refine lv_iinc (v := x92) (lv' := [(7, .int x92), (0, .ref ap0), (3, .int xp3), (4, .int x4), (5, .int x11), (6, .int y39_l6), (8, .int y39_l8)]) hx hb dX12_sumOf_92 hl (k := 5) rfl (by rw [ex92]; rfl) (by decide) rfl (fun ls hl => ?_)
              refine lv_goto (tgt := 22) hx hb dX12_sumOf_95 (by decide) ?_
              exact ih22 y39_l6 x92 (mu_up 1 hmu22 (qx92) (by decide) (show iv x92 0 10 from (bx92.mono (by decide) (by decide))).2) c39_xp3 (bx92.mono (by decide) (by decide)) H39 locs39 hw hkm _ (lv_sub hl [1, 2, 3, 4, 5, 0] rfl)
            · have r47fp : iv y39_l8 1 9 := (iv_lt_l (iv_nle c47) c39_y39_l8 bx46).mono (by decide) (by decide)
              have r47fq : iv x46 2 10 := (iv_lt_r (iv_nle c47) c39_y39_l8 bx46).mono (by decide) (by decide)
              refine lv_iload hx hb dX12_sumOf_50 (lv_at hl 2 rfl) ?_
              refine lv_iload hx hb dX12_sumOf_52 (lv_at hl 5 rfl) ?_
              refine hp_callpi (va_runS (As := [.int x4, .int y22_l7]) (rest := []) ⟨hx, hb, hml, hown, hts⟩ (sX12_isOf l D T x4 y22_l7) (va_cwS 2 hts gX12_sumOf_X12_isOf rfl rfl rfl (by decide +kernel) ⟨Nat.le_of_ble_eq_true rfl, Nat.le_of_ble_eq_true rfl⟩) (hp_preS hG hw trivial) rfl rfl hl.1 rfl (lv_room (Nat.le_of_ble_eq_true rfl)) dX12_sumOf_54 ⟨Nat.zero_le _, Nat.zero_le _⟩) (fun x54 bx54 => ?_)
              have J86 : ∀ (y86_l6 : Int32), iv xp3 0 11 → iv y22_l7 0 9 → iv y39_l8 1 9 → ∀ (H : Heap) (locs : List Loc), hp_w D T s H locs → hp_km D [(12, 18)] s.heap H → ∀ (ls : Array Slot), lv_has ls 9 [(0, .ref ap0), (3, .int xp3), (4, .int x4), (5, .int x11), (6, .int y86_l6), (7, .int y22_l7), (8, .int y39_l8)] → WX12_sumOf p l e s m below meth c D T ap0 xp1 xp2 xp3 H locs (F0 m 86 ls []) := by
                intro y86_l6 c86_xp3 c86_y22_l7 c86_y39_l8 H86 locs86 hw hkm ls hl
                obtain ⟨x86, ex86⟩ : ∃ y : Int32, y = y39_l8 + 1 := ⟨_, rfl⟩
                have bx86 : iv x86 2 10 := iv_add c86_y39_l8 (show iv 1 1 1 from ⟨by decide, by decide⟩) ex86 (by decide)
                have qx86 := iv_add_eq c86_y39_l8 (show iv 1 1 1 from ⟨by decide, by decide⟩) ex86 (by decide)
                refine lv_iinc (v := x86) (lv' := [(8, .int x86), (0, .ref ap0), (3, .int xp3), (4, .int x4), (5, .int x11), (6, .int y86_l6), (7, .int y22_l7)]) hx hb dX12_sumOf_86 hl (k := 6) rfl (by rw [ex86]; rfl) (by decide) rfl (fun ls hl => ?_)
                refine lv_goto (tgt := 39) hx hb dX12_sumOf_89 (by decide) ?_
                exact ih39 y86_l6 x86 (mu_up 1 hmu39 (qx86) (by decide) (show iv x86 1 10 from (bx86.mono (by decide) (by decide))).2) c86_xp3 c86_y22_l7 (bx86.mono (by decide) (by decide)) H86 locs86 hw hkm _ (lv_sub hl [1, 2, 3, 4, 5, 6, 0] rfl)
              refine lv_if_eq (tgt := 86) hx hb dX12_sumOf_57 (by decide) (fun c57 => ?_) (fun c57 => ?_)
              · have r57tp : iv x54 0 0 := (iv_both bx54 (iv_eq (show iv 0 0 0 from ⟨by decide, by decide⟩) c57)).mono (by decide) (by decide)
                exact J86 y39_l6 c39_xp3 c39_y22_l7 r47fp H39 locs39 hw hkm _ (lv_sub hl [0, 1, 2, 3, 4, 5, 6] rfl)
              · have r57fp : iv x54 1 1 := (iv_ne_lo c57 bx54 rfl).mono (by decide) (by decide)
                refine lv_iload hx hb dX12_sumOf_60 (lv_at hl 2 rfl) ?_
                refine lv_iload hx hb dX12_sumOf_62 (lv_at hl 6 rfl) ?_
                refine hp_callpi (va_runS (As := [.int x4, .int y39_l8]) (rest := []) ⟨hx, hb, hml, hown, hts⟩ (sX12_isOf l D T x4 y39_l8) (va_cwS 2 hts gX12_sumOf_X12_isOf rfl rfl rfl (by decide +kernel) ⟨Nat.le_of_ble_eq_true rfl, Nat.le_of_ble_eq_true rfl⟩) (hp_preS hG hw trivial) rfl rfl hl.1 rfl (lv_room (Nat.le_of_ble_eq_true rfl)) dX12_sumOf_64 ⟨Nat.zero_le _, Nat.zero_le _⟩) (fun x64 bx64 => ?_)
                refine lv_if_eq (tgt := 86) hx hb dX12_sumOf_67 (by decide) (fun c67 => ?_) (fun c67 => ?_)
                · have r67tp : iv x64 0 0 := (iv_both bx64 (iv_eq (show iv 0 0 0 from ⟨by decide, by decide⟩) c67)).mono (by decide) (by decide)
                  exact J86 y39_l6 c39_xp3 c39_y22_l7 r47fp H39 locs39 hw hkm _ (lv_sub hl [0, 1, 2, 3, 4, 5, 6] rfl)
                · have r67fp : iv x64 1 1 := (iv_ne_lo c67 bx64 rfl).mono (by decide) (by decide)
                  refine lv_iload hx hb dX12_sumOf_70 (lv_at hl 4 rfl) ?_
                  refine lv_aload_n hx hb dX12_sumOf_72 rfl (lv_at hl 0 rfl) ?_
                  refine lv_iload hx hb dX12_sumOf_73 (lv_at hl 5 rfl) ?_
                  refine lv_iload hx hb dX12_sumOf_75 (lv_at hl 6 rfl) ?_
                  refine lv_iload_n hx hb dX12_sumOf_77 rfl (lv_at hl 1 rfl) ?_
                  refine lv_iload hx hb dX12_sumOf_78 (lv_at hl 3 rfl) ?_
                  refine hp_callei (va_runV (As := [.int y22_l7, .int y39_l8, .int xp3, .int x11]) (rest := [.int y39_l6]) ⟨hx, hb, hml, hown, hts⟩ (sX12_shakeOf l D T ap0 y22_l7 y39_l8 xp3 x11 Gm ip0 c39_y22_l7 (r47fp.mono (by decide) (by decide)) c39_xp3) (cwV 4 hts gX12_sumOf_X12_shakeOf rfl rfl rfl (by decide +kernel) ⟨Nat.le_of_ble_eq_true rfl, Nat.le_of_ble_eq_true rfl⟩) (hp_preV hG hw hp0 rfl trivial) rfl rfl hl.1 rfl (lv_room (Nat.le_of_ble_eq_true rfl)) dX12_sumOf_80 ⟨Nat.zero_le _, Nat.zero_le _⟩) hw (fun x80 st80 t80 H80 locs80 eh80 eg80 bx80 hw => ?_)
                  obtain ⟨bx80, g80⟩ := bx80
                  rw [eh80, eg80] at g80
                  have hkm := hkm.call g80 (by decide)
                  refine lv_iadd hx hb dX12_sumOf_83 ?_
                  refine lv_topi (fun x83 ex83 => ?_)
                  refine lv_istore (lv' := [(6, .int x83), (0, .ref ap0), (3, .int xp3), (4, .int x4), (5, .int x11), (7, .int y22_l7), (8, .int y39_l8)]) hx hb dX12_sumOf_84 hl (by decide) rfl (fun ls hl => ?_)
                  exact J86 x83 c39_xp3 c39_y22_l7 r47fp H80 locs80 hw hkm _ (lv_sub hl [1, 2, 3, 4, 0, 5, 6] rfl)
        exact J39 _ y22_l6 x36 (Nat.lt_succ_self _) c22_xp3 r30fp bx36 H22 locs22 hw hkm _ (lv_sub hl [1, 2, 3, 4, 5, 6, 0] rfl)
  exact J22 _ (0 : Int32) (0 : Int32) (Nat.lt_succ_self _) bp3 (show iv 0 0 10 from ⟨by decide, by decide⟩) s.heap [] hw hkm _ (lv_sub hl [4, 7, 3, 2, 1, 0] rfl)
abbrev WX12_totalOf (p : Program) (l : Launch) (e : Env) (s : State) (m : MethodId) (below : List Frame) (meth : Method) (c : Code) (D : hp_D) (T : hp_T) (ap0 : Nat) (H : Heap) (locs : List Loc) (g : JFrame) : Prop := W p l e (headSpec wsX12_totalOf ({ frames := 5, cells := 0, slots := 0, locals := 128 })).room s m ([.ref ap0] : List Value).toArray below meth c H locs 0 0 (MQ below (hq_e D T (fun v st t => ∃ r : Int32, v = some (.int r) ∧ ((True) ∧ hp_km D [(12, 18)] st.heap t.heap))) ([.ref ap0] : List Value).toArray s 0 0 (hp_F T)) g
set_option maxHeartbeats 4000000 in
set_option maxRecDepth 100000 in
theorem sX12_totalOf (l : Launch) (D : hp_D) (T : hp_T) (ap0 : Nat) (Gm : moG) (ip0 : isMo T ap0 Gm) : Met l yX12_totalOf wsX12_totalOf ({ frames := 5, cells := 0, slots := 0, locals := 128 }) (hp_Pc D T [.ref ap0] (fun _ => True)) (hq_e D T (fun v st t => ∃ r : Int32, v = some (.int r) ∧ ((True) ∧ hp_km D [(12, 18)] st.heap t.heap))) 0 0 (hp_F T) := by
  obtain ⟨ap0tape, ap0sign, ap0len, ap0clause, ap0clauses, ap0read, ap0opn, ap0stack, ap0word, ap0said, ap0was, ap0fitting, ap0sums, ap0sort, ap0sumsBy, ap0oneOf, ap0otherOf, ap0kept, ap0images, ap0acts, ap0iUnd, ap0iFor, ap0iX, ap0made, gok, hp0, hp0tape, hp0sign, hp0len, hp0clause, hp0clauses, hp0read, hp0opn, hp0stack, hp0word, hp0said, hp0was, hp0fitting, hp0sums, hp0sort, hp0sumsBy, hp0oneOf, hp0otherOf, hp0kept, hp0images, hp0acts, hp0iUnd, hp0iFor, hp0iX, hp0made⟩ := id ip0
  have hpx := gok.1
  have gsok := gok.2.2.2.2
  have ggd := gok.2.2.2.1
  refine Met.ofW (cc := cX12_totalOf) (maxL := 4) (ret := (some .int)) (by decide) rfl ?_
  intro p e s m args below meth c s₁ B hml hv
  obtain ⟨rfl, hok, hG, hB⟩ := hv
  have hx := B.exec
  have hb := B.bytes
  have hr := B.returns
  have hts := atoms_spec (ws := wsX12_totalOf) B.pre
  have hown : s.vm.findClass RX12 = some m.cls := findClass_of_methodNamed B.named
  have hlocks := B.notSynchronized
  have hK := hG.1
  have hw : hp_w D T s s.heap [] := hp_w.rf hok
  have IX12 : ∀ w ∈ wsX120, w ∈ wsX12_totalOf := by decide +kernel
  have L39 := hts (.fieldLink RX12 39 "PalmCensusModel" "said" "[I") (by decide +kernel)
  have hkm : hp_km D [(12, 18)] s.heap s.heap := fun _ _ _ _ h _ => h
  have hl := lv_entry ([.ref ap0]) (n := 4) (Nat.le_of_ble_eq_true rfl)
  rw [lg_entry_eq]
  generalize (lg_sl ([.ref ap0]) ++ List.replicate (4 - (lg_sl ([.ref ap0])).length) Slot.unset).toArray = ls at hl ⊢
  have hl : lv_has ls 4 [(0, .ref ap0)] := hl
  show WX12_totalOf p l e s m below meth c D T ap0 s.heap [] (F0 m 0 ls [])
  refine lv_iconst (v := 0) hx hb dX12_totalOf_0 (by decide) ?_
  refine lv_istore_n (lv' := [(1, .int 0), (0, .ref ap0)]) hx hb dX12_totalOf_1 rfl hl (by decide) rfl (fun ls hl => ?_)
  refine lv_iconst (v := 0) hx hb dX12_totalOf_2 (by decide) ?_
  refine lv_istore_n (lv' := [(2, .int 0), (1, .int 0), (0, .ref ap0)]) hx hb dX12_totalOf_3 rfl hl (by decide) rfl (fun ls hl => ?_)
  have J4 : ∀ (n : Nat) (y4_l1 y4_l2 : Int32), (12 - y4_l2.toInt).toNat < n → iv y4_l2 0 12 → ∀ (H : Heap) (locs : List Loc), hp_w D T s H locs → hp_km D [(12, 18)] s.heap H → ∀ (ls : Array Slot), lv_has ls 4 [(0, .ref ap0), (1, .int y4_l1), (2, .int y4_l2)] → WX12_totalOf p l e s m below meth c D T ap0 H locs (F0 m 4 ls []) := by
    intro n
    induction n with
    | zero => intro y4_l1 y4_l2 hmu4 c4_y4_l2 H4 locs4 hw hkm ls hl; exact absurd hmu4 (Nat.not_lt_zero _)
    | succ n ih4 =>
      intro y4_l1 y4_l2 hmu4 c4_y4_l2 H4 locs4 hw hkm ls hl
      refine lv_iload_n hx hb dX12_totalOf_4 rfl (lv_at hl 2 rfl) ?_
      refine lv_aload_n hx hb dX12_totalOf_5 rfl (lv_at hl 0 rfl) ?_
      refine hp_getr hx hb hts IX12 hown hK hw.1 hp0 rfl 20 (by decide) L39 rfl dX12_totalOf_6 ?_
      refine lv_iconst (v := 1) hx hb dX12_totalOf_9 (by decide) ?_
      refine hp_iald hx hb hK hw.1 hp0said (vp_iv (show iv 1 1 1 from ⟨by decide, by decide⟩) (by decide)) dX12_totalOf_10 (fun v10 hr10 => ?_)
      have h10 := gsok _ _ hr10
      obtain ⟨x10, rfl, bx10⟩ := sP_rd1 h10 (show iv 1 1 1 from ⟨by decide, by decide⟩)
      refine lv_icmp_ge (tgt := 51) hx hb dX12_totalOf_11 (by decide) (fun c11 => ?_) (fun c11 => ?_)
      · refine lv_iload_n hx hb dX12_totalOf_51 rfl (lv_at hl 1 rfl) ?_
        exact W.iret (v := y4_l1) hx hb hr (fun t ht hW => ⟨some (.int y4_l1), rfl, ⟨y4_l1, rfl, ⟨trivial, by rw [ht]; exact hkm⟩⟩, by rw [ht]; exact hw.1, hw.2.F ht⟩) hw.2.2.2 dX12_totalOf_52
      · have r11fp : iv y4_l2 0 11 := (iv_lt_l (iv_nle c11) c4_y4_l2 bx10).mono (by decide) (by decide)
        have r11fq : iv x10 1 12 := (iv_lt_r (iv_nle c11) c4_y4_l2 bx10).mono (by decide) (by decide)
        refine lv_iconst (v := 0) hx hb dX12_totalOf_14 (by decide) ?_
        refine lv_istore_n (lv' := [(3, .int 0), (0, .ref ap0), (1, .int y4_l1), (2, .int y4_l2)]) hx hb dX12_totalOf_15 rfl hl (by decide) rfl (fun ls hl => ?_)
        have J16 : ∀ (n : Nat) (y16_l1 y16_l3 : Int32), (6 - y16_l3.toInt).toNat < n → iv y4_l2 0 11 → iv y16_l3 0 6 → ∀ (H : Heap) (locs : List Loc), hp_w D T s H locs → hp_km D [(12, 18)] s.heap H → ∀ (ls : Array Slot), lv_has ls 4 [(0, .ref ap0), (1, .int y16_l1), (2, .int y4_l2), (3, .int y16_l3)] → WX12_totalOf p l e s m below meth c D T ap0 H locs (F0 m 16 ls []) := by
          intro n
          induction n with
          | zero => intro y16_l1 y16_l3 hmu16 c16_y4_l2 c16_y16_l3 H16 locs16 hw hkm ls hl; exact absurd hmu16 (Nat.not_lt_zero _)
          | succ n ih16 =>
            intro y16_l1 y16_l3 hmu16 c16_y4_l2 c16_y16_l3 H16 locs16 hw hkm ls hl
            refine lv_iload_n hx hb dX12_totalOf_16 rfl (lv_at hl 3 rfl) ?_
            refine lv_aload_n hx hb dX12_totalOf_17 rfl (lv_at hl 0 rfl) ?_
            refine hp_getr hx hb hts IX12 hown hK hw.1 hp0 rfl 20 (by decide) L39 rfl dX12_totalOf_18 ?_
            refine lv_iconst (v := 0) hx hb dX12_totalOf_21 (by decide) ?_
            refine hp_iald hx hb hK hw.1 hp0said (vp_iv (show iv 0 0 0 from ⟨by decide, by decide⟩) (by decide)) dX12_totalOf_22 (fun v22 hr22 => ?_)
            have h22 := gsok _ _ hr22
            obtain ⟨x22, rfl, bx22⟩ := sP_rd0 h22 (show iv 0 0 0 from ⟨by decide, by decide⟩)
            refine lv_icmp_ge (tgt := 45) hx hb dX12_totalOf_23 (by decide) (fun c23 => ?_) (fun c23 => ?_)
            · obtain ⟨x45, ex45⟩ : ∃ y : Int32, y = y4_l2 + 1 := ⟨_, rfl⟩
              have bx45 : iv x45 1 12 := iv_add c16_y4_l2 (show iv 1 1 1 from ⟨by decide, by decide⟩) ex45 (by decide)
              have qx45 := iv_add_eq c16_y4_l2 (show iv 1 1 1 from ⟨by decide, by decide⟩) ex45 (by decide)
              refine lv_iinc (v := x45) (lv' := [(2, .int x45), (0, .ref ap0), (1, .int y16_l1), (3, .int y16_l3)]) hx hb dX12_totalOf_45 hl (k := 2) rfl (by rw [ex45]; rfl) (by decide) rfl (fun ls hl => ?_)
              refine lv_goto (tgt := 4) hx hb dX12_totalOf_48 (by decide) ?_
              exact ih4 y16_l1 x45 (mu_up 1 hmu4 (qx45) (by decide) (show iv x45 0 12 from (bx45.mono (by decide) (by decide))).2) (bx45.mono (by decide) (by decide)) H16 locs16 hw hkm _ (lv_sub hl [1, 2, 0] rfl)
            · have r23fp : iv y16_l3 0 5 := (iv_lt_l (iv_nle c23) c16_y16_l3 bx22).mono (by decide) (by decide)
              have r23fq : iv x22 1 6 := (iv_lt_r (iv_nle c23) c16_y16_l3 bx22).mono (by decide) (by decide)
              refine lv_iload_n hx hb dX12_totalOf_26 rfl (lv_at hl 1 rfl) ?_
              refine lv_aload_n hx hb dX12_totalOf_27 rfl (lv_at hl 0 rfl) ?_
              refine lv_aload_n hx hb dX12_totalOf_28 rfl (lv_at hl 0 rfl) ?_
              refine hp_callpi (va_runV (As := []) (rest := [.ref ap0, .int y16_l1]) ⟨hx, hb, hml, hown, hts⟩ (sX12_everybody_0 l D T ap0 Gm ip0) (cwV 0 hts gX12_totalOf_X12_everybody rfl rfl rfl (by decide +kernel) ⟨Nat.le_of_ble_eq_true rfl, Nat.le_of_ble_eq_true rfl⟩) (hp_preV hG hw hp0 rfl trivial) rfl rfl hl.1 rfl (lv_room (Nat.le_of_ble_eq_true rfl)) dX12_totalOf_29 ⟨Nat.zero_le _, Nat.zero_le _⟩) (fun x29 bx29 => ?_)
              refine lv_iload_n hx hb dX12_totalOf_32 rfl (lv_at hl 3 rfl) ?_
              refine lv_iload_n hx hb dX12_totalOf_33 rfl (lv_at hl 2 rfl) ?_
              refine hp_callei (va_runV (As := [.int x29, .int y16_l3, .int y4_l2]) (rest := [.int y16_l1]) ⟨hx, hb, hml, hown, hts⟩ (sX12_sumOf l D T ap0 x29 y16_l3 y4_l2 Gm ip0 c16_y4_l2) (cwV 3 hts gX12_totalOf_X12_sumOf rfl rfl rfl (by decide +kernel) ⟨Nat.le_of_ble_eq_true rfl, Nat.le_of_ble_eq_true rfl⟩) (hp_preV hG hw hp0 rfl trivial) rfl rfl hl.1 rfl (lv_room (Nat.le_of_ble_eq_true rfl)) dX12_totalOf_34 ⟨Nat.zero_le _, Nat.zero_le _⟩) hw (fun x34 st34 t34 H34 locs34 eh34 eg34 bx34 hw => ?_)
              obtain ⟨bx34, g34⟩ := bx34
              rw [eh34, eg34] at g34
              have hkm := hkm.call g34 (by decide)
              refine lv_iadd hx hb dX12_totalOf_37 ?_
              refine lv_topi (fun x37 ex37 => ?_)
              refine lv_istore_n (lv' := [(1, .int x37), (0, .ref ap0), (2, .int y4_l2), (3, .int y16_l3)]) hx hb dX12_totalOf_38 rfl hl (by decide) rfl (fun ls hl => ?_)
              obtain ⟨x39, ex39⟩ : ∃ y : Int32, y = y16_l3 + 1 := ⟨_, rfl⟩
              have bx39 : iv x39 1 6 := iv_add r23fp (show iv 1 1 1 from ⟨by decide, by decide⟩) ex39 (by decide)
              have qx39 := iv_add_eq r23fp (show iv 1 1 1 from ⟨by decide, by decide⟩) ex39 (by decide)
              refine lv_iinc (v := x39) (lv' := [(3, .int x39), (1, .int x37), (0, .ref ap0), (2, .int y4_l2)]) hx hb dX12_totalOf_39 hl (k := 3) rfl (by rw [ex39]; rfl) (by decide) rfl (fun ls hl => ?_)
              refine lv_goto (tgt := 16) hx hb dX12_totalOf_42 (by decide) ?_
              exact ih16 x37 x39 (mu_up 1 hmu16 (qx39) (by decide) (show iv x39 0 6 from (bx39.mono (by decide) (by decide))).2) c16_y4_l2 (bx39.mono (by decide) (by decide)) H34 locs34 hw hkm _ (lv_sub hl [2, 1, 3, 0] rfl)
        exact J16 _ y4_l1 (0 : Int32) (Nat.lt_succ_self _) r11fp (show iv 0 0 6 from ⟨by decide, by decide⟩) H4 locs4 hw hkm _ (lv_sub hl [1, 2, 3, 0] rfl)
  exact J4 _ (0 : Int32) (0 : Int32) (Nat.lt_succ_self _) (show iv 0 0 12 from ⟨by decide, by decide⟩) s.heap [] hw hkm _ (lv_sub hl [2, 1, 0] rfl)
abbrev WX12_shake (p : Program) (l : Launch) (e : Env) (s : State) (m : MethodId) (below : List Frame) (meth : Method) (c : Code) (D : hp_D) (T : hp_T) (ap0 : Nat) (xp1 : Int32) (xp2 : Int32) (xp3 : Int32) (H : Heap) (locs : List Loc) (g : JFrame) : Prop := W p l e (headSpec wsX12_shake ({ frames := 4, cells := 0, slots := 0, locals := 100 })).room s m ([.ref ap0, .int xp1, .int xp2, .int xp3] : List Value).toArray below meth c H locs 0 0 (MQ below (hq_e D T (fun v _ _ => ∃ r : Int32, v = some (.int r) ∧ True)) ([.ref ap0, .int xp1, .int xp2, .int xp3] : List Value).toArray s 0 0 (hp_F T)) g
set_option maxHeartbeats 4000000 in
set_option maxRecDepth 100000 in
theorem sX12_shake (l : Launch) (D : hp_D) (T : hp_T) (ap0 : Nat) (xp1 : Int32) (xp2 : Int32) (xp3 : Int32) (Gm : moG) (ip0 : isMo T ap0 Gm) : Met l yX12_shake wsX12_shake ({ frames := 4, cells := 0, slots := 0, locals := 100 }) (hp_Pc D T [.ref ap0, .int xp1, .int xp2, .int xp3] (fun _ => True)) (hq_e D T (fun v _ _ => ∃ r : Int32, v = some (.int r) ∧ True)) 0 0 (hp_F T) := by
  obtain ⟨ap0tape, ap0sign, ap0len, ap0clause, ap0clauses, ap0read, ap0opn, ap0stack, ap0word, ap0said, ap0was, ap0fitting, ap0sums, ap0sort, ap0sumsBy, ap0oneOf, ap0otherOf, ap0kept, ap0images, ap0acts, ap0iUnd, ap0iFor, ap0iX, ap0made, gok, hp0, hp0tape, hp0sign, hp0len, hp0clause, hp0clauses, hp0read, hp0opn, hp0stack, hp0word, hp0said, hp0was, hp0fitting, hp0sums, hp0sort, hp0sumsBy, hp0oneOf, hp0otherOf, hp0kept, hp0images, hp0acts, hp0iUnd, hp0iFor, hp0iX, hp0made⟩ := id ip0
  have hpx := gok.1
  have gsok := gok.2.2.2.2
  have ggd := gok.2.2.2.1
  refine Met.ofW (cc := cX12_shake) (maxL := 5) (ret := (some .int)) (by decide) rfl ?_
  intro p e s m args below meth c s₁ B hml hv
  obtain ⟨rfl, hok, hG, hB⟩ := hv
  have hx := B.exec
  have hb := B.bytes
  have hr := B.returns
  have hts := atoms_spec (ws := wsX12_shake) B.pre
  have hown : s.vm.findClass RX12 = some m.cls := findClass_of_methodNamed B.named
  have hlocks := B.notSynchronized
  have hK := hG.1
  have hw : hp_w D T s s.heap [] := hp_w.rf hok
  have hl := lv_entry ([.ref ap0, .int xp1, .int xp2, .int xp3]) (n := 5) (Nat.le_of_ble_eq_true rfl)
  rw [lg_entry_eq]
  generalize (lg_sl ([.ref ap0, .int xp1, .int xp2, .int xp3]) ++ List.replicate (5 - (lg_sl ([.ref ap0, .int xp1, .int xp2, .int xp3])).length) Slot.unset).toArray = ls at hl ⊢
  have hl : lv_has ls 5 [(0, .ref ap0), (1, .int xp1), (2, .int xp2), (3, .int xp3)] := hl
  show WX12_shake p l e s m below meth c D T ap0 xp1 xp2 xp3 s.heap [] (F0 m 0 ls [])
  refine lv_aload_n hx hb dX12_shake_0 rfl (lv_at hl 0 rfl) ?_
  refine lv_iload_n hx hb dX12_shake_1 rfl (lv_at hl 1 rfl) ?_
  refine hp_callpi (va_runV (As := [.int xp1]) (rest := []) ⟨hx, hb, hml, hown, hts⟩ (sX12_isPerson l D T ap0 xp1 Gm ip0) (cwV 1 hts gX12_shake_X12_isPerson rfl rfl rfl (by decide +kernel) ⟨Nat.le_of_ble_eq_true rfl, Nat.le_of_ble_eq_true rfl⟩) (hp_preV hG hw hp0 rfl trivial) rfl rfl hl.1 rfl (lv_room (Nat.le_of_ble_eq_true rfl)) dX12_shake_2 ⟨Nat.zero_le _, Nat.zero_le _⟩) (fun x2 bx2 => ?_)
  obtain ⟨bx2, ix2_0⟩ := bx2
  have J39 : ∀ (H : Heap) (locs : List Loc), hp_w D T s H locs → ∀ (ls : Array Slot), lv_has ls 5 [] → WX12_shake p l e s m below meth c D T ap0 xp1 xp2 xp3 H locs (F0 m 39 ls []) := by
    intro H39 locs39 hw ls hl
    refine lv_sipush (v := (-1000)) hx hb dX12_shake_39 (by decide) ?_
    exact W.iret (v := (-1000)) hx hb hr (fun t ht hW => ⟨some (.int (-1000)), rfl, ⟨((-1000) : Int32), rfl, trivial⟩, by rw [ht]; exact hw.1, hw.2.F ht⟩) hw.2.2.2 dX12_shake_42
  refine lv_if_eq (tgt := 39) hx hb dX12_shake_5 (by decide) (fun c5 => ?_) (fun c5 => ?_)
  · have r5tp : iv x2 0 0 := (iv_both bx2 (iv_eq (show iv 0 0 0 from ⟨by decide, by decide⟩) c5)).mono (by decide) (by decide)
    exact J39 s.heap [] hw _ (lv_sub hl [] rfl)
  · have r5fp : iv x2 1 1 := (iv_ne_lo c5 bx2 rfl).mono (by decide) (by decide)
    have r5fpz : iv xp1 0 9 := (iv_both (iv_any xp1) (ix2_0 (iv_ne0 r5fp (by decide)))).mono (by decide) (by decide)
    refine lv_aload_n hx hb dX12_shake_8 rfl (lv_at hl 0 rfl) ?_
    refine lv_iload_n hx hb dX12_shake_9 rfl (lv_at hl 2 rfl) ?_
    refine hp_callpi (va_runV (As := [.int xp2]) (rest := []) ⟨hx, hb, hml, hown, hts⟩ (sX12_isPerson l D T ap0 xp2 Gm ip0) (cwV 1 hts gX12_shake_X12_isPerson rfl rfl rfl (by decide +kernel) ⟨Nat.le_of_ble_eq_true rfl, Nat.le_of_ble_eq_true rfl⟩) (hp_preV hG hw hp0 rfl trivial) rfl rfl hl.1 rfl (lv_room (Nat.le_of_ble_eq_true rfl)) dX12_shake_10 ⟨Nat.zero_le _, Nat.zero_le _⟩) (fun x10 bx10 => ?_)
    obtain ⟨bx10, ix10_0⟩ := bx10
    refine lv_if_eq (tgt := 39) hx hb dX12_shake_13 (by decide) (fun c13 => ?_) (fun c13 => ?_)
    · have r13tp : iv x10 0 0 := (iv_both bx10 (iv_eq (show iv 0 0 0 from ⟨by decide, by decide⟩) c13)).mono (by decide) (by decide)
      exact J39 s.heap [] hw _ (lv_sub hl [] rfl)
    · have r13fp : iv x10 1 1 := (iv_ne_lo c13 bx10 rfl).mono (by decide) (by decide)
      have r13fpz : iv xp2 0 9 := (iv_both (iv_any xp2) (ix10_0 (iv_ne0 r13fp (by decide)))).mono (by decide) (by decide)
      refine lv_iload_n hx hb dX12_shake_16 rfl (lv_at hl 1 rfl) ?_
      refine lv_iload_n hx hb dX12_shake_17 rfl (lv_at hl 2 rfl) ?_
      refine lv_icmp_eq (tgt := 39) hx hb dX12_shake_18 (by decide) (fun c18 => ?_) (fun c18 => ?_)
      · exact J39 s.heap [] hw _ (lv_sub hl [] rfl)
      · refine lv_aload_n hx hb dX12_shake_21 rfl (lv_at hl 0 rfl) ?_
        refine lv_iload_n hx hb dX12_shake_22 rfl (lv_at hl 3 rfl) ?_
        refine hp_callpi (va_runV (As := [.int xp3]) (rest := []) ⟨hx, hb, hml, hown, hts⟩ (sX12_isHour l D T ap0 xp3 Gm ip0) (cwV 1 hts gX12_shake_X12_isHour rfl rfl rfl (by decide +kernel) ⟨Nat.le_of_ble_eq_true rfl, Nat.le_of_ble_eq_true rfl⟩) (hp_preV hG hw hp0 rfl trivial) rfl rfl hl.1 rfl (lv_room (Nat.le_of_ble_eq_true rfl)) dX12_shake_23 ⟨Nat.zero_le _, Nat.zero_le _⟩) (fun x23 bx23 => ?_)
        obtain ⟨bx23, ix23_0⟩ := bx23
        refine lv_if_eq (tgt := 39) hx hb dX12_shake_26 (by decide) (fun c26 => ?_) (fun c26 => ?_)
        · have r26tp : iv x23 0 0 := (iv_both bx23 (iv_eq (show iv 0 0 0 from ⟨by decide, by decide⟩) c26)).mono (by decide) (by decide)
          exact J39 s.heap [] hw _ (lv_sub hl [] rfl)
        · have r26fp : iv x23 1 1 := (iv_ne_lo c26 bx23 rfl).mono (by decide) (by decide)
          have r26fpz : iv xp3 0 11 := (iv_both (iv_any xp3) (ix23_0 (iv_ne0 r26fp (by decide)))).mono (by decide) (by decide)
          refine lv_aload_n hx hb dX12_shake_29 rfl (lv_at hl 0 rfl) ?_
          refine lv_iload_n hx hb dX12_shake_30 rfl (lv_at hl 1 rfl) ?_
          refine lv_iload_n hx hb dX12_shake_31 rfl (lv_at hl 2 rfl) ?_
          refine lv_iload_n hx hb dX12_shake_32 rfl (lv_at hl 3 rfl) ?_
          refine hp_callpi (va_runV (As := [.int xp1, .int xp2, .int xp3]) (rest := []) ⟨hx, hb, hml, hown, hts⟩ (sX12_meetIn l D T ap0 xp1 xp2 xp3 Gm ip0 r5fpz r13fpz r26fpz) (cwV 3 hts gX12_shake_X12_meetIn rfl rfl rfl (by decide +kernel) ⟨Nat.le_of_ble_eq_true rfl, Nat.le_of_ble_eq_true rfl⟩) (hp_preV hG hw hp0 rfl trivial) rfl rfl hl.1 rfl (lv_room (Nat.le_of_ble_eq_true rfl)) dX12_shake_33 ⟨Nat.zero_le _, Nat.zero_le _⟩) (fun x33 bx33 => ?_)
          refine lv_if_ne (tgt := 43) hx hb dX12_shake_36 (by decide) (fun c36 => ?_) (fun c36 => ?_)
          · have r36tp : iv x33 1 1 := (iv_ne_lo c36 bx33 rfl).mono (by decide) (by decide)
            refine lv_aload_n hx hb dX12_shake_43 rfl (lv_at hl 0 rfl) ?_
            refine lv_aload_n hx hb dX12_shake_44 rfl (lv_at hl 0 rfl) ?_
            refine hp_callpi (va_runV (As := []) (rest := [.ref ap0]) ⟨hx, hb, hml, hown, hts⟩ (sX12_everybody_0 l D T ap0 Gm ip0) (cwV 0 hts gX12_shake_X12_everybody rfl rfl rfl (by decide +kernel) ⟨Nat.le_of_ble_eq_true rfl, Nat.le_of_ble_eq_true rfl⟩) (hp_preV hG hw hp0 rfl trivial) rfl rfl hl.1 rfl (lv_room (Nat.le_of_ble_eq_true rfl)) dX12_shake_45 ⟨Nat.zero_le _, Nat.zero_le _⟩) (fun x45 bx45 => ?_)
            refine lv_aload_n hx hb dX12_shake_48 rfl (lv_at hl 0 rfl) ?_
            refine lv_iload_n hx hb dX12_shake_49 rfl (lv_at hl 1 rfl) ?_
            refine lv_iload_n hx hb dX12_shake_50 rfl (lv_at hl 3 rfl) ?_
            refine hp_callpi (va_runV (As := [.int xp1, .int xp3]) (rest := [.int x45, .ref ap0]) ⟨hx, hb, hml, hown, hts⟩ (sX12_placeOf l D T ap0 xp1 xp3 Gm ip0 r5fpz r26fpz) (cwV 2 hts gX12_shake_X12_placeOf rfl rfl rfl (by decide +kernel) ⟨Nat.le_of_ble_eq_true rfl, Nat.le_of_ble_eq_true rfl⟩) (hp_preV hG hw hp0 rfl trivial) rfl rfl hl.1 rfl (lv_room (Nat.le_of_ble_eq_true rfl)) dX12_shake_51 ⟨Nat.zero_le _, Nat.zero_le _⟩) (fun x51 bx51 => ?_)
            refine lv_iload_n hx hb dX12_shake_54 rfl (lv_at hl 3 rfl) ?_
            refine hp_callpi (va_runV (As := [.int x45, .int x51, .int xp3]) (rest := []) ⟨hx, hb, hml, hown, hts⟩ (sX12_crowdOf l D T ap0 x45 x51 xp3 Gm ip0 r26fpz) (cwV 3 hts gX12_shake_X12_crowdOf rfl rfl rfl (by decide +kernel) ⟨Nat.le_of_ble_eq_true rfl, Nat.le_of_ble_eq_true rfl⟩) (hp_preV hG hw hp0 rfl trivial) rfl rfl hl.1 rfl (lv_room (Nat.le_of_ble_eq_true rfl)) dX12_shake_55 ⟨Nat.zero_le _, Nat.zero_le _⟩) (fun x55 bx55 => ?_)
            refine hp_callpi (va_runS (As := [.int x55]) (rest := []) ⟨hx, hb, hml, hown, hts⟩ (sX12_bits l D T x55) (va_cwS 1 hts gX12_shake_X12_bits rfl rfl rfl (by decide +kernel) ⟨Nat.le_of_ble_eq_true rfl, Nat.le_of_ble_eq_true rfl⟩) (hp_preS hG hw trivial) rfl rfl hl.1 rfl (lv_room (Nat.le_of_ble_eq_true rfl)) dX12_shake_58 ⟨Nat.zero_le _, Nat.zero_le _⟩) (fun x58 bx58 => ?_)
            refine lv_istore (lv' := [(4, .int x58), (0, .ref ap0), (1, .int xp1), (2, .int xp2), (3, .int xp3)]) hx hb dX12_shake_61 hl (by decide) rfl (fun ls hl => ?_)
            refine lv_iload_n hx hb dX12_shake_63 rfl (lv_at hl 2 rfl) ?_
            refine lv_iload_n hx hb dX12_shake_64 rfl (lv_at hl 3 rfl) ?_
            have J89 : ∀ (y89_s0 : Int32), ∀ (H : Heap) (locs : List Loc), hp_w D T s H locs → ∀ (ls : Array Slot), lv_has ls 5 [] → WX12_shake p l e s m below meth c D T ap0 xp1 xp2 xp3 H locs (F0 m 89 ls [.int y89_s0]) := by
              intro y89_s0 H89 locs89 hw ls hl
              exact W.iret (v := y89_s0) hx hb hr (fun t ht hW => ⟨some (.int y89_s0), rfl, ⟨y89_s0, rfl, trivial⟩, by rw [ht]; exact hw.1, hw.2.F ht⟩) hw.2.2.2 dX12_shake_89
            refine lv_icmp_ge (tgt := 80) hx hb dX12_shake_65 (by decide) (fun c65 => ?_) (fun c65 => ?_)
            · refine lv_aload_n hx hb dX12_shake_80 rfl (lv_at hl 1 rfl) ?_
              refine lv_iload_n hx hb dX12_shake_81 rfl (lv_at hl 3 rfl) ?_
              refine lv_iload_n hx hb dX12_shake_82 rfl (lv_at hl 2 rfl) ?_
              refine lv_iload_n hx hb dX12_shake_83 rfl (lv_at hl 4 rfl) ?_
              refine lv_iload hx hb dX12_shake_84 (lv_at hl 0 rfl) ?_
              refine hp_callei (va_runV (As := [.int xp2, .int xp1, .int xp3, .int x58]) (rest := []) ⟨hx, hb, hml, hown, hts⟩ (sX12_shakeOf l D T ap0 xp2 xp1 xp3 x58 Gm ip0 r13fpz r5fpz r26fpz) (cwV 4 hts gX12_shake_X12_shakeOf rfl rfl rfl (by decide +kernel) ⟨Nat.le_of_ble_eq_true rfl, Nat.le_of_ble_eq_true rfl⟩) (hp_preV hG hw hp0 rfl trivial) rfl rfl hl.1 rfl (lv_room (Nat.le_of_ble_eq_true rfl)) dX12_shake_86 ⟨Nat.zero_le _, Nat.zero_le _⟩) hw (fun x86 st86 t86 H86 locs86 eh86 eg86 bx86 hw => ?_)
              obtain ⟨bx86, g86⟩ := bx86
              rw [eh86, eg86] at g86
              exact J89 x86 H86 locs86 hw _ (lv_sub hl [] rfl)
            · have r65fp : iv xp1 0 8 := (iv_lt_l (iv_nle c65) r5fpz r13fpz).mono (by decide) (by decide)
              have r65fq : iv xp2 1 9 := (iv_lt_r (iv_nle c65) r5fpz r13fpz).mono (by decide) (by decide)
              refine lv_aload_n hx hb dX12_shake_68 rfl (lv_at hl 1 rfl) ?_
              refine lv_iload_n hx hb dX12_shake_69 rfl (lv_at hl 2 rfl) ?_
              refine lv_iload_n hx hb dX12_shake_70 rfl (lv_at hl 3 rfl) ?_
              refine lv_iload_n hx hb dX12_shake_71 rfl (lv_at hl 4 rfl) ?_
              refine lv_iload hx hb dX12_shake_72 (lv_at hl 0 rfl) ?_
              refine hp_callei (va_runV (As := [.int xp1, .int xp2, .int xp3, .int x58]) (rest := []) ⟨hx, hb, hml, hown, hts⟩ (sX12_shakeOf l D T ap0 xp1 xp2 xp3 x58 Gm ip0 (r65fp.mono (by decide) (by decide)) (r65fq.mono (by decide) (by decide)) r26fpz) (cwV 4 hts gX12_shake_X12_shakeOf rfl rfl rfl (by decide +kernel) ⟨Nat.le_of_ble_eq_true rfl, Nat.le_of_ble_eq_true rfl⟩) (hp_preV hG hw hp0 rfl trivial) rfl rfl hl.1 rfl (lv_room (Nat.le_of_ble_eq_true rfl)) dX12_shake_74 ⟨Nat.zero_le _, Nat.zero_le _⟩) hw (fun x74 st74 t74 H74 locs74 eh74 eg74 bx74 hw => ?_)
              obtain ⟨bx74, g74⟩ := bx74
              rw [eh74, eg74] at g74
              refine lv_goto (tgt := 89) hx hb dX12_shake_77 (by decide) ?_
              exact J89 x74 H74 locs74 hw _ (lv_sub hl [] rfl)
          · have r36fp : iv x33 0 0 := (iv_both bx33 (iv_eq (show iv 0 0 0 from ⟨by decide, by decide⟩) c36)).mono (by decide) (by decide)
            exact J39 s.heap [] hw _ (lv_sub hl [] rfl)
abbrev WX12_sum (p : Program) (l : Launch) (e : Env) (s : State) (m : MethodId) (below : List Frame) (meth : Method) (c : Code) (D : hp_D) (T : hp_T) (ap0 : Nat) (xp1 : Int32) (xp2 : Int32) (H : Heap) (locs : List Loc) (g : JFrame) : Prop := W p l e (headSpec wsX12_sum ({ frames := 5, cells := 0, slots := 0, locals := 128 })).room s m ([.ref ap0, .int xp1, .int xp2] : List Value).toArray below meth c H locs 0 0 (MQ below (hq_e D T (fun v _ _ => ∃ r : Int32, v = some (.int r) ∧ True)) ([.ref ap0, .int xp1, .int xp2] : List Value).toArray s 0 0 (hp_F T)) g
set_option maxHeartbeats 4000000 in
set_option maxRecDepth 100000 in
theorem sX12_sum (l : Launch) (D : hp_D) (T : hp_T) (ap0 : Nat) (xp1 : Int32) (xp2 : Int32) (Gm : moG) (ip0 : isMo T ap0 Gm) : Met l yX12_sum wsX12_sum ({ frames := 5, cells := 0, slots := 0, locals := 128 }) (hp_Pc D T [.ref ap0, .int xp1, .int xp2] (fun _ => True)) (hq_e D T (fun v _ _ => ∃ r : Int32, v = some (.int r) ∧ True)) 0 0 (hp_F T) := by
  obtain ⟨ap0tape, ap0sign, ap0len, ap0clause, ap0clauses, ap0read, ap0opn, ap0stack, ap0word, ap0said, ap0was, ap0fitting, ap0sums, ap0sort, ap0sumsBy, ap0oneOf, ap0otherOf, ap0kept, ap0images, ap0acts, ap0iUnd, ap0iFor, ap0iX, ap0made, gok, hp0, hp0tape, hp0sign, hp0len, hp0clause, hp0clauses, hp0read, hp0opn, hp0stack, hp0word, hp0said, hp0was, hp0fitting, hp0sums, hp0sort, hp0sumsBy, hp0oneOf, hp0otherOf, hp0kept, hp0images, hp0acts, hp0iUnd, hp0iFor, hp0iX, hp0made⟩ := id ip0
  have hpx := gok.1
  have gsok := gok.2.2.2.2
  have ggd := gok.2.2.2.1
  refine Met.ofW (cc := cX12_sum) (maxL := 3) (ret := (some .int)) (by decide) rfl ?_
  intro p e s m args below meth c s₁ B hml hv
  obtain ⟨rfl, hok, hG, hB⟩ := hv
  have hx := B.exec
  have hb := B.bytes
  have hr := B.returns
  have hts := atoms_spec (ws := wsX12_sum) B.pre
  have hown : s.vm.findClass RX12 = some m.cls := findClass_of_methodNamed B.named
  have hlocks := B.notSynchronized
  have hK := hG.1
  have hw : hp_w D T s s.heap [] := hp_w.rf hok
  have K356 := hts (.constant RX12 356 (-1000000)) (by decide +kernel)
  have hl := lv_entry ([.ref ap0, .int xp1, .int xp2]) (n := 3) (Nat.le_of_ble_eq_true rfl)
  rw [lg_entry_eq]
  generalize (lg_sl ([.ref ap0, .int xp1, .int xp2]) ++ List.replicate (3 - (lg_sl ([.ref ap0, .int xp1, .int xp2])).length) Slot.unset).toArray = ls at hl ⊢
  have hl : lv_has ls 3 [(0, .ref ap0), (1, .int xp1), (2, .int xp2)] := hl
  show WX12_sum p l e s m below meth c D T ap0 xp1 xp2 s.heap [] (F0 m 0 ls [])
  refine lv_aload_n hx hb dX12_sum_0 rfl (lv_at hl 0 rfl) ?_
  refine lv_iload_n hx hb dX12_sum_1 rfl (lv_at hl 1 rfl) ?_
  refine hp_callpi (va_runV (As := [.int xp1]) (rest := []) ⟨hx, hb, hml, hown, hts⟩ (sX12_isGate l D T ap0 xp1 Gm ip0) (cwV 1 hts gX12_sum_X12_isGate rfl rfl rfl (by decide +kernel) ⟨Nat.le_of_ble_eq_true rfl, Nat.le_of_ble_eq_true rfl⟩) (hp_preV hG hw hp0 rfl trivial) rfl rfl hl.1 rfl (lv_room (Nat.le_of_ble_eq_true rfl)) dX12_sum_2 ⟨Nat.zero_le _, Nat.zero_le _⟩) (fun x2 bx2 => ?_)
  obtain ⟨bx2, ix2_0⟩ := bx2
  have J32 : ∀ (y32_s0 : Int32), ∀ (H : Heap) (locs : List Loc), hp_w D T s H locs → ∀ (ls : Array Slot), lv_has ls 3 [] → WX12_sum p l e s m below meth c D T ap0 xp1 xp2 H locs (F0 m 32 ls [.int y32_s0]) := by
    intro y32_s0 H32 locs32 hw ls hl
    exact W.iret (v := y32_s0) hx hb hr (fun t ht hW => ⟨some (.int y32_s0), rfl, ⟨y32_s0, rfl, trivial⟩, by rw [ht]; exact hw.1, hw.2.F ht⟩) hw.2.2.2 dX12_sum_32
  have J29 : ∀ (H : Heap) (locs : List Loc), hp_w D T s H locs → ∀ (ls : Array Slot), lv_has ls 3 [] → WX12_sum p l e s m below meth c D T ap0 xp1 xp2 H locs (F0 m 29 ls []) := by
    intro H29 locs29 hw ls hl
    refine lv_ldcw (v := (-1000000)) hx hb hown K356 dX12_sum_29 ?_
    exact J32 ((-1000000) : Int32) H29 locs29 hw _ (lv_sub hl [] rfl)
  refine lv_if_eq (tgt := 29) hx hb dX12_sum_5 (by decide) (fun c5 => ?_) (fun c5 => ?_)
  · have r5tp : iv x2 0 0 := (iv_both bx2 (iv_eq (show iv 0 0 0 from ⟨by decide, by decide⟩) c5)).mono (by decide) (by decide)
    exact J29 s.heap [] hw _ (lv_sub hl [] rfl)
  · have r5fp : iv x2 1 1 := (iv_ne_lo c5 bx2 rfl).mono (by decide) (by decide)
    have r5fpz : iv xp1 0 5 := (iv_both (iv_any xp1) (ix2_0 (iv_ne0 r5fp (by decide)))).mono (by decide) (by decide)
    refine lv_aload_n hx hb dX12_sum_8 rfl (lv_at hl 0 rfl) ?_
    refine lv_iload_n hx hb dX12_sum_9 rfl (lv_at hl 2 rfl) ?_
    refine hp_callpi (va_runV (As := [.int xp2]) (rest := []) ⟨hx, hb, hml, hown, hts⟩ (sX12_isHour l D T ap0 xp2 Gm ip0) (cwV 1 hts gX12_sum_X12_isHour rfl rfl rfl (by decide +kernel) ⟨Nat.le_of_ble_eq_true rfl, Nat.le_of_ble_eq_true rfl⟩) (hp_preV hG hw hp0 rfl trivial) rfl rfl hl.1 rfl (lv_room (Nat.le_of_ble_eq_true rfl)) dX12_sum_10 ⟨Nat.zero_le _, Nat.zero_le _⟩) (fun x10 bx10 => ?_)
    obtain ⟨bx10, ix10_0⟩ := bx10
    refine lv_if_eq (tgt := 29) hx hb dX12_sum_13 (by decide) (fun c13 => ?_) (fun c13 => ?_)
    · have r13tp : iv x10 0 0 := (iv_both bx10 (iv_eq (show iv 0 0 0 from ⟨by decide, by decide⟩) c13)).mono (by decide) (by decide)
      exact J29 s.heap [] hw _ (lv_sub hl [] rfl)
    · have r13fp : iv x10 1 1 := (iv_ne_lo c13 bx10 rfl).mono (by decide) (by decide)
      have r13fpz : iv xp2 0 11 := (iv_both (iv_any xp2) (ix10_0 (iv_ne0 r13fp (by decide)))).mono (by decide) (by decide)
      refine lv_aload_n hx hb dX12_sum_16 rfl (lv_at hl 0 rfl) ?_
      refine lv_aload_n hx hb dX12_sum_17 rfl (lv_at hl 0 rfl) ?_
      refine hp_callpi (va_runV (As := []) (rest := [.ref ap0]) ⟨hx, hb, hml, hown, hts⟩ (sX12_everybody_0 l D T ap0 Gm ip0) (cwV 0 hts gX12_sum_X12_everybody rfl rfl rfl (by decide +kernel) ⟨Nat.le_of_ble_eq_true rfl, Nat.le_of_ble_eq_true rfl⟩) (hp_preV hG hw hp0 rfl trivial) rfl rfl hl.1 rfl (lv_room (Nat.le_of_ble_eq_true rfl)) dX12_sum_18 ⟨Nat.zero_le _, Nat.zero_le _⟩) (fun x18 bx18 => ?_)
      refine lv_iload_n hx hb dX12_sum_21 rfl (lv_at hl 1 rfl) ?_
      refine lv_iload_n hx hb dX12_sum_22 rfl (lv_at hl 2 rfl) ?_
      refine hp_callei (va_runV (As := [.int x18, .int xp1, .int xp2]) (rest := []) ⟨hx, hb, hml, hown, hts⟩ (sX12_sumOf l D T ap0 x18 xp1 xp2 Gm ip0 r13fpz) (cwV 3 hts gX12_sum_X12_sumOf rfl rfl rfl (by decide +kernel) ⟨Nat.le_of_ble_eq_true rfl, Nat.le_of_ble_eq_true rfl⟩) (hp_preV hG hw hp0 rfl trivial) rfl rfl hl.1 rfl (lv_room (Nat.le_of_ble_eq_true rfl)) dX12_sum_23 ⟨Nat.zero_le _, Nat.zero_le _⟩) hw (fun x23 st23 t23 H23 locs23 eh23 eg23 bx23 hw => ?_)
      obtain ⟨bx23, g23⟩ := bx23
      rw [eh23, eg23] at g23
      refine lv_goto (tgt := 32) hx hb dX12_sum_26 (by decide) ?_
      exact J32 x23 H23 locs23 hw _ (lv_sub hl [] rfl)
abbrev WX12_heard (p : Program) (l : Launch) (e : Env) (s : State) (m : MethodId) (below : List Frame) (meth : Method) (c : Code) (D : hp_D) (T : hp_T) (ap0 : Nat) (xp1 : Int32) (xp2 : Int32) (H : Heap) (locs : List Loc) (g : JFrame) : Prop := W p l e (headSpec wsX12_heard ({ frames := 5, cells := 0, slots := 0, locals := 128 })).room s m ([.ref ap0, .int xp1, .int xp2] : List Value).toArray below meth c H locs 0 0 (MQ below (hq_e D T (fun v _ _ => ∃ r : Int32, v = some (.int r) ∧ True)) ([.ref ap0, .int xp1, .int xp2] : List Value).toArray s 0 0 (hp_F T)) g
set_option maxHeartbeats 4000000 in
set_option maxRecDepth 100000 in
theorem sX12_heard (l : Launch) (D : hp_D) (T : hp_T) (ap0 : Nat) (xp1 : Int32) (xp2 : Int32) (Gm : moG) (ip0 : isMo T ap0 Gm) : Met l yX12_heard wsX12_heard ({ frames := 5, cells := 0, slots := 0, locals := 128 }) (hp_Pc D T [.ref ap0, .int xp1, .int xp2] (fun _ => True)) (hq_e D T (fun v _ _ => ∃ r : Int32, v = some (.int r) ∧ True)) 0 0 (hp_F T) := by
  obtain ⟨ap0tape, ap0sign, ap0len, ap0clause, ap0clauses, ap0read, ap0opn, ap0stack, ap0word, ap0said, ap0was, ap0fitting, ap0sums, ap0sort, ap0sumsBy, ap0oneOf, ap0otherOf, ap0kept, ap0images, ap0acts, ap0iUnd, ap0iFor, ap0iX, ap0made, gok, hp0, hp0tape, hp0sign, hp0len, hp0clause, hp0clauses, hp0read, hp0opn, hp0stack, hp0word, hp0said, hp0was, hp0fitting, hp0sums, hp0sort, hp0sumsBy, hp0oneOf, hp0otherOf, hp0kept, hp0images, hp0acts, hp0iUnd, hp0iFor, hp0iX, hp0made⟩ := id ip0
  have hpx := gok.1
  have gsok := gok.2.2.2.2
  have ggd := gok.2.2.2.1
  refine Met.ofW (cc := cX12_heard) (maxL := 3) (ret := (some .int)) (by decide) rfl ?_
  intro p e s m args below meth c s₁ B hml hv
  obtain ⟨rfl, hok, hG, hB⟩ := hv
  have hx := B.exec
  have hb := B.bytes
  have hr := B.returns
  have hts := atoms_spec (ws := wsX12_heard) B.pre
  have hown : s.vm.findClass RX12 = some m.cls := findClass_of_methodNamed B.named
  have hlocks := B.notSynchronized
  have hK := hG.1
  have hw : hp_w D T s s.heap [] := hp_w.rf hok
  have IX12 : ∀ w ∈ wsX120, w ∈ wsX12_heard := by decide +kernel
  have K356 := hts (.constant RX12 356 (-1000000)) (by decide +kernel)
  have L39 := hts (.fieldLink RX12 39 "PalmCensusModel" "said" "[I") (by decide +kernel)
  have hl := lv_entry ([.ref ap0, .int xp1, .int xp2]) (n := 3) (Nat.le_of_ble_eq_true rfl)
  rw [lg_entry_eq]
  generalize (lg_sl ([.ref ap0, .int xp1, .int xp2]) ++ List.replicate (3 - (lg_sl ([.ref ap0, .int xp1, .int xp2])).length) Slot.unset).toArray = ls at hl ⊢
  have hl : lv_has ls 3 [(0, .ref ap0), (1, .int xp1), (2, .int xp2)] := hl
  show WX12_heard p l e s m below meth c D T ap0 xp1 xp2 s.heap [] (F0 m 0 ls [])
  refine lv_aload_n hx hb dX12_heard_0 rfl (lv_at hl 0 rfl) ?_
  refine lv_iload_n hx hb dX12_heard_1 rfl (lv_at hl 1 rfl) ?_
  refine hp_callpi (va_runV (As := [.int xp1]) (rest := []) ⟨hx, hb, hml, hown, hts⟩ (sX12_isGate l D T ap0 xp1 Gm ip0) (cwV 1 hts gX12_heard_X12_isGate rfl rfl rfl (by decide +kernel) ⟨Nat.le_of_ble_eq_true rfl, Nat.le_of_ble_eq_true rfl⟩) (hp_preV hG hw hp0 rfl trivial) rfl rfl hl.1 rfl (lv_room (Nat.le_of_ble_eq_true rfl)) dX12_heard_2 ⟨Nat.zero_le _, Nat.zero_le _⟩) (fun x2 bx2 => ?_)
  obtain ⟨bx2, ix2_0⟩ := bx2
  have J45 : ∀ (y45_s0 : Int32), ∀ (H : Heap) (locs : List Loc), hp_w D T s H locs → ∀ (ls : Array Slot), lv_has ls 3 [] → WX12_heard p l e s m below meth c D T ap0 xp1 xp2 H locs (F0 m 45 ls [.int y45_s0]) := by
    intro y45_s0 H45 locs45 hw ls hl
    exact W.iret (v := y45_s0) hx hb hr (fun t ht hW => ⟨some (.int y45_s0), rfl, ⟨y45_s0, rfl, trivial⟩, by rw [ht]; exact hw.1, hw.2.F ht⟩) hw.2.2.2 dX12_heard_45
  have J42 : ∀ (H : Heap) (locs : List Loc), hp_w D T s H locs → ∀ (ls : Array Slot), lv_has ls 3 [] → WX12_heard p l e s m below meth c D T ap0 xp1 xp2 H locs (F0 m 42 ls []) := by
    intro H42 locs42 hw ls hl
    refine lv_ldcw (v := (-1000000)) hx hb hown K356 dX12_heard_42 ?_
    exact J45 ((-1000000) : Int32) H42 locs42 hw _ (lv_sub hl [] rfl)
  refine lv_if_eq (tgt := 42) hx hb dX12_heard_5 (by decide) (fun c5 => ?_) (fun c5 => ?_)
  · have r5tp : iv x2 0 0 := (iv_both bx2 (iv_eq (show iv 0 0 0 from ⟨by decide, by decide⟩) c5)).mono (by decide) (by decide)
    exact J42 s.heap [] hw _ (lv_sub hl [] rfl)
  · have r5fp : iv x2 1 1 := (iv_ne_lo c5 bx2 rfl).mono (by decide) (by decide)
    have r5fpz : iv xp1 0 5 := (iv_both (iv_any xp1) (ix2_0 (iv_ne0 r5fp (by decide)))).mono (by decide) (by decide)
    refine lv_aload_n hx hb dX12_heard_8 rfl (lv_at hl 0 rfl) ?_
    refine lv_iload_n hx hb dX12_heard_9 rfl (lv_at hl 2 rfl) ?_
    refine hp_callpi (va_runV (As := [.int xp2]) (rest := []) ⟨hx, hb, hml, hown, hts⟩ (sX12_isHour l D T ap0 xp2 Gm ip0) (cwV 1 hts gX12_heard_X12_isHour rfl rfl rfl (by decide +kernel) ⟨Nat.le_of_ble_eq_true rfl, Nat.le_of_ble_eq_true rfl⟩) (hp_preV hG hw hp0 rfl trivial) rfl rfl hl.1 rfl (lv_room (Nat.le_of_ble_eq_true rfl)) dX12_heard_10 ⟨Nat.zero_le _, Nat.zero_le _⟩) (fun x10 bx10 => ?_)
    obtain ⟨bx10, ix10_0⟩ := bx10
    refine lv_if_eq (tgt := 42) hx hb dX12_heard_13 (by decide) (fun c13 => ?_) (fun c13 => ?_)
    · have r13tp : iv x10 0 0 := (iv_both bx10 (iv_eq (show iv 0 0 0 from ⟨by decide, by decide⟩) c13)).mono (by decide) (by decide)
      exact J42 s.heap [] hw _ (lv_sub hl [] rfl)
    · have r13fp : iv x10 1 1 := (iv_ne_lo c13 bx10 rfl).mono (by decide) (by decide)
      have r13fpz : iv xp2 0 11 := (iv_both (iv_any xp2) (ix10_0 (iv_ne0 r13fp (by decide)))).mono (by decide) (by decide)
      refine lv_aload_n hx hb dX12_heard_16 rfl (lv_at hl 0 rfl) ?_
      refine hp_getr hx hb hts IX12 hown hK hw.1 hp0 rfl 20 (by decide) L39 rfl dX12_heard_17 ?_
      refine lv_iconst (v := 4) hx hb dX12_heard_20 (by decide) ?_
      refine hp_iald hx hb hK hw.1 hp0said (vp_iv (show iv 4 4 4 from ⟨by decide, by decide⟩) (by decide)) dX12_heard_21 (fun v21 hr21 => ?_)
      have h21 := gsok _ _ hr21
      obtain ⟨x21, rfl⟩ := sP_any h21
      refine lv_iload_n hx hb dX12_heard_22 rfl (lv_at hl 1 rfl) ?_
      refine hp_callpi (va_runS (As := [.int x21, .int xp1]) (rest := []) ⟨hx, hb, hml, hown, hts⟩ (sX12_isOf l D T x21 xp1) (va_cwS 2 hts gX12_heard_X12_isOf rfl rfl rfl (by decide +kernel) ⟨Nat.le_of_ble_eq_true rfl, Nat.le_of_ble_eq_true rfl⟩) (hp_preS hG hw trivial) rfl rfl hl.1 rfl (lv_room (Nat.le_of_ble_eq_true rfl)) dX12_heard_23 ⟨Nat.zero_le _, Nat.zero_le _⟩) (fun x23 bx23 => ?_)
      refine lv_if_eq (tgt := 42) hx hb dX12_heard_26 (by decide) (fun c26 => ?_) (fun c26 => ?_)
      · have r26tp : iv x23 0 0 := (iv_both bx23 (iv_eq (show iv 0 0 0 from ⟨by decide, by decide⟩) c26)).mono (by decide) (by decide)
        exact J42 s.heap [] hw _ (lv_sub hl [] rfl)
      · have r26fp : iv x23 1 1 := (iv_ne_lo c26 bx23 rfl).mono (by decide) (by decide)
        refine lv_aload_n hx hb dX12_heard_29 rfl (lv_at hl 0 rfl) ?_
        refine lv_aload_n hx hb dX12_heard_30 rfl (lv_at hl 0 rfl) ?_
        refine hp_callpi (va_runV (As := []) (rest := [.ref ap0]) ⟨hx, hb, hml, hown, hts⟩ (sX12_everybody_0 l D T ap0 Gm ip0) (cwV 0 hts gX12_heard_X12_everybody rfl rfl rfl (by decide +kernel) ⟨Nat.le_of_ble_eq_true rfl, Nat.le_of_ble_eq_true rfl⟩) (hp_preV hG hw hp0 rfl trivial) rfl rfl hl.1 rfl (lv_room (Nat.le_of_ble_eq_true rfl)) dX12_heard_31 ⟨Nat.zero_le _, Nat.zero_le _⟩) (fun x31 bx31 => ?_)
        refine lv_iload_n hx hb dX12_heard_34 rfl (lv_at hl 1 rfl) ?_
        refine lv_iload_n hx hb dX12_heard_35 rfl (lv_at hl 2 rfl) ?_
        refine hp_callei (va_runV (As := [.int x31, .int xp1, .int xp2]) (rest := []) ⟨hx, hb, hml, hown, hts⟩ (sX12_sumOf l D T ap0 x31 xp1 xp2 Gm ip0 r13fpz) (cwV 3 hts gX12_heard_X12_sumOf rfl rfl rfl (by decide +kernel) ⟨Nat.le_of_ble_eq_true rfl, Nat.le_of_ble_eq_true rfl⟩) (hp_preV hG hw hp0 rfl trivial) rfl rfl hl.1 rfl (lv_room (Nat.le_of_ble_eq_true rfl)) dX12_heard_36 ⟨Nat.zero_le _, Nat.zero_le _⟩) hw (fun x36 st36 t36 H36 locs36 eh36 eg36 bx36 hw => ?_)
        obtain ⟨bx36, g36⟩ := bx36
        rw [eh36, eg36] at g36
        refine lv_goto (tgt := 45) hx hb dX12_heard_39 (by decide) ?_
        exact J45 x36 H36 locs36 hw _ (lv_sub hl [] rfl)
abbrev WX12_total (p : Program) (l : Launch) (e : Env) (s : State) (m : MethodId) (below : List Frame) (meth : Method) (c : Code) (D : hp_D) (T : hp_T) (ap0 : Nat) (H : Heap) (locs : List Loc) (g : JFrame) : Prop := W p l e (headSpec wsX12_total ({ frames := 6, cells := 0, slots := 0, locals := 151 })).room s m ([.ref ap0] : List Value).toArray below meth c H locs 0 0 (MQ below (hq_e D T (fun v _ _ => ∃ r : Int32, v = some (.int r) ∧ True)) ([.ref ap0] : List Value).toArray s 0 0 (hp_F T)) g
set_option maxHeartbeats 4000000 in
set_option maxRecDepth 100000 in
theorem sX12_total (l : Launch) (D : hp_D) (T : hp_T) (ap0 : Nat) (Gm : moG) (ip0 : isMo T ap0 Gm) : Met l yX12_total wsX12_total ({ frames := 6, cells := 0, slots := 0, locals := 151 }) (hp_Pc D T [.ref ap0] (fun _ => True)) (hq_e D T (fun v _ _ => ∃ r : Int32, v = some (.int r) ∧ True)) 0 0 (hp_F T) := by
  obtain ⟨ap0tape, ap0sign, ap0len, ap0clause, ap0clauses, ap0read, ap0opn, ap0stack, ap0word, ap0said, ap0was, ap0fitting, ap0sums, ap0sort, ap0sumsBy, ap0oneOf, ap0otherOf, ap0kept, ap0images, ap0acts, ap0iUnd, ap0iFor, ap0iX, ap0made, gok, hp0, hp0tape, hp0sign, hp0len, hp0clause, hp0clauses, hp0read, hp0opn, hp0stack, hp0word, hp0said, hp0was, hp0fitting, hp0sums, hp0sort, hp0sumsBy, hp0oneOf, hp0otherOf, hp0kept, hp0images, hp0acts, hp0iUnd, hp0iFor, hp0iX, hp0made⟩ := id ip0
  have hpx := gok.1
  have gsok := gok.2.2.2.2
  have ggd := gok.2.2.2.1
  refine Met.ofW (cc := cX12_total) (maxL := 1) (ret := (some .int)) (by decide) rfl ?_
  intro p e s m args below meth c s₁ B hml hv
  obtain ⟨rfl, hok, hG, hB⟩ := hv
  have hx := B.exec
  have hb := B.bytes
  have hr := B.returns
  have hts := atoms_spec (ws := wsX12_total) B.pre
  have hown : s.vm.findClass RX12 = some m.cls := findClass_of_methodNamed B.named
  have hlocks := B.notSynchronized
  have hK := hG.1
  have hw : hp_w D T s s.heap [] := hp_w.rf hok
  have hl := lv_entry ([.ref ap0]) (n := 1) (Nat.le_of_ble_eq_true rfl)
  rw [lg_entry_eq]
  generalize (lg_sl ([.ref ap0]) ++ List.replicate (1 - (lg_sl ([.ref ap0])).length) Slot.unset).toArray = ls at hl ⊢
  have hl : lv_has ls 1 [(0, .ref ap0)] := hl
  show WX12_total p l e s m below meth c D T ap0 s.heap [] (F0 m 0 ls [])
  refine lv_aload_n hx hb dX12_total_0 rfl (lv_at hl 0 rfl) ?_
  refine hp_callei (va_runV (As := []) (rest := []) ⟨hx, hb, hml, hown, hts⟩ (sX12_totalOf l D T ap0 Gm ip0) (cwV 0 hts gX12_total_X12_totalOf rfl rfl rfl (by decide +kernel) ⟨Nat.le_of_ble_eq_true rfl, Nat.le_of_ble_eq_true rfl⟩) (hp_preV hG hw hp0 rfl trivial) rfl rfl hl.1 rfl (lv_room (Nat.le_of_ble_eq_true rfl)) dX12_total_1 ⟨Nat.zero_le _, Nat.zero_le _⟩) hw (fun x1 st1 t1 H1 locs1 eh1 eg1 bx1 hw => ?_)
  obtain ⟨bx1, g1⟩ := bx1
  rw [eh1, eg1] at g1
  exact W.iret (v := x1) hx hb hr (fun t ht hW => ⟨some (.int x1), rfl, ⟨x1, rfl, trivial⟩, by rw [ht]; exact hw.1, hw.2.F ht⟩) hw.2.2.2 dX12_total_4
abbrev WX12_street (p : Program) (l : Launch) (e : Env) (s : State) (m : MethodId) (below : List Frame) (meth : Method) (c : Code) (D : hp_D) (T : hp_T) (ap0 : Nat) (xp1 : Int32) (xp2 : Int32) (xp3 : Int32) (H : Heap) (locs : List Loc) (g : JFrame) : Prop := W p l e (headSpec wsX12_street ({ frames := 5, cells := 0, slots := 0, locals := 128 })).room s m ([.ref ap0, .int xp1, .int xp2, .int xp3] : List Value).toArray below meth c H locs 0 0 (MQ below (hq_e D T (fun v _ _ => ∃ r : Int32, v = some (.int r) ∧ True)) ([.ref ap0, .int xp1, .int xp2, .int xp3] : List Value).toArray s 0 0 (hp_F T)) g
set_option maxHeartbeats 4000000 in
set_option maxRecDepth 100000 in
theorem sX12_street (l : Launch) (D : hp_D) (T : hp_T) (ap0 : Nat) (xp1 : Int32) (xp2 : Int32) (xp3 : Int32) (Gm : moG) (ip0 : isMo T ap0 Gm) : Met l yX12_street wsX12_street ({ frames := 5, cells := 0, slots := 0, locals := 128 }) (hp_Pc D T [.ref ap0, .int xp1, .int xp2, .int xp3] (fun _ => True)) (hq_e D T (fun v _ _ => ∃ r : Int32, v = some (.int r) ∧ True)) 0 0 (hp_F T) := by
  obtain ⟨ap0tape, ap0sign, ap0len, ap0clause, ap0clauses, ap0read, ap0opn, ap0stack, ap0word, ap0said, ap0was, ap0fitting, ap0sums, ap0sort, ap0sumsBy, ap0oneOf, ap0otherOf, ap0kept, ap0images, ap0acts, ap0iUnd, ap0iFor, ap0iX, ap0made, gok, hp0, hp0tape, hp0sign, hp0len, hp0clause, hp0clauses, hp0read, hp0opn, hp0stack, hp0word, hp0said, hp0was, hp0fitting, hp0sums, hp0sort, hp0sumsBy, hp0oneOf, hp0otherOf, hp0kept, hp0images, hp0acts, hp0iUnd, hp0iFor, hp0iX, hp0made⟩ := id ip0
  have hpx := gok.1
  have gsok := gok.2.2.2.2
  have ggd := gok.2.2.2.1
  refine Met.ofW (cc := cX12_street) (maxL := 7) (ret := (some .int)) (by decide) rfl ?_
  intro p e s m args below meth c s₁ B hml hv
  obtain ⟨rfl, hok, hG, hB⟩ := hv
  have hx := B.exec
  have hb := B.bytes
  have hr := B.returns
  have hts := atoms_spec (ws := wsX12_street) B.pre
  have hown : s.vm.findClass RX12 = some m.cls := findClass_of_methodNamed B.named
  have hlocks := B.notSynchronized
  have hK := hG.1
  have hw : hp_w D T s s.heap [] := hp_w.rf hok
  have IX12 : ∀ w ∈ wsX120, w ∈ wsX12_street := by decide +kernel
  have K356 := hts (.constant RX12 356 (-1000000)) (by decide +kernel)
  have L39 := hts (.fieldLink RX12 39 "PalmCensusModel" "said" "[I") (by decide +kernel)
  have hl := lv_entry ([.ref ap0, .int xp1, .int xp2, .int xp3]) (n := 7) (Nat.le_of_ble_eq_true rfl)
  rw [lg_entry_eq]
  generalize (lg_sl ([.ref ap0, .int xp1, .int xp2, .int xp3]) ++ List.replicate (7 - (lg_sl ([.ref ap0, .int xp1, .int xp2, .int xp3])).length) Slot.unset).toArray = ls at hl ⊢
  have hl : lv_has ls 7 [(0, .ref ap0), (1, .int xp1), (2, .int xp2), (3, .int xp3)] := hl
  show WX12_street p l e s m below meth c D T ap0 xp1 xp2 xp3 s.heap [] (F0 m 0 ls [])
  refine lv_aload_n hx hb dX12_street_0 rfl (lv_at hl 0 rfl) ?_
  refine hp_callpi (va_runV (As := []) (rest := []) ⟨hx, hb, hml, hown, hts⟩ (sX12_isTown l D T ap0 Gm ip0) (cwV 0 hts gX12_street_X12_isTown rfl rfl rfl (by decide +kernel) ⟨Nat.le_of_ble_eq_true rfl, Nat.le_of_ble_eq_true rfl⟩) (hp_preV hG hw hp0 rfl trivial) rfl rfl hl.1 rfl (lv_room (Nat.le_of_ble_eq_true rfl)) dX12_street_1 ⟨Nat.zero_le _, Nat.zero_le _⟩) (fun x1 bx1 => ?_)
  have J44 : ∀ (H : Heap) (locs : List Loc), hp_w D T s H locs → ∀ (ls : Array Slot), lv_has ls 7 [] → WX12_street p l e s m below meth c D T ap0 xp1 xp2 xp3 H locs (F0 m 44 ls []) := by
    intro H44 locs44 hw ls hl
    refine lv_ldcw (v := (-1000000)) hx hb hown K356 dX12_street_44 ?_
    exact W.iret (v := (-1000000)) hx hb hr (fun t ht hW => ⟨some (.int (-1000000)), rfl, ⟨((-1000000) : Int32), rfl, trivial⟩, by rw [ht]; exact hw.1, hw.2.F ht⟩) hw.2.2.2 dX12_street_47
  refine lv_if_eq (tgt := 44) hx hb dX12_street_4 (by decide) (fun c4 => ?_) (fun c4 => ?_)
  · have r4tp : iv x1 0 0 := (iv_both bx1 (iv_eq (show iv 0 0 0 from ⟨by decide, by decide⟩) c4)).mono (by decide) (by decide)
    exact J44 s.heap [] hw _ (lv_sub hl [] rfl)
  · have r4fp : iv x1 1 1 := (iv_ne_lo c4 bx1 rfl).mono (by decide) (by decide)
    refine lv_iload_n hx hb dX12_street_7 rfl (lv_at hl 1 rfl) ?_
    refine lv_if_lt (tgt := 44) hx hb dX12_street_8 (by decide) (fun c8 => ?_) (fun c8 => ?_)
    · have r8tp : iv xp1 (-2147483648) (-1) := (iv_lt_l c8 (iv_any xp1) (show iv 0 0 0 from ⟨by decide, by decide⟩)).mono (by decide) (by decide)
      exact J44 s.heap [] hw _ (lv_sub hl [] rfl)
    · have r8fq : iv xp1 0 2147483647 := (iv_le_r (iv_nlt c8) (show iv 0 0 0 from ⟨by decide, by decide⟩) (iv_any xp1)).mono (by decide) (by decide)
      refine lv_iload_n hx hb dX12_street_11 rfl (lv_at hl 1 rfl) ?_
      refine lv_iconst (v := 1) hx hb dX12_street_12 (by decide) ?_
      refine lv_aload_n hx hb dX12_street_13 rfl (lv_at hl 0 rfl) ?_
      refine hp_getr hx hb hts IX12 hown hK hw.1 hp0 rfl 20 (by decide) L39 rfl dX12_street_14 ?_
      refine lv_iconst (v := 0) hx hb dX12_street_17 (by decide) ?_
      refine hp_iald hx hb hK hw.1 hp0said (vp_iv (show iv 0 0 0 from ⟨by decide, by decide⟩) (by decide)) dX12_street_18 (fun v18 hr18 => ?_)
      have h18 := gsok _ _ hr18
      obtain ⟨x18, rfl, bx18⟩ := sP_rd0 h18 (show iv 0 0 0 from ⟨by decide, by decide⟩)
      refine lv_ishl hx hb dX12_street_19 ?_
      refine lv_topi (fun x19 ex19 => ?_)
      have bx19 : iv x19 1 64 := iv_shl 6 (show iv 1 1 1 from ⟨by decide, by decide⟩) bx18 ex19 (by decide)
      refine lv_icmp_ge (tgt := 44) hx hb dX12_street_20 (by decide) (fun c20 => ?_) (fun c20 => ?_)
      · have r20tq : iv xp1 1 2147483647 := (iv_le_r c20 bx19 r8fq).mono (by decide) (by decide)
        exact J44 s.heap [] hw _ (lv_sub hl [] rfl)
      · have r20fp : iv xp1 0 63 := (iv_lt_l (iv_nle c20) r8fq bx19).mono (by decide) (by decide)
        refine lv_aload_n hx hb dX12_street_23 rfl (lv_at hl 0 rfl) ?_
        refine lv_iload_n hx hb dX12_street_24 rfl (lv_at hl 2 rfl) ?_
        refine hp_callpi (va_runV (As := [.int xp2]) (rest := []) ⟨hx, hb, hml, hown, hts⟩ (sX12_isHour l D T ap0 xp2 Gm ip0) (cwV 1 hts gX12_street_X12_isHour rfl rfl rfl (by decide +kernel) ⟨Nat.le_of_ble_eq_true rfl, Nat.le_of_ble_eq_true rfl⟩) (hp_preV hG hw hp0 rfl trivial) rfl rfl hl.1 rfl (lv_room (Nat.le_of_ble_eq_true rfl)) dX12_street_25 ⟨Nat.zero_le _, Nat.zero_le _⟩) (fun x25 bx25 => ?_)
        obtain ⟨bx25, ix25_0⟩ := bx25
        refine lv_if_eq (tgt := 44) hx hb dX12_street_28 (by decide) (fun c28 => ?_) (fun c28 => ?_)
        · have r28tp : iv x25 0 0 := (iv_both bx25 (iv_eq (show iv 0 0 0 from ⟨by decide, by decide⟩) c28)).mono (by decide) (by decide)
          exact J44 s.heap [] hw _ (lv_sub hl [] rfl)
        · have r28fp : iv x25 1 1 := (iv_ne_lo c28 bx25 rfl).mono (by decide) (by decide)
          have r28fpz : iv xp2 0 11 := (iv_both (iv_any xp2) (ix25_0 (iv_ne0 r28fp (by decide)))).mono (by decide) (by decide)
          refine lv_aload_n hx hb dX12_street_31 rfl (lv_at hl 0 rfl) ?_
          refine lv_iload_n hx hb dX12_street_32 rfl (lv_at hl 3 rfl) ?_
          refine hp_callpi (va_runV (As := [.int xp3]) (rest := []) ⟨hx, hb, hml, hown, hts⟩ (sX12_isHour l D T ap0 xp3 Gm ip0) (cwV 1 hts gX12_street_X12_isHour rfl rfl rfl (by decide +kernel) ⟨Nat.le_of_ble_eq_true rfl, Nat.le_of_ble_eq_true rfl⟩) (hp_preV hG hw hp0 rfl trivial) rfl rfl hl.1 rfl (lv_room (Nat.le_of_ble_eq_true rfl)) dX12_street_33 ⟨Nat.zero_le _, Nat.zero_le _⟩) (fun x33 bx33 => ?_)
          obtain ⟨bx33, ix33_0⟩ := bx33
          refine lv_if_eq (tgt := 44) hx hb dX12_street_36 (by decide) (fun c36 => ?_) (fun c36 => ?_)
          · have r36tp : iv x33 0 0 := (iv_both bx33 (iv_eq (show iv 0 0 0 from ⟨by decide, by decide⟩) c36)).mono (by decide) (by decide)
            exact J44 s.heap [] hw _ (lv_sub hl [] rfl)
          · have r36fp : iv x33 1 1 := (iv_ne_lo c36 bx33 rfl).mono (by decide) (by decide)
            have r36fpz : iv xp3 0 11 := (iv_both (iv_any xp3) (ix33_0 (iv_ne0 r36fp (by decide)))).mono (by decide) (by decide)
            refine lv_iload_n hx hb dX12_street_39 rfl (lv_at hl 3 rfl) ?_
            refine lv_iload_n hx hb dX12_street_40 rfl (lv_at hl 2 rfl) ?_
            refine lv_icmp_ge (tgt := 48) hx hb dX12_street_41 (by decide) (fun c41 => ?_) (fun c41 => ?_)
            · refine lv_iconst (v := 0) hx hb dX12_street_48 (by decide) ?_
              refine lv_istore (lv' := [(4, .int 0), (0, .ref ap0), (1, .int xp1), (2, .int xp2), (3, .int xp3)]) hx hb dX12_street_49 hl (by decide) rfl (fun ls hl => ?_)
              refine lv_iload_n hx hb dX12_street_51 rfl (lv_at hl 3 rfl) ?_
              refine lv_istore (lv' := [(5, .int xp2), (4, .int 0), (0, .ref ap0), (1, .int xp1), (2, .int xp2), (3, .int xp3)]) hx hb dX12_street_52 hl (by decide) rfl (fun ls hl => ?_)
              have J54 : ∀ (n : Nat) (y54_l4 y54_l5 : Int32), (12 - y54_l5.toInt).toNat < n → iv xp1 0 63 → iv xp3 0 11 → iv y54_l5 0 12 → ∀ (H : Heap) (locs : List Loc), hp_w D T s H locs → ∀ (ls : Array Slot), lv_has ls 7 [(0, .ref ap0), (1, .int xp1), (3, .int xp3), (4, .int y54_l4), (5, .int y54_l5)] → WX12_street p l e s m below meth c D T ap0 xp1 xp2 xp3 H locs (F0 m 54 ls []) := by
                intro n
                induction n with
                | zero => intro y54_l4 y54_l5 hmu54 c54_xp1 c54_xp3 c54_y54_l5 H54 locs54 hw ls hl; exact absurd hmu54 (Nat.not_lt_zero _)
                | succ n ih54 =>
                  intro y54_l4 y54_l5 hmu54 c54_xp1 c54_xp3 c54_y54_l5 H54 locs54 hw ls hl
                  refine lv_iload hx hb dX12_street_54 (lv_at hl 4 rfl) ?_
                  refine lv_iload_n hx hb dX12_street_56 rfl (lv_at hl 2 rfl) ?_
                  refine lv_icmp_gt (tgt := 116) hx hb dX12_street_57 (by decide) (fun c57 => ?_) (fun c57 => ?_)
                  · have r57tq : iv y54_l5 1 12 := (iv_lt_r c57 c54_xp3 c54_y54_l5).mono (by decide) (by decide)
                    refine lv_iload hx hb dX12_street_116 (lv_at hl 3 rfl) ?_
                    exact W.iret (v := y54_l4) hx hb hr (fun t ht hW => ⟨some (.int y54_l4), rfl, ⟨y54_l4, rfl, trivial⟩, by rw [ht]; exact hw.1, hw.2.F ht⟩) hw.2.2.2 dX12_street_118
                  · have r57fp : iv y54_l5 0 11 := (iv_le_l (iv_nlt c57) c54_y54_l5 c54_xp3).mono (by decide) (by decide)
                    refine lv_iconst (v := 0) hx hb dX12_street_60 (by decide) ?_
                    refine lv_istore (lv' := [(6, .int 0), (0, .ref ap0), (1, .int xp1), (3, .int xp3), (4, .int y54_l4), (5, .int y54_l5)]) hx hb dX12_street_61 hl (by decide) rfl (fun ls hl => ?_)
                    have J63 : ∀ (n : Nat) (y63_l4 y63_l6 : Int32), (6 - y63_l6.toInt).toNat < n → iv xp1 0 63 → iv xp3 0 11 → iv y54_l5 0 11 → iv y63_l6 0 6 → ∀ (H : Heap) (locs : List Loc), hp_w D T s H locs → ∀ (ls : Array Slot), lv_has ls 7 [(0, .ref ap0), (1, .int xp1), (3, .int xp3), (4, .int y63_l4), (5, .int y54_l5), (6, .int y63_l6)] → WX12_street p l e s m below meth c D T ap0 xp1 xp2 xp3 H locs (F0 m 63 ls []) := by
                      intro n
                      induction n with
                      | zero => intro y63_l4 y63_l6 hmu63 c63_xp1 c63_xp3 c63_y54_l5 c63_y63_l6 H63 locs63 hw ls hl; exact absurd hmu63 (Nat.not_lt_zero _)
                      | succ n ih63 =>
                        intro y63_l4 y63_l6 hmu63 c63_xp1 c63_xp3 c63_y54_l5 c63_y63_l6 H63 locs63 hw ls hl
                        refine lv_iload hx hb dX12_street_63 (lv_at hl 5 rfl) ?_
                        refine lv_aload_n hx hb dX12_street_65 rfl (lv_at hl 0 rfl) ?_
                        refine hp_getr hx hb hts IX12 hown hK hw.1 hp0 rfl 20 (by decide) L39 rfl dX12_street_66 ?_
                        refine lv_iconst (v := 0) hx hb dX12_street_69 (by decide) ?_
                        refine hp_iald hx hb hK hw.1 hp0said (vp_iv (show iv 0 0 0 from ⟨by decide, by decide⟩) (by decide)) dX12_street_70 (fun v70 hr70 => ?_)
                        have h70 := gsok _ _ hr70
                        obtain ⟨x70, rfl, bx70⟩ := sP_rd0 h70 (show iv 0 0 0 from ⟨by decide, by decide⟩)
                        refine lv_icmp_ge (tgt := 110) hx hb dX12_street_71 (by decide) (fun c71 => ?_) (fun c71 => ?_)
                        · obtain ⟨x110, ex110⟩ : ∃ y : Int32, y = y54_l5 + 1 := ⟨_, rfl⟩
                          have bx110 : iv x110 1 12 := iv_add c63_y54_l5 (show iv 1 1 1 from ⟨by decide, by decide⟩) ex110 (by decide)
                          have qx110 := iv_add_eq c63_y54_l5 (show iv 1 1 1 from ⟨by decide, by decide⟩) ex110 (by decide)
                          refine lv_iinc (v := x110) (lv' := [(5, .int x110), (0, .ref ap0), (1, .int xp1), (3, .int xp3), (4, .int y63_l4), (6, .int y63_l6)]) hx hb dX12_street_110 hl (k := 4) rfl (by rw [ex110]; rfl) (by decide) rfl (fun ls hl => ?_)
                          refine lv_goto (tgt := 54) hx hb dX12_street_113 (by decide) ?_
                          exact ih54 y63_l4 x110 (mu_up 1 hmu54 (qx110) (by decide) (show iv x110 0 12 from (bx110.mono (by decide) (by decide))).2) c63_xp1 c63_xp3 (bx110.mono (by decide) (by decide)) H63 locs63 hw _ (lv_sub hl [1, 2, 3, 4, 0] rfl)
                        · have r71fp : iv y63_l6 0 5 := (iv_lt_l (iv_nle c71) c63_y63_l6 bx70).mono (by decide) (by decide)
                          have r71fq : iv x70 1 6 := (iv_lt_r (iv_nle c71) c63_y63_l6 bx70).mono (by decide) (by decide)
                          refine lv_iload hx hb dX12_street_74 (lv_at hl 3 rfl) ?_
                          refine lv_iload_n hx hb dX12_street_76 rfl (lv_at hl 1 rfl) ?_
                          refine lv_iload hx hb dX12_street_77 (lv_at hl 5 rfl) ?_
                          refine hp_callpi (va_runS (As := [.int xp1, .int y63_l6]) (rest := [.int y63_l4]) ⟨hx, hb, hml, hown, hts⟩ (sX12_isOf l D T xp1 y63_l6) (va_cwS 2 hts gX12_street_X12_isOf rfl rfl rfl (by decide +kernel) ⟨Nat.le_of_ble_eq_true rfl, Nat.le_of_ble_eq_true rfl⟩) (hp_preS hG hw trivial) rfl rfl hl.1 rfl (lv_room (Nat.le_of_ble_eq_true rfl)) dX12_street_79 ⟨Nat.zero_le _, Nat.zero_le _⟩) (fun x79 bx79 => ?_)
                          have J101 : ∀ (y101_s1 : Int32), iv xp1 0 63 → iv xp3 0 11 → iv y54_l5 0 11 → iv y63_l6 0 5 → ∀ (H : Heap) (locs : List Loc), hp_w D T s H locs → ∀ (ls : Array Slot), lv_has ls 7 [(0, .ref ap0), (1, .int xp1), (3, .int xp3), (5, .int y54_l5), (6, .int y63_l6)] → WX12_street p l e s m below meth c D T ap0 xp1 xp2 xp3 H locs (F0 m 101 ls [.int y101_s1, .int y63_l4]) := by
                            intro y101_s1 c101_xp1 c101_xp3 c101_y54_l5 c101_y63_l6 H101 locs101 hw ls hl
                            refine lv_iadd hx hb dX12_street_101 ?_
                            refine lv_topi (fun x101 ex101 => ?_)
                            refine lv_istore (lv' := [(4, .int x101), (0, .ref ap0), (1, .int xp1), (3, .int xp3), (5, .int y54_l5), (6, .int y63_l6)]) hx hb dX12_street_102 hl (by decide) rfl (fun ls hl => ?_)
                            obtain ⟨x104, ex104⟩ : ∃ y : Int32, y = y63_l6 + 1 := ⟨_, rfl⟩
                            have bx104 : iv x104 1 6 := iv_add c101_y63_l6 (show iv 1 1 1 from ⟨by decide, by decide⟩) ex104 (by decide)
                            have qx104 := iv_add_eq c101_y63_l6 (show iv 1 1 1 from ⟨by decide, by decide⟩) ex104 (by decide)
                            refine lv_iinc (v := x104) (lv' := [(6, .int x104), (4, .int x101), (0, .ref ap0), (1, .int xp1), (3, .int xp3), (5, .int y54_l5)]) hx hb dX12_street_104 hl (k := 5) rfl (by rw [ex104]; rfl) (by decide) rfl (fun ls hl => ?_)
                            refine lv_goto (tgt := 63) hx hb dX12_street_107 (by decide) ?_
                            exact ih63 x101 x104 (mu_up 1 hmu63 (qx104) (by decide) (show iv x104 0 6 from (bx104.mono (by decide) (by decide))).2) c101_xp1 c101_xp3 c101_y54_l5 (bx104.mono (by decide) (by decide)) H101 locs101 hw _ (lv_sub hl [2, 3, 4, 1, 5, 0] rfl)
                          refine lv_if_eq (tgt := 100) hx hb dX12_street_82 (by decide) (fun c82 => ?_) (fun c82 => ?_)
                          · have r82tp : iv x79 0 0 := (iv_both bx79 (iv_eq (show iv 0 0 0 from ⟨by decide, by decide⟩) c82)).mono (by decide) (by decide)
                            refine lv_iconst (v := 0) hx hb dX12_street_100 (by decide) ?_
                            exact J101 (0 : Int32) c63_xp1 c63_xp3 c63_y54_l5 r71fp H63 locs63 hw _ (lv_sub hl [0, 1, 2, 4, 5] rfl)
                          · have r82fp : iv x79 1 1 := (iv_ne_lo c82 bx79 rfl).mono (by decide) (by decide)
                            refine lv_aload_n hx hb dX12_street_85 rfl (lv_at hl 0 rfl) ?_
                            refine lv_aload_n hx hb dX12_street_86 rfl (lv_at hl 0 rfl) ?_
                            refine hp_callpi (va_runV (As := []) (rest := [.ref ap0, .int y63_l4]) ⟨hx, hb, hml, hown, hts⟩ (sX12_everybody_0 l D T ap0 Gm ip0) (cwV 0 hts gX12_street_X12_everybody rfl rfl rfl (by decide +kernel) ⟨Nat.le_of_ble_eq_true rfl, Nat.le_of_ble_eq_true rfl⟩) (hp_preV hG hw hp0 rfl trivial) rfl rfl hl.1 rfl (lv_room (Nat.le_of_ble_eq_true rfl)) dX12_street_87 ⟨Nat.zero_le _, Nat.zero_le _⟩) (fun x87 bx87 => ?_)
                            refine lv_iload hx hb dX12_street_90 (lv_at hl 5 rfl) ?_
                            refine lv_iload hx hb dX12_street_92 (lv_at hl 4 rfl) ?_
                            refine hp_callei (va_runV (As := [.int x87, .int y63_l6, .int y54_l5]) (rest := [.int y63_l4]) ⟨hx, hb, hml, hown, hts⟩ (sX12_sumOf l D T ap0 x87 y63_l6 y54_l5 Gm ip0 c63_y54_l5) (cwV 3 hts gX12_street_X12_sumOf rfl rfl rfl (by decide +kernel) ⟨Nat.le_of_ble_eq_true rfl, Nat.le_of_ble_eq_true rfl⟩) (hp_preV hG hw hp0 rfl trivial) rfl rfl hl.1 rfl (lv_room (Nat.le_of_ble_eq_true rfl)) dX12_street_94 ⟨Nat.zero_le _, Nat.zero_le _⟩) hw (fun x94 st94 t94 H94 locs94 eh94 eg94 bx94 hw => ?_)
                            obtain ⟨bx94, g94⟩ := bx94
                            rw [eh94, eg94] at g94
                            refine lv_goto (tgt := 101) hx hb dX12_street_97 (by decide) ?_
                            exact J101 x94 c63_xp1 c63_xp3 c63_y54_l5 r71fp H94 locs94 hw _ (lv_sub hl [0, 1, 2, 4, 5] rfl)
                    exact J63 _ y54_l4 (0 : Int32) (Nat.lt_succ_self _) c54_xp1 c54_xp3 r57fp (show iv 0 0 6 from ⟨by decide, by decide⟩) H54 locs54 hw _ (lv_sub hl [1, 2, 3, 4, 5, 0] rfl)
              exact J54 _ (0 : Int32) xp2 (Nat.lt_succ_self _) r20fp r36fpz (r28fpz.mono (by decide) (by decide)) s.heap [] hw _ (lv_sub hl [2, 3, 5, 1, 0] rfl)
            · have r41fp : iv xp3 0 10 := (iv_lt_l (iv_nle c41) r36fpz r28fpz).mono (by decide) (by decide)
              have r41fq : iv xp2 1 11 := (iv_lt_r (iv_nle c41) r36fpz r28fpz).mono (by decide) (by decide)
              exact J44 s.heap [] hw _ (lv_sub hl [] rfl)
abbrev WX12_busy (p : Program) (l : Launch) (e : Env) (s : State) (m : MethodId) (below : List Frame) (meth : Method) (c : Code) (D : hp_D) (T : hp_T) (ap0 : Nat) (xp1 : Int32) (H : Heap) (locs : List Loc) (g : JFrame) : Prop := W p l e (headSpec wsX12_busy ({ frames := 5, cells := 0, slots := 0, locals := 128 })).room s m ([.ref ap0, .int xp1] : List Value).toArray below meth c H locs 0 0 (MQ below (hq_e D T (fun v _ _ => ∃ r : Int32, v = some (.int r) ∧ True)) ([.ref ap0, .int xp1] : List Value).toArray s 0 0 (hp_F T)) g
set_option maxHeartbeats 4000000 in
set_option maxRecDepth 100000 in
theorem sX12_busy (l : Launch) (D : hp_D) (T : hp_T) (ap0 : Nat) (xp1 : Int32) (Gm : moG) (ip0 : isMo T ap0 Gm) : Met l yX12_busy wsX12_busy ({ frames := 5, cells := 0, slots := 0, locals := 128 }) (hp_Pc D T [.ref ap0, .int xp1] (fun _ => True)) (hq_e D T (fun v _ _ => ∃ r : Int32, v = some (.int r) ∧ True)) 0 0 (hp_F T) := by
  obtain ⟨ap0tape, ap0sign, ap0len, ap0clause, ap0clauses, ap0read, ap0opn, ap0stack, ap0word, ap0said, ap0was, ap0fitting, ap0sums, ap0sort, ap0sumsBy, ap0oneOf, ap0otherOf, ap0kept, ap0images, ap0acts, ap0iUnd, ap0iFor, ap0iX, ap0made, gok, hp0, hp0tape, hp0sign, hp0len, hp0clause, hp0clauses, hp0read, hp0opn, hp0stack, hp0word, hp0said, hp0was, hp0fitting, hp0sums, hp0sort, hp0sumsBy, hp0oneOf, hp0otherOf, hp0kept, hp0images, hp0acts, hp0iUnd, hp0iFor, hp0iX, hp0made⟩ := id ip0
  have hpx := gok.1
  have gsok := gok.2.2.2.2
  have ggd := gok.2.2.2.1
  refine Met.ofW (cc := cX12_busy) (maxL := 7) (ret := (some .int)) (by decide) rfl ?_
  intro p e s m args below meth c s₁ B hml hv
  obtain ⟨rfl, hok, hG, hB⟩ := hv
  have hx := B.exec
  have hb := B.bytes
  have hr := B.returns
  have hts := atoms_spec (ws := wsX12_busy) B.pre
  have hown : s.vm.findClass RX12 = some m.cls := findClass_of_methodNamed B.named
  have hlocks := B.notSynchronized
  have hK := hG.1
  have hw : hp_w D T s s.heap [] := hp_w.rf hok
  have IX12 : ∀ w ∈ wsX120, w ∈ wsX12_busy := by decide +kernel
  have L39 := hts (.fieldLink RX12 39 "PalmCensusModel" "said" "[I") (by decide +kernel)
  have hl := lv_entry ([.ref ap0, .int xp1]) (n := 7) (Nat.le_of_ble_eq_true rfl)
  rw [lg_entry_eq]
  generalize (lg_sl ([.ref ap0, .int xp1]) ++ List.replicate (7 - (lg_sl ([.ref ap0, .int xp1])).length) Slot.unset).toArray = ls at hl ⊢
  have hl : lv_has ls 7 [(0, .ref ap0), (1, .int xp1)] := hl
  show WX12_busy p l e s m below meth c D T ap0 xp1 s.heap [] (F0 m 0 ls [])
  refine lv_aload_n hx hb dX12_busy_0 rfl (lv_at hl 0 rfl) ?_
  refine hp_callpi (va_runV (As := []) (rest := []) ⟨hx, hb, hml, hown, hts⟩ (sX12_isTown l D T ap0 Gm ip0) (cwV 0 hts gX12_busy_X12_isTown rfl rfl rfl (by decide +kernel) ⟨Nat.le_of_ble_eq_true rfl, Nat.le_of_ble_eq_true rfl⟩) (hp_preV hG hw hp0 rfl trivial) rfl rfl hl.1 rfl (lv_room (Nat.le_of_ble_eq_true rfl)) dX12_busy_1 ⟨Nat.zero_le _, Nat.zero_le _⟩) (fun x1 bx1 => ?_)
  have J17 : ∀ (H : Heap) (locs : List Loc), hp_w D T s H locs → ∀ (ls : Array Slot), lv_has ls 7 [] → WX12_busy p l e s m below meth c D T ap0 xp1 H locs (F0 m 17 ls []) := by
    intro H17 locs17 hw ls hl
    refine lv_iconst (v := (-1)) hx hb dX12_busy_17 (by decide) ?_
    exact W.iret (v := (-1)) hx hb hr (fun t ht hW => ⟨some (.int (-1)), rfl, ⟨((-1) : Int32), rfl, trivial⟩, by rw [ht]; exact hw.1, hw.2.F ht⟩) hw.2.2.2 dX12_busy_18
  refine lv_if_eq (tgt := 17) hx hb dX12_busy_4 (by decide) (fun c4 => ?_) (fun c4 => ?_)
  · have r4tp : iv x1 0 0 := (iv_both bx1 (iv_eq (show iv 0 0 0 from ⟨by decide, by decide⟩) c4)).mono (by decide) (by decide)
    exact J17 s.heap [] hw _ (lv_sub hl [] rfl)
  · have r4fp : iv x1 1 1 := (iv_ne_lo c4 bx1 rfl).mono (by decide) (by decide)
    refine lv_iload_n hx hb dX12_busy_7 rfl (lv_at hl 1 rfl) ?_
    obtain ⟨x8, ex8⟩ : ∃ y : Int64, xp1.toInt64 = y := ⟨_, rfl⟩
    refine lv_i2l (v := x8) hx hb dX12_busy_8 ex8 ?_
    refine lv_lconst (v := 0) hx hb dX12_busy_9 (by decide) ?_
    refine lv_lconst (v := 1) hx hb dX12_busy_10 (by decide) ?_
    refine hp_callpi (va_runS (As := [.long x8, .long 0, .long 1]) (rest := []) ⟨hx, hb, hml, hown, hts⟩ (sX12_in l D T x8 0 1) (va_cwS 3 hts gX12_busy_X12_in rfl rfl rfl (by decide +kernel) ⟨Nat.le_of_ble_eq_true rfl, Nat.le_of_ble_eq_true rfl⟩) (hp_preS hG hw trivial) rfl rfl hl.1 rfl (lv_room (Nat.le_of_ble_eq_true rfl)) dX12_busy_11 ⟨Nat.zero_le _, Nat.zero_le _⟩) (fun x11 bx11 => ?_)
    obtain ⟨bx11, ox11, nx11⟩ := bx11
    have ox11a_ : x11 = 0 ∨ iv xp1 0 1 := ox11.imp id (fun h => iv_in64 ex8 h.1 h.2 (by decide) (by decide))
    have ox11a : x11 = 0 ∨ iv xp1 0 1 := ox11.imp id (fun h => iv_in64 ex8 h.1 h.2 (by decide) (by decide))
    refine lv_if_ne (tgt := 19) hx hb dX12_busy_14 (by decide) (fun c14 => ?_) (fun c14 => ?_)
    · have r14tp : iv x11 1 1 := (iv_ne_lo c14 bx11 rfl).mono (by decide) (by decide)
      have r14tpz : iv xp1 0 1 := (iv_both (iv_any xp1) ((fun h9 => ox11a.resolve_left h9) (iv_ne0 r14tp (by decide)))).mono (by decide) (by decide)
      refine lv_iconst (v := (-1)) hx hb dX12_busy_19 (by decide) ?_
      refine lv_istore_n (lv' := [(2, .int (-1)), (0, .ref ap0), (1, .int xp1)]) hx hb dX12_busy_20 rfl hl (by decide) rfl (fun ls hl => ?_)
      refine lv_iconst (v := 0) hx hb dX12_busy_21 (by decide) ?_
      refine lv_istore_n (lv' := [(3, .int 0), (2, .int (-1)), (0, .ref ap0), (1, .int xp1)]) hx hb dX12_busy_22 rfl hl (by decide) rfl (fun ls hl => ?_)
      refine lv_iconst (v := 0) hx hb dX12_busy_23 (by decide) ?_
      refine lv_istore (lv' := [(4, .int 0), (3, .int 0), (2, .int (-1)), (0, .ref ap0), (1, .int xp1)]) hx hb dX12_busy_24 hl (by decide) rfl (fun ls hl => ?_)
      have J26 : ∀ (n : Nat) (y26_l2 y26_l3 y26_l4 : Int32), (12 - y26_l4.toInt).toNat < n → iv xp1 0 1 → iv y26_l2 (-1) 71 → iv y26_l4 0 12 → ∀ (H : Heap) (locs : List Loc), hp_w D T s H locs → ∀ (ls : Array Slot), lv_has ls 7 [(0, .ref ap0), (1, .int xp1), (2, .int y26_l2), (3, .int y26_l3), (4, .int y26_l4)] → WX12_busy p l e s m below meth c D T ap0 xp1 H locs (F0 m 26 ls []) := by
        intro n
        induction n with
        | zero => intro y26_l2 y26_l3 y26_l4 hmu26 c26_xp1 c26_y26_l2 c26_y26_l4 H26 locs26 hw ls hl; exact absurd hmu26 (Nat.not_lt_zero _)
        | succ n ih26 =>
          intro y26_l2 y26_l3 y26_l4 hmu26 c26_xp1 c26_y26_l2 c26_y26_l4 H26 locs26 hw ls hl
          refine lv_iload hx hb dX12_busy_26 (lv_at hl 4 rfl) ?_
          refine lv_aload_n hx hb dX12_busy_28 rfl (lv_at hl 0 rfl) ?_
          refine hp_getr hx hb hts IX12 hown hK hw.1 hp0 rfl 20 (by decide) L39 rfl dX12_busy_29 ?_
          refine lv_iconst (v := 1) hx hb dX12_busy_32 (by decide) ?_
          refine hp_iald hx hb hK hw.1 hp0said (vp_iv (show iv 1 1 1 from ⟨by decide, by decide⟩) (by decide)) dX12_busy_33 (fun v33 hr33 => ?_)
          have h33 := gsok _ _ hr33
          obtain ⟨x33, rfl, bx33⟩ := sP_rd1 h33 (show iv 1 1 1 from ⟨by decide, by decide⟩)
          refine lv_icmp_ge (tgt := 102) hx hb dX12_busy_34 (by decide) (fun c34 => ?_) (fun c34 => ?_)
          · refine lv_iload_n hx hb dX12_busy_102 rfl (lv_at hl 1 rfl) ?_
            have J117 : ∀ (y117_s0 : Int32), ∀ (H : Heap) (locs : List Loc), hp_w D T s H locs → ∀ (ls : Array Slot), lv_has ls 7 [] → WX12_busy p l e s m below meth c D T ap0 xp1 H locs (F0 m 117 ls [.int y117_s0]) := by
              intro y117_s0 H117 locs117 hw ls hl
              exact W.iret (v := y117_s0) hx hb hr (fun t ht hW => ⟨some (.int y117_s0), rfl, ⟨y117_s0, rfl, trivial⟩, by rw [ht]; exact hw.1, hw.2.F ht⟩) hw.2.2.2 dX12_busy_117
            refine lv_if_ne (tgt := 113) hx hb dX12_busy_103 (by decide) (fun c103 => ?_) (fun c103 => ?_)
            · have r103tp : iv xp1 1 1 := (iv_ne_lo c103 c26_xp1 rfl).mono (by decide) (by decide)
              refine lv_iload_n hx hb dX12_busy_113 rfl (lv_at hl 2 rfl) ?_
              refine lv_bipush (v := 6) hx hb dX12_busy_114 (by decide) ?_
              refine lv_idiv hx hb dX12_busy_116 (iv_ne0 (show iv 6 6 6 from ⟨by decide, by decide⟩) (by decide)) ?_
              refine lv_topi (fun x116 ex116 => ?_)
              exact J117 x116 H26 locs26 hw _ (lv_sub hl [] rfl)
            · have r103fp : iv xp1 0 0 := (iv_both c26_xp1 (iv_eq (show iv 0 0 0 from ⟨by decide, by decide⟩) c103)).mono (by decide) (by decide)
              refine lv_iload_n hx hb dX12_busy_106 rfl (lv_at hl 2 rfl) ?_
              refine lv_bipush (v := 6) hx hb dX12_busy_107 (by decide) ?_
              refine lv_irem hx hb dX12_busy_109 (iv_ne0 (show iv 6 6 6 from ⟨by decide, by decide⟩) (by decide)) ?_
              refine lv_topi (fun x109 ex109 => ?_)
              refine lv_goto (tgt := 117) hx hb dX12_busy_110 (by decide) ?_
              exact J117 x109 H26 locs26 hw _ (lv_sub hl [] rfl)
          · have r34fp : iv y26_l4 0 11 := (iv_lt_l (iv_nle c34) c26_y26_l4 bx33).mono (by decide) (by decide)
            have r34fq : iv x33 1 12 := (iv_lt_r (iv_nle c34) c26_y26_l4 bx33).mono (by decide) (by decide)
            refine lv_iconst (v := 0) hx hb dX12_busy_37 (by decide) ?_
            refine lv_istore (lv' := [(5, .int 0), (0, .ref ap0), (1, .int xp1), (2, .int y26_l2), (3, .int y26_l3), (4, .int y26_l4)]) hx hb dX12_busy_38 hl (by decide) rfl (fun ls hl => ?_)
            have J40 : ∀ (n : Nat) (y40_l2 y40_l3 y40_l5 : Int32), (6 - y40_l5.toInt).toNat < n → iv xp1 0 1 → iv y40_l2 (-1) 71 → iv y26_l4 0 11 → iv y40_l5 0 6 → ∀ (H : Heap) (locs : List Loc), hp_w D T s H locs → ∀ (ls : Array Slot), lv_has ls 7 [(0, .ref ap0), (1, .int xp1), (2, .int y40_l2), (3, .int y40_l3), (4, .int y26_l4), (5, .int y40_l5)] → WX12_busy p l e s m below meth c D T ap0 xp1 H locs (F0 m 40 ls []) := by
              intro n
              induction n with
              | zero => intro y40_l2 y40_l3 y40_l5 hmu40 c40_xp1 c40_y40_l2 c40_y26_l4 c40_y40_l5 H40 locs40 hw ls hl; exact absurd hmu40 (Nat.not_lt_zero _)
              | succ n ih40 =>
                intro y40_l2 y40_l3 y40_l5 hmu40 c40_xp1 c40_y40_l2 c40_y26_l4 c40_y40_l5 H40 locs40 hw ls hl
                refine lv_iload hx hb dX12_busy_40 (lv_at hl 5 rfl) ?_
                refine lv_aload_n hx hb dX12_busy_42 rfl (lv_at hl 0 rfl) ?_
                refine hp_getr hx hb hts IX12 hown hK hw.1 hp0 rfl 20 (by decide) L39 rfl dX12_busy_43 ?_
                refine lv_iconst (v := 0) hx hb dX12_busy_46 (by decide) ?_
                refine hp_iald hx hb hK hw.1 hp0said (vp_iv (show iv 0 0 0 from ⟨by decide, by decide⟩) (by decide)) dX12_busy_47 (fun v47 hr47 => ?_)
                have h47 := gsok _ _ hr47
                obtain ⟨x47, rfl, bx47⟩ := sP_rd0 h47 (show iv 0 0 0 from ⟨by decide, by decide⟩)
                refine lv_icmp_ge (tgt := 96) hx hb dX12_busy_48 (by decide) (fun c48 => ?_) (fun c48 => ?_)
                · obtain ⟨x96, ex96⟩ : ∃ y : Int32, y = y26_l4 + 1 := ⟨_, rfl⟩
                  have bx96 : iv x96 1 12 := iv_add c40_y26_l4 (show iv 1 1 1 from ⟨by decide, by decide⟩) ex96 (by decide)
                  have qx96 := iv_add_eq c40_y26_l4 (show iv 1 1 1 from ⟨by decide, by decide⟩) ex96 (by decide)
                  refine lv_iinc (v := x96) (lv' := [(4, .int x96), (0, .ref ap0), (1, .int xp1), (2, .int y40_l2), (3, .int y40_l3), (5, .int y40_l5)]) hx hb dX12_busy_96 hl (k := 4) rfl (by rw [ex96]; rfl) (by decide) rfl (fun ls hl => ?_)
                  refine lv_goto (tgt := 26) hx hb dX12_busy_99 (by decide) ?_
                  exact ih26 y40_l2 y40_l3 x96 (mu_up 1 hmu26 (qx96) (by decide) (show iv x96 0 12 from (bx96.mono (by decide) (by decide))).2) c40_xp1 c40_y40_l2 (bx96.mono (by decide) (by decide)) H40 locs40 hw _ (lv_sub hl [1, 2, 3, 4, 0] rfl)
                · have r48fp : iv y40_l5 0 5 := (iv_lt_l (iv_nle c48) c40_y40_l5 bx47).mono (by decide) (by decide)
                  have r48fq : iv x47 1 6 := (iv_lt_r (iv_nle c48) c40_y40_l5 bx47).mono (by decide) (by decide)
                  refine lv_aload_n hx hb dX12_busy_51 rfl (lv_at hl 0 rfl) ?_
                  refine lv_aload_n hx hb dX12_busy_52 rfl (lv_at hl 0 rfl) ?_
                  refine hp_callpi (va_runV (As := []) (rest := [.ref ap0]) ⟨hx, hb, hml, hown, hts⟩ (sX12_everybody_0 l D T ap0 Gm ip0) (cwV 0 hts gX12_busy_X12_everybody rfl rfl rfl (by decide +kernel) ⟨Nat.le_of_ble_eq_true rfl, Nat.le_of_ble_eq_true rfl⟩) (hp_preV hG hw hp0 rfl trivial) rfl rfl hl.1 rfl (lv_room (Nat.le_of_ble_eq_true rfl)) dX12_busy_53 ⟨Nat.zero_le _, Nat.zero_le _⟩) (fun x53 bx53 => ?_)
                  refine lv_iload hx hb dX12_busy_56 (lv_at hl 5 rfl) ?_
                  refine lv_iload hx hb dX12_busy_58 (lv_at hl 4 rfl) ?_
                  refine hp_callei (va_runV (As := [.int x53, .int y40_l5, .int y26_l4]) (rest := []) ⟨hx, hb, hml, hown, hts⟩ (sX12_sumOf l D T ap0 x53 y40_l5 y26_l4 Gm ip0 c40_y26_l4) (cwV 3 hts gX12_busy_X12_sumOf rfl rfl rfl (by decide +kernel) ⟨Nat.le_of_ble_eq_true rfl, Nat.le_of_ble_eq_true rfl⟩) (hp_preV hG hw hp0 rfl trivial) rfl rfl hl.1 rfl (lv_room (Nat.le_of_ble_eq_true rfl)) dX12_busy_60 ⟨Nat.zero_le _, Nat.zero_le _⟩) hw (fun x60 st60 t60 H60 locs60 eh60 eg60 bx60 hw => ?_)
                  obtain ⟨bx60, g60⟩ := bx60
                  rw [eh60, eg60] at g60
                  refine lv_istore (lv' := [(6, .int x60), (0, .ref ap0), (1, .int xp1), (2, .int y40_l2), (3, .int y40_l3), (4, .int y26_l4), (5, .int y40_l5)]) hx hb dX12_busy_63 hl (by decide) rfl (fun ls hl => ?_)
                  refine lv_iload_n hx hb dX12_busy_65 rfl (lv_at hl 3 rfl) ?_
                  have J90 : ∀ (y90_l2 y90_l3 : Int32), iv xp1 0 1 → iv y90_l2 0 71 → iv y26_l4 0 11 → iv y40_l5 0 5 → ∀ (H : Heap) (locs : List Loc), hp_w D T s H locs → ∀ (ls : Array Slot), lv_has ls 7 [(0, .ref ap0), (1, .int xp1), (2, .int y90_l2), (3, .int y90_l3), (4, .int y26_l4), (5, .int y40_l5)] → WX12_busy p l e s m below meth c D T ap0 xp1 H locs (F0 m 90 ls []) := by
                    intro y90_l2 y90_l3 c90_xp1 c90_y90_l2 c90_y26_l4 c90_y40_l5 H90 locs90 hw ls hl
                    obtain ⟨x90, ex90⟩ : ∃ y : Int32, y = y40_l5 + 1 := ⟨_, rfl⟩
                    have bx90 : iv x90 1 6 := iv_add c90_y40_l5 (show iv 1 1 1 from ⟨by decide, by decide⟩) ex90 (by decide)
                    have qx90 := iv_add_eq c90_y40_l5 (show iv 1 1 1 from ⟨by decide, by decide⟩) ex90 (by decide)
                    refine lv_iinc (v := x90) (lv' := [(5, .int x90), (0, .ref ap0), (1, .int xp1), (2, .int y90_l2), (3, .int y90_l3), (4, .int y26_l4)]) hx hb dX12_busy_90 hl (k := 5) rfl (by rw [ex90]; rfl) (by decide) rfl (fun ls hl => ?_)
                    refine lv_goto (tgt := 40) hx hb dX12_busy_93 (by decide) ?_
                    exact ih40 y90_l2 y90_l3 x90 (mu_up 1 hmu40 (qx90) (by decide) (show iv x90 0 6 from (bx90.mono (by decide) (by decide))).2) c90_xp1 (c90_y90_l2.mono (by decide) (by decide)) c90_y26_l4 (bx90.mono (by decide) (by decide)) H90 locs90 hw _ (lv_sub hl [1, 2, 3, 4, 5, 0] rfl)
                  have J78 : iv xp1 0 1 → iv y26_l4 0 11 → iv y40_l5 0 5 → ∀ (H : Heap) (locs : List Loc), hp_w D T s H locs → ∀ (ls : Array Slot), lv_has ls 7 [(0, .ref ap0), (1, .int xp1), (4, .int y26_l4), (5, .int y40_l5), (6, .int x60)] → WX12_busy p l e s m below meth c D T ap0 xp1 H locs (F0 m 78 ls []) := by
                    intro c78_xp1 c78_y26_l4 c78_y40_l5 H78 locs78 hw ls hl
                    refine lv_bipush (v := 6) hx hb dX12_busy_78 (by decide) ?_
                    refine lv_iload hx hb dX12_busy_80 (lv_at hl 2 rfl) ?_
                    refine lv_imul hx hb dX12_busy_82 ?_
                    refine lv_topi (fun x82 ex82 => ?_)
                    have bx82 : iv x82 0 66 := iv_mul (show iv 6 6 6 from ⟨by decide, by decide⟩) c78_y26_l4 ex82 (by decide)
                    refine lv_iload hx hb dX12_busy_83 (lv_at hl 3 rfl) ?_
                    refine lv_iadd hx hb dX12_busy_85 ?_
                    refine lv_topi (fun x85 ex85 => ?_)
                    have bx85 : iv x85 0 71 := iv_add bx82 c78_y40_l5 ex85 (by decide)
                    have qx85 := iv_add_eq bx82 c78_y40_l5 ex85 (by decide)
                    refine lv_istore_n (lv' := [(2, .int x85), (0, .ref ap0), (1, .int xp1), (4, .int y26_l4), (5, .int y40_l5), (6, .int x60)]) hx hb dX12_busy_86 rfl hl (by decide) rfl (fun ls hl => ?_)
                    refine lv_iload hx hb dX12_busy_87 (lv_at hl 5 rfl) ?_
                    refine lv_istore_n (lv' := [(3, .int x60), (2, .int x85), (0, .ref ap0), (1, .int xp1), (4, .int y26_l4), (5, .int y40_l5), (6, .int x60)]) hx hb dX12_busy_89 rfl hl (by decide) rfl (fun ls hl => ?_)
                    exact J90 x85 x60 c78_xp1 bx85 c78_y26_l4 c78_y40_l5 H78 locs78 hw _ (lv_sub hl [2, 3, 1, 0, 4, 5] rfl)
                  refine lv_if_lt (tgt := 78) hx hb dX12_busy_66 (by decide) (fun c66 => ?_) (fun c66 => ?_)
                  · have r66tp : iv y40_l2 (-1) (-1) := (iv_lt_l c66 c40_y40_l2 (show iv 0 0 0 from ⟨by decide, by decide⟩)).mono (by decide) (by decide)
                    exact J78 c40_xp1 c40_y26_l4 r48fp H60 locs60 hw _ (lv_sub hl [1, 2, 5, 6, 0] rfl)
                  · have r66fq : iv y40_l2 0 71 := (iv_le_r (iv_nlt c66) (show iv 0 0 0 from ⟨by decide, by decide⟩) c40_y40_l2).mono (by decide) (by decide)
                    refine lv_iload hx hb dX12_busy_69 (lv_at hl 0 rfl) ?_
                    refine lv_iload_n hx hb dX12_busy_71 rfl (lv_at hl 4 rfl) ?_
                    refine lv_icmp_gt (tgt := 78) hx hb dX12_busy_72 (by decide) (fun c72 => ?_) (fun c72 => ?_)
                    · have r72tp : iv y40_l3 (-2147483648) 2147483646 := (iv_lt_l c72 (iv_any y40_l3) (iv_any x60)).mono (by decide) (by decide)
                      have r72tq : iv x60 (-2147483647) 2147483647 := (iv_lt_r c72 (iv_any y40_l3) (iv_any x60)).mono (by decide) (by decide)
                      exact J78 c40_xp1 c40_y26_l4 r48fp H60 locs60 hw _ (lv_sub hl [1, 2, 5, 6, 0] rfl)
                    · refine lv_goto (tgt := 90) hx hb dX12_busy_75 (by decide) ?_
                      exact J90 y40_l2 y40_l3 c40_xp1 r66fq c40_y26_l4 r48fp H60 locs60 hw _ (lv_sub hl [1, 2, 3, 4, 5, 6] rfl)
            exact J40 _ y26_l2 y26_l3 (0 : Int32) (Nat.lt_succ_self _) c26_xp1 c26_y26_l2 r34fp (show iv 0 0 6 from ⟨by decide, by decide⟩) H26 locs26 hw _ (lv_sub hl [1, 2, 3, 4, 5, 0] rfl)
      exact J26 _ ((-1) : Int32) (0 : Int32) (0 : Int32) (Nat.lt_succ_self _) r14tpz (show iv (-1) (-1) 71 from ⟨by decide, by decide⟩) (show iv 0 0 12 from ⟨by decide, by decide⟩) s.heap [] hw _ (lv_sub hl [3, 4, 2, 1, 0] rfl)
    · have r14fp : iv x11 0 0 := (iv_both bx11 (iv_eq (show iv 0 0 0 from ⟨by decide, by decide⟩) c14)).mono (by decide) (by decide)
      exact J17 s.heap [] hw _ (lv_sub hl [] rfl)
abbrev WX12_go (p : Program) (l : Launch) (e : Env) (s : State) (m : MethodId) (below : List Frame) (meth : Method) (c : Code) (D : hp_D) (T : hp_T) (ap0 : Nat) (xp1 : Int32) (xp2 : Int32) (xp3 : Int32) (H : Heap) (locs : List Loc) (g : JFrame) : Prop := W p l e (headSpec wsX12_go ({ frames := 6, cells := 0, slots := 0, locals := 151 })).room s m ([.ref ap0, .int xp1, .int xp2, .int xp3] : List Value).toArray below meth c H locs 0 0 (MQ below (hq_e D T (fun v _ _ => ∃ r : Int32, v = some (.int r) ∧ True)) ([.ref ap0, .int xp1, .int xp2, .int xp3] : List Value).toArray s 0 0 (hp_F T)) g
set_option maxHeartbeats 4000000 in
set_option maxRecDepth 100000 in
theorem sX12_go (l : Launch) (D : hp_D) (T : hp_T) (ap0 : Nat) (xp1 : Int32) (xp2 : Int32) (xp3 : Int32) (Gm : moG) (ip0 : isMo T ap0 Gm) (hgs : ∀ j v, sP j v → gs Gm j v) : Met l yX12_go wsX12_go ({ frames := 6, cells := 0, slots := 0, locals := 151 }) (hp_Pc D T [.ref ap0, .int xp1, .int xp2, .int xp3] (fun _ => True)) (hq_e D T (fun v _ _ => ∃ r : Int32, v = some (.int r) ∧ True)) 0 0 (hp_F T) := by
  obtain ⟨ap0tape, ap0sign, ap0len, ap0clause, ap0clauses, ap0read, ap0opn, ap0stack, ap0word, ap0said, ap0was, ap0fitting, ap0sums, ap0sort, ap0sumsBy, ap0oneOf, ap0otherOf, ap0kept, ap0images, ap0acts, ap0iUnd, ap0iFor, ap0iX, ap0made, gok, hp0, hp0tape, hp0sign, hp0len, hp0clause, hp0clauses, hp0read, hp0opn, hp0stack, hp0word, hp0said, hp0was, hp0fitting, hp0sums, hp0sort, hp0sumsBy, hp0oneOf, hp0otherOf, hp0kept, hp0images, hp0acts, hp0iUnd, hp0iFor, hp0iX, hp0made⟩ := id ip0
  have hpx := gok.1
  have gsok := gok.2.2.2.2
  have ggd := gok.2.2.2.1
  refine Met.ofW (cc := cX12_go) (maxL := 4) (ret := (some .int)) (by decide) rfl ?_
  intro p e s m args below meth c s₁ B hml hv
  obtain ⟨rfl, hok, hG, hB⟩ := hv
  have hx := B.exec
  have hb := B.bytes
  have hr := B.returns
  have hts := atoms_spec (ws := wsX12_go) B.pre
  have hown : s.vm.findClass RX12 = some m.cls := findClass_of_methodNamed B.named
  have hlocks := B.notSynchronized
  have hK := hG.1
  have hw : hp_w D T s s.heap [] := hp_w.rf hok
  have IX12 : ∀ w ∈ wsX120, w ∈ wsX12_go := by decide +kernel
  have K356 := hts (.constant RX12 356 (-1000000)) (by decide +kernel)
  have L39 := hts (.fieldLink RX12 39 "PalmCensusModel" "said" "[I") (by decide +kernel)
  have hl := lv_entry ([.ref ap0, .int xp1, .int xp2, .int xp3]) (n := 4) (Nat.le_of_ble_eq_true rfl)
  rw [lg_entry_eq]
  generalize (lg_sl ([.ref ap0, .int xp1, .int xp2, .int xp3]) ++ List.replicate (4 - (lg_sl ([.ref ap0, .int xp1, .int xp2, .int xp3])).length) Slot.unset).toArray = ls at hl ⊢
  have hl : lv_has ls 4 [(0, .ref ap0), (1, .int xp1), (2, .int xp2), (3, .int xp3)] := hl
  show WX12_go p l e s m below meth c D T ap0 xp1 xp2 xp3 s.heap [] (F0 m 0 ls [])
  refine lv_aload_n hx hb dX12_go_0 rfl (lv_at hl 0 rfl) ?_
  refine lv_iload_n hx hb dX12_go_1 rfl (lv_at hl 1 rfl) ?_
  refine hp_callpi (va_runV (As := [.int xp1]) (rest := []) ⟨hx, hb, hml, hown, hts⟩ (sX12_isPerson l D T ap0 xp1 Gm ip0) (cwV 1 hts gX12_go_X12_isPerson rfl rfl rfl (by decide +kernel) ⟨Nat.le_of_ble_eq_true rfl, Nat.le_of_ble_eq_true rfl⟩) (hp_preV hG hw hp0 rfl trivial) rfl rfl hl.1 rfl (lv_room (Nat.le_of_ble_eq_true rfl)) dX12_go_2 ⟨Nat.zero_le _, Nat.zero_le _⟩) (fun x2 bx2 => ?_)
  obtain ⟨bx2, ix2_0⟩ := bx2
  have J40 : ∀ (H : Heap) (locs : List Loc), hp_w D T s H locs → ∀ (ls : Array Slot), lv_has ls 4 [] → WX12_go p l e s m below meth c D T ap0 xp1 xp2 xp3 H locs (F0 m 40 ls []) := by
    intro H40 locs40 hw ls hl
    refine lv_ldcw (v := (-1000000)) hx hb hown K356 dX12_go_40 ?_
    exact W.iret (v := (-1000000)) hx hb hr (fun t ht hW => ⟨some (.int (-1000000)), rfl, ⟨((-1000000) : Int32), rfl, trivial⟩, by rw [ht]; exact hw.1, hw.2.F ht⟩) hw.2.2.2 dX12_go_43
  refine lv_if_eq (tgt := 40) hx hb dX12_go_5 (by decide) (fun c5 => ?_) (fun c5 => ?_)
  · have r5tp : iv x2 0 0 := (iv_both bx2 (iv_eq (show iv 0 0 0 from ⟨by decide, by decide⟩) c5)).mono (by decide) (by decide)
    exact J40 s.heap [] hw _ (lv_sub hl [] rfl)
  · have r5fp : iv x2 1 1 := (iv_ne_lo c5 bx2 rfl).mono (by decide) (by decide)
    have r5fpz : iv xp1 0 9 := (iv_both (iv_any xp1) (ix2_0 (iv_ne0 r5fp (by decide)))).mono (by decide) (by decide)
    refine lv_aload_n hx hb dX12_go_8 rfl (lv_at hl 0 rfl) ?_
    refine lv_iload_n hx hb dX12_go_9 rfl (lv_at hl 2 rfl) ?_
    refine hp_callpi (va_runV (As := [.int xp2]) (rest := []) ⟨hx, hb, hml, hown, hts⟩ (sX12_isHour l D T ap0 xp2 Gm ip0) (cwV 1 hts gX12_go_X12_isHour rfl rfl rfl (by decide +kernel) ⟨Nat.le_of_ble_eq_true rfl, Nat.le_of_ble_eq_true rfl⟩) (hp_preV hG hw hp0 rfl trivial) rfl rfl hl.1 rfl (lv_room (Nat.le_of_ble_eq_true rfl)) dX12_go_10 ⟨Nat.zero_le _, Nat.zero_le _⟩) (fun x10 bx10 => ?_)
    obtain ⟨bx10, ix10_0⟩ := bx10
    refine lv_if_eq (tgt := 40) hx hb dX12_go_13 (by decide) (fun c13 => ?_) (fun c13 => ?_)
    · have r13tp : iv x10 0 0 := (iv_both bx10 (iv_eq (show iv 0 0 0 from ⟨by decide, by decide⟩) c13)).mono (by decide) (by decide)
      exact J40 s.heap [] hw _ (lv_sub hl [] rfl)
    · have r13fp : iv x10 1 1 := (iv_ne_lo c13 bx10 rfl).mono (by decide) (by decide)
      have r13fpz : iv xp2 0 11 := (iv_both (iv_any xp2) (ix10_0 (iv_ne0 r13fp (by decide)))).mono (by decide) (by decide)
      refine lv_iload_n hx hb dX12_go_16 rfl (lv_at hl 3 rfl) ?_
      refine lv_bipush (v := 99) hx hb dX12_go_17 (by decide) ?_
      have J30 : iv xp1 0 9 → iv xp2 0 11 → iv xp3 0 99 → ∀ (H : Heap) (locs : List Loc), hp_w D T s H locs → ∀ (ls : Array Slot), lv_has ls 4 [(0, .ref ap0), (1, .int xp1), (2, .int xp2), (3, .int xp3)] → WX12_go p l e s m below meth c D T ap0 xp1 xp2 xp3 H locs (F0 m 30 ls []) := by
        intro c30_xp1 c30_xp2 c30_xp3 H30 locs30 hw ls hl
        refine lv_aload_n hx hb dX12_go_30 rfl (lv_at hl 0 rfl) ?_
        refine lv_iload_n hx hb dX12_go_31 rfl (lv_at hl 1 rfl) ?_
        refine lv_iload_n hx hb dX12_go_32 rfl (lv_at hl 2 rfl) ?_
        refine hp_callpi (va_runV (As := [.int xp1, .int xp2]) (rest := []) ⟨hx, hb, hml, hown, hts⟩ (sX12_placeOf l D T ap0 xp1 xp2 Gm ip0 c30_xp1 c30_xp2) (cwV 2 hts gX12_go_X12_placeOf rfl rfl rfl (by decide +kernel) ⟨Nat.le_of_ble_eq_true rfl, Nat.le_of_ble_eq_true rfl⟩) (hp_preV hG hw hp0 rfl trivial) rfl rfl hl.1 rfl (lv_room (Nat.le_of_ble_eq_true rfl)) dX12_go_33 ⟨Nat.zero_le _, Nat.zero_le _⟩) (fun x33 bx33 => ?_)
        refine lv_iload_n hx hb dX12_go_36 rfl (lv_at hl 3 rfl) ?_
        refine lv_icmp_ne (tgt := 44) hx hb dX12_go_37 (by decide) (fun c37 => ?_) (fun c37 => ?_)
        · refine lv_aload_n hx hb dX12_go_44 rfl (lv_at hl 0 rfl) ?_
          refine hp_callev (va_runV (As := []) (rest := []) ⟨hx, hb, hml, hown, hts⟩ (sX12_keepsAct l D T ap0 Gm ip0) (cwV 0 hts gX12_go_X12_keepsAct rfl rfl rfl (by decide +kernel) ⟨Nat.le_of_ble_eq_true rfl, Nat.le_of_ble_eq_true rfl⟩) (hp_preV hG hw hp0 rfl trivial) rfl rfl hl.1 rfl (lv_room (Nat.le_of_ble_eq_true rfl)) dX12_go_45 ⟨Nat.zero_le _, Nat.zero_le _⟩) hw (fun st45 t45 H45 locs45 eh45 eg45 bx45 hw => ?_)
          obtain ⟨bx45, g45⟩ := bx45
          rw [eh45, eg45] at g45
          refine lv_aload_n hx hb dX12_go_48 rfl (lv_at hl 0 rfl) ?_
          refine hp_getr hx hb hts IX12 hown hK hw.1 hp0 rfl 20 (by decide) L39 rfl dX12_go_49 ?_
          refine lv_bipush (v := 10) hx hb dX12_go_52 (by decide) ?_
          refine lv_bipush (v := 12) hx hb dX12_go_54 (by decide) ?_
          refine lv_iload_n hx hb dX12_go_56 rfl (lv_at hl 1 rfl) ?_
          refine lv_imul hx hb dX12_go_57 ?_
          refine lv_topi (fun x57 ex57 => ?_)
          have bx57 : iv x57 0 108 := iv_mul (show iv 12 12 12 from ⟨by decide, by decide⟩) c30_xp1 ex57 (by decide)
          refine lv_iadd hx hb dX12_go_58 ?_
          refine lv_topi (fun x58 ex58 => ?_)
          have bx58 : iv x58 10 118 := iv_add (show iv 10 10 10 from ⟨by decide, by decide⟩) bx57 ex58 (by decide)
          have qx58 := iv_add_eq (show iv 10 10 10 from ⟨by decide, by decide⟩) bx57 ex58 (by decide)
          refine lv_iload_n hx hb dX12_go_59 rfl (lv_at hl 2 rfl) ?_
          refine lv_iadd hx hb dX12_go_60 ?_
          refine lv_topi (fun x60 ex60 => ?_)
          have bx60 : iv x60 10 129 := iv_add bx58 c30_xp2 ex60 (by decide)
          have qx60 := iv_add_eq bx58 c30_xp2 ex60 (by decide)
          refine lv_iload_n hx hb dX12_go_61 rfl (lv_at hl 3 rfl) ?_
          refine hp_iast hx hb hK hw hp0said (vp_iv bx60 (by decide)) (hgs _ _ (sP_st bx60 (by decide))) dX12_go_62 (fun H62 locs62 hw g62 => ?_)
          refine lv_aload_n hx hb dX12_go_63 rfl (lv_at hl 0 rfl) ?_
          refine hp_callei (va_runV (As := []) (rest := []) ⟨hx, hb, hml, hown, hts⟩ (sX12_totalOf l D T ap0 Gm ip0) (cwV 0 hts gX12_go_X12_totalOf rfl rfl rfl (by decide +kernel) ⟨Nat.le_of_ble_eq_true rfl, Nat.le_of_ble_eq_true rfl⟩) (hp_preV hG hw hp0 rfl trivial) rfl rfl hl.1 rfl (lv_room (Nat.le_of_ble_eq_true rfl)) dX12_go_64 ⟨Nat.zero_le _, Nat.zero_le _⟩) hw (fun x64 st64 t64 H64 locs64 eh64 eg64 bx64 hw => ?_)
          obtain ⟨bx64, g64⟩ := bx64
          rw [eh64, eg64] at g64
          exact W.iret (v := x64) hx hb hr (fun t ht hW => ⟨some (.int x64), rfl, ⟨x64, rfl, trivial⟩, by rw [ht]; exact hw.1, hw.2.F ht⟩) hw.2.2.2 dX12_go_67
        · have r37fp : iv x33 0 99 := (iv_both (iv_any x33) (iv_eq c30_xp3 c37)).mono (by decide) (by decide)
          exact J40 H30 locs30 hw _ (lv_sub hl [] rfl)
      refine lv_icmp_eq (tgt := 30) hx hb dX12_go_19 (by decide) (fun c19 => ?_) (fun c19 => ?_)
      · have r19tp : iv xp3 99 99 := (iv_both (iv_any xp3) (iv_eq (show iv 99 99 99 from ⟨by decide, by decide⟩) c19)).mono (by decide) (by decide)
        exact J30 r5fpz r13fpz (r19tp.mono (by decide) (by decide)) s.heap [] hw _ (lv_sub hl [0, 1, 2, 3] rfl)
      · refine lv_aload_n hx hb dX12_go_22 rfl (lv_at hl 0 rfl) ?_
        refine lv_iload_n hx hb dX12_go_23 rfl (lv_at hl 3 rfl) ?_
        refine hp_callpi (va_runV (As := [.int xp3]) (rest := []) ⟨hx, hb, hml, hown, hts⟩ (sX12_isGate l D T ap0 xp3 Gm ip0) (cwV 1 hts gX12_go_X12_isGate rfl rfl rfl (by decide +kernel) ⟨Nat.le_of_ble_eq_true rfl, Nat.le_of_ble_eq_true rfl⟩) (hp_preV hG hw hp0 rfl trivial) rfl rfl hl.1 rfl (lv_room (Nat.le_of_ble_eq_true rfl)) dX12_go_24 ⟨Nat.zero_le _, Nat.zero_le _⟩) (fun x24 bx24 => ?_)
        obtain ⟨bx24, ix24_0⟩ := bx24
        refine lv_if_eq (tgt := 40) hx hb dX12_go_27 (by decide) (fun c27 => ?_) (fun c27 => ?_)
        · have r27tp : iv x24 0 0 := (iv_both bx24 (iv_eq (show iv 0 0 0 from ⟨by decide, by decide⟩) c27)).mono (by decide) (by decide)
          exact J40 s.heap [] hw _ (lv_sub hl [] rfl)
        · have r27fp : iv x24 1 1 := (iv_ne_lo c27 bx24 rfl).mono (by decide) (by decide)
          have r27fpz : iv xp3 0 5 := (iv_both (iv_any xp3) (ix24_0 (iv_ne0 r27fp (by decide)))).mono (by decide) (by decide)
          exact J30 r5fpz r13fpz (r27fpz.mono (by decide) (by decide)) s.heap [] hw _ (lv_sub hl [0, 1, 2, 3] rfl)
