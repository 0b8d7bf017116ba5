abbrev WX10_sumWithin (p : Program) (l : Launch) (e : Env) (s : State) (m : MethodId) (below : List Frame) (meth : Method) (c : Code) (D : hp_D) (T : hp_T) (ap0 : Nat) (xp1 : Int32) (H : Heap) (locs : List Loc) (g : JFrame) : Prop := W p l e (headSpec wsX10_sumWithin ({ frames := 1, cells := 0, slots := 0, locals := 23 })).room s m ([.ref ap0, .int xp1] : List Value).toArray below meth c H locs 0 0 (MQ below (hq_e D T (fun v _ _ => ∃ r : Int32, v = some (.int r) ∧ True)) ([.ref ap0, .int xp1] : List Value).toArray s 0 0 (hp_F T)) g
set_option maxHeartbeats 4000000 in
set_option maxRecDepth 100000 in
theorem sX10_sumWithin (l : Launch) (D : hp_D) (T : hp_T) (ap0 : Nat) (xp1 : Int32) (ip0 : isWorlds T ap0) : Met l yX10_sumWithin wsX10_sumWithin ({ frames := 1, cells := 0, slots := 0, locals := 23 }) (hp_Pc D T [.ref ap0, .int xp1] (fun _ => True)) (hq_e D T (fun v _ _ => ∃ r : Int32, v = some (.int r) ∧ True)) 0 0 (hp_F T) := by
  obtain ⟨ap0fi, ap0wo, ap0su, ap0sh, ap0me, ap0s1, ap0s2, hp0, hp0fi, hp0wo, hp0su, hp0sh, hp0me, hp0s1, hp0s2⟩ := id ip0
  refine Met.ofW (cc := cX10_sumWithin) (maxL := 7) (ret := (some .int)) (by decide) rfl ?_
  intro p e s m args below meth c s₁ B hml hv
  obtain ⟨rfl, hok, hG, hB⟩ := hv
  have hx := B.exec
  have hb := B.bytes
  have hr := B.returns
  have hts := atoms_spec (ws := wsX10_sumWithin) B.pre
  have hown : s.vm.findClass RX10 = some m.cls := findClass_of_methodNamed B.named
  have hlocks := B.notSynchronized
  have hK := hG.1
  have hw : hp_w D T s s.heap [] := hp_w.rf hok
  have IX10 : ∀ w ∈ wsX100, w ∈ wsX10_sumWithin := by decide +kernel
  have L41 := hts (.fieldLink RX10 41 "PalmCensus$Worlds" "members" "[I") (by decide +kernel)
  have INX11 := hts (.initialized RX11) (by decide +kernel)
  have STX11_listMembers := hts (.static yX11_listMembers) (by decide +kernel)
  have L31 := hts (.fieldLink RX10 31 "PalmCensus$Worlds" "worths" "[I") (by decide +kernel)
  have hl := lv_entry ([.ref ap0, .int xp1]) (n := 7) (Nat.le_of_ble_eq_true rfl)
  rw [lg_entry_eq]
  generalize (lg_sl ([.ref ap0, .int xp1]) ++ List.replicate (7 - (lg_sl ([.ref ap0, .int xp1])).length) Slot.unset).toArray = ls at hl ⊢
  have hl : lv_has ls 7 [(0, .ref ap0), (1, .int xp1)] := hl
  show WX10_sumWithin p l e s m below meth c D T ap0 xp1 s.heap [] (F0 m 0 ls [])
  refine lv_iload_n hx hb dX10_sumWithin_0 rfl (lv_at hl 1 rfl) ?_
  refine lv_aload_n hx hb dX10_sumWithin_1 rfl (lv_at hl 0 rfl) ?_
  refine hp_getr hx hb hts IX10 hown hK hw.1 hp0 rfl 9 (by decide) L41 rfl dX10_sumWithin_2 ?_
  refine hp_callei (va_runSN (As := [.int xp1, .ref ap0me]) (rest := []) ⟨hx, hb, hml, hown, hts⟩ (sX11_listMembers l D T xp1 ap0me hp0me) ⟨va_cnB 2 hts gX10_sumWithin_X11_listMembers_n134 rfl rfl rfl hG.2.1.2.1 INX11 (by decide +kernel) ⟨Nat.le_of_ble_eq_true rfl, Nat.le_of_ble_eq_true rfl⟩, STX11_listMembers, trivial⟩ (hp_preS hG hw trivial) rfl rfl hl.1 rfl (lv_room (Nat.le_of_ble_eq_true rfl)) dX10_sumWithin_5 ⟨Nat.zero_le _, Nat.zero_le _⟩) hw (fun x5 st5 t5 H5 locs5 eh5 eg5 bx5 hw => ?_)
  refine lv_istore_n (lv' := [(2, .int x5), (0, .ref ap0), (1, .int xp1)]) hx hb dX10_sumWithin_8 rfl hl (by decide) rfl (fun ls hl => ?_)
  refine lv_iconst (v := 0) hx hb dX10_sumWithin_9 (by decide) ?_
  refine lv_istore_n (lv' := [(3, .int 0), (2, .int x5), (0, .ref ap0), (1, .int xp1)]) hx hb dX10_sumWithin_10 rfl hl (by decide) rfl (fun ls hl => ?_)
  refine lv_iconst (v := 0) hx hb dX10_sumWithin_11 (by decide) ?_
  refine lv_istore (lv' := [(4, .int 0), (3, .int 0), (2, .int x5), (0, .ref ap0), (1, .int xp1)]) hx hb dX10_sumWithin_12 hl (by decide) rfl (fun ls hl => ?_)
  have J14 : ∀ (n : Nat) (y14_l3 y14_l4 : Int32), (10 - y14_l4.toInt).toNat < n → iv x5 0 10 → iv y14_l4 0 10 → ∀ (H : Heap) (locs : List Loc), hp_w D T s H locs → ∀ (ls : Array Slot), lv_has ls 7 [(0, .ref ap0), (2, .int x5), (3, .int y14_l3), (4, .int y14_l4)] → WX10_sumWithin p l e s m below meth c D T ap0 xp1 H locs (F0 m 14 ls []) := by
    intro n
    induction n with
    | zero => intro y14_l3 y14_l4 hmu14 c14_x5 c14_y14_l4 H14 locs14 hw ls hl; exact absurd hmu14 (Nat.not_lt_zero _)
    | succ n ih14 =>
      intro y14_l3 y14_l4 hmu14 c14_x5 c14_y14_l4 H14 locs14 hw ls hl
      refine lv_iload hx hb dX10_sumWithin_14 (lv_at hl 3 rfl) ?_
      refine lv_iload_n hx hb dX10_sumWithin_16 rfl (lv_at hl 1 rfl) ?_
      refine lv_icmp_ge (tgt := 79) hx hb dX10_sumWithin_17 (by decide) (fun c17 => ?_) (fun c17 => ?_)
      · refine lv_iload_n hx hb dX10_sumWithin_79 rfl (lv_at hl 2 rfl) ?_
        exact W.iret (v := y14_l3) hx hb hr (fun t ht hW => ⟨some (.int y14_l3), rfl, ⟨y14_l3, rfl, trivial⟩, by rw [ht]; exact hw.1, hw.2.F ht⟩) hw.2.2.2 dX10_sumWithin_80
      · have r17fp : iv y14_l4 0 9 := (iv_lt_l (iv_nle c17) c14_y14_l4 c14_x5).mono (by decide) (by decide)
        have r17fq : iv x5 1 10 := (iv_lt_r (iv_nle c17) c14_y14_l4 c14_x5).mono (by decide) (by decide)
        refine lv_iload_n hx hb dX10_sumWithin_20 rfl (lv_at hl 1 rfl) ?_
        refine lv_bipush (v := 10) hx hb dX10_sumWithin_21 (by decide) ?_
        refine lv_imul hx hb dX10_sumWithin_23 ?_
        refine lv_topi (fun x23 ex23 => ?_)
        have bx23 : iv x23 10 100 := iv_mul r17fq (show iv 10 10 10 from ⟨by decide, by decide⟩) ex23 (by decide)
        refine lv_aload_n hx hb dX10_sumWithin_24 rfl (lv_at hl 0 rfl) ?_
        refine hp_getr hx hb hts IX10 hown hK hw.1 hp0 rfl 9 (by decide) L41 rfl dX10_sumWithin_25 ?_
        refine lv_iload hx hb dX10_sumWithin_28 (lv_at hl 3 rfl) ?_
        refine hp_ialdI hx hb hK hw.1 hp0me (vp_iv r17fp (by decide)) dX10_sumWithin_30 (fun x30 bx30 => ?_)
        refine lv_iadd hx hb dX10_sumWithin_31 ?_
        refine lv_topi (fun x31 ex31 => ?_)
        have bx31 : iv x31 10 109 := iv_add bx23 bx30 ex31 (by decide)
        have qx31 := iv_add_eq bx23 bx30 ex31 (by decide)
        refine lv_bipush (v := 10) hx hb dX10_sumWithin_32 (by decide) ?_
        refine lv_imul hx hb dX10_sumWithin_34 ?_
        refine lv_topi (fun x34 ex34 => ?_)
        have bx34 : iv x34 100 1090 := iv_mul bx31 (show iv 10 10 10 from ⟨by decide, by decide⟩) ex34 (by decide)
        refine lv_istore (lv' := [(5, .int x34), (0, .ref ap0), (2, .int x5), (3, .int y14_l3), (4, .int y14_l4)]) hx hb dX10_sumWithin_35 hl (by decide) rfl (fun ls hl => ?_)
        refine lv_iload hx hb dX10_sumWithin_37 (lv_at hl 4 rfl) ?_
        refine lv_iconst (v := 1) hx hb dX10_sumWithin_39 (by decide) ?_
        refine lv_iadd hx hb dX10_sumWithin_40 ?_
        refine lv_topi (fun x40 ex40 => ?_)
        have bx40 : iv x40 1 10 := iv_add r17fp (show iv 1 1 1 from ⟨by decide, by decide⟩) ex40 (by decide)
        have qx40 := iv_add_eq r17fp (show iv 1 1 1 from ⟨by decide, by decide⟩) ex40 (by decide)
        refine lv_istore (lv' := [(6, .int x40), (5, .int x34), (0, .ref ap0), (2, .int x5), (3, .int y14_l3), (4, .int y14_l4)]) hx hb dX10_sumWithin_41 hl (by decide) rfl (fun ls hl => ?_)
        have J43 : ∀ (n : Nat) (y43_l3 y43_l6 : Int32), (10 - y43_l6.toInt).toNat < n → iv x5 1 10 → iv y14_l4 0 9 → iv x34 100 1090 → iv y43_l6 1 10 → ∀ (H : Heap) (locs : List Loc), hp_w D T s H locs → ∀ (ls : Array Slot), lv_has ls 7 [(0, .ref ap0), (2, .int x5), (3, .int y43_l3), (4, .int y14_l4), (5, .int x34), (6, .int y43_l6)] → WX10_sumWithin p l e s m below meth c D T ap0 xp1 H locs (F0 m 43 ls []) := by
          intro n
          induction n with
          | zero => intro y43_l3 y43_l6 hmu43 c43_x5 c43_y14_l4 c43_x34 c43_y43_l6 H43 locs43 hw ls hl; exact absurd hmu43 (Nat.not_lt_zero _)
          | succ n ih43 =>
            intro y43_l3 y43_l6 hmu43 c43_x5 c43_y14_l4 c43_x34 c43_y43_l6 H43 locs43 hw ls hl
            refine lv_iload hx hb dX10_sumWithin_43 (lv_at hl 5 rfl) ?_
            refine lv_iload_n hx hb dX10_sumWithin_45 rfl (lv_at hl 1 rfl) ?_
            refine lv_icmp_ge (tgt := 73) hx hb dX10_sumWithin_46 (by decide) (fun c46 => ?_) (fun c46 => ?_)
            · obtain ⟨x73, ex73⟩ : ∃ y : Int32, y = y14_l4 + 1 := ⟨_, rfl⟩
              have bx73 : iv x73 1 10 := iv_add c43_y14_l4 (show iv 1 1 1 from ⟨by decide, by decide⟩) ex73 (by decide)
              have qx73 := iv_add_eq c43_y14_l4 (show iv 1 1 1 from ⟨by decide, by decide⟩) ex73 (by decide)
              refine lv_iinc (v := x73) (lv' := [(4, .int x73), (0, .ref ap0), (2, .int x5), (3, .int y43_l3), (5, .int x34), (6, .int y43_l6)]) hx hb dX10_sumWithin_73 hl (k := 3) rfl (by rw [ex73]; rfl) (by decide) rfl (fun ls hl => ?_)
              refine lv_goto (tgt := 14) hx hb dX10_sumWithin_76 (by decide) ?_
              exact ih14 y43_l3 x73 (mu_up 1 hmu14 (qx73) (by decide) (show iv x73 0 10 from (bx73.mono (by decide) (by decide))).2) (c43_x5.mono (by decide) (by decide)) (bx73.mono (by decide) (by decide)) H43 locs43 hw _ (lv_sub hl [1, 2, 3, 0] rfl)
            · have r46fp : iv y43_l6 1 9 := (iv_lt_l (iv_nle c46) c43_y43_l6 c43_x5).mono (by decide) (by decide)
              have r46fq : iv x5 2 10 := (iv_lt_r (iv_nle c46) c43_y43_l6 c43_x5).mono (by decide) (by decide)
              refine lv_iload_n hx hb dX10_sumWithin_49 rfl (lv_at hl 2 rfl) ?_
              refine lv_aload_n hx hb dX10_sumWithin_50 rfl (lv_at hl 0 rfl) ?_
              refine hp_getr hx hb hts IX10 hown hK hw.1 hp0 rfl 6 (by decide) L31 rfl dX10_sumWithin_51 ?_
              refine lv_iload hx hb dX10_sumWithin_54 (lv_at hl 4 rfl) ?_
              refine lv_aload_n hx hb dX10_sumWithin_56 rfl (lv_at hl 0 rfl) ?_
              refine hp_getr hx hb hts IX10 hown hK hw.1 hp0 rfl 9 (by decide) L41 rfl dX10_sumWithin_57 ?_
              refine lv_iload hx hb dX10_sumWithin_60 (lv_at hl 5 rfl) ?_
              refine hp_ialdI hx hb hK hw.1 hp0me (vp_iv r46fp (by decide)) dX10_sumWithin_62 (fun x62 bx62 => ?_)
              refine lv_iadd hx hb dX10_sumWithin_63 ?_
              refine lv_topi (fun x63 ex63 => ?_)
              have bx63 : iv x63 100 1099 := iv_add c43_x34 bx62 ex63 (by decide)
              have qx63 := iv_add_eq c43_x34 bx62 ex63 (by decide)
              refine hp_ialdA hx hb hK hw.1 hp0wo (vp_iv bx63 (by decide)) dX10_sumWithin_64 (fun x64 => ?_)
              refine lv_iadd hx hb dX10_sumWithin_65 ?_
              refine lv_topi (fun x65 ex65 => ?_)
              refine lv_istore_n (lv' := [(3, .int x65), (0, .ref ap0), (2, .int x5), (4, .int y14_l4), (5, .int x34), (6, .int y43_l6)]) hx hb dX10_sumWithin_66 rfl hl (by decide) rfl (fun ls hl => ?_)
              obtain ⟨x67, ex67⟩ : ∃ y : Int32, y = y43_l6 + 1 := ⟨_, rfl⟩
              have bx67 : iv x67 2 10 := iv_add r46fp (show iv 1 1 1 from ⟨by decide, by decide⟩) ex67 (by decide)
              have qx67 := iv_add_eq r46fp (show iv 1 1 1 from ⟨by decide, by decide⟩) ex67 (by decide)
              refine lv_iinc (v := x67) (lv' := [(6, .int x67), (3, .int x65), (0, .ref ap0), (2, .int x5), (4, .int y14_l4), (5, .int x34)]) hx hb dX10_sumWithin_67 hl (k := 5) rfl (by rw [ex67]; rfl) (by decide) rfl (fun ls hl => ?_)
              refine lv_goto (tgt := 43) hx hb dX10_sumWithin_70 (by decide) ?_
              exact ih43 x65 x67 (mu_up 1 hmu43 (qx67) (by decide) (show iv x67 1 10 from (bx67.mono (by decide) (by decide))).2) (r46fq.mono (by decide) (by decide)) c43_y14_l4 c43_x34 (bx67.mono (by decide) (by decide)) H43 locs43 hw _ (lv_sub hl [2, 3, 1, 4, 5, 0] rfl)
        exact J43 _ y14_l3 x40 (Nat.lt_succ_self _) r17fq r17fp bx34 bx40 H14 locs14 hw _ (lv_sub hl [2, 3, 4, 5, 1, 0] rfl)
  exact J14 _ (0 : Int32) (0 : Int32) (Nat.lt_succ_self _) bx5 (show iv 0 0 10 from ⟨by decide, by decide⟩) H5 locs5 hw _ (lv_sub hl [3, 2, 1, 0] rfl)
abbrev WX10_findWorths (p : Program) (l : Launch) (e : Env) (s : State) (m : MethodId) (below : List Frame) (meth : Method) (c : Code) (D : hp_D) (T : hp_T) (ap0 : Nat) (ap1 : Nat) (ap2 : Nat) (xp3 : Int32) (xp4 : Int32) (H : Heap) (locs : List Loc) (g : JFrame) : Prop := W p l e (headSpec wsX10_findWorths ({ frames := 4, cells := 0, slots := 0, locals := 98 })).room s m ([.ref ap0, .ref ap1, .ref ap2, .int xp3, .int xp4] : List Value).toArray below meth c H locs 0 0 (MQ below (hq_e D T (fun v _ _ => v = none ∧ True)) ([.ref ap0, .ref ap1, .ref ap2, .int xp3, .int xp4] : List Value).toArray s 0 0 (hp_F T)) g
set_option maxHeartbeats 4000000 in
set_option maxRecDepth 100000 in
theorem sX10_findWorths (l : Launch) (D : hp_D) (T : hp_T) (ap0 : Nat) (ap1 : Nat) (ap2 : Nat) (xp3 : Int32) (xp4 : Int32) (Ru : Nat → Prop) (hRu : ∀ b, Ru b → isRule T b) (ip0 : isWorlds T ap0) (ip1 : isShaker T Ru ap1) (ip2 : isTown T ap2) : Met l yX10_findWorths wsX10_findWorths ({ frames := 4, cells := 0, slots := 0, locals := 98 }) (hp_Pc D T [.ref ap0, .ref ap1, .ref ap2, .int xp3, .int xp4] (fun _ => True)) (hq_e D T (fun v _ _ => v = none ∧ True)) 0 0 (hp_F T) := by
  obtain ⟨ap0fi, ap0wo, ap0su, ap0sh, ap0me, ap0s1, ap0s2, hp0, hp0fi, hp0wo, hp0su, hp0sh, hp0me, hp0s1, hp0s2⟩ := id ip0
  obtain ⟨ap1wd, ap1sk, ap1th, hp1, hp1wd, hp1sk, hp1th⟩ := id ip1
  obtain ⟨ap2kin, ap2pl, ap2cr, hp2, hp2kin, hp2pl, hp2cr⟩ := id ip2
  refine Met.ofW (cc := cX10_findWorths) (maxL := 10) (ret := none) (by decide) rfl ?_
  intro p e s m args below meth c s₁ B hml hv
  obtain ⟨rfl, hok, hG, hB⟩ := hv
  have hx := B.exec
  have hb := B.bytes
  have hr := B.returns
  have hts := atoms_spec (ws := wsX10_findWorths) B.pre
  have hown : s.vm.findClass RX10 = some m.cls := findClass_of_methodNamed B.named
  have hlocks := B.notSynchronized
  have hK := hG.1
  have hw : hp_w D T s s.heap [] := hp_w.rf hok
  have IX10 : ∀ w ∈ wsX100, w ∈ wsX10_findWorths := by decide +kernel
  have L41 := hts (.fieldLink RX10 41 "PalmCensus$Worlds" "members" "[I") (by decide +kernel)
  have INX11 := hts (.initialized RX11) (by decide +kernel)
  have STX11_listMembers := hts (.static yX11_listMembers) (by decide +kernel)
  have L31 := hts (.fieldLink RX10 31 "PalmCensus$Worlds" "worths" "[I") (by decide +kernel)
  have hl := lv_entry ([.ref ap0, .ref ap1, .ref ap2, .int xp3, .int xp4]) (n := 10) (Nat.le_of_ble_eq_true rfl)
  rw [lg_entry_eq]
  generalize (lg_sl ([.ref ap0, .ref ap1, .ref ap2, .int xp3, .int xp4]) ++ List.replicate (10 - (lg_sl ([.ref ap0, .ref ap1, .ref ap2, .int xp3, .int xp4])).length) Slot.unset).toArray = ls at hl ⊢
  have hl : lv_has ls 10 [(0, .ref ap0), (1, .ref ap1), (2, .ref ap2), (3, .int xp3), (4, .int xp4)] := hl
  show WX10_findWorths p l e s m below meth c D T ap0 ap1 ap2 xp3 xp4 s.heap [] (F0 m 0 ls [])
  refine lv_iload_n hx hb dX10_findWorths_0 rfl (lv_at hl 3 rfl) ?_
  refine lv_aload_n hx hb dX10_findWorths_1 rfl (lv_at hl 0 rfl) ?_
  refine hp_getr hx hb hts IX10 hown hK hw.1 hp0 rfl 9 (by decide) L41 rfl dX10_findWorths_2 ?_
  refine hp_callei (va_runSN (As := [.int xp3, .ref ap0me]) (rest := []) ⟨hx, hb, hml, hown, hts⟩ (sX11_listMembers l D T xp3 ap0me hp0me) ⟨va_cnB 2 hts gX10_findWorths_X11_listMembers_n134 rfl rfl rfl hG.2.1.2.1 INX11 (by decide +kernel) ⟨Nat.le_of_ble_eq_true rfl, Nat.le_of_ble_eq_true rfl⟩, STX11_listMembers, trivial⟩ (hp_preS hG hw trivial) rfl rfl hl.1 rfl (lv_room (Nat.le_of_ble_eq_true rfl)) dX10_findWorths_5 ⟨Nat.zero_le _, Nat.zero_le _⟩) hw (fun x5 st5 t5 H5 locs5 eh5 eg5 bx5 hw => ?_)
  refine lv_istore (lv' := [(5, .int x5), (0, .ref ap0), (1, .ref ap1), (2, .ref ap2), (3, .int xp3), (4, .int xp4)]) hx hb dX10_findWorths_8 hl (by decide) rfl (fun ls hl => ?_)
  refine lv_iconst (v := 0) hx hb dX10_findWorths_10 (by decide) ?_
  refine lv_istore (lv' := [(6, .int 0), (5, .int x5), (0, .ref ap0), (1, .ref ap1), (2, .ref ap2), (3, .int xp3), (4, .int xp4)]) hx hb dX10_findWorths_11 hl (by decide) rfl (fun ls hl => ?_)
  have J13 : ∀ (n : Nat) (y13_l6 : Int32), (10 - y13_l6.toInt).toNat < n → iv x5 0 10 → iv y13_l6 0 10 → ∀ (H : Heap) (locs : List Loc), hp_w D T s H locs → ∀ (ls : Array Slot), lv_has ls 10 [(0, .ref ap0), (1, .ref ap1), (2, .ref ap2), (4, .int xp4), (5, .int x5), (6, .int y13_l6)] → WX10_findWorths p l e s m below meth c D T ap0 ap1 ap2 xp3 xp4 H locs (F0 m 13 ls []) := by
    intro n
    induction n with
    | zero => intro y13_l6 hmu13 c13_x5 c13_y13_l6 H13 locs13 hw ls hl; exact absurd hmu13 (Nat.not_lt_zero _)
    | succ n ih13 =>
      intro y13_l6 hmu13 c13_x5 c13_y13_l6 H13 locs13 hw ls hl
      refine lv_iload hx hb dX10_findWorths_13 (lv_at hl 5 rfl) ?_
      refine lv_iload hx hb dX10_findWorths_15 (lv_at hl 4 rfl) ?_
      refine lv_icmp_ge (tgt := 133) hx hb dX10_findWorths_17 (by decide) (fun c17 => ?_) (fun c17 => ?_)
      · exact W.vret hx hb hr (fun t ht hW => ⟨none, rfl, ⟨rfl, trivial⟩, by rw [ht]; exact hw.1, hw.2.F ht⟩) hw.2.2.2 dX10_findWorths_133
      · have r17fp : iv y13_l6 0 9 := (iv_lt_l (iv_nle c17) c13_y13_l6 c13_x5).mono (by decide) (by decide)
        have r17fq : iv x5 1 10 := (iv_lt_r (iv_nle c17) c13_y13_l6 c13_x5).mono (by decide) (by decide)
        refine lv_iload hx hb dX10_findWorths_20 (lv_at hl 5 rfl) ?_
        refine lv_iconst (v := 1) hx hb dX10_findWorths_22 (by decide) ?_
        refine lv_iadd hx hb dX10_findWorths_23 ?_
        refine lv_topi (fun x23 ex23 => ?_)
        have bx23 : iv x23 1 10 := iv_add r17fp (show iv 1 1 1 from ⟨by decide, by decide⟩) ex23 (by decide)
        have qx23 := iv_add_eq r17fp (show iv 1 1 1 from ⟨by decide, by decide⟩) ex23 (by decide)
        refine lv_istore (lv' := [(7, .int x23), (0, .ref ap0), (1, .ref ap1), (2, .ref ap2), (4, .int xp4), (5, .int x5), (6, .int y13_l6)]) hx hb dX10_findWorths_24 hl (by decide) rfl (fun ls hl => ?_)
        have J26 : ∀ (n : Nat) (y26_l7 : Int32), (10 - y26_l7.toInt).toNat < n → iv x5 1 10 → iv y13_l6 0 9 → iv y26_l7 1 10 → ∀ (H : Heap) (locs : List Loc), hp_w D T s H locs → ∀ (ls : Array Slot), lv_has ls 10 [(0, .ref ap0), (1, .ref ap1), (2, .ref ap2), (4, .int xp4), (5, .int x5), (6, .int y13_l6), (7, .int y26_l7)] → WX10_findWorths p l e s m below meth c D T ap0 ap1 ap2 xp3 xp4 H locs (F0 m 26 ls []) := by
          intro n
          induction n with
          | zero => intro y26_l7 hmu26 c26_x5 c26_y13_l6 c26_y26_l7 H26 locs26 hw ls hl; exact absurd hmu26 (Nat.not_lt_zero _)
          | succ n ih26 =>
            intro y26_l7 hmu26 c26_x5 c26_y13_l6 c26_y26_l7 H26 locs26 hw ls hl
            refine lv_iload hx hb dX10_findWorths_26 (lv_at hl 6 rfl) ?_
            refine lv_iload hx hb dX10_findWorths_28 (lv_at hl 4 rfl) ?_
            refine lv_icmp_ge (tgt := 127) hx hb dX10_findWorths_30 (by decide) (fun c30 => ?_) (fun c30 => ?_)
            · obtain ⟨x127, ex127⟩ : ∃ y : Int32, y = y13_l6 + 1 := ⟨_, rfl⟩
              have bx127 : iv x127 1 10 := iv_add c26_y13_l6 (show iv 1 1 1 from ⟨by decide, by decide⟩) ex127 (by decide)
              have qx127 := iv_add_eq c26_y13_l6 (show iv 1 1 1 from ⟨by decide, by decide⟩) ex127 (by decide)
              refine lv_iinc (v := x127) (lv' := [(6, .int x127), (0, .ref ap0), (1, .ref ap1), (2, .ref ap2), (4, .int xp4), (5, .int x5), (7, .int y26_l7)]) hx hb dX10_findWorths_127 hl (k := 5) rfl (by rw [ex127]; rfl) (by decide) rfl (fun ls hl => ?_)
              refine lv_goto (tgt := 13) hx hb dX10_findWorths_130 (by decide) ?_
              exact ih13 x127 (mu_up 1 hmu13 (qx127) (by decide) (show iv x127 0 10 from (bx127.mono (by decide) (by decide))).2) (c26_x5.mono (by decide) (by decide)) (bx127.mono (by decide) (by decide)) H26 locs26 hw _ (lv_sub hl [1, 2, 3, 4, 5, 0] rfl)
            · have r30fp : iv y26_l7 1 9 := (iv_lt_l (iv_nle c30) c26_y26_l7 c26_x5).mono (by decide) (by decide)
              have r30fq : iv x5 2 10 := (iv_lt_r (iv_nle c30) c26_y26_l7 c26_x5).mono (by decide) (by decide)
              refine lv_iconst (v := 0) hx hb dX10_findWorths_33 (by decide) ?_
              refine lv_istore (lv' := [(8, .int 0), (0, .ref ap0), (1, .ref ap1), (2, .ref ap2), (4, .int xp4), (5, .int x5), (6, .int y13_l6), (7, .int y26_l7)]) hx hb dX10_findWorths_34 hl (by decide) rfl (fun ls hl => ?_)
              refine lv_iconst (v := 2) hx hb dX10_findWorths_36 (by decide) ?_
              refine lv_istore (lv' := [(9, .int 2), (8, .int 0), (0, .ref ap0), (1, .ref ap1), (2, .ref ap2), (4, .int xp4), (5, .int x5), (6, .int y13_l6), (7, .int y26_l7)]) hx hb dX10_findWorths_37 hl (by decide) rfl (fun ls hl => ?_)
              have J39 : ∀ (n : Nat) (y39_l8 y39_l9 : Int32), (11 - y39_l9.toInt).toNat < n → iv x5 2 10 → iv y13_l6 0 9 → iv y26_l7 1 9 → iv y39_l9 2 11 → ∀ (H : Heap) (locs : List Loc), hp_w D T s H locs → ∀ (ls : Array Slot), lv_has ls 10 [(0, .ref ap0), (1, .ref ap1), (2, .ref ap2), (4, .int xp4), (5, .int x5), (6, .int y13_l6), (7, .int y26_l7), (8, .int y39_l8), (9, .int y39_l9)] → WX10_findWorths p l e s m below meth c D T ap0 ap1 ap2 xp3 xp4 H locs (F0 m 39 ls []) := by
                intro n
                induction n with
                | zero => intro y39_l8 y39_l9 hmu39 c39_x5 c39_y13_l6 c39_y26_l7 c39_y39_l9 H39 locs39 hw ls hl; exact absurd hmu39 (Nat.not_lt_zero _)
                | succ n ih39 =>
                  intro y39_l8 y39_l9 hmu39 c39_x5 c39_y13_l6 c39_y26_l7 c39_y39_l9 H39 locs39 hw ls hl
                  refine lv_iload hx hb dX10_findWorths_39 (lv_at hl 8 rfl) ?_
                  refine lv_iload hx hb dX10_findWorths_41 (lv_at hl 4 rfl) ?_
                  refine lv_icmp_gt (tgt := 121) hx hb dX10_findWorths_43 (by decide) (fun c43 => ?_) (fun c43 => ?_)
                  · have r43tq : iv y39_l9 3 11 := (iv_lt_r c43 c39_x5 c39_y39_l9).mono (by decide) (by decide)
                    obtain ⟨x121, ex121⟩ : ∃ y : Int32, y = y26_l7 + 1 := ⟨_, rfl⟩
                    have bx121 : iv x121 2 10 := iv_add c39_y26_l7 (show iv 1 1 1 from ⟨by decide, by decide⟩) ex121 (by decide)
                    have qx121 := iv_add_eq c39_y26_l7 (show iv 1 1 1 from ⟨by decide, by decide⟩) ex121 (by decide)
                    refine lv_iinc (v := x121) (lv' := [(7, .int x121), (0, .ref ap0), (1, .ref ap1), (2, .ref ap2), (4, .int xp4), (5, .int x5), (6, .int y13_l6), (8, .int y39_l8), (9, .int y39_l9)]) hx hb dX10_findWorths_121 hl (k := 6) rfl (by rw [ex121]; rfl) (by decide) rfl (fun ls hl => ?_)
                    refine lv_goto (tgt := 26) hx hb dX10_findWorths_124 (by decide) ?_
                    exact ih26 x121 (mu_up 1 hmu26 (qx121) (by decide) (show iv x121 1 10 from (bx121.mono (by decide) (by decide))).2) (c39_x5.mono (by decide) (by decide)) c39_y13_l6 (bx121.mono (by decide) (by decide)) H39 locs39 hw _ (lv_sub hl [1, 2, 3, 4, 5, 6, 0] rfl)
                  · have r43fp : iv y39_l9 2 10 := (iv_le_l (iv_nlt c43) c39_y39_l9 c39_x5).mono (by decide) (by decide)
                    refine lv_iload hx hb dX10_findWorths_46 (lv_at hl 8 rfl) ?_
                    refine lv_iconst (v := 2) hx hb dX10_findWorths_48 (by decide) ?_
                    have J84 : ∀ (y84_l8 : Int32), iv x5 2 10 → iv y13_l6 0 9 → iv y26_l7 1 9 → iv y39_l9 2 10 → ∀ (H : Heap) (locs : List Loc), hp_w D T s H locs → ∀ (ls : Array Slot), lv_has ls 10 [(0, .ref ap0), (1, .ref ap1), (2, .ref ap2), (4, .int xp4), (5, .int x5), (6, .int y13_l6), (7, .int y26_l7), (8, .int y84_l8), (9, .int y39_l9)] → WX10_findWorths p l e s m below meth c D T ap0 ap1 ap2 xp3 xp4 H locs (F0 m 84 ls []) := by
                      intro y84_l8 c84_x5 c84_y13_l6 c84_y26_l7 c84_y39_l9 H84 locs84 hw ls hl
                      refine lv_aload_n hx hb dX10_findWorths_84 rfl (lv_at hl 0 rfl) ?_
                      refine hp_getr hx hb hts IX10 hown hK hw.1 hp0 rfl 6 (by decide) L31 rfl dX10_findWorths_85 ?_
                      refine lv_iload hx hb dX10_findWorths_88 (lv_at hl 8 rfl) ?_
                      refine lv_bipush (v := 10) hx hb dX10_findWorths_90 (by decide) ?_
                      refine lv_imul hx hb dX10_findWorths_92 ?_
                      refine lv_topi (fun x92 ex92 => ?_)
                      have bx92 : iv x92 20 100 := iv_mul c84_y39_l9 (show iv 10 10 10 from ⟨by decide, by decide⟩) ex92 (by decide)
                      refine lv_aload_n hx hb dX10_findWorths_93 rfl (lv_at hl 0 rfl) ?_
                      refine hp_getr hx hb hts IX10 hown hK hw.1 hp0 rfl 9 (by decide) L41 rfl dX10_findWorths_94 ?_
                      refine lv_iload hx hb dX10_findWorths_97 (lv_at hl 5 rfl) ?_
                      refine hp_ialdI hx hb hK hw.1 hp0me (vp_iv c84_y13_l6 (by decide)) dX10_findWorths_99 (fun x99 bx99 => ?_)
                      refine lv_iadd hx hb dX10_findWorths_100 ?_
                      refine lv_topi (fun x100 ex100 => ?_)
                      have bx100 : iv x100 20 109 := iv_add bx92 bx99 ex100 (by decide)
                      have qx100 := iv_add_eq bx92 bx99 ex100 (by decide)
                      refine lv_bipush (v := 10) hx hb dX10_findWorths_101 (by decide) ?_
                      refine lv_imul hx hb dX10_findWorths_103 ?_
                      refine lv_topi (fun x103 ex103 => ?_)
                      have bx103 : iv x103 200 1090 := iv_mul bx100 (show iv 10 10 10 from ⟨by decide, by decide⟩) ex103 (by decide)
                      refine lv_aload_n hx hb dX10_findWorths_104 rfl (lv_at hl 0 rfl) ?_
                      refine hp_getr hx hb hts IX10 hown hK hw.1 hp0 rfl 9 (by decide) L41 rfl dX10_findWorths_105 ?_
                      refine lv_iload hx hb dX10_findWorths_108 (lv_at hl 6 rfl) ?_
                      refine hp_ialdI hx hb hK hw.1 hp0me (vp_iv c84_y26_l7 (by decide)) dX10_findWorths_110 (fun x110 bx110 => ?_)
                      refine lv_iadd hx hb dX10_findWorths_111 ?_
                      refine lv_topi (fun x111 ex111 => ?_)
                      have bx111 : iv x111 200 1099 := iv_add bx103 bx110 ex111 (by decide)
                      have qx111 := iv_add_eq bx103 bx110 ex111 (by decide)
                      refine lv_iload hx hb dX10_findWorths_112 (lv_at hl 7 rfl) ?_
                      refine hp_iast hx hb hK hw hp0wo (vp_iv bx111 (by decide)) ⟨_, rfl⟩ dX10_findWorths_114 (fun H114 locs114 hw g114 => ?_)
                      obtain ⟨x115, ex115⟩ : ∃ y : Int32, y = y39_l9 + 1 := ⟨_, rfl⟩
                      have bx115 : iv x115 3 11 := iv_add c84_y39_l9 (show iv 1 1 1 from ⟨by decide, by decide⟩) ex115 (by decide)
                      have qx115 := iv_add_eq c84_y39_l9 (show iv 1 1 1 from ⟨by decide, by decide⟩) ex115 (by decide)
                      refine lv_iinc (v := x115) (lv' := [(9, .int x115), (0, .ref ap0), (1, .ref ap1), (2, .ref ap2), (4, .int xp4), (5, .int x5), (6, .int y13_l6), (7, .int y26_l7), (8, .int y84_l8)]) hx hb dX10_findWorths_115 hl (k := 8) rfl (by rw [ex115]; rfl) (by decide) rfl (fun ls hl => ?_)
                      refine lv_goto (tgt := 39) hx hb dX10_findWorths_118 (by decide) ?_
                      exact ih39 y84_l8 x115 (mu_up 1 hmu39 (qx115) (by decide) (show iv x115 2 11 from (bx115.mono (by decide) (by decide))).2) c84_x5 c84_y13_l6 c84_y26_l7 (bx115.mono (by decide) (by decide)) H114 locs114 hw _ (lv_sub hl [1, 2, 3, 4, 5, 6, 7, 8, 0] rfl)
                    have J59 : iv x5 2 10 → iv y13_l6 0 9 → iv y26_l7 1 9 → iv y39_l9 2 10 → ∀ (H : Heap) (locs : List Loc), hp_w D T s H locs → ∀ (ls : Array Slot), lv_has ls 10 [(0, .ref ap0), (1, .ref ap1), (2, .ref ap2), (4, .int xp4), (5, .int x5), (6, .int y13_l6), (7, .int y26_l7), (9, .int y39_l9)] → WX10_findWorths p l e s m below meth c D T ap0 ap1 ap2 xp3 xp4 H locs (F0 m 59 ls []) := by
                      intro c59_x5 c59_y13_l6 c59_y26_l7 c59_y39_l9 H59 locs59 hw ls hl
                      refine lv_aload_n hx hb dX10_findWorths_59 rfl (lv_at hl 1 rfl) ?_
                      refine lv_aload_n hx hb dX10_findWorths_60 rfl (lv_at hl 2 rfl) ?_
                      refine lv_aload_n hx hb dX10_findWorths_61 rfl (lv_at hl 0 rfl) ?_
                      refine hp_getr hx hb hts IX10 hown hK hw.1 hp0 rfl 9 (by decide) L41 rfl dX10_findWorths_62 ?_
                      refine lv_iload hx hb dX10_findWorths_65 (lv_at hl 5 rfl) ?_
                      refine hp_ialdI hx hb hK hw.1 hp0me (vp_iv c59_y13_l6 (by decide)) dX10_findWorths_67 (fun x67 bx67 => ?_)
                      refine lv_aload_n hx hb dX10_findWorths_68 rfl (lv_at hl 0 rfl) ?_
                      refine hp_getr hx hb hts IX10 hown hK hw.1 hp0 rfl 9 (by decide) L41 rfl dX10_findWorths_69 ?_
                      refine lv_iload hx hb dX10_findWorths_72 (lv_at hl 6 rfl) ?_
                      refine hp_ialdI hx hb hK hw.1 hp0me (vp_iv c59_y26_l7 (by decide)) dX10_findWorths_74 (fun x74 bx74 => ?_)
                      refine lv_iload hx hb dX10_findWorths_75 (lv_at hl 3 rfl) ?_
                      refine lv_iload hx hb dX10_findWorths_77 (lv_at hl 7 rfl) ?_
                      refine hp_callei (va_runV (As := [.ref ap2, .int x67, .int x74, .int xp4, .int y39_l9]) (rest := []) ⟨hx, hb, hml, hown, hts⟩ (sX5_worthOf l D T ap1 ap2 x67 x74 xp4 y39_l9 Ru hRu ip1 ip2) (cwV 5 hts gX10_findWorths_X5_worthOf rfl rfl rfl (by decide +kernel) ⟨Nat.le_of_ble_eq_true rfl, Nat.le_of_ble_eq_true rfl⟩) (hp_preV hG hw hp1 rfl trivial) rfl rfl hl.1 rfl (lv_room (Nat.le_of_ble_eq_true rfl)) dX10_findWorths_79 ⟨Nat.zero_le _, Nat.zero_le _⟩) hw (fun x79 st79 t79 H79 locs79 eh79 eg79 bx79 hw => ?_)
                      refine lv_istore (lv' := [(8, .int x79), (0, .ref ap0), (1, .ref ap1), (2, .ref ap2), (4, .int xp4), (5, .int x5), (6, .int y13_l6), (7, .int y26_l7), (9, .int y39_l9)]) hx hb dX10_findWorths_82 hl (by decide) rfl (fun ls hl => ?_)
                      exact J84 x79 c59_x5 c59_y13_l6 c59_y26_l7 c59_y39_l9 H79 locs79 hw _ (lv_sub hl [1, 2, 3, 4, 5, 6, 7, 0, 8] rfl)
                    refine lv_icmp_eq (tgt := 59) hx hb dX10_findWorths_49 (by decide) (fun c49 => ?_) (fun c49 => ?_)
                    · have r49tp : iv y39_l9 2 2 := (iv_both r43fp (iv_eq (show iv 2 2 2 from ⟨by decide, by decide⟩) c49)).mono (by decide) (by decide)
                      exact J59 c39_x5 c39_y13_l6 c39_y26_l7 (r49tp.mono (by decide) (by decide)) H39 locs39 hw _ (lv_sub hl [0, 1, 2, 3, 4, 5, 6, 8] rfl)
                    · have r49fp : iv y39_l9 3 10 := (iv_ne_lo c49 r43fp rfl).mono (by decide) (by decide)
                      refine lv_aload_n hx hb dX10_findWorths_52 rfl (lv_at hl 1 rfl) ?_
                      refine hp_callpi (va_runV (As := []) (rest := []) ⟨hx, hb, hml, hown, hts⟩ (sX5_mindsCrowd l D T ap1 Ru hRu ip1) (cwV 0 hts gX10_findWorths_X5_mindsCrowd rfl rfl rfl (by decide +kernel) ⟨Nat.le_of_ble_eq_true rfl, Nat.le_of_ble_eq_true rfl⟩) (hp_preV hG hw hp1 rfl trivial) rfl rfl hl.1 rfl (lv_room (Nat.le_of_ble_eq_true rfl)) dX10_findWorths_53 ⟨Nat.zero_le _, Nat.zero_le _⟩) (fun x53 bx53 => ?_)
                      refine lv_if_eq (tgt := 84) hx hb dX10_findWorths_56 (by decide) (fun c56 => ?_) (fun c56 => ?_)
                      · have r56tp : iv x53 0 0 := (iv_both bx53 (iv_eq (show iv 0 0 0 from ⟨by decide, by decide⟩) c56)).mono (by decide) (by decide)
                        exact J84 y39_l8 c39_x5 c39_y13_l6 c39_y26_l7 (r49fp.mono (by decide) (by decide)) H39 locs39 hw _ (lv_sub hl [0, 1, 2, 3, 4, 5, 6, 7, 8] rfl)
                      · have r56fp : iv x53 1 1 := (iv_ne_lo c56 bx53 rfl).mono (by decide) (by decide)
                        exact J59 c39_x5 c39_y13_l6 c39_y26_l7 (r49fp.mono (by decide) (by decide)) H39 locs39 hw _ (lv_sub hl [0, 1, 2, 3, 4, 5, 6, 8] rfl)
              exact J39 _ (0 : Int32) (2 : Int32) (Nat.lt_succ_self _) r30fq c26_y13_l6 r30fp (show iv 2 2 11 from ⟨by decide, by decide⟩) H26 locs26 hw _ (lv_sub hl [2, 3, 4, 5, 6, 7, 8, 1, 0] rfl)
        exact J26 _ x23 (Nat.lt_succ_self _) r17fq r17fp bx23 H13 locs13 hw _ (lv_sub hl [1, 2, 3, 4, 5, 6, 0] rfl)
  exact J13 _ (0 : Int32) (Nat.lt_succ_self _) bx5 (show iv 0 0 10 from ⟨by decide, by decide⟩) H5 locs5 hw _ (lv_sub hl [2, 3, 4, 6, 1, 0] rfl)
abbrev WX10_findSums (p : Program) (l : Launch) (e : Env) (s : State) (m : MethodId) (below : List Frame) (meth : Method) (c : Code) (D : hp_D) (T : hp_T) (ap0 : Nat) (ap1 : Nat) (ap2 : Nat) (xp3 : Int32) (xp4 : Int32) (H : Heap) (locs : List Loc) (g : JFrame) : Prop := W p l e (headSpec wsX10_findSums ({ frames := 5, cells := 0, slots := 0, locals := 127 })).room s m ([.ref ap0, .ref ap1, .ref ap2, .int xp3, .int xp4] : List Value).toArray below meth c H locs 0 0 (MQ below (hq_e D T (fun v _ _ => v = none ∧ True)) ([.ref ap0, .ref ap1, .ref ap2, .int xp3, .int xp4] : List Value).toArray s 0 0 (hp_F T)) g
set_option maxHeartbeats 4000000 in
set_option maxRecDepth 100000 in
theorem sX10_findSums (l : Launch) (D : hp_D) (T : hp_T) (ap0 : Nat) (ap1 : Nat) (ap2 : Nat) (xp3 : Int32) (xp4 : Int32) (Ru : Nat → Prop) (hRu : ∀ b, Ru b → isRule T b) (ip0 : isWorlds T ap0) (ip1 : isShaker T Ru ap1) (ip2 : isTown T ap2) (bp3 : iv xp3 0 1023) : Met l yX10_findSums wsX10_findSums ({ frames := 5, cells := 0, slots := 0, locals := 127 }) (hp_Pc D T [.ref ap0, .ref ap1, .ref ap2, .int xp3, .int xp4] (fun _ => True)) (hq_e D T (fun v _ _ => v = none ∧ True)) 0 0 (hp_F T) := by
  obtain ⟨ap0fi, ap0wo, ap0su, ap0sh, ap0me, ap0s1, ap0s2, hp0, hp0fi, hp0wo, hp0su, hp0sh, hp0me, hp0s1, hp0s2⟩ := id ip0
  obtain ⟨ap1wd, ap1sk, ap1th, hp1, hp1wd, hp1sk, hp1th⟩ := id ip1
  obtain ⟨ap2kin, ap2pl, ap2cr, hp2, hp2kin, hp2pl, hp2cr⟩ := id ip2
  refine Met.ofW (cc := cX10_findSums) (maxL := 8) (ret := none) (by decide) rfl ?_
  intro p e s m args below meth c s₁ B hml hv
  obtain ⟨rfl, hok, hG, hB⟩ := hv
  have hx := B.exec
  have hb := B.bytes
  have hr := B.returns
  have hts := atoms_spec (ws := wsX10_findSums) B.pre
  have hown : s.vm.findClass RX10 = some m.cls := findClass_of_methodNamed B.named
  have hlocks := B.notSynchronized
  have hK := hG.1
  have hw : hp_w D T s s.heap [] := hp_w.rf hok
  have IX10 : ∀ w ∈ wsX100, w ∈ wsX10_findSums := by decide +kernel
  have L35 := hts (.fieldLink RX10 35 "PalmCensus$Worlds" "sums" "[I") (by decide +kernel)
  have hl := lv_entry ([.ref ap0, .ref ap1, .ref ap2, .int xp3, .int xp4]) (n := 8) (Nat.le_of_ble_eq_true rfl)
  rw [lg_entry_eq]
  generalize (lg_sl ([.ref ap0, .ref ap1, .ref ap2, .int xp3, .int xp4]) ++ List.replicate (8 - (lg_sl ([.ref ap0, .ref ap1, .ref ap2, .int xp3, .int xp4])).length) Slot.unset).toArray = ls at hl ⊢
  have hl : lv_has ls 8 [(0, .ref ap0), (1, .ref ap1), (2, .ref ap2), (3, .int xp3), (4, .int xp4)] := hl
  show WX10_findSums p l e s m below meth c D T ap0 ap1 ap2 xp3 xp4 s.heap [] (F0 m 0 ls [])
  refine lv_aload_n hx hb dX10_findSums_0 rfl (lv_at hl 0 rfl) ?_
  refine lv_aload_n hx hb dX10_findSums_1 rfl (lv_at hl 1 rfl) ?_
  refine lv_aload_n hx hb dX10_findSums_2 rfl (lv_at hl 2 rfl) ?_
  refine lv_iload_n hx hb dX10_findSums_3 rfl (lv_at hl 3 rfl) ?_
  refine lv_iload hx hb dX10_findSums_4 (lv_at hl 4 rfl) ?_
  refine hp_callev (va_runV (As := [.ref ap1, .ref ap2, .int xp3, .int xp4]) (rest := []) ⟨hx, hb, hml, hown, hts⟩ (sX10_findWorths l D T ap0 ap1 ap2 xp3 xp4 Ru hRu ip0 ip1 ip2) (cwV 4 hts gX10_findSums_X10_findWorths rfl rfl rfl (by decide +kernel) ⟨Nat.le_of_ble_eq_true rfl, Nat.le_of_ble_eq_true rfl⟩) (hp_preV hG hw hp0 rfl trivial) rfl rfl hl.1 rfl (lv_room (Nat.le_of_ble_eq_true rfl)) dX10_findSums_6 ⟨Nat.zero_le _, Nat.zero_le _⟩) hw (fun st6 t6 H6 locs6 eh6 eg6 bx6 hw => ?_)
  refine lv_iconst (v := 1) hx hb dX10_findSums_9 (by decide) ?_
  refine lv_iload_n hx hb dX10_findSums_10 rfl (lv_at hl 3 rfl) ?_
  refine hp_callpi (va_runS (As := [.int xp3]) (rest := [.int 1]) ⟨hx, hb, hml, hown, hts⟩ (sJ6_bitCount_0f7a4 l D T xp3) (va_cwS 1 hts gX10_findSums_J6_bitCount_0f7a4 rfl rfl rfl (by decide +kernel) ⟨Nat.le_of_ble_eq_true rfl, Nat.le_of_ble_eq_true rfl⟩) (hp_preS hG hw trivial) rfl rfl hl.1 rfl (lv_room (Nat.le_of_ble_eq_true rfl)) dX10_findSums_11 ⟨Nat.zero_le _, Nat.zero_le _⟩) (fun x11 bx11 => ?_)
  refine lv_ishl hx hb dX10_findSums_14 ?_
  refine lv_topi (fun x14 ex14 => ?_)
  refine lv_istore (lv' := [(5, .int x14), (0, .ref ap0), (1, .ref ap1), (2, .ref ap2), (3, .int xp3), (4, .int xp4)]) hx hb dX10_findSums_15 hl (by decide) rfl (fun ls hl => ?_)
  refine lv_iconst (v := 0) hx hb dX10_findSums_17 (by decide) ?_
  refine lv_istore (lv' := [(6, .int 0), (5, .int x14), (0, .ref ap0), (1, .ref ap1), (2, .ref ap2), (3, .int xp3), (4, .int xp4)]) hx hb dX10_findSums_18 hl (by decide) rfl (fun ls hl => ?_)
  refine lv_iconst (v := 0) hx hb dX10_findSums_20 (by decide) ?_
  refine lv_istore (lv' := [(7, .int 0), (6, .int 0), (5, .int x14), (0, .ref ap0), (1, .ref ap1), (2, .ref ap2), (3, .int xp3), (4, .int xp4)]) hx hb dX10_findSums_21 hl (by decide) rfl (fun ls hl => ?_)
  have J23 : ∀ (n : Nat) (y23_l6 y23_l7 : Int32), (2147483647 - y23_l7.toInt).toNat < n → iv xp3 0 1023 → iv y23_l6 0 1023 → iv y23_l7 0 2147483647 → ∀ (H : Heap) (locs : List Loc), hp_w D T s H locs → ∀ (ls : Array Slot), lv_has ls 8 [(0, .ref ap0), (3, .int xp3), (5, .int x14), (6, .int y23_l6), (7, .int y23_l7)] → WX10_findSums p l e s m below meth c D T ap0 ap1 ap2 xp3 xp4 H locs (F0 m 23 ls []) := by
    intro n
    induction n with
    | zero => intro y23_l6 y23_l7 hmu23 c23_xp3 c23_y23_l6 c23_y23_l7 H23 locs23 hw ls hl; exact absurd hmu23 (Nat.not_lt_zero _)
    | succ n ih23 =>
      intro y23_l6 y23_l7 hmu23 c23_xp3 c23_y23_l6 c23_y23_l7 H23 locs23 hw ls hl
      refine lv_iload hx hb dX10_findSums_23 (lv_at hl 4 rfl) ?_
      refine lv_iload hx hb dX10_findSums_25 (lv_at hl 2 rfl) ?_
      refine lv_icmp_ge (tgt := 57) hx hb dX10_findSums_27 (by decide) (fun c27 => ?_) (fun c27 => ?_)
      · exact W.vret hx hb hr (fun t ht hW => ⟨none, rfl, ⟨rfl, trivial⟩, by rw [ht]; exact hw.1, hw.2.F ht⟩) hw.2.2.2 dX10_findSums_57
      · have r27fp : iv y23_l7 0 2147483646 := (iv_lt_l (iv_nle c27) c23_y23_l7 (iv_any x14)).mono (by decide) (by decide)
        have r27fq : iv x14 1 2147483647 := (iv_lt_r (iv_nle c27) c23_y23_l7 (iv_any x14)).mono (by decide) (by decide)
        refine lv_aload_n hx hb dX10_findSums_30 rfl (lv_at hl 0 rfl) ?_
        refine hp_getr hx hb hts IX10 hown hK hw.1 hp0 rfl 7 (by decide) L35 rfl dX10_findSums_31 ?_
        refine lv_iload hx hb dX10_findSums_34 (lv_at hl 3 rfl) ?_
        refine lv_aload_n hx hb dX10_findSums_36 rfl (lv_at hl 0 rfl) ?_
        refine lv_iload hx hb dX10_findSums_37 (lv_at hl 3 rfl) ?_
        refine hp_callei (va_runV (As := [.int y23_l6]) (rest := [.int y23_l6, .ref ap0su]) ⟨hx, hb, hml, hown, hts⟩ (sX10_sumWithin l D T ap0 y23_l6 ip0) (cwV 1 hts gX10_findSums_X10_sumWithin rfl rfl rfl (by decide +kernel) ⟨Nat.le_of_ble_eq_true rfl, Nat.le_of_ble_eq_true rfl⟩) (hp_preV hG hw hp0 rfl trivial) rfl rfl hl.1 rfl (lv_room (Nat.le_of_ble_eq_true rfl)) dX10_findSums_39 ⟨Nat.zero_le _, Nat.zero_le _⟩) hw (fun x39 st39 t39 H39 locs39 eh39 eg39 bx39 hw => ?_)
        refine hp_iast hx hb hK hw hp0su (vp_iv c23_y23_l6 (by decide)) ⟨_, rfl⟩ dX10_findSums_42 (fun H42 locs42 hw g42 => ?_)
        refine lv_iload hx hb dX10_findSums_43 (lv_at hl 3 rfl) ?_
        refine lv_iload_n hx hb dX10_findSums_45 rfl (lv_at hl 1 rfl) ?_
        refine lv_isub hx hb dX10_findSums_46 ?_
        refine lv_topi (fun x46 ex46 => ?_)
        have bx46 : iv x46 (-1023) 1023 := iv_sub c23_y23_l6 c23_xp3 ex46 (by decide)
        have qx46 := iv_sub_eq c23_y23_l6 c23_xp3 ex46 (by decide)
        refine lv_iload_n hx hb dX10_findSums_47 rfl (lv_at hl 1 rfl) ?_
        refine lv_iand hx hb dX10_findSums_48 ?_
        refine lv_topi (fun x48 ex48 => ?_)
        have bx48 : iv x48 0 1023 := iv_and_r c23_xp3 ex48
        refine lv_istore (lv' := [(6, .int x48), (0, .ref ap0), (3, .int xp3), (5, .int x14), (7, .int y23_l7)]) hx hb dX10_findSums_49 hl (by decide) rfl (fun ls hl => ?_)
        obtain ⟨x51, ex51⟩ : ∃ y : Int32, y = y23_l7 + 1 := ⟨_, rfl⟩
        have bx51 : iv x51 1 2147483647 := iv_add r27fp (show iv 1 1 1 from ⟨by decide, by decide⟩) ex51 (by decide)
        have qx51 := iv_add_eq r27fp (show iv 1 1 1 from ⟨by decide, by decide⟩) ex51 (by decide)
        refine lv_iinc (v := x51) (lv' := [(7, .int x51), (6, .int x48), (0, .ref ap0), (3, .int xp3), (5, .int x14)]) hx hb dX10_findSums_51 hl (k := 4) rfl (by rw [ex51]; rfl) (by decide) rfl (fun ls hl => ?_)
        refine lv_goto (tgt := 23) hx hb dX10_findSums_54 (by decide) ?_
        exact ih23 x48 x51 (mu_up 1 hmu23 (qx51) (by decide) (show iv x51 0 2147483647 from (bx51.mono (by decide) (by decide))).2) c23_xp3 bx48 (bx51.mono (by decide) (by decide)) H42 locs42 hw _ (lv_sub hl [2, 3, 4, 1, 0] rfl)
  exact J23 _ (0 : Int32) (0 : Int32) (Nat.lt_succ_self _) bp3 (show iv 0 0 1023 from ⟨by decide, by decide⟩) (show iv 0 0 2147483647 from ⟨by decide, by decide⟩) H6 locs6 hw _ (lv_sub hl [3, 6, 2, 1, 0] rfl)
abbrev WX10_shareWith (p : Program) (l : Launch) (e : Env) (s : State) (m : MethodId) (below : List Frame) (meth : Method) (c : Code) (D : hp_D) (T : hp_T) (ap0 : Nat) (xp1 : Int32) (xp2 : Int32) (H : Heap) (locs : List Loc) (g : JFrame) : Prop := W p l e (headSpec wsX10_shareWith ({ frames := 0, cells := 0, slots := 0, locals := 0 })).room s m ([.ref ap0, .int xp1, .int xp2] : List Value).toArray below meth c H locs 0 0 (MQ below (hq_e D T (fun v _ _ => ∃ r : Int32, v = some (.int r) ∧ True)) ([.ref ap0, .int xp1, .int xp2] : List Value).toArray s 0 0 (hp_F T)) g
set_option maxHeartbeats 4000000 in
set_option maxRecDepth 100000 in
theorem sX10_shareWith (l : Launch) (D : hp_D) (T : hp_T) (ap0 : Nat) (xp1 : Int32) (xp2 : Int32) (ip0 : isWorlds T ap0) : Met l yX10_shareWith wsX10_shareWith ({ frames := 0, cells := 0, slots := 0, locals := 0 }) (hp_Pc D T [.ref ap0, .int xp1, .int xp2] (fun _ => True)) (hq_e D T (fun v _ _ => ∃ r : Int32, v = some (.int r) ∧ True)) 0 0 (hp_F T) := by
  obtain ⟨ap0fi, ap0wo, ap0su, ap0sh, ap0me, ap0s1, ap0s2, hp0, hp0fi, hp0wo, hp0su, hp0sh, hp0me, hp0s1, hp0s2⟩ := id ip0
  refine Met.ofW (cc := cX10_shareWith) (maxL := 5) (ret := (some .int)) (by decide) rfl ?_
  intro p e s m args below meth c s₁ B hml hv
  obtain ⟨rfl, hok, hG, hB⟩ := hv
  have hx := B.exec
  have hb := B.bytes
  have hr := B.returns
  have hts := atoms_spec (ws := wsX10_shareWith) B.pre
  have hown : s.vm.findClass RX10 = some m.cls := findClass_of_methodNamed B.named
  have hlocks := B.notSynchronized
  have hK := hG.1
  have hw : hp_w D T s s.heap [] := hp_w.rf hok
  have IX10 : ∀ w ∈ wsX100, w ∈ wsX10_shareWith := by decide +kernel
  have K127 := hts (.constant RX10 127 (-1640531535)) (by decide +kernel)
  have L47 := hts (.fieldLink RX10 47 "PalmCensus$Worlds" "slotShare" "[I") (by decide +kernel)
  have L44 := hts (.fieldLink RX10 44 "PalmCensus$Worlds" "slotSum" "[I") (by decide +kernel)
  have hl := lv_entry ([.ref ap0, .int xp1, .int xp2]) (n := 5) (Nat.le_of_ble_eq_true rfl)
  rw [lg_entry_eq]
  generalize (lg_sl ([.ref ap0, .int xp1, .int xp2]) ++ List.replicate (5 - (lg_sl ([.ref ap0, .int xp1, .int xp2])).length) Slot.unset).toArray = ls at hl ⊢
  have hl : lv_has ls 5 [(0, .ref ap0), (1, .int xp1), (2, .int xp2)] := hl
  show WX10_shareWith p l e s m below meth c D T ap0 xp1 xp2 s.heap [] (F0 m 0 ls [])
  refine lv_iload_n hx hb dX10_shareWith_0 rfl (lv_at hl 1 rfl) ?_
  refine lv_ldc (v := (-1640531535)) hx hb hown K127 dX10_shareWith_1 ?_
  refine lv_imul hx hb dX10_shareWith_3 ?_
  refine lv_topi (fun x3 ex3 => ?_)
  refine lv_bipush (v := 21) hx hb dX10_shareWith_4 (by decide) ?_
  obtain ⟨x6u, ex6u⟩ : ∃ y : Int32, (x3.toUInt32 >>> ((21 : Int32).toUInt32 &&& Int32.toUInt32 31)).toInt32 = y := ⟨_, rfl⟩
  refine lv_iushr (v := x6u) hx hb dX10_shareWith_6 ex6u ?_
  refine lv_topi (fun x6 ex6 => ?_)
  have bx6 : iv x6 0 2047 := iv_ushr 21 (ex6.trans ex6u.symm) (by decide) (by decide)
  refine lv_istore_n (lv' := [(3, .int x6), (0, .ref ap0), (1, .int xp1), (2, .int xp2)]) hx hb dX10_shareWith_7 rfl hl (by decide) rfl (fun ls hl => ?_)
  refine lv_iconst (v := 0) hx hb dX10_shareWith_8 (by decide) ?_
  refine lv_istore (lv' := [(4, .int 0), (3, .int x6), (0, .ref ap0), (1, .int xp1), (2, .int xp2)]) hx hb dX10_shareWith_9 hl (by decide) rfl (fun ls hl => ?_)
  have J11 : ∀ (n : Nat) (y11_l3 y11_l4 : Int32), (2048 - y11_l4.toInt).toNat < n → iv y11_l3 0 2047 → iv y11_l4 0 2048 → ∀ (H : Heap) (locs : List Loc), hp_w D T s H locs → ∀ (ls : Array Slot), lv_has ls 5 [(0, .ref ap0), (1, .int xp1), (2, .int xp2), (3, .int y11_l3), (4, .int y11_l4)] → WX10_shareWith p l e s m below meth c D T ap0 xp1 xp2 H locs (F0 m 11 ls []) := by
    intro n
    induction n with
    | zero => intro y11_l3 y11_l4 hmu11 c11_y11_l3 c11_y11_l4 H11 locs11 hw ls hl; exact absurd hmu11 (Nat.not_lt_zero _)
    | succ n ih11 =>
      intro y11_l3 y11_l4 hmu11 c11_y11_l3 c11_y11_l4 H11 locs11 hw ls hl
      refine lv_iload hx hb dX10_shareWith_11 (lv_at hl 4 rfl) ?_
      refine lv_sipush (v := 2048) hx hb dX10_shareWith_13 (by decide) ?_
      refine lv_icmp_ge (tgt := 76) hx hb dX10_shareWith_16 (by decide) (fun c16 => ?_) (fun c16 => ?_)
      · have r16tq : iv y11_l4 2048 2048 := (iv_le_r c16 (show iv 2048 2048 2048 from ⟨by decide, by decide⟩) c11_y11_l4).mono (by decide) (by decide)
        refine lv_iload_n hx hb dX10_shareWith_76 rfl (lv_at hl 2 rfl) ?_
        exact W.iret (v := xp2) hx hb hr (fun t ht hW => ⟨some (.int xp2), rfl, ⟨xp2, rfl, trivial⟩, by rw [ht]; exact hw.1, hw.2.F ht⟩) hw.2.2.2 dX10_shareWith_77
      · have r16fp : iv y11_l4 0 2047 := (iv_lt_l (iv_nle c16) c11_y11_l4 (show iv 2048 2048 2048 from ⟨by decide, by decide⟩)).mono (by decide) (by decide)
        refine lv_aload_n hx hb dX10_shareWith_19 rfl (lv_at hl 0 rfl) ?_
        refine hp_getr hx hb hts IX10 hown hK hw.1 hp0 rfl 11 (by decide) L47 rfl dX10_shareWith_20 ?_
        refine lv_iload_n hx hb dX10_shareWith_23 rfl (lv_at hl 3 rfl) ?_
        refine hp_ialdA hx hb hK hw.1 hp0s2 (vp_iv c11_y11_l3 (by decide)) dX10_shareWith_24 (fun x24 => ?_)
        have J38 : iv y11_l3 0 2047 → ∀ (H : Heap) (locs : List Loc), hp_w D T s H locs → ∀ (ls : Array Slot), lv_has ls 5 [(0, .ref ap0), (1, .int xp1), (2, .int xp2), (3, .int y11_l3)] → WX10_shareWith p l e s m below meth c D T ap0 xp1 xp2 H locs (F0 m 38 ls []) := by
          intro c38_y11_l3 H38 locs38 hw ls hl
          refine lv_aload_n hx hb dX10_shareWith_38 rfl (lv_at hl 0 rfl) ?_
          refine hp_getr hx hb hts IX10 hown hK hw.1 hp0 rfl 10 (by decide) L44 rfl dX10_shareWith_39 ?_
          refine lv_iload_n hx hb dX10_shareWith_42 rfl (lv_at hl 3 rfl) ?_
          refine lv_iload_n hx hb dX10_shareWith_43 rfl (lv_at hl 1 rfl) ?_
          refine hp_iast hx hb hK hw hp0s1 (vp_iv c38_y11_l3 (by decide)) ⟨_, rfl⟩ dX10_shareWith_44 (fun H44 locs44 hw g44 => ?_)
          refine lv_aload_n hx hb dX10_shareWith_45 rfl (lv_at hl 0 rfl) ?_
          refine hp_getr hx hb hts IX10 hown hK hw.1 hp0 rfl 11 (by decide) L47 rfl dX10_shareWith_46 ?_
          refine lv_iload_n hx hb dX10_shareWith_49 rfl (lv_at hl 3 rfl) ?_
          refine lv_dup2_11 hx hb dX10_shareWith_50 rfl rfl ?_
          refine hp_ialdA hx hb hK hw.1 hp0s2 (vp_iv c38_y11_l3 (by decide)) dX10_shareWith_51 (fun x51 => ?_)
          refine lv_iload_n hx hb dX10_shareWith_52 rfl (lv_at hl 2 rfl) ?_
          refine lv_iadd hx hb dX10_shareWith_53 ?_
          refine lv_topi (fun x53 ex53 => ?_)
          refine hp_iast hx hb hK hw hp0s2 (vp_iv c38_y11_l3 (by decide)) ⟨_, rfl⟩ dX10_shareWith_54 (fun H54 locs54 hw g54 => ?_)
          refine lv_aload_n hx hb dX10_shareWith_55 rfl (lv_at hl 0 rfl) ?_
          refine hp_getr hx hb hts IX10 hown hK hw.1 hp0 rfl 11 (by decide) L47 rfl dX10_shareWith_56 ?_
          refine lv_iload_n hx hb dX10_shareWith_59 rfl (lv_at hl 3 rfl) ?_
          refine hp_ialdA hx hb hK hw.1 hp0s2 (vp_iv c38_y11_l3 (by decide)) dX10_shareWith_60 (fun x60 => ?_)
          exact W.iret (v := x60) hx hb hr (fun t ht hW => ⟨some (.int x60), rfl, ⟨x60, rfl, trivial⟩, by rw [ht]; exact hw.1, hw.2.F ht⟩) hw.2.2.2 dX10_shareWith_61
        refine lv_if_eq (tgt := 38) hx hb dX10_shareWith_25 (by decide) (fun c25 => ?_) (fun c25 => ?_)
        · have r25tp : iv x24 0 0 := (iv_both (iv_any x24) (iv_eq (show iv 0 0 0 from ⟨by decide, by decide⟩) c25)).mono (by decide) (by decide)
          exact J38 c11_y11_l3 H11 locs11 hw _ (lv_sub hl [0, 1, 2, 3] rfl)
        · refine lv_aload_n hx hb dX10_shareWith_28 rfl (lv_at hl 0 rfl) ?_
          refine hp_getr hx hb hts IX10 hown hK hw.1 hp0 rfl 10 (by decide) L44 rfl dX10_shareWith_29 ?_
          refine lv_iload_n hx hb dX10_shareWith_32 rfl (lv_at hl 3 rfl) ?_
          refine hp_ialdA hx hb hK hw.1 hp0s1 (vp_iv c11_y11_l3 (by decide)) dX10_shareWith_33 (fun x33 => ?_)
          refine lv_iload_n hx hb dX10_shareWith_34 rfl (lv_at hl 1 rfl) ?_
          refine lv_icmp_ne (tgt := 62) hx hb dX10_shareWith_35 (by decide) (fun c35 => ?_) (fun c35 => ?_)
          · refine lv_iload_n hx hb dX10_shareWith_62 rfl (lv_at hl 3 rfl) ?_
            refine lv_iconst (v := 1) hx hb dX10_shareWith_63 (by decide) ?_
            refine lv_iadd hx hb dX10_shareWith_64 ?_
            refine lv_topi (fun x64 ex64 => ?_)
            have bx64 : iv x64 1 2048 := iv_add c11_y11_l3 (show iv 1 1 1 from ⟨by decide, by decide⟩) ex64 (by decide)
            have qx64 := iv_add_eq c11_y11_l3 (show iv 1 1 1 from ⟨by decide, by decide⟩) ex64 (by decide)
            refine lv_sipush (v := 2047) hx hb dX10_shareWith_65 (by decide) ?_
            refine lv_iand hx hb dX10_shareWith_68 ?_
            refine lv_topi (fun x68 ex68 => ?_)
            have bx68 : iv x68 0 2047 := iv_and_r (show iv 2047 0 2047 from ⟨by decide, by decide⟩) ex68
            refine lv_istore_n (lv' := [(3, .int x68), (0, .ref ap0), (1, .int xp1), (2, .int xp2), (4, .int y11_l4)]) hx hb dX10_shareWith_69 rfl hl (by decide) rfl (fun ls hl => ?_)
            obtain ⟨x70, ex70⟩ : ∃ y : Int32, y = y11_l4 + 1 := ⟨_, rfl⟩
            have bx70 : iv x70 1 2048 := iv_add r16fp (show iv 1 1 1 from ⟨by decide, by decide⟩) ex70 (by decide)
            have qx70 := iv_add_eq r16fp (show iv 1 1 1 from ⟨by decide, by decide⟩) ex70 (by decide)
            refine lv_iinc (v := x70) (lv' := [(4, .int x70), (3, .int x68), (0, .ref ap0), (1, .int xp1), (2, .int xp2)]) hx hb dX10_shareWith_70 hl (k := 4) rfl (by rw [ex70]; rfl) (by decide) rfl (fun ls hl => ?_)
            refine lv_goto (tgt := 11) hx hb dX10_shareWith_73 (by decide) ?_
            exact ih11 x68 x70 (mu_up 1 hmu11 (qx70) (by decide) (show iv x70 0 2048 from (bx70.mono (by decide) (by decide))).2) bx68 (bx70.mono (by decide) (by decide)) H11 locs11 hw _ (lv_sub hl [2, 3, 4, 1, 0] rfl)
          · exact J38 c11_y11_l3 H11 locs11 hw _ (lv_sub hl [0, 1, 2, 3] rfl)
  exact J11 _ x6 (0 : Int32) (Nat.lt_succ_self _) bx6 (show iv 0 0 2048 from ⟨by decide, by decide⟩) s.heap [] hw _ (lv_sub hl [2, 3, 4, 1, 0] rfl)
abbrev WX10_mostAlike (p : Program) (l : Launch) (e : Env) (s : State) (m : MethodId) (below : List Frame) (meth : Method) (c : Code) (D : hp_D) (T : hp_T) (ap0 : Nat) (ap1 : Nat) (ap2 : Nat) (xp3 : Int32) (xp4 : Int32) (H : Heap) (locs : List Loc) (g : JFrame) : Prop := W p l e (headSpec wsX10_mostAlike ({ frames := 6, cells := 0, slots := 0, locals := 154 })).room s m ([.ref ap0, .ref ap1, .ref ap2, .int xp3, .int xp4] : List Value).toArray below meth c H locs 0 0 (MQ below (hq_e D T (fun v _ _ => ∃ r : Int32, v = some (.int r) ∧ True)) ([.ref ap0, .ref ap1, .ref ap2, .int xp3, .int xp4] : List Value).toArray s 0 0 (hp_F T)) g
set_option maxHeartbeats 4000000 in
set_option maxRecDepth 100000 in
theorem sX10_mostAlike (l : Launch) (D : hp_D) (T : hp_T) (ap0 : Nat) (ap1 : Nat) (ap2 : Nat) (xp3 : Int32) (xp4 : Int32) (Ru : Nat → Prop) (hRu : ∀ b, Ru b → isRule T b) (ip0 : isWorlds T ap0) (ip1 : isShaker T Ru ap1) (ip2 : isTown T ap2) (bp3 : iv xp3 0 1023) : Met l yX10_mostAlike wsX10_mostAlike ({ frames := 6, cells := 0, slots := 0, locals := 154 }) (hp_Pc D T [.ref ap0, .ref ap1, .ref ap2, .int xp3, .int xp4] (fun _ => True)) (hq_e D T (fun v _ _ => ∃ r : Int32, v = some (.int r) ∧ True)) 0 0 (hp_F T) := by
  obtain ⟨ap0fi, ap0wo, ap0su, ap0sh, ap0me, ap0s1, ap0s2, hp0, hp0fi, hp0wo, hp0su, hp0sh, hp0me, hp0s1, hp0s2⟩ := id ip0
  obtain ⟨ap1wd, ap1sk, ap1th, hp1, hp1wd, hp1sk, hp1th⟩ := id ip1
  obtain ⟨ap2kin, ap2pl, ap2cr, hp2, hp2kin, hp2pl, hp2cr⟩ := id ip2
  refine Met.ofW (cc := cX10_mostAlike) (maxL := 9) (ret := (some .int)) (by decide) rfl ?_
  intro p e s m args below meth c s₁ B hml hv
  obtain ⟨rfl, hok, hG, hB⟩ := hv
  have hx := B.exec
  have hb := B.bytes
  have hr := B.returns
  have hts := atoms_spec (ws := wsX10_mostAlike) B.pre
  have hown : s.vm.findClass RX10 = some m.cls := findClass_of_methodNamed B.named
  have hlocks := B.notSynchronized
  have hK := hG.1
  have hw : hp_w D T s s.heap [] := hp_w.rf hok
  have IX10 : ∀ w ∈ wsX100, w ∈ wsX10_mostAlike := by decide +kernel
  have IX8 : ∀ w ∈ wsX80, w ∈ wsX10_mostAlike := by decide +kernel
  have L38 := hts (.fieldLink RX10 38 "PalmCensus$Worlds" "shares" "[I") (by decide +kernel)
  have L56 := hts (.fieldLink RX10 56 "PalmCensus$Town" "people" "I") (by decide +kernel)
  have L47 := hts (.fieldLink RX10 47 "PalmCensus$Worlds" "slotShare" "[I") (by decide +kernel)
  have L35 := hts (.fieldLink RX10 35 "PalmCensus$Worlds" "sums" "[I") (by decide +kernel)
  have L27 := hts (.fieldLink RX10 27 "PalmCensus$Worlds" "fits" "[Z") (by decide +kernel)
  have L11 := hts (.fieldLink RX10 11 "PalmCensus$Worlds" "fitting" "I") (by decide +kernel)
  have Mmax96_1 := hts (.methodLink RX10 96 Lib.Math.max.name) (by decide +kernel)
  have Mmax96_2 := hts (.static Lib.Math.max.name) (by decide +kernel)
  have Mmax96_3 := hts (.initialized "java/lang/Math") (by decide +kernel)
  have Mmax96_4 := hts (.code Lib.Math.max.name Lib.Math.max.code 2 (some .int)) (by decide +kernel)
  have hl := lv_entry ([.ref ap0, .ref ap1, .ref ap2, .int xp3, .int xp4]) (n := 9) (Nat.le_of_ble_eq_true rfl)
  rw [lg_entry_eq]
  generalize (lg_sl ([.ref ap0, .ref ap1, .ref ap2, .int xp3, .int xp4]) ++ List.replicate (9 - (lg_sl ([.ref ap0, .ref ap1, .ref ap2, .int xp3, .int xp4])).length) Slot.unset).toArray = ls at hl ⊢
  have hl : lv_has ls 9 [(0, .ref ap0), (1, .ref ap1), (2, .ref ap2), (3, .int xp3), (4, .int xp4)] := hl
  show WX10_mostAlike p l e s m below meth c D T ap0 ap1 ap2 xp3 xp4 s.heap [] (F0 m 0 ls [])
  refine lv_iload_n hx hb dX10_mostAlike_0 rfl (lv_at hl 3 rfl) ?_
  refine hp_callpi (va_runS (As := [.int xp3]) (rest := []) ⟨hx, hb, hml, hown, hts⟩ (sJ6_bitCount_0f7a4 l D T xp3) (va_cwS 1 hts gX10_mostAlike_J6_bitCount_0f7a4 rfl rfl rfl (by decide +kernel) ⟨Nat.le_of_ble_eq_true rfl, Nat.le_of_ble_eq_true rfl⟩) (hp_preS hG hw trivial) rfl rfl hl.1 rfl (lv_room (Nat.le_of_ble_eq_true rfl)) dX10_mostAlike_1 ⟨Nat.zero_le _, Nat.zero_le _⟩) (fun x1 bx1 => ?_)
  refine lv_istore (lv' := [(5, .int x1), (0, .ref ap0), (1, .ref ap1), (2, .ref ap2), (3, .int xp3), (4, .int xp4)]) hx hb dX10_mostAlike_4 hl (by decide) rfl (fun ls hl => ?_)
  refine lv_iload hx hb dX10_mostAlike_6 (lv_at hl 0 rfl) ?_
  refine lv_iconst (v := 2) hx hb dX10_mostAlike_8 (by decide) ?_
  refine lv_icmp_ge (tgt := 17) hx hb dX10_mostAlike_9 (by decide) (fun c9 => ?_) (fun c9 => ?_)
  · have r9tq : iv x1 2 63 := (iv_le_r c9 (show iv 2 2 2 from ⟨by decide, by decide⟩) bx1).mono (by decide) (by decide)
    refine lv_aload_n hx hb dX10_mostAlike_17 rfl (lv_at hl 1 rfl) ?_
    refine lv_aload_n hx hb dX10_mostAlike_18 rfl (lv_at hl 2 rfl) ?_
    refine lv_aload_n hx hb dX10_mostAlike_19 rfl (lv_at hl 3 rfl) ?_
    refine lv_iload_n hx hb dX10_mostAlike_20 rfl (lv_at hl 4 rfl) ?_
    refine lv_iload hx hb dX10_mostAlike_21 (lv_at hl 5 rfl) ?_
    refine hp_callev (va_runV (As := [.ref ap1, .ref ap2, .int xp3, .int xp4]) (rest := []) ⟨hx, hb, hml, hown, hts⟩ (sX10_findSums l D T ap0 ap1 ap2 xp3 xp4 Ru hRu ip0 ip1 ip2 bp3) (cwV 4 hts gX10_mostAlike_X10_findSums rfl rfl rfl (by decide +kernel) ⟨Nat.le_of_ble_eq_true rfl, Nat.le_of_ble_eq_true rfl⟩) (hp_preV hG hw hp0 rfl trivial) rfl rfl hl.1 rfl (lv_room (Nat.le_of_ble_eq_true rfl)) dX10_mostAlike_23 ⟨Nat.zero_le _, Nat.zero_le _⟩) hw (fun st23 t23 H23 locs23 eh23 eg23 bx23 hw => ?_)
    refine lv_aload_n hx hb dX10_mostAlike_26 rfl (lv_at hl 1 rfl) ?_
    refine hp_getr hx hb hts IX10 hown hK hw.1 hp0 rfl 8 (by decide) L38 rfl dX10_mostAlike_27 ?_
    refine lv_iconst (v := 0) hx hb dX10_mostAlike_30 (by decide) ?_
    refine hp_callev (va_runS (As := [.ref ap0sh, .int 0]) (rest := []) ⟨hx, hb, hml, hown, hts⟩ (sJ7_fill l D T ap0sh (0 : Int32) 1024 rA hp0sh (by decide) ⟨_, rfl⟩) (va_cwS 2 hts gX10_mostAlike_J7_fill_53178 rfl rfl rfl (by decide +kernel) ⟨Nat.le_of_ble_eq_true rfl, Nat.le_of_ble_eq_true rfl⟩) (hp_preS hG hw trivial) rfl rfl hl.1 rfl (lv_room (Nat.le_of_ble_eq_true rfl)) dX10_mostAlike_31 ⟨Nat.zero_le _, Nat.zero_le _⟩) hw (fun st31 t31 H31 locs31 eh31 eg31 b31 hw => ?_)
    obtain ⟨-, g31⟩ := b31
    rw [eh31, eg31] at g31
    refine lv_iconst (v := 0) hx hb dX10_mostAlike_34 (by decide) ?_
    refine lv_istore (lv' := [(6, .int 0), (5, .int x1), (0, .ref ap0), (1, .ref ap1), (2, .ref ap2), (3, .int xp3), (4, .int xp4)]) hx hb dX10_mostAlike_35 hl (by decide) rfl (fun ls hl => ?_)
    have J37 : ∀ (n : Nat) (y37_l6 : Int32), (1024 - y37_l6.toInt).toNat < n → iv xp3 0 1023 → iv x1 2 63 → iv y37_l6 0 1024 → ∀ (H : Heap) (locs : List Loc), hp_w D T s H locs → ∀ (ls : Array Slot), lv_has ls 9 [(0, .ref ap0), (2, .ref ap2), (3, .int xp3), (5, .int x1), (6, .int y37_l6)] → WX10_mostAlike p l e s m below meth c D T ap0 ap1 ap2 xp3 xp4 H locs (F0 m 37 ls []) := by
      intro n
      induction n with
      | zero => intro y37_l6 hmu37 c37_xp3 c37_x1 c37_y37_l6 H37 locs37 hw ls hl; exact absurd hmu37 (Nat.not_lt_zero _)
      | succ n ih37 =>
        intro y37_l6 hmu37 c37_xp3 c37_x1 c37_y37_l6 H37 locs37 hw ls hl
        refine lv_iload hx hb dX10_mostAlike_37 (lv_at hl 4 rfl) ?_
        refine lv_iconst (v := 1) hx hb dX10_mostAlike_39 (by decide) ?_
        refine lv_aload_n hx hb dX10_mostAlike_40 rfl (lv_at hl 1 rfl) ?_
        refine hp_geti hx hb hts IX8 hown hK hw.1 hp2 rfl 2 (by decide) L56 rfl dX10_mostAlike_41 (fun x41 bx41 fx41 => ?_)
        refine lv_ishl hx hb dX10_mostAlike_44 ?_
        refine lv_topi (fun x44 ex44 => ?_)
        have bx44 : iv x44 1 1024 := iv_shl 10 (show iv 1 1 1 from ⟨by decide, by decide⟩) bx41 ex44 (by decide)
        refine lv_icmp_ge (tgt := 77) hx hb dX10_mostAlike_45 (by decide) (fun c45 => ?_) (fun c45 => ?_)
        · have r45tq : iv y37_l6 1 1024 := (iv_le_r c45 bx44 c37_y37_l6).mono (by decide) (by decide)
          refine lv_aload_n hx hb dX10_mostAlike_77 rfl (lv_at hl 0 rfl) ?_
          refine hp_getr hx hb hts IX10 hown hK hw.1 hp0 rfl 11 (by decide) L47 rfl dX10_mostAlike_78 ?_
          refine lv_iconst (v := 0) hx hb dX10_mostAlike_81 (by decide) ?_
          refine hp_callev (va_runS (As := [.ref ap0s2, .int 0]) (rest := []) ⟨hx, hb, hml, hown, hts⟩ (sJ7_fill l D T ap0s2 (0 : Int32) 2048 rA hp0s2 (by decide) ⟨_, rfl⟩) (va_cwS 2 hts gX10_mostAlike_J7_fill_53178 rfl rfl rfl (by decide +kernel) ⟨Nat.le_of_ble_eq_true rfl, Nat.le_of_ble_eq_true rfl⟩) (hp_preS hG hw trivial) rfl rfl hl.1 rfl (lv_room (Nat.le_of_ble_eq_true rfl)) dX10_mostAlike_82 ⟨Nat.zero_le _, Nat.zero_le _⟩) hw (fun st82 t82 H82 locs82 eh82 eg82 b82 hw => ?_)
          obtain ⟨-, g82⟩ := b82
          rw [eh82, eg82] at g82
          refine lv_iconst (v := 0) hx hb dX10_mostAlike_85 (by decide) ?_
          refine lv_istore (lv' := [(6, .int 0), (0, .ref ap0), (2, .ref ap2), (3, .int xp3), (5, .int x1)]) hx hb dX10_mostAlike_86 hl (by decide) rfl (fun ls hl => ?_)
          refine lv_iconst (v := 0) hx hb dX10_mostAlike_88 (by decide) ?_
          refine lv_istore (lv' := [(7, .int 0), (6, .int 0), (0, .ref ap0), (2, .ref ap2), (3, .int xp3), (5, .int x1)]) hx hb dX10_mostAlike_89 hl (by decide) rfl (fun ls hl => ?_)
          refine lv_iconst (v := 0) hx hb dX10_mostAlike_91 (by decide) ?_
          refine lv_istore (lv' := [(8, .int 0), (7, .int 0), (6, .int 0), (0, .ref ap0), (2, .ref ap2), (3, .int xp3), (5, .int x1)]) hx hb dX10_mostAlike_92 hl (by decide) rfl (fun ls hl => ?_)
          have J94 : ∀ (n : Nat) (y94_l6 y94_l7 y94_l8 : Int32), (2147483647 - y94_l8.toInt).toNat < n → iv xp3 0 1023 → iv x1 2 63 → iv y94_l6 0 2147483647 → iv y94_l7 0 1023 → iv y94_l8 0 2147483647 → ∀ (H : Heap) (locs : List Loc), hp_w D T s H locs → ∀ (ls : Array Slot), lv_has ls 9 [(0, .ref ap0), (3, .int xp3), (5, .int x1), (6, .int y94_l6), (7, .int y94_l7), (8, .int y94_l8)] → WX10_mostAlike p l e s m below meth c D T ap0 ap1 ap2 xp3 xp4 H locs (F0 m 94 ls []) := by
            intro n
            induction n with
            | zero => intro y94_l6 y94_l7 y94_l8 hmu94 c94_xp3 c94_x1 c94_y94_l6 c94_y94_l7 c94_y94_l8 H94 locs94 hw ls hl; exact absurd hmu94 (Nat.not_lt_zero _)
            | succ n ih94 =>
              intro y94_l6 y94_l7 y94_l8 hmu94 c94_xp3 c94_x1 c94_y94_l6 c94_y94_l7 c94_y94_l8 H94 locs94 hw ls hl
              refine lv_iload hx hb dX10_mostAlike_94 (lv_at hl 5 rfl) ?_
              refine lv_iconst (v := 1) hx hb dX10_mostAlike_96 (by decide) ?_
              refine lv_iload hx hb dX10_mostAlike_97 (lv_at hl 2 rfl) ?_
              refine lv_ishl hx hb dX10_mostAlike_99 ?_
              refine lv_topi (fun x99 ex99 => ?_)
              refine lv_icmp_ge (tgt := 152) hx hb dX10_mostAlike_100 (by decide) (fun c100 => ?_) (fun c100 => ?_)
              · refine lv_iload hx hb dX10_mostAlike_152 (lv_at hl 3 rfl) ?_
                exact W.iret (v := y94_l6) hx hb hr (fun t ht hW => ⟨some (.int y94_l6), rfl, ⟨y94_l6, rfl, trivial⟩, by rw [ht]; exact hw.1, hw.2.F ht⟩) hw.2.2.2 dX10_mostAlike_154
              · have r100fp : iv y94_l8 0 2147483646 := (iv_lt_l (iv_nle c100) c94_y94_l8 (iv_any x99)).mono (by decide) (by decide)
                have r100fq : iv x99 1 2147483647 := (iv_lt_r (iv_nle c100) c94_y94_l8 (iv_any x99)).mono (by decide) (by decide)
                refine lv_aload_n hx hb dX10_mostAlike_103 rfl (lv_at hl 0 rfl) ?_
                refine hp_getr hx hb hts IX10 hown hK hw.1 hp0 rfl 8 (by decide) L38 rfl dX10_mostAlike_104 ?_
                refine lv_iload hx hb dX10_mostAlike_107 (lv_at hl 4 rfl) ?_
                refine hp_ialdA hx hb hK hw.1 hp0sh (vp_iv c94_y94_l7 (by decide)) dX10_mostAlike_109 (fun x109 => ?_)
                have J138 : ∀ (y138_l6 : Int32), iv xp3 0 1023 → iv x1 2 63 → iv y138_l6 0 2147483647 → iv y94_l7 0 1023 → iv y94_l8 0 2147483646 → ∀ (H : Heap) (locs : List Loc), hp_w D T s H locs → ∀ (ls : Array Slot), lv_has ls 9 [(0, .ref ap0), (3, .int xp3), (5, .int x1), (6, .int y138_l6), (7, .int y94_l7), (8, .int y94_l8)] → WX10_mostAlike p l e s m below meth c D T ap0 ap1 ap2 xp3 xp4 H locs (F0 m 138 ls []) := by
                  intro y138_l6 c138_xp3 c138_x1 c138_y138_l6 c138_y94_l7 c138_y94_l8 H138 locs138 hw ls hl
                  refine lv_iload hx hb dX10_mostAlike_138 (lv_at hl 4 rfl) ?_
                  refine lv_iload_n hx hb dX10_mostAlike_140 rfl (lv_at hl 1 rfl) ?_
                  refine lv_isub hx hb dX10_mostAlike_141 ?_
                  refine lv_topi (fun x141 ex141 => ?_)
                  have bx141 : iv x141 (-1023) 1023 := iv_sub c138_y94_l7 c138_xp3 ex141 (by decide)
                  have qx141 := iv_sub_eq c138_y94_l7 c138_xp3 ex141 (by decide)
                  refine lv_iload_n hx hb dX10_mostAlike_142 rfl (lv_at hl 1 rfl) ?_
                  refine lv_iand hx hb dX10_mostAlike_143 ?_
                  refine lv_topi (fun x143 ex143 => ?_)
                  have bx143 : iv x143 0 1023 := iv_and_r c138_xp3 ex143
                  refine lv_istore (lv' := [(7, .int x143), (0, .ref ap0), (3, .int xp3), (5, .int x1), (6, .int y138_l6), (8, .int y94_l8)]) hx hb dX10_mostAlike_144 hl (by decide) rfl (fun ls hl => ?_)
                  obtain ⟨x146, ex146⟩ : ∃ y : Int32, y = y94_l8 + 1 := ⟨_, rfl⟩
                  have bx146 : iv x146 1 2147483647 := iv_add c138_y94_l8 (show iv 1 1 1 from ⟨by decide, by decide⟩) ex146 (by decide)
                  have qx146 := iv_add_eq c138_y94_l8 (show iv 1 1 1 from ⟨by decide, by decide⟩) ex146 (by decide)
                  refine lv_iinc (v := x146) (lv' := [(8, .int x146), (7, .int x143), (0, .ref ap0), (3, .int xp3), (5, .int x1), (6, .int y138_l6)]) hx hb dX10_mostAlike_146 hl (k := 5) rfl (by rw [ex146]; rfl) (by decide) rfl (fun ls hl => ?_)
                  refine lv_goto (tgt := 94) hx hb dX10_mostAlike_149 (by decide) ?_
                  exact ih94 y138_l6 x143 x146 (mu_up 1 hmu94 (qx146) (by decide) (show iv x146 0 2147483647 from (bx146.mono (by decide) (by decide))).2) c138_xp3 c138_x1 c138_y138_l6 bx143 (bx146.mono (by decide) (by decide)) H138 locs138 hw _ (lv_sub hl [2, 3, 4, 5, 1, 0] rfl)
                refine lv_if_le (tgt := 138) hx hb dX10_mostAlike_110 (by decide) (fun c110 => ?_) (fun c110 => ?_)
                · have r110tp : iv x109 (-2147483648) 0 := (iv_le_l c110 (iv_any x109) (show iv 0 0 0 from ⟨by decide, by decide⟩)).mono (by decide) (by decide)
                  exact J138 y94_l6 c94_xp3 c94_x1 c94_y94_l6 c94_y94_l7 r100fp H94 locs94 hw _ (lv_sub hl [0, 1, 2, 3, 4, 5] rfl)
                · have r110fq : iv x109 1 2147483647 := (iv_lt_r (iv_nle c110) (show iv 0 0 0 from ⟨by decide, by decide⟩) (iv_any x109)).mono (by decide) (by decide)
                  refine lv_iload hx hb dX10_mostAlike_113 (lv_at hl 3 rfl) ?_
                  refine lv_aload_n hx hb dX10_mostAlike_115 rfl (lv_at hl 0 rfl) ?_
                  refine lv_aload_n hx hb dX10_mostAlike_116 rfl (lv_at hl 0 rfl) ?_
                  refine hp_getr hx hb hts IX10 hown hK hw.1 hp0 rfl 7 (by decide) L35 rfl dX10_mostAlike_117 ?_
                  refine lv_iload hx hb dX10_mostAlike_120 (lv_at hl 4 rfl) ?_
                  refine hp_ialdA hx hb hK hw.1 hp0su (vp_iv c94_y94_l7 (by decide)) dX10_mostAlike_122 (fun x122 => ?_)
                  refine lv_aload_n hx hb dX10_mostAlike_123 rfl (lv_at hl 0 rfl) ?_
                  refine hp_getr hx hb hts IX10 hown hK hw.1 hp0 rfl 8 (by decide) L38 rfl dX10_mostAlike_124 ?_
                  refine lv_iload hx hb dX10_mostAlike_127 (lv_at hl 4 rfl) ?_
                  refine hp_ialdA hx hb hK hw.1 hp0sh (vp_iv c94_y94_l7 (by decide)) dX10_mostAlike_129 (fun x129 => ?_)
                  refine hp_callei (va_runV (As := [.int x122, .int x129]) (rest := [.int y94_l6]) ⟨hx, hb, hml, hown, hts⟩ (sX10_shareWith l D T ap0 x122 x129 ip0) (cwV 2 hts gX10_mostAlike_X10_shareWith rfl rfl rfl (by decide +kernel) ⟨Nat.le_of_ble_eq_true rfl, Nat.le_of_ble_eq_true rfl⟩) (hp_preV hG hw hp0 rfl trivial) rfl rfl hl.1 rfl (lv_room (Nat.le_of_ble_eq_true rfl)) dX10_mostAlike_130 ⟨Nat.zero_le _, Nat.zero_le _⟩) hw (fun x130 st130 t130 H130 locs130 eh130 eg130 bx130 hw => ?_)
                  refine va_mmax hx hb (by rw [hml]; exact hl.1.symm) hown Mmax96_1 Mmax96_2 Mmax96_3 Mmax96_4 (Nat.le_of_ble_eq_true rfl) (Nat.le_of_ble_eq_true rfl) (Nat.zero_le _) (Nat.zero_le _) dX10_mostAlike_133 ?_
                  refine lv_topi (fun x133 ex133 => ?_)
                  have bx133 : iv x133 0 2147483647 := iv_max c94_y94_l6 (iv_any x130) ex133 (by decide)
                  refine lv_istore (lv' := [(6, .int x133), (0, .ref ap0), (3, .int xp3), (5, .int x1), (7, .int y94_l7), (8, .int y94_l8)]) hx hb dX10_mostAlike_136 hl (by decide) rfl (fun ls hl => ?_)
                  exact J138 x133 c94_xp3 c94_x1 bx133 c94_y94_l7 r100fp H130 locs130 hw _ (lv_sub hl [1, 2, 3, 0, 4, 5] rfl)
          exact J94 _ (0 : Int32) (0 : Int32) (0 : Int32) (Nat.lt_succ_self _) c37_xp3 c37_x1 (show iv 0 0 2147483647 from ⟨by decide, by decide⟩) (show iv 0 0 1023 from ⟨by decide, by decide⟩) (show iv 0 0 2147483647 from ⟨by decide, by decide⟩) H82 locs82 hw _ (lv_sub hl [3, 5, 6, 2, 1, 0] rfl)
        · have r45fp : iv y37_l6 0 1023 := (iv_lt_l (iv_nle c45) c37_y37_l6 bx44).mono (by decide) (by decide)
          refine lv_aload_n hx hb dX10_mostAlike_48 rfl (lv_at hl 0 rfl) ?_
          refine hp_getr hx hb hts IX10 hown hK hw.1 hp0 rfl 5 (by decide) L27 rfl dX10_mostAlike_49 ?_
          refine lv_iload hx hb dX10_mostAlike_52 (lv_at hl 4 rfl) ?_
          refine hp_zaldA hx hb hK hw.1 hp0fi (vp_iv r45fp (by decide)) dX10_mostAlike_54 (fun x54 => ?_)
          have J71 : iv xp3 0 1023 → iv x1 2 63 → iv y37_l6 0 1023 → ∀ (H : Heap) (locs : List Loc), hp_w D T s H locs → ∀ (ls : Array Slot), lv_has ls 9 [(0, .ref ap0), (2, .ref ap2), (3, .int xp3), (5, .int x1), (6, .int y37_l6)] → WX10_mostAlike p l e s m below meth c D T ap0 ap1 ap2 xp3 xp4 H locs (F0 m 71 ls []) := by
            intro c71_xp3 c71_x1 c71_y37_l6 H71 locs71 hw ls hl
            obtain ⟨x71, ex71⟩ : ∃ y : Int32, y = y37_l6 + 1 := ⟨_, rfl⟩
            have bx71 : iv x71 1 1024 := iv_add c71_y37_l6 (show iv 1 1 1 from ⟨by decide, by decide⟩) ex71 (by decide)
            have qx71 := iv_add_eq c71_y37_l6 (show iv 1 1 1 from ⟨by decide, by decide⟩) ex71 (by decide)
            refine lv_iinc (v := x71) (lv' := [(6, .int x71), (0, .ref ap0), (2, .ref ap2), (3, .int xp3), (5, .int x1)]) hx hb dX10_mostAlike_71 hl (k := 4) rfl (by rw [ex71]; rfl) (by decide) rfl (fun ls hl => ?_)
            refine lv_goto (tgt := 37) hx hb dX10_mostAlike_74 (by decide) ?_
            exact ih37 x71 (mu_up 1 hmu37 (qx71) (by decide) (show iv x71 0 1024 from (bx71.mono (by decide) (by decide))).2) c71_xp3 c71_x1 (bx71.mono (by decide) (by decide)) H71 locs71 hw _ (lv_sub hl [1, 2, 3, 4, 0] rfl)
          refine lv_if_eq (tgt := 71) hx hb dX10_mostAlike_55 (by decide) (fun c55 => ?_) (fun c55 => ?_)
          · have r55tp : iv x54 0 0 := (iv_both (iv_any x54) (iv_eq (show iv 0 0 0 from ⟨by decide, by decide⟩) c55)).mono (by decide) (by decide)
            exact J71 c37_xp3 c37_x1 r45fp H37 locs37 hw _ (lv_sub hl [0, 1, 2, 3, 4] rfl)
          · refine lv_aload_n hx hb dX10_mostAlike_58 rfl (lv_at hl 0 rfl) ?_
            refine hp_getr hx hb hts IX10 hown hK hw.1 hp0 rfl 8 (by decide) L38 rfl dX10_mostAlike_59 ?_
            refine lv_iload hx hb dX10_mostAlike_62 (lv_at hl 4 rfl) ?_
            refine lv_iload_n hx hb dX10_mostAlike_64 rfl (lv_at hl 2 rfl) ?_
            refine lv_iand hx hb dX10_mostAlike_65 ?_
            refine lv_topi (fun x65 ex65 => ?_)
            have bx65 : iv x65 0 1023 := iv_and_l r45fp ex65
            refine lv_dup2_11 hx hb dX10_mostAlike_66 rfl rfl ?_
            refine hp_ialdA hx hb hK hw.1 hp0sh (vp_iv bx65 (by decide)) dX10_mostAlike_67 (fun x67 => ?_)
            refine lv_iconst (v := 1) hx hb dX10_mostAlike_68 (by decide) ?_
            refine lv_iadd hx hb dX10_mostAlike_69 ?_
            refine lv_topi (fun x69 ex69 => ?_)
            refine hp_iast hx hb hK hw hp0sh (vp_iv bx65 (by decide)) ⟨_, rfl⟩ dX10_mostAlike_70 (fun H70 locs70 hw g70 => ?_)
            exact J71 c37_xp3 c37_x1 r45fp H70 locs70 hw _ (lv_sub hl [0, 1, 2, 3, 4] rfl)
    exact J37 _ (0 : Int32) (Nat.lt_succ_self _) bp3 r9tq (show iv 0 0 1024 from ⟨by decide, by decide⟩) H31 locs31 hw _ (lv_sub hl [2, 4, 5, 1, 0] rfl)
  · have r9fp : iv x1 0 1 := (iv_lt_l (iv_nle c9) bx1 (show iv 2 2 2 from ⟨by decide, by decide⟩)).mono (by decide) (by decide)
    refine lv_aload_n hx hb dX10_mostAlike_12 rfl (lv_at hl 1 rfl) ?_
    refine hp_getA hx hb hts IX10 hown hK hw.1 hp0 rfl 0 (by decide) L11 rfl dX10_mostAlike_13 (fun x13 fx13 => ?_)
    exact W.iret (v := x13) hx hb hr (fun t ht hW => ⟨some (.int x13), rfl, ⟨x13, rfl, trivial⟩, by rw [ht]; exact hw.1, hw.2.F ht⟩) hw.2.2.2 dX10_mostAlike_16
abbrev WX10_summarize (p : Program) (l : Launch) (e : Env) (s : State) (m : MethodId) (below : List Frame) (meth : Method) (c : Code) (D : hp_D) (T : hp_T) (ap0 : Nat) (xp1 : Int32) (H : Heap) (locs : List Loc) (g : JFrame) : Prop := W p l e (headSpec wsX10_summarize ({ frames := 1, cells := 0, slots := 0, locals := 21 })).room s m ([.ref ap0, .int xp1] : List Value).toArray below meth c H locs 0 0 (MQ below (hq_e D T (fun v _ _ => v = none ∧ True)) ([.ref ap0, .int xp1] : List Value).toArray s 0 0 (hp_F T)) g
set_option maxHeartbeats 4000000 in
set_option maxRecDepth 100000 in
theorem sX10_summarize (l : Launch) (D : hp_D) (T : hp_T) (ap0 : Nat) (xp1 : Int32) (ip0 : isWorlds T ap0) (bp1 : iv xp1 0 1024) : Met l yX10_summarize wsX10_summarize ({ frames := 1, cells := 0, slots := 0, locals := 21 }) (hp_Pc D T [.ref ap0, .int xp1] (fun _ => True)) (hq_e D T (fun v _ _ => v = none ∧ True)) 0 0 (hp_F T) := by
  obtain ⟨ap0fi, ap0wo, ap0su, ap0sh, ap0me, ap0s1, ap0s2, hp0, hp0fi, hp0wo, hp0su, hp0sh, hp0me, hp0s1, hp0s2⟩ := id ip0
  refine Met.ofW (cc := cX10_summarize) (maxL := 3) (ret := none) (by decide) rfl ?_
  intro p e s m args below meth c s₁ B hml hv
  obtain ⟨rfl, hok, hG, hB⟩ := hv
  have hx := B.exec
  have hb := B.bytes
  have hr := B.returns
  have hts := atoms_spec (ws := wsX10_summarize) B.pre
  have hown : s.vm.findClass RX10 = some m.cls := findClass_of_methodNamed B.named
  have hlocks := B.notSynchronized
  have hK := hG.1
  have hw : hp_w D T s s.heap [] := hp_w.rf hok
  have IX10 : ∀ w ∈ wsX100, w ∈ wsX10_summarize := by decide +kernel
  have L11 := hts (.fieldLink RX10 11 "PalmCensus$Worlds" "fitting" "I") (by decide +kernel)
  have L15 := hts (.fieldLink RX10 15 "PalmCensus$Worlds" "fewest" "I") (by decide +kernel)
  have L18 := hts (.fieldLink RX10 18 "PalmCensus$Worlds" "most" "I") (by decide +kernel)
  have L21 := hts (.fieldLink RX10 21 "PalmCensus$Worlds" "inEach" "I") (by decide +kernel)
  have L24 := hts (.fieldLink RX10 24 "PalmCensus$Worlds" "inNone" "I") (by decide +kernel)
  have L27 := hts (.fieldLink RX10 27 "PalmCensus$Worlds" "fits" "[Z") (by decide +kernel)
  have Mmax96_1 := hts (.methodLink RX10 96 Lib.Math.max.name) (by decide +kernel)
  have Mmax96_2 := hts (.static Lib.Math.max.name) (by decide +kernel)
  have Mmax96_3 := hts (.initialized "java/lang/Math") (by decide +kernel)
  have Mmax96_4 := hts (.code Lib.Math.max.name Lib.Math.max.code 2 (some .int)) (by decide +kernel)
  have Mmin91_1 := hts (.methodLink RX10 91 Lib.Math.min.name) (by decide +kernel)
  have Mmin91_2 := hts (.static Lib.Math.min.name) (by decide +kernel)
  have Mmin91_3 := hts (.initialized "java/lang/Math") (by decide +kernel)
  have Mmin91_4 := hts (.code Lib.Math.min.name Lib.Math.min.code 2 (some .int)) (by decide +kernel)
  have hl := lv_entry ([.ref ap0, .int xp1]) (n := 3) (Nat.le_of_ble_eq_true rfl)
  rw [lg_entry_eq]
  generalize (lg_sl ([.ref ap0, .int xp1]) ++ List.replicate (3 - (lg_sl ([.ref ap0, .int xp1])).length) Slot.unset).toArray = ls at hl ⊢
  have hl : lv_has ls 3 [(0, .ref ap0), (1, .int xp1)] := hl
  show WX10_summarize p l e s m below meth c D T ap0 xp1 s.heap [] (F0 m 0 ls [])
  refine lv_aload_n hx hb dX10_summarize_0 rfl (lv_at hl 0 rfl) ?_
  refine lv_iconst (v := 0) hx hb dX10_summarize_1 (by decide) ?_
  refine hp_put hx hb hts IX10 tyX10 tyX10_ok nmX10 hown hK hw hp0 rfl 0 (by decide) L11 rfl rfl ⟨_, rfl⟩ rfl rfl dX10_summarize_2 (fun H2 locs2 hw f2n g2 => ?_)
  refine lv_aload_n hx hb dX10_summarize_5 rfl (lv_at hl 0 rfl) ?_
  refine lv_bipush (v := 10) hx hb dX10_summarize_6 (by decide) ?_
  refine hp_put hx hb hts IX10 tyX10 tyX10_ok nmX10 hown hK hw hp0 rfl 1 (by decide) L15 rfl rfl ⟨_, rfl⟩ rfl rfl dX10_summarize_8 (fun H8 locs8 hw f8n g8 => ?_)
  refine lv_aload_n hx hb dX10_summarize_11 rfl (lv_at hl 0 rfl) ?_
  refine lv_iconst (v := 0) hx hb dX10_summarize_12 (by decide) ?_
  refine hp_put hx hb hts IX10 tyX10 tyX10_ok nmX10 hown hK hw hp0 rfl 2 (by decide) L18 rfl rfl ⟨_, rfl⟩ rfl rfl dX10_summarize_13 (fun H13 locs13 hw f13n g13 => ?_)
  refine lv_aload_n hx hb dX10_summarize_16 rfl (lv_at hl 0 rfl) ?_
  refine lv_iload_n hx hb dX10_summarize_17 rfl (lv_at hl 1 rfl) ?_
  refine lv_iconst (v := 1) hx hb dX10_summarize_18 (by decide) ?_
  refine lv_isub hx hb dX10_summarize_19 ?_
  refine lv_topi (fun x19 ex19 => ?_)
  have bx19 : iv x19 (-1) 1023 := iv_sub bp1 (show iv 1 1 1 from ⟨by decide, by decide⟩) ex19 (by decide)
  have qx19 := iv_sub_eq bp1 (show iv 1 1 1 from ⟨by decide, by decide⟩) ex19 (by decide)
  refine hp_put hx hb hts IX10 tyX10 tyX10_ok nmX10 hown hK hw hp0 rfl 3 (by decide) L21 rfl rfl ⟨_, rfl⟩ rfl rfl dX10_summarize_20 (fun H20 locs20 hw f20n g20 => ?_)
  refine lv_aload_n hx hb dX10_summarize_23 rfl (lv_at hl 0 rfl) ?_
  refine lv_iload_n hx hb dX10_summarize_24 rfl (lv_at hl 1 rfl) ?_
  refine lv_iconst (v := 1) hx hb dX10_summarize_25 (by decide) ?_
  refine lv_isub hx hb dX10_summarize_26 ?_
  refine lv_topi (fun x26 ex26 => ?_)
  have bx26 : iv x26 (-1) 1023 := iv_sub bp1 (show iv 1 1 1 from ⟨by decide, by decide⟩) ex26 (by decide)
  have qx26 := iv_sub_eq bp1 (show iv 1 1 1 from ⟨by decide, by decide⟩) ex26 (by decide)
  refine hp_put hx hb hts IX10 tyX10 tyX10_ok nmX10 hown hK hw hp0 rfl 4 (by decide) L24 rfl rfl ⟨_, rfl⟩ rfl rfl dX10_summarize_27 (fun H27 locs27 hw f27n g27 => ?_)
  refine lv_iconst (v := 0) hx hb dX10_summarize_30 (by decide) ?_
  refine lv_istore_n (lv' := [(2, .int 0), (0, .ref ap0), (1, .int xp1)]) hx hb dX10_summarize_31 rfl hl (by decide) rfl (fun ls hl => ?_)
  have J32 : ∀ (n : Nat) (y32_l2 : Int32), (1024 - y32_l2.toInt).toNat < n → iv xp1 0 1024 → iv y32_l2 0 1024 → ∀ (H : Heap) (locs : List Loc), hp_w D T s H locs → ∀ (ls : Array Slot), lv_has ls 3 [(0, .ref ap0), (1, .int xp1), (2, .int y32_l2)] → WX10_summarize p l e s m below meth c D T ap0 xp1 H locs (F0 m 32 ls []) := by
    intro n
    induction n with
    | zero => intro y32_l2 hmu32 c32_xp1 c32_y32_l2 H32 locs32 hw ls hl; exact absurd hmu32 (Nat.not_lt_zero _)
    | succ n ih32 =>
      intro y32_l2 hmu32 c32_xp1 c32_y32_l2 H32 locs32 hw ls hl
      refine lv_iload_n hx hb dX10_summarize_32 rfl (lv_at hl 2 rfl) ?_
      refine lv_iload_n hx hb dX10_summarize_33 rfl (lv_at hl 1 rfl) ?_
      refine lv_icmp_ge (tgt := 114) hx hb dX10_summarize_34 (by decide) (fun c34 => ?_) (fun c34 => ?_)
      · exact W.vret hx hb hr (fun t ht hW => ⟨none, rfl, ⟨rfl, trivial⟩, by rw [ht]; exact hw.1, hw.2.F ht⟩) hw.2.2.2 dX10_summarize_114
      · have r34fp : iv y32_l2 0 1023 := (iv_lt_l (iv_nle c34) c32_y32_l2 c32_xp1).mono (by decide) (by decide)
        have r34fq : iv xp1 1 1024 := (iv_lt_r (iv_nle c34) c32_y32_l2 c32_xp1).mono (by decide) (by decide)
        refine lv_aload_n hx hb dX10_summarize_37 rfl (lv_at hl 0 rfl) ?_
        refine hp_getr hx hb hts IX10 hown hK hw.1 hp0 rfl 5 (by decide) L27 rfl dX10_summarize_38 ?_
        refine lv_iload_n hx hb dX10_summarize_41 rfl (lv_at hl 2 rfl) ?_
        refine hp_zaldA hx hb hK hw.1 hp0fi (vp_iv r34fp (by decide)) dX10_summarize_42 (fun x42 => ?_)
        have J108 : iv xp1 1 1024 → iv y32_l2 0 1023 → ∀ (H : Heap) (locs : List Loc), hp_w D T s H locs → ∀ (ls : Array Slot), lv_has ls 3 [(0, .ref ap0), (1, .int xp1), (2, .int y32_l2)] → WX10_summarize p l e s m below meth c D T ap0 xp1 H locs (F0 m 108 ls []) := by
          intro c108_xp1 c108_y32_l2 H108 locs108 hw ls hl
          obtain ⟨x108, ex108⟩ : ∃ y : Int32, y = y32_l2 + 1 := ⟨_, rfl⟩
          have bx108 : iv x108 1 1024 := iv_add c108_y32_l2 (show iv 1 1 1 from ⟨by decide, by decide⟩) ex108 (by decide)
          have qx108 := iv_add_eq c108_y32_l2 (show iv 1 1 1 from ⟨by decide, by decide⟩) ex108 (by decide)
          refine lv_iinc (v := x108) (lv' := [(2, .int x108), (0, .ref ap0), (1, .int xp1)]) hx hb dX10_summarize_108 hl (k := 2) rfl (by rw [ex108]; rfl) (by decide) rfl (fun ls hl => ?_)
          refine lv_goto (tgt := 32) hx hb dX10_summarize_111 (by decide) ?_
          exact ih32 x108 (mu_up 1 hmu32 (qx108) (by decide) (show iv x108 0 1024 from (bx108.mono (by decide) (by decide))).2) (c108_xp1.mono (by decide) (by decide)) (bx108.mono (by decide) (by decide)) H108 locs108 hw _ (lv_sub hl [1, 2, 0] rfl)
        refine lv_if_eq (tgt := 108) hx hb dX10_summarize_43 (by decide) (fun c43 => ?_) (fun c43 => ?_)
        · have r43tp : iv x42 0 0 := (iv_both (iv_any x42) (iv_eq (show iv 0 0 0 from ⟨by decide, by decide⟩) c43)).mono (by decide) (by decide)
          exact J108 r34fq r34fp H32 locs32 hw _ (lv_sub hl [0, 1, 2] rfl)
        · refine lv_aload_n hx hb dX10_summarize_46 rfl (lv_at hl 0 rfl) ?_
          refine lv_dup hx hb dX10_summarize_47 rfl ?_
          refine hp_getA hx hb hts IX10 hown hK hw.1 hp0 rfl 0 (by decide) L11 rfl dX10_summarize_48 (fun x48 fx48 => ?_)
          refine lv_iconst (v := 1) hx hb dX10_summarize_51 (by decide) ?_
          refine lv_iadd hx hb dX10_summarize_52 ?_
          refine lv_topi (fun x52 ex52 => ?_)
          refine hp_put hx hb hts IX10 tyX10 tyX10_ok nmX10 hown hK hw hp0 rfl 0 (by decide) L11 rfl rfl ⟨_, rfl⟩ rfl rfl dX10_summarize_53 (fun H53 locs53 hw f53n g53 => ?_)
          refine lv_aload_n hx hb dX10_summarize_56 rfl (lv_at hl 0 rfl) ?_
          refine lv_aload_n hx hb dX10_summarize_57 rfl (lv_at hl 0 rfl) ?_
          refine hp_getA hx hb hts IX10 hown hK hw.1 hp0 rfl 1 (by decide) L15 rfl dX10_summarize_58 (fun x58 fx58 => ?_)
          refine lv_iload_n hx hb dX10_summarize_61 rfl (lv_at hl 2 rfl) ?_
          refine hp_callpi (va_runS (As := [.int y32_l2]) (rest := [.int x58, .ref ap0]) ⟨hx, hb, hml, hown, hts⟩ (sJ6_bitCount_0f7a4 l D T y32_l2) (va_cwS 1 hts gX10_summarize_J6_bitCount_0f7a4 rfl rfl rfl (by decide +kernel) ⟨Nat.le_of_ble_eq_true rfl, Nat.le_of_ble_eq_true rfl⟩) (hp_preS hG hw trivial) rfl rfl hl.1 rfl (lv_room (Nat.le_of_ble_eq_true rfl)) dX10_summarize_62 ⟨Nat.zero_le _, Nat.zero_le _⟩) (fun x62 bx62 => ?_)
          refine va_mmin hx hb (by rw [hml]; exact hl.1.symm) hown Mmin91_1 Mmin91_2 Mmin91_3 Mmin91_4 (Nat.le_of_ble_eq_true rfl) (Nat.le_of_ble_eq_true rfl) (Nat.zero_le _) (Nat.zero_le _) dX10_summarize_65 ?_
          refine lv_topi (fun x65 ex65 => ?_)
          have bx65 : iv x65 (-2147483648) 63 := iv_min (iv_any x58) bx62 ex65 (by decide)
          refine hp_put hx hb hts IX10 tyX10 tyX10_ok nmX10 hown hK hw hp0 rfl 1 (by decide) L15 rfl rfl ⟨_, rfl⟩ rfl rfl dX10_summarize_68 (fun H68 locs68 hw f68n g68 => ?_)
          refine lv_aload_n hx hb dX10_summarize_71 rfl (lv_at hl 0 rfl) ?_
          refine lv_aload_n hx hb dX10_summarize_72 rfl (lv_at hl 0 rfl) ?_
          refine hp_getA hx hb hts IX10 hown hK hw.1 hp0 rfl 2 (by decide) L18 rfl dX10_summarize_73 (fun x73 fx73 => ?_)
          refine lv_iload_n hx hb dX10_summarize_76 rfl (lv_at hl 2 rfl) ?_
          refine hp_callpi (va_runS (As := [.int y32_l2]) (rest := [.int x73, .ref ap0]) ⟨hx, hb, hml, hown, hts⟩ (sJ6_bitCount_0f7a4 l D T y32_l2) (va_cwS 1 hts gX10_summarize_J6_bitCount_0f7a4 rfl rfl rfl (by decide +kernel) ⟨Nat.le_of_ble_eq_true rfl, Nat.le_of_ble_eq_true rfl⟩) (hp_preS hG hw trivial) rfl rfl hl.1 rfl (lv_room (Nat.le_of_ble_eq_true rfl)) dX10_summarize_77 ⟨Nat.zero_le _, Nat.zero_le _⟩) (fun x77 bx77 => ?_)
          refine va_mmax hx hb (by rw [hml]; exact hl.1.symm) hown Mmax96_1 Mmax96_2 Mmax96_3 Mmax96_4 (Nat.le_of_ble_eq_true rfl) (Nat.le_of_ble_eq_true rfl) (Nat.zero_le _) (Nat.zero_le _) dX10_summarize_80 ?_
          refine lv_topi (fun x80 ex80 => ?_)
          have bx80 : iv x80 0 2147483647 := iv_max (iv_any x73) bx77 ex80 (by decide)
          refine hp_put hx hb hts IX10 tyX10 tyX10_ok nmX10 hown hK hw hp0 rfl 2 (by decide) L18 rfl rfl ⟨_, rfl⟩ rfl rfl dX10_summarize_83 (fun H83 locs83 hw f83n g83 => ?_)
          refine lv_aload_n hx hb dX10_summarize_86 rfl (lv_at hl 0 rfl) ?_
          refine lv_dup hx hb dX10_summarize_87 rfl ?_
          refine hp_getA hx hb hts IX10 hown hK hw.1 hp0 rfl 3 (by decide) L21 rfl dX10_summarize_88 (fun x88 fx88 => ?_)
          refine lv_iload_n hx hb dX10_summarize_91 rfl (lv_at hl 2 rfl) ?_
          refine lv_iand hx hb dX10_summarize_92 ?_
          refine lv_topi (fun x92 ex92 => ?_)
          have bx92 : iv x92 0 1023 := iv_and_r r34fp ex92
          refine hp_put hx hb hts IX10 tyX10 tyX10_ok nmX10 hown hK hw hp0 rfl 3 (by decide) L21 rfl rfl ⟨_, rfl⟩ rfl rfl dX10_summarize_93 (fun H93 locs93 hw f93n g93 => ?_)
          refine lv_aload_n hx hb dX10_summarize_96 rfl (lv_at hl 0 rfl) ?_
          refine lv_dup hx hb dX10_summarize_97 rfl ?_
          refine hp_getA hx hb hts IX10 hown hK hw.1 hp0 rfl 4 (by decide) L24 rfl dX10_summarize_98 (fun x98 fx98 => ?_)
          refine lv_iload_n hx hb dX10_summarize_101 rfl (lv_at hl 2 rfl) ?_
          refine lv_iconst (v := (-1)) hx hb dX10_summarize_102 (by decide) ?_
          refine lv_ixor hx hb dX10_summarize_103 ?_
          refine lv_topi (fun x103 ex103 => ?_)
          refine lv_iand hx hb dX10_summarize_104 ?_
          refine lv_topi (fun x104 ex104 => ?_)
          refine hp_put hx hb hts IX10 tyX10 tyX10_ok nmX10 hown hK hw hp0 rfl 4 (by decide) L24 rfl rfl ⟨_, rfl⟩ rfl rfl dX10_summarize_105 (fun H105 locs105 hw f105n g105 => ?_)
          exact J108 r34fq r34fp H105 locs105 hw _ (lv_sub hl [0, 1, 2] rfl)
  exact J32 _ (0 : Int32) (Nat.lt_succ_self _) bp1 (show iv 0 0 1024 from ⟨by decide, by decide⟩) H27 locs27 hw _ (lv_sub hl [1, 2, 0] rfl)
abbrev WX10_findFitting (p : Program) (l : Launch) (e : Env) (s : State) (m : MethodId) (below : List Frame) (meth : Method) (c : Code) (D : hp_D) (T : hp_T) (ap0 : Nat) (ap1 : Nat) (ap2 : Nat) (H : Heap) (locs : List Loc) (g : JFrame) : Prop := W p l e (headSpec wsX10_findFitting ({ frames := 6, cells := 0, slots := 0, locals := 154 })).room s m ([.ref ap0, .ref ap1, .ref ap2] : List Value).toArray below meth c H locs 0 0 (MQ below (hq_e D T (fun v _ _ => v = none ∧ True)) ([.ref ap0, .ref ap1, .ref ap2] : List Value).toArray s 0 0 (hp_F T)) g
set_option maxHeartbeats 4000000 in
set_option maxRecDepth 100000 in
theorem sX10_findFitting (l : Launch) (D : hp_D) (T : hp_T) (ap0 : Nat) (ap1 : Nat) (ap2 : Nat) (Ru : Nat → Prop) (hRu : ∀ b, Ru b → isRule T b) (ip0 : isWorlds T ap0) (ip1 : isShaker T Ru ap1) (pxp2 : Value → Prop) (ip2 : isMemory T ap2 pxp2) : Met l yX10_findFitting wsX10_findFitting ({ frames := 6, cells := 0, slots := 0, locals := 154 }) (hp_Pc D T [.ref ap0, .ref ap1, .ref ap2] (fun _ => True)) (hq_e D T (fun v _ _ => v = none ∧ True)) 0 0 (hp_F T) := by
  obtain ⟨ap0fi, ap0wo, ap0su, ap0sh, ap0me, ap0s1, ap0s2, hp0, hp0fi, hp0wo, hp0su, hp0sh, hp0me, hp0s1, hp0s2⟩ := id ip0
  obtain ⟨ap1wd, ap1sk, ap1th, hp1, hp1wd, hp1sk, hp1th⟩ := id ip1
  obtain ⟨ap2tw, ap2tg, ap2th, ap2ts, ap2pm, ap2ak, ap2ao, ap2ah, ap2aw, hp2, ip2tw, hp2tg, hp2th, hp2ts, hp2pm, hp2ak, hp2ao, hp2ah, hp2aw⟩ := id ip2
  obtain ⟨ap2twkin, ap2twpl, ap2twcr, hp2tw, hp2twkin, hp2twpl, hp2twcr⟩ := id ip2tw
  refine Met.ofW (cc := cX10_findFitting) (maxL := 8) (ret := none) (by decide) rfl ?_
  intro p e s m args below meth c s₁ B hml hv
  obtain ⟨rfl, hok, hG, hB⟩ := hv
  have hx := B.exec
  have hb := B.bytes
  have hr := B.returns
  have hts := atoms_spec (ws := wsX10_findFitting) B.pre
  have hown : s.vm.findClass RX10 = some m.cls := findClass_of_methodNamed B.named
  have hlocks := B.notSynchronized
  have hK := hG.1
  have hw : hp_w D T s s.heap [] := hp_w.rf hok
  have IX1 : ∀ w ∈ wsX10, w ∈ wsX10_findFitting := by decide +kernel
  have IX10 : ∀ w ∈ wsX100, w ∈ wsX10_findFitting := by decide +kernel
  have IX8 : ∀ w ∈ wsX80, w ∈ wsX10_findFitting := by decide +kernel
  have L50 := hts (.fieldLink RX10 50 "PalmCensus$Memory" "town" "LPalmCensus$Town;") (by decide +kernel)
  have L56 := hts (.fieldLink RX10 56 "PalmCensus$Town" "people" "I") (by decide +kernel)
  have L61 := hts (.fieldLink RX10 61 "PalmCensus$Memory" "toldCount" "I") (by decide +kernel)
  have L64 := hts (.fieldLink RX10 64 "PalmCensus$Memory" "toldGate" "[I") (by decide +kernel)
  have L67 := hts (.fieldLink RX10 67 "PalmCensus$Memory" "toldHour" "[I") (by decide +kernel)
  have L27 := hts (.fieldLink RX10 27 "PalmCensus$Worlds" "fits" "[Z") (by decide +kernel)
  have L35 := hts (.fieldLink RX10 35 "PalmCensus$Worlds" "sums" "[I") (by decide +kernel)
  have L78 := hts (.fieldLink RX10 78 "PalmCensus$Memory" "toldSum" "[I") (by decide +kernel)
  have hl := lv_entry ([.ref ap0, .ref ap1, .ref ap2]) (n := 8) (Nat.le_of_ble_eq_true rfl)
  rw [lg_entry_eq]
  generalize (lg_sl ([.ref ap0, .ref ap1, .ref ap2]) ++ List.replicate (8 - (lg_sl ([.ref ap0, .ref ap1, .ref ap2])).length) Slot.unset).toArray = ls at hl ⊢
  have hl : lv_has ls 8 [(0, .ref ap0), (1, .ref ap1), (2, .ref ap2)] := hl
  show WX10_findFitting p l e s m below meth c D T ap0 ap1 ap2 s.heap [] (F0 m 0 ls [])
  refine lv_aload_n hx hb dX10_findFitting_0 rfl (lv_at hl 2 rfl) ?_
  refine hp_getr hx hb hts IX1 hown hK hw.1 hp2 rfl 0 (by decide) L50 rfl dX10_findFitting_1 ?_
  refine lv_astore_n (lv' := [(3, .ref ap2tw), (0, .ref ap0), (1, .ref ap1), (2, .ref ap2)]) hx hb dX10_findFitting_4 rfl hl (by decide) rfl (fun ls hl => ?_)
  refine lv_iconst (v := 1) hx hb dX10_findFitting_5 (by decide) ?_
  refine lv_aload_n hx hb dX10_findFitting_6 rfl (lv_at hl 0 rfl) ?_
  refine hp_geti hx hb hts IX8 hown hK hw.1 hp2tw rfl 2 (by decide) L56 rfl dX10_findFitting_7 (fun x7 bx7 fx7 => ?_)
  refine lv_ishl hx hb dX10_findFitting_10 ?_
  refine lv_topi (fun x10 ex10 => ?_)
  have bx10 : iv x10 1 1024 := iv_shl 10 (show iv 1 1 1 from ⟨by decide, by decide⟩) bx7 ex10 (by decide)
  refine lv_istore (lv' := [(4, .int x10), (3, .ref ap2tw), (0, .ref ap0), (1, .ref ap1), (2, .ref ap2)]) hx hb dX10_findFitting_11 hl (by decide) rfl (fun ls hl => ?_)
  refine lv_iconst (v := 0) hx hb dX10_findFitting_13 (by decide) ?_
  refine lv_istore (lv' := [(5, .int 0), (4, .int x10), (3, .ref ap2tw), (0, .ref ap0), (1, .ref ap1), (2, .ref ap2)]) hx hb dX10_findFitting_14 hl (by decide) rfl (fun ls hl => ?_)
  have J16 : ∀ (n : Nat) (y16_l5 : Int32), (1024 - y16_l5.toInt).toNat < n → iv x10 1 1024 → iv y16_l5 0 1024 → ∀ (H : Heap) (locs : List Loc), hp_w D T s H locs → ∀ (ls : Array Slot), lv_has ls 8 [(0, .ref ap0), (1, .ref ap1), (2, .ref ap2), (3, .ref ap2tw), (4, .int x10), (5, .int y16_l5)] → WX10_findFitting p l e s m below meth c D T ap0 ap1 ap2 H locs (F0 m 16 ls []) := by
    intro n
    induction n with
    | zero => intro y16_l5 hmu16 c16_x10 c16_y16_l5 H16 locs16 hw ls hl; exact absurd hmu16 (Nat.not_lt_zero _)
    | succ n ih16 =>
      intro y16_l5 hmu16 c16_x10 c16_y16_l5 H16 locs16 hw ls hl
      refine lv_iload hx hb dX10_findFitting_16 (lv_at hl 5 rfl) ?_
      refine lv_iload hx hb dX10_findFitting_18 (lv_at hl 4 rfl) ?_
      refine lv_icmp_ge (tgt := 37) hx hb dX10_findFitting_20 (by decide) (fun c20 => ?_) (fun c20 => ?_)
      · have r20tq : iv y16_l5 1 1024 := (iv_le_r c20 c16_x10 c16_y16_l5).mono (by decide) (by decide)
        refine lv_iconst (v := 0) hx hb dX10_findFitting_37 (by decide) ?_
        refine lv_istore (lv' := [(5, .int 0), (0, .ref ap0), (1, .ref ap1), (2, .ref ap2), (3, .ref ap2tw), (4, .int x10)]) hx hb dX10_findFitting_38 hl (by decide) rfl (fun ls hl => ?_)
        have J40 : ∀ (n : Nat) (y40_l5 : Int32), (10 - y40_l5.toInt).toNat < n → iv x10 1 1024 → iv y40_l5 0 10 → ∀ (H : Heap) (locs : List Loc), hp_w D T s H locs → ∀ (ls : Array Slot), lv_has ls 8 [(0, .ref ap0), (1, .ref ap1), (2, .ref ap2), (3, .ref ap2tw), (4, .int x10), (5, .int y40_l5)] → WX10_findFitting p l e s m below meth c D T ap0 ap1 ap2 H locs (F0 m 40 ls []) := by
          intro n
          induction n with
          | zero => intro y40_l5 hmu40 c40_x10 c40_y40_l5 H40 locs40 hw ls hl; exact absurd hmu40 (Nat.not_lt_zero _)
          | succ n ih40 =>
            intro y40_l5 hmu40 c40_x10 c40_y40_l5 H40 locs40 hw ls hl
            refine lv_iload hx hb dX10_findFitting_40 (lv_at hl 5 rfl) ?_
            refine lv_aload_n hx hb dX10_findFitting_42 rfl (lv_at hl 2 rfl) ?_
            refine hp_geti hx hb hts IX1 hown hK hw.1 hp2 rfl 3 (by decide) L61 rfl dX10_findFitting_43 (fun x43 bx43 fx43 => ?_)
            refine lv_icmp_ge (tgt := 141) hx hb dX10_findFitting_46 (by decide) (fun c46 => ?_) (fun c46 => ?_)
            · refine lv_aload_n hx hb dX10_findFitting_141 rfl (lv_at hl 0 rfl) ?_
              refine lv_iload hx hb dX10_findFitting_142 (lv_at hl 4 rfl) ?_
              refine hp_callev (va_runV (As := [.int x10]) (rest := []) ⟨hx, hb, hml, hown, hts⟩ (sX10_summarize l D T ap0 x10 ip0 (c40_x10.mono (by decide) (by decide))) (cwV 1 hts gX10_findFitting_X10_summarize rfl rfl rfl (by decide +kernel) ⟨Nat.le_of_ble_eq_true rfl, Nat.le_of_ble_eq_true rfl⟩) (hp_preV hG hw hp0 rfl trivial) rfl rfl hl.1 rfl (lv_room (Nat.le_of_ble_eq_true rfl)) dX10_findFitting_144 ⟨Nat.zero_le _, Nat.zero_le _⟩) hw (fun st144 t144 H144 locs144 eh144 eg144 bx144 hw => ?_)
              exact W.vret hx hb hr (fun t ht hW => ⟨none, rfl, ⟨rfl, trivial⟩, by rw [ht]; exact hw.1, hw.2.F ht⟩) hw.2.2.2 dX10_findFitting_147
            · have r46fp : iv y40_l5 0 9 := (iv_lt_l (iv_nle c46) c40_y40_l5 bx43).mono (by decide) (by decide)
              have r46fq : iv x43 1 10 := (iv_lt_r (iv_nle c46) c40_y40_l5 bx43).mono (by decide) (by decide)
              refine lv_aload_n hx hb dX10_findFitting_49 rfl (lv_at hl 3 rfl) ?_
              refine lv_aload_n hx hb dX10_findFitting_50 rfl (lv_at hl 2 rfl) ?_
              refine hp_getr hx hb hts IX1 hown hK hw.1 hp2 rfl 4 (by decide) L64 rfl dX10_findFitting_51 ?_
              refine lv_iload hx hb dX10_findFitting_54 (lv_at hl 5 rfl) ?_
              refine hp_ialdA hx hb hK hw.1 hp2tg (vp_iv r46fp (by decide)) dX10_findFitting_56 (fun x56 => ?_)
              refine lv_aload_n hx hb dX10_findFitting_57 rfl (lv_at hl 2 rfl) ?_
              refine hp_getr hx hb hts IX1 hown hK hw.1 hp2 rfl 5 (by decide) L67 rfl dX10_findFitting_58 ?_
              refine lv_iload hx hb dX10_findFitting_61 (lv_at hl 5 rfl) ?_
              refine hp_ialdA hx hb hK hw.1 hp2th (vp_iv r46fp (by decide)) dX10_findFitting_63 (fun x63 => ?_)
              refine hp_callpi (va_runV (As := [.int x56, .int x63]) (rest := []) ⟨hx, hb, hml, hown, hts⟩ (sX8_those l D T ap2tw x56 x63 ip2tw) (cwV 2 hts gX10_findFitting_X8_those rfl rfl rfl (by decide +kernel) ⟨Nat.le_of_ble_eq_true rfl, Nat.le_of_ble_eq_true rfl⟩) (hp_preV hG hw hp2tw rfl trivial) rfl rfl hl.1 rfl (lv_room (Nat.le_of_ble_eq_true rfl)) dX10_findFitting_64 ⟨Nat.zero_le _, Nat.zero_le _⟩) (fun x64 bx64 => ?_)
              refine lv_istore (lv' := [(6, .int x64), (0, .ref ap0), (1, .ref ap1), (2, .ref ap2), (3, .ref ap2tw), (4, .int x10), (5, .int y40_l5)]) hx hb dX10_findFitting_67 hl (by decide) rfl (fun ls hl => ?_)
              refine lv_aload_n hx hb dX10_findFitting_69 rfl (lv_at hl 1 rfl) ?_
              refine lv_aload_n hx hb dX10_findFitting_70 rfl (lv_at hl 2 rfl) ?_
              refine lv_aload_n hx hb dX10_findFitting_71 rfl (lv_at hl 4 rfl) ?_
              refine lv_iload hx hb dX10_findFitting_72 (lv_at hl 0 rfl) ?_
              refine lv_aload_n hx hb dX10_findFitting_74 rfl (lv_at hl 3 rfl) ?_
              refine hp_getr hx hb hts IX1 hown hK hw.1 hp2 rfl 5 (by decide) L67 rfl dX10_findFitting_75 ?_
              refine lv_iload hx hb dX10_findFitting_78 (lv_at hl 6 rfl) ?_
              refine hp_ialdA hx hb hK hw.1 hp2th (vp_iv r46fp (by decide)) dX10_findFitting_80 (fun x80 => ?_)
              refine hp_callev (va_runV (As := [.ref ap1, .ref ap2tw, .int x64, .int x80]) (rest := []) ⟨hx, hb, hml, hown, hts⟩ (sX10_findSums l D T ap0 ap1 ap2tw x64 x80 Ru hRu ip0 ip1 ip2tw bx64) (cwV 4 hts gX10_findFitting_X10_findSums rfl rfl rfl (by decide +kernel) ⟨Nat.le_of_ble_eq_true rfl, Nat.le_of_ble_eq_true rfl⟩) (hp_preV hG hw hp0 rfl trivial) rfl rfl hl.1 rfl (lv_room (Nat.le_of_ble_eq_true rfl)) dX10_findFitting_81 ⟨Nat.zero_le _, Nat.zero_le _⟩) hw (fun st81 t81 H81 locs81 eh81 eg81 bx81 hw => ?_)
              refine lv_iconst (v := 0) hx hb dX10_findFitting_84 (by decide) ?_
              refine lv_istore (lv' := [(7, .int 0), (6, .int x64), (0, .ref ap0), (1, .ref ap1), (2, .ref ap2), (3, .ref ap2tw), (4, .int x10), (5, .int y40_l5)]) hx hb dX10_findFitting_85 hl (by decide) rfl (fun ls hl => ?_)
              have J87 : ∀ (n : Nat) (y87_l7 : Int32), (1024 - y87_l7.toInt).toNat < n → iv x10 1 1024 → iv y40_l5 0 9 → iv x64 0 1023 → iv y87_l7 0 1024 → ∀ (H : Heap) (locs : List Loc), hp_w D T s H locs → ∀ (ls : Array Slot), lv_has ls 8 [(0, .ref ap0), (1, .ref ap1), (2, .ref ap2), (3, .ref ap2tw), (4, .int x10), (5, .int y40_l5), (6, .int x64), (7, .int y87_l7)] → WX10_findFitting p l e s m below meth c D T ap0 ap1 ap2 H locs (F0 m 87 ls []) := by
                intro n
                induction n with
                | zero => intro y87_l7 hmu87 c87_x10 c87_y40_l5 c87_x64 c87_y87_l7 H87 locs87 hw ls hl; exact absurd hmu87 (Nat.not_lt_zero _)
                | succ n ih87 =>
                  intro y87_l7 hmu87 c87_x10 c87_y40_l5 c87_x64 c87_y87_l7 H87 locs87 hw ls hl
                  refine lv_iload hx hb dX10_findFitting_87 (lv_at hl 7 rfl) ?_
                  refine lv_iload hx hb dX10_findFitting_89 (lv_at hl 4 rfl) ?_
                  refine lv_icmp_ge (tgt := 135) hx hb dX10_findFitting_91 (by decide) (fun c91 => ?_) (fun c91 => ?_)
                  · have r91tq : iv y87_l7 1 1024 := (iv_le_r c91 c87_x10 c87_y87_l7).mono (by decide) (by decide)
                    obtain ⟨x135, ex135⟩ : ∃ y : Int32, y = y40_l5 + 1 := ⟨_, rfl⟩
                    have bx135 : iv x135 1 10 := iv_add c87_y40_l5 (show iv 1 1 1 from ⟨by decide, by decide⟩) ex135 (by decide)
                    have qx135 := iv_add_eq c87_y40_l5 (show iv 1 1 1 from ⟨by decide, by decide⟩) ex135 (by decide)
                    refine lv_iinc (v := x135) (lv' := [(5, .int x135), (0, .ref ap0), (1, .ref ap1), (2, .ref ap2), (3, .ref ap2tw), (4, .int x10), (6, .int x64), (7, .int y87_l7)]) hx hb dX10_findFitting_135 hl (k := 5) rfl (by rw [ex135]; rfl) (by decide) rfl (fun ls hl => ?_)
                    refine lv_goto (tgt := 40) hx hb dX10_findFitting_138 (by decide) ?_
                    exact ih40 x135 (mu_up 1 hmu40 (qx135) (by decide) (show iv x135 0 10 from (bx135.mono (by decide) (by decide))).2) c87_x10 (bx135.mono (by decide) (by decide)) H87 locs87 hw _ (lv_sub hl [1, 2, 3, 4, 5, 0] rfl)
                  · have r91fp : iv y87_l7 0 1023 := (iv_lt_l (iv_nle c91) c87_y87_l7 c87_x10).mono (by decide) (by decide)
                    refine lv_aload_n hx hb dX10_findFitting_94 rfl (lv_at hl 0 rfl) ?_
                    refine hp_getr hx hb hts IX10 hown hK hw.1 hp0 rfl 5 (by decide) L27 rfl dX10_findFitting_95 ?_
                    refine lv_iload hx hb dX10_findFitting_98 (lv_at hl 7 rfl) ?_
                    refine lv_dup2_11 hx hb dX10_findFitting_100 rfl rfl ?_
                    refine hp_zaldA hx hb hK hw.1 hp0fi (vp_iv r91fp (by decide)) dX10_findFitting_101 (fun x101 => ?_)
                    refine lv_aload_n hx hb dX10_findFitting_102 rfl (lv_at hl 0 rfl) ?_
                    refine hp_getr hx hb hts IX10 hown hK hw.1 hp0 rfl 7 (by decide) L35 rfl dX10_findFitting_103 ?_
                    refine lv_iload hx hb dX10_findFitting_106 (lv_at hl 7 rfl) ?_
                    refine lv_iload hx hb dX10_findFitting_108 (lv_at hl 6 rfl) ?_
                    refine lv_iand hx hb dX10_findFitting_110 ?_
                    refine lv_topi (fun x110 ex110 => ?_)
                    have bx110 : iv x110 0 1023 := iv_and_l r91fp ex110
                    refine hp_ialdA hx hb hK hw.1 hp0su (vp_iv bx110 (by decide)) dX10_findFitting_111 (fun x111 => ?_)
                    refine lv_aload_n hx hb dX10_findFitting_112 rfl (lv_at hl 2 rfl) ?_
                    refine hp_getr hx hb hts IX1 hown hK hw.1 hp2 rfl 6 (by decide) L78 rfl dX10_findFitting_113 ?_
                    refine lv_iload hx hb dX10_findFitting_116 (lv_at hl 5 rfl) ?_
                    refine hp_ialdA hx hb hK hw.1 hp2ts (vp_iv c87_y40_l5 (by decide)) dX10_findFitting_118 (fun x118 => ?_)
                    have J127 : ∀ (y127_s3 : Int32), iv x10 1 1024 → iv y40_l5 0 9 → iv x64 0 1023 → iv y87_l7 0 1023 → iv y127_s3 0 1 → ∀ (H : Heap) (locs : List Loc), hp_w D T s H locs → ∀ (ls : Array Slot), lv_has ls 8 [(0, .ref ap0), (1, .ref ap1), (2, .ref ap2), (3, .ref ap2tw), (4, .int x10), (5, .int y40_l5), (6, .int x64), (7, .int y87_l7)] → WX10_findFitting p l e s m below meth c D T ap0 ap1 ap2 H locs (F0 m 127 ls [.int y127_s3, .int x101, .int y87_l7, .ref ap0fi]) := by
                      intro y127_s3 c127_x10 c127_y40_l5 c127_x64 c127_y87_l7 c127_y127_s3 H127 locs127 hw ls hl
                      refine lv_iand hx hb dX10_findFitting_127 ?_
                      refine lv_topi (fun x127 ex127 => ?_)
                      have bx127 : iv x127 0 1 := iv_and_r c127_y127_s3 ex127
                      refine hp_zastA hx hb hK hw hp0fi (vp_iv c127_y87_l7 (by decide)) dX10_findFitting_128 (fun H128 locs128 hw g128 => ?_)
                      obtain ⟨x129, ex129⟩ : ∃ y : Int32, y = y87_l7 + 1 := ⟨_, rfl⟩
                      have bx129 : iv x129 1 1024 := iv_add c127_y87_l7 (show iv 1 1 1 from ⟨by decide, by decide⟩) ex129 (by decide)
                      have qx129 := iv_add_eq c127_y87_l7 (show iv 1 1 1 from ⟨by decide, by decide⟩) ex129 (by decide)
                      refine lv_iinc (v := x129) (lv' := [(7, .int x129), (0, .ref ap0), (1, .ref ap1), (2, .ref ap2), (3, .ref ap2tw), (4, .int x10), (5, .int y40_l5), (6, .int x64)]) hx hb dX10_findFitting_129 hl (k := 7) rfl (by rw [ex129]; rfl) (by decide) rfl (fun ls hl => ?_)
                      refine lv_goto (tgt := 87) hx hb dX10_findFitting_132 (by decide) ?_
                      exact ih87 x129 (mu_up 1 hmu87 (qx129) (by decide) (show iv x129 0 1024 from (bx129.mono (by decide) (by decide))).2) c127_x10 c127_y40_l5 c127_x64 (bx129.mono (by decide) (by decide)) H128 locs128 hw _ (lv_sub hl [1, 2, 3, 4, 5, 6, 7, 0] rfl)
                    refine lv_icmp_ne (tgt := 126) hx hb dX10_findFitting_119 (by decide) (fun c119 => ?_) (fun c119 => ?_)
                    · refine lv_iconst (v := 0) hx hb dX10_findFitting_126 (by decide) ?_
                      exact J127 (0 : Int32) c87_x10 c87_y40_l5 c87_x64 r91fp (show iv 0 0 1 from ⟨by decide, by decide⟩) H87 locs87 hw _ (lv_sub hl [0, 1, 2, 3, 4, 5, 6, 7] rfl)
                    · refine lv_iconst (v := 1) hx hb dX10_findFitting_122 (by decide) ?_
                      refine lv_goto (tgt := 127) hx hb dX10_findFitting_123 (by decide) ?_
                      exact J127 (1 : Int32) c87_x10 c87_y40_l5 c87_x64 r91fp (show iv 1 0 1 from ⟨by decide, by decide⟩) H87 locs87 hw _ (lv_sub hl [0, 1, 2, 3, 4, 5, 6, 7] rfl)
              exact J87 _ (0 : Int32) (Nat.lt_succ_self _) c40_x10 r46fp bx64 (show iv 0 0 1024 from ⟨by decide, by decide⟩) H81 locs81 hw _ (lv_sub hl [2, 3, 4, 5, 6, 7, 1, 0] rfl)
        exact J40 _ (0 : Int32) (Nat.lt_succ_self _) c16_x10 (show iv 0 0 10 from ⟨by decide, by decide⟩) H16 locs16 hw _ (lv_sub hl [1, 2, 3, 4, 5, 0] rfl)
      · have r20fp : iv y16_l5 0 1023 := (iv_lt_l (iv_nle c20) c16_y16_l5 c16_x10).mono (by decide) (by decide)
        refine lv_aload_n hx hb dX10_findFitting_23 rfl (lv_at hl 0 rfl) ?_
        refine hp_getr hx hb hts IX10 hown hK hw.1 hp0 rfl 5 (by decide) L27 rfl dX10_findFitting_24 ?_
        refine lv_iload hx hb dX10_findFitting_27 (lv_at hl 5 rfl) ?_
        refine lv_iconst (v := 1) hx hb dX10_findFitting_29 (by decide) ?_
        refine hp_zastA hx hb hK hw hp0fi (vp_iv r20fp (by decide)) dX10_findFitting_30 (fun H30 locs30 hw g30 => ?_)
        obtain ⟨x31, ex31⟩ : ∃ y : Int32, y = y16_l5 + 1 := ⟨_, rfl⟩
        have bx31 : iv x31 1 1024 := iv_add r20fp (show iv 1 1 1 from ⟨by decide, by decide⟩) ex31 (by decide)
        have qx31 := iv_add_eq r20fp (show iv 1 1 1 from ⟨by decide, by decide⟩) ex31 (by decide)
        refine lv_iinc (v := x31) (lv' := [(5, .int x31), (0, .ref ap0), (1, .ref ap1), (2, .ref ap2), (3, .ref ap2tw), (4, .int x10)]) hx hb dX10_findFitting_31 hl (k := 5) rfl (by rw [ex31]; rfl) (by decide) rfl (fun ls hl => ?_)
        refine lv_goto (tgt := 16) hx hb dX10_findFitting_34 (by decide) ?_
        exact ih16 x31 (mu_up 1 hmu16 (qx31) (by decide) (show iv x31 0 1024 from (bx31.mono (by decide) (by decide))).2) c16_x10 (bx31.mono (by decide) (by decide)) H30 locs30 hw _ (lv_sub hl [1, 2, 3, 4, 5, 0] rfl)
  exact J16 _ (0 : Int32) (Nat.lt_succ_self _) bx10 (show iv 0 0 1024 from ⟨by decide, by decide⟩) s.heap [] hw _ (lv_sub hl [3, 4, 5, 2, 1, 0] rfl)
abbrev WX10_findQuestion (p : Program) (l : Launch) (e : Env) (s : State) (m : MethodId) (below : List Frame) (meth : Method) (c : Code) (D : hp_D) (T : hp_T) (ap0 : Nat) (ap1 : Nat) (ap2 : Nat) (ap3 : Nat) (H : Heap) (locs : List Loc) (g : JFrame) : Prop := W p l e (headSpec wsX10_findQuestion ({ frames := 7, cells := 0, slots := 0, locals := 182 })).room s m ([.ref ap0, .ref ap1, .ref ap2, .ref ap3] : List Value).toArray below meth c H locs 0 0 (MQ below (hq_e D T (fun v _ _ => v = none ∧ True)) ([.ref ap0, .ref ap1, .ref ap2, .ref ap3] : List Value).toArray s 0 0 (hp_F T)) g
set_option maxHeartbeats 4000000 in
set_option maxRecDepth 100000 in
theorem sX10_findQuestion (l : Launch) (D : hp_D) (T : hp_T) (ap0 : Nat) (ap1 : Nat) (ap2 : Nat) (ap3 : Nat) (Ru : Nat → Prop) (hRu : ∀ b, Ru b → isRule T b) (ip0 : isWorlds T ap0) (ip1 : isShaker T Ru ap1) (ip2 : isTown T ap2) (ip3 : isBest T ap3) : Met l yX10_findQuestion wsX10_findQuestion ({ frames := 7, cells := 0, slots := 0, locals := 182 }) (hp_Pc D T [.ref ap0, .ref ap1, .ref ap2, .ref ap3] (fun _ => True)) (hq_e D T (fun v _ _ => v = none ∧ True)) 0 0 (hp_F T) := by
  obtain ⟨ap0fi, ap0wo, ap0su, ap0sh, ap0me, ap0s1, ap0s2, hp0, hp0fi, hp0wo, hp0su, hp0sh, hp0me, hp0s1, hp0s2⟩ := id ip0
  obtain ⟨ap1wd, ap1sk, ap1th, hp1, hp1wd, hp1sk, hp1th⟩ := id ip1
  obtain ⟨ap2kin, ap2pl, ap2cr, hp2, hp2kin, hp2pl, hp2cr⟩ := id ip2
  have hp3 : T ap3 = some (.inr (0, [(rI 0 1), rA, rA, rA])) := ip3
  refine Met.ofW (cc := cX10_findQuestion) (maxL := 7) (ret := none) (by decide) rfl ?_
  intro p e s m args below meth c s₁ B hml hv
  obtain ⟨rfl, hok, hG, hB⟩ := hv
  have hx := B.exec
  have hb := B.bytes
  have hr := B.returns
  have hts := atoms_spec (ws := wsX10_findQuestion) B.pre
  have hown : s.vm.findClass RX10 = some m.cls := findClass_of_methodNamed B.named
  have hlocks := B.notSynchronized
  have hK := hG.1
  have hw : hp_w D T s s.heap [] := hp_w.rf hok
  have IX8 : ∀ w ∈ wsX80, w ∈ wsX10_findQuestion := by decide +kernel
  have L104 := hts (.fieldLink RX10 104 "PalmCensus$Town" "hours" "I") (by decide +kernel)
  have L107 := hts (.fieldLink RX10 107 "PalmCensus$Town" "gates" "I") (by decide +kernel)
  have hl := lv_entry ([.ref ap0, .ref ap1, .ref ap2, .ref ap3]) (n := 7) (Nat.le_of_ble_eq_true rfl)
  rw [lg_entry_eq]
  generalize (lg_sl ([.ref ap0, .ref ap1, .ref ap2, .ref ap3]) ++ List.replicate (7 - (lg_sl ([.ref ap0, .ref ap1, .ref ap2, .ref ap3])).length) Slot.unset).toArray = ls at hl ⊢
  have hl : lv_has ls 7 [(0, .ref ap0), (1, .ref ap1), (2, .ref ap2), (3, .ref ap3)] := hl
  show WX10_findQuestion p l e s m below meth c D T ap0 ap1 ap2 ap3 s.heap [] (F0 m 0 ls [])
  refine lv_aload_n hx hb dX10_findQuestion_0 rfl (lv_at hl 3 rfl) ?_
  refine hp_callev (va_runV (As := []) (rest := []) ⟨hx, hb, hml, hown, hts⟩ (sX0_forget l D T ap3 ip3) (cwV 0 hts gX10_findQuestion_X0_forget rfl rfl rfl (by decide +kernel) ⟨Nat.le_of_ble_eq_true rfl, Nat.le_of_ble_eq_true rfl⟩) (hp_preV hG hw hp3 rfl trivial) rfl rfl hl.1 rfl (lv_room (Nat.le_of_ble_eq_true rfl)) dX10_findQuestion_1 ⟨Nat.zero_le _, Nat.zero_le _⟩) hw (fun st1 t1 H1 locs1 eh1 eg1 bx1 hw => ?_)
  refine lv_iconst (v := 0) hx hb dX10_findQuestion_4 (by decide) ?_
  refine lv_istore (lv' := [(4, .int 0), (0, .ref ap0), (1, .ref ap1), (2, .ref ap2), (3, .ref ap3)]) hx hb dX10_findQuestion_5 hl (by decide) rfl (fun ls hl => ?_)
  have J7 : ∀ (n : Nat) (y7_l4 : Int32), (12 - y7_l4.toInt).toNat < n → iv y7_l4 0 12 → ∀ (H : Heap) (locs : List Loc), hp_w D T s H locs → ∀ (ls : Array Slot), lv_has ls 7 [(0, .ref ap0), (1, .ref ap1), (2, .ref ap2), (3, .ref ap3), (4, .int y7_l4)] → WX10_findQuestion p l e s m below meth c D T ap0 ap1 ap2 ap3 H locs (F0 m 7 ls []) := by
    intro n
    induction n with
    | zero => intro y7_l4 hmu7 c7_y7_l4 H7 locs7 hw ls hl; exact absurd hmu7 (Nat.not_lt_zero _)
    | succ n ih7 =>
      intro y7_l4 hmu7 c7_y7_l4 H7 locs7 hw ls hl
      refine lv_iload hx hb dX10_findQuestion_7 (lv_at hl 4 rfl) ?_
      refine lv_aload_n hx hb dX10_findQuestion_9 rfl (lv_at hl 2 rfl) ?_
      refine hp_geti hx hb hts IX8 hown hK hw.1 hp2 rfl 1 (by decide) L104 rfl dX10_findQuestion_10 (fun x10 bx10 fx10 => ?_)
      refine lv_icmp_ge (tgt := 69) hx hb dX10_findQuestion_13 (by decide) (fun c13 => ?_) (fun c13 => ?_)
      · exact W.vret hx hb hr (fun t ht hW => ⟨none, rfl, ⟨rfl, trivial⟩, by rw [ht]; exact hw.1, hw.2.F ht⟩) hw.2.2.2 dX10_findQuestion_69
      · have r13fp : iv y7_l4 0 11 := (iv_lt_l (iv_nle c13) c7_y7_l4 bx10).mono (by decide) (by decide)
        have r13fq : iv x10 1 12 := (iv_lt_r (iv_nle c13) c7_y7_l4 bx10).mono (by decide) (by decide)
        refine lv_iconst (v := 0) hx hb dX10_findQuestion_16 (by decide) ?_
        refine lv_istore (lv' := [(5, .int 0), (0, .ref ap0), (1, .ref ap1), (2, .ref ap2), (3, .ref ap3), (4, .int y7_l4)]) hx hb dX10_findQuestion_17 hl (by decide) rfl (fun ls hl => ?_)
        have J19 : ∀ (n : Nat) (y19_l5 : Int32), (6 - y19_l5.toInt).toNat < n → iv y7_l4 0 11 → iv y19_l5 0 6 → ∀ (H : Heap) (locs : List Loc), hp_w D T s H locs → ∀ (ls : Array Slot), lv_has ls 7 [(0, .ref ap0), (1, .ref ap1), (2, .ref ap2), (3, .ref ap3), (4, .int y7_l4), (5, .int y19_l5)] → WX10_findQuestion p l e s m below meth c D T ap0 ap1 ap2 ap3 H locs (F0 m 19 ls []) := by
          intro n
          induction n with
          | zero => intro y19_l5 hmu19 c19_y7_l4 c19_y19_l5 H19 locs19 hw ls hl; exact absurd hmu19 (Nat.not_lt_zero _)
          | succ n ih19 =>
            intro y19_l5 hmu19 c19_y7_l4 c19_y19_l5 H19 locs19 hw ls hl
            refine lv_iload hx hb dX10_findQuestion_19 (lv_at hl 5 rfl) ?_
            refine lv_aload_n hx hb dX10_findQuestion_21 rfl (lv_at hl 2 rfl) ?_
            refine hp_geti hx hb hts IX8 hown hK hw.1 hp2 rfl 0 (by decide) L107 rfl dX10_findQuestion_22 (fun x22 bx22 fx22 => ?_)
            refine lv_icmp_ge (tgt := 63) hx hb dX10_findQuestion_25 (by decide) (fun c25 => ?_) (fun c25 => ?_)
            · obtain ⟨x63, ex63⟩ : ∃ y : Int32, y = y7_l4 + 1 := ⟨_, rfl⟩
              have bx63 : iv x63 1 12 := iv_add c19_y7_l4 (show iv 1 1 1 from ⟨by decide, by decide⟩) ex63 (by decide)
              have qx63 := iv_add_eq c19_y7_l4 (show iv 1 1 1 from ⟨by decide, by decide⟩) ex63 (by decide)
              refine lv_iinc (v := x63) (lv' := [(4, .int x63), (0, .ref ap0), (1, .ref ap1), (2, .ref ap2), (3, .ref ap3), (5, .int y19_l5)]) hx hb dX10_findQuestion_63 hl (k := 4) rfl (by rw [ex63]; rfl) (by decide) rfl (fun ls hl => ?_)
              refine lv_goto (tgt := 7) hx hb dX10_findQuestion_66 (by decide) ?_
              exact ih7 x63 (mu_up 1 hmu7 (qx63) (by decide) (show iv x63 0 12 from (bx63.mono (by decide) (by decide))).2) (bx63.mono (by decide) (by decide)) H19 locs19 hw _ (lv_sub hl [1, 2, 3, 4, 0] rfl)
            · have r25fp : iv y19_l5 0 5 := (iv_lt_l (iv_nle c25) c19_y19_l5 bx22).mono (by decide) (by decide)
              have r25fq : iv x22 1 6 := (iv_lt_r (iv_nle c25) c19_y19_l5 bx22).mono (by decide) (by decide)
              refine lv_aload_n hx hb dX10_findQuestion_28 rfl (lv_at hl 2 rfl) ?_
              refine lv_iload hx hb dX10_findQuestion_29 (lv_at hl 5 rfl) ?_
              refine lv_iload hx hb dX10_findQuestion_31 (lv_at hl 4 rfl) ?_
              refine hp_callpi (va_runV (As := [.int y19_l5, .int y7_l4]) (rest := []) ⟨hx, hb, hml, hown, hts⟩ (sX8_those l D T ap2 y19_l5 y7_l4 ip2) (cwV 2 hts gX10_findQuestion_X8_those rfl rfl rfl (by decide +kernel) ⟨Nat.le_of_ble_eq_true rfl, Nat.le_of_ble_eq_true rfl⟩) (hp_preV hG hw hp2 rfl trivial) rfl rfl hl.1 rfl (lv_room (Nat.le_of_ble_eq_true rfl)) dX10_findQuestion_33 ⟨Nat.zero_le _, Nat.zero_le _⟩) (fun x33 bx33 => ?_)
              refine lv_istore (lv' := [(6, .int x33), (0, .ref ap0), (1, .ref ap1), (2, .ref ap2), (3, .ref ap3), (4, .int y7_l4), (5, .int y19_l5)]) hx hb dX10_findQuestion_36 hl (by decide) rfl (fun ls hl => ?_)
              refine lv_aload_n hx hb dX10_findQuestion_38 rfl (lv_at hl 4 rfl) ?_
              refine lv_aload_n hx hb dX10_findQuestion_39 rfl (lv_at hl 1 rfl) ?_
              refine lv_aload_n hx hb dX10_findQuestion_40 rfl (lv_at hl 2 rfl) ?_
              refine lv_aload_n hx hb dX10_findQuestion_41 rfl (lv_at hl 3 rfl) ?_
              refine lv_iload hx hb dX10_findQuestion_42 (lv_at hl 0 rfl) ?_
              refine lv_iload hx hb dX10_findQuestion_44 (lv_at hl 5 rfl) ?_
              refine hp_callei (va_runV (As := [.ref ap1, .ref ap2, .int x33, .int y7_l4]) (rest := [.ref ap3]) ⟨hx, hb, hml, hown, hts⟩ (sX10_mostAlike l D T ap0 ap1 ap2 x33 y7_l4 Ru hRu ip0 ip1 ip2 bx33) (cwV 4 hts gX10_findQuestion_X10_mostAlike rfl rfl rfl (by decide +kernel) ⟨Nat.le_of_ble_eq_true rfl, Nat.le_of_ble_eq_true rfl⟩) (hp_preV hG hw hp0 rfl trivial) rfl rfl hl.1 rfl (lv_room (Nat.le_of_ble_eq_true rfl)) dX10_findQuestion_46 ⟨Nat.zero_le _, Nat.zero_le _⟩) hw (fun x46 st46 t46 H46 locs46 eh46 eg46 bx46 hw => ?_)
              refine lv_ineg hx hb dX10_findQuestion_49 ?_
              refine lv_topi (fun x49 ex49 => ?_)
              refine lv_iload hx hb dX10_findQuestion_50 (lv_at hl 5 rfl) ?_
              refine lv_iload hx hb dX10_findQuestion_52 (lv_at hl 6 rfl) ?_
              refine hp_callev (va_runV (As := [.int x49, .int y7_l4, .int y19_l5]) (rest := []) ⟨hx, hb, hml, hown, hts⟩ (sX0_offer l D T ap3 x49 y7_l4 y19_l5 ip3) (cwV 3 hts gX10_findQuestion_X0_offer rfl rfl rfl (by decide +kernel) ⟨Nat.le_of_ble_eq_true rfl, Nat.le_of_ble_eq_true rfl⟩) (hp_preV hG hw hp3 rfl trivial) rfl rfl hl.1 rfl (lv_room (Nat.le_of_ble_eq_true rfl)) dX10_findQuestion_54 ⟨Nat.zero_le _, Nat.zero_le _⟩) hw (fun st54 t54 H54 locs54 eh54 eg54 bx54 hw => ?_)
              obtain ⟨x57, ex57⟩ : ∃ y : Int32, y = y19_l5 + 1 := ⟨_, rfl⟩
              have bx57 : iv x57 1 6 := iv_add r25fp (show iv 1 1 1 from ⟨by decide, by decide⟩) ex57 (by decide)
              have qx57 := iv_add_eq r25fp (show iv 1 1 1 from ⟨by decide, by decide⟩) ex57 (by decide)
              refine lv_iinc (v := x57) (lv' := [(5, .int x57), (6, .int x33), (0, .ref ap0), (1, .ref ap1), (2, .ref ap2), (3, .ref ap3), (4, .int y7_l4)]) hx hb dX10_findQuestion_57 hl (k := 6) rfl (by rw [ex57]; rfl) (by decide) rfl (fun ls hl => ?_)
              refine lv_goto (tgt := 19) hx hb dX10_findQuestion_60 (by decide) ?_
              exact ih19 x57 (mu_up 1 hmu19 (qx57) (by decide) (show iv x57 0 6 from (bx57.mono (by decide) (by decide))).2) c19_y7_l4 (bx57.mono (by decide) (by decide)) H54 locs54 hw _ (lv_sub hl [2, 3, 4, 5, 6, 0] rfl)
        exact J19 _ (0 : Int32) (Nat.lt_succ_self _) r13fp (show iv 0 0 6 from ⟨by decide, by decide⟩) H7 locs7 hw _ (lv_sub hl [1, 2, 3, 4, 5, 0] rfl)
  exact J7 _ (0 : Int32) (Nat.lt_succ_self _) (show iv 0 0 12 from ⟨by decide, by decide⟩) H1 locs1 hw _ (lv_sub hl [1, 2, 3, 4, 0] rfl)
abbrev WX2_oddWith (p : Program) (l : Launch) (e : Env) (s : State) (m : MethodId) (below : List Frame) (meth : Method) (c : Code) (D : hp_D) (T : hp_T) (ap0 : Nat) (ap1 : Nat) (xp2 : Int32) (xp3 : Int32) (xp4 : Int32) (H : Heap) (locs : List Loc) (g : JFrame) : Prop := W p l e (headSpec wsX2_oddWith ({ frames := 5, cells := 0, slots := 0, locals := 124 })).room s m ([.ref ap0, .ref ap1, .int xp2, .int xp3, .int xp4] : List Value).toArray below meth c H locs 0 0 (MQ below (hq_e D T (fun v _ _ => ∃ r : Int32, v = some (.int r) ∧ iv r 0 1)) ([.ref ap0, .ref ap1, .int xp2, .int xp3, .int xp4] : List Value).toArray s 0 0 (hp_F T)) g
set_option maxHeartbeats 4000000 in
set_option maxRecDepth 100000 in
theorem sX2_oddWith (l : Launch) (D : hp_D) (T : hp_T) (ap0 : Nat) (ap1 : Nat) (xp2 : Int32) (xp3 : Int32) (xp4 : Int32) (Ru : Nat → Prop) (hRu : ∀ b, Ru b → isRule T b) (ip0 : isShaker T Ru ap0) (ip1 : isTown T ap1) : Met l yX2_oddWith wsX2_oddWith ({ frames := 5, cells := 0, slots := 0, locals := 124 }) (hp_Pc D T [.ref ap0, .ref ap1, .int xp2, .int xp3, .int xp4] (fun _ => True)) (hq_e D T (fun v _ _ => ∃ r : Int32, v = some (.int r) ∧ iv r 0 1)) 0 0 (hp_F T) := by
  obtain ⟨ap0wd, ap0sk, ap0th, hp0, hp0wd, hp0sk, hp0th⟩ := id ip0
  obtain ⟨ap1kin, ap1pl, ap1cr, hp1, hp1kin, hp1pl, hp1cr⟩ := id ip1
  refine Met.ofW (cc := cX2_oddWith) (maxL := 5) (ret := (some .int)) (by decide) rfl ?_
  intro p e s m args below meth c s₁ B hml hv
  obtain ⟨rfl, hok, hG, hB⟩ := hv
  have hx := B.exec
  have hb := B.bytes
  have hr := B.returns
  have hts := atoms_spec (ws := wsX2_oddWith) B.pre
  have hown : s.vm.findClass RX2 = some m.cls := findClass_of_methodNamed B.named
  have hlocks := B.notSynchronized
  have hK := hG.1
  have hw : hp_w D T s s.heap [] := hp_w.rf hok
  have IX8 : ∀ w ∈ wsX80, w ∈ wsX2_oddWith := by decide +kernel
  have L41 := hts (.fieldLink RX2 41 "PalmCensus$Town" "gloved" "I") (by decide +kernel)
  have hl := lv_entry ([.ref ap0, .ref ap1, .int xp2, .int xp3, .int xp4]) (n := 5) (Nat.le_of_ble_eq_true rfl)
  rw [lg_entry_eq]
  generalize (lg_sl ([.ref ap0, .ref ap1, .int xp2, .int xp3, .int xp4]) ++ List.replicate (5 - (lg_sl ([.ref ap0, .ref ap1, .int xp2, .int xp3, .int xp4])).length) Slot.unset).toArray = ls at hl ⊢
  have hl : lv_has ls 5 [(0, .ref ap0), (1, .ref ap1), (2, .int xp2), (3, .int xp3), (4, .int xp4)] := hl
  show WX2_oddWith p l e s m below meth c D T ap0 ap1 xp2 xp3 xp4 s.heap [] (F0 m 0 ls [])
  refine lv_aload_n hx hb dX2_oddWith_0 rfl (lv_at hl 1 rfl) ?_
  refine lv_iload hx hb dX2_oddWith_1 (lv_at hl 4 rfl) ?_
  refine hp_put hx hb hts IX8 tyX8 tyX8_ok nmX8 hown hK hw hp1 rfl 5 (by decide) L41 rfl rfl ⟨_, rfl⟩ rfl rfl dX2_oddWith_3 (fun H3 locs3 hw f3n g3 => ?_)
  refine lv_aload_n hx hb dX2_oddWith_6 rfl (lv_at hl 0 rfl) ?_
  refine lv_aload_n hx hb dX2_oddWith_7 rfl (lv_at hl 1 rfl) ?_
  refine lv_iload_n hx hb dX2_oddWith_8 rfl (lv_at hl 2 rfl) ?_
  refine lv_iload_n hx hb dX2_oddWith_9 rfl (lv_at hl 3 rfl) ?_
  refine hp_callei (va_runV (As := [.ref ap1, .int xp2, .int xp3]) (rest := []) ⟨hx, hb, hml, hown, hts⟩ (sX5_dayOf l D T ap0 ap1 xp2 xp3 Ru hRu ip0 ip1) (cwV 3 hts gX2_oddWith_X5_dayOf rfl rfl rfl (by decide +kernel) ⟨Nat.le_of_ble_eq_true rfl, Nat.le_of_ble_eq_true rfl⟩) (hp_preV hG hw hp0 rfl trivial) rfl rfl hl.1 rfl (lv_room (Nat.le_of_ble_eq_true rfl)) dX2_oddWith_10 ⟨Nat.zero_le _, Nat.zero_le _⟩) hw (fun x10 st10 t10 H10 locs10 eh10 eg10 bx10 hw => ?_)
  refine lv_iconst (v := 1) hx hb dX2_oddWith_13 (by decide) ?_
  refine lv_iand hx hb dX2_oddWith_14 ?_
  refine lv_topi (fun x14 ex14 => ?_)
  have bx14 : iv x14 0 1 := iv_and_r (show iv 1 0 1 from ⟨by decide, by decide⟩) ex14
  exact W.iret (v := x14) hx hb hr (fun t ht hW => ⟨some (.int x14), rfl, ⟨x14, rfl, bx14⟩, by rw [ht]; exact hw.1, hw.2.F ht⟩) hw.2.2.2 dX2_oddWith_15
abbrev WX2_learnTwo (p : Program) (l : Launch) (e : Env) (s : State) (m : MethodId) (below : List Frame) (meth : Method) (c : Code) (D : hp_D) (T : hp_T) (ap0 : Nat) (ap1 : Nat) (ap2 : Nat) (xp3 : Int32) (xp4 : Int32) (H : Heap) (locs : List Loc) (g : JFrame) : Prop := W p l e (headSpec wsX2_learnTwo ({ frames := 6, cells := 0, slots := 0, locals := 148 })).room s m ([.ref ap0, .ref ap1, .ref ap2, .int xp3, .int xp4] : List Value).toArray below meth c H locs 0 0 (MQ below (hq_e D T (fun v _ _ => v = none ∧ True)) ([.ref ap0, .ref ap1, .ref ap2, .int xp3, .int xp4] : List Value).toArray s 0 0 (hp_F T)) g
set_option maxHeartbeats 4000000 in
set_option maxRecDepth 100000 in
theorem sX2_learnTwo (l : Launch) (D : hp_D) (T : hp_T) (ap0 : Nat) (ap1 : Nat) (ap2 : Nat) (xp3 : Int32) (xp4 : Int32) (Ru : Nat → Prop) (hRu : ∀ b, Ru b → isRule T b) (ip0 : isParity T ap0) (ip1 : isShaker T Ru ap1) (ip2 : isTown T ap2) (bp3 : iv xp3 0 9) : Met l yX2_learnTwo wsX2_learnTwo ({ frames := 6, cells := 0, slots := 0, locals := 148 }) (hp_Pc D T [.ref ap0, .ref ap1, .ref ap2, .int xp3, .int xp4] (fun _ => True)) (hq_e D T (fun v _ _ => v = none ∧ True)) 0 0 (hp_F T) := by
  obtain ⟨ap0bo, hp0, hp0bo⟩ := id ip0
  obtain ⟨ap1wd, ap1sk, ap1th, hp1, hp1wd, hp1sk, hp1th⟩ := id ip1
  obtain ⟨ap2kin, ap2pl, ap2cr, hp2, hp2kin, hp2pl, hp2cr⟩ := id ip2
  refine Met.ofW (cc := cX2_learnTwo) (maxL := 9) (ret := none) (by decide) rfl ?_
  intro p e s m args below meth c s₁ B hml hv
  obtain ⟨rfl, hok, hG, hB⟩ := hv
  have hx := B.exec
  have hb := B.bytes
  have hr := B.returns
  have hts := atoms_spec (ws := wsX2_learnTwo) B.pre
  have hown : s.vm.findClass RX2 = some m.cls := findClass_of_methodNamed B.named
  have hlocks := B.notSynchronized
  have hK := hG.1
  have hw : hp_w D T s s.heap [] := hp_w.rf hok
  have IX2 : ∀ w ∈ wsX20, w ∈ wsX2_learnTwo := by decide +kernel
  have L9 := hts (.fieldLink RX2 9 "PalmCensus$Parity" "bare" "I") (by decide +kernel)
  have L15 := hts (.fieldLink RX2 15 "PalmCensus$Parity" "alone" "I") (by decide +kernel)
  have L18 := hts (.fieldLink RX2 18 "PalmCensus$Parity" "both" "[I") (by decide +kernel)
  have hl := lv_entry ([.ref ap0, .ref ap1, .ref ap2, .int xp3, .int xp4]) (n := 9) (Nat.le_of_ble_eq_true rfl)
  rw [lg_entry_eq]
  generalize (lg_sl ([.ref ap0, .ref ap1, .ref ap2, .int xp3, .int xp4]) ++ List.replicate (9 - (lg_sl ([.ref ap0, .ref ap1, .ref ap2, .int xp3, .int xp4])).length) Slot.unset).toArray = ls at hl ⊢
  have hl : lv_has ls 9 [(0, .ref ap0), (1, .ref ap1), (2, .ref ap2), (3, .int xp3), (4, .int xp4)] := hl
  show WX2_learnTwo p l e s m below meth c D T ap0 ap1 ap2 xp3 xp4 s.heap [] (F0 m 0 ls [])
  refine lv_aload_n hx hb dX2_learnTwo_0 rfl (lv_at hl 1 rfl) ?_
  refine lv_aload_n hx hb dX2_learnTwo_1 rfl (lv_at hl 2 rfl) ?_
  refine lv_iload_n hx hb dX2_learnTwo_2 rfl (lv_at hl 3 rfl) ?_
  refine lv_iload hx hb dX2_learnTwo_3 (lv_at hl 4 rfl) ?_
  refine lv_iconst (v := 0) hx hb dX2_learnTwo_5 (by decide) ?_
  refine hp_callei (va_runS (As := [.ref ap1, .ref ap2, .int xp3, .int xp4, .int 0]) (rest := []) ⟨hx, hb, hml, hown, hts⟩ (sX2_oddWith l D T ap1 ap2 xp3 xp4 (0 : Int32) Ru hRu ip1 ip2) (va_cwS 5 hts gX2_learnTwo_X2_oddWith rfl rfl rfl (by decide +kernel) ⟨Nat.le_of_ble_eq_true rfl, Nat.le_of_ble_eq_true rfl⟩) (hp_preS hG hw trivial) rfl rfl hl.1 rfl (lv_room (Nat.le_of_ble_eq_true rfl)) dX2_learnTwo_6 ⟨Nat.zero_le _, Nat.zero_le _⟩) hw (fun x6 st6 t6 H6 locs6 eh6 eg6 bx6 hw => ?_)
  refine lv_istore (lv' := [(5, .int x6), (0, .ref ap0), (1, .ref ap1), (2, .ref ap2), (3, .int xp3), (4, .int xp4)]) hx hb dX2_learnTwo_9 hl (by decide) rfl (fun ls hl => ?_)
  refine lv_iload hx hb dX2_learnTwo_11 (lv_at hl 0 rfl) ?_
  refine lv_aload_n hx hb dX2_learnTwo_13 rfl (lv_at hl 2 rfl) ?_
  refine lv_aload_n hx hb dX2_learnTwo_14 rfl (lv_at hl 3 rfl) ?_
  refine lv_iload_n hx hb dX2_learnTwo_15 rfl (lv_at hl 4 rfl) ?_
  refine lv_iload hx hb dX2_learnTwo_16 (lv_at hl 5 rfl) ?_
  refine lv_iconst (v := 1) hx hb dX2_learnTwo_18 (by decide) ?_
  refine lv_iload_n hx hb dX2_learnTwo_19 rfl (lv_at hl 4 rfl) ?_
  refine lv_ishl hx hb dX2_learnTwo_20 ?_
  refine lv_topi (fun x20 ex20 => ?_)
  have bx20 : iv x20 1 512 := iv_shl 9 (show iv 1 1 1 from ⟨by decide, by decide⟩) bp3 ex20 (by decide)
  refine hp_callei (va_runS (As := [.ref ap1, .ref ap2, .int xp3, .int xp4, .int x20]) (rest := [.int x6]) ⟨hx, hb, hml, hown, hts⟩ (sX2_oddWith l D T ap1 ap2 xp3 xp4 x20 Ru hRu ip1 ip2) (va_cwS 5 hts gX2_learnTwo_X2_oddWith rfl rfl rfl (by decide +kernel) ⟨Nat.le_of_ble_eq_true rfl, Nat.le_of_ble_eq_true rfl⟩) (hp_preS hG hw trivial) rfl rfl hl.1 rfl (lv_room (Nat.le_of_ble_eq_true rfl)) dX2_learnTwo_21 ⟨Nat.zero_le _, Nat.zero_le _⟩) hw (fun x21 st21 t21 H21 locs21 eh21 eg21 bx21 hw => ?_)
  refine lv_ixor hx hb dX2_learnTwo_24 ?_
  refine lv_topi (fun x24 ex24 => ?_)
  have bx24 : iv x24 0 1 := iv_xor 1 bx6 bx21 ex24 (by decide) (by decide)
  refine lv_istore (lv' := [(6, .int x24), (5, .int x6), (0, .ref ap0), (1, .ref ap1), (2, .ref ap2), (3, .int xp3), (4, .int xp4)]) hx hb dX2_learnTwo_25 hl (by decide) rfl (fun ls hl => ?_)
  refine lv_iload hx hb dX2_learnTwo_27 (lv_at hl 1 rfl) ?_
  refine lv_aload_n hx hb dX2_learnTwo_29 rfl (lv_at hl 3 rfl) ?_
  refine lv_aload_n hx hb dX2_learnTwo_30 rfl (lv_at hl 4 rfl) ?_
  refine lv_iload_n hx hb dX2_learnTwo_31 rfl (lv_at hl 5 rfl) ?_
  refine lv_iload hx hb dX2_learnTwo_32 (lv_at hl 6 rfl) ?_
  refine lv_iconst (v := 1) hx hb dX2_learnTwo_34 (by decide) ?_
  refine lv_iload hx hb dX2_learnTwo_35 (lv_at hl 6 rfl) ?_
  refine lv_ishl hx hb dX2_learnTwo_37 ?_
  refine lv_topi (fun x37 ex37 => ?_)
  refine hp_callei (va_runS (As := [.ref ap1, .ref ap2, .int xp3, .int xp4, .int x37]) (rest := [.int x6]) ⟨hx, hb, hml, hown, hts⟩ (sX2_oddWith l D T ap1 ap2 xp3 xp4 x37 Ru hRu ip1 ip2) (va_cwS 5 hts gX2_learnTwo_X2_oddWith rfl rfl rfl (by decide +kernel) ⟨Nat.le_of_ble_eq_true rfl, Nat.le_of_ble_eq_true rfl⟩) (hp_preS hG hw trivial) rfl rfl hl.1 rfl (lv_room (Nat.le_of_ble_eq_true rfl)) dX2_learnTwo_38 ⟨Nat.zero_le _, Nat.zero_le _⟩) hw (fun x38 st38 t38 H38 locs38 eh38 eg38 bx38 hw => ?_)
  refine lv_ixor hx hb dX2_learnTwo_41 ?_
  refine lv_topi (fun x41 ex41 => ?_)
  have bx41 : iv x41 0 1 := iv_xor 1 bx6 bx38 ex41 (by decide) (by decide)
  refine lv_istore (lv' := [(7, .int x41), (6, .int x24), (5, .int x6), (0, .ref ap0), (1, .ref ap1), (2, .ref ap2), (3, .int xp3), (4, .int xp4)]) hx hb dX2_learnTwo_42 hl (by decide) rfl (fun ls hl => ?_)
  refine lv_aload_n hx hb dX2_learnTwo_44 rfl (lv_at hl 4 rfl) ?_
  refine lv_aload_n hx hb dX2_learnTwo_45 rfl (lv_at hl 5 rfl) ?_
  refine lv_iload_n hx hb dX2_learnTwo_46 rfl (lv_at hl 6 rfl) ?_
  refine lv_iload hx hb dX2_learnTwo_47 (lv_at hl 7 rfl) ?_
  refine lv_iconst (v := 1) hx hb dX2_learnTwo_49 (by decide) ?_
  refine lv_iload_n hx hb dX2_learnTwo_50 rfl (lv_at hl 6 rfl) ?_
  refine lv_ishl hx hb dX2_learnTwo_51 ?_
  refine lv_topi (fun x51 ex51 => ?_)
  have bx51 : iv x51 1 512 := iv_shl 9 (show iv 1 1 1 from ⟨by decide, by decide⟩) bp3 ex51 (by decide)
  refine lv_iconst (v := 1) hx hb dX2_learnTwo_52 (by decide) ?_
  refine lv_iload hx hb dX2_learnTwo_53 (lv_at hl 7 rfl) ?_
  refine lv_ishl hx hb dX2_learnTwo_55 ?_
  refine lv_topi (fun x55 ex55 => ?_)
  refine lv_ior hx hb dX2_learnTwo_56 ?_
  refine lv_topi (fun x56 ex56 => ?_)
  refine hp_callei (va_runS (As := [.ref ap1, .ref ap2, .int xp3, .int xp4, .int x56]) (rest := []) ⟨hx, hb, hml, hown, hts⟩ (sX2_oddWith l D T ap1 ap2 xp3 xp4 x56 Ru hRu ip1 ip2) (va_cwS 5 hts gX2_learnTwo_X2_oddWith rfl rfl rfl (by decide +kernel) ⟨Nat.le_of_ble_eq_true rfl, Nat.le_of_ble_eq_true rfl⟩) (hp_preS hG hw trivial) rfl rfl hl.1 rfl (lv_room (Nat.le_of_ble_eq_true rfl)) dX2_learnTwo_57 ⟨Nat.zero_le _, Nat.zero_le _⟩) hw (fun x57 st57 t57 H57 locs57 eh57 eg57 bx57 hw => ?_)
  refine lv_istore (lv' := [(8, .int x57), (7, .int x41), (6, .int x24), (5, .int x6), (0, .ref ap0), (1, .ref ap1), (2, .ref ap2), (3, .int xp3), (4, .int xp4)]) hx hb dX2_learnTwo_60 hl (by decide) rfl (fun ls hl => ?_)
  refine lv_aload_n hx hb dX2_learnTwo_62 rfl (lv_at hl 4 rfl) ?_
  refine lv_dup hx hb dX2_learnTwo_63 rfl ?_
  refine hp_getA hx hb hts IX2 hown hK hw.1 hp0 rfl 0 (by decide) L9 rfl dX2_learnTwo_64 (fun x64 fx64 => ?_)
  refine lv_iload hx hb dX2_learnTwo_67 (lv_at hl 3 rfl) ?_
  refine lv_ixor hx hb dX2_learnTwo_69 ?_
  refine lv_topi (fun x69 ex69 => ?_)
  refine hp_put hx hb hts IX2 tyX2 tyX2_ok nmX2 hown hK hw hp0 rfl 0 (by decide) L9 rfl rfl ⟨_, rfl⟩ rfl rfl dX2_learnTwo_70 (fun H70 locs70 hw f70n g70 => ?_)
  refine lv_aload_n hx hb dX2_learnTwo_73 rfl (lv_at hl 4 rfl) ?_
  refine lv_dup hx hb dX2_learnTwo_74 rfl ?_
  refine hp_getA hx hb hts IX2 hown hK hw.1 hp0 rfl 1 (by decide) L15 rfl dX2_learnTwo_75 (fun x75 fx75 => ?_)
  refine lv_iload hx hb dX2_learnTwo_78 (lv_at hl 2 rfl) ?_
  refine lv_iload_n hx hb dX2_learnTwo_80 rfl (lv_at hl 7 rfl) ?_
  refine lv_ishl hx hb dX2_learnTwo_81 ?_
  refine lv_topi (fun x81 ex81 => ?_)
  have bx81 : iv x81 0 512 := iv_shl 9 bx24 bp3 ex81 (by decide)
  refine lv_iload hx hb dX2_learnTwo_82 (lv_at hl 1 rfl) ?_
  refine lv_iload hx hb dX2_learnTwo_84 (lv_at hl 8 rfl) ?_
  refine lv_ishl hx hb dX2_learnTwo_86 ?_
  refine lv_topi (fun x86 ex86 => ?_)
  refine lv_ixor hx hb dX2_learnTwo_87 ?_
  refine lv_topi (fun x87 ex87 => ?_)
  refine lv_ixor hx hb dX2_learnTwo_88 ?_
  refine lv_topi (fun x88 ex88 => ?_)
  refine hp_put hx hb hts IX2 tyX2 tyX2_ok nmX2 hown hK hw hp0 rfl 1 (by decide) L15 rfl rfl ⟨_, rfl⟩ rfl rfl dX2_learnTwo_89 (fun H89 locs89 hw f89n g89 => ?_)
  refine lv_aload_n hx hb dX2_learnTwo_92 rfl (lv_at hl 4 rfl) ?_
  refine hp_getr hx hb hts IX2 hown hK hw.1 hp0 rfl 2 (by decide) L18 rfl dX2_learnTwo_93 ?_
  refine lv_iload_n hx hb dX2_learnTwo_96 rfl (lv_at hl 7 rfl) ?_
  refine lv_dup2_11 hx hb dX2_learnTwo_97 rfl rfl ?_
  refine hp_ialdA hx hb hK hw.1 hp0bo (vp_iv bp3 (by decide)) dX2_learnTwo_98 (fun x98 => ?_)
  refine lv_iload hx hb dX2_learnTwo_99 (lv_at hl 0 rfl) ?_
  refine lv_iload hx hb dX2_learnTwo_101 (lv_at hl 3 rfl) ?_
  refine lv_ixor hx hb dX2_learnTwo_103 ?_
  refine lv_topi (fun x103 ex103 => ?_)
  have bx103 : iv x103 0 1 := iv_xor 1 bx57 bx6 ex103 (by decide) (by decide)
  refine lv_iload hx hb dX2_learnTwo_104 (lv_at hl 2 rfl) ?_
  refine lv_ixor hx hb dX2_learnTwo_106 ?_
  refine lv_topi (fun x106 ex106 => ?_)
  have bx106 : iv x106 0 1 := iv_xor 1 bx103 bx24 ex106 (by decide) (by decide)
  refine lv_iload hx hb dX2_learnTwo_107 (lv_at hl 1 rfl) ?_
  refine lv_ixor hx hb dX2_learnTwo_109 ?_
  refine lv_topi (fun x109 ex109 => ?_)
  have bx109 : iv x109 0 1 := iv_xor 1 bx106 bx41 ex109 (by decide) (by decide)
  refine lv_iload hx hb dX2_learnTwo_110 (lv_at hl 8 rfl) ?_
  refine lv_ishl hx hb dX2_learnTwo_112 ?_
  refine lv_topi (fun x112 ex112 => ?_)
  refine lv_ior hx hb dX2_learnTwo_113 ?_
  refine lv_topi (fun x113 ex113 => ?_)
  refine hp_iast hx hb hK hw hp0bo (vp_iv bp3 (by decide)) ⟨_, rfl⟩ dX2_learnTwo_114 (fun H114 locs114 hw g114 => ?_)
  exact W.vret hx hb hr (fun t ht hW => ⟨none, rfl, ⟨rfl, trivial⟩, by rw [ht]; exact hw.1, hw.2.F ht⟩) hw.2.2.2 dX2_learnTwo_115
abbrev WX2_learn (p : Program) (l : Launch) (e : Env) (s : State) (m : MethodId) (below : List Frame) (meth : Method) (c : Code) (D : hp_D) (T : hp_T) (ap0 : Nat) (ap1 : Nat) (ap2 : Nat) (H : Heap) (locs : List Loc) (g : JFrame) : Prop := W p l e (headSpec wsX2_learn ({ frames := 7, cells := 0, slots := 0, locals := 176 })).room s m ([.ref ap0, .ref ap1, .ref ap2] : List Value).toArray below meth c H locs 0 0 (MQ below (hq_e D T (fun v _ _ => v = none ∧ True)) ([.ref ap0, .ref ap1, .ref ap2] : List Value).toArray s 0 0 (hp_F T)) g
set_option maxHeartbeats 4000000 in
set_option maxRecDepth 100000 in
theorem sX2_learn (l : Launch) (D : hp_D) (T : hp_T) (ap0 : Nat) (ap1 : Nat) (ap2 : Nat) (Ru : Nat → Prop) (hRu : ∀ b, Ru b → isRule T b) (ip0 : isParity T ap0) (ip1 : isShaker T Ru ap1) (ip2 : isTown T ap2) : Met l yX2_learn wsX2_learn ({ frames := 7, cells := 0, slots := 0, locals := 176 }) (hp_Pc D T [.ref ap0, .ref ap1, .ref ap2] (fun _ => True)) (hq_e D T (fun v _ _ => v = none ∧ True)) 0 0 (hp_F T) := by
  obtain ⟨ap0bo, hp0, hp0bo⟩ := id ip0
  obtain ⟨ap1wd, ap1sk, ap1th, hp1, hp1wd, hp1sk, hp1th⟩ := id ip1
  obtain ⟨ap2kin, ap2pl, ap2cr, hp2, hp2kin, hp2pl, hp2cr⟩ := id ip2
  refine Met.ofW (cc := cX2_learn) (maxL := 5) (ret := none) (by decide) rfl ?_
  intro p e s m args below meth c s₁ B hml hv
  obtain ⟨rfl, hok, hG, hB⟩ := hv
  have hx := B.exec
  have hb := B.bytes
  have hr := B.returns
  have hts := atoms_spec (ws := wsX2_learn) B.pre
  have hown : s.vm.findClass RX2 = some m.cls := findClass_of_methodNamed B.named
  have hlocks := B.notSynchronized
  have hK := hG.1
  have hw : hp_w D T s s.heap [] := hp_w.rf hok
  have IX2 : ∀ w ∈ wsX20, w ∈ wsX2_learn := by decide +kernel
  have IX8 : ∀ w ∈ wsX80, w ∈ wsX2_learn := by decide +kernel
  have L9 := hts (.fieldLink RX2 9 "PalmCensus$Parity" "bare" "I") (by decide +kernel)
  have L15 := hts (.fieldLink RX2 15 "PalmCensus$Parity" "alone" "I") (by decide +kernel)
  have L18 := hts (.fieldLink RX2 18 "PalmCensus$Parity" "both" "[I") (by decide +kernel)
  have L28 := hts (.fieldLink RX2 28 "PalmCensus$Town" "people" "I") (by decide +kernel)
  have hl := lv_entry ([.ref ap0, .ref ap1, .ref ap2]) (n := 5) (Nat.le_of_ble_eq_true rfl)
  rw [lg_entry_eq]
  generalize (lg_sl ([.ref ap0, .ref ap1, .ref ap2]) ++ List.replicate (5 - (lg_sl ([.ref ap0, .ref ap1, .ref ap2])).length) Slot.unset).toArray = ls at hl ⊢
  have hl : lv_has ls 5 [(0, .ref ap0), (1, .ref ap1), (2, .ref ap2)] := hl
  show WX2_learn p l e s m below meth c D T ap0 ap1 ap2 s.heap [] (F0 m 0 ls [])
  refine lv_aload_n hx hb dX2_learn_0 rfl (lv_at hl 0 rfl) ?_
  refine lv_iconst (v := 0) hx hb dX2_learn_1 (by decide) ?_
  refine hp_put hx hb hts IX2 tyX2 tyX2_ok nmX2 hown hK hw hp0 rfl 0 (by decide) L9 rfl rfl ⟨_, rfl⟩ rfl rfl dX2_learn_2 (fun H2 locs2 hw f2n g2 => ?_)
  refine lv_aload_n hx hb dX2_learn_5 rfl (lv_at hl 0 rfl) ?_
  refine lv_iconst (v := 0) hx hb dX2_learn_6 (by decide) ?_
  refine hp_put hx hb hts IX2 tyX2 tyX2_ok nmX2 hown hK hw hp0 rfl 1 (by decide) L15 rfl rfl ⟨_, rfl⟩ rfl rfl dX2_learn_7 (fun H7 locs7 hw f7n g7 => ?_)
  refine lv_aload_n hx hb dX2_learn_10 rfl (lv_at hl 0 rfl) ?_
  refine hp_getr hx hb hts IX2 hown hK hw.1 hp0 rfl 2 (by decide) L18 rfl dX2_learn_11 ?_
  refine lv_iconst (v := 0) hx hb dX2_learn_14 (by decide) ?_
  refine hp_callev (va_runS (As := [.ref ap0bo, .int 0]) (rest := []) ⟨hx, hb, hml, hown, hts⟩ (sJ7_fill l D T ap0bo (0 : Int32) 10 rA hp0bo (by decide) ⟨_, rfl⟩) (va_cwS 2 hts gX2_learn_J7_fill_53178 rfl rfl rfl (by decide +kernel) ⟨Nat.le_of_ble_eq_true rfl, Nat.le_of_ble_eq_true rfl⟩) (hp_preS hG hw trivial) rfl rfl hl.1 rfl (lv_room (Nat.le_of_ble_eq_true rfl)) dX2_learn_15 ⟨Nat.zero_le _, Nat.zero_le _⟩) hw (fun st15 t15 H15 locs15 eh15 eg15 b15 hw => ?_)
  obtain ⟨-, g15⟩ := b15
  rw [eh15, eg15] at g15
  refine lv_iconst (v := 0) hx hb dX2_learn_18 (by decide) ?_
  refine lv_istore_n (lv' := [(3, .int 0), (0, .ref ap0), (1, .ref ap1), (2, .ref ap2)]) hx hb dX2_learn_19 rfl hl (by decide) rfl (fun ls hl => ?_)
  have J20 : ∀ (n : Nat) (y20_l3 : Int32), (10 - y20_l3.toInt).toNat < n → iv y20_l3 0 10 → ∀ (H : Heap) (locs : List Loc), hp_w D T s H locs → ∀ (ls : Array Slot), lv_has ls 5 [(0, .ref ap0), (1, .ref ap1), (2, .ref ap2), (3, .int y20_l3)] → WX2_learn p l e s m below meth c D T ap0 ap1 ap2 H locs (F0 m 20 ls []) := by
    intro n
    induction n with
    | zero => intro y20_l3 hmu20 c20_y20_l3 H20 locs20 hw ls hl; exact absurd hmu20 (Nat.not_lt_zero _)
    | succ n ih20 =>
      intro y20_l3 hmu20 c20_y20_l3 H20 locs20 hw ls hl
      refine lv_iload_n hx hb dX2_learn_20 rfl (lv_at hl 3 rfl) ?_
      refine lv_aload_n hx hb dX2_learn_21 rfl (lv_at hl 2 rfl) ?_
      refine hp_geti hx hb hts IX8 hown hK hw.1 hp2 rfl 2 (by decide) L28 rfl dX2_learn_22 (fun x22 bx22 fx22 => ?_)
      refine lv_icmp_ge (tgt := 63) hx hb dX2_learn_25 (by decide) (fun c25 => ?_) (fun c25 => ?_)
      · exact W.vret hx hb hr (fun t ht hW => ⟨none, rfl, ⟨rfl, trivial⟩, by rw [ht]; exact hw.1, hw.2.F ht⟩) hw.2.2.2 dX2_learn_63
      · have r25fp : iv y20_l3 0 9 := (iv_lt_l (iv_nle c25) c20_y20_l3 bx22).mono (by decide) (by decide)
        have r25fq : iv x22 1 10 := (iv_lt_r (iv_nle c25) c20_y20_l3 bx22).mono (by decide) (by decide)
        refine lv_iload_n hx hb dX2_learn_28 rfl (lv_at hl 3 rfl) ?_
        refine lv_iconst (v := 1) hx hb dX2_learn_29 (by decide) ?_
        refine lv_iadd hx hb dX2_learn_30 ?_
        refine lv_topi (fun x30 ex30 => ?_)
        have bx30 : iv x30 1 10 := iv_add r25fp (show iv 1 1 1 from ⟨by decide, by decide⟩) ex30 (by decide)
        have qx30 := iv_add_eq r25fp (show iv 1 1 1 from ⟨by decide, by decide⟩) ex30 (by decide)
        refine lv_istore (lv' := [(4, .int x30), (0, .ref ap0), (1, .ref ap1), (2, .ref ap2), (3, .int y20_l3)]) hx hb dX2_learn_31 hl (by decide) rfl (fun ls hl => ?_)
        have J33 : ∀ (n : Nat) (y33_l4 : Int32), (10 - y33_l4.toInt).toNat < n → iv y20_l3 0 9 → iv y33_l4 1 10 → ∀ (H : Heap) (locs : List Loc), hp_w D T s H locs → ∀ (ls : Array Slot), lv_has ls 5 [(0, .ref ap0), (1, .ref ap1), (2, .ref ap2), (3, .int y20_l3), (4, .int y33_l4)] → WX2_learn p l e s m below meth c D T ap0 ap1 ap2 H locs (F0 m 33 ls []) := by
          intro n
          induction n with
          | zero => intro y33_l4 hmu33 c33_y20_l3 c33_y33_l4 H33 locs33 hw ls hl; exact absurd hmu33 (Nat.not_lt_zero _)
          | succ n ih33 =>
            intro y33_l4 hmu33 c33_y20_l3 c33_y33_l4 H33 locs33 hw ls hl
            refine lv_iload hx hb dX2_learn_33 (lv_at hl 4 rfl) ?_
            refine lv_aload_n hx hb dX2_learn_35 rfl (lv_at hl 2 rfl) ?_
            refine hp_geti hx hb hts IX8 hown hK hw.1 hp2 rfl 2 (by decide) L28 rfl dX2_learn_36 (fun x36 bx36 fx36 => ?_)
            refine lv_icmp_ge (tgt := 57) hx hb dX2_learn_39 (by decide) (fun c39 => ?_) (fun c39 => ?_)
            · obtain ⟨x57, ex57⟩ : ∃ y : Int32, y = y20_l3 + 1 := ⟨_, rfl⟩
              have bx57 : iv x57 1 10 := iv_add c33_y20_l3 (show iv 1 1 1 from ⟨by decide, by decide⟩) ex57 (by decide)
              have qx57 := iv_add_eq c33_y20_l3 (show iv 1 1 1 from ⟨by decide, by decide⟩) ex57 (by decide)
              refine lv_iinc (v := x57) (lv' := [(3, .int x57), (0, .ref ap0), (1, .ref ap1), (2, .ref ap2), (4, .int y33_l4)]) hx hb dX2_learn_57 hl (k := 3) rfl (by rw [ex57]; rfl) (by decide) rfl (fun ls hl => ?_)
              refine lv_goto (tgt := 20) hx hb dX2_learn_60 (by decide) ?_
              exact ih20 x57 (mu_up 1 hmu20 (qx57) (by decide) (show iv x57 0 10 from (bx57.mono (by decide) (by decide))).2) (bx57.mono (by decide) (by decide)) H33 locs33 hw _ (lv_sub hl [1, 2, 3, 0] rfl)
            · have r39fp : iv y33_l4 1 9 := (iv_lt_l (iv_nle c39) c33_y33_l4 bx36).mono (by decide) (by decide)
              have r39fq : iv x36 2 10 := (iv_lt_r (iv_nle c39) c33_y33_l4 bx36).mono (by decide) (by decide)
              refine lv_aload_n hx hb dX2_learn_42 rfl (lv_at hl 0 rfl) ?_
              refine lv_aload_n hx hb dX2_learn_43 rfl (lv_at hl 1 rfl) ?_
              refine lv_aload_n hx hb dX2_learn_44 rfl (lv_at hl 2 rfl) ?_
              refine lv_iload_n hx hb dX2_learn_45 rfl (lv_at hl 3 rfl) ?_
              refine lv_iload hx hb dX2_learn_46 (lv_at hl 4 rfl) ?_
              refine hp_callev (va_runV (As := [.ref ap1, .ref ap2, .int y20_l3, .int y33_l4]) (rest := []) ⟨hx, hb, hml, hown, hts⟩ (sX2_learnTwo l D T ap0 ap1 ap2 y20_l3 y33_l4 Ru hRu ip0 ip1 ip2 c33_y20_l3) (cwV 4 hts gX2_learn_X2_learnTwo rfl rfl rfl (by decide +kernel) ⟨Nat.le_of_ble_eq_true rfl, Nat.le_of_ble_eq_true rfl⟩) (hp_preV hG hw hp0 rfl trivial) rfl rfl hl.1 rfl (lv_room (Nat.le_of_ble_eq_true rfl)) dX2_learn_48 ⟨Nat.zero_le _, Nat.zero_le _⟩) hw (fun st48 t48 H48 locs48 eh48 eg48 bx48 hw => ?_)
              obtain ⟨x51, ex51⟩ : ∃ y : Int32, y = y33_l4 + 1 := ⟨_, rfl⟩
              have bx51 : iv x51 2 10 := iv_add r39fp (show iv 1 1 1 from ⟨by decide, by decide⟩) ex51 (by decide)
              have qx51 := iv_add_eq r39fp (show iv 1 1 1 from ⟨by decide, by decide⟩) ex51 (by decide)
              refine lv_iinc (v := x51) (lv' := [(4, .int x51), (0, .ref ap0), (1, .ref ap1), (2, .ref ap2), (3, .int y20_l3)]) hx hb dX2_learn_51 hl (k := 4) rfl (by rw [ex51]; rfl) (by decide) rfl (fun ls hl => ?_)
              refine lv_goto (tgt := 33) hx hb dX2_learn_54 (by decide) ?_
              exact ih33 x51 (mu_up 1 hmu33 (qx51) (by decide) (show iv x51 1 10 from (bx51.mono (by decide) (by decide))).2) c33_y20_l3 (bx51.mono (by decide) (by decide)) H48 locs48 hw _ (lv_sub hl [1, 2, 3, 4, 0] rfl)
        exact J33 _ x30 (Nat.lt_succ_self _) r25fp bx30 H20 locs20 hw _ (lv_sub hl [1, 2, 3, 4, 0] rfl)
  exact J20 _ (0 : Int32) (Nat.lt_succ_self _) (show iv 0 0 10 from ⟨by decide, by decide⟩) H15 locs15 hw _ (lv_sub hl [1, 2, 3, 0] rfl)
abbrev WX2_isOdd (p : Program) (l : Launch) (e : Env) (s : State) (m : MethodId) (below : List Frame) (meth : Method) (c : Code) (D : hp_D) (T : hp_T) (ap0 : Nat) (xp1 : Int32) (H : Heap) (locs : List Loc) (g : JFrame) : Prop := W p l e (headSpec wsX2_isOdd ({ frames := 1, cells := 0, slots := 0, locals := 20 })).room s m ([.ref ap0, .int xp1] : List Value).toArray below meth c H locs 0 0 (MQ below (hq_p (fun v => ∃ r : Int32, v = some (.int r) ∧ iv r 0 1)) ([.ref ap0, .int xp1] : List Value).toArray s 0 0 (fun _ => False)) g
set_option maxHeartbeats 4000000 in
set_option maxRecDepth 100000 in
theorem sX2_isOdd (l : Launch) (D : hp_D) (T : hp_T) (ap0 : Nat) (xp1 : Int32) (ip0 : isParity T ap0) : Met l yX2_isOdd wsX2_isOdd ({ frames := 1, cells := 0, slots := 0, locals := 20 }) (hp_Pc D T [.ref ap0, .int xp1] (fun _ => True)) (hq_p (fun v => ∃ r : Int32, v = some (.int r) ∧ iv r 0 1)) 0 0 (fun _ => False) := by
  obtain ⟨ap0bo, hp0, hp0bo⟩ := id ip0
  refine Met.ofW (cc := cX2_isOdd) (maxL := 4) (ret := (some .boolean)) (by decide) rfl ?_
  intro p e s m args below meth c s₁ B hml hv
  obtain ⟨rfl, hok, hG, hB⟩ := hv
  have hx := B.exec
  have hb := B.bytes
  have hr := B.returns
  have hts := atoms_spec (ws := wsX2_isOdd) B.pre
  have hown : s.vm.findClass RX2 = some m.cls := findClass_of_methodNamed B.named
  have hlocks := B.notSynchronized
  have hK := hG.1
  have hw : hp_w D T s s.heap [] := hp_w.rf hok
  have IX2 : ∀ w ∈ wsX20, w ∈ wsX2_isOdd := by decide +kernel
  have L9 := hts (.fieldLink RX2 9 "PalmCensus$Parity" "bare" "I") (by decide +kernel)
  have L15 := hts (.fieldLink RX2 15 "PalmCensus$Parity" "alone" "I") (by decide +kernel)
  have L18 := hts (.fieldLink RX2 18 "PalmCensus$Parity" "both" "[I") (by decide +kernel)
  have hl := lv_entry ([.ref ap0, .int xp1]) (n := 4) (Nat.le_of_ble_eq_true rfl)
  rw [lg_entry_eq]
  generalize (lg_sl ([.ref ap0, .int xp1]) ++ List.replicate (4 - (lg_sl ([.ref ap0, .int xp1])).length) Slot.unset).toArray = ls at hl ⊢
  have hl : lv_has ls 4 [(0, .ref ap0), (1, .int xp1)] := hl
  show WX2_isOdd p l e s m below meth c D T ap0 xp1 s.heap [] (F0 m 0 ls [])
  refine lv_aload_n hx hb dX2_isOdd_0 rfl (lv_at hl 0 rfl) ?_
  refine hp_getA hx hb hts IX2 hown hK hw.1 hp0 rfl 0 (by decide) L9 rfl dX2_isOdd_1 (fun x1 fx1 => ?_)
  refine lv_aload_n hx hb dX2_isOdd_4 rfl (lv_at hl 0 rfl) ?_
  refine hp_getA hx hb hts IX2 hown hK hw.1 hp0 rfl 1 (by decide) L15 rfl dX2_isOdd_5 (fun x5 fx5 => ?_)
  refine lv_iload_n hx hb dX2_isOdd_8 rfl (lv_at hl 1 rfl) ?_
  refine lv_iand hx hb dX2_isOdd_9 ?_
  refine lv_topi (fun x9 ex9 => ?_)
  refine hp_callpi (va_runS (As := [.int x9]) (rest := [.int x1]) ⟨hx, hb, hml, hown, hts⟩ (sJ6_bitCount_0f7a4 l D T x9) (va_cwS 1 hts gX2_isOdd_J6_bitCount_0f7a4 rfl rfl rfl (by decide +kernel) ⟨Nat.le_of_ble_eq_true rfl, Nat.le_of_ble_eq_true rfl⟩) (hp_preS hG hw trivial) rfl rfl hl.1 rfl (lv_room (Nat.le_of_ble_eq_true rfl)) dX2_isOdd_10 ⟨Nat.zero_le _, Nat.zero_le _⟩) (fun x10 bx10 => ?_)
  refine lv_iadd hx hb dX2_isOdd_13 ?_
  refine lv_topi (fun x13 ex13 => ?_)
  refine lv_istore_n (lv' := [(2, .int x13), (0, .ref ap0), (1, .int xp1)]) hx hb dX2_isOdd_14 rfl hl (by decide) rfl (fun ls hl => ?_)
  refine lv_iconst (v := 0) hx hb dX2_isOdd_15 (by decide) ?_
  refine lv_istore_n (lv' := [(3, .int 0), (2, .int x13), (0, .ref ap0), (1, .int xp1)]) hx hb dX2_isOdd_16 rfl hl (by decide) rfl (fun ls hl => ?_)
  have J17 : ∀ (n : Nat) (y17_l2 y17_l3 : Int32), (10 - y17_l3.toInt).toNat < n → iv y17_l3 0 10 → ∀ (ls : Array Slot), lv_has ls 4 [(0, .ref ap0), (1, .int xp1), (2, .int y17_l2), (3, .int y17_l3)] → WX2_isOdd p l e s m below meth c D T ap0 xp1 s.heap [] (F0 m 17 ls []) := by
    intro n
    induction n with
    | zero => intro y17_l2 y17_l3 hmu17 c17_y17_l3 ls hl; exact absurd hmu17 (Nat.not_lt_zero _)
    | succ n ih17 =>
      intro y17_l2 y17_l3 hmu17 c17_y17_l3 ls hl
      refine lv_iload_n hx hb dX2_isOdd_17 rfl (lv_at hl 3 rfl) ?_
      refine lv_bipush (v := 10) hx hb dX2_isOdd_18 (by decide) ?_
      refine lv_icmp_ge (tgt := 51) hx hb dX2_isOdd_20 (by decide) (fun c20 => ?_) (fun c20 => ?_)
      · have r20tq : iv y17_l3 10 10 := (iv_le_r c20 (show iv 10 10 10 from ⟨by decide, by decide⟩) c17_y17_l3).mono (by decide) (by decide)
        refine lv_iload_n hx hb dX2_isOdd_51 rfl (lv_at hl 2 rfl) ?_
        refine lv_iconst (v := 1) hx hb dX2_isOdd_52 (by decide) ?_
        refine lv_iand hx hb dX2_isOdd_53 ?_
        refine lv_topi (fun x53 ex53 => ?_)
        have bx53 : iv x53 0 1 := iv_and_r (show iv 1 0 1 from ⟨by decide, by decide⟩) ex53
        have J62 : ∀ (y62_s0 : Int32), iv y62_s0 0 1 → ∀ (ls : Array Slot), lv_has ls 4 [] → WX2_isOdd p l e s m below meth c D T ap0 xp1 s.heap [] (F0 m 62 ls [.int y62_s0]) := by
          intro y62_s0 c62_y62_s0 ls hl
          exact W.zret (v := y62_s0) hx hb hr (iv_nz c62_y62_s0) (fun t ht hW => ⟨some (.int y62_s0), rfl, ⟨y62_s0, rfl, c62_y62_s0⟩, ht⟩) (fun q h => by cases h) dX2_isOdd_62
        refine lv_if_eq (tgt := 61) hx hb dX2_isOdd_54 (by decide) (fun c54 => ?_) (fun c54 => ?_)
        · have r54tp : iv x53 0 0 := (iv_both bx53 (iv_eq (show iv 0 0 0 from ⟨by decide, by decide⟩) c54)).mono (by decide) (by decide)
          refine lv_iconst (v := 0) hx hb dX2_isOdd_61 (by decide) ?_
          exact J62 (0 : Int32) (show iv 0 0 1 from ⟨by decide, by decide⟩) _ (lv_sub hl [] rfl)
        · have r54fp : iv x53 1 1 := (iv_ne_lo c54 bx53 rfl).mono (by decide) (by decide)
          refine lv_iconst (v := 1) hx hb dX2_isOdd_57 (by decide) ?_
          refine lv_goto (tgt := 62) hx hb dX2_isOdd_58 (by decide) ?_
          exact J62 (1 : Int32) (show iv 1 0 1 from ⟨by decide, by decide⟩) _ (lv_sub hl [] rfl)
      · have r20fp : iv y17_l3 0 9 := (iv_lt_l (iv_nle c20) c17_y17_l3 (show iv 10 10 10 from ⟨by decide, by decide⟩)).mono (by decide) (by decide)
        refine lv_iload_n hx hb dX2_isOdd_23 rfl (lv_at hl 1 rfl) ?_
        refine lv_iload_n hx hb dX2_isOdd_24 rfl (lv_at hl 3 rfl) ?_
        refine lv_ishr hx hb dX2_isOdd_25 ?_
        refine lv_topi (fun x25 ex25 => ?_)
        refine lv_iconst (v := 1) hx hb dX2_isOdd_26 (by decide) ?_
        refine lv_iand hx hb dX2_isOdd_27 ?_
        refine lv_topi (fun x27 ex27 => ?_)
        have bx27 : iv x27 0 1 := iv_and_r (show iv 1 0 1 from ⟨by decide, by decide⟩) ex27
        have J45 : ∀ (y45_l2 : Int32), iv y17_l3 0 9 → ∀ (ls : Array Slot), lv_has ls 4 [(0, .ref ap0), (1, .int xp1), (2, .int y45_l2), (3, .int y17_l3)] → WX2_isOdd p l e s m below meth c D T ap0 xp1 s.heap [] (F0 m 45 ls []) := by
          intro y45_l2 c45_y17_l3 ls hl
          obtain ⟨x45, ex45⟩ : ∃ y : Int32, y = y17_l3 + 1 := ⟨_, rfl⟩
          have bx45 : iv x45 1 10 := iv_add c45_y17_l3 (show iv 1 1 1 from ⟨by decide, by decide⟩) ex45 (by decide)
          have qx45 := iv_add_eq c45_y17_l3 (show iv 1 1 1 from ⟨by decide, by decide⟩) ex45 (by decide)
          refine lv_iinc (v := x45) (lv' := [(3, .int x45), (0, .ref ap0), (1, .int xp1), (2, .int y45_l2)]) hx hb dX2_isOdd_45 hl (k := 3) rfl (by rw [ex45]; rfl) (by decide) rfl (fun ls hl => ?_)
          refine lv_goto (tgt := 17) hx hb dX2_isOdd_48 (by decide) ?_
          exact ih17 y45_l2 x45 (mu_up 1 hmu17 (qx45) (by decide) (show iv x45 0 10 from (bx45.mono (by decide) (by decide))).2) (bx45.mono (by decide) (by decide)) _ (lv_sub hl [1, 2, 3, 0] rfl)
        refine lv_if_eq (tgt := 45) hx hb dX2_isOdd_28 (by decide) (fun c28 => ?_) (fun c28 => ?_)
        · have r28tp : iv x27 0 0 := (iv_both bx27 (iv_eq (show iv 0 0 0 from ⟨by decide, by decide⟩) c28)).mono (by decide) (by decide)
          exact J45 y17_l2 r20fp _ (lv_sub hl [0, 1, 2, 3] rfl)
        · have r28fp : iv x27 1 1 := (iv_ne_lo c28 bx27 rfl).mono (by decide) (by decide)
          refine lv_iload_n hx hb dX2_isOdd_31 rfl (lv_at hl 2 rfl) ?_
          refine lv_aload_n hx hb dX2_isOdd_32 rfl (lv_at hl 0 rfl) ?_
          refine hp_getr hx hb hts IX2 hown hK hw.1 hp0 rfl 2 (by decide) L18 rfl dX2_isOdd_33 ?_
          refine lv_iload_n hx hb dX2_isOdd_36 rfl (lv_at hl 3 rfl) ?_
          refine hp_ialdA hx hb hK hw.1 hp0bo (vp_iv r20fp (by decide)) dX2_isOdd_37 (fun x37 => ?_)
          refine lv_iload_n hx hb dX2_isOdd_38 rfl (lv_at hl 1 rfl) ?_
          refine lv_iand hx hb dX2_isOdd_39 ?_
          refine lv_topi (fun x39 ex39 => ?_)
          refine hp_callpi (va_runS (As := [.int x39]) (rest := [.int y17_l2]) ⟨hx, hb, hml, hown, hts⟩ (sJ6_bitCount_0f7a4 l D T x39) (va_cwS 1 hts gX2_isOdd_J6_bitCount_0f7a4 rfl rfl rfl (by decide +kernel) ⟨Nat.le_of_ble_eq_true rfl, Nat.le_of_ble_eq_true rfl⟩) (hp_preS hG hw trivial) rfl rfl hl.1 rfl (lv_room (Nat.le_of_ble_eq_true rfl)) dX2_isOdd_40 ⟨Nat.zero_le _, Nat.zero_le _⟩) (fun x40 bx40 => ?_)
          refine lv_iadd hx hb dX2_isOdd_43 ?_
          refine lv_topi (fun x43 ex43 => ?_)
          refine lv_istore_n (lv' := [(2, .int x43), (0, .ref ap0), (1, .int xp1), (3, .int y17_l3)]) hx hb dX2_isOdd_44 rfl hl (by decide) rfl (fun ls hl => ?_)
          exact J45 x43 r20fp _ (lv_sub hl [1, 2, 0, 3] rfl)
  exact J17 _ x13 (0 : Int32) (Nat.lt_succ_self _) (show iv 0 0 10 from ⟨by decide, by decide⟩) _ (lv_sub hl [2, 3, 1, 0] rfl)
abbrev WX2_fewestTurned (p : Program) (l : Launch) (e : Env) (s : State) (m : MethodId) (below : List Frame) (meth : Method) (c : Code) (D : hp_D) (T : hp_T) (ap0 : Nat) (xp1 : Int32) (xp2 : Int32) (H : Heap) (locs : List Loc) (g : JFrame) : Prop := W p l e (headSpec wsX2_fewestTurned ({ frames := 2, cells := 0, slots := 0, locals := 43 })).room s m ([.ref ap0, .int xp1, .int xp2] : List Value).toArray below meth c H locs 0 0 (MQ below (hq_p (fun v => ∃ r : Int32, v = some (.int r) ∧ True)) ([.ref ap0, .int xp1, .int xp2] : List Value).toArray s 0 0 (fun _ => False)) g
set_option maxHeartbeats 4000000 in
set_option maxRecDepth 100000 in
theorem sX2_fewestTurned (l : Launch) (D : hp_D) (T : hp_T) (ap0 : Nat) (xp1 : Int32) (xp2 : Int32) (ip0 : isParity T ap0) (bp1 : iv xp1 0 10) : Met l yX2_fewestTurned wsX2_fewestTurned ({ frames := 2, cells := 0, slots := 0, locals := 43 }) (hp_Pc D T [.ref ap0, .int xp1, .int xp2] (fun _ => True)) (hq_p (fun v => ∃ r : Int32, v = some (.int r) ∧ True)) 0 0 (fun _ => False) := by
  obtain ⟨ap0bo, hp0, hp0bo⟩ := id ip0
  refine Met.ofW (cc := cX2_fewestTurned) (maxL := 6) (ret := (some .int)) (by decide) rfl ?_
  intro p e s m args below meth c s₁ B hml hv
  obtain ⟨rfl, hok, hG, hB⟩ := hv
  have hx := B.exec
  have hb := B.bytes
  have hr := B.returns
  have hts := atoms_spec (ws := wsX2_fewestTurned) B.pre
  have hown : s.vm.findClass RX2 = some m.cls := findClass_of_methodNamed B.named
  have hlocks := B.notSynchronized
  have hK := hG.1
  have hw : hp_w D T s s.heap [] := hp_w.rf hok
  have hl := lv_entry ([.ref ap0, .int xp1, .int xp2]) (n := 6) (Nat.le_of_ble_eq_true rfl)
  rw [lg_entry_eq]
  generalize (lg_sl ([.ref ap0, .int xp1, .int xp2]) ++ List.replicate (6 - (lg_sl ([.ref ap0, .int xp1, .int xp2])).length) Slot.unset).toArray = ls at hl ⊢
  have hl : lv_has ls 6 [(0, .ref ap0), (1, .int xp1), (2, .int xp2)] := hl
  show WX2_fewestTurned p l e s m below meth c D T ap0 xp1 xp2 s.heap [] (F0 m 0 ls [])
  refine lv_iconst (v := (-1)) hx hb dX2_fewestTurned_0 (by decide) ?_
  refine lv_istore_n (lv' := [(3, .int (-1)), (0, .ref ap0), (1, .int xp1), (2, .int xp2)]) hx hb dX2_fewestTurned_1 rfl hl (by decide) rfl (fun ls hl => ?_)
  refine lv_iconst (v := 0) hx hb dX2_fewestTurned_2 (by decide) ?_
  refine lv_istore (lv' := [(4, .int 0), (3, .int (-1)), (0, .ref ap0), (1, .int xp1), (2, .int xp2)]) hx hb dX2_fewestTurned_3 hl (by decide) rfl (fun ls hl => ?_)
  have J5 : ∀ (n : Nat) (y5_l3 y5_l4 : Int32), (1024 - y5_l4.toInt).toNat < n → iv xp1 0 10 → iv y5_l3 (-1) 1023 → iv y5_l4 0 1024 → ∀ (ls : Array Slot), lv_has ls 6 [(0, .ref ap0), (1, .int xp1), (2, .int xp2), (3, .int y5_l3), (4, .int y5_l4)] → WX2_fewestTurned p l e s m below meth c D T ap0 xp1 xp2 s.heap [] (F0 m 5 ls []) := by
    intro n
    induction n with
    | zero => intro y5_l3 y5_l4 hmu5 c5_xp1 c5_y5_l3 c5_y5_l4 ls hl; exact absurd hmu5 (Nat.not_lt_zero _)
    | succ n ih5 =>
      intro y5_l3 y5_l4 hmu5 c5_xp1 c5_y5_l3 c5_y5_l4 ls hl
      refine lv_iload hx hb dX2_fewestTurned_5 (lv_at hl 4 rfl) ?_
      refine lv_iconst (v := 1) hx hb dX2_fewestTurned_7 (by decide) ?_
      refine lv_iload_n hx hb dX2_fewestTurned_8 rfl (lv_at hl 1 rfl) ?_
      refine lv_ishl hx hb dX2_fewestTurned_9 ?_
      refine lv_topi (fun x9 ex9 => ?_)
      have bx9 : iv x9 1 1024 := iv_shl 10 (show iv 1 1 1 from ⟨by decide, by decide⟩) c5_xp1 ex9 (by decide)
      refine lv_icmp_ge (tgt := 62) hx hb dX2_fewestTurned_10 (by decide) (fun c10 => ?_) (fun c10 => ?_)
      · have r10tq : iv y5_l4 1 1024 := (iv_le_r c10 bx9 c5_y5_l4).mono (by decide) (by decide)
        refine lv_iload_n hx hb dX2_fewestTurned_62 rfl (lv_at hl 3 rfl) ?_
        exact W.iret (v := y5_l3) hx hb hr (fun t ht hW => ⟨some (.int y5_l3), rfl, ⟨y5_l3, rfl, trivial⟩, ht⟩) (fun q h => by cases h) dX2_fewestTurned_63
      · have r10fp : iv y5_l4 0 1023 := (iv_lt_l (iv_nle c10) c5_y5_l4 bx9).mono (by decide) (by decide)
        refine lv_iload_n hx hb dX2_fewestTurned_13 rfl (lv_at hl 3 rfl) ?_
        refine lv_iconst (v := (-1)) hx hb dX2_fewestTurned_14 (by decide) ?_
        have J35 : ∀ (y35_s0 : Int32), iv xp1 0 10 → iv y5_l3 (-1) 1023 → iv y5_l4 0 1023 → iv y35_s0 0 1 → ∀ (ls : Array Slot), lv_has ls 6 [(0, .ref ap0), (1, .int xp1), (2, .int xp2), (3, .int y5_l3), (4, .int y5_l4)] → WX2_fewestTurned p l e s m below meth c D T ap0 xp1 xp2 s.heap [] (F0 m 35 ls [.int y35_s0]) := by
          intro y35_s0 c35_xp1 c35_y5_l3 c35_y5_l4 c35_y35_s0 ls hl
          refine lv_istore (lv' := [(5, .int y35_s0), (0, .ref ap0), (1, .int xp1), (2, .int xp2), (3, .int y5_l3), (4, .int y5_l4)]) hx hb dX2_fewestTurned_35 hl (by decide) rfl (fun ls hl => ?_)
          refine lv_iload hx hb dX2_fewestTurned_37 (lv_at hl 0 rfl) ?_
          have J56 : ∀ (y56_l3 : Int32), iv xp1 0 10 → iv y56_l3 (-1) 1023 → iv y5_l4 0 1023 → ∀ (ls : Array Slot), lv_has ls 6 [(0, .ref ap0), (1, .int xp1), (2, .int xp2), (3, .int y56_l3), (4, .int y5_l4)] → WX2_fewestTurned p l e s m below meth c D T ap0 xp1 xp2 s.heap [] (F0 m 56 ls []) := by
            intro y56_l3 c56_xp1 c56_y56_l3 c56_y5_l4 ls hl
            obtain ⟨x56, ex56⟩ : ∃ y : Int32, y = y5_l4 + 1 := ⟨_, rfl⟩
            have bx56 : iv x56 1 1024 := iv_add c56_y5_l4 (show iv 1 1 1 from ⟨by decide, by decide⟩) ex56 (by decide)
            have qx56 := iv_add_eq c56_y5_l4 (show iv 1 1 1 from ⟨by decide, by decide⟩) ex56 (by decide)
            refine lv_iinc (v := x56) (lv' := [(4, .int x56), (0, .ref ap0), (1, .int xp1), (2, .int xp2), (3, .int y56_l3)]) hx hb dX2_fewestTurned_56 hl (k := 4) rfl (by rw [ex56]; rfl) (by decide) rfl (fun ls hl => ?_)
            refine lv_goto (tgt := 5) hx hb dX2_fewestTurned_59 (by decide) ?_
            exact ih5 y56_l3 x56 (mu_up 1 hmu5 (qx56) (by decide) (show iv x56 0 1024 from (bx56.mono (by decide) (by decide))).2) c56_xp1 c56_y56_l3 (bx56.mono (by decide) (by decide)) _ (lv_sub hl [1, 2, 3, 4, 0] rfl)
          refine lv_if_eq (tgt := 56) hx hb dX2_fewestTurned_39 (by decide) (fun c39 => ?_) (fun c39 => ?_)
          · have r39tp : iv y35_s0 0 0 := (iv_both c35_y35_s0 (iv_eq (show iv 0 0 0 from ⟨by decide, by decide⟩) c39)).mono (by decide) (by decide)
            exact J56 y5_l3 c35_xp1 c35_y5_l3 c35_y5_l4 _ (lv_sub hl [1, 2, 3, 4, 5] rfl)
          · have r39fp : iv y35_s0 1 1 := (iv_ne_lo c39 c35_y35_s0 rfl).mono (by decide) (by decide)
            refine lv_aload_n hx hb dX2_fewestTurned_42 rfl (lv_at hl 1 rfl) ?_
            refine lv_iload_n hx hb dX2_fewestTurned_43 rfl (lv_at hl 3 rfl) ?_
            refine lv_iload hx hb dX2_fewestTurned_44 (lv_at hl 5 rfl) ?_
            refine lv_ixor hx hb dX2_fewestTurned_46 ?_
            refine lv_topi (fun x46 ex46 => ?_)
            refine hp_callpi (va_runV (As := [.int x46]) (rest := []) ⟨hx, hb, hml, hown, hts⟩ (sX2_isOdd l D T ap0 x46 ip0) (cwV 1 hts gX2_fewestTurned_X2_isOdd rfl rfl rfl (by decide +kernel) ⟨Nat.le_of_ble_eq_true rfl, Nat.le_of_ble_eq_true rfl⟩) (hp_preV hG hw hp0 rfl trivial) rfl rfl hl.1 rfl (lv_room (Nat.le_of_ble_eq_true rfl)) dX2_fewestTurned_47 ⟨Nat.zero_le _, Nat.zero_le _⟩) (fun x47 bx47 => ?_)
            refine lv_if_eq (tgt := 56) hx hb dX2_fewestTurned_50 (by decide) (fun c50 => ?_) (fun c50 => ?_)
            · have r50tp : iv x47 0 0 := (iv_both bx47 (iv_eq (show iv 0 0 0 from ⟨by decide, by decide⟩) c50)).mono (by decide) (by decide)
              exact J56 y5_l3 c35_xp1 c35_y5_l3 c35_y5_l4 _ (lv_sub hl [1, 2, 3, 4, 5] rfl)
            · have r50fp : iv x47 1 1 := (iv_ne_lo c50 bx47 rfl).mono (by decide) (by decide)
              refine lv_iload hx hb dX2_fewestTurned_53 (lv_at hl 5 rfl) ?_
              refine lv_istore_n (lv' := [(3, .int y5_l4), (5, .int y35_s0), (0, .ref ap0), (1, .int xp1), (2, .int xp2), (4, .int y5_l4)]) hx hb dX2_fewestTurned_55 rfl hl (by decide) rfl (fun ls hl => ?_)
              exact J56 y5_l4 c35_xp1 (c35_y5_l4.mono (by decide) (by decide)) c35_y5_l4 _ (lv_sub hl [2, 3, 4, 0, 5] rfl)
        have J30 : iv xp1 0 10 → iv y5_l3 (-1) 1023 → iv y5_l4 0 1023 → ∀ (ls : Array Slot), lv_has ls 6 [(0, .ref ap0), (1, .int xp1), (2, .int xp2), (3, .int y5_l3), (4, .int y5_l4)] → WX2_fewestTurned p l e s m below meth c D T ap0 xp1 xp2 s.heap [] (F0 m 30 ls []) := by
          intro c30_xp1 c30_y5_l3 c30_y5_l4 ls hl
          refine lv_iconst (v := 1) hx hb dX2_fewestTurned_30 (by decide) ?_
          refine lv_goto (tgt := 35) hx hb dX2_fewestTurned_31 (by decide) ?_
          exact J35 (1 : Int32) c30_xp1 c30_y5_l3 c30_y5_l4 (show iv 1 0 1 from ⟨by decide, by decide⟩) _ (lv_sub hl [0, 1, 2, 3, 4] rfl)
        refine lv_icmp_eq (tgt := 30) hx hb dX2_fewestTurned_15 (by decide) (fun c15 => ?_) (fun c15 => ?_)
        · have r15tp : iv y5_l3 (-1) (-1) := (iv_both c5_y5_l3 (iv_eq (show iv (-1) (-1) (-1) from ⟨by decide, by decide⟩) c15)).mono (by decide) (by decide)
          exact J30 c5_xp1 (r15tp.mono (by decide) (by decide)) r10fp _ (lv_sub hl [0, 1, 2, 3, 4] rfl)
        · have r15fp : iv y5_l3 0 1023 := (iv_ne_lo c15 c5_y5_l3 rfl).mono (by decide) (by decide)
          refine lv_iload hx hb dX2_fewestTurned_18 (lv_at hl 4 rfl) ?_
          refine hp_callpi (va_runS (As := [.int y5_l4]) (rest := []) ⟨hx, hb, hml, hown, hts⟩ (sJ6_bitCount_0f7a4 l D T y5_l4) (va_cwS 1 hts gX2_fewestTurned_J6_bitCount_0f7a4 rfl rfl rfl (by decide +kernel) ⟨Nat.le_of_ble_eq_true rfl, Nat.le_of_ble_eq_true rfl⟩) (hp_preS hG hw trivial) rfl rfl hl.1 rfl (lv_room (Nat.le_of_ble_eq_true rfl)) dX2_fewestTurned_20 ⟨Nat.zero_le _, Nat.zero_le _⟩) (fun x20 bx20 => ?_)
          refine lv_iload_n hx hb dX2_fewestTurned_23 rfl (lv_at hl 3 rfl) ?_
          refine hp_callpi (va_runS (As := [.int y5_l3]) (rest := [.int x20]) ⟨hx, hb, hml, hown, hts⟩ (sJ6_bitCount_0f7a4 l D T y5_l3) (va_cwS 1 hts gX2_fewestTurned_J6_bitCount_0f7a4 rfl rfl rfl (by decide +kernel) ⟨Nat.le_of_ble_eq_true rfl, Nat.le_of_ble_eq_true rfl⟩) (hp_preS hG hw trivial) rfl rfl hl.1 rfl (lv_room (Nat.le_of_ble_eq_true rfl)) dX2_fewestTurned_24 ⟨Nat.zero_le _, Nat.zero_le _⟩) (fun x24 bx24 => ?_)
          refine lv_icmp_ge (tgt := 34) hx hb dX2_fewestTurned_27 (by decide) (fun c27 => ?_) (fun c27 => ?_)
          · refine lv_iconst (v := 0) hx hb dX2_fewestTurned_34 (by decide) ?_
            exact J35 (0 : Int32) c5_xp1 (r15fp.mono (by decide) (by decide)) r10fp (show iv 0 0 1 from ⟨by decide, by decide⟩) _ (lv_sub hl [0, 1, 2, 3, 4] rfl)
          · have r27fp : iv x20 0 62 := (iv_lt_l (iv_nle c27) bx20 bx24).mono (by decide) (by decide)
            have r27fq : iv x24 1 63 := (iv_lt_r (iv_nle c27) bx20 bx24).mono (by decide) (by decide)
            exact J30 c5_xp1 (r15fp.mono (by decide) (by decide)) r10fp _ (lv_sub hl [0, 1, 2, 3, 4] rfl)
  exact J5 _ ((-1) : Int32) (0 : Int32) (Nat.lt_succ_self _) bp1 (show iv (-1) (-1) 1023 from ⟨by decide, by decide⟩) (show iv 0 0 1024 from ⟨by decide, by decide⟩) _ (lv_sub hl [2, 3, 4, 1, 0] rfl)
