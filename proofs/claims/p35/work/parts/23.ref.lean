abbrev WX12_turnsGloves (p : Program) (l : Launch) (e : Env) (s : State) (m : MethodId) (below : List Frame) (meth : Method) (c : Code) (D : hp_D) (T : hp_T) (ap0 : Nat) (xp1 : Int32) (H : Heap) (locs : List Loc) (g : JFrame) : Prop := W p l e (headSpec wsX12_turnsGloves ({ frames := 1, cells := 0, slots := 0, locals := 22 })).room s m ([.ref ap0, .int xp1] : List Value).toArray below meth c H locs 0 0 (MQ below (hq_e D T (fun v _ _ => v = none ∧ True)) ([.ref ap0, .int xp1] : List Value).toArray s 0 0 (hp_F T)) g
set_option maxHeartbeats 4000000 in
set_option maxRecDepth 100000 in
theorem sX12_turnsGloves (l : Launch) (D : hp_D) (T : hp_T) (ap0 : Nat) (xp1 : Int32) (Gm : moG) (ip0 : isMo T ap0 Gm) (hgs : ∀ j v, sP j v → gs Gm j v) : Met l yX12_turnsGloves wsX12_turnsGloves ({ frames := 1, cells := 0, slots := 0, locals := 22 }) (hp_Pc D T [.ref ap0, .int xp1] (fun _ => True)) (hq_e D T (fun v _ _ => v = none ∧ True)) 0 0 (hp_F T) := by
  obtain ⟨ap0tape, ap0sign, ap0len, ap0clause, ap0clauses, ap0read, ap0opn, ap0stack, ap0word, ap0said, ap0was, ap0fitting, ap0sums, ap0sort, ap0sumsBy, ap0oneOf, ap0otherOf, ap0kept, ap0images, ap0acts, ap0iUnd, ap0iFor, ap0iX, ap0made, gok, hp0, hp0tape, hp0sign, hp0len, hp0clause, hp0clauses, hp0read, hp0opn, hp0stack, hp0word, hp0said, hp0was, hp0fitting, hp0sums, hp0sort, hp0sumsBy, hp0oneOf, hp0otherOf, hp0kept, hp0images, hp0acts, hp0iUnd, hp0iFor, hp0iX, hp0made⟩ := id ip0
  have hpx := gok.1
  have gsok := gok.2.2.2.2
  have ggd := gok.2.2.2.1
  refine Met.ofW (cc := cX12_turnsGloves) (maxL := 3) (ret := none) (by decide) rfl ?_
  intro p e s m args below meth c s₁ B hml hv
  obtain ⟨rfl, hok, hG, hB⟩ := hv
  have hx := B.exec
  have hb := B.bytes
  have hr := B.returns
  have hts := atoms_spec (ws := wsX12_turnsGloves) B.pre
  have hown : s.vm.findClass RX12 = some m.cls := findClass_of_methodNamed B.named
  have hlocks := B.notSynchronized
  have hK := hG.1
  have hw : hp_w D T s s.heap [] := hp_w.rf hok
  have IX12 : ∀ w ∈ wsX120, w ∈ wsX12_turnsGloves := by decide +kernel
  have L39 := hts (.fieldLink RX12 39 "PalmCensusModel" "said" "[I") (by decide +kernel)
  have hl := lv_entry ([.ref ap0, .int xp1]) (n := 3) (Nat.le_of_ble_eq_true rfl)
  rw [lg_entry_eq]
  generalize (lg_sl ([.ref ap0, .int xp1]) ++ List.replicate (3 - (lg_sl ([.ref ap0, .int xp1])).length) Slot.unset).toArray = ls at hl ⊢
  have hl : lv_has ls 3 [(0, .ref ap0), (1, .int xp1)] := hl
  show WX12_turnsGloves p l e s m below meth c D T ap0 xp1 s.heap [] (F0 m 0 ls [])
  refine lv_iconst (v := 0) hx hb dX12_turnsGloves_0 (by decide) ?_
  refine lv_istore_n (lv' := [(2, .int 0), (0, .ref ap0), (1, .int xp1)]) hx hb dX12_turnsGloves_1 rfl hl (by decide) rfl (fun ls hl => ?_)
  have J2 : ∀ (n : Nat) (y2_l2 : Int32), (10 - y2_l2.toInt).toNat < n → iv y2_l2 0 10 → ∀ (H : Heap) (locs : List Loc), hp_w D T s H locs → ∀ (ls : Array Slot), lv_has ls 3 [(0, .ref ap0), (1, .int xp1), (2, .int y2_l2)] → WX12_turnsGloves p l e s m below meth c D T ap0 xp1 H locs (F0 m 2 ls []) := by
    intro n
    induction n with
    | zero => intro y2_l2 hmu2 c2_y2_l2 H2 locs2 hw ls hl; exact absurd hmu2 (Nat.not_lt_zero _)
    | succ n ih2 =>
      intro y2_l2 hmu2 c2_y2_l2 H2 locs2 hw ls hl
      refine lv_iload_n hx hb dX12_turnsGloves_2 rfl (lv_at hl 2 rfl) ?_
      refine lv_aload_n hx hb dX12_turnsGloves_3 rfl (lv_at hl 0 rfl) ?_
      refine hp_getr hx hb hts IX12 hown hK hw.1 hp0 rfl 20 (by decide) L39 rfl dX12_turnsGloves_4 ?_
      refine lv_iconst (v := 2) hx hb dX12_turnsGloves_7 (by decide) ?_
      refine hp_iald hx hb hK hw.1 hp0said (vp_iv (show iv 2 2 2 from ⟨by decide, by decide⟩) (by decide)) dX12_turnsGloves_8 (fun v8 hr8 => ?_)
      have h8 := gsok _ _ hr8
      obtain ⟨x8, rfl, bx8⟩ := sP_rd2 h8 (show iv 2 2 2 from ⟨by decide, by decide⟩)
      refine lv_icmp_ge (tgt := 48) hx hb dX12_turnsGloves_9 (by decide) (fun c9 => ?_) (fun c9 => ?_)
      · exact W.vret hx hb hr (fun t ht hW => ⟨none, rfl, ⟨rfl, trivial⟩, by rw [ht]; exact hw.1, hw.2.F ht⟩) hw.2.2.2 dX12_turnsGloves_48
      · have r9fp : iv y2_l2 0 9 := (iv_lt_l (iv_nle c9) c2_y2_l2 bx8).mono (by decide) (by decide)
        have r9fq : iv x8 1 10 := (iv_lt_r (iv_nle c9) c2_y2_l2 bx8).mono (by decide) (by decide)
        refine lv_iload_n hx hb dX12_turnsGloves_12 rfl (lv_at hl 1 rfl) ?_
        refine lv_iload_n hx hb dX12_turnsGloves_13 rfl (lv_at hl 2 rfl) ?_
        refine hp_callpi (va_runS (As := [.int xp1, .int y2_l2]) (rest := []) ⟨hx, hb, hml, hown, hts⟩ (sX12_isOf l D T xp1 y2_l2) (va_cwS 2 hts gX12_turnsGloves_X12_isOf rfl rfl rfl (by decide +kernel) ⟨Nat.le_of_ble_eq_true rfl, Nat.le_of_ble_eq_true rfl⟩) (hp_preS hG hw trivial) rfl rfl hl.1 rfl (lv_room (Nat.le_of_ble_eq_true rfl)) dX12_turnsGloves_14 ⟨Nat.zero_le _, Nat.zero_le _⟩) (fun x14 bx14 => ?_)
        have J42 : iv y2_l2 0 9 → ∀ (H : Heap) (locs : List Loc), hp_w D T s H locs → ∀ (ls : Array Slot), lv_has ls 3 [(0, .ref ap0), (1, .int xp1), (2, .int y2_l2)] → WX12_turnsGloves p l e s m below meth c D T ap0 xp1 H locs (F0 m 42 ls []) := by
          intro c42_y2_l2 H42 locs42 hw ls hl
          obtain ⟨x42, ex42⟩ : ∃ y : Int32, y = y2_l2 + 1 := ⟨_, rfl⟩
          have bx42 : iv x42 1 10 := iv_add c42_y2_l2 (show iv 1 1 1 from ⟨by decide, by decide⟩) ex42 (by decide)
          have qx42 := iv_add_eq c42_y2_l2 (show iv 1 1 1 from ⟨by decide, by decide⟩) ex42 (by decide)
          refine lv_iinc (v := x42) (lv' := [(2, .int x42), (0, .ref ap0), (1, .int xp1)]) hx hb dX12_turnsGloves_42 hl (k := 2) rfl (by rw [ex42]; rfl) (by decide) rfl (fun ls hl => ?_)
          refine lv_goto (tgt := 2) hx hb dX12_turnsGloves_45 (by decide) ?_
          exact ih2 x42 (mu_up 1 hmu2 (qx42) (by decide) (show iv x42 0 10 from (bx42.mono (by decide) (by decide))).2) (bx42.mono (by decide) (by decide)) H42 locs42 hw _ (lv_sub hl [1, 2, 0] rfl)
        refine lv_if_eq (tgt := 42) hx hb dX12_turnsGloves_17 (by decide) (fun c17 => ?_) (fun c17 => ?_)
        · have r17tp : iv x14 0 0 := (iv_both bx14 (iv_eq (show iv 0 0 0 from ⟨by decide, by decide⟩) c17)).mono (by decide) (by decide)
          exact J42 r9fp H2 locs2 hw _ (lv_sub hl [0, 1, 2] rfl)
        · have r17fp : iv x14 1 1 := (iv_ne_lo c17 bx14 rfl).mono (by decide) (by decide)
          refine lv_aload_n hx hb dX12_turnsGloves_20 rfl (lv_at hl 0 rfl) ?_
          refine hp_getr hx hb hts IX12 hown hK hw.1 hp0 rfl 20 (by decide) L39 rfl dX12_turnsGloves_21 ?_
          refine lv_sipush (v := 130) hx hb dX12_turnsGloves_24 (by decide) ?_
          refine lv_iconst (v := 4) hx hb dX12_turnsGloves_27 (by decide) ?_
          refine lv_iload_n hx hb dX12_turnsGloves_28 rfl (lv_at hl 2 rfl) ?_
          refine lv_imul hx hb dX12_turnsGloves_29 ?_
          refine lv_topi (fun x29 ex29 => ?_)
          have bx29 : iv x29 0 36 := iv_mul (show iv 4 4 4 from ⟨by decide, by decide⟩) r9fp ex29 (by decide)
          refine lv_iadd hx hb dX12_turnsGloves_30 ?_
          refine lv_topi (fun x30 ex30 => ?_)
          have bx30 : iv x30 130 166 := iv_add (show iv 130 130 130 from ⟨by decide, by decide⟩) bx29 ex30 (by decide)
          have qx30 := iv_add_eq (show iv 130 130 130 from ⟨by decide, by decide⟩) bx29 ex30 (by decide)
          refine lv_iconst (v := 1) hx hb dX12_turnsGloves_31 (by decide) ?_
          refine lv_iadd hx hb dX12_turnsGloves_32 ?_
          refine lv_topi (fun x32 ex32 => ?_)
          have bx32 : iv x32 131 167 := iv_add bx30 (show iv 1 1 1 from ⟨by decide, by decide⟩) ex32 (by decide)
          have qx32 := iv_add_eq bx30 (show iv 1 1 1 from ⟨by decide, by decide⟩) ex32 (by decide)
          refine lv_iconst (v := 1) hx hb dX12_turnsGloves_33 (by decide) ?_
          refine lv_aload_n hx hb dX12_turnsGloves_34 rfl (lv_at hl 0 rfl) ?_
          refine lv_iload_n hx hb dX12_turnsGloves_35 rfl (lv_at hl 2 rfl) ?_
          refine lv_iconst (v := 1) hx hb dX12_turnsGloves_36 (by decide) ?_
          refine hp_callpi (va_runV (As := [.int y2_l2, .int 1]) (rest := [.int 1, .int x32, .ref ap0said]) ⟨hx, hb, hml, hown, hts⟩ (sX12_personOf l D T ap0 y2_l2 (1 : Int32) Gm ip0 r9fp (show iv 1 0 3 from ⟨by decide, by decide⟩)) (cwV 2 hts gX12_turnsGloves_X12_personOf rfl rfl rfl (by decide +kernel) ⟨Nat.le_of_ble_eq_true rfl, Nat.le_of_ble_eq_true rfl⟩) (hp_preV hG hw hp0 rfl trivial) rfl rfl hl.1 rfl (lv_room (Nat.le_of_ble_eq_true rfl)) dX12_turnsGloves_37 ⟨Nat.zero_le _, Nat.zero_le _⟩) (fun x37 bx37 => ?_)
          refine lv_isub hx hb dX12_turnsGloves_40 ?_
          refine lv_topi (fun x40 ex40 => ?_)
          refine hp_iast hx hb hK hw hp0said (vp_iv bx32 (by decide)) (hgs _ _ (sP_st bx32 (by decide))) dX12_turnsGloves_41 (fun H41 locs41 hw g41 => ?_)
          exact J42 r9fp H41 locs41 hw _ (lv_sub hl [0, 1, 2] rfl)
  exact J2 _ (0 : Int32) (Nat.lt_succ_self _) (show iv 0 0 10 from ⟨by decide, by decide⟩) s.heap [] hw _ (lv_sub hl [1, 2, 0] rfl)
abbrev WX12_night (p : Program) (l : Launch) (e : Env) (s : State) (m : MethodId) (below : List Frame) (meth : Method) (c : Code) (D : hp_D) (T : hp_T) (ap0 : Nat) (H : Heap) (locs : List Loc) (g : JFrame) : Prop := W p l e (headSpec wsX12_night ({ frames := 1, cells := 0, slots := 0, locals := 21 })).room s m ([.ref ap0] : List Value).toArray below meth c H locs 0 0 (MQ below (hq_e D T (fun v _ _ => ∃ r : Int32, v = some (.int r) ∧ True)) ([.ref ap0] : List Value).toArray s 0 0 (hp_F T)) g
set_option maxHeartbeats 4000000 in
set_option maxRecDepth 100000 in
theorem sX12_night (l : Launch) (D : hp_D) (T : hp_T) (ap0 : Nat) (Gm : moG) (ip0 : isMo T ap0 Gm) (hgs : ∀ j v, sP j v → gs Gm j v) : Met l yX12_night wsX12_night ({ frames := 1, cells := 0, slots := 0, locals := 21 }) (hp_Pc D T [.ref ap0] (fun _ => True)) (hq_e D T (fun v _ _ => ∃ r : Int32, v = some (.int r) ∧ True)) 0 0 (hp_F T) := by
  obtain ⟨ap0tape, ap0sign, ap0len, ap0clause, ap0clauses, ap0read, ap0opn, ap0stack, ap0word, ap0said, ap0was, ap0fitting, ap0sums, ap0sort, ap0sumsBy, ap0oneOf, ap0otherOf, ap0kept, ap0images, ap0acts, ap0iUnd, ap0iFor, ap0iX, ap0made, gok, hp0, hp0tape, hp0sign, hp0len, hp0clause, hp0clauses, hp0read, hp0opn, hp0stack, hp0word, hp0said, hp0was, hp0fitting, hp0sums, hp0sort, hp0sumsBy, hp0oneOf, hp0otherOf, hp0kept, hp0images, hp0acts, hp0iUnd, hp0iFor, hp0iX, hp0made⟩ := id ip0
  have hpx := gok.1
  have gsok := gok.2.2.2.2
  have ggd := gok.2.2.2.1
  refine Met.ofW (cc := cX12_night) (maxL := 1) (ret := (some .int)) (by decide) rfl ?_
  intro p e s m args below meth c s₁ B hml hv
  obtain ⟨rfl, hok, hG, hB⟩ := hv
  have hx := B.exec
  have hb := B.bytes
  have hr := B.returns
  have hts := atoms_spec (ws := wsX12_night) B.pre
  have hown : s.vm.findClass RX12 = some m.cls := findClass_of_methodNamed B.named
  have hlocks := B.notSynchronized
  have hK := hG.1
  have hw : hp_w D T s s.heap [] := hp_w.rf hok
  have IX12 : ∀ w ∈ wsX120, w ∈ wsX12_night := by decide +kernel
  have L39 := hts (.fieldLink RX12 39 "PalmCensusModel" "said" "[I") (by decide +kernel)
  have hl := lv_entry ([.ref ap0]) (n := 1) (Nat.le_of_ble_eq_true rfl)
  rw [lg_entry_eq]
  generalize (lg_sl ([.ref ap0]) ++ List.replicate (1 - (lg_sl ([.ref ap0])).length) Slot.unset).toArray = ls at hl ⊢
  have hl : lv_has ls 1 [(0, .ref ap0)] := hl
  show WX12_night p l e s m below meth c D T ap0 s.heap [] (F0 m 0 ls [])
  refine lv_aload_n hx hb dX12_night_0 rfl (lv_at hl 0 rfl) ?_
  refine hp_callpi (va_runV (As := []) (rest := []) ⟨hx, hb, hml, hown, hts⟩ (sX12_isTown l D T ap0 Gm ip0) (cwV 0 hts gX12_night_X12_isTown rfl rfl rfl (by decide +kernel) ⟨Nat.le_of_ble_eq_true rfl, Nat.le_of_ble_eq_true rfl⟩) (hp_preV hG hw hp0 rfl trivial) rfl rfl hl.1 rfl (lv_room (Nat.le_of_ble_eq_true rfl)) dX12_night_1 ⟨Nat.zero_le _, Nat.zero_le _⟩) (fun x1 bx1 => ?_)
  have J19 : ∀ (H : Heap) (locs : List Loc), hp_w D T s H locs → ∀ (ls : Array Slot), lv_has ls 1 [] → WX12_night p l e s m below meth c D T ap0 H locs (F0 m 19 ls []) := by
    intro H19 locs19 hw ls hl
    refine lv_iconst (v := (-1)) hx hb dX12_night_19 (by decide) ?_
    exact W.iret (v := (-1)) hx hb hr (fun t ht hW => ⟨some (.int (-1)), rfl, ⟨((-1) : Int32), rfl, trivial⟩, by rw [ht]; exact hw.1, hw.2.F ht⟩) hw.2.2.2 dX12_night_20
  refine lv_if_eq (tgt := 19) hx hb dX12_night_4 (by decide) (fun c4 => ?_) (fun c4 => ?_)
  · have r4tp : iv x1 0 0 := (iv_both bx1 (iv_eq (show iv 0 0 0 from ⟨by decide, by decide⟩) c4)).mono (by decide) (by decide)
    exact J19 s.heap [] hw _ (lv_sub hl [] rfl)
  · have r4fp : iv x1 1 1 := (iv_ne_lo c4 bx1 rfl).mono (by decide) (by decide)
    refine lv_aload_n hx hb dX12_night_7 rfl (lv_at hl 0 rfl) ?_
    refine hp_getr hx hb hts IX12 hown hK hw.1 hp0 rfl 20 (by decide) L39 rfl dX12_night_8 ?_
    refine lv_iconst (v := 3) hx hb dX12_night_11 (by decide) ?_
    refine hp_iald hx hb hK hw.1 hp0said (vp_iv (show iv 3 3 3 from ⟨by decide, by decide⟩) (by decide)) dX12_night_12 (fun v12 hr12 => ?_)
    have h12 := gsok _ _ hr12
    obtain ⟨x12, rfl⟩ := sP_any h12
    refine lv_sipush (v := 9999) hx hb dX12_night_13 (by decide) ?_
    refine lv_icmp_ne (tgt := 21) hx hb dX12_night_16 (by decide) (fun c16 => ?_) (fun c16 => ?_)
    · refine lv_aload_n hx hb dX12_night_21 rfl (lv_at hl 0 rfl) ?_
      refine hp_callev (va_runV (As := []) (rest := []) ⟨hx, hb, hml, hown, hts⟩ (sX12_keepsAct l D T ap0 Gm ip0) (cwV 0 hts gX12_night_X12_keepsAct rfl rfl rfl (by decide +kernel) ⟨Nat.le_of_ble_eq_true rfl, Nat.le_of_ble_eq_true rfl⟩) (hp_preV hG hw hp0 rfl trivial) rfl rfl hl.1 rfl (lv_room (Nat.le_of_ble_eq_true rfl)) dX12_night_22 ⟨Nat.zero_le _, Nat.zero_le _⟩) hw (fun st22 t22 H22 locs22 eh22 eg22 bx22 hw => ?_)
      obtain ⟨bx22, g22⟩ := bx22
      rw [eh22, eg22] at g22
      refine lv_aload_n hx hb dX12_night_25 rfl (lv_at hl 0 rfl) ?_
      refine hp_getr hx hb hts IX12 hown hK hw.1 hp0 rfl 20 (by decide) L39 rfl dX12_night_26 ?_
      refine lv_iconst (v := 3) hx hb dX12_night_29 (by decide) ?_
      refine lv_dup2_11 hx hb dX12_night_30 rfl rfl ?_
      refine hp_iald hx hb hK hw.1 hp0said (vp_iv (show iv 3 3 3 from ⟨by decide, by decide⟩) (by decide)) dX12_night_31 (fun v31 hr31 => ?_)
      have h31 := gsok _ _ hr31
      obtain ⟨x31, rfl⟩ := sP_any h31
      refine lv_iconst (v := 1) hx hb dX12_night_32 (by decide) ?_
      refine lv_iadd hx hb dX12_night_33 ?_
      refine lv_topi (fun x33 ex33 => ?_)
      refine hp_iast hx hb hK hw hp0said (vp_iv (show iv 3 3 3 from ⟨by decide, by decide⟩) (by decide)) (hgs _ _ (sP_st (show iv 3 3 3 from ⟨by decide, by decide⟩) (by decide))) dX12_night_34 (fun H34 locs34 hw g34 => ?_)
      refine lv_aload_n hx hb dX12_night_35 rfl (lv_at hl 0 rfl) ?_
      refine hp_getr hx hb hts IX12 hown hK hw.1 hp0 rfl 20 (by decide) L39 rfl dX12_night_36 ?_
      refine lv_iconst (v := 3) hx hb dX12_night_39 (by decide) ?_
      refine hp_iald hx hb hK hw.1 hp0said (vp_iv (show iv 3 3 3 from ⟨by decide, by decide⟩) (by decide)) dX12_night_40 (fun v40 hr40 => ?_)
      have h40 := gsok _ _ hr40
      obtain ⟨x40, rfl⟩ := sP_any h40
      exact W.iret (v := x40) hx hb hr (fun t ht hW => ⟨some (.int x40), rfl, ⟨x40, rfl, trivial⟩, by rw [ht]; exact hw.1, hw.2.F ht⟩) hw.2.2.2 dX12_night_41
    · have r16fp : iv x12 9999 9999 := (iv_both (iv_any x12) (iv_eq (show iv 9999 9999 9999 from ⟨by decide, by decide⟩) c16)).mono (by decide) (by decide)
      exact J19 s.heap [] hw _ (lv_sub hl [] rfl)
abbrev WX12_glove (p : Program) (l : Launch) (e : Env) (s : State) (m : MethodId) (below : List Frame) (meth : Method) (c : Code) (D : hp_D) (T : hp_T) (ap0 : Nat) (xp1 : Int32) (xp2 : Int32) (H : Heap) (locs : List Loc) (g : JFrame) : Prop := W p l e (headSpec wsX12_glove ({ frames := 1, cells := 0, slots := 0, locals := 22 })).room s m ([.ref ap0, .int xp1, .int xp2] : List Value).toArray below meth c H locs 0 0 (MQ below (hq_e D T (fun v _ _ => ∃ r : Int32, v = some (.int r) ∧ iv r 0 1)) ([.ref ap0, .int xp1, .int xp2] : List Value).toArray s 0 0 (hp_F T)) g
set_option maxHeartbeats 4000000 in
set_option maxRecDepth 100000 in
theorem sX12_glove (l : Launch) (D : hp_D) (T : hp_T) (ap0 : Nat) (xp1 : Int32) (xp2 : Int32) (Gm : moG) (ip0 : isMo T ap0 Gm) (hgs : ∀ j v, sP j v → gs Gm j v) (bp2 : iv xp2 0 1) : Met l yX12_glove wsX12_glove ({ frames := 1, cells := 0, slots := 0, locals := 22 }) (hp_Pc D T [.ref ap0, .int xp1, .int xp2] (fun _ => True)) (hq_e D T (fun v _ _ => ∃ r : Int32, v = some (.int r) ∧ iv r 0 1)) 0 0 (hp_F T) := by
  obtain ⟨ap0tape, ap0sign, ap0len, ap0clause, ap0clauses, ap0read, ap0opn, ap0stack, ap0word, ap0said, ap0was, ap0fitting, ap0sums, ap0sort, ap0sumsBy, ap0oneOf, ap0otherOf, ap0kept, ap0images, ap0acts, ap0iUnd, ap0iFor, ap0iX, ap0made, gok, hp0, hp0tape, hp0sign, hp0len, hp0clause, hp0clauses, hp0read, hp0opn, hp0stack, hp0word, hp0said, hp0was, hp0fitting, hp0sums, hp0sort, hp0sumsBy, hp0oneOf, hp0otherOf, hp0kept, hp0images, hp0acts, hp0iUnd, hp0iFor, hp0iX, hp0made⟩ := id ip0
  have hpx := gok.1
  have gsok := gok.2.2.2.2
  have ggd := gok.2.2.2.1
  refine Met.ofW (cc := cX12_glove) (maxL := 3) (ret := (some .boolean)) (by decide) rfl ?_
  intro p e s m args below meth c s₁ B hml hv
  obtain ⟨rfl, hok, hG, hB⟩ := hv
  have hx := B.exec
  have hb := B.bytes
  have hr := B.returns
  have hts := atoms_spec (ws := wsX12_glove) B.pre
  have hown : s.vm.findClass RX12 = some m.cls := findClass_of_methodNamed B.named
  have hlocks := B.notSynchronized
  have hK := hG.1
  have hw : hp_w D T s s.heap [] := hp_w.rf hok
  have IX12 : ∀ w ∈ wsX120, w ∈ wsX12_glove := by decide +kernel
  have L39 := hts (.fieldLink RX12 39 "PalmCensusModel" "said" "[I") (by decide +kernel)
  have hl := lv_entry ([.ref ap0, .int xp1, .int xp2]) (n := 3) (Nat.le_of_ble_eq_true rfl)
  rw [lg_entry_eq]
  generalize (lg_sl ([.ref ap0, .int xp1, .int xp2]) ++ List.replicate (3 - (lg_sl ([.ref ap0, .int xp1, .int xp2])).length) Slot.unset).toArray = ls at hl ⊢
  have hl : lv_has ls 3 [(0, .ref ap0), (1, .int xp1), (2, .int xp2)] := hl
  show WX12_glove p l e s m below meth c D T ap0 xp1 xp2 s.heap [] (F0 m 0 ls [])
  refine lv_aload_n hx hb dX12_glove_0 rfl (lv_at hl 0 rfl) ?_
  refine lv_iload_n hx hb dX12_glove_1 rfl (lv_at hl 1 rfl) ?_
  refine hp_callpi (va_runV (As := [.int xp1]) (rest := []) ⟨hx, hb, hml, hown, hts⟩ (sX12_isPerson l D T ap0 xp1 Gm ip0) (cwV 1 hts gX12_glove_X12_isPerson rfl rfl rfl (by decide +kernel) ⟨Nat.le_of_ble_eq_true rfl, Nat.le_of_ble_eq_true rfl⟩) (hp_preV hG hw hp0 rfl trivial) rfl rfl hl.1 rfl (lv_room (Nat.le_of_ble_eq_true rfl)) dX12_glove_2 ⟨Nat.zero_le _, Nat.zero_le _⟩) (fun x2 bx2 => ?_)
  obtain ⟨bx2, ix2_0⟩ := bx2
  have J27 : ∀ (H : Heap) (locs : List Loc), hp_w D T s H locs → ∀ (ls : Array Slot), lv_has ls 3 [] → WX12_glove p l e s m below meth c D T ap0 xp1 xp2 H locs (F0 m 27 ls []) := by
    intro H27 locs27 hw ls hl
    refine lv_iconst (v := 0) hx hb dX12_glove_27 (by decide) ?_
    exact W.zret (v := 0) hx hb hr (iv_nz (show iv 0 0 1 from ⟨by decide, by decide⟩)) (fun t ht hW => ⟨some (.int 0), rfl, ⟨(0 : Int32), rfl, (show iv 0 0 1 from ⟨by decide, by decide⟩)⟩, by rw [ht]; exact hw.1, hw.2.F ht⟩) hw.2.2.2 dX12_glove_28
  refine lv_if_eq (tgt := 27) hx hb dX12_glove_5 (by decide) (fun c5 => ?_) (fun c5 => ?_)
  · have r5tp : iv x2 0 0 := (iv_both bx2 (iv_eq (show iv 0 0 0 from ⟨by decide, by decide⟩) c5)).mono (by decide) (by decide)
    exact J27 s.heap [] hw _ (lv_sub hl [] rfl)
  · have r5fp : iv x2 1 1 := (iv_ne_lo c5 bx2 rfl).mono (by decide) (by decide)
    have r5fpz : iv xp1 0 9 := (iv_both (iv_any xp1) (ix2_0 (iv_ne0 r5fp (by decide)))).mono (by decide) (by decide)
    refine lv_aload_n hx hb dX12_glove_8 rfl (lv_at hl 0 rfl) ?_
    refine lv_iload_n hx hb dX12_glove_9 rfl (lv_at hl 1 rfl) ?_
    refine lv_iconst (v := 1) hx hb dX12_glove_10 (by decide) ?_
    refine hp_callpi (va_runV (As := [.int xp1, .int 1]) (rest := []) ⟨hx, hb, hml, hown, hts⟩ (sX12_personOf l D T ap0 xp1 (1 : Int32) Gm ip0 r5fpz (show iv 1 0 3 from ⟨by decide, by decide⟩)) (cwV 2 hts gX12_glove_X12_personOf rfl rfl rfl (by decide +kernel) ⟨Nat.le_of_ble_eq_true rfl, Nat.le_of_ble_eq_true rfl⟩) (hp_preV hG hw hp0 rfl trivial) rfl rfl hl.1 rfl (lv_room (Nat.le_of_ble_eq_true rfl)) dX12_glove_11 ⟨Nat.zero_le _, Nat.zero_le _⟩) (fun x11 bx11 => ?_)
    refine lv_iconst (v := 1) hx hb dX12_glove_14 (by decide) ?_
    have J23 : ∀ (y23_s0 : Int32), iv xp1 0 9 → iv xp2 0 1 → iv y23_s0 0 1 → ∀ (H : Heap) (locs : List Loc), hp_w D T s H locs → ∀ (ls : Array Slot), lv_has ls 3 [(0, .ref ap0), (1, .int xp1), (2, .int xp2)] → WX12_glove p l e s m below meth c D T ap0 xp1 xp2 H locs (F0 m 23 ls [.int y23_s0]) := by
      intro y23_s0 c23_xp1 c23_xp2 c23_y23_s0 H23 locs23 hw ls hl
      refine lv_iload_n hx hb dX12_glove_23 rfl (lv_at hl 2 rfl) ?_
      refine lv_icmp_ne (tgt := 29) hx hb dX12_glove_24 (by decide) (fun c24 => ?_) (fun c24 => ?_)
      · refine lv_aload_n hx hb dX12_glove_29 rfl (lv_at hl 0 rfl) ?_
        refine hp_callev (va_runV (As := []) (rest := []) ⟨hx, hb, hml, hown, hts⟩ (sX12_keepsAct l D T ap0 Gm ip0) (cwV 0 hts gX12_glove_X12_keepsAct rfl rfl rfl (by decide +kernel) ⟨Nat.le_of_ble_eq_true rfl, Nat.le_of_ble_eq_true rfl⟩) (hp_preV hG hw hp0 rfl trivial) rfl rfl hl.1 rfl (lv_room (Nat.le_of_ble_eq_true rfl)) dX12_glove_30 ⟨Nat.zero_le _, Nat.zero_le _⟩) hw (fun st30 t30 H30 locs30 eh30 eg30 bx30 hw => ?_)
        obtain ⟨bx30, g30⟩ := bx30
        rw [eh30, eg30] at g30
        refine lv_aload_n hx hb dX12_glove_33 rfl (lv_at hl 0 rfl) ?_
        refine hp_getr hx hb hts IX12 hown hK hw.1 hp0 rfl 20 (by decide) L39 rfl dX12_glove_34 ?_
        refine lv_sipush (v := 130) hx hb dX12_glove_37 (by decide) ?_
        refine lv_iconst (v := 4) hx hb dX12_glove_40 (by decide) ?_
        refine lv_iload_n hx hb dX12_glove_41 rfl (lv_at hl 1 rfl) ?_
        refine lv_imul hx hb dX12_glove_42 ?_
        refine lv_topi (fun x42 ex42 => ?_)
        have bx42 : iv x42 0 36 := iv_mul (show iv 4 4 4 from ⟨by decide, by decide⟩) c23_xp1 ex42 (by decide)
        refine lv_iadd hx hb dX12_glove_43 ?_
        refine lv_topi (fun x43 ex43 => ?_)
        have bx43 : iv x43 130 166 := iv_add (show iv 130 130 130 from ⟨by decide, by decide⟩) bx42 ex43 (by decide)
        have qx43 := iv_add_eq (show iv 130 130 130 from ⟨by decide, by decide⟩) bx42 ex43 (by decide)
        refine lv_iconst (v := 1) hx hb dX12_glove_44 (by decide) ?_
        refine lv_iadd hx hb dX12_glove_45 ?_
        refine lv_topi (fun x45 ex45 => ?_)
        have bx45 : iv x45 131 167 := iv_add bx43 (show iv 1 1 1 from ⟨by decide, by decide⟩) ex45 (by decide)
        have qx45 := iv_add_eq bx43 (show iv 1 1 1 from ⟨by decide, by decide⟩) ex45 (by decide)
        refine lv_iload_n hx hb dX12_glove_46 rfl (lv_at hl 2 rfl) ?_
        have J55 : ∀ (y55_s2 : Int32), iv x45 131 167 → iv y55_s2 0 1 → ∀ (H : Heap) (locs : List Loc), hp_w D T s H locs → ∀ (ls : Array Slot), lv_has ls 3 [] → WX12_glove p l e s m below meth c D T ap0 xp1 xp2 H locs (F0 m 55 ls [.int y55_s2, .int x45, .ref ap0said]) := by
          intro y55_s2 c55_x45 c55_y55_s2 H55 locs55 hw ls hl
          refine hp_iast hx hb hK hw hp0said (vp_iv c55_x45 (by decide)) (hgs _ _ (sP_st c55_x45 (by decide))) dX12_glove_55 (fun H55 locs55 hw g55 => ?_)
          refine lv_iconst (v := 1) hx hb dX12_glove_56 (by decide) ?_
          exact W.zret (v := 1) hx hb hr (iv_nz (show iv 1 0 1 from ⟨by decide, by decide⟩)) (fun t ht hW => ⟨some (.int 1), rfl, ⟨(1 : Int32), rfl, (show iv 1 0 1 from ⟨by decide, by decide⟩)⟩, by rw [ht]; exact hw.1, hw.2.F ht⟩) hw.2.2.2 dX12_glove_57
        refine lv_if_eq (tgt := 54) hx hb dX12_glove_47 (by decide) (fun c47 => ?_) (fun c47 => ?_)
        · have r47tp : iv xp2 0 0 := (iv_both c23_xp2 (iv_eq (show iv 0 0 0 from ⟨by decide, by decide⟩) c47)).mono (by decide) (by decide)
          refine lv_iconst (v := 0) hx hb dX12_glove_54 (by decide) ?_
          exact J55 (0 : Int32) bx45 (show iv 0 0 1 from ⟨by decide, by decide⟩) H30 locs30 hw _ (lv_sub hl [] rfl)
        · have r47fp : iv xp2 1 1 := (iv_ne_lo c47 c23_xp2 rfl).mono (by decide) (by decide)
          refine lv_iconst (v := 1) hx hb dX12_glove_50 (by decide) ?_
          refine lv_goto (tgt := 55) hx hb dX12_glove_51 (by decide) ?_
          exact J55 (1 : Int32) bx45 (show iv 1 0 1 from ⟨by decide, by decide⟩) H30 locs30 hw _ (lv_sub hl [] rfl)
      · exact J27 H23 locs23 hw _ (lv_sub hl [] rfl)
    refine lv_icmp_ne (tgt := 22) hx hb dX12_glove_15 (by decide) (fun c15 => ?_) (fun c15 => ?_)
    · refine lv_iconst (v := 0) hx hb dX12_glove_22 (by decide) ?_
      exact J23 (0 : Int32) r5fpz bp2 (show iv 0 0 1 from ⟨by decide, by decide⟩) s.heap [] hw _ (lv_sub hl [0, 1, 2] rfl)
    · have r15fp : iv x11 1 1 := (iv_both (iv_any x11) (iv_eq (show iv 1 1 1 from ⟨by decide, by decide⟩) c15)).mono (by decide) (by decide)
      refine lv_iconst (v := 1) hx hb dX12_glove_18 (by decide) ?_
      refine lv_goto (tgt := 23) hx hb dX12_glove_19 (by decide) ?_
      exact J23 (1 : Int32) r5fpz bp2 (show iv 1 0 1 from ⟨by decide, by decide⟩) s.heap [] hw _ (lv_sub hl [0, 1, 2] rfl)
abbrev WX12_counter (p : Program) (l : Launch) (e : Env) (s : State) (m : MethodId) (below : List Frame) (meth : Method) (c : Code) (D : hp_D) (T : hp_T) (ap0 : Nat) (xp1 : Int32) (xp2 : Int32) (H : Heap) (locs : List Loc) (g : JFrame) : Prop := W p l e (headSpec wsX12_counter ({ frames := 1, cells := 0, slots := 0, locals := 21 })).room s m ([.ref ap0, .int xp1, .int xp2] : List Value).toArray below meth c H locs 0 0 (MQ below (hq_e D T (fun v _ _ => ∃ r : Int32, v = some (.int r) ∧ iv r 0 1)) ([.ref ap0, .int xp1, .int xp2] : List Value).toArray s 0 0 (hp_F T)) g
set_option maxHeartbeats 4000000 in
set_option maxRecDepth 100000 in
theorem sX12_counter (l : Launch) (D : hp_D) (T : hp_T) (ap0 : Nat) (xp1 : Int32) (xp2 : Int32) (Gm : moG) (ip0 : isMo T ap0 Gm) (hgs : ∀ j v, sP j v → gs Gm j v) (bp2 : iv xp2 0 1) : Met l yX12_counter wsX12_counter ({ frames := 1, cells := 0, slots := 0, locals := 21 }) (hp_Pc D T [.ref ap0, .int xp1, .int xp2] (fun _ => True)) (hq_e D T (fun v _ _ => ∃ r : Int32, v = some (.int r) ∧ iv r 0 1)) 0 0 (hp_F T) := by
  obtain ⟨ap0tape, ap0sign, ap0len, ap0clause, ap0clauses, ap0read, ap0opn, ap0stack, ap0word, ap0said, ap0was, ap0fitting, ap0sums, ap0sort, ap0sumsBy, ap0oneOf, ap0otherOf, ap0kept, ap0images, ap0acts, ap0iUnd, ap0iFor, ap0iX, ap0made, gok, hp0, hp0tape, hp0sign, hp0len, hp0clause, hp0clauses, hp0read, hp0opn, hp0stack, hp0word, hp0said, hp0was, hp0fitting, hp0sums, hp0sort, hp0sumsBy, hp0oneOf, hp0otherOf, hp0kept, hp0images, hp0acts, hp0iUnd, hp0iFor, hp0iX, hp0made⟩ := id ip0
  have hpx := gok.1
  have gsok := gok.2.2.2.2
  have ggd := gok.2.2.2.1
  refine Met.ofW (cc := cX12_counter) (maxL := 3) (ret := (some .boolean)) (by decide) rfl ?_
  intro p e s m args below meth c s₁ B hml hv
  obtain ⟨rfl, hok, hG, hB⟩ := hv
  have hx := B.exec
  have hb := B.bytes
  have hr := B.returns
  have hts := atoms_spec (ws := wsX12_counter) B.pre
  have hown : s.vm.findClass RX12 = some m.cls := findClass_of_methodNamed B.named
  have hlocks := B.notSynchronized
  have hK := hG.1
  have hw : hp_w D T s s.heap [] := hp_w.rf hok
  have IX12 : ∀ w ∈ wsX120, w ∈ wsX12_counter := by decide +kernel
  have L39 := hts (.fieldLink RX12 39 "PalmCensusModel" "said" "[I") (by decide +kernel)
  have hl := lv_entry ([.ref ap0, .int xp1, .int xp2]) (n := 3) (Nat.le_of_ble_eq_true rfl)
  rw [lg_entry_eq]
  generalize (lg_sl ([.ref ap0, .int xp1, .int xp2]) ++ List.replicate (3 - (lg_sl ([.ref ap0, .int xp1, .int xp2])).length) Slot.unset).toArray = ls at hl ⊢
  have hl : lv_has ls 3 [(0, .ref ap0), (1, .int xp1), (2, .int xp2)] := hl
  show WX12_counter p l e s m below meth c D T ap0 xp1 xp2 s.heap [] (F0 m 0 ls [])
  refine lv_aload_n hx hb dX12_counter_0 rfl (lv_at hl 0 rfl) ?_
  refine lv_iload_n hx hb dX12_counter_1 rfl (lv_at hl 1 rfl) ?_
  refine hp_callpi (va_runV (As := [.int xp1]) (rest := []) ⟨hx, hb, hml, hown, hts⟩ (sX12_isGate l D T ap0 xp1 Gm ip0) (cwV 1 hts gX12_counter_X12_isGate rfl rfl rfl (by decide +kernel) ⟨Nat.le_of_ble_eq_true rfl, Nat.le_of_ble_eq_true rfl⟩) (hp_preV hG hw hp0 rfl trivial) rfl rfl hl.1 rfl (lv_room (Nat.le_of_ble_eq_true rfl)) dX12_counter_2 ⟨Nat.zero_le _, Nat.zero_le _⟩) (fun x2 bx2 => ?_)
  obtain ⟨bx2, ix2_0⟩ := bx2
  have J22 : ∀ (H : Heap) (locs : List Loc), hp_w D T s H locs → ∀ (ls : Array Slot), lv_has ls 3 [] → WX12_counter p l e s m below meth c D T ap0 xp1 xp2 H locs (F0 m 22 ls []) := by
    intro H22 locs22 hw ls hl
    refine lv_iconst (v := 0) hx hb dX12_counter_22 (by decide) ?_
    exact W.zret (v := 0) hx hb hr (iv_nz (show iv 0 0 1 from ⟨by decide, by decide⟩)) (fun t ht hW => ⟨some (.int 0), rfl, ⟨(0 : Int32), rfl, (show iv 0 0 1 from ⟨by decide, by decide⟩)⟩, by rw [ht]; exact hw.1, hw.2.F ht⟩) hw.2.2.2 dX12_counter_23
  refine lv_if_eq (tgt := 22) hx hb dX12_counter_5 (by decide) (fun c5 => ?_) (fun c5 => ?_)
  · have r5tp : iv x2 0 0 := (iv_both bx2 (iv_eq (show iv 0 0 0 from ⟨by decide, by decide⟩) c5)).mono (by decide) (by decide)
    exact J22 s.heap [] hw _ (lv_sub hl [] rfl)
  · have r5fp : iv x2 1 1 := (iv_ne_lo c5 bx2 rfl).mono (by decide) (by decide)
    have r5fpz : iv xp1 0 5 := (iv_both (iv_any xp1) (ix2_0 (iv_ne0 r5fp (by decide)))).mono (by decide) (by decide)
    refine lv_aload_n hx hb dX12_counter_8 rfl (lv_at hl 0 rfl) ?_
    refine hp_getr hx hb hts IX12 hown hK hw.1 hp0 rfl 20 (by decide) L39 rfl dX12_counter_9 ?_
    refine lv_iconst (v := 4) hx hb dX12_counter_12 (by decide) ?_
    refine hp_iald hx hb hK hw.1 hp0said (vp_iv (show iv 4 4 4 from ⟨by decide, by decide⟩) (by decide)) dX12_counter_13 (fun v13 hr13 => ?_)
    have h13 := gsok _ _ hr13
    obtain ⟨x13, rfl⟩ := sP_any h13
    refine lv_iload_n hx hb dX12_counter_14 rfl (lv_at hl 1 rfl) ?_
    refine hp_callpi (va_runS (As := [.int x13, .int xp1]) (rest := []) ⟨hx, hb, hml, hown, hts⟩ (sX12_isOf l D T x13 xp1) (va_cwS 2 hts gX12_counter_X12_isOf rfl rfl rfl (by decide +kernel) ⟨Nat.le_of_ble_eq_true rfl, Nat.le_of_ble_eq_true rfl⟩) (hp_preS hG hw trivial) rfl rfl hl.1 rfl (lv_room (Nat.le_of_ble_eq_true rfl)) dX12_counter_15 ⟨Nat.zero_le _, Nat.zero_le _⟩) (fun x15 bx15 => ?_)
    refine lv_iload_n hx hb dX12_counter_18 rfl (lv_at hl 2 rfl) ?_
    refine lv_icmp_ne (tgt := 24) hx hb dX12_counter_19 (by decide) (fun c19 => ?_) (fun c19 => ?_)
    · refine lv_aload_n hx hb dX12_counter_24 rfl (lv_at hl 0 rfl) ?_
      refine hp_callev (va_runV (As := []) (rest := []) ⟨hx, hb, hml, hown, hts⟩ (sX12_keepsAct l D T ap0 Gm ip0) (cwV 0 hts gX12_counter_X12_keepsAct rfl rfl rfl (by decide +kernel) ⟨Nat.le_of_ble_eq_true rfl, Nat.le_of_ble_eq_true rfl⟩) (hp_preV hG hw hp0 rfl trivial) rfl rfl hl.1 rfl (lv_room (Nat.le_of_ble_eq_true rfl)) dX12_counter_25 ⟨Nat.zero_le _, Nat.zero_le _⟩) hw (fun st25 t25 H25 locs25 eh25 eg25 bx25 hw => ?_)
      obtain ⟨bx25, g25⟩ := bx25
      rw [eh25, eg25] at g25
      refine lv_aload_n hx hb dX12_counter_28 rfl (lv_at hl 0 rfl) ?_
      refine hp_getr hx hb hts IX12 hown hK hw.1 hp0 rfl 20 (by decide) L39 rfl dX12_counter_29 ?_
      refine lv_iconst (v := 4) hx hb dX12_counter_32 (by decide) ?_
      refine lv_dup2_11 hx hb dX12_counter_33 rfl rfl ?_
      refine hp_iald hx hb hK hw.1 hp0said (vp_iv (show iv 4 4 4 from ⟨by decide, by decide⟩) (by decide)) dX12_counter_34 (fun v34 hr34 => ?_)
      have h34 := gsok _ _ hr34
      obtain ⟨x34, rfl⟩ := sP_any h34
      refine lv_iconst (v := 1) hx hb dX12_counter_35 (by decide) ?_
      refine lv_iload_n hx hb dX12_counter_36 rfl (lv_at hl 1 rfl) ?_
      refine lv_ishl hx hb dX12_counter_37 ?_
      refine lv_topi (fun x37 ex37 => ?_)
      have bx37 : iv x37 1 32 := iv_shl 5 (show iv 1 1 1 from ⟨by decide, by decide⟩) r5fpz ex37 (by decide)
      refine lv_ixor hx hb dX12_counter_38 ?_
      refine lv_topi (fun x38 ex38 => ?_)
      refine hp_iast hx hb hK hw hp0said (vp_iv (show iv 4 4 4 from ⟨by decide, by decide⟩) (by decide)) (hgs _ _ (sP_st (show iv 4 4 4 from ⟨by decide, by decide⟩) (by decide))) dX12_counter_39 (fun H39 locs39 hw g39 => ?_)
      refine lv_iconst (v := 1) hx hb dX12_counter_40 (by decide) ?_
      exact W.zret (v := 1) hx hb hr (iv_nz (show iv 1 0 1 from ⟨by decide, by decide⟩)) (fun t ht hW => ⟨some (.int 1), rfl, ⟨(1 : Int32), rfl, (show iv 1 0 1 from ⟨by decide, by decide⟩)⟩, by rw [ht]; exact hw.1, hw.2.F ht⟩) hw.2.2.2 dX12_counter_41
    · exact J22 s.heap [] hw _ (lv_sub hl [] rfl)
abbrev WX12_rounds (p : Program) (l : Launch) (e : Env) (s : State) (m : MethodId) (below : List Frame) (meth : Method) (c : Code) (D : hp_D) (T : hp_T) (ap0 : Nat) (xp1 : Int32) (xp2 : Int32) (H : Heap) (locs : List Loc) (g : JFrame) : Prop := W p l e (headSpec wsX12_rounds ({ frames := 1, cells := 0, slots := 0, locals := 25 })).room s m ([.ref ap0, .int xp1, .int xp2] : List Value).toArray below meth c H locs 0 0 (MQ below (hq_p (fun v => ∃ r : Int32, v = some (.int r) ∧ True)) ([.ref ap0, .int xp1, .int xp2] : List Value).toArray s 0 0 (fun _ => False)) g
set_option maxHeartbeats 4000000 in
set_option maxRecDepth 100000 in
theorem sX12_rounds (l : Launch) (D : hp_D) (T : hp_T) (ap0 : Nat) (xp1 : Int32) (xp2 : Int32) (Gm : moG) (ip0 : isMo T ap0 Gm) : Met l yX12_rounds wsX12_rounds ({ frames := 1, cells := 0, slots := 0, locals := 25 }) (hp_Pc D T [.ref ap0, .int xp1, .int xp2] (fun _ => True)) (hq_p (fun v => ∃ r : Int32, v = some (.int r) ∧ True)) 0 0 (fun _ => False) := by
  obtain ⟨ap0tape, ap0sign, ap0len, ap0clause, ap0clauses, ap0read, ap0opn, ap0stack, ap0word, ap0said, ap0was, ap0fitting, ap0sums, ap0sort, ap0sumsBy, ap0oneOf, ap0otherOf, ap0kept, ap0images, ap0acts, ap0iUnd, ap0iFor, ap0iX, ap0made, gok, hp0, hp0tape, hp0sign, hp0len, hp0clause, hp0clauses, hp0read, hp0opn, hp0stack, hp0word, hp0said, hp0was, hp0fitting, hp0sums, hp0sort, hp0sumsBy, hp0oneOf, hp0otherOf, hp0kept, hp0images, hp0acts, hp0iUnd, hp0iFor, hp0iX, hp0made⟩ := id ip0
  have hpx := gok.1
  have gsok := gok.2.2.2.2
  have ggd := gok.2.2.2.1
  refine Met.ofW (cc := cX12_rounds) (maxL := 8) (ret := (some .int)) (by decide) rfl ?_
  intro p e s m args below meth c s₁ B hml hv
  obtain ⟨rfl, hok, hG, hB⟩ := hv
  have hx := B.exec
  have hb := B.bytes
  have hr := B.returns
  have hts := atoms_spec (ws := wsX12_rounds) B.pre
  have hown : s.vm.findClass RX12 = some m.cls := findClass_of_methodNamed B.named
  have hlocks := B.notSynchronized
  have hK := hG.1
  have hw : hp_w D T s s.heap [] := hp_w.rf hok
  have K427 := hts (.constantLong RX12 427 6) (by decide +kernel)
  have hl := lv_entry ([.ref ap0, .int xp1, .int xp2]) (n := 8) (Nat.le_of_ble_eq_true rfl)
  rw [lg_entry_eq]
  generalize (lg_sl ([.ref ap0, .int xp1, .int xp2]) ++ List.replicate (8 - (lg_sl ([.ref ap0, .int xp1, .int xp2])).length) Slot.unset).toArray = ls at hl ⊢
  have hl : lv_has ls 8 [(0, .ref ap0), (1, .int xp1), (2, .int xp2)] := hl
  show WX12_rounds p l e s m below meth c D T ap0 xp1 xp2 s.heap [] (F0 m 0 ls [])
  refine lv_aload_n hx hb dX12_rounds_0 rfl (lv_at hl 0 rfl) ?_
  refine hp_callpi (va_runV (As := []) (rest := []) ⟨hx, hb, hml, hown, hts⟩ (sX12_isTown l D T ap0 Gm ip0) (cwV 0 hts gX12_rounds_X12_isTown rfl rfl rfl (by decide +kernel) ⟨Nat.le_of_ble_eq_true rfl, Nat.le_of_ble_eq_true rfl⟩) (hp_preV hG hw hp0 rfl trivial) rfl rfl hl.1 rfl (lv_room (Nat.le_of_ble_eq_true rfl)) dX12_rounds_1 ⟨Nat.zero_le _, Nat.zero_le _⟩) (fun x1 bx1 => ?_)
  have J31 : ∀ (ls : Array Slot), lv_has ls 8 [] → WX12_rounds p l e s m below meth c D T ap0 xp1 xp2 s.heap [] (F0 m 31 ls []) := by
    intro ls hl
    refine lv_iconst (v := (-1)) hx hb dX12_rounds_31 (by decide) ?_
    exact W.iret (v := (-1)) hx hb hr (fun t ht hW => ⟨some (.int (-1)), rfl, ⟨((-1) : Int32), rfl, trivial⟩, ht⟩) (fun q h => by cases h) dX12_rounds_32
  refine lv_if_eq (tgt := 31) hx hb dX12_rounds_4 (by decide) (fun c4 => ?_) (fun c4 => ?_)
  · have r4tp : iv x1 0 0 := (iv_both bx1 (iv_eq (show iv 0 0 0 from ⟨by decide, by decide⟩) c4)).mono (by decide) (by decide)
    exact J31 _ (lv_sub hl [] rfl)
  · have r4fp : iv x1 1 1 := (iv_ne_lo c4 bx1 rfl).mono (by decide) (by decide)
    refine lv_iload_n hx hb dX12_rounds_7 rfl (lv_at hl 1 rfl) ?_
    refine lv_if_lt (tgt := 31) hx hb dX12_rounds_8 (by decide) (fun c8 => ?_) (fun c8 => ?_)
    · have r8tp : iv xp1 (-2147483648) (-1) := (iv_lt_l c8 (iv_any xp1) (show iv 0 0 0 from ⟨by decide, by decide⟩)).mono (by decide) (by decide)
      exact J31 _ (lv_sub hl [] rfl)
    · have r8fq : iv xp1 0 2147483647 := (iv_le_r (iv_nlt c8) (show iv 0 0 0 from ⟨by decide, by decide⟩) (iv_any xp1)).mono (by decide) (by decide)
      refine lv_iload_n hx hb dX12_rounds_11 rfl (lv_at hl 1 rfl) ?_
      refine lv_aload_n hx hb dX12_rounds_12 rfl (lv_at hl 0 rfl) ?_
      refine hp_callpi (va_runV (As := []) (rest := [.int xp1]) ⟨hx, hb, hml, hown, hts⟩ (sX12_everybody_0 l D T ap0 Gm ip0) (cwV 0 hts gX12_rounds_X12_everybody rfl rfl rfl (by decide +kernel) ⟨Nat.le_of_ble_eq_true rfl, Nat.le_of_ble_eq_true rfl⟩) (hp_preV hG hw hp0 rfl trivial) rfl rfl hl.1 rfl (lv_room (Nat.le_of_ble_eq_true rfl)) dX12_rounds_13 ⟨Nat.zero_le _, Nat.zero_le _⟩) (fun x13 bx13 => ?_)
      refine lv_icmp_gt (tgt := 31) hx hb dX12_rounds_16 (by decide) (fun c16 => ?_) (fun c16 => ?_)
      · have r16tq : iv xp1 1 2147483647 := (iv_lt_r c16 bx13 r8fq).mono (by decide) (by decide)
        exact J31 _ (lv_sub hl [] rfl)
      · have r16fp : iv xp1 0 1023 := (iv_le_l (iv_nlt c16) r8fq bx13).mono (by decide) (by decide)
        refine lv_iload_n hx hb dX12_rounds_19 rfl (lv_at hl 2 rfl) ?_
        obtain ⟨x20, ex20⟩ : ∃ y : Int64, xp2.toInt64 = y := ⟨_, rfl⟩
        refine lv_i2l (v := x20) hx hb dX12_rounds_20 ex20 ?_
        refine lv_lconst (v := 1) hx hb dX12_rounds_21 (by decide) ?_
        refine lv_ldc2 (v := 6) hx hb hown K427 dX12_rounds_22 ?_
        refine hp_callpi (va_runS (As := [.long x20, .long 1, .long 6]) (rest := []) ⟨hx, hb, hml, hown, hts⟩ (sX12_in l D T x20 1 6) (va_cwS 3 hts gX12_rounds_X12_in rfl rfl rfl (by decide +kernel) ⟨Nat.le_of_ble_eq_true rfl, Nat.le_of_ble_eq_true rfl⟩) (hp_preS hG hw trivial) rfl rfl hl.1 rfl (lv_room (Nat.le_of_ble_eq_true rfl)) dX12_rounds_25 ⟨Nat.zero_le _, Nat.zero_le _⟩) (fun x25 bx25 => ?_)
        obtain ⟨bx25, ox25, nx25⟩ := bx25
        have ox25a_ : x25 = 0 ∨ iv xp2 1 6 := ox25.imp id (fun h => iv_in64 ex20 h.1 h.2 (by decide) (by decide))
        have ox25a : x25 = 0 ∨ iv xp2 1 6 := ox25.imp id (fun h => iv_in64 ex20 h.1 h.2 (by decide) (by decide))
        refine lv_if_ne (tgt := 33) hx hb dX12_rounds_28 (by decide) (fun c28 => ?_) (fun c28 => ?_)
        · have r28tp : iv x25 1 1 := (iv_ne_lo c28 bx25 rfl).mono (by decide) (by decide)
          have r28tpz : iv xp2 1 6 := (iv_both (iv_any xp2) ((fun h9 => ox25a.resolve_left h9) (iv_ne0 r28tp (by decide)))).mono (by decide) (by decide)
          refine lv_iload_n hx hb dX12_rounds_33 rfl (lv_at hl 1 rfl) ?_
          refine hp_callpi (va_runS (As := [.int xp1]) (rest := []) ⟨hx, hb, hml, hown, hts⟩ (sX12_bits l D T xp1) (va_cwS 1 hts gX12_rounds_X12_bits rfl rfl rfl (by decide +kernel) ⟨Nat.le_of_ble_eq_true rfl, Nat.le_of_ble_eq_true rfl⟩) (hp_preS hG hw trivial) rfl rfl hl.1 rfl (lv_room (Nat.le_of_ble_eq_true rfl)) dX12_rounds_34 ⟨Nat.zero_le _, Nat.zero_le _⟩) (fun x34 bx34 => ?_)
          refine lv_istore_n (lv' := [(3, .int x34), (0, .ref ap0), (1, .int xp1), (2, .int xp2)]) hx hb dX12_rounds_37 rfl hl (by decide) rfl (fun ls hl => ?_)
          refine lv_iload_n hx hb dX12_rounds_38 rfl (lv_at hl 0 rfl) ?_
          refine lv_iconst (v := 2) hx hb dX12_rounds_39 (by decide) ?_
          refine lv_icmp_ge (tgt := 45) hx hb dX12_rounds_40 (by decide) (fun c40 => ?_) (fun c40 => ?_)
          · have r40tq : iv x34 2 2147483647 := (iv_le_r c40 (show iv 2 2 2 from ⟨by decide, by decide⟩) (iv_any x34)).mono (by decide) (by decide)
            refine lv_iload_n hx hb dX12_rounds_45 rfl (lv_at hl 0 rfl) ?_
            refine lv_iload_n hx hb dX12_rounds_46 rfl (lv_at hl 0 rfl) ?_
            refine lv_iconst (v := 1) hx hb dX12_rounds_47 (by decide) ?_
            refine lv_isub hx hb dX12_rounds_48 ?_
            refine lv_topi (fun x48 ex48 => ?_)
            have bx48 : iv x48 1 2147483646 := iv_sub r40tq (show iv 1 1 1 from ⟨by decide, by decide⟩) ex48 (by decide)
            have qx48 := iv_sub_eq r40tq (show iv 1 1 1 from ⟨by decide, by decide⟩) ex48 (by decide)
            refine lv_imul hx hb dX12_rounds_49 ?_
            refine lv_topi (fun x49 ex49 => ?_)
            refine lv_iconst (v := 2) hx hb dX12_rounds_50 (by decide) ?_
            refine lv_idiv hx hb dX12_rounds_51 (iv_ne0 (show iv 2 2 2 from ⟨by decide, by decide⟩) (by decide)) ?_
            refine lv_topi (fun x51 ex51 => ?_)
            refine lv_istore (lv' := [(4, .int x51), (3, .int x34), (0, .ref ap0), (1, .int xp1), (2, .int xp2)]) hx hb dX12_rounds_52 hl (by decide) rfl (fun ls hl => ?_)
            refine lv_iload_n hx hb dX12_rounds_54 rfl (lv_at hl 4 rfl) ?_
            refine lv_iload_n hx hb dX12_rounds_55 rfl (lv_at hl 1 rfl) ?_
            refine lv_iconst (v := 2) hx hb dX12_rounds_56 (by decide) ?_
            refine lv_idiv hx hb dX12_rounds_57 (iv_ne0 (show iv 2 2 2 from ⟨by decide, by decide⟩) (by decide)) ?_
            refine lv_topi (fun x57 ex57 => ?_)
            have bx57 : iv x57 1 1073741823 := iv_divk (k := 2) r40tq rfl ex57 (by decide)
            have J68 : ∀ (y68_s0 : Int32), iv x34 2 2147483647 → iv y68_s0 1 6 → ∀ (ls : Array Slot), lv_has ls 8 [(3, .int x34), (4, .int x51)] → WX12_rounds p l e s m below meth c D T ap0 xp1 xp2 s.heap [] (F0 m 68 ls [.int y68_s0]) := by
              intro y68_s0 c68_x34 c68_y68_s0 ls hl
              refine lv_istore (lv' := [(5, .int y68_s0), (3, .int x34), (4, .int x51)]) hx hb dX12_rounds_68 hl (by decide) rfl (fun ls hl => ?_)
              refine lv_iload_n hx hb dX12_rounds_70 rfl (lv_at hl 1 rfl) ?_
              refine lv_iconst (v := 2) hx hb dX12_rounds_71 (by decide) ?_
              refine lv_irem hx hb dX12_rounds_72 (iv_ne0 (show iv 2 2 2 from ⟨by decide, by decide⟩) (by decide)) ?_
              refine lv_topi (fun x72 ex72 => ?_)
              have bx72 : iv x72 0 1 := iv_rem c68_x34 (show iv 2 2 2 from ⟨by decide, by decide⟩) ex72 (by decide)
              have J83 : ∀ (y83_s0 : Int32), iv y68_s0 1 6 → iv y83_s0 1 2147483647 → ∀ (ls : Array Slot), lv_has ls 8 [(4, .int x51), (5, .int y68_s0)] → WX12_rounds p l e s m below meth c D T ap0 xp1 xp2 s.heap [] (F0 m 83 ls [.int y83_s0]) := by
                intro y83_s0 c83_y68_s0 c83_y83_s0 ls hl
                refine lv_istore (lv' := [(6, .int y83_s0), (4, .int x51), (5, .int y68_s0)]) hx hb dX12_rounds_83 hl (by decide) rfl (fun ls hl => ?_)
                refine lv_iload hx hb dX12_rounds_85 (lv_at hl 1 rfl) ?_
                refine lv_iload hx hb dX12_rounds_87 (lv_at hl 2 rfl) ?_
                refine lv_iadd hx hb dX12_rounds_89 ?_
                refine lv_topi (fun x89 ex89 => ?_)
                refine lv_iconst (v := 1) hx hb dX12_rounds_90 (by decide) ?_
                refine lv_isub hx hb dX12_rounds_91 ?_
                refine lv_topi (fun x91 ex91 => ?_)
                refine lv_iload hx hb dX12_rounds_92 (lv_at hl 2 rfl) ?_
                refine lv_idiv hx hb dX12_rounds_94 (iv_ne0 c83_y68_s0 (by decide)) ?_
                refine lv_topi (fun x94 ex94 => ?_)
                refine lv_istore (lv' := [(7, .int x94), (6, .int y83_s0), (4, .int x51), (5, .int y68_s0)]) hx hb dX12_rounds_95 hl (by decide) rfl (fun ls hl => ?_)
                refine lv_iload hx hb dX12_rounds_97 (lv_at hl 0 rfl) ?_
                refine lv_iload hx hb dX12_rounds_99 (lv_at hl 1 rfl) ?_
                have J111 : ∀ (y111_s0 : Int32), iv y111_s0 1 2147483647 → ∀ (ls : Array Slot), lv_has ls 8 [] → WX12_rounds p l e s m below meth c D T ap0 xp1 xp2 s.heap [] (F0 m 111 ls [.int y111_s0]) := by
                  intro y111_s0 c111_y111_s0 ls hl
                  exact W.iret (v := y111_s0) hx hb hr (fun t ht hW => ⟨some (.int y111_s0), rfl, ⟨y111_s0, rfl, trivial⟩, ht⟩) (fun q h => by cases h) dX12_rounds_111
                refine lv_icmp_le (tgt := 109) hx hb dX12_rounds_101 (by decide) (fun c101 => ?_) (fun c101 => ?_)
                · refine lv_iload hx hb dX12_rounds_109 (lv_at hl 1 rfl) ?_
                  exact J111 y83_s0 c83_y83_s0 _ (lv_sub hl [] rfl)
                · have r101fp : iv y83_s0 1 2147483646 := (iv_lt_l (iv_nle c101) c83_y83_s0 (iv_any x94)).mono (by decide) (by decide)
                  have r101fq : iv x94 2 2147483647 := (iv_lt_r (iv_nle c101) c83_y83_s0 (iv_any x94)).mono (by decide) (by decide)
                  refine lv_iload hx hb dX12_rounds_104 (lv_at hl 0 rfl) ?_
                  refine lv_goto (tgt := 111) hx hb dX12_rounds_106 (by decide) ?_
                  exact J111 x94 (r101fq.mono (by decide) (by decide)) _ (lv_sub hl [] rfl)
              refine lv_if_ne (tgt := 82) hx hb dX12_rounds_73 (by decide) (fun c73 => ?_) (fun c73 => ?_)
              · have r73tp : iv x72 1 1 := (iv_ne_lo c73 bx72 rfl).mono (by decide) (by decide)
                refine lv_iload_n hx hb dX12_rounds_82 rfl (lv_at hl 1 rfl) ?_
                exact J83 x34 c68_y68_s0 (c68_x34.mono (by decide) (by decide)) _ (lv_sub hl [2, 0] rfl)
              · have r73fp : iv x72 0 0 := (iv_both bx72 (iv_eq (show iv 0 0 0 from ⟨by decide, by decide⟩) c73)).mono (by decide) (by decide)
                refine lv_iload_n hx hb dX12_rounds_76 rfl (lv_at hl 1 rfl) ?_
                refine lv_iconst (v := 1) hx hb dX12_rounds_77 (by decide) ?_
                refine lv_isub hx hb dX12_rounds_78 ?_
                refine lv_topi (fun x78 ex78 => ?_)
                have bx78 : iv x78 1 2147483646 := iv_sub c68_x34 (show iv 1 1 1 from ⟨by decide, by decide⟩) ex78 (by decide)
                have qx78 := iv_sub_eq c68_x34 (show iv 1 1 1 from ⟨by decide, by decide⟩) ex78 (by decide)
                refine lv_goto (tgt := 83) hx hb dX12_rounds_79 (by decide) ?_
                exact J83 x78 c68_y68_s0 (bx78.mono (by decide) (by decide)) _ (lv_sub hl [2, 0] rfl)
            refine lv_icmp_ge (tgt := 65) hx hb dX12_rounds_58 (by decide) (fun c58 => ?_) (fun c58 => ?_)
            · have r58tp : iv x57 1 6 := (iv_le_l c58 bx57 r28tpz).mono (by decide) (by decide)
              refine lv_iload_n hx hb dX12_rounds_65 rfl (lv_at hl 1 rfl) ?_
              refine lv_iconst (v := 2) hx hb dX12_rounds_66 (by decide) ?_
              refine lv_idiv hx hb dX12_rounds_67 (iv_ne0 (show iv 2 2 2 from ⟨by decide, by decide⟩) (by decide)) ?_
              refine lv_topi (fun x67 ex67 => ?_)
              have bx67 : iv x67 1 6 := iv_eq r58tp (ex67.trans ex57.symm)
              exact J68 x67 r40tq bx67 _ (lv_sub hl [1, 0] rfl)
            · have r58fq : iv x57 2 1073741823 := (iv_lt_r (iv_nle c58) r28tpz bx57).mono (by decide) (by decide)
              refine lv_iload_n hx hb dX12_rounds_61 rfl (lv_at hl 4 rfl) ?_
              refine lv_goto (tgt := 68) hx hb dX12_rounds_62 (by decide) ?_
              exact J68 xp2 r40tq r28tpz _ (lv_sub hl [1, 0] rfl)
          · have r40fp : iv x34 (-2147483648) 1 := (iv_lt_l (iv_nle c40) (iv_any x34) (show iv 2 2 2 from ⟨by decide, by decide⟩)).mono (by decide) (by decide)
            refine lv_iconst (v := 0) hx hb dX12_rounds_43 (by decide) ?_
            exact W.iret (v := 0) hx hb hr (fun t ht hW => ⟨some (.int 0), rfl, ⟨(0 : Int32), rfl, trivial⟩, ht⟩) (fun q h => by cases h) dX12_rounds_44
        · have r28fp : iv x25 0 0 := (iv_both bx25 (iv_eq (show iv 0 0 0 from ⟨by decide, by decide⟩) c28)).mono (by decide) (by decide)
          exact J31 _ (lv_sub hl [] rfl)
abbrev WX12_draw (p : Program) (l : Launch) (e : Env) (s : State) (m : MethodId) (below : List Frame) (meth : Method) (c : Code) (D : hp_D) (T : hp_T) (ap0 : Nat) (xp1 : Int32) (H : Heap) (locs : List Loc) (g : JFrame) : Prop := W p l e (headSpec wsX12_draw ({ frames := 0, cells := 0, slots := 0, locals := 0 })).room s m ([.ref ap0, .int xp1] : List Value).toArray below meth c H locs 0 0 (MQ below (hq_e D T (fun v _ _ => ∃ r : Int32, v = some (.int r) ∧ True)) ([.ref ap0, .int xp1] : List Value).toArray s 0 0 (hp_F T)) g
set_option maxHeartbeats 4000000 in
set_option maxRecDepth 100000 in
theorem sX12_draw (l : Launch) (D : hp_D) (T : hp_T) (ap0 : Nat) (xp1 : Int32) (Gm : moG) (ip0 : isMo T ap0 Gm) (bp1 : iv xp1 1 100) : Met l yX12_draw wsX12_draw ({ frames := 0, cells := 0, slots := 0, locals := 0 }) (hp_Pc D T [.ref ap0, .int xp1] (fun _ => True)) (hq_e D T (fun v _ _ => ∃ r : Int32, v = some (.int r) ∧ True)) 0 0 (hp_F T) := by
  obtain ⟨ap0tape, ap0sign, ap0len, ap0clause, ap0clauses, ap0read, ap0opn, ap0stack, ap0word, ap0said, ap0was, ap0fitting, ap0sums, ap0sort, ap0sumsBy, ap0oneOf, ap0otherOf, ap0kept, ap0images, ap0acts, ap0iUnd, ap0iFor, ap0iX, ap0made, gok, hp0, hp0tape, hp0sign, hp0len, hp0clause, hp0clauses, hp0read, hp0opn, hp0stack, hp0word, hp0said, hp0was, hp0fitting, hp0sums, hp0sort, hp0sumsBy, hp0oneOf, hp0otherOf, hp0kept, hp0images, hp0acts, hp0iUnd, hp0iFor, hp0iX, hp0made⟩ := id ip0
  have hpx := gok.1
  have gsok := gok.2.2.2.2
  have ggd := gok.2.2.2.1
  refine Met.ofW (cc := cX12_draw) (maxL := 2) (ret := (some .int)) (by decide) rfl ?_
  intro p e s m args below meth c s₁ B hml hv
  obtain ⟨rfl, hok, hG, hB⟩ := hv
  have hx := B.exec
  have hb := B.bytes
  have hr := B.returns
  have hts := atoms_spec (ws := wsX12_draw) B.pre
  have hown : s.vm.findClass RX12 = some m.cls := findClass_of_methodNamed B.named
  have hlocks := B.notSynchronized
  have hK := hG.1
  have hw : hp_w D T s s.heap [] := hp_w.rf hok
  have IX12 : ∀ w ∈ wsX120, w ∈ wsX12_draw := by decide +kernel
  have L432 := hts (.fieldLink RX12 432 "PalmCensusModel" "drawX" "J") (by decide +kernel)
  have K436 := hts (.constantLong RX12 436 1103515245) (by decide +kernel)
  have K438 := hts (.constantLong RX12 438 12345) (by decide +kernel)
  have K440 := hts (.constantLong RX12 440 2147483648) (by decide +kernel)
  have K442 := hts (.constantLong RX12 442 65536) (by decide +kernel)
  have hl := lv_entry ([.ref ap0, .int xp1]) (n := 2) (Nat.le_of_ble_eq_true rfl)
  rw [lg_entry_eq]
  generalize (lg_sl ([.ref ap0, .int xp1]) ++ List.replicate (2 - (lg_sl ([.ref ap0, .int xp1])).length) Slot.unset).toArray = ls at hl ⊢
  have hl : lv_has ls 2 [(0, .ref ap0), (1, .int xp1)] := hl
  show WX12_draw p l e s m below meth c D T ap0 xp1 s.heap [] (F0 m 0 ls [])
  refine lv_aload_n hx hb dX12_draw_0 rfl (lv_at hl 0 rfl) ?_
  refine lv_aload_n hx hb dX12_draw_1 rfl (lv_at hl 0 rfl) ?_
  refine hp_get hx hb hts IX12 hown hK hw.1 hp0 rfl 37 (by decide) L432 rfl dX12_draw_2 (fun v2 h2 fx2 => ?_)
  obtain ⟨x2, rfl⟩ := h2
  refine lv_ldc2 (v := 1103515245) hx hb hown K436 dX12_draw_5 ?_
  refine lv_lmul hx hb dX12_draw_8 ?_
  refine lv_topl (fun x8 ex8 => ?_)
  refine lv_ldc2 (v := 12345) hx hb hown K438 dX12_draw_9 ?_
  refine lv_ladd hx hb dX12_draw_12 ?_
  refine lv_topl (fun x12 ex12 => ?_)
  refine lv_ldc2 (v := 2147483648) hx hb hown K440 dX12_draw_13 ?_
  refine lv_lrem hx hb dX12_draw_16 (by decide) ?_
  refine lv_topl (fun x16 ex16 => ?_)
  refine hp_put hx hb hts IX12 tyX12 tyX12_ok nmX12 hown hK hw hp0 rfl 37 (by decide) L432 rfl rfl ⟨_, rfl⟩ rfl rfl dX12_draw_17 (fun H17 locs17 hw f17n g17 => ?_)
  refine lv_aload_n hx hb dX12_draw_20 rfl (lv_at hl 0 rfl) ?_
  refine hp_getf hx hb hts IX12 hown hK f17n rfl (by decide) L432 dX12_draw_21 ?_
  refine lv_ldc2 (v := 65536) hx hb hown K442 dX12_draw_24 ?_
  refine lv_ldiv hx hb dX12_draw_27 (by decide) ?_
  refine lv_topl (fun x27 ex27 => ?_)
  refine lv_iload_n hx hb dX12_draw_28 rfl (lv_at hl 1 rfl) ?_
  obtain ⟨x29, ex29⟩ : ∃ y : Int64, xp1.toInt64 = y := ⟨_, rfl⟩
  refine lv_i2l (v := x29) hx hb dX12_draw_29 ex29 ?_
  refine lv_lrem hx hb dX12_draw_30 (iv_nzl ex29 bp1 (by decide)) ?_
  refine lv_topl (fun x30 ex30 => ?_)
  obtain ⟨x31, ex31⟩ : ∃ y : Int32, x30.toInt32 = y := ⟨_, rfl⟩
  refine lv_l2i (v := x31) hx hb dX12_draw_31 ex31 ?_
  exact W.iret (v := x31) hx hb hr (fun t ht hW => ⟨some (.int x31), rfl, ⟨x31, rfl, trivial⟩, by rw [ht]; exact hw.1, hw.2.F ht⟩) hw.2.2.2 dX12_draw_32
abbrev WX12_drawsDay (p : Program) (l : Launch) (e : Env) (s : State) (m : MethodId) (below : List Frame) (meth : Method) (c : Code) (D : hp_D) (T : hp_T) (ap0 : Nat) (xp1 : Int32) (H : Heap) (locs : List Loc) (g : JFrame) : Prop := W p l e (headSpec wsX12_drawsDay ({ frames := 1, cells := 0, slots := 0, locals := 21 })).room s m ([.ref ap0, .int xp1] : List Value).toArray below meth c H locs 0 0 (MQ below (hq_e D T (fun v _ _ => v = none ∧ True)) ([.ref ap0, .int xp1] : List Value).toArray s 0 0 (hp_F T)) g
set_option maxHeartbeats 4000000 in
set_option maxRecDepth 100000 in
theorem sX12_drawsDay (l : Launch) (D : hp_D) (T : hp_T) (ap0 : Nat) (xp1 : Int32) (Gm : moG) (ip0 : isMo T ap0 Gm) (hgs : ∀ j v, sP j v → gs Gm j v) : Met l yX12_drawsDay wsX12_drawsDay ({ frames := 1, cells := 0, slots := 0, locals := 21 }) (hp_Pc D T [.ref ap0, .int xp1] (fun _ => True)) (hq_e D T (fun v _ _ => v = none ∧ True)) 0 0 (hp_F T) := by
  obtain ⟨ap0tape, ap0sign, ap0len, ap0clause, ap0clauses, ap0read, ap0opn, ap0stack, ap0word, ap0said, ap0was, ap0fitting, ap0sums, ap0sort, ap0sumsBy, ap0oneOf, ap0otherOf, ap0kept, ap0images, ap0acts, ap0iUnd, ap0iFor, ap0iX, ap0made, gok, hp0, hp0tape, hp0sign, hp0len, hp0clause, hp0clauses, hp0read, hp0opn, hp0stack, hp0word, hp0said, hp0was, hp0fitting, hp0sums, hp0sort, hp0sumsBy, hp0oneOf, hp0otherOf, hp0kept, hp0images, hp0acts, hp0iUnd, hp0iFor, hp0iX, hp0made⟩ := id ip0
  have hpx := gok.1
  have gsok := gok.2.2.2.2
  have ggd := gok.2.2.2.1
  refine Met.ofW (cc := cX12_drawsDay) (maxL := 5) (ret := none) (by decide) rfl ?_
  intro p e s m args below meth c s₁ B hml hv
  obtain ⟨rfl, hok, hG, hB⟩ := hv
  have hx := B.exec
  have hb := B.bytes
  have hr := B.returns
  have hts := atoms_spec (ws := wsX12_drawsDay) B.pre
  have hown : s.vm.findClass RX12 = some m.cls := findClass_of_methodNamed B.named
  have hlocks := B.notSynchronized
  have hK := hG.1
  have hw : hp_w D T s s.heap [] := hp_w.rf hok
  have IX12 : ∀ w ∈ wsX120, w ∈ wsX12_drawsDay := by decide +kernel
  have L39 := hts (.fieldLink RX12 39 "PalmCensusModel" "said" "[I") (by decide +kernel)
  have hl := lv_entry ([.ref ap0, .int xp1]) (n := 5) (Nat.le_of_ble_eq_true rfl)
  rw [lg_entry_eq]
  generalize (lg_sl ([.ref ap0, .int xp1]) ++ List.replicate (5 - (lg_sl ([.ref ap0, .int xp1])).length) Slot.unset).toArray = ls at hl ⊢
  have hl : lv_has ls 5 [(0, .ref ap0), (1, .int xp1)] := hl
  show WX12_drawsDay p l e s m below meth c D T ap0 xp1 s.heap [] (F0 m 0 ls [])
  refine lv_iconst (v := 0) hx hb dX12_drawsDay_0 (by decide) ?_
  refine lv_istore_n (lv' := [(2, .int 0), (0, .ref ap0), (1, .int xp1)]) hx hb dX12_drawsDay_1 rfl hl (by decide) rfl (fun ls hl => ?_)
  have J2 : ∀ (n : Nat) (y2_l2 : Int32), (10 - y2_l2.toInt).toNat < n → iv y2_l2 0 10 → ∀ (H : Heap) (locs : List Loc), hp_w D T s H locs → ∀ (ls : Array Slot), lv_has ls 5 [(0, .ref ap0), (1, .int xp1), (2, .int y2_l2)] → WX12_drawsDay p l e s m below meth c D T ap0 xp1 H locs (F0 m 2 ls []) := by
    intro n
    induction n with
    | zero => intro y2_l2 hmu2 c2_y2_l2 H2 locs2 hw ls hl; exact absurd hmu2 (Nat.not_lt_zero _)
    | succ n ih2 =>
      intro y2_l2 hmu2 c2_y2_l2 H2 locs2 hw ls hl
      refine lv_iload_n hx hb dX12_drawsDay_2 rfl (lv_at hl 2 rfl) ?_
      refine lv_aload_n hx hb dX12_drawsDay_3 rfl (lv_at hl 0 rfl) ?_
      refine hp_getr hx hb hts IX12 hown hK hw.1 hp0 rfl 20 (by decide) L39 rfl dX12_drawsDay_4 ?_
      refine lv_iconst (v := 2) hx hb dX12_drawsDay_7 (by decide) ?_
      refine hp_iald hx hb hK hw.1 hp0said (vp_iv (show iv 2 2 2 from ⟨by decide, by decide⟩) (by decide)) dX12_drawsDay_8 (fun v8 hr8 => ?_)
      have h8 := gsok _ _ hr8
      obtain ⟨x8, rfl, bx8⟩ := sP_rd2 h8 (show iv 2 2 2 from ⟨by decide, by decide⟩)
      refine lv_icmp_ge (tgt := 95) hx hb dX12_drawsDay_9 (by decide) (fun c9 => ?_) (fun c9 => ?_)
      · exact W.vret hx hb hr (fun t ht hW => ⟨none, rfl, ⟨rfl, trivial⟩, by rw [ht]; exact hw.1, hw.2.F ht⟩) hw.2.2.2 dX12_drawsDay_95
      · have r9fp : iv y2_l2 0 9 := (iv_lt_l (iv_nle c9) c2_y2_l2 bx8).mono (by decide) (by decide)
        have r9fq : iv x8 1 10 := (iv_lt_r (iv_nle c9) c2_y2_l2 bx8).mono (by decide) (by decide)
        refine lv_iconst (v := 0) hx hb dX12_drawsDay_12 (by decide) ?_
        refine lv_istore_n (lv' := [(3, .int 0), (0, .ref ap0), (1, .int xp1), (2, .int y2_l2)]) hx hb dX12_drawsDay_13 rfl hl (by decide) rfl (fun ls hl => ?_)
        have J14 : ∀ (n : Nat) (y14_l3 : Int32), (12 - y14_l3.toInt).toNat < n → iv y2_l2 0 9 → iv y14_l3 0 12 → ∀ (H : Heap) (locs : List Loc), hp_w D T s H locs → ∀ (ls : Array Slot), lv_has ls 5 [(0, .ref ap0), (1, .int xp1), (2, .int y2_l2), (3, .int y14_l3)] → WX12_drawsDay p l e s m below meth c D T ap0 xp1 H locs (F0 m 14 ls []) := by
          intro n
          induction n with
          | zero => intro y14_l3 hmu14 c14_y2_l2 c14_y14_l3 H14 locs14 hw ls hl; exact absurd hmu14 (Nat.not_lt_zero _)
          | succ n ih14 =>
            intro y14_l3 hmu14 c14_y2_l2 c14_y14_l3 H14 locs14 hw ls hl
            refine lv_iload_n hx hb dX12_drawsDay_14 rfl (lv_at hl 3 rfl) ?_
            refine lv_aload_n hx hb dX12_drawsDay_15 rfl (lv_at hl 0 rfl) ?_
            refine hp_getr hx hb hts IX12 hown hK hw.1 hp0 rfl 20 (by decide) L39 rfl dX12_drawsDay_16 ?_
            refine lv_iconst (v := 1) hx hb dX12_drawsDay_19 (by decide) ?_
            refine hp_iald hx hb hK hw.1 hp0said (vp_iv (show iv 1 1 1 from ⟨by decide, by decide⟩) (by decide)) dX12_drawsDay_20 (fun v20 hr20 => ?_)
            have h20 := gsok _ _ hr20
            obtain ⟨x20, rfl, bx20⟩ := sP_rd1 h20 (show iv 1 1 1 from ⟨by decide, by decide⟩)
            refine lv_icmp_ge (tgt := 89) hx hb dX12_drawsDay_21 (by decide) (fun c21 => ?_) (fun c21 => ?_)
            · obtain ⟨x89, ex89⟩ : ∃ y : Int32, y = y2_l2 + 1 := ⟨_, rfl⟩
              have bx89 : iv x89 1 10 := iv_add c14_y2_l2 (show iv 1 1 1 from ⟨by decide, by decide⟩) ex89 (by decide)
              have qx89 := iv_add_eq c14_y2_l2 (show iv 1 1 1 from ⟨by decide, by decide⟩) ex89 (by decide)
              refine lv_iinc (v := x89) (lv' := [(2, .int x89), (0, .ref ap0), (1, .int xp1), (3, .int y14_l3)]) hx hb dX12_drawsDay_89 hl (k := 2) rfl (by rw [ex89]; rfl) (by decide) rfl (fun ls hl => ?_)
              refine lv_goto (tgt := 2) hx hb dX12_drawsDay_92 (by decide) ?_
              exact ih2 x89 (mu_up 1 hmu2 (qx89) (by decide) (show iv x89 0 10 from (bx89.mono (by decide) (by decide))).2) (bx89.mono (by decide) (by decide)) H14 locs14 hw _ (lv_sub hl [1, 2, 0] rfl)
            · have r21fp : iv y14_l3 0 11 := (iv_lt_l (iv_nle c21) c14_y14_l3 bx20).mono (by decide) (by decide)
              have r21fq : iv x20 1 12 := (iv_lt_r (iv_nle c21) c14_y14_l3 bx20).mono (by decide) (by decide)
              refine lv_aload_n hx hb dX12_drawsDay_24 rfl (lv_at hl 0 rfl) ?_
              refine lv_bipush (v := 100) hx hb dX12_drawsDay_25 (by decide) ?_
              refine hp_callei (va_runV (As := [.int 100]) (rest := []) ⟨hx, hb, hml, hown, hts⟩ (sX12_draw l D T ap0 (100 : Int32) Gm ip0 (show iv 100 1 100 from ⟨by decide, by decide⟩)) (cwV 1 hts gX12_drawsDay_X12_draw rfl rfl rfl (by decide +kernel) ⟨Nat.le_of_ble_eq_true rfl, Nat.le_of_ble_eq_true rfl⟩) (hp_preV hG hw hp0 rfl trivial) rfl rfl hl.1 rfl (lv_room (Nat.le_of_ble_eq_true rfl)) dX12_drawsDay_27 ⟨Nat.zero_le _, Nat.zero_le _⟩) hw (fun x27 st27 t27 H27 locs27 eh27 eg27 bx27 hw => ?_)
              refine lv_iload_n hx hb dX12_drawsDay_30 rfl (lv_at hl 1 rfl) ?_
              have J83 : iv y2_l2 0 9 → iv y14_l3 0 11 → ∀ (H : Heap) (locs : List Loc), hp_w D T s H locs → ∀ (ls : Array Slot), lv_has ls 5 [(0, .ref ap0), (1, .int xp1), (2, .int y2_l2), (3, .int y14_l3)] → WX12_drawsDay p l e s m below meth c D T ap0 xp1 H locs (F0 m 83 ls []) := by
                intro c83_y2_l2 c83_y14_l3 H83 locs83 hw ls hl
                obtain ⟨x83, ex83⟩ : ∃ y : Int32, y = y14_l3 + 1 := ⟨_, rfl⟩
                have bx83 : iv x83 1 12 := iv_add c83_y14_l3 (show iv 1 1 1 from ⟨by decide, by decide⟩) ex83 (by decide)
                have qx83 := iv_add_eq c83_y14_l3 (show iv 1 1 1 from ⟨by decide, by decide⟩) ex83 (by decide)
                refine lv_iinc (v := x83) (lv' := [(3, .int x83), (0, .ref ap0), (1, .int xp1), (2, .int y2_l2)]) hx hb dX12_drawsDay_83 hl (k := 3) rfl (by rw [ex83]; rfl) (by decide) rfl (fun ls hl => ?_)
                refine lv_goto (tgt := 14) hx hb dX12_drawsDay_86 (by decide) ?_
                exact ih14 x83 (mu_up 1 hmu14 (qx83) (by decide) (show iv x83 0 12 from (bx83.mono (by decide) (by decide))).2) c83_y2_l2 (bx83.mono (by decide) (by decide)) H83 locs83 hw _ (lv_sub hl [1, 2, 3, 0] rfl)
              refine lv_icmp_lt (tgt := 37) hx hb dX12_drawsDay_31 (by decide) (fun c31 => ?_) (fun c31 => ?_)
              · have r31tp : iv x27 (-2147483648) 2147483646 := (iv_lt_l c31 (iv_any x27) (iv_any xp1)).mono (by decide) (by decide)
                have r31tq : iv xp1 (-2147483647) 2147483647 := (iv_lt_r c31 (iv_any x27) (iv_any xp1)).mono (by decide) (by decide)
                refine lv_aload_n hx hb dX12_drawsDay_37 rfl (lv_at hl 0 rfl) ?_
                refine lv_aload_n hx hb dX12_drawsDay_38 rfl (lv_at hl 0 rfl) ?_
                refine hp_getr hx hb hts IX12 hown hK hw.1 hp0 rfl 20 (by decide) L39 rfl dX12_drawsDay_39 ?_
                refine lv_iconst (v := 0) hx hb dX12_drawsDay_42 (by decide) ?_
                refine hp_iald hx hb hK hw.1 hp0said (vp_iv (show iv 0 0 0 from ⟨by decide, by decide⟩) (by decide)) dX12_drawsDay_43 (fun v43 hr43 => ?_)
                have h43 := gsok _ _ hr43
                obtain ⟨x43, rfl, bx43⟩ := sP_rd0 h43 (show iv 0 0 0 from ⟨by decide, by decide⟩)
                refine lv_iconst (v := 1) hx hb dX12_drawsDay_44 (by decide) ?_
                refine lv_iadd hx hb dX12_drawsDay_45 ?_
                refine lv_topi (fun x45 ex45 => ?_)
                have bx45 : iv x45 1 7 := iv_add bx43 (show iv 1 1 1 from ⟨by decide, by decide⟩) ex45 (by decide)
                have qx45 := iv_add_eq bx43 (show iv 1 1 1 from ⟨by decide, by decide⟩) ex45 (by decide)
                refine hp_callei (va_runV (As := [.int x45]) (rest := []) ⟨hx, hb, hml, hown, hts⟩ (sX12_draw l D T ap0 x45 Gm ip0 (bx45.mono (by decide) (by decide))) (cwV 1 hts gX12_drawsDay_X12_draw rfl rfl rfl (by decide +kernel) ⟨Nat.le_of_ble_eq_true rfl, Nat.le_of_ble_eq_true rfl⟩) (hp_preV hG hw hp0 rfl trivial) rfl rfl hl.1 rfl (lv_room (Nat.le_of_ble_eq_true rfl)) dX12_drawsDay_46 ⟨Nat.zero_le _, Nat.zero_le _⟩) hw (fun x46 st46 t46 H46 locs46 eh46 eg46 bx46 hw => ?_)
                refine lv_istore (lv' := [(4, .int x46), (0, .ref ap0), (1, .int xp1), (2, .int y2_l2), (3, .int y14_l3)]) hx hb dX12_drawsDay_49 hl (by decide) rfl (fun ls hl => ?_)
                refine lv_aload_n hx hb dX12_drawsDay_51 rfl (lv_at hl 1 rfl) ?_
                refine hp_getr hx hb hts IX12 hown hK hw.1 hp0 rfl 20 (by decide) L39 rfl dX12_drawsDay_52 ?_
                refine lv_bipush (v := 10) hx hb dX12_drawsDay_55 (by decide) ?_
                refine lv_bipush (v := 12) hx hb dX12_drawsDay_57 (by decide) ?_
                refine lv_iload_n hx hb dX12_drawsDay_59 rfl (lv_at hl 3 rfl) ?_
                refine lv_imul hx hb dX12_drawsDay_60 ?_
                refine lv_topi (fun x60 ex60 => ?_)
                have bx60 : iv x60 0 108 := iv_mul (show iv 12 12 12 from ⟨by decide, by decide⟩) c14_y2_l2 ex60 (by decide)
                refine lv_iadd hx hb dX12_drawsDay_61 ?_
                refine lv_topi (fun x61 ex61 => ?_)
                have bx61 : iv x61 10 118 := iv_add (show iv 10 10 10 from ⟨by decide, by decide⟩) bx60 ex61 (by decide)
                have qx61 := iv_add_eq (show iv 10 10 10 from ⟨by decide, by decide⟩) bx60 ex61 (by decide)
                refine lv_iload_n hx hb dX12_drawsDay_62 rfl (lv_at hl 4 rfl) ?_
                refine lv_iadd hx hb dX12_drawsDay_63 ?_
                refine lv_topi (fun x63 ex63 => ?_)
                have bx63 : iv x63 10 129 := iv_add bx61 r21fp ex63 (by decide)
                have qx63 := iv_add_eq bx61 r21fp ex63 (by decide)
                refine lv_iload hx hb dX12_drawsDay_64 (lv_at hl 0 rfl) ?_
                refine lv_aload_n hx hb dX12_drawsDay_66 rfl (lv_at hl 1 rfl) ?_
                refine hp_getr hx hb hts IX12 hown hK hw.1 hp0 rfl 20 (by decide) L39 rfl dX12_drawsDay_67 ?_
                refine lv_iconst (v := 0) hx hb dX12_drawsDay_70 (by decide) ?_
                refine hp_iald hx hb hK hw.1 hp0said (vp_iv (show iv 0 0 0 from ⟨by decide, by decide⟩) (by decide)) dX12_drawsDay_71 (fun v71 hr71 => ?_)
                have h71 := gsok _ _ hr71
                obtain ⟨x71, rfl, bx71⟩ := sP_rd0 h71 (show iv 0 0 0 from ⟨by decide, by decide⟩)
                have J82 : ∀ (y82_s2 : Int32), iv xp1 (-2147483647) 2147483647 → iv y2_l2 0 9 → iv y14_l3 0 11 → iv x63 10 129 → ∀ (H : Heap) (locs : List Loc), hp_w D T s H locs → ∀ (ls : Array Slot), lv_has ls 5 [(0, .ref ap0), (1, .int xp1), (2, .int y2_l2), (3, .int y14_l3)] → WX12_drawsDay p l e s m below meth c D T ap0 xp1 H locs (F0 m 82 ls [.int y82_s2, .int x63, .ref ap0said]) := by
                  intro y82_s2 c82_xp1 c82_y2_l2 c82_y14_l3 c82_x63 H82 locs82 hw ls hl
                  refine hp_iast hx hb hK hw hp0said (vp_iv c82_x63 (by decide)) (hgs _ _ (sP_st c82_x63 (by decide))) dX12_drawsDay_82 (fun H82 locs82 hw g82 => ?_)
                  exact J83 c82_y2_l2 c82_y14_l3 H82 locs82 hw _ (lv_sub hl [0, 1, 2, 3] rfl)
                refine lv_icmp_ne (tgt := 80) hx hb dX12_drawsDay_72 (by decide) (fun c72 => ?_) (fun c72 => ?_)
                · refine lv_iload hx hb dX12_drawsDay_80 (lv_at hl 0 rfl) ?_
                  exact J82 x46 r31tq c14_y2_l2 r21fp bx63 H46 locs46 hw _ (lv_sub hl [1, 2, 3, 4] rfl)
                · have r72fp : iv x46 0 6 := (iv_both (iv_any x46) (iv_eq bx71 c72)).mono (by decide) (by decide)
                  refine lv_bipush (v := 99) hx hb dX12_drawsDay_75 (by decide) ?_
                  refine lv_goto (tgt := 82) hx hb dX12_drawsDay_77 (by decide) ?_
                  exact J82 (99 : Int32) r31tq c14_y2_l2 r21fp bx63 H46 locs46 hw _ (lv_sub hl [1, 2, 3, 4] rfl)
              · refine lv_goto (tgt := 83) hx hb dX12_drawsDay_34 (by decide) ?_
                exact J83 c14_y2_l2 r21fp H27 locs27 hw _ (lv_sub hl [0, 1, 2, 3] rfl)
        exact J14 _ (0 : Int32) (Nat.lt_succ_self _) r9fp (show iv 0 0 12 from ⟨by decide, by decide⟩) H2 locs2 hw _ (lv_sub hl [1, 2, 3, 0] rfl)
  exact J2 _ (0 : Int32) (Nat.lt_succ_self _) (show iv 0 0 10 from ⟨by decide, by decide⟩) s.heap [] hw _ (lv_sub hl [1, 2, 0] rfl)
abbrev WX12_gathersTwos (p : Program) (l : Launch) (e : Env) (s : State) (m : MethodId) (below : List Frame) (meth : Method) (c : Code) (D : hp_D) (T : hp_T) (ap0 : Nat) (H : Heap) (locs : List Loc) (g : JFrame) : Prop := W p l e (headSpec wsX12_gathersTwos ({ frames := 3, cells := 0, slots := 0, locals := 68 })).room s m ([.ref ap0] : List Value).toArray below meth c H locs 0 0 (MQ below (hq_e D T (fun v st t => v = none ∧ ((True) ∧ hp_km D [(12, 32)] st.heap t.heap))) ([.ref ap0] : List Value).toArray s 0 0 (hp_F T)) g
set_option maxHeartbeats 4000000 in
set_option maxRecDepth 100000 in
theorem sX12_gathersTwos (l : Launch) (D : hp_D) (T : hp_T) (ap0 : Nat) (Gm : moG) (ip0 : isMo T ap0 Gm) : Met l yX12_gathersTwos wsX12_gathersTwos ({ frames := 3, cells := 0, slots := 0, locals := 68 }) (hp_Pc D T [.ref ap0] (fun _ => True)) (hq_e D T (fun v st t => v = none ∧ ((True) ∧ hp_km D [(12, 32)] st.heap t.heap))) 0 0 (hp_F T) := by
  obtain ⟨ap0tape, ap0sign, ap0len, ap0clause, ap0clauses, ap0read, ap0opn, ap0stack, ap0word, ap0said, ap0was, ap0fitting, ap0sums, ap0sort, ap0sumsBy, ap0oneOf, ap0otherOf, ap0kept, ap0images, ap0acts, ap0iUnd, ap0iFor, ap0iX, ap0made, gok, hp0, hp0tape, hp0sign, hp0len, hp0clause, hp0clauses, hp0read, hp0opn, hp0stack, hp0word, hp0said, hp0was, hp0fitting, hp0sums, hp0sort, hp0sumsBy, hp0oneOf, hp0otherOf, hp0kept, hp0images, hp0acts, hp0iUnd, hp0iFor, hp0iX, hp0made⟩ := id ip0
  have hpx := gok.1
  have gsok := gok.2.2.2.2
  have ggd := gok.2.2.2.1
  refine Met.ofW (cc := cX12_gathersTwos) (maxL := 3) (ret := none) (by decide) rfl ?_
  intro p e s m args below meth c s₁ B hml hv
  obtain ⟨rfl, hok, hG, hB⟩ := hv
  have hx := B.exec
  have hb := B.bytes
  have hr := B.returns
  have hts := atoms_spec (ws := wsX12_gathersTwos) B.pre
  have hown : s.vm.findClass RX12 = some m.cls := findClass_of_methodNamed B.named
  have hlocks := B.notSynchronized
  have hK := hG.1
  have hw : hp_w D T s s.heap [] := hp_w.rf hok
  have IX12 : ∀ w ∈ wsX120, w ∈ wsX12_gathersTwos := by decide +kernel
  have L403 := hts (.fieldLink RX12 403 "PalmCensusModel" "twos" "I") (by decide +kernel)
  have L39 := hts (.fieldLink RX12 39 "PalmCensusModel" "said" "[I") (by decide +kernel)
  have L61 := hts (.fieldLink RX12 61 "PalmCensusModel" "oneOf" "[I") (by decide +kernel)
  have L64 := hts (.fieldLink RX12 64 "PalmCensusModel" "otherOf" "[I") (by decide +kernel)
  have hkm : hp_km D [(12, 32)] s.heap s.heap := fun _ _ _ _ h _ => h
  have hl := lv_entry ([.ref ap0]) (n := 3) (Nat.le_of_ble_eq_true rfl)
  rw [lg_entry_eq]
  generalize (lg_sl ([.ref ap0]) ++ List.replicate (3 - (lg_sl ([.ref ap0])).length) Slot.unset).toArray = ls at hl ⊢
  have hl : lv_has ls 3 [(0, .ref ap0)] := hl
  show WX12_gathersTwos p l e s m below meth c D T ap0 s.heap [] (F0 m 0 ls [])
  obtain ⟨x9000op0_32, bx9000op0_32, fx9000op0_32⟩ := hp_opI hw.1 hp0 32 rfl
  refine lv_aload_n hx hb dX12_gathersTwos_0 rfl (lv_at hl 0 rfl) ?_
  refine lv_iconst (v := 0) hx hb dX12_gathersTwos_1 (by decide) ?_
  refine hp_put hx hb hts IX12 tyX12 tyX12_ok nmX12 hown hK hw hp0 rfl 32 (by decide) L403 rfl rfl ⟨_, rfl, (show iv 0 0 45 from ⟨by decide, by decide⟩)⟩ rfl rfl dX12_gathersTwos_2 (fun H2 locs2 hw f2n g2 => ?_)
  have hkm := hkm.put g2 (by decide)
  refine lv_iconst (v := 0) hx hb dX12_gathersTwos_5 (by decide) ?_
  refine lv_istore_n (lv' := [(1, .int 0), (0, .ref ap0)]) hx hb dX12_gathersTwos_6 rfl hl (by decide) rfl (fun ls hl => ?_)
  have J7 : ∀ (n : Nat) (y7_l1 y7_fp0_32 : Int32), (10 - y7_l1.toInt).toNat < n → iv y7_l1 0 10 → iv y7_fp0_32 0 45 → y7_fp0_32.toInt ≤ tw_b y7_l1.toInt → ∀ (H : Heap) (locs : List Loc), hp_w D T s H locs → hp_km D [(12, 32)] s.heap H → hp_f D H ap0 12 32 (.int y7_fp0_32) → ∀ (ls : Array Slot), lv_has ls 3 [(0, .ref ap0), (1, .int y7_l1)] → WX12_gathersTwos p l e s m below meth c D T ap0 H locs (F0 m 7 ls []) := by
    intro n
    induction n with
    | zero => intro y7_l1 y7_fp0_32 hmu7 c7_y7_l1 c7_y7_fp0_32 hv7_0 H7 locs7 hw hkm f_p0_32 ls hl; exact absurd hmu7 (Nat.not_lt_zero _)
    | succ n ih7 =>
      intro y7_l1 y7_fp0_32 hmu7 c7_y7_l1 c7_y7_fp0_32 hv7_0 H7 locs7 hw hkm f_p0_32 ls hl
      refine lv_iload_n hx hb dX12_gathersTwos_7 rfl (lv_at hl 1 rfl) ?_
      refine lv_aload_n hx hb dX12_gathersTwos_8 rfl (lv_at hl 0 rfl) ?_
      refine hp_getr hx hb hts IX12 hown hK hw.1 hp0 rfl 20 (by decide) L39 rfl dX12_gathersTwos_9 ?_
      refine lv_iconst (v := 2) hx hb dX12_gathersTwos_12 (by decide) ?_
      refine hp_iald hx hb hK hw.1 hp0said (vp_iv (show iv 2 2 2 from ⟨by decide, by decide⟩) (by decide)) dX12_gathersTwos_13 (fun v13 hr13 => ?_)
      have h13 := gsok _ _ hr13
      obtain ⟨x13, rfl, bx13⟩ := sP_rd2 h13 (show iv 2 2 2 from ⟨by decide, by decide⟩)
      refine lv_icmp_ge (tgt := 85) hx hb dX12_gathersTwos_14 (by decide) (fun c14 => ?_) (fun c14 => ?_)
      · exact W.vret hx hb hr (fun t ht hW => ⟨none, rfl, ⟨rfl, ⟨trivial, by rw [ht]; exact hkm⟩⟩, by rw [ht]; exact hw.1, hw.2.F ht⟩) hw.2.2.2 dX12_gathersTwos_85
      · have r14fp : iv y7_l1 0 9 := (iv_lt_l (iv_nle c14) c7_y7_l1 bx13).mono (by decide) (by decide)
        have r14fq : iv x13 1 10 := (iv_lt_r (iv_nle c14) c7_y7_l1 bx13).mono (by decide) (by decide)
        refine lv_iload_n hx hb dX12_gathersTwos_17 rfl (lv_at hl 1 rfl) ?_
        refine lv_iconst (v := 1) hx hb dX12_gathersTwos_18 (by decide) ?_
        refine lv_iadd hx hb dX12_gathersTwos_19 ?_
        refine lv_topi (fun x19 ex19 => ?_)
        have bx19 : iv x19 1 10 := iv_add r14fp (show iv 1 1 1 from ⟨by decide, by decide⟩) ex19 (by decide)
        have qx19 := iv_add_eq r14fp (show iv 1 1 1 from ⟨by decide, by decide⟩) ex19 (by decide)
        refine lv_istore_n (lv' := [(2, .int x19), (0, .ref ap0), (1, .int y7_l1)]) hx hb dX12_gathersTwos_20 rfl hl (by decide) rfl (fun ls hl => ?_)
        have J21 : ∀ (n : Nat) (y21_l2 y21_fp0_32 : Int32), (10 - y21_l2.toInt).toNat < n → iv y7_l1 0 9 → iv y21_l2 1 10 → iv y21_fp0_32 0 45 → y21_fp0_32.toInt ≤ tw_b y7_l1.toInt + (y21_l2.toInt - y7_l1.toInt - 1) → y7_l1.toInt + 1 ≤ y21_l2.toInt → ∀ (H : Heap) (locs : List Loc), hp_w D T s H locs → hp_km D [(12, 32)] s.heap H → hp_f D H ap0 12 32 (.int y21_fp0_32) → ∀ (ls : Array Slot), lv_has ls 3 [(0, .ref ap0), (1, .int y7_l1), (2, .int y21_l2)] → WX12_gathersTwos p l e s m below meth c D T ap0 H locs (F0 m 21 ls []) := by
          intro n
          induction n with
          | zero => intro y21_l2 y21_fp0_32 hmu21 c21_y7_l1 c21_y21_l2 c21_y21_fp0_32 hv21_0 hv21_1 H21 locs21 hw hkm f_p0_32 ls hl; exact absurd hmu21 (Nat.not_lt_zero _)
          | succ n ih21 =>
            intro y21_l2 y21_fp0_32 hmu21 c21_y7_l1 c21_y21_l2 c21_y21_fp0_32 hv21_0 hv21_1 H21 locs21 hw hkm f_p0_32 ls hl
            refine lv_iload_n hx hb dX12_gathersTwos_21 rfl (lv_at hl 2 rfl) ?_
            refine lv_aload_n hx hb dX12_gathersTwos_22 rfl (lv_at hl 0 rfl) ?_
            refine hp_getr hx hb hts IX12 hown hK hw.1 hp0 rfl 20 (by decide) L39 rfl dX12_gathersTwos_23 ?_
            refine lv_iconst (v := 2) hx hb dX12_gathersTwos_26 (by decide) ?_
            refine hp_iald hx hb hK hw.1 hp0said (vp_iv (show iv 2 2 2 from ⟨by decide, by decide⟩) (by decide)) dX12_gathersTwos_27 (fun v27 hr27 => ?_)
            have h27 := gsok _ _ hr27
            obtain ⟨x27, rfl, bx27⟩ := sP_rd2 h27 (show iv 2 2 2 from ⟨by decide, by decide⟩)
            refine lv_icmp_ge (tgt := 79) hx hb dX12_gathersTwos_28 (by decide) (fun c28 => ?_) (fun c28 => ?_)
            · obtain ⟨x79, ex79⟩ : ∃ y : Int32, y = y7_l1 + 1 := ⟨_, rfl⟩
              have bx79 : iv x79 1 10 := iv_add c21_y7_l1 (show iv 1 1 1 from ⟨by decide, by decide⟩) ex79 (by decide)
              have qx79 := iv_add_eq c21_y7_l1 (show iv 1 1 1 from ⟨by decide, by decide⟩) ex79 (by decide)
              refine lv_iinc (v := x79) (lv' := [(1, .int x79), (0, .ref ap0), (2, .int y21_l2)]) hx hb dX12_gathersTwos_79 hl (k := 1) rfl (by rw [ex79]; rfl) (by decide) rfl (fun ls hl => ?_)
              refine lv_goto (tgt := 7) hx hb dX12_gathersTwos_82 (by decide) ?_
              exact ih7 x79 y21_fp0_32 (mu_up 1 hmu7 (qx79) (by decide) (show iv x79 0 10 from (bx79.mono (by decide) (by decide))).2) (bx79.mono (by decide) (by decide)) c21_y21_fp0_32 (show y21_fp0_32.toInt ≤ tw_b x79.toInt from by have := (c21_y21_fp0_32).1; have := (c21_y21_fp0_32).2; have := (bx79).1; have := (bx79).2; have := (bx27).1; have := (bx27).2; have := (c21_y21_l2).1; have := (c21_y21_l2).2; have := (c21_y7_l1).1; have := (c21_y7_l1).2; have := (Int32.le_iff_toInt_le.mp c28); have : (1 : Int32).toInt = 1 := (by decide); have t9 := tw_step y7_l1.toInt (by omega) (by omega); rw [show x79.toInt = y7_l1.toInt + 1 by omega]; omega) H21 locs21 hw hkm f_p0_32 _ (lv_sub hl [1, 0] rfl)
            · have r28fp : iv y21_l2 1 9 := (iv_lt_l (iv_nle c28) c21_y21_l2 bx27).mono (by decide) (by decide)
              have r28fq : iv x27 2 10 := (iv_lt_r (iv_nle c28) c21_y21_l2 bx27).mono (by decide) (by decide)
              refine lv_aload_n hx hb dX12_gathersTwos_31 rfl (lv_at hl 0 rfl) ?_
              refine lv_iload_n hx hb dX12_gathersTwos_32 rfl (lv_at hl 1 rfl) ?_
              refine lv_iload_n hx hb dX12_gathersTwos_33 rfl (lv_at hl 2 rfl) ?_
              refine hp_callpi (va_runV (As := [.int y7_l1, .int y21_l2]) (rest := []) ⟨hx, hb, hml, hown, hts⟩ (sX12_meet l D T ap0 y7_l1 y21_l2 Gm ip0 c21_y7_l1 (r28fp.mono (by decide) (by decide))) (cwV 2 hts gX12_gathersTwos_X12_meet rfl rfl rfl (by decide +kernel) ⟨Nat.le_of_ble_eq_true rfl, Nat.le_of_ble_eq_true rfl⟩) (hp_preV hG hw hp0 rfl trivial) rfl rfl hl.1 rfl (lv_room (Nat.le_of_ble_eq_true rfl)) dX12_gathersTwos_34 ⟨Nat.zero_le _, Nat.zero_le _⟩) (fun x34 bx34 => ?_)
              have J73 : ∀ (y73_fp0_32 : Int32), iv y7_l1 0 9 → iv y21_l2 1 9 → iv y73_fp0_32 0 45 → y73_fp0_32.toInt ≤ tw_b y7_l1.toInt + (y21_l2.toInt - y7_l1.toInt) → y7_l1.toInt + 1 ≤ y21_l2.toInt → ∀ (H : Heap) (locs : List Loc), hp_w D T s H locs → hp_km D [(12, 32)] s.heap H → hp_f D H ap0 12 32 (.int y73_fp0_32) → ∀ (ls : Array Slot), lv_has ls 3 [(0, .ref ap0), (1, .int y7_l1), (2, .int y21_l2)] → WX12_gathersTwos p l e s m below meth c D T ap0 H locs (F0 m 73 ls []) := by
                intro y73_fp0_32 c73_y7_l1 c73_y21_l2 c73_y73_fp0_32 hv73_0 hv73_1 H73 locs73 hw hkm f_p0_32 ls hl
                obtain ⟨x73, ex73⟩ : ∃ y : Int32, y = y21_l2 + 1 := ⟨_, rfl⟩
                have bx73 : iv x73 2 10 := iv_add c73_y21_l2 (show iv 1 1 1 from ⟨by decide, by decide⟩) ex73 (by decide)
                have qx73 := iv_add_eq c73_y21_l2 (show iv 1 1 1 from ⟨by decide, by decide⟩) ex73 (by decide)
                refine lv_iinc (v := x73) (lv' := [(2, .int x73), (0, .ref ap0), (1, .int y7_l1)]) hx hb dX12_gathersTwos_73 hl (k := 2) rfl (by rw [ex73]; rfl) (by decide) rfl (fun ls hl => ?_)
                refine lv_goto (tgt := 21) hx hb dX12_gathersTwos_76 (by decide) ?_
                exact ih21 x73 y73_fp0_32 (mu_up 1 hmu21 (qx73) (by decide) (show iv x73 1 10 from (bx73.mono (by decide) (by decide))).2) c73_y7_l1 (bx73.mono (by decide) (by decide)) c73_y73_fp0_32 (show y73_fp0_32.toInt ≤ tw_b y7_l1.toInt + (x73.toInt - y7_l1.toInt - 1) from by have := (c73_y73_fp0_32).1; have := (c73_y73_fp0_32).2; have := (c73_y7_l1).1; have := (c73_y7_l1).2; have := (bx73).1; have := (bx73).2; have := (c73_y21_l2).1; have := (c73_y21_l2).2; have : (1 : Int32).toInt = 1 := (by decide); omega) (show y7_l1.toInt + 1 ≤ x73.toInt from by have := (c73_y7_l1).1; have := (c73_y7_l1).2; have := (bx73).1; have := (bx73).2; have := (c73_y21_l2).1; have := (c73_y21_l2).2; have : (1 : Int32).toInt = 1 := (by decide); omega) H73 locs73 hw hkm f_p0_32 _ (lv_sub hl [1, 2, 0] rfl)
              refine lv_if_ne (tgt := 43) hx hb dX12_gathersTwos_37 (by decide) (fun c37 => ?_) (fun c37 => ?_)
              · have r37tp : iv x34 1 1 := (iv_ne_lo c37 bx34 rfl).mono (by decide) (by decide)
                have w43 : iv y21_fp0_32 0 44 := ⟨c21_y21_fp0_32.1, by have := (c21_y21_fp0_32).1; have := (c21_y21_fp0_32).2; have := (c21_y7_l1).1; have := (c21_y7_l1).2; have := (r28fp).1; have := (r28fp).2; have := (r28fq).1; have := (r28fq).2; have := (Int32.lt_iff_toInt_lt.mp (iv_nle c28)); have : (0 : Int32).toInt = 0 := (by decide); have t9 := tw_step y7_l1.toInt (by omega) (by omega); have t8 := tw_top (y7_l1.toInt + 1) (by omega) (by omega); omega⟩
                refine lv_aload_n hx hb dX12_gathersTwos_43 rfl (lv_at hl 0 rfl) ?_
                refine hp_getr hx hb hts IX12 hown hK hw.1 hp0 rfl 30 (by decide) L61 rfl dX12_gathersTwos_44 ?_
                refine lv_aload_n hx hb dX12_gathersTwos_47 rfl (lv_at hl 0 rfl) ?_
                refine hp_getf hx hb hts IX12 hown hK f_p0_32 rfl (by decide) L403 dX12_gathersTwos_48 ?_
                refine lv_iload_n hx hb dX12_gathersTwos_51 rfl (lv_at hl 1 rfl) ?_
                refine hp_iast hx hb hK hw hp0oneOf (vp_iv w43 (by decide)) ⟨_, rfl⟩ dX12_gathersTwos_52 (fun H52 locs52 hw g52 => ?_)
                have hkm := hkm.ar g52
                have f_p0_32 := g52 _ _ _ _ f_p0_32
                refine lv_aload_n hx hb dX12_gathersTwos_53 rfl (lv_at hl 0 rfl) ?_
                refine hp_getr hx hb hts IX12 hown hK hw.1 hp0 rfl 31 (by decide) L64 rfl dX12_gathersTwos_54 ?_
                refine lv_aload_n hx hb dX12_gathersTwos_57 rfl (lv_at hl 0 rfl) ?_
                refine hp_getf hx hb hts IX12 hown hK f_p0_32 rfl (by decide) L403 dX12_gathersTwos_58 ?_
                refine lv_iload_n hx hb dX12_gathersTwos_61 rfl (lv_at hl 2 rfl) ?_
                refine hp_iast hx hb hK hw hp0otherOf (vp_iv w43 (by decide)) ⟨_, rfl⟩ dX12_gathersTwos_62 (fun H62 locs62 hw g62 => ?_)
                have hkm := hkm.ar g62
                have f_p0_32 := g62 _ _ _ _ f_p0_32
                refine lv_aload_n hx hb dX12_gathersTwos_63 rfl (lv_at hl 0 rfl) ?_
                refine lv_dup hx hb dX12_gathersTwos_64 rfl ?_
                refine hp_getf hx hb hts IX12 hown hK f_p0_32 rfl (by decide) L403 dX12_gathersTwos_65 ?_
                refine lv_iconst (v := 1) hx hb dX12_gathersTwos_68 (by decide) ?_
                refine lv_iadd hx hb dX12_gathersTwos_69 ?_
                refine lv_topi (fun x69 ex69 => ?_)
                have bx69 : iv x69 1 45 := iv_add w43 (show iv 1 1 1 from ⟨by decide, by decide⟩) ex69 (by decide)
                have qx69 := iv_add_eq w43 (show iv 1 1 1 from ⟨by decide, by decide⟩) ex69 (by decide)
                refine hp_put hx hb hts IX12 tyX12 tyX12_ok nmX12 hown hK hw hp0 rfl 32 (by decide) L403 rfl rfl ⟨_, rfl, (bx69.mono (by decide) (by decide))⟩ rfl rfl dX12_gathersTwos_70 (fun H70 locs70 hw f70n g70 => ?_)
                have hkm := hkm.put g70 (by decide)
                exact J73 x69 c21_y7_l1 r28fp (bx69.mono (by decide) (by decide)) (show x69.toInt ≤ tw_b y7_l1.toInt + (y21_l2.toInt - y7_l1.toInt) from by have := (bx69).1; have := (bx69).2; have := (c21_y7_l1).1; have := (c21_y7_l1).2; have := (r28fp).1; have := (r28fp).2; have := (r28fq).1; have := (r28fq).2; have := (w43).1; have := (w43).2; have := (Int32.lt_iff_toInt_lt.mp (iv_nle c28)); have : (0 : Int32).toInt = 0 := (by decide); have : (1 : Int32).toInt = 1 := (by decide); omega) (show y7_l1.toInt + 1 ≤ y21_l2.toInt from by have := (c21_y7_l1).1; have := (c21_y7_l1).2; have := (r28fp).1; have := (r28fp).2; have := (r28fq).1; have := (r28fq).2; have := (Int32.lt_iff_toInt_lt.mp (iv_nle c28)); have : (0 : Int32).toInt = 0 := (by decide); omega) H70 locs70 hw hkm f70n _ (lv_sub hl [0, 1, 2] rfl)
              · have r37fp : iv x34 0 0 := (iv_both bx34 (iv_eq (show iv 0 0 0 from ⟨by decide, by decide⟩) c37)).mono (by decide) (by decide)
                refine lv_goto (tgt := 73) hx hb dX12_gathersTwos_40 (by decide) ?_
                exact J73 y21_fp0_32 c21_y7_l1 r28fp c21_y21_fp0_32 (show y21_fp0_32.toInt ≤ tw_b y7_l1.toInt + (y21_l2.toInt - y7_l1.toInt) from by have := (c21_y21_fp0_32).1; have := (c21_y21_fp0_32).2; have := (c21_y7_l1).1; have := (c21_y7_l1).2; have := (r28fp).1; have := (r28fp).2; have := (r28fq).1; have := (r28fq).2; have := (Int32.lt_iff_toInt_lt.mp (iv_nle c28)); omega) (show y7_l1.toInt + 1 ≤ y21_l2.toInt from by have := (c21_y7_l1).1; have := (c21_y7_l1).2; have := (r28fp).1; have := (r28fp).2; have := (r28fq).1; have := (r28fq).2; have := (Int32.lt_iff_toInt_lt.mp (iv_nle c28)); omega) H21 locs21 hw hkm f_p0_32 _ (lv_sub hl [0, 1, 2] rfl)
        exact J21 _ x19 y7_fp0_32 (Nat.lt_succ_self _) r14fp bx19 c7_y7_fp0_32 (show y7_fp0_32.toInt ≤ tw_b y7_l1.toInt + (x19.toInt - y7_l1.toInt - 1) from by have := (c7_y7_fp0_32).1; have := (c7_y7_fp0_32).2; have := (r14fp).1; have := (r14fp).2; have := (bx19).1; have := (bx19).2; have := (r14fq).1; have := (r14fq).2; have := (Int32.lt_iff_toInt_lt.mp (iv_nle c14)); have : (1 : Int32).toInt = 1 := (by decide); omega) (show y7_l1.toInt + 1 ≤ x19.toInt from by have := (r14fp).1; have := (r14fp).2; have := (bx19).1; have := (bx19).2; have := (r14fq).1; have := (r14fq).2; have := (Int32.lt_iff_toInt_lt.mp (iv_nle c14)); have : (1 : Int32).toInt = 1 := (by decide); omega) H7 locs7 hw hkm f_p0_32 _ (lv_sub hl [1, 2, 0] rfl)
  exact J7 _ (0 : Int32) (0 : Int32) (Nat.lt_succ_self _) (show iv 0 0 10 from ⟨by decide, by decide⟩) (show iv 0 0 45 from ⟨by decide, by decide⟩) (show 0 ≤ tw_b 0 from (by decide)) H2 locs2 hw hkm f2n _ (lv_sub hl [1, 0] rfl)
abbrev WX12_count (p : Program) (l : Launch) (e : Env) (s : State) (m : MethodId) (below : List Frame) (meth : Method) (c : Code) (D : hp_D) (T : hp_T) (ap0 : Nat) (xp1 : Int32) (H : Heap) (locs : List Loc) (g : JFrame) : Prop := W p l e (headSpec wsX12_count ({ frames := 4, cells := 0, slots := 0, locals := 90 })).room s m ([.ref ap0, .int xp1] : List Value).toArray below meth c H locs 0 0 (MQ below (hq_e D T (fun v _ _ => ∃ r : Int32, v = some (.int r) ∧ True)) ([.ref ap0, .int xp1] : List Value).toArray s 0 0 (hp_F T)) g
set_option maxHeartbeats 4000000 in
set_option maxRecDepth 100000 in
theorem sX12_count (l : Launch) (D : hp_D) (T : hp_T) (ap0 : Nat) (xp1 : Int32) (Gm : moG) (ip0 : isMo T ap0 Gm) : Met l yX12_count wsX12_count ({ frames := 4, cells := 0, slots := 0, locals := 90 }) (hp_Pc D T [.ref ap0, .int xp1] (fun _ => True)) (hq_e D T (fun v _ _ => ∃ r : Int32, v = some (.int r) ∧ True)) 0 0 (hp_F T) := by
  obtain ⟨ap0tape, ap0sign, ap0len, ap0clause, ap0clauses, ap0read, ap0opn, ap0stack, ap0word, ap0said, ap0was, ap0fitting, ap0sums, ap0sort, ap0sumsBy, ap0oneOf, ap0otherOf, ap0kept, ap0images, ap0acts, ap0iUnd, ap0iFor, ap0iX, ap0made, gok, hp0, hp0tape, hp0sign, hp0len, hp0clause, hp0clauses, hp0read, hp0opn, hp0stack, hp0word, hp0said, hp0was, hp0fitting, hp0sums, hp0sort, hp0sumsBy, hp0oneOf, hp0otherOf, hp0kept, hp0images, hp0acts, hp0iUnd, hp0iFor, hp0iX, hp0made⟩ := id ip0
  have hpx := gok.1
  have gsok := gok.2.2.2.2
  have ggd := gok.2.2.2.1
  refine Met.ofW (cc := cX12_count) (maxL := 4) (ret := (some .int)) (by decide) rfl ?_
  intro p e s m args below meth c s₁ B hml hv
  obtain ⟨rfl, hok, hG, hB⟩ := hv
  have hx := B.exec
  have hb := B.bytes
  have hr := B.returns
  have hts := atoms_spec (ws := wsX12_count) B.pre
  have hown : s.vm.findClass RX12 = some m.cls := findClass_of_methodNamed B.named
  have hlocks := B.notSynchronized
  have hK := hG.1
  have hw : hp_w D T s s.heap [] := hp_w.rf hok
  have IX12 : ∀ w ∈ wsX120, w ∈ wsX12_count := by decide +kernel
  have L39 := hts (.fieldLink RX12 39 "PalmCensusModel" "said" "[I") (by decide +kernel)
  have L267 := hts (.fieldLink RX12 267 "PalmCensusModel" "rules" "I") (by decide +kernel)
  have L42 := hts (.fieldLink RX12 42 "PalmCensusModel" "force" "I") (by decide +kernel)
  have L403 := hts (.fieldLink RX12 403 "PalmCensusModel" "twos" "I") (by decide +kernel)
  have L273 := hts (.fieldLink RX12 273 "PalmCensusModel" "undone" "I") (by decide +kernel)
  have L429 := hts (.fieldLink RX12 429 "PalmCensusModel" "x" "I") (by decide +kernel)
  have L89 := hts (.fieldLink RX12 89 "PalmCensusModel" "taped" "I") (by decide +kernel)
  have hl := lv_entry ([.ref ap0, .int xp1]) (n := 4) (Nat.le_of_ble_eq_true rfl)
  rw [lg_entry_eq]
  generalize (lg_sl ([.ref ap0, .int xp1]) ++ List.replicate (4 - (lg_sl ([.ref ap0, .int xp1])).length) Slot.unset).toArray = ls at hl ⊢
  have hl : lv_has ls 4 [(0, .ref ap0), (1, .int xp1)] := hl
  show WX12_count p l e s m below meth c D T ap0 xp1 s.heap [] (F0 m 0 ls [])
  refine lv_iconst (v := 0) hx hb dX12_count_0 (by decide) ?_
  refine lv_istore_n (lv' := [(2, .int 0), (0, .ref ap0), (1, .int xp1)]) hx hb dX12_count_1 rfl hl (by decide) rfl (fun ls hl => ?_)
  refine lv_iload_n hx hb dX12_count_2 rfl (lv_at hl 2 rfl) ?_
  have i3 := (iv_any xp1)
  unfold iv at i3
  rcases (show (xp1.toInt < 0 ∨ 12 < xp1.toInt) ∨ xp1.toInt = 0 ∨ xp1.toInt = 1 ∨ xp1.toInt = 2 ∨ xp1.toInt = 3 ∨ xp1.toInt = 4 ∨ xp1.toInt = 5 ∨ xp1.toInt = 6 ∨ xp1.toInt = 7 ∨ xp1.toInt = 8 ∨ xp1.toInt = 9 ∨ xp1.toInt = 10 ∨ xp1.toInt = 11 ∨ xp1.toInt = 12 from by omega) with s3 | s3 | s3 | s3 | s3 | s3 | s3 | s3 | s3 | s3 | s3 | s3 | s3 | s3
  · refine lv_tableOut (tgt := 173) hx hb dX12_count_3 s3 (by decide) ?_
    refine lv_iconst (v := (-1)) hx hb dX12_count_173 (by decide) ?_
    exact W.iret (v := (-1)) hx hb hr (fun t ht hW => ⟨some (.int (-1)), rfl, ⟨((-1) : Int32), rfl, trivial⟩, by rw [ht]; exact hw.1, hw.2.F ht⟩) hw.2.2.2 dX12_count_174
  · refine lv_tableIn (off := 65) (tgt := 68) hx hb dX12_count_3 (by omega) (by omega) (by rw [s3]; rfl) (by decide) ?_
    have r3k : iv xp1 0 0 := ⟨by omega, by omega⟩
    refine lv_aload_n hx hb dX12_count_68 rfl (lv_at hl 1 rfl) ?_
    refine hp_getr hx hb hts IX12 hown hK hw.1 hp0 rfl 20 (by decide) L39 rfl dX12_count_69 ?_
    refine lv_iload_n hx hb dX12_count_72 rfl (lv_at hl 2 rfl) ?_
    refine hp_iald hx hb hK hw.1 hp0said (vp_iv r3k (by decide)) dX12_count_73 (fun v73 hr73 => ?_)
    have h73 := gsok _ _ hr73
    obtain ⟨x73, rfl, bx73⟩ := sP_rd0 h73 r3k
    exact W.iret (v := x73) hx hb hr (fun t ht hW => ⟨some (.int x73), rfl, ⟨x73, rfl, trivial⟩, by rw [ht]; exact hw.1, hw.2.F ht⟩) hw.2.2.2 dX12_count_74
  · refine lv_tableIn (off := 65) (tgt := 68) hx hb dX12_count_3 (by omega) (by omega) (by rw [s3]; rfl) (by decide) ?_
    have r3k : iv xp1 1 1 := ⟨by omega, by omega⟩
    refine lv_aload_n hx hb dX12_count_68 rfl (lv_at hl 1 rfl) ?_
    refine hp_getr hx hb hts IX12 hown hK hw.1 hp0 rfl 20 (by decide) L39 rfl dX12_count_69 ?_
    refine lv_iload_n hx hb dX12_count_72 rfl (lv_at hl 2 rfl) ?_
    refine hp_iald hx hb hK hw.1 hp0said (vp_iv r3k (by decide)) dX12_count_73 (fun v73 hr73 => ?_)
    have h73 := gsok _ _ hr73
    obtain ⟨x73, rfl, bx73⟩ := sP_rd1 h73 r3k
    exact W.iret (v := x73) hx hb hr (fun t ht hW => ⟨some (.int x73), rfl, ⟨x73, rfl, trivial⟩, by rw [ht]; exact hw.1, hw.2.F ht⟩) hw.2.2.2 dX12_count_74
  · refine lv_tableIn (off := 65) (tgt := 68) hx hb dX12_count_3 (by omega) (by omega) (by rw [s3]; rfl) (by decide) ?_
    have r3k : iv xp1 2 2 := ⟨by omega, by omega⟩
    refine lv_aload_n hx hb dX12_count_68 rfl (lv_at hl 1 rfl) ?_
    refine hp_getr hx hb hts IX12 hown hK hw.1 hp0 rfl 20 (by decide) L39 rfl dX12_count_69 ?_
    refine lv_iload_n hx hb dX12_count_72 rfl (lv_at hl 2 rfl) ?_
    refine hp_iald hx hb hK hw.1 hp0said (vp_iv r3k (by decide)) dX12_count_73 (fun v73 hr73 => ?_)
    have h73 := gsok _ _ hr73
    obtain ⟨x73, rfl, bx73⟩ := sP_rd2 h73 r3k
    exact W.iret (v := x73) hx hb hr (fun t ht hW => ⟨some (.int x73), rfl, ⟨x73, rfl, trivial⟩, by rw [ht]; exact hw.1, hw.2.F ht⟩) hw.2.2.2 dX12_count_74
  · refine lv_tableIn (off := 72) (tgt := 75) hx hb dX12_count_3 (by omega) (by omega) (by rw [s3]; rfl) (by decide) ?_
    have r3k : iv xp1 3 3 := ⟨by omega, by omega⟩
    refine lv_aload_n hx hb dX12_count_75 rfl (lv_at hl 1 rfl) ?_
    refine hp_geti hx hb hts IX12 hown hK hw.1 hp0 rfl 2 (by decide) L267 rfl dX12_count_76 (fun x76 bx76 fx76 => ?_)
    exact W.iret (v := x76) hx hb hr (fun t ht hW => ⟨some (.int x76), rfl, ⟨x76, rfl, trivial⟩, by rw [ht]; exact hw.1, hw.2.F ht⟩) hw.2.2.2 dX12_count_79
  · refine lv_tableIn (off := 77) (tgt := 80) hx hb dX12_count_3 (by omega) (by omega) (by rw [s3]; rfl) (by decide) ?_
    have r3k : iv xp1 4 4 := ⟨by omega, by omega⟩
    refine lv_aload_n hx hb dX12_count_80 rfl (lv_at hl 1 rfl) ?_
    refine hp_geti hx hb hts IX12 hown hK hw.1 hp0 rfl 21 (by decide) L42 rfl dX12_count_81 (fun x81 bx81 fx81 => ?_)
    exact W.iret (v := x81) hx hb hr (fun t ht hW => ⟨some (.int x81), rfl, ⟨x81, rfl, trivial⟩, by rw [ht]; exact hw.1, hw.2.F ht⟩) hw.2.2.2 dX12_count_84
  · refine lv_tableIn (off := 82) (tgt := 85) hx hb dX12_count_3 (by omega) (by omega) (by rw [s3]; rfl) (by decide) ?_
    have r3k : iv xp1 5 5 := ⟨by omega, by omega⟩
    refine lv_aload_n hx hb dX12_count_85 rfl (lv_at hl 1 rfl) ?_
    refine hp_getr hx hb hts IX12 hown hK hw.1 hp0 rfl 20 (by decide) L39 rfl dX12_count_86 ?_
    refine lv_iconst (v := 3) hx hb dX12_count_89 (by decide) ?_
    refine hp_iald hx hb hK hw.1 hp0said (vp_iv (show iv 3 3 3 from ⟨by decide, by decide⟩) (by decide)) dX12_count_90 (fun v90 hr90 => ?_)
    have h90 := gsok _ _ hr90
    obtain ⟨x90, rfl⟩ := sP_any h90
    exact W.iret (v := x90) hx hb hr (fun t ht hW => ⟨some (.int x90), rfl, ⟨x90, rfl, trivial⟩, by rw [ht]; exact hw.1, hw.2.F ht⟩) hw.2.2.2 dX12_count_91
  · refine lv_tableIn (off := 89) (tgt := 92) hx hb dX12_count_3 (by omega) (by omega) (by rw [s3]; rfl) (by decide) ?_
    have r3k : iv xp1 6 6 := ⟨by omega, by omega⟩
    refine lv_aload_n hx hb dX12_count_92 rfl (lv_at hl 1 rfl) ?_
    refine hp_getr hx hb hts IX12 hown hK hw.1 hp0 rfl 20 (by decide) L39 rfl dX12_count_93 ?_
    refine lv_iconst (v := 4) hx hb dX12_count_96 (by decide) ?_
    refine hp_iald hx hb hK hw.1 hp0said (vp_iv (show iv 4 4 4 from ⟨by decide, by decide⟩) (by decide)) dX12_count_97 (fun v97 hr97 => ?_)
    have h97 := gsok _ _ hr97
    obtain ⟨x97, rfl⟩ := sP_any h97
    exact W.iret (v := x97) hx hb hr (fun t ht hW => ⟨some (.int x97), rfl, ⟨x97, rfl, trivial⟩, by rw [ht]; exact hw.1, hw.2.F ht⟩) hw.2.2.2 dX12_count_98
  · refine lv_tableIn (off := 96) (tgt := 99) hx hb dX12_count_3 (by omega) (by omega) (by rw [s3]; rfl) (by decide) ?_
    have r3k : iv xp1 7 7 := ⟨by omega, by omega⟩
    refine lv_aload_n hx hb dX12_count_99 rfl (lv_at hl 1 rfl) ?_
    refine hp_callev (va_runV (As := []) (rest := []) ⟨hx, hb, hml, hown, hts⟩ (sX12_gathersTwos l D T ap0 Gm ip0) (cwV 0 hts gX12_count_X12_gathersTwos rfl rfl rfl (by decide +kernel) ⟨Nat.le_of_ble_eq_true rfl, Nat.le_of_ble_eq_true rfl⟩) (hp_preV hG hw hp0 rfl trivial) rfl rfl hl.1 rfl (lv_room (Nat.le_of_ble_eq_true rfl)) dX12_count_100 ⟨Nat.zero_le _, Nat.zero_le _⟩) hw (fun st100 t100 H100 locs100 eh100 eg100 bx100 hw => ?_)
    obtain ⟨bx100, g100⟩ := bx100
    rw [eh100, eg100] at g100
    refine lv_aload_n hx hb dX12_count_103 rfl (lv_at hl 1 rfl) ?_
    refine hp_geti hx hb hts IX12 hown hK hw.1 hp0 rfl 32 (by decide) L403 rfl dX12_count_104 (fun x104 bx104 fx104 => ?_)
    exact W.iret (v := x104) hx hb hr (fun t ht hW => ⟨some (.int x104), rfl, ⟨x104, rfl, trivial⟩, by rw [ht]; exact hw.1, hw.2.F ht⟩) hw.2.2.2 dX12_count_107
  · refine lv_tableIn (off := 105) (tgt := 108) hx hb dX12_count_3 (by omega) (by omega) (by rw [s3]; rfl) (by decide) ?_
    have r3k : iv xp1 8 8 := ⟨by omega, by omega⟩
    refine lv_aload_n hx hb dX12_count_108 rfl (lv_at hl 1 rfl) ?_
    refine hp_getr hx hb hts IX12 hown hK hw.1 hp0 rfl 20 (by decide) L39 rfl dX12_count_109 ?_
    refine lv_sipush (v := 210) hx hb dX12_count_112 (by decide) ?_
    refine hp_iald hx hb hK hw.1 hp0said (vp_iv (show iv 210 210 210 from ⟨by decide, by decide⟩) (by decide)) dX12_count_115 (fun v115 hr115 => ?_)
    have h115 := gsok _ _ hr115
    obtain ⟨x115, rfl, bx115⟩ := sP_rd210 h115 (show iv 210 210 210 from ⟨by decide, by decide⟩)
    exact W.iret (v := x115) hx hb hr (fun t ht hW => ⟨some (.int x115), rfl, ⟨x115, rfl, trivial⟩, by rw [ht]; exact hw.1, hw.2.F ht⟩) hw.2.2.2 dX12_count_116
  · refine lv_tableIn (off := 114) (tgt := 117) hx hb dX12_count_3 (by omega) (by omega) (by rw [s3]; rfl) (by decide) ?_
    have r3k : iv xp1 9 9 := ⟨by omega, by omega⟩
    refine lv_iconst (v := 0) hx hb dX12_count_117 (by decide) ?_
    refine lv_istore_n (lv' := [(3, .int 0), (2, .int 0), (0, .ref ap0), (1, .int xp1)]) hx hb dX12_count_118 rfl hl (by decide) rfl (fun ls hl => ?_)
    have J119 : ∀ (n : Nat) (y119_l2 y119_l3 : Int32), (10 - y119_l3.toInt).toNat < n → iv y119_l3 0 10 → ∀ (H : Heap) (locs : List Loc), hp_w D T s H locs → ∀ (ls : Array Slot), lv_has ls 4 [(0, .ref ap0), (2, .int y119_l2), (3, .int y119_l3)] → WX12_count p l e s m below meth c D T ap0 xp1 H locs (F0 m 119 ls []) := by
      intro n
      induction n with
      | zero => intro y119_l2 y119_l3 hmu119 c119_y119_l3 H119 locs119 hw ls hl; exact absurd hmu119 (Nat.not_lt_zero _)
      | succ n ih119 =>
        intro y119_l2 y119_l3 hmu119 c119_y119_l3 H119 locs119 hw ls hl
        refine lv_iload_n hx hb dX12_count_119 rfl (lv_at hl 2 rfl) ?_
        refine lv_aload_n hx hb dX12_count_120 rfl (lv_at hl 0 rfl) ?_
        refine hp_getr hx hb hts IX12 hown hK hw.1 hp0 rfl 20 (by decide) L39 rfl dX12_count_121 ?_
        refine lv_iconst (v := 2) hx hb dX12_count_124 (by decide) ?_
        refine hp_iald hx hb hK hw.1 hp0said (vp_iv (show iv 2 2 2 from ⟨by decide, by decide⟩) (by decide)) dX12_count_125 (fun v125 hr125 => ?_)
        have h125 := gsok _ _ hr125
        obtain ⟨x125, rfl, bx125⟩ := sP_rd2 h125 (show iv 2 2 2 from ⟨by decide, by decide⟩)
        refine lv_icmp_ge (tgt := 156) hx hb dX12_count_126 (by decide) (fun c126 => ?_) (fun c126 => ?_)
        · refine lv_iload_n hx hb dX12_count_156 rfl (lv_at hl 1 rfl) ?_
          exact W.iret (v := y119_l2) hx hb hr (fun t ht hW => ⟨some (.int y119_l2), rfl, ⟨y119_l2, rfl, trivial⟩, by rw [ht]; exact hw.1, hw.2.F ht⟩) hw.2.2.2 dX12_count_157
        · have r126fp : iv y119_l3 0 9 := (iv_lt_l (iv_nle c126) c119_y119_l3 bx125).mono (by decide) (by decide)
          have r126fq : iv x125 1 10 := (iv_lt_r (iv_nle c126) c119_y119_l3 bx125).mono (by decide) (by decide)
          refine lv_iload_n hx hb dX12_count_129 rfl (lv_at hl 1 rfl) ?_
          refine lv_aload_n hx hb dX12_count_130 rfl (lv_at hl 0 rfl) ?_
          refine hp_getr hx hb hts IX12 hown hK hw.1 hp0 rfl 20 (by decide) L39 rfl dX12_count_131 ?_
          refine lv_sipush (v := 200) hx hb dX12_count_134 (by decide) ?_
          refine lv_iload_n hx hb dX12_count_137 rfl (lv_at hl 2 rfl) ?_
          refine lv_iadd hx hb dX12_count_138 ?_
          refine lv_topi (fun x138 ex138 => ?_)
          have bx138 : iv x138 200 209 := iv_add (show iv 200 200 200 from ⟨by decide, by decide⟩) r126fp ex138 (by decide)
          have qx138 := iv_add_eq (show iv 200 200 200 from ⟨by decide, by decide⟩) r126fp ex138 (by decide)
          refine hp_iald hx hb hK hw.1 hp0said (vp_iv bx138 (by decide)) dX12_count_139 (fun v139 hr139 => ?_)
          have h139 := gsok _ _ hr139
          obtain ⟨x139, rfl⟩ := sP_any h139
          have J148 : ∀ (y148_s1 : Int32), iv y119_l3 0 9 → iv y148_s1 0 1 → ∀ (H : Heap) (locs : List Loc), hp_w D T s H locs → ∀ (ls : Array Slot), lv_has ls 4 [(0, .ref ap0), (3, .int y119_l3)] → WX12_count p l e s m below meth c D T ap0 xp1 H locs (F0 m 148 ls [.int y148_s1, .int y119_l2]) := by
            intro y148_s1 c148_y119_l3 c148_y148_s1 H148 locs148 hw ls hl
            refine lv_iadd hx hb dX12_count_148 ?_
            refine lv_topi (fun x148 ex148 => ?_)
            refine lv_istore_n (lv' := [(2, .int x148), (0, .ref ap0), (3, .int y119_l3)]) hx hb dX12_count_149 rfl hl (by decide) rfl (fun ls hl => ?_)
            obtain ⟨x150, ex150⟩ : ∃ y : Int32, y = y119_l3 + 1 := ⟨_, rfl⟩
            have bx150 : iv x150 1 10 := iv_add c148_y119_l3 (show iv 1 1 1 from ⟨by decide, by decide⟩) ex150 (by decide)
            have qx150 := iv_add_eq c148_y119_l3 (show iv 1 1 1 from ⟨by decide, by decide⟩) ex150 (by decide)
            refine lv_iinc (v := x150) (lv' := [(3, .int x150), (2, .int x148), (0, .ref ap0)]) hx hb dX12_count_150 hl (k := 2) rfl (by rw [ex150]; rfl) (by decide) rfl (fun ls hl => ?_)
            refine lv_goto (tgt := 119) hx hb dX12_count_153 (by decide) ?_
            exact ih119 x148 x150 (mu_up 1 hmu119 (qx150) (by decide) (show iv x150 0 10 from (bx150.mono (by decide) (by decide))).2) (bx150.mono (by decide) (by decide)) H148 locs148 hw _ (lv_sub hl [2, 1, 0] rfl)
          refine lv_if_ge (tgt := 147) hx hb dX12_count_140 (by decide) (fun c140 => ?_) (fun c140 => ?_)
          · have r140tq : iv x139 0 2147483647 := (iv_le_r c140 (show iv 0 0 0 from ⟨by decide, by decide⟩) (iv_any x139)).mono (by decide) (by decide)
            refine lv_iconst (v := 1) hx hb dX12_count_147 (by decide) ?_
            exact J148 (1 : Int32) r126fp (show iv 1 0 1 from ⟨by decide, by decide⟩) H119 locs119 hw _ (lv_sub hl [0, 2] rfl)
          · have r140fp : iv x139 (-2147483648) (-1) := (iv_lt_l (iv_nle c140) (iv_any x139) (show iv 0 0 0 from ⟨by decide, by decide⟩)).mono (by decide) (by decide)
            refine lv_iconst (v := 0) hx hb dX12_count_143 (by decide) ?_
            refine lv_goto (tgt := 148) hx hb dX12_count_144 (by decide) ?_
            exact J148 (0 : Int32) r126fp (show iv 0 0 1 from ⟨by decide, by decide⟩) H119 locs119 hw _ (lv_sub hl [0, 2] rfl)
    exact J119 _ (0 : Int32) (0 : Int32) (Nat.lt_succ_self _) (show iv 0 0 10 from ⟨by decide, by decide⟩) s.heap [] hw _ (lv_sub hl [2, 1, 0] rfl)
  · refine lv_tableIn (off := 155) (tgt := 158) hx hb dX12_count_3 (by omega) (by omega) (by rw [s3]; rfl) (by decide) ?_
    have r3k : iv xp1 10 10 := ⟨by omega, by omega⟩
    refine lv_aload_n hx hb dX12_count_158 rfl (lv_at hl 1 rfl) ?_
    refine hp_geti hx hb hts IX12 hown hK hw.1 hp0 rfl 24 (by decide) L273 rfl dX12_count_159 (fun x159 bx159 fx159 => ?_)
    exact W.iret (v := x159) hx hb hr (fun t ht hW => ⟨some (.int x159), rfl, ⟨x159, rfl, trivial⟩, by rw [ht]; exact hw.1, hw.2.F ht⟩) hw.2.2.2 dX12_count_162
  · refine lv_tableIn (off := 160) (tgt := 163) hx hb dX12_count_3 (by omega) (by omega) (by rw [s3]; rfl) (by decide) ?_
    have r3k : iv xp1 11 11 := ⟨by omega, by omega⟩
    refine lv_aload_n hx hb dX12_count_163 rfl (lv_at hl 1 rfl) ?_
    refine hp_get hx hb hts IX12 hown hK hw.1 hp0 rfl 22 (by decide) L429 rfl dX12_count_164 (fun v164 h164 fx164 => ?_)
    obtain ⟨x164, rfl⟩ := hpx v164 h164
    exact W.iret (v := x164) hx hb hr (fun t ht hW => ⟨some (.int x164), rfl, ⟨x164, rfl, trivial⟩, by rw [ht]; exact hw.1, hw.2.F ht⟩) hw.2.2.2 dX12_count_167
  · refine lv_tableIn (off := 165) (tgt := 168) hx hb dX12_count_3 (by omega) (by omega) (by rw [s3]; rfl) (by decide) ?_
    have r3k : iv xp1 12 12 := ⟨by omega, by omega⟩
    refine lv_aload_n hx hb dX12_count_168 rfl (lv_at hl 1 rfl) ?_
    refine hp_geti hx hb hts IX12 hown hK hw.1 hp0 rfl 1 (by decide) L89 rfl dX12_count_169 (fun x169 bx169 fx169 => ?_)
    exact W.iret (v := x169) hx hb hr (fun t ht hW => ⟨some (.int x169), rfl, ⟨x169, rfl, trivial⟩, by rw [ht]; exact hw.1, hw.2.F ht⟩) hw.2.2.2 dX12_count_172
abbrev WX12_push (p : Program) (l : Launch) (e : Env) (s : State) (m : MethodId) (below : List Frame) (meth : Method) (c : Code) (D : hp_D) (T : hp_T) (ap0 : Nat) (xp1 : Int64) (xp100 : Int32) (H : Heap) (locs : List Loc) (g : JFrame) : Prop := W p l e (headSpec wsX12_push ({ frames := 0, cells := 0, slots := 0, locals := 0 })).room s m ([.ref ap0, .long xp1] : List Value).toArray below meth c H locs 0 0 (MQ below (hq_e D T (fun v st t => v = none ∧ ((True) ∧ hp_km D [(12, 18)] st.heap t.heap ∧ ∃ y : Int32, hp_f D t.heap ap0 12 18 (.int y) ∧ iv y 1 64 ∧ y.toInt = xp100.toInt + 1))) ([.ref ap0, .long xp1] : List Value).toArray s 0 0 (hp_F T)) g
set_option maxHeartbeats 4000000 in
set_option maxRecDepth 100000 in
theorem sX12_push (l : Launch) (D : hp_D) (T : hp_T) (ap0 : Nat) (xp1 : Int64) (xp100 : Int32) (Gm : moG) (ip0 : isMo T ap0 Gm) (bp100 : iv xp100 0 63) : Met l yX12_push wsX12_push ({ frames := 0, cells := 0, slots := 0, locals := 0 }) (hp_Pc D T [.ref ap0, .long xp1] (fun H => hp_f D H ap0 12 18 (.int xp100))) (hq_e D T (fun v st t => v = none ∧ ((True) ∧ hp_km D [(12, 18)] st.heap t.heap ∧ ∃ y : Int32, hp_f D t.heap ap0 12 18 (.int y) ∧ iv y 1 64 ∧ y.toInt = xp100.toInt + 1))) 0 0 (hp_F T) := by
  obtain ⟨ap0tape, ap0sign, ap0len, ap0clause, ap0clauses, ap0read, ap0opn, ap0stack, ap0word, ap0said, ap0was, ap0fitting, ap0sums, ap0sort, ap0sumsBy, ap0oneOf, ap0otherOf, ap0kept, ap0images, ap0acts, ap0iUnd, ap0iFor, ap0iX, ap0made, gok, hp0, hp0tape, hp0sign, hp0len, hp0clause, hp0clauses, hp0read, hp0opn, hp0stack, hp0word, hp0said, hp0was, hp0fitting, hp0sums, hp0sort, hp0sumsBy, hp0oneOf, hp0otherOf, hp0kept, hp0images, hp0acts, hp0iUnd, hp0iFor, hp0iX, hp0made⟩ := id ip0
  have hpx := gok.1
  have gsok := gok.2.2.2.2
  have ggd := gok.2.2.2.1
  refine Met.ofW (cc := cX12_push) (maxL := 3) (ret := none) (by decide) rfl ?_
  intro p e s m args below meth c s₁ B hml hv
  obtain ⟨rfl, hok, hG, hB⟩ := hv
  have hx := B.exec
  have hb := B.bytes
  have hr := B.returns
  have hts := atoms_spec (ws := wsX12_push) B.pre
  have hown : s.vm.findClass RX12 = some m.cls := findClass_of_methodNamed B.named
  have hlocks := B.notSynchronized
  have hK := hG.1
  have hw : hp_w D T s s.heap [] := hp_w.rf hok
  have IX12 : ∀ w ∈ wsX120, w ∈ wsX12_push := by decide +kernel
  have L32 := hts (.fieldLink RX12 32 "PalmCensusModel" "stack" "[J") (by decide +kernel)
  have L276 := hts (.fieldLink RX12 276 "PalmCensusModel" "top" "I") (by decide +kernel)
  have hkm : hp_km D [(12, 18)] s.heap s.heap := fun _ _ _ _ h _ => h
  have hl := lv_entry ([.ref ap0, .long xp1]) (n := 3) (Nat.le_of_ble_eq_true rfl)
  rw [lg_entry_eq]
  generalize (lg_sl ([.ref ap0, .long xp1]) ++ List.replicate (3 - (lg_sl ([.ref ap0, .long xp1])).length) Slot.unset).toArray = ls at hl ⊢
  have hl : lv_has ls 3 [(0, .ref ap0), (1, .long xp1)] := hl
  show WX12_push p l e s m below meth c D T ap0 xp1 xp100 s.heap [] (F0 m 0 ls [])
  refine lv_aload_n hx hb dX12_push_0 rfl (lv_at hl 0 rfl) ?_
  refine hp_getr hx hb hts IX12 hown hK hw.1 hp0 rfl 17 (by decide) L32 rfl dX12_push_1 ?_
  refine lv_aload_n hx hb dX12_push_4 rfl (lv_at hl 0 rfl) ?_
  refine hp_getf hx hb hts IX12 hown hK hB rfl (by decide) L276 dX12_push_5 ?_
  refine lv_lload_n hx hb dX12_push_8 rfl (lv_at hl 1 rfl) ?_
  refine hp_lastA hx hb hK hw hp0stack (vp_iv bp100 (by decide)) dX12_push_9 (fun H9 locs9 hw g9 => ?_)
  have hkm := hkm.ar g9
  have f_p0_18 := g9 _ _ _ _ hB
  refine lv_aload_n hx hb dX12_push_10 rfl (lv_at hl 0 rfl) ?_
  refine lv_dup hx hb dX12_push_11 rfl ?_
  refine hp_getf hx hb hts IX12 hown hK f_p0_18 rfl (by decide) L276 dX12_push_12 ?_
  refine lv_iconst (v := 1) hx hb dX12_push_15 (by decide) ?_
  refine lv_iadd hx hb dX12_push_16 ?_
  refine lv_topi (fun x16 ex16 => ?_)
  have bx16 : iv x16 1 64 := iv_add bp100 (show iv 1 1 1 from ⟨by decide, by decide⟩) ex16 (by decide)
  have qx16 := iv_add_eq bp100 (show iv 1 1 1 from ⟨by decide, by decide⟩) ex16 (by decide)
  refine hp_put hx hb hts IX12 tyX12 tyX12_ok nmX12 hown hK hw hp0 rfl 18 (by decide) L276 rfl rfl ⟨_, rfl, (bx16.mono (by decide) (by decide))⟩ rfl rfl dX12_push_17 (fun H17 locs17 hw f17n g17 => ?_)
  have hkm := hkm.put g17 (by decide)
  exact W.vret hx hb hr (fun t ht hW => ⟨none, rfl, ⟨rfl, ⟨trivial, by rw [ht]; exact hkm, x16, by rw [ht]; exact f17n, bx16, qx16⟩⟩, by rw [ht]; exact hw.1, hw.2.F ht⟩) hw.2.2.2 dX12_push_20
abbrev WX12_pop (p : Program) (l : Launch) (e : Env) (s : State) (m : MethodId) (below : List Frame) (meth : Method) (c : Code) (D : hp_D) (T : hp_T) (ap0 : Nat) (xp100 : Int32) (H : Heap) (locs : List Loc) (g : JFrame) : Prop := W p l e (headSpec wsX12_pop ({ frames := 0, cells := 0, slots := 0, locals := 0 })).room s m ([.ref ap0] : List Value).toArray below meth c H locs 0 0 (MQ below (hq_e D T (fun v st t => ∃ r : Int64, v = some (.long r) ∧ ((True) ∧ hp_km D [(12, 18)] st.heap t.heap ∧ ∃ y : Int32, hp_f D t.heap ap0 12 18 (.int y) ∧ iv y 0 63 ∧ y.toInt = xp100.toInt - 1))) ([.ref ap0] : List Value).toArray s 0 0 (hp_F T)) g
set_option maxHeartbeats 4000000 in
set_option maxRecDepth 100000 in
theorem sX12_pop (l : Launch) (D : hp_D) (T : hp_T) (ap0 : Nat) (xp100 : Int32) (Gm : moG) (ip0 : isMo T ap0 Gm) (bp100 : iv xp100 1 64) : Met l yX12_pop wsX12_pop ({ frames := 0, cells := 0, slots := 0, locals := 0 }) (hp_Pc D T [.ref ap0] (fun H => hp_f D H ap0 12 18 (.int xp100))) (hq_e D T (fun v st t => ∃ r : Int64, v = some (.long r) ∧ ((True) ∧ hp_km D [(12, 18)] st.heap t.heap ∧ ∃ y : Int32, hp_f D t.heap ap0 12 18 (.int y) ∧ iv y 0 63 ∧ y.toInt = xp100.toInt - 1))) 0 0 (hp_F T) := by
  obtain ⟨ap0tape, ap0sign, ap0len, ap0clause, ap0clauses, ap0read, ap0opn, ap0stack, ap0word, ap0said, ap0was, ap0fitting, ap0sums, ap0sort, ap0sumsBy, ap0oneOf, ap0otherOf, ap0kept, ap0images, ap0acts, ap0iUnd, ap0iFor, ap0iX, ap0made, gok, hp0, hp0tape, hp0sign, hp0len, hp0clause, hp0clauses, hp0read, hp0opn, hp0stack, hp0word, hp0said, hp0was, hp0fitting, hp0sums, hp0sort, hp0sumsBy, hp0oneOf, hp0otherOf, hp0kept, hp0images, hp0acts, hp0iUnd, hp0iFor, hp0iX, hp0made⟩ := id ip0
  have hpx := gok.1
  have gsok := gok.2.2.2.2
  have ggd := gok.2.2.2.1
  refine Met.ofW (cc := cX12_pop) (maxL := 1) (ret := (some .long)) (by decide) rfl ?_
  intro p e s m args below meth c s₁ B hml hv
  obtain ⟨rfl, hok, hG, hB⟩ := hv
  have hx := B.exec
  have hb := B.bytes
  have hr := B.returns
  have hts := atoms_spec (ws := wsX12_pop) B.pre
  have hown : s.vm.findClass RX12 = some m.cls := findClass_of_methodNamed B.named
  have hlocks := B.notSynchronized
  have hK := hG.1
  have hw : hp_w D T s s.heap [] := hp_w.rf hok
  have IX12 : ∀ w ∈ wsX120, w ∈ wsX12_pop := by decide +kernel
  have L276 := hts (.fieldLink RX12 276 "PalmCensusModel" "top" "I") (by decide +kernel)
  have L32 := hts (.fieldLink RX12 32 "PalmCensusModel" "stack" "[J") (by decide +kernel)
  have hkm : hp_km D [(12, 18)] s.heap s.heap := fun _ _ _ _ h _ => h
  have hl := lv_entry ([.ref ap0]) (n := 1) (Nat.le_of_ble_eq_true rfl)
  rw [lg_entry_eq]
  generalize (lg_sl ([.ref ap0]) ++ List.replicate (1 - (lg_sl ([.ref ap0])).length) Slot.unset).toArray = ls at hl ⊢
  have hl : lv_has ls 1 [(0, .ref ap0)] := hl
  show WX12_pop p l e s m below meth c D T ap0 xp100 s.heap [] (F0 m 0 ls [])
  refine lv_aload_n hx hb dX12_pop_0 rfl (lv_at hl 0 rfl) ?_
  refine lv_dup hx hb dX12_pop_1 rfl ?_
  refine hp_getf hx hb hts IX12 hown hK hB rfl (by decide) L276 dX12_pop_2 ?_
  refine lv_iconst (v := 1) hx hb dX12_pop_5 (by decide) ?_
  refine lv_isub hx hb dX12_pop_6 ?_
  refine lv_topi (fun x6 ex6 => ?_)
  have bx6 : iv x6 0 63 := iv_sub bp100 (show iv 1 1 1 from ⟨by decide, by decide⟩) ex6 (by decide)
  have qx6 := iv_sub_eq bp100 (show iv 1 1 1 from ⟨by decide, by decide⟩) ex6 (by decide)
  refine hp_put hx hb hts IX12 tyX12 tyX12_ok nmX12 hown hK hw hp0 rfl 18 (by decide) L276 rfl rfl ⟨_, rfl, (bx6.mono (by decide) (by decide))⟩ rfl rfl dX12_pop_7 (fun H7 locs7 hw f7n g7 => ?_)
  have hkm := hkm.put g7 (by decide)
  refine lv_aload_n hx hb dX12_pop_10 rfl (lv_at hl 0 rfl) ?_
  refine hp_getr hx hb hts IX12 hown hK hw.1 hp0 rfl 17 (by decide) L32 rfl dX12_pop_11 ?_
  refine lv_aload_n hx hb dX12_pop_14 rfl (lv_at hl 0 rfl) ?_
  refine hp_getf hx hb hts IX12 hown hK f7n rfl (by decide) L276 dX12_pop_15 ?_
  refine hp_laldA hx hb hK hw.1 hp0stack (vp_iv bx6 (by decide)) dX12_pop_18 (fun x18 => ?_)
  exact W.lret (v := x18) hx hb hr (fun t ht hW => ⟨some (.long x18), rfl, ⟨x18, rfl, ⟨trivial, by rw [ht]; exact hkm, x6, by rw [ht]; exact f7n, bx6, qx6⟩⟩, by rw [ht]; exact hw.1, hw.2.F ht⟩) hw.2.2.2 dX12_pop_19
abbrev WX12_reckons (p : Program) (l : Launch) (e : Env) (s : State) (m : MethodId) (below : List Frame) (meth : Method) (c : Code) (D : hp_D) (T : hp_T) (ap0 : Nat) (xp1 : Int32) (xp2 : Int32) (xp3 : Int32) (H : Heap) (locs : List Loc) (g : JFrame) : Prop := W p l e (headSpec wsX12_reckons ({ frames := 1, cells := 0, slots := 0, locals := 24 })).room s m ([.ref ap0, .int xp1, .int xp2, .int xp3] : List Value).toArray below meth c H locs 0 0 (MQ below (hq_e D T (fun v st t => ∃ r : Int64, v = some (.long r) ∧ ((True) ∧ hp_km D [(12, 18)] st.heap t.heap))) ([.ref ap0, .int xp1, .int xp2, .int xp3] : List Value).toArray s 0 0 (hp_F T)) g
set_option maxHeartbeats 4000000 in
set_option maxRecDepth 100000 in
theorem sX12_reckons (l : Launch) (D : hp_D) (T : hp_T) (ap0 : Nat) (xp1 : Int32) (xp2 : Int32) (xp3 : Int32) (Gm : moG) (ip0 : isMo T ap0 Gm) (hcg : c_g (gS Gm) xp1.toInt.toNat xp2 xp3) (bp1 : iv xp1 0 5) (bp2 : iv xp2 0 400) (bp3 : iv xp3 0 400) : Met l yX12_reckons wsX12_reckons ({ frames := 1, cells := 0, slots := 0, locals := 24 }) (hp_Pc D T [.ref ap0, .int xp1, .int xp2, .int xp3] (fun _ => True)) (hq_e D T (fun v st t => ∃ r : Int64, v = some (.long r) ∧ ((True) ∧ hp_km D [(12, 18)] st.heap t.heap))) 0 0 (hp_F T) := by
  obtain ⟨ap0tape, ap0sign, ap0len, ap0clause, ap0clauses, ap0read, ap0opn, ap0stack, ap0word, ap0said, ap0was, ap0fitting, ap0sums, ap0sort, ap0sumsBy, ap0oneOf, ap0otherOf, ap0kept, ap0images, ap0acts, ap0iUnd, ap0iFor, ap0iX, ap0made, gok, hp0, hp0tape, hp0sign, hp0len, hp0clause, hp0clauses, hp0read, hp0opn, hp0stack, hp0word, hp0said, hp0was, hp0fitting, hp0sums, hp0sort, hp0sumsBy, hp0oneOf, hp0otherOf, hp0kept, hp0images, hp0acts, hp0iUnd, hp0iFor, hp0iX, hp0made⟩ := id ip0
  have hpx := gok.1
  have gsok := gok.2.2.2.2
  have ggd := gok.2.2.2.1
  refine Met.ofW (cc := cX12_reckons) (maxL := 11) (ret := (some .long)) (by decide) rfl ?_
  intro p e s m args below meth c s₁ B hml hv
  obtain ⟨rfl, hok, hG, hB⟩ := hv
  have hx := B.exec
  have hb := B.bytes
  have hr := B.returns
  have hts := atoms_spec (ws := wsX12_reckons) B.pre
  have hown : s.vm.findClass RX12 = some m.cls := findClass_of_methodNamed B.named
  have hlocks := B.notSynchronized
  have hK := hG.1
  have hw : hp_w D T s s.heap [] := hp_w.rf hok
  have IX12 : ∀ w ∈ wsX120, w ∈ wsX12_reckons := by decide +kernel
  have L276 := hts (.fieldLink RX12 276 "PalmCensusModel" "top" "I") (by decide +kernel)
  have L13 := hts (.fieldLink RX12 13 "PalmCensusModel" "sign" "[I") (by decide +kernel)
  have L36 := hts (.fieldLink RX12 36 "PalmCensusModel" "word" "[J") (by decide +kernel)
  have hkm : hp_km D [(12, 18)] s.heap s.heap := fun _ _ _ _ h _ => h
  have hl := lv_entry ([.ref ap0, .int xp1, .int xp2, .int xp3]) (n := 11) (Nat.le_of_ble_eq_true rfl)
  rw [lg_entry_eq]
  generalize (lg_sl ([.ref ap0, .int xp1, .int xp2, .int xp3]) ++ List.replicate (11 - (lg_sl ([.ref ap0, .int xp1, .int xp2, .int xp3])).length) Slot.unset).toArray = ls at hl ⊢
  have hl : lv_has ls 11 [(0, .ref ap0), (1, .int xp1), (2, .int xp2), (3, .int xp3)] := hl
  show WX12_reckons p l e s m below meth c D T ap0 xp1 xp2 xp3 s.heap [] (F0 m 0 ls [])
  obtain ⟨x9000op0_18, bx9000op0_18, fx9000op0_18⟩ := hp_opI hw.1 hp0 18 rfl
  refine lv_aload_n hx hb dX12_reckons_0 rfl (lv_at hl 0 rfl) ?_
  refine lv_iconst (v := 0) hx hb dX12_reckons_1 (by decide) ?_
  refine hp_put hx hb hts IX12 tyX12 tyX12_ok nmX12 hown hK hw hp0 rfl 18 (by decide) L276 rfl rfl ⟨_, rfl, (show iv 0 0 64 from ⟨by decide, by decide⟩)⟩ rfl rfl dX12_reckons_2 (fun H2 locs2 hw f2n g2 => ?_)
  have hkm := hkm.put g2 (by decide)
  refine lv_iload_n hx hb dX12_reckons_5 rfl (lv_at hl 2 rfl) ?_
  refine lv_istore (lv' := [(4, .int xp2), (0, .ref ap0), (1, .int xp1), (2, .int xp2), (3, .int xp3)]) hx hb dX12_reckons_6 hl (by decide) rfl (fun ls hl => ?_)
  have J8 : ∀ (n : Nat) (y8_l4 y8_fp0_18 : Int32), (400 - y8_l4.toInt).toNat < n → iv xp1 0 5 → iv xp3 0 400 → iv y8_l4 0 400 → iv y8_fp0_18 0 64 → c_x (gS Gm) (400 * xp1.toInt.toNat + (y8_l4.toInt).toNat) (xp3.toInt - y8_l4.toInt).toNat (y8_fp0_18.toInt : Int).toNat 1 → ∀ (H : Heap) (locs : List Loc), hp_w D T s H locs → hp_km D [(12, 18)] s.heap H → hp_f D H ap0 12 18 (.int y8_fp0_18) → ∀ (ls : Array Slot), lv_has ls 11 [(0, .ref ap0), (1, .int xp1), (3, .int xp3), (4, .int y8_l4)] → WX12_reckons p l e s m below meth c D T ap0 xp1 xp2 xp3 H locs (F0 m 8 ls []) := by
    intro n
    induction n with
    | zero => intro y8_l4 y8_fp0_18 hmu8 c8_xp1 c8_xp3 c8_y8_l4 c8_y8_fp0_18 hv8_0 H8 locs8 hw hkm f_p0_18 ls hl; exact absurd hmu8 (Nat.not_lt_zero _)
    | succ n ih8 =>
      intro y8_l4 y8_fp0_18 hmu8 c8_xp1 c8_xp3 c8_y8_l4 c8_y8_fp0_18 hv8_0 H8 locs8 hw hkm f_p0_18 ls hl
      refine lv_iload hx hb dX12_reckons_8 (lv_at hl 3 rfl) ?_
      refine lv_iload_n hx hb dX12_reckons_10 rfl (lv_at hl 2 rfl) ?_
      refine lv_icmp_ge (tgt := 135) hx hb dX12_reckons_11 (by decide) (fun c11 => ?_) (fun c11 => ?_)
      · have hc1 := c_x_end hv8_0 (by have := (c8_y8_l4).1; have := (c8_y8_l4).2; have := (c8_xp3).1; have := (c8_xp3).2; have := (Int32.le_iff_toInt_le.mp c11); omega)
        have wE : iv y8_fp0_18 1 1 := by have a1 := (c8_y8_fp0_18).1; exact ⟨by omega, by omega⟩
        refine lv_aload_n hx hb dX12_reckons_135 rfl (lv_at hl 0 rfl) ?_
        refine hp_callel (va_runV (As := []) (rest := []) ⟨hx, hb, hml, hown, hts⟩ (sX12_pop l D T ap0 y8_fp0_18 Gm ip0 (wE.mono (by decide) (by decide))) (cwV 0 hts gX12_reckons_X12_pop rfl rfl rfl (by decide +kernel) ⟨Nat.le_of_ble_eq_true rfl, Nat.le_of_ble_eq_true rfl⟩) (hp_preV hG hw hp0 rfl f_p0_18) rfl rfl hl.1 rfl (lv_room (Nat.le_of_ble_eq_true rfl)) dX12_reckons_136 ⟨Nat.zero_le _, Nat.zero_le _⟩) hw (fun x136 st136 t136 H136 locs136 eh136 eg136 bx136 hw => ?_)
        obtain ⟨bx136, g136, y136_0, p136_0⟩ := bx136
        rw [eh136, eg136] at g136
        have hkm := hkm.call g136 (by decide)
        obtain ⟨fx136p0, bx136p0, qx136p0⟩ := p136_0
        rw [eg136] at fx136p0
        generalize y136_0 = x136p0 at fx136p0 bx136p0 qx136p0
        have zx136p0 : iv x136p0 0 0 := by have a1 := (wE).1; have a2 := (wE).2; have a3 := (bx136p0).1; have a4 := (bx136p0).2; have a5 : (1 : Int32).toInt = 1 := rfl; exact ⟨by omega, by omega⟩
        exact W.lret (v := x136) hx hb hr (fun t ht hW => ⟨some (.long x136), rfl, ⟨x136, rfl, ⟨trivial, by rw [ht]; exact hkm⟩⟩, by rw [ht]; exact hw.1, hw.2.F ht⟩) hw.2.2.2 dX12_reckons_139
      · have r11fp : iv y8_l4 0 399 := (iv_lt_l (iv_nle c11) c8_y8_l4 c8_xp3).mono (by decide) (by decide)
        have r11fq : iv xp3 1 400 := (iv_lt_r (iv_nle c11) c8_y8_l4 c8_xp3).mono (by decide) (by decide)
        obtain ⟨h1, hc, hcx⟩ := c_x_next hv8_0 (by have := (r11fp).1; have := (r11fp).2; have := (r11fq).1; have := (r11fq).2; have := (Int32.lt_iff_toInt_lt.mp (iv_nle c11)); omega) (by have := (r11fp).1; have := (r11fp).2; have := (r11fq).1; have := (r11fq).2; have := (Int32.lt_iff_toInt_lt.mp (iv_nle c11)); omega)
        refine lv_aload_n hx hb dX12_reckons_14 rfl (lv_at hl 0 rfl) ?_
        refine hp_getr hx hb hts IX12 hown hK hw.1 hp0 rfl 3 (by decide) L13 rfl dX12_reckons_15 ?_
        refine lv_sipush (v := 400) hx hb dX12_reckons_18 (by decide) ?_
        refine lv_iload_n hx hb dX12_reckons_21 rfl (lv_at hl 1 rfl) ?_
        refine lv_imul hx hb dX12_reckons_22 ?_
        refine lv_topi (fun x22 ex22 => ?_)
        have bx22 : iv x22 0 2000 := iv_mul (show iv 400 400 400 from ⟨by decide, by decide⟩) c8_xp1 ex22 (by decide)
        refine lv_iload hx hb dX12_reckons_23 (lv_at hl 3 rfl) ?_
        refine lv_iadd hx hb dX12_reckons_25 ?_
        refine lv_topi (fun x25 ex25 => ?_)
        have bx25 : iv x25 0 2399 := iv_add bx22 r11fp ex25 (by decide)
        have qx25 := iv_add_eq bx22 r11fp ex25 (by decide)
        refine hp_iald hx hb hK hw.1 hp0sign (vp_iv bx25 (by decide)) dX12_reckons_26 (fun v26 h26 => ?_)
        obtain ⟨x26, ex26, rfl⟩ : ∃ y : Int32, y = gS Gm (x25).toNatClampNeg ∧ v26 = .int y := ⟨_, rfl, h26⟩
        have nx26 : x26 = gS Gm (400 * xp1.toInt.toNat + y8_l4.toInt.toNat) := by rw [ex26, iv_rowi (N := 399) (M := 5) (W := 400) (iv_row (N := 399) (M := 5) 400 (by decide) ex22 ex25 c8_xp1 r11fp (by decide) (by decide)) c8_xp1 r11fp]
        refine lv_bipush (v := 15) hx hb dX12_reckons_27 (by decide) ?_
        refine lv_iand hx hb dX12_reckons_29 ?_
        refine lv_topi (fun x29 ex29 => ?_)
        have bx29 : iv x29 0 15 := iv_and_r (show iv 15 0 15 from ⟨by decide, by decide⟩) ex29
        refine lv_istore (lv' := [(5, .int x29), (0, .ref ap0), (1, .int xp1), (3, .int xp3), (4, .int y8_l4)]) hx hb dX12_reckons_30 hl (by decide) rfl (fun ls hl => ?_)
        refine lv_aload_n hx hb dX12_reckons_32 rfl (lv_at hl 1 rfl) ?_
        refine hp_getr hx hb hts IX12 hown hK hw.1 hp0 rfl 3 (by decide) L13 rfl dX12_reckons_33 ?_
        refine lv_sipush (v := 400) hx hb dX12_reckons_36 (by decide) ?_
        refine lv_iload_n hx hb dX12_reckons_39 rfl (lv_at hl 2 rfl) ?_
        refine lv_imul hx hb dX12_reckons_40 ?_
        refine lv_topi (fun x40 ex40 => ?_)
        have bx40 : iv x40 0 2000 := iv_mul (show iv 400 400 400 from ⟨by decide, by decide⟩) c8_xp1 ex40 (by decide)
        refine lv_iload hx hb dX12_reckons_41 (lv_at hl 4 rfl) ?_
        refine lv_iadd hx hb dX12_reckons_43 ?_
        refine lv_topi (fun x43 ex43 => ?_)
        have bx43 : iv x43 0 2399 := iv_add bx40 r11fp ex43 (by decide)
        have qx43 := iv_add_eq bx40 r11fp ex43 (by decide)
        refine hp_iald hx hb hK hw.1 hp0sign (vp_iv bx43 (by decide)) dX12_reckons_44 (fun v44 h44 => ?_)
        obtain ⟨x44, ex44, rfl⟩ : ∃ y : Int32, y = gS Gm (x43).toNatClampNeg ∧ v44 = .int y := ⟨_, rfl, h44⟩
        have nx44 : x44 = gS Gm (400 * xp1.toInt.toNat + y8_l4.toInt.toNat) := by rw [ex44, iv_rowi (N := 399) (M := 5) (W := 400) (iv_row (N := 399) (M := 5) 400 (by decide) ex40 ex43 c8_xp1 r11fp (by decide) (by decide)) c8_xp1 r11fp]
        refine lv_iconst (v := 4) hx hb dX12_reckons_45 (by decide) ?_
        refine lv_ishr hx hb dX12_reckons_46 ?_
        refine lv_topi (fun x46 ex46 => ?_)
        refine lv_istore (lv' := [(6, .int x46), (5, .int x29), (0, .ref ap0), (1, .int xp1), (3, .int xp3), (4, .int y8_l4)]) hx hb dX12_reckons_47 hl (by decide) rfl (fun ls hl => ?_)
        rw [← nx26] at hc
        rw [nx44.trans nx26.symm] at ex46
        unfold c_st at hc
        rw [← ex29, ← ex46] at hc
        refine lv_iload hx hb dX12_reckons_49 (lv_at hl 1 rfl) ?_
        have J129 : ∀ (y129_fp0_18 : Int32), iv xp1 0 5 → iv xp3 1 400 → iv y8_l4 0 399 → iv y129_fp0_18 1 64 → c_x (gS Gm) (400 * xp1.toInt.toNat + (y8_l4.toInt + 1).toNat) (xp3.toInt - (y8_l4.toInt + 1)).toNat (y129_fp0_18.toInt : Int).toNat 1 → ∀ (H : Heap) (locs : List Loc), hp_w D T s H locs → hp_km D [(12, 18)] s.heap H → hp_f D H ap0 12 18 (.int y129_fp0_18) → ∀ (ls : Array Slot), lv_has ls 11 [(0, .ref ap0), (1, .int xp1), (3, .int xp3), (4, .int y8_l4)] → WX12_reckons p l e s m below meth c D T ap0 xp1 xp2 xp3 H locs (F0 m 129 ls []) := by
          intro y129_fp0_18 c129_xp1 c129_xp3 c129_y8_l4 c129_y129_fp0_18 hv129_0 H129 locs129 hw hkm f_p0_18 ls hl
          obtain ⟨x129, ex129⟩ : ∃ y : Int32, y = y8_l4 + 1 := ⟨_, rfl⟩
          have bx129 : iv x129 1 400 := iv_add c129_y8_l4 (show iv 1 1 1 from ⟨by decide, by decide⟩) ex129 (by decide)
          have qx129 := iv_add_eq c129_y8_l4 (show iv 1 1 1 from ⟨by decide, by decide⟩) ex129 (by decide)
          refine lv_iinc (v := x129) (lv' := [(4, .int x129), (0, .ref ap0), (1, .int xp1), (3, .int xp3)]) hx hb dX12_reckons_129 hl (k := 3) rfl (by rw [ex129]; rfl) (by decide) rfl (fun ls hl => ?_)
          refine lv_goto (tgt := 8) hx hb dX12_reckons_132 (by decide) ?_
          exact ih8 x129 y129_fp0_18 (mu_up 1 hmu8 (qx129) (by decide) (show iv x129 0 400 from (bx129.mono (by decide) (by decide))).2) c129_xp1 (c129_xp3.mono (by decide) (by decide)) (bx129.mono (by decide) (by decide)) (c129_y129_fp0_18.mono (by decide) (by decide)) (show c_x (gS Gm) (400 * xp1.toInt.toNat + (x129.toInt).toNat) (xp3.toInt - x129.toInt).toNat (y129_fp0_18.toInt : Int).toNat 1 from (by rw [show x129.toInt = y8_l4.toInt + 1 from qx129]; exact hv129_0)) H129 locs129 hw hkm f_p0_18 _ (lv_sub hl [1, 2, 3, 0] rfl)
        refine lv_if_ne (tgt := 64) hx hb dX12_reckons_51 (by decide) (fun c51 => ?_) (fun c51 => ?_)
        · have r51tp : iv x29 1 15 := (iv_ne_lo c51 bx29 rfl).mono (by decide) (by decide)
          refine lv_iload hx hb dX12_reckons_64 (lv_at hl 1 rfl) ?_
          refine lv_iconst (v := 1) hx hb dX12_reckons_66 (by decide) ?_
          refine lv_icmp_ne (tgt := 84) hx hb dX12_reckons_67 (by decide) (fun c67 => ?_) (fun c67 => ?_)
          · have r67tp : iv x29 2 15 := (iv_ne_lo c67 r51tp rfl).mono (by decide) (by decide)
            refine lv_iload hx hb dX12_reckons_84 (lv_at hl 1 rfl) ?_
            refine lv_bipush (v := 11) hx hb dX12_reckons_86 (by decide) ?_
            refine lv_icmp_ne (tgt := 104) hx hb dX12_reckons_88 (by decide) (fun c88 => ?_) (fun c88 => ?_)
            · have hc1 := c_sN hc c51 c67 c88
              have wN : iv y8_fp0_18 2 64 := by have a1 := (c8_y8_fp0_18).1; have a2 := (c8_y8_fp0_18).2; exact ⟨by omega, by omega⟩
              refine lv_aload_n hx hb dX12_reckons_104 rfl (lv_at hl 2 rfl) ?_
              refine hp_callel (va_runV (As := []) (rest := []) ⟨hx, hb, hml, hown, hts⟩ (sX12_pop l D T ap0 y8_fp0_18 Gm ip0 (wN.mono (by decide) (by decide))) (cwV 0 hts gX12_reckons_X12_pop rfl rfl rfl (by decide +kernel) ⟨Nat.le_of_ble_eq_true rfl, Nat.le_of_ble_eq_true rfl⟩) (hp_preV hG hw hp0 rfl f_p0_18) rfl rfl hl.1 rfl (lv_room (Nat.le_of_ble_eq_true rfl)) dX12_reckons_105 ⟨Nat.zero_le _, Nat.zero_le _⟩) hw (fun x105 st105 t105 H105 locs105 eh105 eg105 bx105 hw => ?_)
              obtain ⟨bx105, g105, y105_0, p105_0⟩ := bx105
              rw [eh105, eg105] at g105
              have hkm := hkm.call g105 (by decide)
              obtain ⟨fx105p0, bx105p0, qx105p0⟩ := p105_0
              rw [eg105] at fx105p0
              generalize y105_0 = x105p0 at fx105p0 bx105p0 qx105p0
              have zx105p0 : iv x105p0 1 63 := by have a1 := (wN).1; have a2 := (wN).2; have a3 := (bx105p0).1; have a4 := (bx105p0).2; have a5 : (1 : Int32).toInt = 1 := rfl; exact ⟨by omega, by omega⟩
              refine lv_lstore (lv' := [(7, .long x105), (6, .int x46), (5, .int x29), (0, .ref ap0), (1, .int xp1), (3, .int xp3), (4, .int y8_l4)]) hx hb dX12_reckons_108 hl (by decide) rfl (fun ls hl => ?_)
              refine lv_aload_n hx hb dX12_reckons_110 rfl (lv_at hl 3 rfl) ?_
              refine hp_callel (va_runV (As := []) (rest := []) ⟨hx, hb, hml, hown, hts⟩ (sX12_pop l D T ap0 x105p0 Gm ip0 (zx105p0.mono (by decide) (by decide))) (cwV 0 hts gX12_reckons_X12_pop rfl rfl rfl (by decide +kernel) ⟨Nat.le_of_ble_eq_true rfl, Nat.le_of_ble_eq_true rfl⟩) (hp_preV hG hw hp0 rfl fx105p0) rfl rfl hl.1 rfl (lv_room (Nat.le_of_ble_eq_true rfl)) dX12_reckons_111 ⟨Nat.zero_le _, Nat.zero_le _⟩) hw (fun x111 st111 t111 H111 locs111 eh111 eg111 bx111 hw => ?_)
              obtain ⟨bx111, g111, y111_0, p111_0⟩ := bx111
              rw [eh111, eg111] at g111
              have hkm := hkm.call g111 (by decide)
              obtain ⟨fx111p0, bx111p0, qx111p0⟩ := p111_0
              rw [eg111] at fx111p0
              generalize y111_0 = x111p0 at fx111p0 bx111p0 qx111p0
              have zx111p0 : iv x111p0 0 62 := by have a1 := (zx105p0).1; have a2 := (zx105p0).2; have a3 := (bx111p0).1; have a4 := (bx111p0).2; have a5 : (1 : Int32).toInt = 1 := rfl; exact ⟨by omega, by omega⟩
              refine lv_lstore (lv' := [(9, .long x111), (7, .long x105), (6, .int x46), (5, .int x29), (0, .ref ap0), (1, .int xp1), (3, .int xp3), (4, .int y8_l4)]) hx hb dX12_reckons_114 hl (by decide) rfl (fun ls hl => ?_)
              refine lv_aload_n hx hb dX12_reckons_116 rfl (lv_at hl 4 rfl) ?_
              refine lv_iload hx hb dX12_reckons_117 (lv_at hl 3 rfl) ?_
              refine lv_lload hx hb dX12_reckons_119 (lv_at hl 0 rfl) ?_
              refine lv_lload hx hb dX12_reckons_121 (lv_at hl 1 rfl) ?_
              refine hp_callpl (va_runS (As := [.int x29, .long x111, .long x105]) (rest := [.ref ap0]) ⟨hx, hb, hml, hown, hts⟩ (sX12_one l D T x29 x111 x105) (va_cwS 3 hts gX12_reckons_X12_one rfl rfl rfl (by decide +kernel) ⟨Nat.le_of_ble_eq_true rfl, Nat.le_of_ble_eq_true rfl⟩) (hp_preS hG hw trivial) rfl rfl hl.1 rfl (lv_room (Nat.le_of_ble_eq_true rfl)) dX12_reckons_123 ⟨Nat.zero_le _, Nat.zero_le _⟩) (fun x123 bx123 => ?_)
              refine hp_callev (va_runV (As := [.long x123]) (rest := []) ⟨hx, hb, hml, hown, hts⟩ (sX12_push l D T ap0 x123 x111p0 Gm ip0 (zx111p0.mono (by decide) (by decide))) (cwV 1 hts gX12_reckons_X12_push rfl rfl rfl (by decide +kernel) ⟨Nat.le_of_ble_eq_true rfl, Nat.le_of_ble_eq_true rfl⟩) (hp_preV hG hw hp0 rfl fx111p0) rfl rfl hl.1 rfl (lv_room (Nat.le_of_ble_eq_true rfl)) dX12_reckons_126 ⟨Nat.zero_le _, Nat.zero_le _⟩) hw (fun st126 t126 H126 locs126 eh126 eg126 bx126 hw => ?_)
              obtain ⟨bx126, g126, y126_0, p126_0⟩ := bx126
              rw [eh126, eg126] at g126
              have hkm := hkm.call g126 (by decide)
              obtain ⟨fx126p0, bx126p0, qx126p0⟩ := p126_0
              rw [eg126] at fx126p0
              generalize y126_0 = x126p0 at fx126p0 bx126p0 qx126p0
              have zx126p0 : iv x126p0 1 63 := by have a1 := (zx111p0).1; have a2 := (zx111p0).2; have a3 := (bx126p0).1; have a4 := (bx126p0).2; have a5 : (1 : Int32).toInt = 1 := rfl; exact ⟨by omega, by omega⟩
              exact J129 x126p0 c8_xp1 r11fq r11fp (zx126p0.mono (by decide) (by decide)) (show c_x (gS Gm) (400 * xp1.toInt.toNat + (y8_l4.toInt + 1).toNat) (xp3.toInt - (y8_l4.toInt + 1)).toNat (x126p0.toInt : Int).toNat 1 from (by have e9 : x126p0.toInt.toNat = h1 := (by have := (zx126p0).1; have := (zx126p0).2; have := (r11fp).1; have := (r11fp).2; have := (r11fq).1; have := (r11fq).2; have := (zx111p0).1; have := (zx111p0).2; have := (zx105p0).1; have := (zx105p0).2; have := (wN).1; have := (wN).2; have := (Int32.lt_iff_toInt_lt.mp (iv_nle c11)); have : (0 : Int32).toInt = 0 := (by decide); have : (1 : Int32).toInt = 1 := (by decide); have : (11 : Int32).toInt = 11 := (by decide); omega); rw [e9]; exact hcx)) H126 locs126 hw hkm fx126p0 _ (lv_sub hl [4, 5, 6, 7] rfl)
            · have r88fp : iv x29 11 11 := (iv_both r67tp (iv_eq (show iv 11 11 11 from ⟨by decide, by decide⟩) c88)).mono (by decide) (by decide)
              have hc1 := c_s11 hc c88
              have w11 : iv y8_fp0_18 1 64 := by have a1 := (c8_y8_fp0_18).1; have a2 := (c8_y8_fp0_18).2; exact ⟨by omega, by omega⟩
              refine lv_aload_n hx hb dX12_reckons_91 rfl (lv_at hl 2 rfl) ?_
              refine lv_lconst (v := 1) hx hb dX12_reckons_92 (by decide) ?_
              refine lv_aload_n hx hb dX12_reckons_93 rfl (lv_at hl 2 rfl) ?_
              refine hp_callel (va_runV (As := []) (rest := [.long 1, .ref ap0]) ⟨hx, hb, hml, hown, hts⟩ (sX12_pop l D T ap0 y8_fp0_18 Gm ip0 w11) (cwV 0 hts gX12_reckons_X12_pop rfl rfl rfl (by decide +kernel) ⟨Nat.le_of_ble_eq_true rfl, Nat.le_of_ble_eq_true rfl⟩) (hp_preV hG hw hp0 rfl f_p0_18) rfl rfl hl.1 rfl (lv_room (Nat.le_of_ble_eq_true rfl)) dX12_reckons_94 ⟨Nat.zero_le _, Nat.zero_le _⟩) hw (fun x94 st94 t94 H94 locs94 eh94 eg94 bx94 hw => ?_)
              obtain ⟨bx94, g94, y94_0, p94_0⟩ := bx94
              rw [eh94, eg94] at g94
              have hkm := hkm.call g94 (by decide)
              obtain ⟨fx94p0, bx94p0, qx94p0⟩ := p94_0
              rw [eg94] at fx94p0
              generalize y94_0 = x94p0 at fx94p0 bx94p0 qx94p0
              have zx94p0 : iv x94p0 0 63 := by have a1 := (w11).1; have a2 := (w11).2; have a3 := (bx94p0).1; have a4 := (bx94p0).2; have a5 : (1 : Int32).toInt = 1 := rfl; exact ⟨by omega, by omega⟩
              refine lv_lsub hx hb dX12_reckons_97 ?_
              refine lv_topl (fun x97 ex97 => ?_)
              refine hp_callev (va_runV (As := [.long x97]) (rest := []) ⟨hx, hb, hml, hown, hts⟩ (sX12_push l D T ap0 x97 x94p0 Gm ip0 zx94p0) (cwV 1 hts gX12_reckons_X12_push rfl rfl rfl (by decide +kernel) ⟨Nat.le_of_ble_eq_true rfl, Nat.le_of_ble_eq_true rfl⟩) (hp_preV hG hw hp0 rfl fx94p0) rfl rfl hl.1 rfl (lv_room (Nat.le_of_ble_eq_true rfl)) dX12_reckons_98 ⟨Nat.zero_le _, Nat.zero_le _⟩) hw (fun st98 t98 H98 locs98 eh98 eg98 bx98 hw => ?_)
              obtain ⟨bx98, g98, y98_0, p98_0⟩ := bx98
              rw [eh98, eg98] at g98
              have hkm := hkm.call g98 (by decide)
              obtain ⟨fx98p0, bx98p0, qx98p0⟩ := p98_0
              rw [eg98] at fx98p0
              generalize y98_0 = x98p0 at fx98p0 bx98p0 qx98p0
              have zx98p0 : iv x98p0 1 64 := by have a1 := (zx94p0).1; have a2 := (zx94p0).2; have a3 := (bx98p0).1; have a4 := (bx98p0).2; have a5 : (1 : Int32).toInt = 1 := rfl; exact ⟨by omega, by omega⟩
              refine lv_goto (tgt := 129) hx hb dX12_reckons_101 (by decide) ?_
              exact J129 x98p0 c8_xp1 r11fq r11fp zx98p0 (show c_x (gS Gm) (400 * xp1.toInt.toNat + (y8_l4.toInt + 1).toNat) (xp3.toInt - (y8_l4.toInt + 1)).toNat (x98p0.toInt : Int).toNat 1 from (by have e9 : x98p0.toInt.toNat = h1 := (by have := (zx98p0).1; have := (zx98p0).2; have := (r11fp).1; have := (r11fp).2; have := (r11fq).1; have := (r11fq).2; have := (zx94p0).1; have := (zx94p0).2; have := (w11).1; have := (w11).2; have := (Int32.lt_iff_toInt_lt.mp (iv_nle c11)); have : (0 : Int32).toInt = 0 := (by decide); have : (1 : Int32).toInt = 1 := (by decide); omega); rw [e9]; exact hcx)) H98 locs98 hw hkm fx98p0 _ (lv_sub hl [2, 3, 4, 5] rfl)
          · have r67fp : iv x29 1 1 := (iv_both r51tp (iv_eq (show iv 1 1 1 from ⟨by decide, by decide⟩) c67)).mono (by decide) (by decide)
            have hc1 := c_s1 hc c67
            have w1 : iv y8_fp0_18 0 59 := by have a1 := (c8_y8_fp0_18).1; have a2 := (c8_y8_fp0_18).2; exact ⟨by omega, by omega⟩
            refine lv_aload_n hx hb dX12_reckons_70 rfl (lv_at hl 2 rfl) ?_
            refine lv_aload_n hx hb dX12_reckons_71 rfl (lv_at hl 2 rfl) ?_
            refine hp_getr hx hb hts IX12 hown hK hw.1 hp0 rfl 19 (by decide) L36 rfl dX12_reckons_72 ?_
            refine lv_iload hx hb dX12_reckons_75 (lv_at hl 0 rfl) ?_
            refine hp_laldA hx hb hK hw.1 hp0word (vp_iv hc1.2.2 (by decide)) dX12_reckons_77 (fun x77 => ?_)
            refine hp_callev (va_runV (As := [.long x77]) (rest := []) ⟨hx, hb, hml, hown, hts⟩ (sX12_push l D T ap0 x77 y8_fp0_18 Gm ip0 (w1.mono (by decide) (by decide))) (cwV 1 hts gX12_reckons_X12_push rfl rfl rfl (by decide +kernel) ⟨Nat.le_of_ble_eq_true rfl, Nat.le_of_ble_eq_true rfl⟩) (hp_preV hG hw hp0 rfl f_p0_18) rfl rfl hl.1 rfl (lv_room (Nat.le_of_ble_eq_true rfl)) dX12_reckons_78 ⟨Nat.zero_le _, Nat.zero_le _⟩) hw (fun st78 t78 H78 locs78 eh78 eg78 bx78 hw => ?_)
            obtain ⟨bx78, g78, y78_0, p78_0⟩ := bx78
            rw [eh78, eg78] at g78
            have hkm := hkm.call g78 (by decide)
            obtain ⟨fx78p0, bx78p0, qx78p0⟩ := p78_0
            rw [eg78] at fx78p0
            generalize y78_0 = x78p0 at fx78p0 bx78p0 qx78p0
            have zx78p0 : iv x78p0 1 60 := by have a1 := (w1).1; have a2 := (w1).2; have a3 := (bx78p0).1; have a4 := (bx78p0).2; have a5 : (1 : Int32).toInt = 1 := rfl; exact ⟨by omega, by omega⟩
            refine lv_goto (tgt := 129) hx hb dX12_reckons_81 (by decide) ?_
            exact J129 x78p0 c8_xp1 r11fq r11fp (zx78p0.mono (by decide) (by decide)) (show c_x (gS Gm) (400 * xp1.toInt.toNat + (y8_l4.toInt + 1).toNat) (xp3.toInt - (y8_l4.toInt + 1)).toNat (x78p0.toInt : Int).toNat 1 from (by have e9 : x78p0.toInt.toNat = h1 := (by have := (zx78p0).1; have := (zx78p0).2; have := (r11fp).1; have := (r11fp).2; have := (r11fq).1; have := (r11fq).2; have := (w1).1; have := (w1).2; have := (Int32.lt_iff_toInt_lt.mp (iv_nle c11)); have : (0 : Int32).toInt = 0 := (by decide); have : (1 : Int32).toInt = 1 := (by decide); omega); rw [e9]; exact hcx)) H78 locs78 hw hkm fx78p0 _ (lv_sub hl [2, 3, 4, 5] rfl)
        · have r51fp : iv x29 0 0 := (iv_both bx29 (iv_eq (show iv 0 0 0 from ⟨by decide, by decide⟩) c51)).mono (by decide) (by decide)
          have hc1 := c_s0 hc c51
          have w0 : iv y8_fp0_18 0 59 := by have a1 := (c8_y8_fp0_18).1; have a2 := (c8_y8_fp0_18).2; exact ⟨by omega, by omega⟩
          refine lv_aload_n hx hb dX12_reckons_54 rfl (lv_at hl 2 rfl) ?_
          refine lv_iload hx hb dX12_reckons_55 (lv_at hl 0 rfl) ?_
          obtain ⟨x57, ex57⟩ : ∃ y : Int64, x46.toInt64 = y := ⟨_, rfl⟩
          refine lv_i2l (v := x57) hx hb dX12_reckons_57 ex57 ?_
          refine hp_callev (va_runV (As := [.long x57]) (rest := []) ⟨hx, hb, hml, hown, hts⟩ (sX12_push l D T ap0 x57 y8_fp0_18 Gm ip0 (w0.mono (by decide) (by decide))) (cwV 1 hts gX12_reckons_X12_push rfl rfl rfl (by decide +kernel) ⟨Nat.le_of_ble_eq_true rfl, Nat.le_of_ble_eq_true rfl⟩) (hp_preV hG hw hp0 rfl f_p0_18) rfl rfl hl.1 rfl (lv_room (Nat.le_of_ble_eq_true rfl)) dX12_reckons_58 ⟨Nat.zero_le _, Nat.zero_le _⟩) hw (fun st58 t58 H58 locs58 eh58 eg58 bx58 hw => ?_)
          obtain ⟨bx58, g58, y58_0, p58_0⟩ := bx58
          rw [eh58, eg58] at g58
          have hkm := hkm.call g58 (by decide)
          obtain ⟨fx58p0, bx58p0, qx58p0⟩ := p58_0
          rw [eg58] at fx58p0
          generalize y58_0 = x58p0 at fx58p0 bx58p0 qx58p0
          have zx58p0 : iv x58p0 1 60 := by have a1 := (w0).1; have a2 := (w0).2; have a3 := (bx58p0).1; have a4 := (bx58p0).2; have a5 : (1 : Int32).toInt = 1 := rfl; exact ⟨by omega, by omega⟩
          refine lv_goto (tgt := 129) hx hb dX12_reckons_61 (by decide) ?_
          exact J129 x58p0 c8_xp1 r11fq r11fp (zx58p0.mono (by decide) (by decide)) (show c_x (gS Gm) (400 * xp1.toInt.toNat + (y8_l4.toInt + 1).toNat) (xp3.toInt - (y8_l4.toInt + 1)).toNat (x58p0.toInt : Int).toNat 1 from (by have e9 : x58p0.toInt.toNat = h1 := (by have := (zx58p0).1; have := (zx58p0).2; have := (r11fp).1; have := (r11fp).2; have := (r11fq).1; have := (r11fq).2; have := (w0).1; have := (w0).2; have := (Int32.lt_iff_toInt_lt.mp (iv_nle c11)); have : (1 : Int32).toInt = 1 := (by decide); omega); rw [e9]; exact hcx)) H58 locs58 hw hkm fx58p0 _ (lv_sub hl [2, 3, 4, 5] rfl)
  exact J8 _ xp2 (0 : Int32) (Nat.lt_succ_self _) bp1 bp3 bp2 (show iv 0 0 64 from ⟨by decide, by decide⟩) (show c_x (gS Gm) (400 * xp1.toInt.toNat + (xp2.toInt).toNat) (xp3.toInt - xp2.toInt).toNat (0 : Int).toNat 1 from (by exact hcg.2.2.2)) H2 locs2 hw hkm f2n _ (lv_sub hl [1, 2, 4, 0] rfl)
