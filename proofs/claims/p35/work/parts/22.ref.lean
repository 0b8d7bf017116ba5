abbrev WX12_at (p : Program) (l : Launch) (e : Env) (s : State) (m : MethodId) (below : List Frame) (meth : Method) (c : Code) (D : hp_D) (T : hp_T) (ap0 : Nat) (xp1 : Int32) (xp2 : Int32) (H : Heap) (locs : List Loc) (g : JFrame) : Prop := W p l e (headSpec wsX12_at ({ frames := 1, cells := 0, slots := 0, locals := 22 })).room s m ([.ref ap0, .int xp1, .int xp2] : List Value).toArray below meth c H locs 0 0 (MQ below (hq_p (fun v => ∃ r : Int32, v = some (.int r) ∧ True)) ([.ref ap0, .int xp1, .int xp2] : List Value).toArray s 0 0 (fun _ => False)) g
set_option maxHeartbeats 4000000 in
set_option maxRecDepth 100000 in
theorem sX12_at (l : Launch) (D : hp_D) (T : hp_T) (ap0 : Nat) (xp1 : Int32) (xp2 : Int32) (Gm : moG) (ip0 : isMo T ap0 Gm) : Met l yX12_at wsX12_at ({ frames := 1, cells := 0, slots := 0, locals := 22 }) (hp_Pc D T [.ref ap0, .int xp1, .int xp2] (fun _ => True)) (hq_p (fun v => ∃ r : Int32, v = some (.int r) ∧ True)) 0 0 (fun _ => False) := by
  obtain ⟨ap0tape, ap0sign, ap0len, ap0clause, ap0clauses, ap0read, ap0opn, ap0stack, ap0word, ap0said, ap0was, ap0fitting, ap0sums, ap0sort, ap0sumsBy, ap0oneOf, ap0otherOf, ap0kept, ap0images, ap0acts, ap0iUnd, ap0iFor, ap0iX, ap0made, gok, hp0, hp0tape, hp0sign, hp0len, hp0clause, hp0clauses, hp0read, hp0opn, hp0stack, hp0word, hp0said, hp0was, hp0fitting, hp0sums, hp0sort, hp0sumsBy, hp0oneOf, hp0otherOf, hp0kept, hp0images, hp0acts, hp0iUnd, hp0iFor, hp0iX, hp0made⟩ := id ip0
  have hpx := gok.1
  have gsok := gok.2.2.2.2
  have ggd := gok.2.2.2.1
  refine Met.ofW (cc := cX12_at) (maxL := 3) (ret := (some .int)) (by decide) rfl ?_
  intro p e s m args below meth c s₁ B hml hv
  obtain ⟨rfl, hok, hG, hB⟩ := hv
  have hx := B.exec
  have hb := B.bytes
  have hr := B.returns
  have hts := atoms_spec (ws := wsX12_at) B.pre
  have hown : s.vm.findClass RX12 = some m.cls := findClass_of_methodNamed B.named
  have hlocks := B.notSynchronized
  have hK := hG.1
  have hw : hp_w D T s s.heap [] := hp_w.rf hok
  have hl := lv_entry ([.ref ap0, .int xp1, .int xp2]) (n := 3) (Nat.le_of_ble_eq_true rfl)
  rw [lg_entry_eq]
  generalize (lg_sl ([.ref ap0, .int xp1, .int xp2]) ++ List.replicate (3 - (lg_sl ([.ref ap0, .int xp1, .int xp2])).length) Slot.unset).toArray = ls at hl ⊢
  have hl : lv_has ls 3 [(0, .ref ap0), (1, .int xp1), (2, .int xp2)] := hl
  show WX12_at p l e s m below meth c D T ap0 xp1 xp2 s.heap [] (F0 m 0 ls [])
  refine lv_aload_n hx hb dX12_at_0 rfl (lv_at hl 0 rfl) ?_
  refine lv_iload_n hx hb dX12_at_1 rfl (lv_at hl 1 rfl) ?_
  refine hp_callpi (va_runV (As := [.int xp1]) (rest := []) ⟨hx, hb, hml, hown, hts⟩ (sX12_isPerson l D T ap0 xp1 Gm ip0) (cwV 1 hts gX12_at_X12_isPerson rfl rfl rfl (by decide +kernel) ⟨Nat.le_of_ble_eq_true rfl, Nat.le_of_ble_eq_true rfl⟩) (hp_preV hG hw hp0 rfl trivial) rfl rfl hl.1 rfl (lv_room (Nat.le_of_ble_eq_true rfl)) dX12_at_2 ⟨Nat.zero_le _, Nat.zero_le _⟩) (fun x2 bx2 => ?_)
  obtain ⟨bx2, ix2_0⟩ := bx2
  have J26 : ∀ (y26_s0 : Int32), ∀ (ls : Array Slot), lv_has ls 3 [] → WX12_at p l e s m below meth c D T ap0 xp1 xp2 s.heap [] (F0 m 26 ls [.int y26_s0]) := by
    intro y26_s0 ls hl
    exact W.iret (v := y26_s0) hx hb hr (fun t ht hW => ⟨some (.int y26_s0), rfl, ⟨y26_s0, rfl, trivial⟩, ht⟩) (fun q h => by cases h) dX12_at_26
  have J25 : ∀ (ls : Array Slot), lv_has ls 3 [] → WX12_at p l e s m below meth c D T ap0 xp1 xp2 s.heap [] (F0 m 25 ls []) := by
    intro ls hl
    refine lv_iconst (v := (-1)) hx hb dX12_at_25 (by decide) ?_
    exact J26 ((-1) : Int32) _ (lv_sub hl [] rfl)
  refine lv_if_eq (tgt := 25) hx hb dX12_at_5 (by decide) (fun c5 => ?_) (fun c5 => ?_)
  · have r5tp : iv x2 0 0 := (iv_both bx2 (iv_eq (show iv 0 0 0 from ⟨by decide, by decide⟩) c5)).mono (by decide) (by decide)
    exact J25 _ (lv_sub hl [] rfl)
  · have r5fp : iv x2 1 1 := (iv_ne_lo c5 bx2 rfl).mono (by decide) (by decide)
    have r5fpz : iv xp1 0 9 := (iv_both (iv_any xp1) (ix2_0 (iv_ne0 r5fp (by decide)))).mono (by decide) (by decide)
    refine lv_aload_n hx hb dX12_at_8 rfl (lv_at hl 0 rfl) ?_
    refine lv_iload_n hx hb dX12_at_9 rfl (lv_at hl 2 rfl) ?_
    refine hp_callpi (va_runV (As := [.int xp2]) (rest := []) ⟨hx, hb, hml, hown, hts⟩ (sX12_isHour l D T ap0 xp2 Gm ip0) (cwV 1 hts gX12_at_X12_isHour rfl rfl rfl (by decide +kernel) ⟨Nat.le_of_ble_eq_true rfl, Nat.le_of_ble_eq_true rfl⟩) (hp_preV hG hw hp0 rfl trivial) rfl rfl hl.1 rfl (lv_room (Nat.le_of_ble_eq_true rfl)) dX12_at_10 ⟨Nat.zero_le _, Nat.zero_le _⟩) (fun x10 bx10 => ?_)
    obtain ⟨bx10, ix10_0⟩ := bx10
    refine lv_if_eq (tgt := 25) hx hb dX12_at_13 (by decide) (fun c13 => ?_) (fun c13 => ?_)
    · have r13tp : iv x10 0 0 := (iv_both bx10 (iv_eq (show iv 0 0 0 from ⟨by decide, by decide⟩) c13)).mono (by decide) (by decide)
      exact J25 _ (lv_sub hl [] rfl)
    · have r13fp : iv x10 1 1 := (iv_ne_lo c13 bx10 rfl).mono (by decide) (by decide)
      have r13fpz : iv xp2 0 11 := (iv_both (iv_any xp2) (ix10_0 (iv_ne0 r13fp (by decide)))).mono (by decide) (by decide)
      refine lv_aload_n hx hb dX12_at_16 rfl (lv_at hl 0 rfl) ?_
      refine lv_iload_n hx hb dX12_at_17 rfl (lv_at hl 1 rfl) ?_
      refine lv_iload_n hx hb dX12_at_18 rfl (lv_at hl 2 rfl) ?_
      refine hp_callpi (va_runV (As := [.int xp1, .int xp2]) (rest := []) ⟨hx, hb, hml, hown, hts⟩ (sX12_placeOf l D T ap0 xp1 xp2 Gm ip0 r5fpz r13fpz) (cwV 2 hts gX12_at_X12_placeOf rfl rfl rfl (by decide +kernel) ⟨Nat.le_of_ble_eq_true rfl, Nat.le_of_ble_eq_true rfl⟩) (hp_preV hG hw hp0 rfl trivial) rfl rfl hl.1 rfl (lv_room (Nat.le_of_ble_eq_true rfl)) dX12_at_19 ⟨Nat.zero_le _, Nat.zero_le _⟩) (fun x19 bx19 => ?_)
      refine lv_goto (tgt := 26) hx hb dX12_at_22 (by decide) ?_
      exact J26 x19 _ (lv_sub hl [] rfl)
abbrev WX12_meetsOf (p : Program) (l : Launch) (e : Env) (s : State) (m : MethodId) (below : List Frame) (meth : Method) (c : Code) (D : hp_D) (T : hp_T) (ap0 : Nat) (xp1 : Int32) (H : Heap) (locs : List Loc) (g : JFrame) : Prop := W p l e (headSpec wsX12_meetsOf ({ frames := 3, cells := 0, slots := 0, locals := 68 })).room s m ([.ref ap0, .int xp1] : List Value).toArray below meth c H locs 0 0 (MQ below (hq_p (fun v => ∃ r : Int32, v = some (.int r) ∧ iv r 0 1023)) ([.ref ap0, .int xp1] : List Value).toArray s 0 0 (fun _ => False)) g
set_option maxHeartbeats 4000000 in
set_option maxRecDepth 100000 in
theorem sX12_meetsOf (l : Launch) (D : hp_D) (T : hp_T) (ap0 : Nat) (xp1 : Int32) (Gm : moG) (ip0 : isMo T ap0 Gm) (bp1 : iv xp1 0 9) : Met l yX12_meetsOf wsX12_meetsOf ({ frames := 3, cells := 0, slots := 0, locals := 68 }) (hp_Pc D T [.ref ap0, .int xp1] (fun _ => True)) (hq_p (fun v => ∃ r : Int32, v = some (.int r) ∧ iv r 0 1023)) 0 0 (fun _ => False) := by
  obtain ⟨ap0tape, ap0sign, ap0len, ap0clause, ap0clauses, ap0read, ap0opn, ap0stack, ap0word, ap0said, ap0was, ap0fitting, ap0sums, ap0sort, ap0sumsBy, ap0oneOf, ap0otherOf, ap0kept, ap0images, ap0acts, ap0iUnd, ap0iFor, ap0iX, ap0made, gok, hp0, hp0tape, hp0sign, hp0len, hp0clause, hp0clauses, hp0read, hp0opn, hp0stack, hp0word, hp0said, hp0was, hp0fitting, hp0sums, hp0sort, hp0sumsBy, hp0oneOf, hp0otherOf, hp0kept, hp0images, hp0acts, hp0iUnd, hp0iFor, hp0iX, hp0made⟩ := id ip0
  have hpx := gok.1
  have gsok := gok.2.2.2.2
  have ggd := gok.2.2.2.1
  refine Met.ofW (cc := cX12_meetsOf) (maxL := 4) (ret := (some .int)) (by decide) rfl ?_
  intro p e s m args below meth c s₁ B hml hv
  obtain ⟨rfl, hok, hG, hB⟩ := hv
  have hx := B.exec
  have hb := B.bytes
  have hr := B.returns
  have hts := atoms_spec (ws := wsX12_meetsOf) B.pre
  have hown : s.vm.findClass RX12 = some m.cls := findClass_of_methodNamed B.named
  have hlocks := B.notSynchronized
  have hK := hG.1
  have hw : hp_w D T s s.heap [] := hp_w.rf hok
  have IX12 : ∀ w ∈ wsX120, w ∈ wsX12_meetsOf := by decide +kernel
  have L39 := hts (.fieldLink RX12 39 "PalmCensusModel" "said" "[I") (by decide +kernel)
  have hl := lv_entry ([.ref ap0, .int xp1]) (n := 4) (Nat.le_of_ble_eq_true rfl)
  rw [lg_entry_eq]
  generalize (lg_sl ([.ref ap0, .int xp1]) ++ List.replicate (4 - (lg_sl ([.ref ap0, .int xp1])).length) Slot.unset).toArray = ls at hl ⊢
  have hl : lv_has ls 4 [(0, .ref ap0), (1, .int xp1)] := hl
  show WX12_meetsOf p l e s m below meth c D T ap0 xp1 s.heap [] (F0 m 0 ls [])
  refine lv_iconst (v := 0) hx hb dX12_meetsOf_0 (by decide) ?_
  refine lv_istore_n (lv' := [(2, .int 0), (0, .ref ap0), (1, .int xp1)]) hx hb dX12_meetsOf_1 rfl hl (by decide) rfl (fun ls hl => ?_)
  refine lv_iconst (v := 0) hx hb dX12_meetsOf_2 (by decide) ?_
  refine lv_istore_n (lv' := [(3, .int 0), (2, .int 0), (0, .ref ap0), (1, .int xp1)]) hx hb dX12_meetsOf_3 rfl hl (by decide) rfl (fun ls hl => ?_)
  have J4 : ∀ (n : Nat) (y4_l2 y4_l3 : Int32), (10 - y4_l3.toInt).toNat < n → iv xp1 0 9 → iv y4_l2 0 1023 → iv y4_l3 0 10 → ∀ (ls : Array Slot), lv_has ls 4 [(0, .ref ap0), (1, .int xp1), (2, .int y4_l2), (3, .int y4_l3)] → WX12_meetsOf p l e s m below meth c D T ap0 xp1 s.heap [] (F0 m 4 ls []) := by
    intro n
    induction n with
    | zero => intro y4_l2 y4_l3 hmu4 c4_xp1 c4_y4_l2 c4_y4_l3 ls hl; exact absurd hmu4 (Nat.not_lt_zero _)
    | succ n ih4 =>
      intro y4_l2 y4_l3 hmu4 c4_xp1 c4_y4_l2 c4_y4_l3 ls hl
      refine lv_iload_n hx hb dX12_meetsOf_4 rfl (lv_at hl 3 rfl) ?_
      refine lv_aload_n hx hb dX12_meetsOf_5 rfl (lv_at hl 0 rfl) ?_
      refine hp_getr hx hb hts IX12 hown hK hw.1 hp0 rfl 20 (by decide) L39 rfl dX12_meetsOf_6 ?_
      refine lv_iconst (v := 2) hx hb dX12_meetsOf_9 (by decide) ?_
      refine hp_iald hx hb hK hw.1 hp0said (vp_iv (show iv 2 2 2 from ⟨by decide, by decide⟩) (by decide)) dX12_meetsOf_10 (fun v10 hr10 => ?_)
      have h10 := gsok _ _ hr10
      obtain ⟨x10, rfl, bx10⟩ := sP_rd2 h10 (show iv 2 2 2 from ⟨by decide, by decide⟩)
      refine lv_icmp_ge (tgt := 44) hx hb dX12_meetsOf_11 (by decide) (fun c11 => ?_) (fun c11 => ?_)
      · refine lv_iload_n hx hb dX12_meetsOf_44 rfl (lv_at hl 2 rfl) ?_
        exact W.iret (v := y4_l2) hx hb hr (fun t ht hW => ⟨some (.int y4_l2), rfl, ⟨y4_l2, rfl, c4_y4_l2⟩, ht⟩) (fun q h => by cases h) dX12_meetsOf_45
      · have r11fp : iv y4_l3 0 9 := (iv_lt_l (iv_nle c11) c4_y4_l3 bx10).mono (by decide) (by decide)
        have r11fq : iv x10 1 10 := (iv_lt_r (iv_nle c11) c4_y4_l3 bx10).mono (by decide) (by decide)
        refine lv_iload_n hx hb dX12_meetsOf_14 rfl (lv_at hl 2 rfl) ?_
        refine lv_iload_n hx hb dX12_meetsOf_15 rfl (lv_at hl 3 rfl) ?_
        refine lv_iload_n hx hb dX12_meetsOf_16 rfl (lv_at hl 1 rfl) ?_
        have J36 : ∀ (y36_s1 : Int32), iv xp1 0 9 → iv y4_l3 0 9 → iv y4_l2 0 1023 → iv y36_s1 0 512 → ∀ (ls : Array Slot), lv_has ls 4 [(0, .ref ap0), (1, .int xp1), (3, .int y4_l3)] → WX12_meetsOf p l e s m below meth c D T ap0 xp1 s.heap [] (F0 m 36 ls [.int y36_s1, .int y4_l2]) := by
          intro y36_s1 c36_xp1 c36_y4_l3 c36_y4_l2 c36_y36_s1 ls hl
          refine lv_ior hx hb dX12_meetsOf_36 ?_
          refine lv_topi (fun x36 ex36 => ?_)
          have bx36 : iv x36 0 1023 := iv_or 10 c36_y4_l2 (c36_y36_s1.mono (by decide) (by decide)) ex36 (by decide) (by decide)
          refine lv_istore_n (lv' := [(2, .int x36), (0, .ref ap0), (1, .int xp1), (3, .int y4_l3)]) hx hb dX12_meetsOf_37 rfl hl (by decide) rfl (fun ls hl => ?_)
          obtain ⟨x38, ex38⟩ : ∃ y : Int32, y = y4_l3 + 1 := ⟨_, rfl⟩
          have bx38 : iv x38 1 10 := iv_add c36_y4_l3 (show iv 1 1 1 from ⟨by decide, by decide⟩) ex38 (by decide)
          have qx38 := iv_add_eq c36_y4_l3 (show iv 1 1 1 from ⟨by decide, by decide⟩) ex38 (by decide)
          refine lv_iinc (v := x38) (lv' := [(3, .int x38), (2, .int x36), (0, .ref ap0), (1, .int xp1)]) hx hb dX12_meetsOf_38 hl (k := 3) rfl (by rw [ex38]; rfl) (by decide) rfl (fun ls hl => ?_)
          refine lv_goto (tgt := 4) hx hb dX12_meetsOf_41 (by decide) ?_
          exact ih4 x36 x38 (mu_up 1 hmu4 (qx38) (by decide) (show iv x38 0 10 from (bx38.mono (by decide) (by decide))).2) c36_xp1 bx36 (bx38.mono (by decide) (by decide)) _ (lv_sub hl [2, 3, 1, 0] rfl)
        have J35 : iv xp1 0 9 → iv y4_l3 0 9 → iv y4_l2 0 1023 → ∀ (ls : Array Slot), lv_has ls 4 [(0, .ref ap0), (1, .int xp1), (3, .int y4_l3)] → WX12_meetsOf p l e s m below meth c D T ap0 xp1 s.heap [] (F0 m 35 ls [.int y4_l2]) := by
          intro c35_xp1 c35_y4_l3 c35_y4_l2 ls hl
          refine lv_iconst (v := 0) hx hb dX12_meetsOf_35 (by decide) ?_
          exact J36 (0 : Int32) c35_xp1 c35_y4_l3 c35_y4_l2 (show iv 0 0 512 from ⟨by decide, by decide⟩) _ (lv_sub hl [0, 1, 2] rfl)
        refine lv_icmp_eq (tgt := 35) hx hb dX12_meetsOf_17 (by decide) (fun c17 => ?_) (fun c17 => ?_)
        · exact J35 c4_xp1 r11fp c4_y4_l2 _ (lv_sub hl [0, 1, 3] rfl)
        · refine lv_aload_n hx hb dX12_meetsOf_20 rfl (lv_at hl 0 rfl) ?_
          refine lv_iload_n hx hb dX12_meetsOf_21 rfl (lv_at hl 1 rfl) ?_
          refine lv_iload_n hx hb dX12_meetsOf_22 rfl (lv_at hl 3 rfl) ?_
          refine hp_callpi (va_runV (As := [.int xp1, .int y4_l3]) (rest := [.int y4_l2]) ⟨hx, hb, hml, hown, hts⟩ (sX12_meet l D T ap0 xp1 y4_l3 Gm ip0 c4_xp1 r11fp) (cwV 2 hts gX12_meetsOf_X12_meet rfl rfl rfl (by decide +kernel) ⟨Nat.le_of_ble_eq_true rfl, Nat.le_of_ble_eq_true rfl⟩) (hp_preV hG hw hp0 rfl trivial) rfl rfl hl.1 rfl (lv_room (Nat.le_of_ble_eq_true rfl)) dX12_meetsOf_23 ⟨Nat.zero_le _, Nat.zero_le _⟩) (fun x23 bx23 => ?_)
          refine lv_if_eq (tgt := 35) hx hb dX12_meetsOf_26 (by decide) (fun c26 => ?_) (fun c26 => ?_)
          · have r26tp : iv x23 0 0 := (iv_both bx23 (iv_eq (show iv 0 0 0 from ⟨by decide, by decide⟩) c26)).mono (by decide) (by decide)
            exact J35 c4_xp1 r11fp c4_y4_l2 _ (lv_sub hl [0, 1, 3] rfl)
          · have r26fp : iv x23 1 1 := (iv_ne_lo c26 bx23 rfl).mono (by decide) (by decide)
            refine lv_iconst (v := 1) hx hb dX12_meetsOf_29 (by decide) ?_
            refine lv_iload_n hx hb dX12_meetsOf_30 rfl (lv_at hl 3 rfl) ?_
            refine lv_ishl hx hb dX12_meetsOf_31 ?_
            refine lv_topi (fun x31 ex31 => ?_)
            have bx31 : iv x31 1 512 := iv_shl 9 (show iv 1 1 1 from ⟨by decide, by decide⟩) r11fp ex31 (by decide)
            refine lv_goto (tgt := 36) hx hb dX12_meetsOf_32 (by decide) ?_
            exact J36 x31 c4_xp1 r11fp c4_y4_l2 (bx31.mono (by decide) (by decide)) _ (lv_sub hl [0, 1, 3] rfl)
  exact J4 _ (0 : Int32) (0 : Int32) (Nat.lt_succ_self _) bp1 (show iv 0 0 1023 from ⟨by decide, by decide⟩) (show iv 0 0 10 from ⟨by decide, by decide⟩) _ (lv_sub hl [2, 3, 1, 0] rfl)
abbrev WX12_person (p : Program) (l : Launch) (e : Env) (s : State) (m : MethodId) (below : List Frame) (meth : Method) (c : Code) (D : hp_D) (T : hp_T) (ap0 : Nat) (xp1 : Int32) (xp2 : Int32) (H : Heap) (locs : List Loc) (g : JFrame) : Prop := W p l e (headSpec wsX12_person ({ frames := 4, cells := 0, slots := 0, locals := 91 })).room s m ([.ref ap0, .int xp1, .int xp2] : List Value).toArray below meth c H locs 0 0 (MQ below (hq_p (fun v => ∃ r : Int32, v = some (.int r) ∧ True)) ([.ref ap0, .int xp1, .int xp2] : List Value).toArray s 0 0 (fun _ => False)) g
set_option maxHeartbeats 4000000 in
set_option maxRecDepth 100000 in
theorem sX12_person (l : Launch) (D : hp_D) (T : hp_T) (ap0 : Nat) (xp1 : Int32) (xp2 : Int32) (Gm : moG) (ip0 : isMo T ap0 Gm) : Met l yX12_person wsX12_person ({ frames := 4, cells := 0, slots := 0, locals := 91 }) (hp_Pc D T [.ref ap0, .int xp1, .int xp2] (fun _ => True)) (hq_p (fun v => ∃ r : Int32, v = some (.int r) ∧ True)) 0 0 (fun _ => False) := by
  obtain ⟨ap0tape, ap0sign, ap0len, ap0clause, ap0clauses, ap0read, ap0opn, ap0stack, ap0word, ap0said, ap0was, ap0fitting, ap0sums, ap0sort, ap0sumsBy, ap0oneOf, ap0otherOf, ap0kept, ap0images, ap0acts, ap0iUnd, ap0iFor, ap0iX, ap0made, gok, hp0, hp0tape, hp0sign, hp0len, hp0clause, hp0clauses, hp0read, hp0opn, hp0stack, hp0word, hp0said, hp0was, hp0fitting, hp0sums, hp0sort, hp0sumsBy, hp0oneOf, hp0otherOf, hp0kept, hp0images, hp0acts, hp0iUnd, hp0iFor, hp0iX, hp0made⟩ := id ip0
  have hpx := gok.1
  have gsok := gok.2.2.2.2
  have ggd := gok.2.2.2.1
  refine Met.ofW (cc := cX12_person) (maxL := 3) (ret := (some .int)) (by decide) rfl ?_
  intro p e s m args below meth c s₁ B hml hv
  obtain ⟨rfl, hok, hG, hB⟩ := hv
  have hx := B.exec
  have hb := B.bytes
  have hr := B.returns
  have hts := atoms_spec (ws := wsX12_person) B.pre
  have hown : s.vm.findClass RX12 = some m.cls := findClass_of_methodNamed B.named
  have hlocks := B.notSynchronized
  have hK := hG.1
  have hw : hp_w D T s s.heap [] := hp_w.rf hok
  have K348 := hts (.constantLong RX12 348 4) (by decide +kernel)
  have hl := lv_entry ([.ref ap0, .int xp1, .int xp2]) (n := 3) (Nat.le_of_ble_eq_true rfl)
  rw [lg_entry_eq]
  generalize (lg_sl ([.ref ap0, .int xp1, .int xp2]) ++ List.replicate (3 - (lg_sl ([.ref ap0, .int xp1, .int xp2])).length) Slot.unset).toArray = ls at hl ⊢
  have hl : lv_has ls 3 [(0, .ref ap0), (1, .int xp1), (2, .int xp2)] := hl
  show WX12_person p l e s m below meth c D T ap0 xp1 xp2 s.heap [] (F0 m 0 ls [])
  refine lv_aload_n hx hb dX12_person_0 rfl (lv_at hl 0 rfl) ?_
  refine lv_iload_n hx hb dX12_person_1 rfl (lv_at hl 1 rfl) ?_
  refine hp_callpi (va_runV (As := [.int xp1]) (rest := []) ⟨hx, hb, hml, hown, hts⟩ (sX12_isPerson l D T ap0 xp1 Gm ip0) (cwV 1 hts gX12_person_X12_isPerson rfl rfl rfl (by decide +kernel) ⟨Nat.le_of_ble_eq_true rfl, Nat.le_of_ble_eq_true rfl⟩) (hp_preV hG hw hp0 rfl trivial) rfl rfl hl.1 rfl (lv_room (Nat.le_of_ble_eq_true rfl)) dX12_person_2 ⟨Nat.zero_le _, Nat.zero_le _⟩) (fun x2 bx2 => ?_)
  obtain ⟨bx2, ix2_0⟩ := bx2
  have J20 : ∀ (ls : Array Slot), lv_has ls 3 [] → WX12_person p l e s m below meth c D T ap0 xp1 xp2 s.heap [] (F0 m 20 ls []) := by
    intro ls hl
    refine lv_iconst (v := (-1)) hx hb dX12_person_20 (by decide) ?_
    exact W.iret (v := (-1)) hx hb hr (fun t ht hW => ⟨some (.int (-1)), rfl, ⟨((-1) : Int32), rfl, trivial⟩, ht⟩) (fun q h => by cases h) dX12_person_21
  refine lv_if_eq (tgt := 20) hx hb dX12_person_5 (by decide) (fun c5 => ?_) (fun c5 => ?_)
  · have r5tp : iv x2 0 0 := (iv_both bx2 (iv_eq (show iv 0 0 0 from ⟨by decide, by decide⟩) c5)).mono (by decide) (by decide)
    exact J20 _ (lv_sub hl [] rfl)
  · have r5fp : iv x2 1 1 := (iv_ne_lo c5 bx2 rfl).mono (by decide) (by decide)
    have r5fpz : iv xp1 0 9 := (iv_both (iv_any xp1) (ix2_0 (iv_ne0 r5fp (by decide)))).mono (by decide) (by decide)
    refine lv_iload_n hx hb dX12_person_8 rfl (lv_at hl 2 rfl) ?_
    obtain ⟨x9, ex9⟩ : ∃ y : Int64, xp2.toInt64 = y := ⟨_, rfl⟩
    refine lv_i2l (v := x9) hx hb dX12_person_9 ex9 ?_
    refine lv_lconst (v := 0) hx hb dX12_person_10 (by decide) ?_
    refine lv_ldc2 (v := 4) hx hb hown K348 dX12_person_11 ?_
    refine hp_callpi (va_runS (As := [.long x9, .long 0, .long 4]) (rest := []) ⟨hx, hb, hml, hown, hts⟩ (sX12_in l D T x9 0 4) (va_cwS 3 hts gX12_person_X12_in rfl rfl rfl (by decide +kernel) ⟨Nat.le_of_ble_eq_true rfl, Nat.le_of_ble_eq_true rfl⟩) (hp_preS hG hw trivial) rfl rfl hl.1 rfl (lv_room (Nat.le_of_ble_eq_true rfl)) dX12_person_14 ⟨Nat.zero_le _, Nat.zero_le _⟩) (fun x14 bx14 => ?_)
    obtain ⟨bx14, ox14, nx14⟩ := bx14
    have ox14a_ : x14 = 0 ∨ iv xp2 0 4 := ox14.imp id (fun h => iv_in64 ex9 h.1 h.2 (by decide) (by decide))
    have ox14a : x14 = 0 ∨ iv xp2 0 4 := ox14.imp id (fun h => iv_in64 ex9 h.1 h.2 (by decide) (by decide))
    refine lv_if_ne (tgt := 22) hx hb dX12_person_17 (by decide) (fun c17 => ?_) (fun c17 => ?_)
    · have r17tp : iv x14 1 1 := (iv_ne_lo c17 bx14 rfl).mono (by decide) (by decide)
      have r17tpz : iv xp2 0 4 := (iv_both (iv_any xp2) ((fun h9 => ox14a.resolve_left h9) (iv_ne0 r17tp (by decide)))).mono (by decide) (by decide)
      refine lv_iload_n hx hb dX12_person_22 rfl (lv_at hl 2 rfl) ?_
      refine lv_iconst (v := 4) hx hb dX12_person_23 (by decide) ?_
      have J41 : ∀ (y41_s0 : Int32), ∀ (ls : Array Slot), lv_has ls 3 [] → WX12_person p l e s m below meth c D T ap0 xp1 xp2 s.heap [] (F0 m 41 ls [.int y41_s0]) := by
        intro y41_s0 ls hl
        exact W.iret (v := y41_s0) hx hb hr (fun t ht hW => ⟨some (.int y41_s0), rfl, ⟨y41_s0, rfl, trivial⟩, ht⟩) (fun q h => by cases h) dX12_person_41
      refine lv_icmp_ge (tgt := 36) hx hb dX12_person_24 (by decide) (fun c24 => ?_) (fun c24 => ?_)
      · have r24tq : iv xp2 4 4 := (iv_le_r c24 (show iv 4 4 4 from ⟨by decide, by decide⟩) r17tpz).mono (by decide) (by decide)
        refine lv_aload_n hx hb dX12_person_36 rfl (lv_at hl 0 rfl) ?_
        refine lv_iload_n hx hb dX12_person_37 rfl (lv_at hl 1 rfl) ?_
        refine hp_callpi (va_runV (As := [.int xp1]) (rest := []) ⟨hx, hb, hml, hown, hts⟩ (sX12_meetsOf l D T ap0 xp1 Gm ip0 r5fpz) (cwV 1 hts gX12_person_X12_meetsOf rfl rfl rfl (by decide +kernel) ⟨Nat.le_of_ble_eq_true rfl, Nat.le_of_ble_eq_true rfl⟩) (hp_preV hG hw hp0 rfl trivial) rfl rfl hl.1 rfl (lv_room (Nat.le_of_ble_eq_true rfl)) dX12_person_38 ⟨Nat.zero_le _, Nat.zero_le _⟩) (fun x38 bx38 => ?_)
        exact J41 x38 _ (lv_sub hl [] rfl)
      · have r24fp : iv xp2 0 3 := (iv_lt_l (iv_nle c24) r17tpz (show iv 4 4 4 from ⟨by decide, by decide⟩)).mono (by decide) (by decide)
        refine lv_aload_n hx hb dX12_person_27 rfl (lv_at hl 0 rfl) ?_
        refine lv_iload_n hx hb dX12_person_28 rfl (lv_at hl 1 rfl) ?_
        refine lv_iload_n hx hb dX12_person_29 rfl (lv_at hl 2 rfl) ?_
        refine hp_callpi (va_runV (As := [.int xp1, .int xp2]) (rest := []) ⟨hx, hb, hml, hown, hts⟩ (sX12_personOf l D T ap0 xp1 xp2 Gm ip0 r5fpz r24fp) (cwV 2 hts gX12_person_X12_personOf rfl rfl rfl (by decide +kernel) ⟨Nat.le_of_ble_eq_true rfl, Nat.le_of_ble_eq_true rfl⟩) (hp_preV hG hw hp0 rfl trivial) rfl rfl hl.1 rfl (lv_room (Nat.le_of_ble_eq_true rfl)) dX12_person_30 ⟨Nat.zero_le _, Nat.zero_le _⟩) (fun x30 bx30 => ?_)
        refine lv_goto (tgt := 41) hx hb dX12_person_33 (by decide) ?_
        exact J41 x30 _ (lv_sub hl [] rfl)
    · have r17fp : iv x14 0 0 := (iv_both bx14 (iv_eq (show iv 0 0 0 from ⟨by decide, by decide⟩) c17)).mono (by decide) (by decide)
      exact J20 _ (lv_sub hl [] rfl)
abbrev WX12_crowd (p : Program) (l : Launch) (e : Env) (s : State) (m : MethodId) (below : List Frame) (meth : Method) (c : Code) (D : hp_D) (T : hp_T) (ap0 : Nat) (xp1 : Int32) (xp2 : Int32) (H : Heap) (locs : List Loc) (g : JFrame) : Prop := W p l e (headSpec wsX12_crowd ({ frames := 2, cells := 0, slots := 0, locals := 47 })).room s m ([.ref ap0, .int xp1, .int xp2] : List Value).toArray below meth c H locs 0 0 (MQ below (hq_p (fun v => ∃ r : Int32, v = some (.int r) ∧ True)) ([.ref ap0, .int xp1, .int xp2] : List Value).toArray s 0 0 (fun _ => False)) g
set_option maxHeartbeats 4000000 in
set_option maxRecDepth 100000 in
theorem sX12_crowd (l : Launch) (D : hp_D) (T : hp_T) (ap0 : Nat) (xp1 : Int32) (xp2 : Int32) (Gm : moG) (ip0 : isMo T ap0 Gm) : Met l yX12_crowd wsX12_crowd ({ frames := 2, cells := 0, slots := 0, locals := 47 }) (hp_Pc D T [.ref ap0, .int xp1, .int xp2] (fun _ => True)) (hq_p (fun v => ∃ r : Int32, v = some (.int r) ∧ True)) 0 0 (fun _ => False) := by
  obtain ⟨ap0tape, ap0sign, ap0len, ap0clause, ap0clauses, ap0read, ap0opn, ap0stack, ap0word, ap0said, ap0was, ap0fitting, ap0sums, ap0sort, ap0sumsBy, ap0oneOf, ap0otherOf, ap0kept, ap0images, ap0acts, ap0iUnd, ap0iFor, ap0iX, ap0made, gok, hp0, hp0tape, hp0sign, hp0len, hp0clause, hp0clauses, hp0read, hp0opn, hp0stack, hp0word, hp0said, hp0was, hp0fitting, hp0sums, hp0sort, hp0sumsBy, hp0oneOf, hp0otherOf, hp0kept, hp0images, hp0acts, hp0iUnd, hp0iFor, hp0iX, hp0made⟩ := id ip0
  have hpx := gok.1
  have gsok := gok.2.2.2.2
  have ggd := gok.2.2.2.1
  refine Met.ofW (cc := cX12_crowd) (maxL := 3) (ret := (some .int)) (by decide) rfl ?_
  intro p e s m args below meth c s₁ B hml hv
  obtain ⟨rfl, hok, hG, hB⟩ := hv
  have hx := B.exec
  have hb := B.bytes
  have hr := B.returns
  have hts := atoms_spec (ws := wsX12_crowd) B.pre
  have hown : s.vm.findClass RX12 = some m.cls := findClass_of_methodNamed B.named
  have hlocks := B.notSynchronized
  have hK := hG.1
  have hw : hp_w D T s s.heap [] := hp_w.rf hok
  have hl := lv_entry ([.ref ap0, .int xp1, .int xp2]) (n := 3) (Nat.le_of_ble_eq_true rfl)
  rw [lg_entry_eq]
  generalize (lg_sl ([.ref ap0, .int xp1, .int xp2]) ++ List.replicate (3 - (lg_sl ([.ref ap0, .int xp1, .int xp2])).length) Slot.unset).toArray = ls at hl ⊢
  have hl : lv_has ls 3 [(0, .ref ap0), (1, .int xp1), (2, .int xp2)] := hl
  show WX12_crowd p l e s m below meth c D T ap0 xp1 xp2 s.heap [] (F0 m 0 ls [])
  refine lv_aload_n hx hb dX12_crowd_0 rfl (lv_at hl 0 rfl) ?_
  refine lv_iload_n hx hb dX12_crowd_1 rfl (lv_at hl 1 rfl) ?_
  refine hp_callpi (va_runV (As := [.int xp1]) (rest := []) ⟨hx, hb, hml, hown, hts⟩ (sX12_isGate l D T ap0 xp1 Gm ip0) (cwV 1 hts gX12_crowd_X12_isGate rfl rfl rfl (by decide +kernel) ⟨Nat.le_of_ble_eq_true rfl, Nat.le_of_ble_eq_true rfl⟩) (hp_preV hG hw hp0 rfl trivial) rfl rfl hl.1 rfl (lv_room (Nat.le_of_ble_eq_true rfl)) dX12_crowd_2 ⟨Nat.zero_le _, Nat.zero_le _⟩) (fun x2 bx2 => ?_)
  obtain ⟨bx2, ix2_0⟩ := bx2
  have J30 : ∀ (y30_s0 : Int32), ∀ (ls : Array Slot), lv_has ls 3 [] → WX12_crowd p l e s m below meth c D T ap0 xp1 xp2 s.heap [] (F0 m 30 ls [.int y30_s0]) := by
    intro y30_s0 ls hl
    exact W.iret (v := y30_s0) hx hb hr (fun t ht hW => ⟨some (.int y30_s0), rfl, ⟨y30_s0, rfl, trivial⟩, ht⟩) (fun q h => by cases h) dX12_crowd_30
  have J29 : ∀ (ls : Array Slot), lv_has ls 3 [] → WX12_crowd p l e s m below meth c D T ap0 xp1 xp2 s.heap [] (F0 m 29 ls []) := by
    intro ls hl
    refine lv_iconst (v := (-1)) hx hb dX12_crowd_29 (by decide) ?_
    exact J30 ((-1) : Int32) _ (lv_sub hl [] rfl)
  refine lv_if_eq (tgt := 29) hx hb dX12_crowd_5 (by decide) (fun c5 => ?_) (fun c5 => ?_)
  · have r5tp : iv x2 0 0 := (iv_both bx2 (iv_eq (show iv 0 0 0 from ⟨by decide, by decide⟩) c5)).mono (by decide) (by decide)
    exact J29 _ (lv_sub hl [] rfl)
  · have r5fp : iv x2 1 1 := (iv_ne_lo c5 bx2 rfl).mono (by decide) (by decide)
    have r5fpz : iv xp1 0 5 := (iv_both (iv_any xp1) (ix2_0 (iv_ne0 r5fp (by decide)))).mono (by decide) (by decide)
    refine lv_aload_n hx hb dX12_crowd_8 rfl (lv_at hl 0 rfl) ?_
    refine lv_iload_n hx hb dX12_crowd_9 rfl (lv_at hl 2 rfl) ?_
    refine hp_callpi (va_runV (As := [.int xp2]) (rest := []) ⟨hx, hb, hml, hown, hts⟩ (sX12_isHour l D T ap0 xp2 Gm ip0) (cwV 1 hts gX12_crowd_X12_isHour rfl rfl rfl (by decide +kernel) ⟨Nat.le_of_ble_eq_true rfl, Nat.le_of_ble_eq_true rfl⟩) (hp_preV hG hw hp0 rfl trivial) rfl rfl hl.1 rfl (lv_room (Nat.le_of_ble_eq_true rfl)) dX12_crowd_10 ⟨Nat.zero_le _, Nat.zero_le _⟩) (fun x10 bx10 => ?_)
    obtain ⟨bx10, ix10_0⟩ := bx10
    refine lv_if_eq (tgt := 29) hx hb dX12_crowd_13 (by decide) (fun c13 => ?_) (fun c13 => ?_)
    · have r13tp : iv x10 0 0 := (iv_both bx10 (iv_eq (show iv 0 0 0 from ⟨by decide, by decide⟩) c13)).mono (by decide) (by decide)
      exact J29 _ (lv_sub hl [] rfl)
    · have r13fp : iv x10 1 1 := (iv_ne_lo c13 bx10 rfl).mono (by decide) (by decide)
      have r13fpz : iv xp2 0 11 := (iv_both (iv_any xp2) (ix10_0 (iv_ne0 r13fp (by decide)))).mono (by decide) (by decide)
      refine lv_aload_n hx hb dX12_crowd_16 rfl (lv_at hl 0 rfl) ?_
      refine lv_aload_n hx hb dX12_crowd_17 rfl (lv_at hl 0 rfl) ?_
      refine hp_callpi (va_runV (As := []) (rest := [.ref ap0]) ⟨hx, hb, hml, hown, hts⟩ (sX12_everybody_0 l D T ap0 Gm ip0) (cwV 0 hts gX12_crowd_X12_everybody rfl rfl rfl (by decide +kernel) ⟨Nat.le_of_ble_eq_true rfl, Nat.le_of_ble_eq_true rfl⟩) (hp_preV hG hw hp0 rfl trivial) rfl rfl hl.1 rfl (lv_room (Nat.le_of_ble_eq_true rfl)) dX12_crowd_18 ⟨Nat.zero_le _, Nat.zero_le _⟩) (fun x18 bx18 => ?_)
      refine lv_iload_n hx hb dX12_crowd_21 rfl (lv_at hl 1 rfl) ?_
      refine lv_iload_n hx hb dX12_crowd_22 rfl (lv_at hl 2 rfl) ?_
      refine hp_callpi (va_runV (As := [.int x18, .int xp1, .int xp2]) (rest := []) ⟨hx, hb, hml, hown, hts⟩ (sX12_crowdOf l D T ap0 x18 xp1 xp2 Gm ip0 r13fpz) (cwV 3 hts gX12_crowd_X12_crowdOf rfl rfl rfl (by decide +kernel) ⟨Nat.le_of_ble_eq_true rfl, Nat.le_of_ble_eq_true rfl⟩) (hp_preV hG hw hp0 rfl trivial) rfl rfl hl.1 rfl (lv_room (Nat.le_of_ble_eq_true rfl)) dX12_crowd_23 ⟨Nat.zero_le _, Nat.zero_le _⟩) (fun x23 bx23 => ?_)
      refine lv_goto (tgt := 30) hx hb dX12_crowd_26 (by decide) ?_
      exact J30 x23 _ (lv_sub hl [] rfl)
abbrev WX12_passedIn (p : Program) (l : Launch) (e : Env) (s : State) (m : MethodId) (below : List Frame) (meth : Method) (c : Code) (D : hp_D) (T : hp_T) (ap0 : Nat) (xp1 : Int32) (xp2 : Int32) (H : Heap) (locs : List Loc) (g : JFrame) : Prop := W p l e (headSpec wsX12_passedIn ({ frames := 2, cells := 0, slots := 0, locals := 45 })).room s m ([.ref ap0, .int xp1, .int xp2] : List Value).toArray below meth c H locs 0 0 (MQ below (hq_p (fun v => ∃ r : Int32, v = some (.int r) ∧ True)) ([.ref ap0, .int xp1, .int xp2] : List Value).toArray s 0 0 (fun _ => False)) g
set_option maxHeartbeats 4000000 in
set_option maxRecDepth 100000 in
theorem sX12_passedIn (l : Launch) (D : hp_D) (T : hp_T) (ap0 : Nat) (xp1 : Int32) (xp2 : Int32) (Gm : moG) (ip0 : isMo T ap0 Gm) (bp2 : iv xp2 0 11) : Met l yX12_passedIn wsX12_passedIn ({ frames := 2, cells := 0, slots := 0, locals := 45 }) (hp_Pc D T [.ref ap0, .int xp1, .int xp2] (fun _ => True)) (hq_p (fun v => ∃ r : Int32, v = some (.int r) ∧ True)) 0 0 (fun _ => False) := by
  obtain ⟨ap0tape, ap0sign, ap0len, ap0clause, ap0clauses, ap0read, ap0opn, ap0stack, ap0word, ap0said, ap0was, ap0fitting, ap0sums, ap0sort, ap0sumsBy, ap0oneOf, ap0otherOf, ap0kept, ap0images, ap0acts, ap0iUnd, ap0iFor, ap0iX, ap0made, gok, hp0, hp0tape, hp0sign, hp0len, hp0clause, hp0clauses, hp0read, hp0opn, hp0stack, hp0word, hp0said, hp0was, hp0fitting, hp0sums, hp0sort, hp0sumsBy, hp0oneOf, hp0otherOf, hp0kept, hp0images, hp0acts, hp0iUnd, hp0iFor, hp0iX, hp0made⟩ := id ip0
  have hpx := gok.1
  have gsok := gok.2.2.2.2
  have ggd := gok.2.2.2.1
  refine Met.ofW (cc := cX12_passedIn) (maxL := 6) (ret := (some .int)) (by decide) rfl ?_
  intro p e s m args below meth c s₁ B hml hv
  obtain ⟨rfl, hok, hG, hB⟩ := hv
  have hx := B.exec
  have hb := B.bytes
  have hr := B.returns
  have hts := atoms_spec (ws := wsX12_passedIn) B.pre
  have hown : s.vm.findClass RX12 = some m.cls := findClass_of_methodNamed B.named
  have hlocks := B.notSynchronized
  have hK := hG.1
  have hw : hp_w D T s s.heap [] := hp_w.rf hok
  have IX12 : ∀ w ∈ wsX120, w ∈ wsX12_passedIn := by decide +kernel
  have L39 := hts (.fieldLink RX12 39 "PalmCensusModel" "said" "[I") (by decide +kernel)
  have hl := lv_entry ([.ref ap0, .int xp1, .int xp2]) (n := 6) (Nat.le_of_ble_eq_true rfl)
  rw [lg_entry_eq]
  generalize (lg_sl ([.ref ap0, .int xp1, .int xp2]) ++ List.replicate (6 - (lg_sl ([.ref ap0, .int xp1, .int xp2])).length) Slot.unset).toArray = ls at hl ⊢
  have hl : lv_has ls 6 [(0, .ref ap0), (1, .int xp1), (2, .int xp2)] := hl
  show WX12_passedIn p l e s m below meth c D T ap0 xp1 xp2 s.heap [] (F0 m 0 ls [])
  refine lv_iload_n hx hb dX12_passedIn_0 rfl (lv_at hl 1 rfl) ?_
  refine lv_istore_n (lv' := [(3, .int xp1), (0, .ref ap0), (1, .int xp1), (2, .int xp2)]) hx hb dX12_passedIn_1 rfl hl (by decide) rfl (fun ls hl => ?_)
  refine lv_iconst (v := 0) hx hb dX12_passedIn_2 (by decide) ?_
  refine lv_istore (lv' := [(4, .int 0), (3, .int xp1), (0, .ref ap0), (1, .int xp1), (2, .int xp2)]) hx hb dX12_passedIn_3 hl (by decide) rfl (fun ls hl => ?_)
  have J5 : ∀ (n : Nat) (y5_l3 y5_l4 : Int32), (10 - y5_l4.toInt).toNat < n → iv xp2 0 11 → iv y5_l4 0 10 → ∀ (ls : Array Slot), lv_has ls 6 [(0, .ref ap0), (1, .int xp1), (2, .int xp2), (3, .int y5_l3), (4, .int y5_l4)] → WX12_passedIn p l e s m below meth c D T ap0 xp1 xp2 s.heap [] (F0 m 5 ls []) := by
    intro n
    induction n with
    | zero => intro y5_l3 y5_l4 hmu5 c5_xp2 c5_y5_l4 ls hl; exact absurd hmu5 (Nat.not_lt_zero _)
    | succ n ih5 =>
      intro y5_l3 y5_l4 hmu5 c5_xp2 c5_y5_l4 ls hl
      refine lv_iload hx hb dX12_passedIn_5 (lv_at hl 4 rfl) ?_
      refine lv_aload_n hx hb dX12_passedIn_7 rfl (lv_at hl 0 rfl) ?_
      refine hp_getr hx hb hts IX12 hown hK hw.1 hp0 rfl 20 (by decide) L39 rfl dX12_passedIn_8 ?_
      refine lv_iconst (v := 2) hx hb dX12_passedIn_11 (by decide) ?_
      refine hp_iald hx hb hK hw.1 hp0said (vp_iv (show iv 2 2 2 from ⟨by decide, by decide⟩) (by decide)) dX12_passedIn_12 (fun v12 hr12 => ?_)
      have h12 := gsok _ _ hr12
      obtain ⟨x12, rfl, bx12⟩ := sP_rd2 h12 (show iv 2 2 2 from ⟨by decide, by decide⟩)
      refine lv_icmp_ge (tgt := 77) hx hb dX12_passedIn_13 (by decide) (fun c13 => ?_) (fun c13 => ?_)
      · refine lv_iload_n hx hb dX12_passedIn_77 rfl (lv_at hl 3 rfl) ?_
        exact W.iret (v := y5_l3) hx hb hr (fun t ht hW => ⟨some (.int y5_l3), rfl, ⟨y5_l3, rfl, trivial⟩, ht⟩) (fun q h => by cases h) dX12_passedIn_78
      · have r13fp : iv y5_l4 0 9 := (iv_lt_l (iv_nle c13) c5_y5_l4 bx12).mono (by decide) (by decide)
        have r13fq : iv x12 1 10 := (iv_lt_r (iv_nle c13) c5_y5_l4 bx12).mono (by decide) (by decide)
        refine lv_iconst (v := 0) hx hb dX12_passedIn_16 (by decide) ?_
        refine lv_istore (lv' := [(5, .int 0), (0, .ref ap0), (1, .int xp1), (2, .int xp2), (3, .int y5_l3), (4, .int y5_l4)]) hx hb dX12_passedIn_17 hl (by decide) rfl (fun ls hl => ?_)
        have J19 : ∀ (n : Nat) (y19_l3 y19_l5 : Int32), (10 - y19_l5.toInt).toNat < n → iv xp2 0 11 → iv y5_l4 0 9 → iv y19_l5 0 10 → ∀ (ls : Array Slot), lv_has ls 6 [(0, .ref ap0), (1, .int xp1), (2, .int xp2), (3, .int y19_l3), (4, .int y5_l4), (5, .int y19_l5)] → WX12_passedIn p l e s m below meth c D T ap0 xp1 xp2 s.heap [] (F0 m 19 ls []) := by
          intro n
          induction n with
          | zero => intro y19_l3 y19_l5 hmu19 c19_xp2 c19_y5_l4 c19_y19_l5 ls hl; exact absurd hmu19 (Nat.not_lt_zero _)
          | succ n ih19 =>
            intro y19_l3 y19_l5 hmu19 c19_xp2 c19_y5_l4 c19_y19_l5 ls hl
            refine lv_iload hx hb dX12_passedIn_19 (lv_at hl 5 rfl) ?_
            refine lv_aload_n hx hb dX12_passedIn_21 rfl (lv_at hl 0 rfl) ?_
            refine hp_getr hx hb hts IX12 hown hK hw.1 hp0 rfl 20 (by decide) L39 rfl dX12_passedIn_22 ?_
            refine lv_iconst (v := 2) hx hb dX12_passedIn_25 (by decide) ?_
            refine hp_iald hx hb hK hw.1 hp0said (vp_iv (show iv 2 2 2 from ⟨by decide, by decide⟩) (by decide)) dX12_passedIn_26 (fun v26 hr26 => ?_)
            have h26 := gsok _ _ hr26
            obtain ⟨x26, rfl, bx26⟩ := sP_rd2 h26 (show iv 2 2 2 from ⟨by decide, by decide⟩)
            refine lv_icmp_ge (tgt := 71) hx hb dX12_passedIn_27 (by decide) (fun c27 => ?_) (fun c27 => ?_)
            · obtain ⟨x71, ex71⟩ : ∃ y : Int32, y = y5_l4 + 1 := ⟨_, rfl⟩
              have bx71 : iv x71 1 10 := iv_add c19_y5_l4 (show iv 1 1 1 from ⟨by decide, by decide⟩) ex71 (by decide)
              have qx71 := iv_add_eq c19_y5_l4 (show iv 1 1 1 from ⟨by decide, by decide⟩) ex71 (by decide)
              refine lv_iinc (v := x71) (lv' := [(4, .int x71), (0, .ref ap0), (1, .int xp1), (2, .int xp2), (3, .int y19_l3), (5, .int y19_l5)]) hx hb dX12_passedIn_71 hl (k := 4) rfl (by rw [ex71]; rfl) (by decide) rfl (fun ls hl => ?_)
              refine lv_goto (tgt := 5) hx hb dX12_passedIn_74 (by decide) ?_
              exact ih5 y19_l3 x71 (mu_up 1 hmu5 (qx71) (by decide) (show iv x71 0 10 from (bx71.mono (by decide) (by decide))).2) c19_xp2 (bx71.mono (by decide) (by decide)) _ (lv_sub hl [1, 2, 3, 4, 0] rfl)
            · have r27fp : iv y19_l5 0 9 := (iv_lt_l (iv_nle c27) c19_y19_l5 bx26).mono (by decide) (by decide)
              have r27fq : iv x26 1 10 := (iv_lt_r (iv_nle c27) c19_y19_l5 bx26).mono (by decide) (by decide)
              refine lv_iload hx hb dX12_passedIn_30 (lv_at hl 4 rfl) ?_
              refine lv_iload hx hb dX12_passedIn_32 (lv_at hl 5 rfl) ?_
              have J65 : ∀ (y65_l3 : Int32), iv xp2 0 11 → iv y5_l4 0 9 → iv y19_l5 0 9 → ∀ (ls : Array Slot), lv_has ls 6 [(0, .ref ap0), (1, .int xp1), (2, .int xp2), (3, .int y65_l3), (4, .int y5_l4), (5, .int y19_l5)] → WX12_passedIn p l e s m below meth c D T ap0 xp1 xp2 s.heap [] (F0 m 65 ls []) := by
                intro y65_l3 c65_xp2 c65_y5_l4 c65_y19_l5 ls hl
                obtain ⟨x65, ex65⟩ : ∃ y : Int32, y = y19_l5 + 1 := ⟨_, rfl⟩
                have bx65 : iv x65 1 10 := iv_add c65_y19_l5 (show iv 1 1 1 from ⟨by decide, by decide⟩) ex65 (by decide)
                have qx65 := iv_add_eq c65_y19_l5 (show iv 1 1 1 from ⟨by decide, by decide⟩) ex65 (by decide)
                refine lv_iinc (v := x65) (lv' := [(5, .int x65), (0, .ref ap0), (1, .int xp1), (2, .int xp2), (3, .int y65_l3), (4, .int y5_l4)]) hx hb dX12_passedIn_65 hl (k := 5) rfl (by rw [ex65]; rfl) (by decide) rfl (fun ls hl => ?_)
                refine lv_goto (tgt := 19) hx hb dX12_passedIn_68 (by decide) ?_
                exact ih19 y65_l3 x65 (mu_up 1 hmu19 (qx65) (by decide) (show iv x65 0 10 from (bx65.mono (by decide) (by decide))).2) c65_xp2 c65_y5_l4 (bx65.mono (by decide) (by decide)) _ (lv_sub hl [1, 2, 3, 4, 5, 0] rfl)
              refine lv_icmp_eq (tgt := 65) hx hb dX12_passedIn_34 (by decide) (fun c34 => ?_) (fun c34 => ?_)
              · exact J65 y19_l3 c19_xp2 c19_y5_l4 r27fp _ (lv_sub hl [0, 1, 2, 3, 4, 5] rfl)
              · refine lv_iload_n hx hb dX12_passedIn_37 rfl (lv_at hl 1 rfl) ?_
                refine lv_iload hx hb dX12_passedIn_38 (lv_at hl 4 rfl) ?_
                refine hp_callpi (va_runS (As := [.int xp1, .int y5_l4]) (rest := []) ⟨hx, hb, hml, hown, hts⟩ (sX12_isOf l D T xp1 y5_l4) (va_cwS 2 hts gX12_passedIn_X12_isOf rfl rfl rfl (by decide +kernel) ⟨Nat.le_of_ble_eq_true rfl, Nat.le_of_ble_eq_true rfl⟩) (hp_preS hG hw trivial) rfl rfl hl.1 rfl (lv_room (Nat.le_of_ble_eq_true rfl)) dX12_passedIn_40 ⟨Nat.zero_le _, Nat.zero_le _⟩) (fun x40 bx40 => ?_)
                refine lv_if_eq (tgt := 65) hx hb dX12_passedIn_43 (by decide) (fun c43 => ?_) (fun c43 => ?_)
                · have r43tp : iv x40 0 0 := (iv_both bx40 (iv_eq (show iv 0 0 0 from ⟨by decide, by decide⟩) c43)).mono (by decide) (by decide)
                  exact J65 y19_l3 c19_xp2 c19_y5_l4 r27fp _ (lv_sub hl [0, 1, 2, 3, 4, 5] rfl)
                · have r43fp : iv x40 1 1 := (iv_ne_lo c43 bx40 rfl).mono (by decide) (by decide)
                  refine lv_aload_n hx hb dX12_passedIn_46 rfl (lv_at hl 0 rfl) ?_
                  refine lv_iload hx hb dX12_passedIn_47 (lv_at hl 4 rfl) ?_
                  refine lv_iload hx hb dX12_passedIn_49 (lv_at hl 5 rfl) ?_
                  refine lv_iload_n hx hb dX12_passedIn_51 rfl (lv_at hl 2 rfl) ?_
                  refine hp_callpi (va_runV (As := [.int y5_l4, .int y19_l5, .int xp2]) (rest := []) ⟨hx, hb, hml, hown, hts⟩ (sX12_meetIn l D T ap0 y5_l4 y19_l5 xp2 Gm ip0 c19_y5_l4 r27fp c19_xp2) (cwV 3 hts gX12_passedIn_X12_meetIn rfl rfl rfl (by decide +kernel) ⟨Nat.le_of_ble_eq_true rfl, Nat.le_of_ble_eq_true rfl⟩) (hp_preV hG hw hp0 rfl trivial) rfl rfl hl.1 rfl (lv_room (Nat.le_of_ble_eq_true rfl)) dX12_passedIn_52 ⟨Nat.zero_le _, Nat.zero_le _⟩) (fun x52 bx52 => ?_)
                  refine lv_if_eq (tgt := 65) hx hb dX12_passedIn_55 (by decide) (fun c55 => ?_) (fun c55 => ?_)
                  · have r55tp : iv x52 0 0 := (iv_both bx52 (iv_eq (show iv 0 0 0 from ⟨by decide, by decide⟩) c55)).mono (by decide) (by decide)
                    exact J65 y19_l3 c19_xp2 c19_y5_l4 r27fp _ (lv_sub hl [0, 1, 2, 3, 4, 5] rfl)
                  · have r55fp : iv x52 1 1 := (iv_ne_lo c55 bx52 rfl).mono (by decide) (by decide)
                    refine lv_iload_n hx hb dX12_passedIn_58 rfl (lv_at hl 3 rfl) ?_
                    refine lv_iconst (v := 1) hx hb dX12_passedIn_59 (by decide) ?_
                    refine lv_iload hx hb dX12_passedIn_60 (lv_at hl 5 rfl) ?_
                    refine lv_ishl hx hb dX12_passedIn_62 ?_
                    refine lv_topi (fun x62 ex62 => ?_)
                    have bx62 : iv x62 1 512 := iv_shl 9 (show iv 1 1 1 from ⟨by decide, by decide⟩) r27fp ex62 (by decide)
                    refine lv_ior hx hb dX12_passedIn_63 ?_
                    refine lv_topi (fun x63 ex63 => ?_)
                    refine lv_istore_n (lv' := [(3, .int x63), (0, .ref ap0), (1, .int xp1), (2, .int xp2), (4, .int y5_l4), (5, .int y19_l5)]) hx hb dX12_passedIn_64 rfl hl (by decide) rfl (fun ls hl => ?_)
                    exact J65 x63 c19_xp2 c19_y5_l4 r27fp _ (lv_sub hl [1, 2, 3, 0, 4, 5] rfl)
        exact J19 _ y5_l3 (0 : Int32) (Nat.lt_succ_self _) c5_xp2 r13fp (show iv 0 0 10 from ⟨by decide, by decide⟩) _ (lv_sub hl [1, 2, 3, 4, 5, 0] rfl)
  exact J5 _ xp1 (0 : Int32) (Nat.lt_succ_self _) bp2 (show iv 0 0 10 from ⟨by decide, by decide⟩) _ (lv_sub hl [2, 3, 4, 1, 0] rfl)
abbrev WX12_passes (p : Program) (l : Launch) (e : Env) (s : State) (m : MethodId) (below : List Frame) (meth : Method) (c : Code) (D : hp_D) (T : hp_T) (ap0 : Nat) (xp1 : Int32) (xp2 : Int32) (H : Heap) (locs : List Loc) (g : JFrame) : Prop := W p l e (headSpec wsX12_passes ({ frames := 3, cells := 0, slots := 0, locals := 70 })).room s m ([.ref ap0, .int xp1, .int xp2] : List Value).toArray below meth c H locs 0 0 (MQ below (hq_p (fun v => ∃ r : Int32, v = some (.int r) ∧ True)) ([.ref ap0, .int xp1, .int xp2] : List Value).toArray s 0 0 (fun _ => False)) g
set_option maxHeartbeats 4000000 in
set_option maxRecDepth 100000 in
theorem sX12_passes (l : Launch) (D : hp_D) (T : hp_T) (ap0 : Nat) (xp1 : Int32) (xp2 : Int32) (Gm : moG) (ip0 : isMo T ap0 Gm) : Met l yX12_passes wsX12_passes ({ frames := 3, cells := 0, slots := 0, locals := 70 }) (hp_Pc D T [.ref ap0, .int xp1, .int xp2] (fun _ => True)) (hq_p (fun v => ∃ r : Int32, v = some (.int r) ∧ True)) 0 0 (fun _ => False) := by
  obtain ⟨ap0tape, ap0sign, ap0len, ap0clause, ap0clauses, ap0read, ap0opn, ap0stack, ap0word, ap0said, ap0was, ap0fitting, ap0sums, ap0sort, ap0sumsBy, ap0oneOf, ap0otherOf, ap0kept, ap0images, ap0acts, ap0iUnd, ap0iFor, ap0iX, ap0made, gok, hp0, hp0tape, hp0sign, hp0len, hp0clause, hp0clauses, hp0read, hp0opn, hp0stack, hp0word, hp0said, hp0was, hp0fitting, hp0sums, hp0sort, hp0sumsBy, hp0oneOf, hp0otherOf, hp0kept, hp0images, hp0acts, hp0iUnd, hp0iFor, hp0iX, hp0made⟩ := id ip0
  have hpx := gok.1
  have gsok := gok.2.2.2.2
  have ggd := gok.2.2.2.1
  refine Met.ofW (cc := cX12_passes) (maxL := 5) (ret := (some .int)) (by decide) rfl ?_
  intro p e s m args below meth c s₁ B hml hv
  obtain ⟨rfl, hok, hG, hB⟩ := hv
  have hx := B.exec
  have hb := B.bytes
  have hr := B.returns
  have hts := atoms_spec (ws := wsX12_passes) B.pre
  have hown : s.vm.findClass RX12 = some m.cls := findClass_of_methodNamed B.named
  have hlocks := B.notSynchronized
  have hK := hG.1
  have hw : hp_w D T s s.heap [] := hp_w.rf hok
  have IX12 : ∀ w ∈ wsX120, w ∈ wsX12_passes := by decide +kernel
  have L39 := hts (.fieldLink RX12 39 "PalmCensusModel" "said" "[I") (by decide +kernel)
  have hl := lv_entry ([.ref ap0, .int xp1, .int xp2]) (n := 5) (Nat.le_of_ble_eq_true rfl)
  rw [lg_entry_eq]
  generalize (lg_sl ([.ref ap0, .int xp1, .int xp2]) ++ List.replicate (5 - (lg_sl ([.ref ap0, .int xp1, .int xp2])).length) Slot.unset).toArray = ls at hl ⊢
  have hl : lv_has ls 5 [(0, .ref ap0), (1, .int xp1), (2, .int xp2)] := hl
  show WX12_passes p l e s m below meth c D T ap0 xp1 xp2 s.heap [] (F0 m 0 ls [])
  refine lv_aload_n hx hb dX12_passes_0 rfl (lv_at hl 0 rfl) ?_
  refine lv_iload_n hx hb dX12_passes_1 rfl (lv_at hl 1 rfl) ?_
  refine hp_callpi (va_runV (As := [.int xp1]) (rest := []) ⟨hx, hb, hml, hown, hts⟩ (sX12_isPerson l D T ap0 xp1 Gm ip0) (cwV 1 hts gX12_passes_X12_isPerson rfl rfl rfl (by decide +kernel) ⟨Nat.le_of_ble_eq_true rfl, Nat.le_of_ble_eq_true rfl⟩) (hp_preV hG hw hp0 rfl trivial) rfl rfl hl.1 rfl (lv_room (Nat.le_of_ble_eq_true rfl)) dX12_passes_2 ⟨Nat.zero_le _, Nat.zero_le _⟩) (fun x2 bx2 => ?_)
  obtain ⟨bx2, ix2_0⟩ := bx2
  have J16 : ∀ (ls : Array Slot), lv_has ls 5 [] → WX12_passes p l e s m below meth c D T ap0 xp1 xp2 s.heap [] (F0 m 16 ls []) := by
    intro ls hl
    refine lv_bipush (v := (-3)) hx hb dX12_passes_16 (by decide) ?_
    exact W.iret (v := (-3)) hx hb hr (fun t ht hW => ⟨some (.int (-3)), rfl, ⟨((-3) : Int32), rfl, trivial⟩, ht⟩) (fun q h => by cases h) dX12_passes_18
  refine lv_if_eq (tgt := 16) hx hb dX12_passes_5 (by decide) (fun c5 => ?_) (fun c5 => ?_)
  · have r5tp : iv x2 0 0 := (iv_both bx2 (iv_eq (show iv 0 0 0 from ⟨by decide, by decide⟩) c5)).mono (by decide) (by decide)
    exact J16 _ (lv_sub hl [] rfl)
  · have r5fp : iv x2 1 1 := (iv_ne_lo c5 bx2 rfl).mono (by decide) (by decide)
    have r5fpz : iv xp1 0 9 := (iv_both (iv_any xp1) (ix2_0 (iv_ne0 r5fp (by decide)))).mono (by decide) (by decide)
    refine lv_aload_n hx hb dX12_passes_8 rfl (lv_at hl 0 rfl) ?_
    refine lv_iload_n hx hb dX12_passes_9 rfl (lv_at hl 2 rfl) ?_
    refine hp_callpi (va_runV (As := [.int xp2]) (rest := []) ⟨hx, hb, hml, hown, hts⟩ (sX12_isPerson l D T ap0 xp2 Gm ip0) (cwV 1 hts gX12_passes_X12_isPerson rfl rfl rfl (by decide +kernel) ⟨Nat.le_of_ble_eq_true rfl, Nat.le_of_ble_eq_true rfl⟩) (hp_preV hG hw hp0 rfl trivial) rfl rfl hl.1 rfl (lv_room (Nat.le_of_ble_eq_true rfl)) dX12_passes_10 ⟨Nat.zero_le _, Nat.zero_le _⟩) (fun x10 bx10 => ?_)
    obtain ⟨bx10, ix10_0⟩ := bx10
    refine lv_if_ne (tgt := 19) hx hb dX12_passes_13 (by decide) (fun c13 => ?_) (fun c13 => ?_)
    · have r13tp : iv x10 1 1 := (iv_ne_lo c13 bx10 rfl).mono (by decide) (by decide)
      have r13tpz : iv xp2 0 9 := (iv_both (iv_any xp2) (ix10_0 (iv_ne0 r13tp (by decide)))).mono (by decide) (by decide)
      refine lv_iload_n hx hb dX12_passes_19 rfl (lv_at hl 1 rfl) ?_
      refine lv_iload_n hx hb dX12_passes_20 rfl (lv_at hl 2 rfl) ?_
      refine lv_icmp_ne (tgt := 26) hx hb dX12_passes_21 (by decide) (fun c21 => ?_) (fun c21 => ?_)
      · refine lv_iconst (v := 1) hx hb dX12_passes_26 (by decide) ?_
        refine lv_iload_n hx hb dX12_passes_27 rfl (lv_at hl 1 rfl) ?_
        refine lv_ishl hx hb dX12_passes_28 ?_
        refine lv_topi (fun x28 ex28 => ?_)
        have bx28 : iv x28 1 512 := iv_shl 9 (show iv 1 1 1 from ⟨by decide, by decide⟩) r5fpz ex28 (by decide)
        refine lv_istore_n (lv' := [(3, .int x28), (0, .ref ap0), (1, .int xp1), (2, .int xp2)]) hx hb dX12_passes_29 rfl hl (by decide) rfl (fun ls hl => ?_)
        refine lv_iconst (v := 0) hx hb dX12_passes_30 (by decide) ?_
        refine lv_istore (lv' := [(4, .int 0), (3, .int x28), (0, .ref ap0), (1, .int xp1), (2, .int xp2)]) hx hb dX12_passes_31 hl (by decide) rfl (fun ls hl => ?_)
        have J33 : ∀ (n : Nat) (y33_l3 y33_l4 : Int32), (12 - y33_l4.toInt).toNat < n → iv xp2 0 9 → iv y33_l4 0 12 → ∀ (ls : Array Slot), lv_has ls 5 [(0, .ref ap0), (2, .int xp2), (3, .int y33_l3), (4, .int y33_l4)] → WX12_passes p l e s m below meth c D T ap0 xp1 xp2 s.heap [] (F0 m 33 ls []) := by
          intro n
          induction n with
          | zero => intro y33_l3 y33_l4 hmu33 c33_xp2 c33_y33_l4 ls hl; exact absurd hmu33 (Nat.not_lt_zero _)
          | succ n ih33 =>
            intro y33_l3 y33_l4 hmu33 c33_xp2 c33_y33_l4 ls hl
            refine lv_iload hx hb dX12_passes_33 (lv_at hl 3 rfl) ?_
            refine lv_aload_n hx hb dX12_passes_35 rfl (lv_at hl 0 rfl) ?_
            refine hp_getr hx hb hts IX12 hown hK hw.1 hp0 rfl 20 (by decide) L39 rfl dX12_passes_36 ?_
            refine lv_iconst (v := 1) hx hb dX12_passes_39 (by decide) ?_
            refine hp_iald hx hb hK hw.1 hp0said (vp_iv (show iv 1 1 1 from ⟨by decide, by decide⟩) (by decide)) dX12_passes_40 (fun v40 hr40 => ?_)
            have h40 := gsok _ _ hr40
            obtain ⟨x40, rfl, bx40⟩ := sP_rd1 h40 (show iv 1 1 1 from ⟨by decide, by decide⟩)
            refine lv_icmp_ge (tgt := 69) hx hb dX12_passes_41 (by decide) (fun c41 => ?_) (fun c41 => ?_)
            · refine lv_bipush (v := (-2)) hx hb dX12_passes_69 (by decide) ?_
              exact W.iret (v := (-2)) hx hb hr (fun t ht hW => ⟨some (.int (-2)), rfl, ⟨((-2) : Int32), rfl, trivial⟩, ht⟩) (fun q h => by cases h) dX12_passes_71
            · have r41fp : iv y33_l4 0 11 := (iv_lt_l (iv_nle c41) c33_y33_l4 bx40).mono (by decide) (by decide)
              have r41fq : iv x40 1 12 := (iv_lt_r (iv_nle c41) c33_y33_l4 bx40).mono (by decide) (by decide)
              refine lv_aload_n hx hb dX12_passes_44 rfl (lv_at hl 0 rfl) ?_
              refine lv_iload_n hx hb dX12_passes_45 rfl (lv_at hl 2 rfl) ?_
              refine lv_iload hx hb dX12_passes_46 (lv_at hl 3 rfl) ?_
              refine hp_callpi (va_runV (As := [.int y33_l3, .int y33_l4]) (rest := []) ⟨hx, hb, hml, hown, hts⟩ (sX12_passedIn l D T ap0 y33_l3 y33_l4 Gm ip0 r41fp) (cwV 2 hts gX12_passes_X12_passedIn rfl rfl rfl (by decide +kernel) ⟨Nat.le_of_ble_eq_true rfl, Nat.le_of_ble_eq_true rfl⟩) (hp_preV hG hw hp0 rfl trivial) rfl rfl hl.1 rfl (lv_room (Nat.le_of_ble_eq_true rfl)) dX12_passes_48 ⟨Nat.zero_le _, Nat.zero_le _⟩) (fun x48 bx48 => ?_)
              refine lv_istore_n (lv' := [(3, .int x48), (0, .ref ap0), (2, .int xp2), (4, .int y33_l4)]) hx hb dX12_passes_51 rfl hl (by decide) rfl (fun ls hl => ?_)
              refine lv_iload_n hx hb dX12_passes_52 rfl (lv_at hl 0 rfl) ?_
              refine lv_iload_n hx hb dX12_passes_53 rfl (lv_at hl 2 rfl) ?_
              refine hp_callpi (va_runS (As := [.int x48, .int xp2]) (rest := []) ⟨hx, hb, hml, hown, hts⟩ (sX12_isOf l D T x48 xp2) (va_cwS 2 hts gX12_passes_X12_isOf rfl rfl rfl (by decide +kernel) ⟨Nat.le_of_ble_eq_true rfl, Nat.le_of_ble_eq_true rfl⟩) (hp_preS hG hw trivial) rfl rfl hl.1 rfl (lv_room (Nat.le_of_ble_eq_true rfl)) dX12_passes_54 ⟨Nat.zero_le _, Nat.zero_le _⟩) (fun x54 bx54 => ?_)
              refine lv_if_eq (tgt := 63) hx hb dX12_passes_57 (by decide) (fun c57 => ?_) (fun c57 => ?_)
              · have r57tp : iv x54 0 0 := (iv_both bx54 (iv_eq (show iv 0 0 0 from ⟨by decide, by decide⟩) c57)).mono (by decide) (by decide)
                obtain ⟨x63, ex63⟩ : ∃ y : Int32, y = y33_l4 + 1 := ⟨_, rfl⟩
                have bx63 : iv x63 1 12 := iv_add r41fp (show iv 1 1 1 from ⟨by decide, by decide⟩) ex63 (by decide)
                have qx63 := iv_add_eq r41fp (show iv 1 1 1 from ⟨by decide, by decide⟩) ex63 (by decide)
                refine lv_iinc (v := x63) (lv' := [(4, .int x63), (3, .int x48), (0, .ref ap0), (2, .int xp2)]) hx hb dX12_passes_63 hl (k := 3) rfl (by rw [ex63]; rfl) (by decide) rfl (fun ls hl => ?_)
                refine lv_goto (tgt := 33) hx hb dX12_passes_66 (by decide) ?_
                exact ih33 x48 x63 (mu_up 1 hmu33 (qx63) (by decide) (show iv x63 0 12 from (bx63.mono (by decide) (by decide))).2) c33_xp2 (bx63.mono (by decide) (by decide)) _ (lv_sub hl [2, 3, 1, 0] rfl)
              · have r57fp : iv x54 1 1 := (iv_ne_lo c57 bx54 rfl).mono (by decide) (by decide)
                refine lv_iload hx hb dX12_passes_60 (lv_at hl 3 rfl) ?_
                exact W.iret (v := y33_l4) hx hb hr (fun t ht hW => ⟨some (.int y33_l4), rfl, ⟨y33_l4, rfl, trivial⟩, ht⟩) (fun q h => by cases h) dX12_passes_62
        exact J33 _ x28 (0 : Int32) (Nat.lt_succ_self _) r13tpz (show iv 0 0 12 from ⟨by decide, by decide⟩) _ (lv_sub hl [2, 4, 1, 0] rfl)
      · refine lv_iconst (v := (-1)) hx hb dX12_passes_24 (by decide) ?_
        exact W.iret (v := (-1)) hx hb hr (fun t ht hW => ⟨some (.int (-1)), rfl, ⟨((-1) : Int32), rfl, trivial⟩, ht⟩) (fun q h => by cases h) dX12_passes_25
    · have r13fp : iv x10 0 0 := (iv_both bx10 (iv_eq (show iv 0 0 0 from ⟨by decide, by decide⟩) c13)).mono (by decide) (by decide)
      exact J16 _ (lv_sub hl [] rfl)
abbrev WX12_have (p : Program) (l : Launch) (e : Env) (s : State) (m : MethodId) (below : List Frame) (meth : Method) (c : Code) (D : hp_D) (T : hp_T) (ap0 : Nat) (xp1 : Int32) (xp2 : Int32) (H : Heap) (locs : List Loc) (g : JFrame) : Prop := W p l e (headSpec wsX12_have ({ frames := 3, cells := 0, slots := 0, locals := 70 })).room s m ([.ref ap0, .int xp1, .int xp2] : List Value).toArray below meth c H locs 0 0 (MQ below (hq_p (fun v => ∃ r : Int32, v = some (.int r) ∧ True)) ([.ref ap0, .int xp1, .int xp2] : List Value).toArray s 0 0 (fun _ => False)) g
set_option maxHeartbeats 4000000 in
set_option maxRecDepth 100000 in
theorem sX12_have (l : Launch) (D : hp_D) (T : hp_T) (ap0 : Nat) (xp1 : Int32) (xp2 : Int32) (Gm : moG) (ip0 : isMo T ap0 Gm) : Met l yX12_have wsX12_have ({ frames := 3, cells := 0, slots := 0, locals := 70 }) (hp_Pc D T [.ref ap0, .int xp1, .int xp2] (fun _ => True)) (hq_p (fun v => ∃ r : Int32, v = some (.int r) ∧ True)) 0 0 (fun _ => False) := by
  obtain ⟨ap0tape, ap0sign, ap0len, ap0clause, ap0clauses, ap0read, ap0opn, ap0stack, ap0word, ap0said, ap0was, ap0fitting, ap0sums, ap0sort, ap0sumsBy, ap0oneOf, ap0otherOf, ap0kept, ap0images, ap0acts, ap0iUnd, ap0iFor, ap0iX, ap0made, gok, hp0, hp0tape, hp0sign, hp0len, hp0clause, hp0clauses, hp0read, hp0opn, hp0stack, hp0word, hp0said, hp0was, hp0fitting, hp0sums, hp0sort, hp0sumsBy, hp0oneOf, hp0otherOf, hp0kept, hp0images, hp0acts, hp0iUnd, hp0iFor, hp0iX, hp0made⟩ := id ip0
  have hpx := gok.1
  have gsok := gok.2.2.2.2
  have ggd := gok.2.2.2.1
  refine Met.ofW (cc := cX12_have) (maxL := 5) (ret := (some .int)) (by decide) rfl ?_
  intro p e s m args below meth c s₁ B hml hv
  obtain ⟨rfl, hok, hG, hB⟩ := hv
  have hx := B.exec
  have hb := B.bytes
  have hr := B.returns
  have hts := atoms_spec (ws := wsX12_have) B.pre
  have hown : s.vm.findClass RX12 = some m.cls := findClass_of_methodNamed B.named
  have hlocks := B.notSynchronized
  have hK := hG.1
  have hw : hp_w D T s s.heap [] := hp_w.rf hok
  have hl := lv_entry ([.ref ap0, .int xp1, .int xp2]) (n := 5) (Nat.le_of_ble_eq_true rfl)
  rw [lg_entry_eq]
  generalize (lg_sl ([.ref ap0, .int xp1, .int xp2]) ++ List.replicate (5 - (lg_sl ([.ref ap0, .int xp1, .int xp2])).length) Slot.unset).toArray = ls at hl ⊢
  have hl : lv_has ls 5 [(0, .ref ap0), (1, .int xp1), (2, .int xp2)] := hl
  show WX12_have p l e s m below meth c D T ap0 xp1 xp2 s.heap [] (F0 m 0 ls [])
  refine lv_aload_n hx hb dX12_have_0 rfl (lv_at hl 0 rfl) ?_
  refine lv_iload_n hx hb dX12_have_1 rfl (lv_at hl 1 rfl) ?_
  refine hp_callpi (va_runV (As := [.int xp1]) (rest := []) ⟨hx, hb, hml, hown, hts⟩ (sX12_isPerson l D T ap0 xp1 Gm ip0) (cwV 1 hts gX12_have_X12_isPerson rfl rfl rfl (by decide +kernel) ⟨Nat.le_of_ble_eq_true rfl, Nat.le_of_ble_eq_true rfl⟩) (hp_preV hG hw hp0 rfl trivial) rfl rfl hl.1 rfl (lv_room (Nat.le_of_ble_eq_true rfl)) dX12_have_2 ⟨Nat.zero_le _, Nat.zero_le _⟩) (fun x2 bx2 => ?_)
  obtain ⟨bx2, ix2_0⟩ := bx2
  have J16 : ∀ (ls : Array Slot), lv_has ls 5 [] → WX12_have p l e s m below meth c D T ap0 xp1 xp2 s.heap [] (F0 m 16 ls []) := by
    intro ls hl
    refine lv_iconst (v := (-1)) hx hb dX12_have_16 (by decide) ?_
    exact W.iret (v := (-1)) hx hb hr (fun t ht hW => ⟨some (.int (-1)), rfl, ⟨((-1) : Int32), rfl, trivial⟩, ht⟩) (fun q h => by cases h) dX12_have_17
  refine lv_if_eq (tgt := 16) hx hb dX12_have_5 (by decide) (fun c5 => ?_) (fun c5 => ?_)
  · have r5tp : iv x2 0 0 := (iv_both bx2 (iv_eq (show iv 0 0 0 from ⟨by decide, by decide⟩) c5)).mono (by decide) (by decide)
    exact J16 _ (lv_sub hl [] rfl)
  · have r5fp : iv x2 1 1 := (iv_ne_lo c5 bx2 rfl).mono (by decide) (by decide)
    have r5fpz : iv xp1 0 9 := (iv_both (iv_any xp1) (ix2_0 (iv_ne0 r5fp (by decide)))).mono (by decide) (by decide)
    refine lv_aload_n hx hb dX12_have_8 rfl (lv_at hl 0 rfl) ?_
    refine lv_iload_n hx hb dX12_have_9 rfl (lv_at hl 2 rfl) ?_
    refine hp_callpi (va_runV (As := [.int xp2]) (rest := []) ⟨hx, hb, hml, hown, hts⟩ (sX12_isHour l D T ap0 xp2 Gm ip0) (cwV 1 hts gX12_have_X12_isHour rfl rfl rfl (by decide +kernel) ⟨Nat.le_of_ble_eq_true rfl, Nat.le_of_ble_eq_true rfl⟩) (hp_preV hG hw hp0 rfl trivial) rfl rfl hl.1 rfl (lv_room (Nat.le_of_ble_eq_true rfl)) dX12_have_10 ⟨Nat.zero_le _, Nat.zero_le _⟩) (fun x10 bx10 => ?_)
    obtain ⟨bx10, ix10_0⟩ := bx10
    refine lv_if_ne (tgt := 18) hx hb dX12_have_13 (by decide) (fun c13 => ?_) (fun c13 => ?_)
    · have r13tp : iv x10 1 1 := (iv_ne_lo c13 bx10 rfl).mono (by decide) (by decide)
      have r13tpz : iv xp2 0 11 := (iv_both (iv_any xp2) (ix10_0 (iv_ne0 r13tp (by decide)))).mono (by decide) (by decide)
      refine lv_iconst (v := 1) hx hb dX12_have_18 (by decide) ?_
      refine lv_iload_n hx hb dX12_have_19 rfl (lv_at hl 1 rfl) ?_
      refine lv_ishl hx hb dX12_have_20 ?_
      refine lv_topi (fun x20 ex20 => ?_)
      have bx20 : iv x20 1 512 := iv_shl 9 (show iv 1 1 1 from ⟨by decide, by decide⟩) r5fpz ex20 (by decide)
      refine lv_istore_n (lv' := [(3, .int x20), (0, .ref ap0), (1, .int xp1), (2, .int xp2)]) hx hb dX12_have_21 rfl hl (by decide) rfl (fun ls hl => ?_)
      refine lv_iconst (v := 0) hx hb dX12_have_22 (by decide) ?_
      refine lv_istore (lv' := [(4, .int 0), (3, .int x20), (0, .ref ap0), (1, .int xp1), (2, .int xp2)]) hx hb dX12_have_23 hl (by decide) rfl (fun ls hl => ?_)
      have J25 : ∀ (n : Nat) (y25_l3 y25_l4 : Int32), (12 - y25_l4.toInt).toNat < n → iv xp2 0 11 → iv y25_l4 0 12 → ∀ (ls : Array Slot), lv_has ls 5 [(0, .ref ap0), (2, .int xp2), (3, .int y25_l3), (4, .int y25_l4)] → WX12_have p l e s m below meth c D T ap0 xp1 xp2 s.heap [] (F0 m 25 ls []) := by
        intro n
        induction n with
        | zero => intro y25_l3 y25_l4 hmu25 c25_xp2 c25_y25_l4 ls hl; exact absurd hmu25 (Nat.not_lt_zero _)
        | succ n ih25 =>
          intro y25_l3 y25_l4 hmu25 c25_xp2 c25_y25_l4 ls hl
          refine lv_iload hx hb dX12_have_25 (lv_at hl 3 rfl) ?_
          refine lv_iload_n hx hb dX12_have_27 rfl (lv_at hl 1 rfl) ?_
          refine lv_icmp_gt (tgt := 45) hx hb dX12_have_28 (by decide) (fun c28 => ?_) (fun c28 => ?_)
          · have r28tq : iv y25_l4 1 12 := (iv_lt_r c28 c25_xp2 c25_y25_l4).mono (by decide) (by decide)
            refine lv_iload_n hx hb dX12_have_45 rfl (lv_at hl 2 rfl) ?_
            exact W.iret (v := y25_l3) hx hb hr (fun t ht hW => ⟨some (.int y25_l3), rfl, ⟨y25_l3, rfl, trivial⟩, ht⟩) (fun q h => by cases h) dX12_have_46
          · have r28fp : iv y25_l4 0 11 := (iv_le_l (iv_nlt c28) c25_y25_l4 c25_xp2).mono (by decide) (by decide)
            refine lv_aload_n hx hb dX12_have_31 rfl (lv_at hl 0 rfl) ?_
            refine lv_iload_n hx hb dX12_have_32 rfl (lv_at hl 2 rfl) ?_
            refine lv_iload hx hb dX12_have_33 (lv_at hl 3 rfl) ?_
            refine hp_callpi (va_runV (As := [.int y25_l3, .int y25_l4]) (rest := []) ⟨hx, hb, hml, hown, hts⟩ (sX12_passedIn l D T ap0 y25_l3 y25_l4 Gm ip0 r28fp) (cwV 2 hts gX12_have_X12_passedIn rfl rfl rfl (by decide +kernel) ⟨Nat.le_of_ble_eq_true rfl, Nat.le_of_ble_eq_true rfl⟩) (hp_preV hG hw hp0 rfl trivial) rfl rfl hl.1 rfl (lv_room (Nat.le_of_ble_eq_true rfl)) dX12_have_35 ⟨Nat.zero_le _, Nat.zero_le _⟩) (fun x35 bx35 => ?_)
            refine lv_istore_n (lv' := [(3, .int x35), (0, .ref ap0), (2, .int xp2), (4, .int y25_l4)]) hx hb dX12_have_38 rfl hl (by decide) rfl (fun ls hl => ?_)
            obtain ⟨x39, ex39⟩ : ∃ y : Int32, y = y25_l4 + 1 := ⟨_, rfl⟩
            have bx39 : iv x39 1 12 := iv_add r28fp (show iv 1 1 1 from ⟨by decide, by decide⟩) ex39 (by decide)
            have qx39 := iv_add_eq r28fp (show iv 1 1 1 from ⟨by decide, by decide⟩) ex39 (by decide)
            refine lv_iinc (v := x39) (lv' := [(4, .int x39), (3, .int x35), (0, .ref ap0), (2, .int xp2)]) hx hb dX12_have_39 hl (k := 3) rfl (by rw [ex39]; rfl) (by decide) rfl (fun ls hl => ?_)
            refine lv_goto (tgt := 25) hx hb dX12_have_42 (by decide) ?_
            exact ih25 x35 x39 (mu_up 1 hmu25 (qx39) (by decide) (show iv x39 0 12 from (bx39.mono (by decide) (by decide))).2) c25_xp2 (bx39.mono (by decide) (by decide)) _ (lv_sub hl [2, 3, 1, 0] rfl)
      exact J25 _ x20 (0 : Int32) (Nat.lt_succ_self _) r13tpz (show iv 0 0 12 from ⟨by decide, by decide⟩) _ (lv_sub hl [2, 4, 1, 0] rfl)
    · have r13fp : iv x10 0 0 := (iv_both bx10 (iv_eq (show iv 0 0 0 from ⟨by decide, by decide⟩) c13)).mono (by decide) (by decide)
      exact J16 _ (lv_sub hl [] rfl)
abbrev WX12_areAlikeAt (p : Program) (l : Launch) (e : Env) (s : State) (m : MethodId) (below : List Frame) (meth : Method) (c : Code) (D : hp_D) (T : hp_T) (ap0 : Nat) (xp1 : Int32) (xp2 : Int32) (xp3 : Int32) (H : Heap) (locs : List Loc) (g : JFrame) : Prop := W p l e (headSpec wsX12_areAlikeAt ({ frames := 1, cells := 0, slots := 0, locals := 21 })).room s m ([.ref ap0, .int xp1, .int xp2, .int xp3] : List Value).toArray below meth c H locs 0 0 (MQ below (hq_p (fun v => ∃ r : Int32, v = some (.int r) ∧ iv r 0 1)) ([.ref ap0, .int xp1, .int xp2, .int xp3] : List Value).toArray s 0 0 (fun _ => False)) g
set_option maxHeartbeats 4000000 in
set_option maxRecDepth 100000 in
theorem sX12_areAlikeAt (l : Launch) (D : hp_D) (T : hp_T) (ap0 : Nat) (xp1 : Int32) (xp2 : Int32) (xp3 : Int32) (Gm : moG) (ip0 : isMo T ap0 Gm) (bp1 : iv xp1 0 255) (bp2 : iv xp2 0 255) : Met l yX12_areAlikeAt wsX12_areAlikeAt ({ frames := 1, cells := 0, slots := 0, locals := 21 }) (hp_Pc D T [.ref ap0, .int xp1, .int xp2, .int xp3] (fun _ => True)) (hq_p (fun v => ∃ r : Int32, v = some (.int r) ∧ iv r 0 1)) 0 0 (fun _ => False) := by
  obtain ⟨ap0tape, ap0sign, ap0len, ap0clause, ap0clauses, ap0read, ap0opn, ap0stack, ap0word, ap0said, ap0was, ap0fitting, ap0sums, ap0sort, ap0sumsBy, ap0oneOf, ap0otherOf, ap0kept, ap0images, ap0acts, ap0iUnd, ap0iFor, ap0iX, ap0made, gok, hp0, hp0tape, hp0sign, hp0len, hp0clause, hp0clauses, hp0read, hp0opn, hp0stack, hp0word, hp0said, hp0was, hp0fitting, hp0sums, hp0sort, hp0sumsBy, hp0oneOf, hp0otherOf, hp0kept, hp0images, hp0acts, hp0iUnd, hp0iFor, hp0iX, hp0made⟩ := id ip0
  have hpx := gok.1
  have gsok := gok.2.2.2.2
  have ggd := gok.2.2.2.1
  refine Met.ofW (cc := cX12_areAlikeAt) (maxL := 5) (ret := (some .boolean)) (by decide) rfl ?_
  intro p e s m args below meth c s₁ B hml hv
  obtain ⟨rfl, hok, hG, hB⟩ := hv
  have hx := B.exec
  have hb := B.bytes
  have hr := B.returns
  have hts := atoms_spec (ws := wsX12_areAlikeAt) B.pre
  have hown : s.vm.findClass RX12 = some m.cls := findClass_of_methodNamed B.named
  have hlocks := B.notSynchronized
  have hK := hG.1
  have hw : hp_w D T s s.heap [] := hp_w.rf hok
  have IX12 : ∀ w ∈ wsX120, w ∈ wsX12_areAlikeAt := by decide +kernel
  have L39 := hts (.fieldLink RX12 39 "PalmCensusModel" "said" "[I") (by decide +kernel)
  have L55 := hts (.fieldLink RX12 55 "PalmCensusModel" "sort" "[I") (by decide +kernel)
  have hl := lv_entry ([.ref ap0, .int xp1, .int xp2, .int xp3]) (n := 5) (Nat.le_of_ble_eq_true rfl)
  rw [lg_entry_eq]
  generalize (lg_sl ([.ref ap0, .int xp1, .int xp2, .int xp3]) ++ List.replicate (5 - (lg_sl ([.ref ap0, .int xp1, .int xp2, .int xp3])).length) Slot.unset).toArray = ls at hl ⊢
  have hl : lv_has ls 5 [(0, .ref ap0), (1, .int xp1), (2, .int xp2), (3, .int xp3)] := hl
  show WX12_areAlikeAt p l e s m below meth c D T ap0 xp1 xp2 xp3 s.heap [] (F0 m 0 ls [])
  refine lv_iconst (v := 0) hx hb dX12_areAlikeAt_0 (by decide) ?_
  refine lv_istore (lv' := [(4, .int 0), (0, .ref ap0), (1, .int xp1), (2, .int xp2), (3, .int xp3)]) hx hb dX12_areAlikeAt_1 hl (by decide) rfl (fun ls hl => ?_)
  have J3 : ∀ (n : Nat) (y3_l4 : Int32), (6 - y3_l4.toInt).toNat < n → iv xp1 0 255 → iv xp2 0 255 → iv y3_l4 0 6 → ∀ (ls : Array Slot), lv_has ls 5 [(0, .ref ap0), (1, .int xp1), (2, .int xp2), (3, .int xp3), (4, .int y3_l4)] → WX12_areAlikeAt p l e s m below meth c D T ap0 xp1 xp2 xp3 s.heap [] (F0 m 3 ls []) := by
    intro n
    induction n with
    | zero => intro y3_l4 hmu3 c3_xp1 c3_xp2 c3_y3_l4 ls hl; exact absurd hmu3 (Nat.not_lt_zero _)
    | succ n ih3 =>
      intro y3_l4 hmu3 c3_xp1 c3_xp2 c3_y3_l4 ls hl
      refine lv_iload hx hb dX12_areAlikeAt_3 (lv_at hl 4 rfl) ?_
      refine lv_aload_n hx hb dX12_areAlikeAt_5 rfl (lv_at hl 0 rfl) ?_
      refine hp_getr hx hb hts IX12 hown hK hw.1 hp0 rfl 20 (by decide) L39 rfl dX12_areAlikeAt_6 ?_
      refine lv_iconst (v := 0) hx hb dX12_areAlikeAt_9 (by decide) ?_
      refine hp_iald hx hb hK hw.1 hp0said (vp_iv (show iv 0 0 0 from ⟨by decide, by decide⟩) (by decide)) dX12_areAlikeAt_10 (fun v10 hr10 => ?_)
      have h10 := gsok _ _ hr10
      obtain ⟨x10, rfl, bx10⟩ := sP_rd0 h10 (show iv 0 0 0 from ⟨by decide, by decide⟩)
      refine lv_icmp_ge (tgt := 60) hx hb dX12_areAlikeAt_11 (by decide) (fun c11 => ?_) (fun c11 => ?_)
      · refine lv_iconst (v := 1) hx hb dX12_areAlikeAt_60 (by decide) ?_
        exact W.zret (v := 1) hx hb hr (iv_nz (show iv 1 0 1 from ⟨by decide, by decide⟩)) (fun t ht hW => ⟨some (.int 1), rfl, ⟨(1 : Int32), rfl, (show iv 1 0 1 from ⟨by decide, by decide⟩)⟩, ht⟩) (fun q h => by cases h) dX12_areAlikeAt_61
      · have r11fp : iv y3_l4 0 5 := (iv_lt_l (iv_nle c11) c3_y3_l4 bx10).mono (by decide) (by decide)
        have r11fq : iv x10 1 6 := (iv_lt_r (iv_nle c11) c3_y3_l4 bx10).mono (by decide) (by decide)
        refine lv_iload_n hx hb dX12_areAlikeAt_14 rfl (lv_at hl 3 rfl) ?_
        refine lv_iload hx hb dX12_areAlikeAt_15 (lv_at hl 4 rfl) ?_
        refine hp_callpi (va_runS (As := [.int xp3, .int y3_l4]) (rest := []) ⟨hx, hb, hml, hown, hts⟩ (sX12_isOf l D T xp3 y3_l4) (va_cwS 2 hts gX12_areAlikeAt_X12_isOf rfl rfl rfl (by decide +kernel) ⟨Nat.le_of_ble_eq_true rfl, Nat.le_of_ble_eq_true rfl⟩) (hp_preS hG hw trivial) rfl rfl hl.1 rfl (lv_room (Nat.le_of_ble_eq_true rfl)) dX12_areAlikeAt_17 ⟨Nat.zero_le _, Nat.zero_le _⟩) (fun x17 bx17 => ?_)
        have J54 : iv xp1 0 255 → iv xp2 0 255 → iv y3_l4 0 5 → ∀ (ls : Array Slot), lv_has ls 5 [(0, .ref ap0), (1, .int xp1), (2, .int xp2), (3, .int xp3), (4, .int y3_l4)] → WX12_areAlikeAt p l e s m below meth c D T ap0 xp1 xp2 xp3 s.heap [] (F0 m 54 ls []) := by
          intro c54_xp1 c54_xp2 c54_y3_l4 ls hl
          obtain ⟨x54, ex54⟩ : ∃ y : Int32, y = y3_l4 + 1 := ⟨_, rfl⟩
          have bx54 : iv x54 1 6 := iv_add c54_y3_l4 (show iv 1 1 1 from ⟨by decide, by decide⟩) ex54 (by decide)
          have qx54 := iv_add_eq c54_y3_l4 (show iv 1 1 1 from ⟨by decide, by decide⟩) ex54 (by decide)
          refine lv_iinc (v := x54) (lv' := [(4, .int x54), (0, .ref ap0), (1, .int xp1), (2, .int xp2), (3, .int xp3)]) hx hb dX12_areAlikeAt_54 hl (k := 4) rfl (by rw [ex54]; rfl) (by decide) rfl (fun ls hl => ?_)
          refine lv_goto (tgt := 3) hx hb dX12_areAlikeAt_57 (by decide) ?_
          exact ih3 x54 (mu_up 1 hmu3 (qx54) (by decide) (show iv x54 0 6 from (bx54.mono (by decide) (by decide))).2) c54_xp1 c54_xp2 (bx54.mono (by decide) (by decide)) _ (lv_sub hl [1, 2, 3, 4, 0] rfl)
        refine lv_if_eq (tgt := 54) hx hb dX12_areAlikeAt_20 (by decide) (fun c20 => ?_) (fun c20 => ?_)
        · have r20tp : iv x17 0 0 := (iv_both bx17 (iv_eq (show iv 0 0 0 from ⟨by decide, by decide⟩) c20)).mono (by decide) (by decide)
          exact J54 c3_xp1 c3_xp2 r11fp _ (lv_sub hl [0, 1, 2, 3, 4] rfl)
        · have r20fp : iv x17 1 1 := (iv_ne_lo c20 bx17 rfl).mono (by decide) (by decide)
          refine lv_aload_n hx hb dX12_areAlikeAt_23 rfl (lv_at hl 0 rfl) ?_
          refine hp_getr hx hb hts IX12 hown hK hw.1 hp0 rfl 28 (by decide) L55 rfl dX12_areAlikeAt_24 ?_
          refine lv_sipush (v := 256) hx hb dX12_areAlikeAt_27 (by decide) ?_
          refine lv_iload hx hb dX12_areAlikeAt_30 (lv_at hl 4 rfl) ?_
          refine lv_imul hx hb dX12_areAlikeAt_32 ?_
          refine lv_topi (fun x32 ex32 => ?_)
          have bx32 : iv x32 0 1280 := iv_mul (show iv 256 256 256 from ⟨by decide, by decide⟩) r11fp ex32 (by decide)
          refine lv_iload_n hx hb dX12_areAlikeAt_33 rfl (lv_at hl 1 rfl) ?_
          refine lv_iadd hx hb dX12_areAlikeAt_34 ?_
          refine lv_topi (fun x34 ex34 => ?_)
          have bx34 : iv x34 0 1535 := iv_add bx32 c3_xp1 ex34 (by decide)
          have qx34 := iv_add_eq bx32 c3_xp1 ex34 (by decide)
          refine hp_ialdA hx hb hK hw.1 hp0sort (vp_iv bx34 (by decide)) dX12_areAlikeAt_35 (fun x35 => ?_)
          refine lv_aload_n hx hb dX12_areAlikeAt_36 rfl (lv_at hl 0 rfl) ?_
          refine hp_getr hx hb hts IX12 hown hK hw.1 hp0 rfl 28 (by decide) L55 rfl dX12_areAlikeAt_37 ?_
          refine lv_sipush (v := 256) hx hb dX12_areAlikeAt_40 (by decide) ?_
          refine lv_iload hx hb dX12_areAlikeAt_43 (lv_at hl 4 rfl) ?_
          refine lv_imul hx hb dX12_areAlikeAt_45 ?_
          refine lv_topi (fun x45 ex45 => ?_)
          have bx45 : iv x45 0 1280 := iv_mul (show iv 256 256 256 from ⟨by decide, by decide⟩) r11fp ex45 (by decide)
          refine lv_iload_n hx hb dX12_areAlikeAt_46 rfl (lv_at hl 2 rfl) ?_
          refine lv_iadd hx hb dX12_areAlikeAt_47 ?_
          refine lv_topi (fun x47 ex47 => ?_)
          have bx47 : iv x47 0 1535 := iv_add bx45 c3_xp2 ex47 (by decide)
          have qx47 := iv_add_eq bx45 c3_xp2 ex47 (by decide)
          refine hp_ialdA hx hb hK hw.1 hp0sort (vp_iv bx47 (by decide)) dX12_areAlikeAt_48 (fun x48 => ?_)
          refine lv_icmp_eq (tgt := 54) hx hb dX12_areAlikeAt_49 (by decide) (fun c49 => ?_) (fun c49 => ?_)
          · exact J54 c3_xp1 c3_xp2 r11fp _ (lv_sub hl [0, 1, 2, 3, 4] rfl)
          · refine lv_iconst (v := 0) hx hb dX12_areAlikeAt_52 (by decide) ?_
            exact W.zret (v := 0) hx hb hr (iv_nz (show iv 0 0 1 from ⟨by decide, by decide⟩)) (fun t ht hW => ⟨some (.int 0), rfl, ⟨(0 : Int32), rfl, (show iv 0 0 1 from ⟨by decide, by decide⟩)⟩, ht⟩) (fun q h => by cases h) dX12_areAlikeAt_53
  exact J3 _ (0 : Int32) (Nat.lt_succ_self _) bp1 bp2 (show iv 0 0 6 from ⟨by decide, by decide⟩) _ (lv_sub hl [1, 2, 3, 4, 0] rfl)
abbrev WX12_areSo (p : Program) (l : Launch) (e : Env) (s : State) (m : MethodId) (below : List Frame) (meth : Method) (c : Code) (D : hp_D) (T : hp_T) (ap0 : Nat) (xp1 : Int32) (H : Heap) (locs : List Loc) (g : JFrame) : Prop := W p l e (headSpec wsX12_areSo ({ frames := 1, cells := 0, slots := 0, locals := 21 })).room s m ([.ref ap0, .int xp1] : List Value).toArray below meth c H locs 0 0 (MQ below (hq_p (fun v => ∃ r : Int32, v = some (.int r) ∧ iv r 0 1)) ([.ref ap0, .int xp1] : List Value).toArray s 0 0 (fun _ => False)) g
set_option maxHeartbeats 4000000 in
set_option maxRecDepth 100000 in
theorem sX12_areSo (l : Launch) (D : hp_D) (T : hp_T) (ap0 : Nat) (xp1 : Int32) (Gm : moG) (ip0 : isMo T ap0 Gm) : Met l yX12_areSo wsX12_areSo ({ frames := 1, cells := 0, slots := 0, locals := 21 }) (hp_Pc D T [.ref ap0, .int xp1] (fun _ => True)) (hq_p (fun v => ∃ r : Int32, v = some (.int r) ∧ iv r 0 1)) 0 0 (fun _ => False) := by
  obtain ⟨ap0tape, ap0sign, ap0len, ap0clause, ap0clauses, ap0read, ap0opn, ap0stack, ap0word, ap0said, ap0was, ap0fitting, ap0sums, ap0sort, ap0sumsBy, ap0oneOf, ap0otherOf, ap0kept, ap0images, ap0acts, ap0iUnd, ap0iFor, ap0iX, ap0made, gok, hp0, hp0tape, hp0sign, hp0len, hp0clause, hp0clauses, hp0read, hp0opn, hp0stack, hp0word, hp0said, hp0was, hp0fitting, hp0sums, hp0sort, hp0sumsBy, hp0oneOf, hp0otherOf, hp0kept, hp0images, hp0acts, hp0iUnd, hp0iFor, hp0iX, hp0made⟩ := id ip0
  have hpx := gok.1
  have gsok := gok.2.2.2.2
  have ggd := gok.2.2.2.1
  refine Met.ofW (cc := cX12_areSo) (maxL := 5) (ret := (some .boolean)) (by decide) rfl ?_
  intro p e s m args below meth c s₁ B hml hv
  obtain ⟨rfl, hok, hG, hB⟩ := hv
  have hx := B.exec
  have hb := B.bytes
  have hr := B.returns
  have hts := atoms_spec (ws := wsX12_areSo) B.pre
  have hown : s.vm.findClass RX12 = some m.cls := findClass_of_methodNamed B.named
  have hlocks := B.notSynchronized
  have hK := hG.1
  have hw : hp_w D T s s.heap [] := hp_w.rf hok
  have IX12 : ∀ w ∈ wsX120, w ∈ wsX12_areSo := by decide +kernel
  have L39 := hts (.fieldLink RX12 39 "PalmCensusModel" "said" "[I") (by decide +kernel)
  have L403 := hts (.fieldLink RX12 403 "PalmCensusModel" "twos" "I") (by decide +kernel)
  have L61 := hts (.fieldLink RX12 61 "PalmCensusModel" "oneOf" "[I") (by decide +kernel)
  have L64 := hts (.fieldLink RX12 64 "PalmCensusModel" "otherOf" "[I") (by decide +kernel)
  have hl := lv_entry ([.ref ap0, .int xp1]) (n := 5) (Nat.le_of_ble_eq_true rfl)
  rw [lg_entry_eq]
  generalize (lg_sl ([.ref ap0, .int xp1]) ++ List.replicate (5 - (lg_sl ([.ref ap0, .int xp1])).length) Slot.unset).toArray = ls at hl ⊢
  have hl : lv_has ls 5 [(0, .ref ap0), (1, .int xp1)] := hl
  show WX12_areSo p l e s m below meth c D T ap0 xp1 s.heap [] (F0 m 0 ls [])
  refine lv_iconst (v := 0) hx hb dX12_areSo_0 (by decide) ?_
  refine lv_istore_n (lv' := [(2, .int 0), (0, .ref ap0), (1, .int xp1)]) hx hb dX12_areSo_1 rfl hl (by decide) rfl (fun ls hl => ?_)
  have J2 : ∀ (n : Nat) (y2_l2 : Int32), (10 - y2_l2.toInt).toNat < n → iv y2_l2 0 10 → ∀ (ls : Array Slot), lv_has ls 5 [(0, .ref ap0), (1, .int xp1), (2, .int y2_l2)] → WX12_areSo p l e s m below meth c D T ap0 xp1 s.heap [] (F0 m 2 ls []) := by
    intro n
    induction n with
    | zero => intro y2_l2 hmu2 c2_y2_l2 ls hl; exact absurd hmu2 (Nat.not_lt_zero _)
    | succ n ih2 =>
      intro y2_l2 hmu2 c2_y2_l2 ls hl
      refine lv_iload_n hx hb dX12_areSo_2 rfl (lv_at hl 2 rfl) ?_
      refine lv_aload_n hx hb dX12_areSo_3 rfl (lv_at hl 0 rfl) ?_
      refine hp_getr hx hb hts IX12 hown hK hw.1 hp0 rfl 20 (by decide) L39 rfl dX12_areSo_4 ?_
      refine lv_iconst (v := 2) hx hb dX12_areSo_7 (by decide) ?_
      refine hp_iald hx hb hK hw.1 hp0said (vp_iv (show iv 2 2 2 from ⟨by decide, by decide⟩) (by decide)) dX12_areSo_8 (fun v8 hr8 => ?_)
      have h8 := gsok _ _ hr8
      obtain ⟨x8, rfl, bx8⟩ := sP_rd2 h8 (show iv 2 2 2 from ⟨by decide, by decide⟩)
      refine lv_icmp_ge (tgt := 109) hx hb dX12_areSo_9 (by decide) (fun c9 => ?_) (fun c9 => ?_)
      · refine lv_iconst (v := 1) hx hb dX12_areSo_109 (by decide) ?_
        exact W.zret (v := 1) hx hb hr (iv_nz (show iv 1 0 1 from ⟨by decide, by decide⟩)) (fun t ht hW => ⟨some (.int 1), rfl, ⟨(1 : Int32), rfl, (show iv 1 0 1 from ⟨by decide, by decide⟩)⟩, ht⟩) (fun q h => by cases h) dX12_areSo_110
      · have r9fp : iv y2_l2 0 9 := (iv_lt_l (iv_nle c9) c2_y2_l2 bx8).mono (by decide) (by decide)
        have r9fq : iv x8 1 10 := (iv_lt_r (iv_nle c9) c2_y2_l2 bx8).mono (by decide) (by decide)
        refine lv_aload_n hx hb dX12_areSo_12 rfl (lv_at hl 0 rfl) ?_
        refine hp_getr hx hb hts IX12 hown hK hw.1 hp0 rfl 20 (by decide) L39 rfl dX12_areSo_13 ?_
        refine lv_sipush (v := 200) hx hb dX12_areSo_16 (by decide) ?_
        refine lv_iload_n hx hb dX12_areSo_19 rfl (lv_at hl 2 rfl) ?_
        refine lv_iadd hx hb dX12_areSo_20 ?_
        refine lv_topi (fun x20 ex20 => ?_)
        have bx20 : iv x20 200 209 := iv_add (show iv 200 200 200 from ⟨by decide, by decide⟩) r9fp ex20 (by decide)
        have qx20 := iv_add_eq (show iv 200 200 200 from ⟨by decide, by decide⟩) r9fp ex20 (by decide)
        refine hp_iald hx hb hK hw.1 hp0said (vp_iv bx20 (by decide)) dX12_areSo_21 (fun v21 hr21 => ?_)
        have h21 := gsok _ _ hr21
        obtain ⟨x21, rfl⟩ := sP_any h21
        have J103 : iv y2_l2 0 9 → ∀ (ls : Array Slot), lv_has ls 5 [(0, .ref ap0), (1, .int xp1), (2, .int y2_l2)] → WX12_areSo p l e s m below meth c D T ap0 xp1 s.heap [] (F0 m 103 ls []) := by
          intro c103_y2_l2 ls hl
          obtain ⟨x103, ex103⟩ : ∃ y : Int32, y = y2_l2 + 1 := ⟨_, rfl⟩
          have bx103 : iv x103 1 10 := iv_add c103_y2_l2 (show iv 1 1 1 from ⟨by decide, by decide⟩) ex103 (by decide)
          have qx103 := iv_add_eq c103_y2_l2 (show iv 1 1 1 from ⟨by decide, by decide⟩) ex103 (by decide)
          refine lv_iinc (v := x103) (lv' := [(2, .int x103), (0, .ref ap0), (1, .int xp1)]) hx hb dX12_areSo_103 hl (k := 2) rfl (by rw [ex103]; rfl) (by decide) rfl (fun ls hl => ?_)
          refine lv_goto (tgt := 2) hx hb dX12_areSo_106 (by decide) ?_
          exact ih2 x103 (mu_up 1 hmu2 (qx103) (by decide) (show iv x103 0 10 from (bx103.mono (by decide) (by decide))).2) (bx103.mono (by decide) (by decide)) _ (lv_sub hl [1, 2, 0] rfl)
        refine lv_if_ge (tgt := 28) hx hb dX12_areSo_22 (by decide) (fun c22 => ?_) (fun c22 => ?_)
        · have r22tq : iv x21 0 2147483647 := (iv_le_r c22 (show iv 0 0 0 from ⟨by decide, by decide⟩) (iv_any x21)).mono (by decide) (by decide)
          refine lv_iconst (v := 0) hx hb dX12_areSo_28 (by decide) ?_
          refine lv_istore_n (lv' := [(3, .int 0), (0, .ref ap0), (1, .int xp1), (2, .int y2_l2)]) hx hb dX12_areSo_29 rfl hl (by decide) rfl (fun ls hl => ?_)
          refine lv_iconst (v := 0) hx hb dX12_areSo_30 (by decide) ?_
          refine lv_istore (lv' := [(4, .int 0), (3, .int 0), (0, .ref ap0), (1, .int xp1), (2, .int y2_l2)]) hx hb dX12_areSo_31 hl (by decide) rfl (fun ls hl => ?_)
          have J33 : ∀ (n : Nat) (y33_l3 y33_l4 : Int32), (45 - y33_l4.toInt).toNat < n → iv y2_l2 0 9 → iv y33_l4 0 45 → ∀ (ls : Array Slot), lv_has ls 5 [(0, .ref ap0), (1, .int xp1), (2, .int y2_l2), (3, .int y33_l3), (4, .int y33_l4)] → WX12_areSo p l e s m below meth c D T ap0 xp1 s.heap [] (F0 m 33 ls []) := by
            intro n
            induction n with
            | zero => intro y33_l3 y33_l4 hmu33 c33_y2_l2 c33_y33_l4 ls hl; exact absurd hmu33 (Nat.not_lt_zero _)
            | succ n ih33 =>
              intro y33_l3 y33_l4 hmu33 c33_y2_l2 c33_y33_l4 ls hl
              refine lv_iload hx hb dX12_areSo_33 (lv_at hl 4 rfl) ?_
              refine lv_aload_n hx hb dX12_areSo_35 rfl (lv_at hl 0 rfl) ?_
              refine hp_geti hx hb hts IX12 hown hK hw.1 hp0 rfl 32 (by decide) L403 rfl dX12_areSo_36 (fun x36 bx36 fx36 => ?_)
              refine lv_icmp_ge (tgt := 87) hx hb dX12_areSo_39 (by decide) (fun c39 => ?_) (fun c39 => ?_)
              · refine lv_iload_n hx hb dX12_areSo_87 rfl (lv_at hl 3 rfl) ?_
                refine lv_aload_n hx hb dX12_areSo_88 rfl (lv_at hl 0 rfl) ?_
                refine hp_getr hx hb hts IX12 hown hK hw.1 hp0 rfl 20 (by decide) L39 rfl dX12_areSo_89 ?_
                refine lv_sipush (v := 200) hx hb dX12_areSo_92 (by decide) ?_
                refine lv_iload_n hx hb dX12_areSo_95 rfl (lv_at hl 2 rfl) ?_
                refine lv_iadd hx hb dX12_areSo_96 ?_
                refine lv_topi (fun x96 ex96 => ?_)
                have bx96 : iv x96 200 209 := iv_add (show iv 200 200 200 from ⟨by decide, by decide⟩) c33_y2_l2 ex96 (by decide)
                have qx96 := iv_add_eq (show iv 200 200 200 from ⟨by decide, by decide⟩) c33_y2_l2 ex96 (by decide)
                refine hp_iald hx hb hK hw.1 hp0said (vp_iv bx96 (by decide)) dX12_areSo_97 (fun v97 hr97 => ?_)
                have h97 := gsok _ _ hr97
                obtain ⟨x97, rfl⟩ := sP_any h97
                refine lv_icmp_eq (tgt := 103) hx hb dX12_areSo_98 (by decide) (fun c98 => ?_) (fun c98 => ?_)
                · exact J103 c33_y2_l2 _ (lv_sub hl [0, 1, 2] rfl)
                · refine lv_iconst (v := 0) hx hb dX12_areSo_101 (by decide) ?_
                  exact W.zret (v := 0) hx hb hr (iv_nz (show iv 0 0 1 from ⟨by decide, by decide⟩)) (fun t ht hW => ⟨some (.int 0), rfl, ⟨(0 : Int32), rfl, (show iv 0 0 1 from ⟨by decide, by decide⟩)⟩, ht⟩) (fun q h => by cases h) dX12_areSo_102
              · have r39fp : iv y33_l4 0 44 := (iv_lt_l (iv_nle c39) c33_y33_l4 bx36).mono (by decide) (by decide)
                have r39fq : iv x36 1 45 := (iv_lt_r (iv_nle c39) c33_y33_l4 bx36).mono (by decide) (by decide)
                refine lv_iload_n hx hb dX12_areSo_42 rfl (lv_at hl 3 rfl) ?_
                refine lv_iload_n hx hb dX12_areSo_43 rfl (lv_at hl 1 rfl) ?_
                refine lv_iload hx hb dX12_areSo_44 (lv_at hl 4 rfl) ?_
                refine hp_callpi (va_runS (As := [.int xp1, .int y33_l4]) (rest := [.int y33_l3]) ⟨hx, hb, hml, hown, hts⟩ (sX12_isOf l D T xp1 y33_l4) (va_cwS 2 hts gX12_areSo_X12_isOf rfl rfl rfl (by decide +kernel) ⟨Nat.le_of_ble_eq_true rfl, Nat.le_of_ble_eq_true rfl⟩) (hp_preS hG hw trivial) rfl rfl hl.1 rfl (lv_room (Nat.le_of_ble_eq_true rfl)) dX12_areSo_46 ⟨Nat.zero_le _, Nat.zero_le _⟩) (fun x46 bx46 => ?_)
                have J79 : ∀ (y79_s1 : Int32), iv y2_l2 0 9 → iv y33_l4 0 44 → iv y79_s1 0 1 → iv x36 1 45 → ∀ (ls : Array Slot), lv_has ls 5 [(0, .ref ap0), (1, .int xp1), (2, .int y2_l2), (4, .int y33_l4)] → WX12_areSo p l e s m below meth c D T ap0 xp1 s.heap [] (F0 m 79 ls [.int y79_s1, .int y33_l3]) := by
                  intro y79_s1 c79_y2_l2 c79_y33_l4 c79_y79_s1 c79_x36 ls hl
                  refine lv_iadd hx hb dX12_areSo_79 ?_
                  refine lv_topi (fun x79 ex79 => ?_)
                  refine lv_istore_n (lv' := [(3, .int x79), (0, .ref ap0), (1, .int xp1), (2, .int y2_l2), (4, .int y33_l4)]) hx hb dX12_areSo_80 rfl hl (by decide) rfl (fun ls hl => ?_)
                  obtain ⟨x81, ex81⟩ : ∃ y : Int32, y = y33_l4 + 1 := ⟨_, rfl⟩
                  have bx81 : iv x81 1 45 := iv_add c79_y33_l4 (show iv 1 1 1 from ⟨by decide, by decide⟩) ex81 (by decide)
                  have qx81 := iv_add_eq c79_y33_l4 (show iv 1 1 1 from ⟨by decide, by decide⟩) ex81 (by decide)
                  refine lv_iinc (v := x81) (lv' := [(4, .int x81), (3, .int x79), (0, .ref ap0), (1, .int xp1), (2, .int y2_l2)]) hx hb dX12_areSo_81 hl (k := 4) rfl (by rw [ex81]; rfl) (by decide) rfl (fun ls hl => ?_)
                  refine lv_goto (tgt := 33) hx hb dX12_areSo_84 (by decide) ?_
                  exact ih33 x79 x81 (mu_up 1 hmu33 (qx81) (by decide) (show iv x81 0 45 from (bx81.mono (by decide) (by decide))).2) c79_y2_l2 (bx81.mono (by decide) (by decide)) _ (lv_sub hl [2, 3, 4, 1, 0] rfl)
                have J78 : iv y2_l2 0 9 → iv y33_l4 0 44 → iv x36 1 45 → ∀ (ls : Array Slot), lv_has ls 5 [(0, .ref ap0), (1, .int xp1), (2, .int y2_l2), (4, .int y33_l4)] → WX12_areSo p l e s m below meth c D T ap0 xp1 s.heap [] (F0 m 78 ls [.int y33_l3]) := by
                  intro c78_y2_l2 c78_y33_l4 c78_x36 ls hl
                  refine lv_iconst (v := 0) hx hb dX12_areSo_78 (by decide) ?_
                  exact J79 (0 : Int32) c78_y2_l2 c78_y33_l4 (show iv 0 0 1 from ⟨by decide, by decide⟩) c78_x36 _ (lv_sub hl [0, 1, 2, 3] rfl)
                refine lv_if_eq (tgt := 78) hx hb dX12_areSo_49 (by decide) (fun c49 => ?_) (fun c49 => ?_)
                · have r49tp : iv x46 0 0 := (iv_both bx46 (iv_eq (show iv 0 0 0 from ⟨by decide, by decide⟩) c49)).mono (by decide) (by decide)
                  exact J78 c33_y2_l2 r39fp r39fq _ (lv_sub hl [0, 1, 2, 4] rfl)
                · have r49fp : iv x46 1 1 := (iv_ne_lo c49 bx46 rfl).mono (by decide) (by decide)
                  refine lv_aload_n hx hb dX12_areSo_52 rfl (lv_at hl 0 rfl) ?_
                  refine hp_getr hx hb hts IX12 hown hK hw.1 hp0 rfl 30 (by decide) L61 rfl dX12_areSo_53 ?_
                  refine lv_iload hx hb dX12_areSo_56 (lv_at hl 4 rfl) ?_
                  refine hp_ialdA hx hb hK hw.1 hp0oneOf (vp_iv r39fp (by decide)) dX12_areSo_58 (fun x58 => ?_)
                  refine lv_iload_n hx hb dX12_areSo_59 rfl (lv_at hl 2 rfl) ?_
                  have J74 : iv y2_l2 0 9 → iv y33_l4 0 44 → iv x36 1 45 → ∀ (ls : Array Slot), lv_has ls 5 [(0, .ref ap0), (1, .int xp1), (2, .int y2_l2), (4, .int y33_l4)] → WX12_areSo p l e s m below meth c D T ap0 xp1 s.heap [] (F0 m 74 ls [.int y33_l3]) := by
                    intro c74_y2_l2 c74_y33_l4 c74_x36 ls hl
                    refine lv_iconst (v := 1) hx hb dX12_areSo_74 (by decide) ?_
                    refine lv_goto (tgt := 79) hx hb dX12_areSo_75 (by decide) ?_
                    exact J79 (1 : Int32) c74_y2_l2 c74_y33_l4 (show iv 1 0 1 from ⟨by decide, by decide⟩) c74_x36 _ (lv_sub hl [0, 1, 2, 3] rfl)
                  refine lv_icmp_eq (tgt := 74) hx hb dX12_areSo_60 (by decide) (fun c60 => ?_) (fun c60 => ?_)
                  · have r60tp : iv x58 0 9 := (iv_both (iv_any x58) (iv_eq c33_y2_l2 c60)).mono (by decide) (by decide)
                    exact J74 c33_y2_l2 r39fp r39fq _ (lv_sub hl [0, 1, 2, 4] rfl)
                  · refine lv_aload_n hx hb dX12_areSo_63 rfl (lv_at hl 0 rfl) ?_
                    refine hp_getr hx hb hts IX12 hown hK hw.1 hp0 rfl 31 (by decide) L64 rfl dX12_areSo_64 ?_
                    refine lv_iload hx hb dX12_areSo_67 (lv_at hl 4 rfl) ?_
                    refine hp_ialdA hx hb hK hw.1 hp0otherOf (vp_iv r39fp (by decide)) dX12_areSo_69 (fun x69 => ?_)
                    refine lv_iload_n hx hb dX12_areSo_70 rfl (lv_at hl 2 rfl) ?_
                    refine lv_icmp_ne (tgt := 78) hx hb dX12_areSo_71 (by decide) (fun c71 => ?_) (fun c71 => ?_)
                    · exact J78 c33_y2_l2 r39fp r39fq _ (lv_sub hl [0, 1, 2, 4] rfl)
                    · have r71fp : iv x69 0 9 := (iv_both (iv_any x69) (iv_eq c33_y2_l2 c71)).mono (by decide) (by decide)
                      exact J74 c33_y2_l2 r39fp r39fq _ (lv_sub hl [0, 1, 2, 4] rfl)
          exact J33 _ (0 : Int32) (0 : Int32) (Nat.lt_succ_self _) r9fp (show iv 0 0 45 from ⟨by decide, by decide⟩) _ (lv_sub hl [2, 3, 4, 1, 0] rfl)
        · have r22fp : iv x21 (-2147483648) (-1) := (iv_lt_l (iv_nle c22) (iv_any x21) (show iv 0 0 0 from ⟨by decide, by decide⟩)).mono (by decide) (by decide)
          refine lv_goto (tgt := 103) hx hb dX12_areSo_25 (by decide) ?_
          exact J103 r9fp _ (lv_sub hl [0, 1, 2] rfl)
  exact J2 _ (0 : Int32) (Nat.lt_succ_self _) (show iv 0 0 10 from ⟨by decide, by decide⟩) _ (lv_sub hl [1, 2, 0] rfl)
abbrev WX12_bits (p : Program) (l : Launch) (e : Env) (s : State) (m : MethodId) (below : List Frame) (meth : Method) (c : Code) (D : hp_D) (T : hp_T) (xp0 : Int32) (H : Heap) (locs : List Loc) (g : JFrame) : Prop := W p l e (headSpec wsX12_bits ({ frames := 0, cells := 0, slots := 0, locals := 0 })).room s m ([.int xp0] : List Value).toArray below meth c H locs 0 0 (MQ below (hq_p (fun v => ∃ r : Int32, v = some (.int r) ∧ True)) ([.int xp0] : List Value).toArray s 0 0 (fun _ => False)) g
set_option maxHeartbeats 4000000 in
set_option maxRecDepth 100000 in
theorem sX12_bits (l : Launch) (D : hp_D) (T : hp_T) (xp0 : Int32)  : Met l yX12_bits wsX12_bits ({ frames := 0, cells := 0, slots := 0, locals := 0 }) (hp_Pc D T [.int xp0] (fun _ => True)) (hq_p (fun v => ∃ r : Int32, v = some (.int r) ∧ True)) 0 0 (fun _ => False) := by
  refine Met.ofW (cc := cX12_bits) (maxL := 3) (ret := (some .int)) (by decide) rfl ?_
  intro p e s m args below meth c s₁ B hml hv
  obtain ⟨rfl, hok, hG, hB⟩ := hv
  have hx := B.exec
  have hb := B.bytes
  have hr := B.returns
  have hts := atoms_spec (ws := wsX12_bits) B.pre
  have hown : s.vm.findClass RX12 = some m.cls := findClass_of_methodNamed B.named
  have hlocks := B.notSynchronized
  have hK := hG.1
  have hw : hp_w D T s s.heap [] := hp_w.rf hok
  have hl := lv_entry ([.int xp0]) (n := 3) (Nat.le_of_ble_eq_true rfl)
  rw [lg_entry_eq]
  generalize (lg_sl ([.int xp0]) ++ List.replicate (3 - (lg_sl ([.int xp0])).length) Slot.unset).toArray = ls at hl ⊢
  have hl : lv_has ls 3 [(0, .int xp0)] := hl
  show WX12_bits p l e s m below meth c D T xp0 s.heap [] (F0 m 0 ls [])
  refine lv_iconst (v := 0) hx hb dX12_bits_0 (by decide) ?_
  refine lv_istore_n (lv' := [(1, .int 0), (0, .int xp0)]) hx hb dX12_bits_1 rfl hl (by decide) rfl (fun ls hl => ?_)
  refine lv_iload_n hx hb dX12_bits_2 rfl (lv_at hl 1 rfl) ?_
  refine lv_istore_n (lv' := [(2, .int xp0), (1, .int 0), (0, .int xp0)]) hx hb dX12_bits_3 rfl hl (by decide) rfl (fun ls hl => ?_)
  have J4 : ∀ (n : Nat) (y4_l1 y4_l2 : Int32), y4_l2.toUInt32.toNat < n → ∀ (ls : Array Slot), lv_has ls 3 [(1, .int y4_l1), (2, .int y4_l2)] → WX12_bits p l e s m below meth c D T xp0 s.heap [] (F0 m 4 ls []) := by
    intro n
    induction n with
    | zero => intro y4_l1 y4_l2 hmu4 ls hl; exact absurd hmu4 (Nat.not_lt_zero _)
    | succ n ih4 =>
      intro y4_l1 y4_l2 hmu4 ls hl
      refine lv_iload_n hx hb dX12_bits_4 rfl (lv_at hl 1 rfl) ?_
      refine lv_if_eq (tgt := 20) hx hb dX12_bits_5 (by decide) (fun c5 => ?_) (fun c5 => ?_)
      · have r5tp : iv y4_l2 0 0 := (iv_both (iv_any y4_l2) (iv_eq (show iv 0 0 0 from ⟨by decide, by decide⟩) c5)).mono (by decide) (by decide)
        refine lv_iload_n hx hb dX12_bits_20 rfl (lv_at hl 0 rfl) ?_
        exact W.iret (v := y4_l1) hx hb hr (fun t ht hW => ⟨some (.int y4_l1), rfl, ⟨y4_l1, rfl, trivial⟩, ht⟩) (fun q h => by cases h) dX12_bits_21
      · obtain ⟨x8, ex8⟩ : ∃ y : Int32, y = y4_l1 + 1 := ⟨_, rfl⟩
        refine lv_iinc (v := x8) (lv' := [(1, .int x8), (2, .int y4_l2)]) hx hb dX12_bits_8 hl (k := 0) rfl (by rw [ex8]; rfl) (by decide) rfl (fun ls hl => ?_)
        refine lv_iload_n hx hb dX12_bits_11 rfl (lv_at hl 1 rfl) ?_
        refine lv_iload_n hx hb dX12_bits_12 rfl (lv_at hl 1 rfl) ?_
        refine lv_iconst (v := 1) hx hb dX12_bits_13 (by decide) ?_
        refine lv_isub hx hb dX12_bits_14 ?_
        refine lv_topi (fun x14 ex14 => ?_)
        refine lv_iand hx hb dX12_bits_15 ?_
        refine lv_topi (fun x15 ex15 => ?_)
        refine lv_istore_n (lv' := [(2, .int x15), (1, .int x8)]) hx hb dX12_bits_16 rfl hl (by decide) rfl (fun ls hl => ?_)
        refine lv_goto (tgt := 4) hx hb dX12_bits_17 (by decide) ?_
        exact ih4 x8 x15 (mu_bits hmu4 c5 ex14 ex15) _ (lv_sub hl [1, 0] rfl)
  exact J4 _ (0 : Int32) xp0 (Nat.lt_succ_self _) _ (lv_sub hl [1, 0] rfl)
abbrev WX12_feed (p : Program) (l : Launch) (e : Env) (s : State) (m : MethodId) (below : List Frame) (meth : Method) (c : Code) (D : hp_D) (T : hp_T) (ap0 : Nat) (xp1 : Int32) (xp2 : Int32) (xp3 : Int32) (xp4 : Int32) (xp5 : Int32) (H : Heap) (locs : List Loc) (g : JFrame) : Prop := W p l e (headSpec wsX12_feed ({ frames := 1, cells := 0, slots := 0, locals := 22 })).room s m ([.ref ap0, .int xp1, .int xp2, .int xp3, .int xp4, .int xp5] : List Value).toArray below meth c H locs 0 0 (MQ below (hq_e D T (fun v _ _ => ∃ r : Int32, v = some (.int r) ∧ True)) ([.ref ap0, .int xp1, .int xp2, .int xp3, .int xp4, .int xp5] : List Value).toArray s 0 0 (hp_F T)) g
set_option maxHeartbeats 4000000 in
set_option maxRecDepth 100000 in
theorem sX12_feed (l : Launch) (D : hp_D) (T : hp_T) (ap0 : Nat) (xp1 : Int32) (xp2 : Int32) (xp3 : Int32) (xp4 : Int32) (xp5 : Int32) (Gm : moG) (ip0 : isMo T ap0 Gm) : Met l yX12_feed wsX12_feed ({ frames := 1, cells := 0, slots := 0, locals := 22 }) (hp_Pc D T [.ref ap0, .int xp1, .int xp2, .int xp3, .int xp4, .int xp5] (fun _ => True)) (hq_e D T (fun v _ _ => ∃ r : Int32, v = some (.int r) ∧ True)) 0 0 (hp_F T) := by
  obtain ⟨ap0tape, ap0sign, ap0len, ap0clause, ap0clauses, ap0read, ap0opn, ap0stack, ap0word, ap0said, ap0was, ap0fitting, ap0sums, ap0sort, ap0sumsBy, ap0oneOf, ap0otherOf, ap0kept, ap0images, ap0acts, ap0iUnd, ap0iFor, ap0iX, ap0made, gok, hp0, hp0tape, hp0sign, hp0len, hp0clause, hp0clauses, hp0read, hp0opn, hp0stack, hp0word, hp0said, hp0was, hp0fitting, hp0sums, hp0sort, hp0sumsBy, hp0oneOf, hp0otherOf, hp0kept, hp0images, hp0acts, hp0iUnd, hp0iFor, hp0iX, hp0made⟩ := id ip0
  have hpx := gok.1
  have gsok := gok.2.2.2.2
  have ggd := gok.2.2.2.1
  refine Met.ofW (cc := cX12_feed) (maxL := 6) (ret := (some .int)) (by decide) rfl ?_
  intro p e s m args below meth c s₁ B hml hv
  obtain ⟨rfl, hok, hG, hB⟩ := hv
  have hx := B.exec
  have hb := B.bytes
  have hr := B.returns
  have hts := atoms_spec (ws := wsX12_feed) B.pre
  have hown : s.vm.findClass RX12 = some m.cls := findClass_of_methodNamed B.named
  have hlocks := B.notSynchronized
  have hK := hG.1
  have hw : hp_w D T s s.heap [] := hp_w.rf hok
  have IX12 : ∀ w ∈ wsX120, w ∈ wsX12_feed := by decide +kernel
  have L89 := hts (.fieldLink RX12 89 "PalmCensusModel" "taped" "I") (by decide +kernel)
  have hl := lv_entry ([.ref ap0, .int xp1, .int xp2, .int xp3, .int xp4, .int xp5]) (n := 6) (Nat.le_of_ble_eq_true rfl)
  rw [lg_entry_eq]
  generalize (lg_sl ([.ref ap0, .int xp1, .int xp2, .int xp3, .int xp4, .int xp5]) ++ List.replicate (6 - (lg_sl ([.ref ap0, .int xp1, .int xp2, .int xp3, .int xp4, .int xp5])).length) Slot.unset).toArray = ls at hl ⊢
  have hl : lv_has ls 6 [(0, .ref ap0), (1, .int xp1), (2, .int xp2), (3, .int xp3), (4, .int xp4), (5, .int xp5)] := hl
  show WX12_feed p l e s m below meth c D T ap0 xp1 xp2 xp3 xp4 xp5 s.heap [] (F0 m 0 ls [])
  refine lv_aload_n hx hb dX12_feed_0 rfl (lv_at hl 0 rfl) ?_
  refine hp_geti hx hb hts IX12 hown hK hw.1 hp0 rfl 1 (by decide) L89 rfl dX12_feed_1 (fun x1 bx1 fx1 => ?_)
  refine lv_bipush (v := 20) hx hb dX12_feed_4 (by decide) ?_
  refine lv_iadd hx hb dX12_feed_6 ?_
  refine lv_topi (fun x6 ex6 => ?_)
  have bx6 : iv x6 20 420 := iv_add bx1 (show iv 20 20 20 from ⟨by decide, by decide⟩) ex6 (by decide)
  have qx6 := iv_add_eq bx1 (show iv 20 20 20 from ⟨by decide, by decide⟩) ex6 (by decide)
  refine lv_sipush (v := 400) hx hb dX12_feed_7 (by decide) ?_
  refine lv_icmp_le (tgt := 15) hx hb dX12_feed_10 (by decide) (fun c10 => ?_) (fun c10 => ?_)
  · have r10tp : iv x6 20 400 := (iv_le_l c10 bx6 (show iv 400 400 400 from ⟨by decide, by decide⟩)).mono (by decide) (by decide)
    have r10tpu : iv x1 0 380 := iv_bku qx6 r10tp bx1 (show iv 20 20 20 from ⟨by decide, by decide⟩) (by decide)
    refine lv_aload_n hx hb dX12_feed_15 rfl (lv_at hl 0 rfl) ?_
    refine lv_iload_n hx hb dX12_feed_16 rfl (lv_at hl 1 rfl) ?_
    refine hp_callev (va_runV (As := [.int xp1]) (rest := []) ⟨hx, hb, hml, hown, hts⟩ (sX12_four_0 l D T ap0 xp1 x1 Gm ip0 r10tpu) (cwV 1 hts gX12_feed_X12_four rfl rfl rfl (by decide +kernel) ⟨Nat.le_of_ble_eq_true rfl, Nat.le_of_ble_eq_true rfl⟩) (hp_preV hG hw hp0 rfl fx1) rfl rfl hl.1 rfl (lv_room (Nat.le_of_ble_eq_true rfl)) dX12_feed_17 ⟨Nat.zero_le _, Nat.zero_le _⟩) hw (fun st17 t17 H17 locs17 eh17 eg17 bx17 hw => ?_)
    obtain ⟨bx17, g17, y17_0, p17_0⟩ := bx17
    rw [eh17, eg17] at g17
    obtain ⟨fx17p0, bx17p0⟩ := p17_0
    rw [eg17] at fx17p0
    generalize y17_0 = x17p0 at fx17p0 bx17p0
    refine lv_aload_n hx hb dX12_feed_20 rfl (lv_at hl 0 rfl) ?_
    refine lv_iload_n hx hb dX12_feed_21 rfl (lv_at hl 2 rfl) ?_
    refine hp_callev (va_runV (As := [.int xp2]) (rest := []) ⟨hx, hb, hml, hown, hts⟩ (sX12_four_1 l D T ap0 xp2 x17p0 Gm ip0 bx17p0) (cwV 1 hts gX12_feed_X12_four rfl rfl rfl (by decide +kernel) ⟨Nat.le_of_ble_eq_true rfl, Nat.le_of_ble_eq_true rfl⟩) (hp_preV hG hw hp0 rfl fx17p0) rfl rfl hl.1 rfl (lv_room (Nat.le_of_ble_eq_true rfl)) dX12_feed_22 ⟨Nat.zero_le _, Nat.zero_le _⟩) hw (fun st22 t22 H22 locs22 eh22 eg22 bx22 hw => ?_)
    obtain ⟨bx22, g22, y22_0, p22_0⟩ := bx22
    rw [eh22, eg22] at g22
    obtain ⟨fx22p0, bx22p0⟩ := p22_0
    rw [eg22] at fx22p0
    generalize y22_0 = x22p0 at fx22p0 bx22p0
    refine lv_aload_n hx hb dX12_feed_25 rfl (lv_at hl 0 rfl) ?_
    refine lv_iload_n hx hb dX12_feed_26 rfl (lv_at hl 3 rfl) ?_
    refine hp_callev (va_runV (As := [.int xp3]) (rest := []) ⟨hx, hb, hml, hown, hts⟩ (sX12_four_2 l D T ap0 xp3 x22p0 Gm ip0 bx22p0) (cwV 1 hts gX12_feed_X12_four rfl rfl rfl (by decide +kernel) ⟨Nat.le_of_ble_eq_true rfl, Nat.le_of_ble_eq_true rfl⟩) (hp_preV hG hw hp0 rfl fx22p0) rfl rfl hl.1 rfl (lv_room (Nat.le_of_ble_eq_true rfl)) dX12_feed_27 ⟨Nat.zero_le _, Nat.zero_le _⟩) hw (fun st27 t27 H27 locs27 eh27 eg27 bx27 hw => ?_)
    obtain ⟨bx27, g27, y27_0, p27_0⟩ := bx27
    rw [eh27, eg27] at g27
    obtain ⟨fx27p0, bx27p0⟩ := p27_0
    rw [eg27] at fx27p0
    generalize y27_0 = x27p0 at fx27p0 bx27p0
    refine lv_aload_n hx hb dX12_feed_30 rfl (lv_at hl 0 rfl) ?_
    refine lv_iload hx hb dX12_feed_31 (lv_at hl 4 rfl) ?_
    refine hp_callev (va_runV (As := [.int xp4]) (rest := []) ⟨hx, hb, hml, hown, hts⟩ (sX12_four_3 l D T ap0 xp4 x27p0 Gm ip0 bx27p0) (cwV 1 hts gX12_feed_X12_four rfl rfl rfl (by decide +kernel) ⟨Nat.le_of_ble_eq_true rfl, Nat.le_of_ble_eq_true rfl⟩) (hp_preV hG hw hp0 rfl fx27p0) rfl rfl hl.1 rfl (lv_room (Nat.le_of_ble_eq_true rfl)) dX12_feed_33 ⟨Nat.zero_le _, Nat.zero_le _⟩) hw (fun st33 t33 H33 locs33 eh33 eg33 bx33 hw => ?_)
    obtain ⟨bx33, g33, y33_0, p33_0⟩ := bx33
    rw [eh33, eg33] at g33
    obtain ⟨fx33p0, bx33p0⟩ := p33_0
    rw [eg33] at fx33p0
    generalize y33_0 = x33p0 at fx33p0 bx33p0
    refine lv_aload_n hx hb dX12_feed_36 rfl (lv_at hl 0 rfl) ?_
    refine lv_iload hx hb dX12_feed_37 (lv_at hl 5 rfl) ?_
    refine hp_callev (va_runV (As := [.int xp5]) (rest := []) ⟨hx, hb, hml, hown, hts⟩ (sX12_four_4 l D T ap0 xp5 x33p0 Gm ip0 bx33p0) (cwV 1 hts gX12_feed_X12_four rfl rfl rfl (by decide +kernel) ⟨Nat.le_of_ble_eq_true rfl, Nat.le_of_ble_eq_true rfl⟩) (hp_preV hG hw hp0 rfl fx33p0) rfl rfl hl.1 rfl (lv_room (Nat.le_of_ble_eq_true rfl)) dX12_feed_39 ⟨Nat.zero_le _, Nat.zero_le _⟩) hw (fun st39 t39 H39 locs39 eh39 eg39 bx39 hw => ?_)
    obtain ⟨bx39, g39, y39_0, p39_0⟩ := bx39
    rw [eh39, eg39] at g39
    obtain ⟨fx39p0, bx39p0⟩ := p39_0
    rw [eg39] at fx39p0
    generalize y39_0 = x39p0 at fx39p0 bx39p0
    refine lv_aload_n hx hb dX12_feed_42 rfl (lv_at hl 0 rfl) ?_
    refine hp_getf hx hb hts IX12 hown hK fx39p0 rfl (by decide) L89 dX12_feed_43 ?_
    exact W.iret (v := x39p0) hx hb hr (fun t ht hW => ⟨some (.int x39p0), rfl, ⟨x39p0, rfl, trivial⟩, by rw [ht]; exact hw.1, hw.2.F ht⟩) hw.2.2.2 dX12_feed_46
  · have r10fq : iv x6 401 420 := (iv_lt_r (iv_nle c10) (show iv 400 400 400 from ⟨by decide, by decide⟩) bx6).mono (by decide) (by decide)
    have r10fqu : iv x1 381 400 := iv_bku qx6 r10fq bx1 (show iv 20 20 20 from ⟨by decide, by decide⟩) (by decide)
    refine lv_iconst (v := (-1)) hx hb dX12_feed_13 (by decide) ?_
    exact W.iret (v := (-1)) hx hb hr (fun t ht hW => ⟨some (.int (-1)), rfl, ⟨((-1) : Int32), rfl, trivial⟩, by rw [ht]; exact hw.1, hw.2.F ht⟩) hw.2.2.2 dX12_feed_14
abbrev WX12_force (p : Program) (l : Launch) (e : Env) (s : State) (m : MethodId) (below : List Frame) (meth : Method) (c : Code) (D : hp_D) (T : hp_T) (ap0 : Nat) (xp1 : Int32) (H : Heap) (locs : List Loc) (g : JFrame) : Prop := W p l e (headSpec wsX12_force ({ frames := 1, cells := 0, slots := 0, locals := 21 })).room s m ([.ref ap0, .int xp1] : List Value).toArray below meth c H locs 0 0 (MQ below (hq_e D T (fun v _ _ => ∃ r : Int32, v = some (.int r) ∧ True)) ([.ref ap0, .int xp1] : List Value).toArray s 0 0 (hp_F T)) g
set_option maxHeartbeats 4000000 in
set_option maxRecDepth 100000 in
theorem sX12_force (l : Launch) (D : hp_D) (T : hp_T) (ap0 : Nat) (xp1 : Int32) (Gm : moG) (ip0 : isMo T ap0 Gm) : Met l yX12_force wsX12_force ({ frames := 1, cells := 0, slots := 0, locals := 21 }) (hp_Pc D T [.ref ap0, .int xp1] (fun _ => True)) (hq_e D T (fun v _ _ => ∃ r : Int32, v = some (.int r) ∧ True)) 0 0 (hp_F T) := by
  obtain ⟨ap0tape, ap0sign, ap0len, ap0clause, ap0clauses, ap0read, ap0opn, ap0stack, ap0word, ap0said, ap0was, ap0fitting, ap0sums, ap0sort, ap0sumsBy, ap0oneOf, ap0otherOf, ap0kept, ap0images, ap0acts, ap0iUnd, ap0iFor, ap0iX, ap0made, gok, hp0, hp0tape, hp0sign, hp0len, hp0clause, hp0clauses, hp0read, hp0opn, hp0stack, hp0word, hp0said, hp0was, hp0fitting, hp0sums, hp0sort, hp0sumsBy, hp0oneOf, hp0otherOf, hp0kept, hp0images, hp0acts, hp0iUnd, hp0iFor, hp0iX, hp0made⟩ := id ip0
  have hpx := gok.1
  have gsok := gok.2.2.2.2
  have ggd := gok.2.2.2.1
  refine Met.ofW (cc := cX12_force) (maxL := 3) (ret := (some .int)) (by decide) rfl ?_
  intro p e s m args below meth c s₁ B hml hv
  obtain ⟨rfl, hok, hG, hB⟩ := hv
  have hx := B.exec
  have hb := B.bytes
  have hr := B.returns
  have hts := atoms_spec (ws := wsX12_force) B.pre
  have hown : s.vm.findClass RX12 = some m.cls := findClass_of_methodNamed B.named
  have hlocks := B.notSynchronized
  have hK := hG.1
  have hw : hp_w D T s s.heap [] := hp_w.rf hok
  have IX12 : ∀ w ∈ wsX120, w ∈ wsX12_force := by decide +kernel
  have L42 := hts (.fieldLink RX12 42 "PalmCensusModel" "force" "I") (by decide +kernel)
  have hl := lv_entry ([.ref ap0, .int xp1]) (n := 3) (Nat.le_of_ble_eq_true rfl)
  rw [lg_entry_eq]
  generalize (lg_sl ([.ref ap0, .int xp1]) ++ List.replicate (3 - (lg_sl ([.ref ap0, .int xp1])).length) Slot.unset).toArray = ls at hl ⊢
  have hl : lv_has ls 3 [(0, .ref ap0), (1, .int xp1)] := hl
  show WX12_force p l e s m below meth c D T ap0 xp1 s.heap [] (F0 m 0 ls [])
  refine lv_iload_n hx hb dX12_force_0 rfl (lv_at hl 1 rfl) ?_
  refine lv_iconst (v := (-1)) hx hb dX12_force_1 (by decide) ?_
  have J16 : iv xp1 (-1) 5 → ∀ (H : Heap) (locs : List Loc), hp_w D T s H locs → ∀ (ls : Array Slot), lv_has ls 3 [(0, .ref ap0), (1, .int xp1)] → WX12_force p l e s m below meth c D T ap0 xp1 H locs (F0 m 16 ls []) := by
    intro c16_xp1 H16 locs16 hw ls hl
    refine lv_aload_n hx hb dX12_force_16 rfl (lv_at hl 0 rfl) ?_
    refine hp_geti hx hb hts IX12 hown hK hw.1 hp0 rfl 21 (by decide) L42 rfl dX12_force_17 (fun x17 bx17 fx17 => ?_)
    refine lv_istore_n (lv' := [(2, .int x17), (0, .ref ap0), (1, .int xp1)]) hx hb dX12_force_20 rfl hl (by decide) rfl (fun ls hl => ?_)
    refine lv_aload_n hx hb dX12_force_21 rfl (lv_at hl 1 rfl) ?_
    refine lv_iload_n hx hb dX12_force_22 rfl (lv_at hl 2 rfl) ?_
    refine hp_put hx hb hts IX12 tyX12 tyX12_ok nmX12 hown hK hw hp0 rfl 21 (by decide) L42 rfl rfl ⟨_, rfl, c16_xp1⟩ rfl rfl dX12_force_23 (fun H23 locs23 hw f23n g23 => ?_)
    refine lv_iload_n hx hb dX12_force_26 rfl (lv_at hl 0 rfl) ?_
    exact W.iret (v := x17) hx hb hr (fun t ht hW => ⟨some (.int x17), rfl, ⟨x17, rfl, trivial⟩, by rw [ht]; exact hw.1, hw.2.F ht⟩) hw.2.2.2 dX12_force_27
  refine lv_icmp_eq (tgt := 16) hx hb dX12_force_2 (by decide) (fun c2 => ?_) (fun c2 => ?_)
  · have r2tp : iv xp1 (-1) (-1) := (iv_both (iv_any xp1) (iv_eq (show iv (-1) (-1) (-1) from ⟨by decide, by decide⟩) c2)).mono (by decide) (by decide)
    exact J16 (r2tp.mono (by decide) (by decide)) s.heap [] hw _ (lv_sub hl [0, 1] rfl)
  · refine lv_aload_n hx hb dX12_force_5 rfl (lv_at hl 0 rfl) ?_
    refine lv_iload_n hx hb dX12_force_6 rfl (lv_at hl 1 rfl) ?_
    refine hp_callpi (va_runV (As := [.int xp1]) (rest := []) ⟨hx, hb, hml, hown, hts⟩ (sX12_isRule l D T ap0 xp1 Gm ip0) (cwV 1 hts gX12_force_X12_isRule rfl rfl rfl (by decide +kernel) ⟨Nat.le_of_ble_eq_true rfl, Nat.le_of_ble_eq_true rfl⟩) (hp_preV hG hw hp0 rfl trivial) rfl rfl hl.1 rfl (lv_room (Nat.le_of_ble_eq_true rfl)) dX12_force_7 ⟨Nat.zero_le _, Nat.zero_le _⟩) (fun x7 bx7 => ?_)
    obtain ⟨bx7, ix7_0⟩ := bx7
    refine lv_if_ne (tgt := 16) hx hb dX12_force_10 (by decide) (fun c10 => ?_) (fun c10 => ?_)
    · have r10tp : iv x7 1 1 := (iv_ne_lo c10 bx7 rfl).mono (by decide) (by decide)
      have r10tpz : iv xp1 0 5 := (iv_both (iv_any xp1) (ix7_0 (iv_ne0 r10tp (by decide)))).mono (by decide) (by decide)
      exact J16 (r10tpz.mono (by decide) (by decide)) s.heap [] hw _ (lv_sub hl [0, 1] rfl)
    · have r10fp : iv x7 0 0 := (iv_both bx7 (iv_eq (show iv 0 0 0 from ⟨by decide, by decide⟩) c10)).mono (by decide) (by decide)
      refine lv_bipush (v := (-2)) hx hb dX12_force_13 (by decide) ?_
      exact W.iret (v := (-2)) hx hb hr (fun t ht hW => ⟨some (.int (-2)), rfl, ⟨((-2) : Int32), rfl, trivial⟩, by rw [ht]; exact hw.1, hw.2.F ht⟩) hw.2.2.2 dX12_force_15
abbrev WX12_keepsAct (p : Program) (l : Launch) (e : Env) (s : State) (m : MethodId) (below : List Frame) (meth : Method) (c : Code) (D : hp_D) (T : hp_T) (ap0 : Nat) (H : Heap) (locs : List Loc) (g : JFrame) : Prop := W p l e (headSpec wsX12_keepsAct ({ frames := 0, cells := 0, slots := 0, locals := 0 })).room s m ([.ref ap0] : List Value).toArray below meth c H locs 0 0 (MQ below (hq_e D T (fun v st t => v = none ∧ ((True) ∧ hp_km D [(12, 24)] st.heap t.heap))) ([.ref ap0] : List Value).toArray s 0 0 (hp_F T)) g
set_option maxHeartbeats 4000000 in
set_option maxRecDepth 100000 in
theorem sX12_keepsAct (l : Launch) (D : hp_D) (T : hp_T) (ap0 : Nat) (Gm : moG) (ip0 : isMo T ap0 Gm) : Met l yX12_keepsAct wsX12_keepsAct ({ frames := 0, cells := 0, slots := 0, locals := 0 }) (hp_Pc D T [.ref ap0] (fun _ => True)) (hq_e D T (fun v st t => v = none ∧ ((True) ∧ hp_km D [(12, 24)] st.heap t.heap))) 0 0 (hp_F T) := by
  obtain ⟨ap0tape, ap0sign, ap0len, ap0clause, ap0clauses, ap0read, ap0opn, ap0stack, ap0word, ap0said, ap0was, ap0fitting, ap0sums, ap0sort, ap0sumsBy, ap0oneOf, ap0otherOf, ap0kept, ap0images, ap0acts, ap0iUnd, ap0iFor, ap0iX, ap0made, gok, hp0, hp0tape, hp0sign, hp0len, hp0clause, hp0clauses, hp0read, hp0opn, hp0stack, hp0word, hp0said, hp0was, hp0fitting, hp0sums, hp0sort, hp0sumsBy, hp0oneOf, hp0otherOf, hp0kept, hp0images, hp0acts, hp0iUnd, hp0iFor, hp0iX, hp0made⟩ := id ip0
  have hpx := gok.1
  have gsok := gok.2.2.2.2
  have ggd := gok.2.2.2.1
  refine Met.ofW (cc := cX12_keepsAct) (maxL := 2) (ret := none) (by decide) rfl ?_
  intro p e s m args below meth c s₁ B hml hv
  obtain ⟨rfl, hok, hG, hB⟩ := hv
  have hx := B.exec
  have hb := B.bytes
  have hr := B.returns
  have hts := atoms_spec (ws := wsX12_keepsAct) B.pre
  have hown : s.vm.findClass RX12 = some m.cls := findClass_of_methodNamed B.named
  have hlocks := B.notSynchronized
  have hK := hG.1
  have hw : hp_w D T s s.heap [] := hp_w.rf hok
  have IX12 : ∀ w ∈ wsX120, w ∈ wsX12_keepsAct := by decide +kernel
  have L273 := hts (.fieldLink RX12 273 "PalmCensusModel" "undone" "I") (by decide +kernel)
  have L46 := hts (.fieldLink RX12 46 "PalmCensusModel" "wasSaid" "[I") (by decide +kernel)
  have L39 := hts (.fieldLink RX12 39 "PalmCensusModel" "said" "[I") (by decide +kernel)
  have hkm : hp_km D [(12, 24)] s.heap s.heap := fun _ _ _ _ h _ => h
  have hl := lv_entry ([.ref ap0]) (n := 2) (Nat.le_of_ble_eq_true rfl)
  rw [lg_entry_eq]
  generalize (lg_sl ([.ref ap0]) ++ List.replicate (2 - (lg_sl ([.ref ap0])).length) Slot.unset).toArray = ls at hl ⊢
  have hl : lv_has ls 2 [(0, .ref ap0)] := hl
  show WX12_keepsAct p l e s m below meth c D T ap0 s.heap [] (F0 m 0 ls [])
  obtain ⟨x9000op0_24, bx9000op0_24, fx9000op0_24⟩ := hp_opI hw.1 hp0 24 rfl
  refine lv_aload_n hx hb dX12_keepsAct_0 rfl (lv_at hl 0 rfl) ?_
  refine hp_getf hx hb hts IX12 hown hK fx9000op0_24 rfl (by decide) L273 dX12_keepsAct_1 ?_
  refine lv_bipush (v := 20) hx hb dX12_keepsAct_4 (by decide) ?_
  have J52 : ∀ (y52_fp0_24 : Int32), iv y52_fp0_24 0 19 → ∀ (H : Heap) (locs : List Loc), hp_w D T s H locs → hp_km D [(12, 24)] s.heap H → hp_f D H ap0 12 24 (.int y52_fp0_24) → ∀ (ls : Array Slot), lv_has ls 2 [(0, .ref ap0)] → WX12_keepsAct p l e s m below meth c D T ap0 H locs (F0 m 52 ls []) := by
    intro y52_fp0_24 c52_y52_fp0_24 H52 locs52 hw hkm f_p0_24 ls hl
    refine lv_iconst (v := 0) hx hb dX12_keepsAct_52 (by decide) ?_
    refine lv_istore_n (lv' := [(1, .int 0), (0, .ref ap0)]) hx hb dX12_keepsAct_53 rfl hl (by decide) rfl (fun ls hl => ?_)
    have J54 : ∀ (n : Nat) (y54_l1 y54_fp0_24 : Int32), (255 - y54_l1.toInt).toNat < n → iv y54_l1 0 255 → iv y54_fp0_24 0 19 → ∀ (H : Heap) (locs : List Loc), hp_w D T s H locs → hp_km D [(12, 24)] s.heap H → hp_f D H ap0 12 24 (.int y54_fp0_24) → ∀ (ls : Array Slot), lv_has ls 2 [(0, .ref ap0), (1, .int y54_l1)] → WX12_keepsAct p l e s m below meth c D T ap0 H locs (F0 m 54 ls []) := by
      intro n
      induction n with
      | zero => intro y54_l1 y54_fp0_24 hmu54 c54_y54_l1 c54_y54_fp0_24 H54 locs54 hw hkm f_p0_24 ls hl; exact absurd hmu54 (Nat.not_lt_zero _)
      | succ n ih54 =>
        intro y54_l1 y54_fp0_24 hmu54 c54_y54_l1 c54_y54_fp0_24 H54 locs54 hw hkm f_p0_24 ls hl
        refine lv_iload_n hx hb dX12_keepsAct_54 rfl (lv_at hl 1 rfl) ?_
        refine lv_sipush (v := 170) hx hb dX12_keepsAct_55 (by decide) ?_
        refine lv_icmp_ge (tgt := 88) hx hb dX12_keepsAct_58 (by decide) (fun c58 => ?_) (fun c58 => ?_)
        · have r58tq : iv y54_l1 170 255 := (iv_le_r c58 (show iv 170 170 170 from ⟨by decide, by decide⟩) c54_y54_l1).mono (by decide) (by decide)
          refine lv_aload_n hx hb dX12_keepsAct_88 rfl (lv_at hl 0 rfl) ?_
          refine lv_dup hx hb dX12_keepsAct_89 rfl ?_
          refine hp_getf hx hb hts IX12 hown hK f_p0_24 rfl (by decide) L273 dX12_keepsAct_90 ?_
          refine lv_iconst (v := 1) hx hb dX12_keepsAct_93 (by decide) ?_
          refine lv_iadd hx hb dX12_keepsAct_94 ?_
          refine lv_topi (fun x94 ex94 => ?_)
          have bx94 : iv x94 1 20 := iv_add c54_y54_fp0_24 (show iv 1 1 1 from ⟨by decide, by decide⟩) ex94 (by decide)
          have qx94 := iv_add_eq c54_y54_fp0_24 (show iv 1 1 1 from ⟨by decide, by decide⟩) ex94 (by decide)
          refine hp_put hx hb hts IX12 tyX12 tyX12_ok nmX12 hown hK hw hp0 rfl 24 (by decide) L273 rfl rfl ⟨_, rfl, (bx94.mono (by decide) (by decide))⟩ rfl rfl dX12_keepsAct_95 (fun H95 locs95 hw f95n g95 => ?_)
          have hkm := hkm.put g95 (by decide)
          exact W.vret hx hb hr (fun t ht hW => ⟨none, rfl, ⟨rfl, ⟨trivial, by rw [ht]; exact hkm⟩⟩, by rw [ht]; exact hw.1, hw.2.F ht⟩) hw.2.2.2 dX12_keepsAct_98
        · have r58fp : iv y54_l1 0 169 := (iv_lt_l (iv_nle c58) c54_y54_l1 (show iv 170 170 170 from ⟨by decide, by decide⟩)).mono (by decide) (by decide)
          refine lv_aload_n hx hb dX12_keepsAct_61 rfl (lv_at hl 0 rfl) ?_
          refine hp_getr hx hb hts IX12 hown hK hw.1 hp0 rfl 23 (by decide) L46 rfl dX12_keepsAct_62 ?_
          refine lv_sipush (v := 170) hx hb dX12_keepsAct_65 (by decide) ?_
          refine lv_aload_n hx hb dX12_keepsAct_68 rfl (lv_at hl 0 rfl) ?_
          refine hp_getf hx hb hts IX12 hown hK f_p0_24 rfl (by decide) L273 dX12_keepsAct_69 ?_
          refine lv_imul hx hb dX12_keepsAct_72 ?_
          refine lv_topi (fun x72 ex72 => ?_)
          have bx72 : iv x72 0 3230 := iv_mul (show iv 170 170 170 from ⟨by decide, by decide⟩) c54_y54_fp0_24 ex72 (by decide)
          refine lv_iload_n hx hb dX12_keepsAct_73 rfl (lv_at hl 1 rfl) ?_
          refine lv_iadd hx hb dX12_keepsAct_74 ?_
          refine lv_topi (fun x74 ex74 => ?_)
          have bx74 : iv x74 0 3399 := iv_add bx72 r58fp ex74 (by decide)
          have qx74 := iv_add_eq bx72 r58fp ex74 (by decide)
          refine lv_aload_n hx hb dX12_keepsAct_75 rfl (lv_at hl 0 rfl) ?_
          refine hp_getr hx hb hts IX12 hown hK hw.1 hp0 rfl 20 (by decide) L39 rfl dX12_keepsAct_76 ?_
          refine lv_iload_n hx hb dX12_keepsAct_79 rfl (lv_at hl 1 rfl) ?_
          refine hp_iald hx hb hK hw.1 hp0said (vp_iv r58fp (by decide)) dX12_keepsAct_80 (fun v80 hr80 => ?_)
          have h80 := gsok _ _ hr80
          obtain ⟨x80, rfl⟩ := sP_any h80
          refine hp_iast hx hb hK hw hp0was (vp_iv bx74 (by decide)) (wP_ofs 19 169 h80 (iv_row (N := 169) (M := 19) 170 (by decide) ex72 ex74 c54_y54_fp0_24 r58fp (by decide) (by decide)) c54_y54_fp0_24 r58fp (by decide)) dX12_keepsAct_81 (fun H81 locs81 hw g81 => ?_)
          have hkm := hkm.ar g81
          have f_p0_24 := g81 _ _ _ _ f_p0_24
          obtain ⟨x82, ex82⟩ : ∃ y : Int32, y = y54_l1 + 1 := ⟨_, rfl⟩
          have bx82 : iv x82 1 170 := iv_add r58fp (show iv 1 1 1 from ⟨by decide, by decide⟩) ex82 (by decide)
          have qx82 := iv_add_eq r58fp (show iv 1 1 1 from ⟨by decide, by decide⟩) ex82 (by decide)
          refine lv_iinc (v := x82) (lv' := [(1, .int x82), (0, .ref ap0)]) hx hb dX12_keepsAct_82 hl (k := 1) rfl (by rw [ex82]; rfl) (by decide) rfl (fun ls hl => ?_)
          refine lv_goto (tgt := 54) hx hb dX12_keepsAct_85 (by decide) ?_
          exact ih54 x82 y54_fp0_24 (mu_up 1 hmu54 (qx82) (by decide) (show iv x82 0 255 from (bx82.mono (by decide) (by decide))).2) (bx82.mono (by decide) (by decide)) c54_y54_fp0_24 H81 locs81 hw hkm f_p0_24 _ (lv_sub hl [1, 0] rfl)
    exact J54 _ (0 : Int32) y52_fp0_24 (Nat.lt_succ_self _) (show iv 0 0 255 from ⟨by decide, by decide⟩) c52_y52_fp0_24 H52 locs52 hw hkm f_p0_24 _ (lv_sub hl [1, 0] rfl)
  refine lv_icmp_ne (tgt := 52) hx hb dX12_keepsAct_6 (by decide) (fun c6 => ?_) (fun c6 => ?_)
  · have r6tp : iv x9000op0_24 0 19 := (iv_ne_hi c6 bx9000op0_24 rfl).mono (by decide) (by decide)
    exact J52 x9000op0_24 r6tp s.heap [] hw hkm fx9000op0_24 _ (lv_sub hl [0] rfl)
  · have r6fp : iv x9000op0_24 20 20 := (iv_both bx9000op0_24 (iv_eq (show iv 20 20 20 from ⟨by decide, by decide⟩) c6)).mono (by decide) (by decide)
    refine lv_sipush (v := 170) hx hb dX12_keepsAct_9 (by decide) ?_
    refine lv_istore_n (lv' := [(1, .int 170), (0, .ref ap0)]) hx hb dX12_keepsAct_12 rfl hl (by decide) rfl (fun ls hl => ?_)
    have J13 : ∀ (n : Nat) (y13_l1 y13_fp0_24 : Int32), (9999 - y13_l1.toInt).toNat < n → iv y13_l1 170 9999 → iv y13_fp0_24 20 20 → ∀ (H : Heap) (locs : List Loc), hp_w D T s H locs → hp_km D [(12, 24)] s.heap H → hp_f D H ap0 12 24 (.int y13_fp0_24) → ∀ (ls : Array Slot), lv_has ls 2 [(0, .ref ap0), (1, .int y13_l1)] → WX12_keepsAct p l e s m below meth c D T ap0 H locs (F0 m 13 ls []) := by
      intro n
      induction n with
      | zero => intro y13_l1 y13_fp0_24 hmu13 c13_y13_l1 c13_y13_fp0_24 H13 locs13 hw hkm f_p0_24 ls hl; exact absurd hmu13 (Nat.not_lt_zero _)
      | succ n ih13 =>
        intro y13_l1 y13_fp0_24 hmu13 c13_y13_l1 c13_y13_fp0_24 H13 locs13 hw hkm f_p0_24 ls hl
        refine lv_iload_n hx hb dX12_keepsAct_13 rfl (lv_at hl 1 rfl) ?_
        refine lv_sipush (v := 3400) hx hb dX12_keepsAct_14 (by decide) ?_
        refine lv_icmp_ge (tgt := 42) hx hb dX12_keepsAct_17 (by decide) (fun c17 => ?_) (fun c17 => ?_)
        · have r17tq : iv y13_l1 3400 9999 := (iv_le_r c17 (show iv 3400 3400 3400 from ⟨by decide, by decide⟩) c13_y13_l1).mono (by decide) (by decide)
          refine lv_aload_n hx hb dX12_keepsAct_42 rfl (lv_at hl 0 rfl) ?_
          refine lv_dup hx hb dX12_keepsAct_43 rfl ?_
          refine hp_getf hx hb hts IX12 hown hK f_p0_24 rfl (by decide) L273 dX12_keepsAct_44 ?_
          refine lv_iconst (v := 1) hx hb dX12_keepsAct_47 (by decide) ?_
          refine lv_isub hx hb dX12_keepsAct_48 ?_
          refine lv_topi (fun x48 ex48 => ?_)
          have bx48 : iv x48 19 19 := iv_sub c13_y13_fp0_24 (show iv 1 1 1 from ⟨by decide, by decide⟩) ex48 (by decide)
          have qx48 := iv_sub_eq c13_y13_fp0_24 (show iv 1 1 1 from ⟨by decide, by decide⟩) ex48 (by decide)
          refine hp_put hx hb hts IX12 tyX12 tyX12_ok nmX12 hown hK hw hp0 rfl 24 (by decide) L273 rfl rfl ⟨_, rfl, (bx48.mono (by decide) (by decide))⟩ rfl rfl dX12_keepsAct_49 (fun H49 locs49 hw f49n g49 => ?_)
          have hkm := hkm.put g49 (by decide)
          exact J52 x48 (bx48.mono (by decide) (by decide)) H49 locs49 hw hkm f49n _ (lv_sub hl [0] rfl)
        · have r17fp : iv y13_l1 170 3399 := (iv_lt_l (iv_nle c17) c13_y13_l1 (show iv 3400 3400 3400 from ⟨by decide, by decide⟩)).mono (by decide) (by decide)
          refine lv_aload_n hx hb dX12_keepsAct_20 rfl (lv_at hl 0 rfl) ?_
          refine hp_getr hx hb hts IX12 hown hK hw.1 hp0 rfl 23 (by decide) L46 rfl dX12_keepsAct_21 ?_
          refine lv_iload_n hx hb dX12_keepsAct_24 rfl (lv_at hl 1 rfl) ?_
          refine lv_sipush (v := 170) hx hb dX12_keepsAct_25 (by decide) ?_
          refine lv_isub hx hb dX12_keepsAct_28 ?_
          refine lv_topi (fun x28 ex28 => ?_)
          have bx28 : iv x28 0 3229 := iv_sub r17fp (show iv 170 170 170 from ⟨by decide, by decide⟩) ex28 (by decide)
          have qx28 := iv_sub_eq r17fp (show iv 170 170 170 from ⟨by decide, by decide⟩) ex28 (by decide)
          refine lv_aload_n hx hb dX12_keepsAct_29 rfl (lv_at hl 0 rfl) ?_
          refine hp_getr hx hb hts IX12 hown hK hw.1 hp0 rfl 23 (by decide) L46 rfl dX12_keepsAct_30 ?_
          refine lv_iload_n hx hb dX12_keepsAct_33 rfl (lv_at hl 1 rfl) ?_
          refine hp_iald hx hb hK hw.1 hp0was (vp_iv r17fp (by decide)) dX12_keepsAct_34 (fun v34 h34 => ?_)
          obtain ⟨x34, rfl⟩ := wP_any h34
          refine hp_iast hx hb hK hw hp0was (vp_iv bx28 (by decide)) (wP_shift (x := 0) h34 qx28 r17fp) dX12_keepsAct_35 (fun H35 locs35 hw g35 => ?_)
          have hkm := hkm.ar g35
          have f_p0_24 := g35 _ _ _ _ f_p0_24
          obtain ⟨x36, ex36⟩ : ∃ y : Int32, y = y13_l1 + 1 := ⟨_, rfl⟩
          have bx36 : iv x36 171 3400 := iv_add r17fp (show iv 1 1 1 from ⟨by decide, by decide⟩) ex36 (by decide)
          have qx36 := iv_add_eq r17fp (show iv 1 1 1 from ⟨by decide, by decide⟩) ex36 (by decide)
          refine lv_iinc (v := x36) (lv' := [(1, .int x36), (0, .ref ap0)]) hx hb dX12_keepsAct_36 hl (k := 1) rfl (by rw [ex36]; rfl) (by decide) rfl (fun ls hl => ?_)
          refine lv_goto (tgt := 13) hx hb dX12_keepsAct_39 (by decide) ?_
          exact ih13 x36 y13_fp0_24 (mu_up 1 hmu13 (qx36) (by decide) (show iv x36 170 9999 from (bx36.mono (by decide) (by decide))).2) (bx36.mono (by decide) (by decide)) c13_y13_fp0_24 H35 locs35 hw hkm f_p0_24 _ (lv_sub hl [1, 0] rfl)
    exact J13 _ (170 : Int32) x9000op0_24 (Nat.lt_succ_self _) (show iv 170 170 9999 from ⟨by decide, by decide⟩) r6fp s.heap [] hw hkm fx9000op0_24 _ (lv_sub hl [1, 0] rfl)
abbrev WX12_undo (p : Program) (l : Launch) (e : Env) (s : State) (m : MethodId) (below : List Frame) (meth : Method) (c : Code) (D : hp_D) (T : hp_T) (ap0 : Nat) (H : Heap) (locs : List Loc) (g : JFrame) : Prop := W p l e (headSpec wsX12_undo ({ frames := 0, cells := 0, slots := 0, locals := 0 })).room s m ([.ref ap0] : List Value).toArray below meth c H locs 0 0 (MQ below (hq_e D T (fun v _ _ => ∃ r : Int32, v = some (.int r) ∧ True)) ([.ref ap0] : List Value).toArray s 0 0 (hp_F T)) g
set_option maxHeartbeats 4000000 in
set_option maxRecDepth 100000 in
theorem sX12_undo (l : Launch) (D : hp_D) (T : hp_T) (ap0 : Nat) (Gm : moG) (ip0 : isMo T ap0 Gm) (hgs : ∀ j v, sP j v → gs Gm j v) : Met l yX12_undo wsX12_undo ({ frames := 0, cells := 0, slots := 0, locals := 0 }) (hp_Pc D T [.ref ap0] (fun _ => True)) (hq_e D T (fun v _ _ => ∃ r : Int32, v = some (.int r) ∧ True)) 0 0 (hp_F T) := by
  obtain ⟨ap0tape, ap0sign, ap0len, ap0clause, ap0clauses, ap0read, ap0opn, ap0stack, ap0word, ap0said, ap0was, ap0fitting, ap0sums, ap0sort, ap0sumsBy, ap0oneOf, ap0otherOf, ap0kept, ap0images, ap0acts, ap0iUnd, ap0iFor, ap0iX, ap0made, gok, hp0, hp0tape, hp0sign, hp0len, hp0clause, hp0clauses, hp0read, hp0opn, hp0stack, hp0word, hp0said, hp0was, hp0fitting, hp0sums, hp0sort, hp0sumsBy, hp0oneOf, hp0otherOf, hp0kept, hp0images, hp0acts, hp0iUnd, hp0iFor, hp0iX, hp0made⟩ := id ip0
  have hpx := gok.1
  have gsok := gok.2.2.2.2
  have ggd := gok.2.2.2.1
  refine Met.ofW (cc := cX12_undo) (maxL := 2) (ret := (some .int)) (by decide) rfl ?_
  intro p e s m args below meth c s₁ B hml hv
  obtain ⟨rfl, hok, hG, hB⟩ := hv
  have hx := B.exec
  have hb := B.bytes
  have hr := B.returns
  have hts := atoms_spec (ws := wsX12_undo) B.pre
  have hown : s.vm.findClass RX12 = some m.cls := findClass_of_methodNamed B.named
  have hlocks := B.notSynchronized
  have hK := hG.1
  have hw : hp_w D T s s.heap [] := hp_w.rf hok
  have IX12 : ∀ w ∈ wsX120, w ∈ wsX12_undo := by decide +kernel
  have L273 := hts (.fieldLink RX12 273 "PalmCensusModel" "undone" "I") (by decide +kernel)
  have L39 := hts (.fieldLink RX12 39 "PalmCensusModel" "said" "[I") (by decide +kernel)
  have L46 := hts (.fieldLink RX12 46 "PalmCensusModel" "wasSaid" "[I") (by decide +kernel)
  have hl := lv_entry ([.ref ap0]) (n := 2) (Nat.le_of_ble_eq_true rfl)
  rw [lg_entry_eq]
  generalize (lg_sl ([.ref ap0]) ++ List.replicate (2 - (lg_sl ([.ref ap0])).length) Slot.unset).toArray = ls at hl ⊢
  have hl : lv_has ls 2 [(0, .ref ap0)] := hl
  show WX12_undo p l e s m below meth c D T ap0 s.heap [] (F0 m 0 ls [])
  obtain ⟨x9000op0_24, bx9000op0_24, fx9000op0_24⟩ := hp_opI hw.1 hp0 24 rfl
  refine lv_aload_n hx hb dX12_undo_0 rfl (lv_at hl 0 rfl) ?_
  refine hp_getf hx hb hts IX12 hown hK fx9000op0_24 rfl (by decide) L273 dX12_undo_1 ?_
  refine lv_if_ne (tgt := 10) hx hb dX12_undo_4 (by decide) (fun c4 => ?_) (fun c4 => ?_)
  · have r4tp : iv x9000op0_24 1 20 := (iv_ne_lo c4 bx9000op0_24 rfl).mono (by decide) (by decide)
    refine lv_aload_n hx hb dX12_undo_10 rfl (lv_at hl 0 rfl) ?_
    refine lv_dup hx hb dX12_undo_11 rfl ?_
    refine hp_getf hx hb hts IX12 hown hK fx9000op0_24 rfl (by decide) L273 dX12_undo_12 ?_
    refine lv_iconst (v := 1) hx hb dX12_undo_15 (by decide) ?_
    refine lv_isub hx hb dX12_undo_16 ?_
    refine lv_topi (fun x16 ex16 => ?_)
    have bx16 : iv x16 0 19 := iv_sub r4tp (show iv 1 1 1 from ⟨by decide, by decide⟩) ex16 (by decide)
    have qx16 := iv_sub_eq r4tp (show iv 1 1 1 from ⟨by decide, by decide⟩) ex16 (by decide)
    refine hp_put hx hb hts IX12 tyX12 tyX12_ok nmX12 hown hK hw hp0 rfl 24 (by decide) L273 rfl rfl ⟨_, rfl, (bx16.mono (by decide) (by decide))⟩ rfl rfl dX12_undo_17 (fun H17 locs17 hw f17n g17 => ?_)
    refine lv_iconst (v := 0) hx hb dX12_undo_20 (by decide) ?_
    refine lv_istore_n (lv' := [(1, .int 0), (0, .ref ap0)]) hx hb dX12_undo_21 rfl hl (by decide) rfl (fun ls hl => ?_)
    have J22 : ∀ (n : Nat) (y22_l1 y22_fp0_24 : Int32), (255 - y22_l1.toInt).toNat < n → iv y22_l1 0 255 → iv y22_fp0_24 0 19 → ∀ (H : Heap) (locs : List Loc), hp_w D T s H locs → hp_f D H ap0 12 24 (.int y22_fp0_24) → ∀ (ls : Array Slot), lv_has ls 2 [(0, .ref ap0), (1, .int y22_l1)] → WX12_undo p l e s m below meth c D T ap0 H locs (F0 m 22 ls []) := by
      intro n
      induction n with
      | zero => intro y22_l1 y22_fp0_24 hmu22 c22_y22_l1 c22_y22_fp0_24 H22 locs22 hw f_p0_24 ls hl; exact absurd hmu22 (Nat.not_lt_zero _)
      | succ n ih22 =>
        intro y22_l1 y22_fp0_24 hmu22 c22_y22_l1 c22_y22_fp0_24 H22 locs22 hw f_p0_24 ls hl
        refine lv_iload_n hx hb dX12_undo_22 rfl (lv_at hl 1 rfl) ?_
        refine lv_sipush (v := 170) hx hb dX12_undo_23 (by decide) ?_
        refine lv_icmp_ge (tgt := 56) hx hb dX12_undo_26 (by decide) (fun c26 => ?_) (fun c26 => ?_)
        · have r26tq : iv y22_l1 170 255 := (iv_le_r c26 (show iv 170 170 170 from ⟨by decide, by decide⟩) c22_y22_l1).mono (by decide) (by decide)
          refine lv_aload_n hx hb dX12_undo_56 rfl (lv_at hl 0 rfl) ?_
          refine hp_getf hx hb hts IX12 hown hK f_p0_24 rfl (by decide) L273 dX12_undo_57 ?_
          exact W.iret (v := y22_fp0_24) hx hb hr (fun t ht hW => ⟨some (.int y22_fp0_24), rfl, ⟨y22_fp0_24, rfl, trivial⟩, by rw [ht]; exact hw.1, hw.2.F ht⟩) hw.2.2.2 dX12_undo_60
        · have r26fp : iv y22_l1 0 169 := (iv_lt_l (iv_nle c26) c22_y22_l1 (show iv 170 170 170 from ⟨by decide, by decide⟩)).mono (by decide) (by decide)
          refine lv_aload_n hx hb dX12_undo_29 rfl (lv_at hl 0 rfl) ?_
          refine hp_getr hx hb hts IX12 hown hK hw.1 hp0 rfl 20 (by decide) L39 rfl dX12_undo_30 ?_
          refine lv_iload_n hx hb dX12_undo_33 rfl (lv_at hl 1 rfl) ?_
          refine lv_aload_n hx hb dX12_undo_34 rfl (lv_at hl 0 rfl) ?_
          refine hp_getr hx hb hts IX12 hown hK hw.1 hp0 rfl 23 (by decide) L46 rfl dX12_undo_35 ?_
          refine lv_sipush (v := 170) hx hb dX12_undo_38 (by decide) ?_
          refine lv_aload_n hx hb dX12_undo_41 rfl (lv_at hl 0 rfl) ?_
          refine hp_getf hx hb hts IX12 hown hK f_p0_24 rfl (by decide) L273 dX12_undo_42 ?_
          refine lv_imul hx hb dX12_undo_45 ?_
          refine lv_topi (fun x45 ex45 => ?_)
          have bx45 : iv x45 0 3230 := iv_mul (show iv 170 170 170 from ⟨by decide, by decide⟩) c22_y22_fp0_24 ex45 (by decide)
          refine lv_iload_n hx hb dX12_undo_46 rfl (lv_at hl 1 rfl) ?_
          refine lv_iadd hx hb dX12_undo_47 ?_
          refine lv_topi (fun x47 ex47 => ?_)
          have bx47 : iv x47 0 3399 := iv_add bx45 r26fp ex47 (by decide)
          have qx47 := iv_add_eq bx45 r26fp ex47 (by decide)
          refine hp_iald hx hb hK hw.1 hp0was (vp_iv bx47 (by decide)) dX12_undo_48 (fun v48 h48 => ?_)
          obtain ⟨x48, rfl⟩ := wP_any h48
          refine hp_iast hx hb hK hw hp0said (vp_iv r26fp (by decide)) (hgs _ _ (sP_ofw 19 169 h48 (iv_row (N := 169) (M := 19) 170 (by decide) ex45 ex47 c22_y22_fp0_24 r26fp (by decide) (by decide)) c22_y22_fp0_24 r26fp (by decide))) dX12_undo_49 (fun H49 locs49 hw g49 => ?_)
          have f_p0_24 := g49 _ _ _ _ f_p0_24
          obtain ⟨x50, ex50⟩ : ∃ y : Int32, y = y22_l1 + 1 := ⟨_, rfl⟩
          have bx50 : iv x50 1 170 := iv_add r26fp (show iv 1 1 1 from ⟨by decide, by decide⟩) ex50 (by decide)
          have qx50 := iv_add_eq r26fp (show iv 1 1 1 from ⟨by decide, by decide⟩) ex50 (by decide)
          refine lv_iinc (v := x50) (lv' := [(1, .int x50), (0, .ref ap0)]) hx hb dX12_undo_50 hl (k := 1) rfl (by rw [ex50]; rfl) (by decide) rfl (fun ls hl => ?_)
          refine lv_goto (tgt := 22) hx hb dX12_undo_53 (by decide) ?_
          exact ih22 x50 y22_fp0_24 (mu_up 1 hmu22 (qx50) (by decide) (show iv x50 0 255 from (bx50.mono (by decide) (by decide))).2) (bx50.mono (by decide) (by decide)) c22_y22_fp0_24 H49 locs49 hw f_p0_24 _ (lv_sub hl [1, 0] rfl)
    exact J22 _ (0 : Int32) x16 (Nat.lt_succ_self _) (show iv 0 0 255 from ⟨by decide, by decide⟩) bx16 H17 locs17 hw f17n _ (lv_sub hl [1, 0] rfl)
  · have r4fp : iv x9000op0_24 0 0 := (iv_both bx9000op0_24 (iv_eq (show iv 0 0 0 from ⟨by decide, by decide⟩) c4)).mono (by decide) (by decide)
    refine lv_bipush (v := (-2)) hx hb dX12_undo_7 (by decide) ?_
    exact W.iret (v := (-2)) hx hb hr (fun t ht hW => ⟨some (.int (-2)), rfl, ⟨((-2) : Int32), rfl, trivial⟩, by rw [ht]; exact hw.1, hw.2.F ht⟩) hw.2.2.2 dX12_undo_9
abbrev WX12_palms (p : Program) (l : Launch) (e : Env) (s : State) (m : MethodId) (below : List Frame) (meth : Method) (c : Code) (D : hp_D) (T : hp_T) (ap0 : Nat) (xp1 : Int32) (xp2 : Int32) (H : Heap) (locs : List Loc) (g : JFrame) : Prop := W p l e (headSpec wsX12_palms ({ frames := 1, cells := 0, slots := 0, locals := 25 })).room s m ([.ref ap0, .int xp1, .int xp2] : List Value).toArray below meth c H locs 0 0 (MQ below (hq_e D T (fun v _ _ => ∃ r : Int32, v = some (.int r) ∧ iv r 0 1)) ([.ref ap0, .int xp1, .int xp2] : List Value).toArray s 0 0 (hp_F T)) g
set_option maxHeartbeats 4000000 in
set_option maxRecDepth 100000 in
theorem sX12_palms (l : Launch) (D : hp_D) (T : hp_T) (ap0 : Nat) (xp1 : Int32) (xp2 : Int32) (Gm : moG) (ip0 : isMo T ap0 Gm) (hgs : ∀ j v, sP j v → gs Gm j v) : Met l yX12_palms wsX12_palms ({ frames := 1, cells := 0, slots := 0, locals := 25 }) (hp_Pc D T [.ref ap0, .int xp1, .int xp2] (fun _ => True)) (hq_e D T (fun v _ _ => ∃ r : Int32, v = some (.int r) ∧ iv r 0 1)) 0 0 (hp_F T) := by
  obtain ⟨ap0tape, ap0sign, ap0len, ap0clause, ap0clauses, ap0read, ap0opn, ap0stack, ap0word, ap0said, ap0was, ap0fitting, ap0sums, ap0sort, ap0sumsBy, ap0oneOf, ap0otherOf, ap0kept, ap0images, ap0acts, ap0iUnd, ap0iFor, ap0iX, ap0made, gok, hp0, hp0tape, hp0sign, hp0len, hp0clause, hp0clauses, hp0read, hp0opn, hp0stack, hp0word, hp0said, hp0was, hp0fitting, hp0sums, hp0sort, hp0sumsBy, hp0oneOf, hp0otherOf, hp0kept, hp0images, hp0acts, hp0iUnd, hp0iFor, hp0iX, hp0made⟩ := id ip0
  have hpx := gok.1
  have gsok := gok.2.2.2.2
  have ggd := gok.2.2.2.1
  refine Met.ofW (cc := cX12_palms) (maxL := 3) (ret := (some .boolean)) (by decide) rfl ?_
  intro p e s m args below meth c s₁ B hml hv
  obtain ⟨rfl, hok, hG, hB⟩ := hv
  have hx := B.exec
  have hb := B.bytes
  have hr := B.returns
  have hts := atoms_spec (ws := wsX12_palms) B.pre
  have hown : s.vm.findClass RX12 = some m.cls := findClass_of_methodNamed B.named
  have hlocks := B.notSynchronized
  have hK := hG.1
  have hw : hp_w D T s s.heap [] := hp_w.rf hok
  have IX12 : ∀ w ∈ wsX120, w ∈ wsX12_palms := by decide +kernel
  have K399 := hts (.constantLong RX12 399 (-1)) (by decide +kernel)
  have K401 := hts (.constantLong RX12 401 9) (by decide +kernel)
  have L39 := hts (.fieldLink RX12 39 "PalmCensusModel" "said" "[I") (by decide +kernel)
  have hl := lv_entry ([.ref ap0, .int xp1, .int xp2]) (n := 3) (Nat.le_of_ble_eq_true rfl)
  rw [lg_entry_eq]
  generalize (lg_sl ([.ref ap0, .int xp1, .int xp2]) ++ List.replicate (3 - (lg_sl ([.ref ap0, .int xp1, .int xp2])).length) Slot.unset).toArray = ls at hl ⊢
  have hl : lv_has ls 3 [(0, .ref ap0), (1, .int xp1), (2, .int xp2)] := hl
  show WX12_palms p l e s m below meth c D T ap0 xp1 xp2 s.heap [] (F0 m 0 ls [])
  refine lv_aload_n hx hb dX12_palms_0 rfl (lv_at hl 0 rfl) ?_
  refine lv_iload_n hx hb dX12_palms_1 rfl (lv_at hl 1 rfl) ?_
  refine hp_callpi (va_runV (As := [.int xp1]) (rest := []) ⟨hx, hb, hml, hown, hts⟩ (sX12_isPerson l D T ap0 xp1 Gm ip0) (cwV 1 hts gX12_palms_X12_isPerson rfl rfl rfl (by decide +kernel) ⟨Nat.le_of_ble_eq_true rfl, Nat.le_of_ble_eq_true rfl⟩) (hp_preV hG hw hp0 rfl trivial) rfl rfl hl.1 rfl (lv_room (Nat.le_of_ble_eq_true rfl)) dX12_palms_2 ⟨Nat.zero_le _, Nat.zero_le _⟩) (fun x2 bx2 => ?_)
  obtain ⟨bx2, ix2_0⟩ := bx2
  have J22 : ∀ (H : Heap) (locs : List Loc), hp_w D T s H locs → ∀ (ls : Array Slot), lv_has ls 3 [] → WX12_palms p l e s m below meth c D T ap0 xp1 xp2 H locs (F0 m 22 ls []) := by
    intro H22 locs22 hw ls hl
    refine lv_iconst (v := 0) hx hb dX12_palms_22 (by decide) ?_
    exact W.zret (v := 0) hx hb hr (iv_nz (show iv 0 0 1 from ⟨by decide, by decide⟩)) (fun t ht hW => ⟨some (.int 0), rfl, ⟨(0 : Int32), rfl, (show iv 0 0 1 from ⟨by decide, by decide⟩)⟩, by rw [ht]; exact hw.1, hw.2.F ht⟩) hw.2.2.2 dX12_palms_23
  refine lv_if_eq (tgt := 22) hx hb dX12_palms_5 (by decide) (fun c5 => ?_) (fun c5 => ?_)
  · have r5tp : iv x2 0 0 := (iv_both bx2 (iv_eq (show iv 0 0 0 from ⟨by decide, by decide⟩) c5)).mono (by decide) (by decide)
    exact J22 s.heap [] hw _ (lv_sub hl [] rfl)
  · have r5fp : iv x2 1 1 := (iv_ne_lo c5 bx2 rfl).mono (by decide) (by decide)
    have r5fpz : iv xp1 0 9 := (iv_both (iv_any xp1) (ix2_0 (iv_ne0 r5fp (by decide)))).mono (by decide) (by decide)
    refine lv_iload_n hx hb dX12_palms_8 rfl (lv_at hl 2 rfl) ?_
    obtain ⟨x9, ex9⟩ : ∃ y : Int64, xp2.toInt64 = y := ⟨_, rfl⟩
    refine lv_i2l (v := x9) hx hb dX12_palms_9 ex9 ?_
    refine lv_ldc2 (v := (-1)) hx hb hown K399 dX12_palms_10 ?_
    refine lv_ldc2 (v := 9) hx hb hown K401 dX12_palms_13 ?_
    refine hp_callpi (va_runS (As := [.long x9, .long (-1), .long 9]) (rest := []) ⟨hx, hb, hml, hown, hts⟩ (sX12_in l D T x9 (-1) 9) (va_cwS 3 hts gX12_palms_X12_in rfl rfl rfl (by decide +kernel) ⟨Nat.le_of_ble_eq_true rfl, Nat.le_of_ble_eq_true rfl⟩) (hp_preS hG hw trivial) rfl rfl hl.1 rfl (lv_room (Nat.le_of_ble_eq_true rfl)) dX12_palms_16 ⟨Nat.zero_le _, Nat.zero_le _⟩) (fun x16 bx16 => ?_)
    obtain ⟨bx16, ox16, nx16⟩ := bx16
    have ox16a_ : x16 = 0 ∨ iv xp2 (-1) 9 := ox16.imp id (fun h => iv_in64 ex9 h.1 h.2 (by decide) (by decide))
    have ox16a : x16 = 0 ∨ iv xp2 (-1) 9 := ox16.imp id (fun h => iv_in64 ex9 h.1 h.2 (by decide) (by decide))
    refine lv_if_ne (tgt := 24) hx hb dX12_palms_19 (by decide) (fun c19 => ?_) (fun c19 => ?_)
    · have r19tp : iv x16 1 1 := (iv_ne_lo c19 bx16 rfl).mono (by decide) (by decide)
      have r19tpz : iv xp2 (-1) 9 := (iv_both (iv_any xp2) ((fun h9 => ox16a.resolve_left h9) (iv_ne0 r19tp (by decide)))).mono (by decide) (by decide)
      refine lv_aload_n hx hb dX12_palms_24 rfl (lv_at hl 0 rfl) ?_
      refine hp_getr hx hb hts IX12 hown hK hw.1 hp0 rfl 20 (by decide) L39 rfl dX12_palms_25 ?_
      refine lv_sipush (v := 200) hx hb dX12_palms_28 (by decide) ?_
      refine lv_iload_n hx hb dX12_palms_31 rfl (lv_at hl 1 rfl) ?_
      refine lv_iadd hx hb dX12_palms_32 ?_
      refine lv_topi (fun x32 ex32 => ?_)
      have bx32 : iv x32 200 209 := iv_add (show iv 200 200 200 from ⟨by decide, by decide⟩) r5fpz ex32 (by decide)
      have qx32 := iv_add_eq (show iv 200 200 200 from ⟨by decide, by decide⟩) r5fpz ex32 (by decide)
      refine lv_iload_n hx hb dX12_palms_33 rfl (lv_at hl 2 rfl) ?_
      refine hp_iast hx hb hK hw hp0said (vp_iv bx32 (by decide)) (hgs _ _ (sP_st bx32 (by decide))) dX12_palms_34 (fun H34 locs34 hw g34 => ?_)
      refine lv_iconst (v := 1) hx hb dX12_palms_35 (by decide) ?_
      exact W.zret (v := 1) hx hb hr (iv_nz (show iv 1 0 1 from ⟨by decide, by decide⟩)) (fun t ht hW => ⟨some (.int 1), rfl, ⟨(1 : Int32), rfl, (show iv 1 0 1 from ⟨by decide, by decide⟩)⟩, by rw [ht]; exact hw.1, hw.2.F ht⟩) hw.2.2.2 dX12_palms_36
    · have r19fp : iv x16 0 0 := (iv_both bx16 (iv_eq (show iv 0 0 0 from ⟨by decide, by decide⟩) c19)).mono (by decide) (by decide)
      exact J22 s.heap [] hw _ (lv_sub hl [] rfl)
abbrev WX12_isSureBy (p : Program) (l : Launch) (e : Env) (s : State) (m : MethodId) (below : List Frame) (meth : Method) (c : Code) (D : hp_D) (T : hp_T) (ap0 : Nat) (xp1 : Int32) (H : Heap) (locs : List Loc) (g : JFrame) : Prop := W p l e (headSpec wsX12_isSureBy ({ frames := 2, cells := 0, slots := 0, locals := 45 })).room s m ([.ref ap0, .int xp1] : List Value).toArray below meth c H locs 0 0 (MQ below (hq_p (fun v => ∃ r : Int32, v = some (.int r) ∧ iv r 0 1)) ([.ref ap0, .int xp1] : List Value).toArray s 0 0 (fun _ => False)) g
set_option maxHeartbeats 4000000 in
set_option maxRecDepth 100000 in
theorem sX12_isSureBy (l : Launch) (D : hp_D) (T : hp_T) (ap0 : Nat) (xp1 : Int32) (Gm : moG) (ip0 : isMo T ap0 Gm) (h8 : ∀ v, gs Gm 2 v → rI 0 8 v) : Met l yX12_isSureBy wsX12_isSureBy ({ frames := 2, cells := 0, slots := 0, locals := 45 }) (hp_Pc D T [.ref ap0, .int xp1] (fun _ => True)) (hq_p (fun v => ∃ r : Int32, v = some (.int r) ∧ iv r 0 1)) 0 0 (fun _ => False) := by
  obtain ⟨ap0tape, ap0sign, ap0len, ap0clause, ap0clauses, ap0read, ap0opn, ap0stack, ap0word, ap0said, ap0was, ap0fitting, ap0sums, ap0sort, ap0sumsBy, ap0oneOf, ap0otherOf, ap0kept, ap0images, ap0acts, ap0iUnd, ap0iFor, ap0iX, ap0made, gok, hp0, hp0tape, hp0sign, hp0len, hp0clause, hp0clauses, hp0read, hp0opn, hp0stack, hp0word, hp0said, hp0was, hp0fitting, hp0sums, hp0sort, hp0sumsBy, hp0oneOf, hp0otherOf, hp0kept, hp0images, hp0acts, hp0iUnd, hp0iFor, hp0iX, hp0made⟩ := id ip0
  have hpx := gok.1
  have gsok := gok.2.2.2.2
  have ggd := gok.2.2.2.1
  refine Met.ofW (cc := cX12_isSureBy) (maxL := 4) (ret := (some .boolean)) (by decide) rfl ?_
  intro p e s m args below meth c s₁ B hml hv
  obtain ⟨rfl, hok, hG, hB⟩ := hv
  have hx := B.exec
  have hb := B.bytes
  have hr := B.returns
  have hts := atoms_spec (ws := wsX12_isSureBy) B.pre
  have hown : s.vm.findClass RX12 = some m.cls := findClass_of_methodNamed B.named
  have hlocks := B.notSynchronized
  have hK := hG.1
  have hw : hp_w D T s s.heap [] := hp_w.rf hok
  have hl := lv_entry ([.ref ap0, .int xp1]) (n := 4) (Nat.le_of_ble_eq_true rfl)
  rw [lg_entry_eq]
  generalize (lg_sl ([.ref ap0, .int xp1]) ++ List.replicate (4 - (lg_sl ([.ref ap0, .int xp1])).length) Slot.unset).toArray = ls at hl ⊢
  have hl : lv_has ls 4 [(0, .ref ap0), (1, .int xp1)] := hl
  show WX12_isSureBy p l e s m below meth c D T ap0 xp1 s.heap [] (F0 m 0 ls [])
  refine lv_iconst (v := 0) hx hb dX12_isSureBy_0 (by decide) ?_
  refine lv_istore_n (lv' := [(2, .int 0), (0, .ref ap0), (1, .int xp1)]) hx hb dX12_isSureBy_1 rfl hl (by decide) rfl (fun ls hl => ?_)
  have J2 : ∀ (n : Nat) (y2_l2 : Int32), (256 - y2_l2.toInt).toNat < n → iv y2_l2 0 256 → ∀ (ls : Array Slot), lv_has ls 4 [(0, .ref ap0), (1, .int xp1), (2, .int y2_l2)] → WX12_isSureBy p l e s m below meth c D T ap0 xp1 s.heap [] (F0 m 2 ls []) := by
    intro n
    induction n with
    | zero => intro y2_l2 hmu2 c2_y2_l2 ls hl; exact absurd hmu2 (Nat.not_lt_zero _)
    | succ n ih2 =>
      intro y2_l2 hmu2 c2_y2_l2 ls hl
      refine lv_iload_n hx hb dX12_isSureBy_2 rfl (lv_at hl 2 rfl) ?_
      refine lv_aload_n hx hb dX12_isSureBy_3 rfl (lv_at hl 0 rfl) ?_
      refine hp_callpi (va_runV (As := []) (rest := [.int y2_l2]) ⟨hx, hb, hml, hown, hts⟩ (sX12_everybody_8 l D T ap0 Gm ip0 h8) (cwV 0 hts gX12_isSureBy_X12_everybody rfl rfl rfl (by decide +kernel) ⟨Nat.le_of_ble_eq_true rfl, Nat.le_of_ble_eq_true rfl⟩) (hp_preV hG hw hp0 rfl trivial) rfl rfl hl.1 rfl (lv_room (Nat.le_of_ble_eq_true rfl)) dX12_isSureBy_4 ⟨Nat.zero_le _, Nat.zero_le _⟩) (fun x4 bx4 => ?_)
      refine lv_icmp_gt (tgt := 57) hx hb dX12_isSureBy_7 (by decide) (fun c7 => ?_) (fun c7 => ?_)
      · have r7tq : iv y2_l2 1 256 := (iv_lt_r c7 bx4 c2_y2_l2).mono (by decide) (by decide)
        refine lv_iconst (v := 1) hx hb dX12_isSureBy_57 (by decide) ?_
        exact W.zret (v := 1) hx hb hr (iv_nz (show iv 1 0 1 from ⟨by decide, by decide⟩)) (fun t ht hW => ⟨some (.int 1), rfl, ⟨(1 : Int32), rfl, (show iv 1 0 1 from ⟨by decide, by decide⟩)⟩, ht⟩) (fun q h => by cases h) dX12_isSureBy_58
      · have r7fp : iv y2_l2 0 255 := (iv_le_l (iv_nlt c7) c2_y2_l2 bx4).mono (by decide) (by decide)
        refine lv_iload_n hx hb dX12_isSureBy_10 rfl (lv_at hl 2 rfl) ?_
        refine lv_iconst (v := 1) hx hb dX12_isSureBy_11 (by decide) ?_
        refine lv_iadd hx hb dX12_isSureBy_12 ?_
        refine lv_topi (fun x12 ex12 => ?_)
        have bx12 : iv x12 1 256 := iv_add r7fp (show iv 1 1 1 from ⟨by decide, by decide⟩) ex12 (by decide)
        have qx12 := iv_add_eq r7fp (show iv 1 1 1 from ⟨by decide, by decide⟩) ex12 (by decide)
        refine lv_istore_n (lv' := [(3, .int x12), (0, .ref ap0), (1, .int xp1), (2, .int y2_l2)]) hx hb dX12_isSureBy_13 rfl hl (by decide) rfl (fun ls hl => ?_)
        have J14 : ∀ (n : Nat) (y14_l3 : Int32), (256 - y14_l3.toInt).toNat < n → iv y2_l2 0 255 → iv y14_l3 1 256 → ∀ (ls : Array Slot), lv_has ls 4 [(0, .ref ap0), (1, .int xp1), (2, .int y2_l2), (3, .int y14_l3)] → WX12_isSureBy p l e s m below meth c D T ap0 xp1 s.heap [] (F0 m 14 ls []) := by
          intro n
          induction n with
          | zero => intro y14_l3 hmu14 c14_y2_l2 c14_y14_l3 ls hl; exact absurd hmu14 (Nat.not_lt_zero _)
          | succ n ih14 =>
            intro y14_l3 hmu14 c14_y2_l2 c14_y14_l3 ls hl
            refine lv_iload_n hx hb dX12_isSureBy_14 rfl (lv_at hl 3 rfl) ?_
            refine lv_aload_n hx hb dX12_isSureBy_15 rfl (lv_at hl 0 rfl) ?_
            refine hp_callpi (va_runV (As := []) (rest := [.int y14_l3]) ⟨hx, hb, hml, hown, hts⟩ (sX12_everybody_8 l D T ap0 Gm ip0 h8) (cwV 0 hts gX12_isSureBy_X12_everybody rfl rfl rfl (by decide +kernel) ⟨Nat.le_of_ble_eq_true rfl, Nat.le_of_ble_eq_true rfl⟩) (hp_preV hG hw hp0 rfl trivial) rfl rfl hl.1 rfl (lv_room (Nat.le_of_ble_eq_true rfl)) dX12_isSureBy_16 ⟨Nat.zero_le _, Nat.zero_le _⟩) (fun x16 bx16 => ?_)
            refine lv_icmp_gt (tgt := 51) hx hb dX12_isSureBy_19 (by decide) (fun c19 => ?_) (fun c19 => ?_)
            · obtain ⟨x51, ex51⟩ : ∃ y : Int32, y = y2_l2 + 1 := ⟨_, rfl⟩
              have bx51 : iv x51 1 256 := iv_add c14_y2_l2 (show iv 1 1 1 from ⟨by decide, by decide⟩) ex51 (by decide)
              have qx51 := iv_add_eq c14_y2_l2 (show iv 1 1 1 from ⟨by decide, by decide⟩) ex51 (by decide)
              refine lv_iinc (v := x51) (lv' := [(2, .int x51), (0, .ref ap0), (1, .int xp1), (3, .int y14_l3)]) hx hb dX12_isSureBy_51 hl (k := 2) rfl (by rw [ex51]; rfl) (by decide) rfl (fun ls hl => ?_)
              refine lv_goto (tgt := 2) hx hb dX12_isSureBy_54 (by decide) ?_
              exact ih2 x51 (mu_up 1 hmu2 (qx51) (by decide) (show iv x51 0 256 from (bx51.mono (by decide) (by decide))).2) (bx51.mono (by decide) (by decide)) _ (lv_sub hl [1, 2, 0] rfl)
            · have r19fp : iv y14_l3 1 255 := (iv_le_l (iv_nlt c19) c14_y14_l3 bx16).mono (by decide) (by decide)
              have r19fq : iv x16 1 255 := (iv_le_r (iv_nlt c19) c14_y14_l3 bx16).mono (by decide) (by decide)
              refine lv_iload_n hx hb dX12_isSureBy_22 rfl (lv_at hl 2 rfl) ?_
              refine hp_callpi (va_runS (As := [.int y2_l2]) (rest := []) ⟨hx, hb, hml, hown, hts⟩ (sX12_bits l D T y2_l2) (va_cwS 1 hts gX12_isSureBy_X12_bits rfl rfl rfl (by decide +kernel) ⟨Nat.le_of_ble_eq_true rfl, Nat.le_of_ble_eq_true rfl⟩) (hp_preS hG hw trivial) rfl rfl hl.1 rfl (lv_room (Nat.le_of_ble_eq_true rfl)) dX12_isSureBy_23 ⟨Nat.zero_le _, Nat.zero_le _⟩) (fun x23 bx23 => ?_)
              refine lv_iload_n hx hb dX12_isSureBy_26 rfl (lv_at hl 3 rfl) ?_
              refine hp_callpi (va_runS (As := [.int y14_l3]) (rest := [.int x23]) ⟨hx, hb, hml, hown, hts⟩ (sX12_bits l D T y14_l3) (va_cwS 1 hts gX12_isSureBy_X12_bits rfl rfl rfl (by decide +kernel) ⟨Nat.le_of_ble_eq_true rfl, Nat.le_of_ble_eq_true rfl⟩) (hp_preS hG hw trivial) rfl rfl hl.1 rfl (lv_room (Nat.le_of_ble_eq_true rfl)) dX12_isSureBy_27 ⟨Nat.zero_le _, Nat.zero_le _⟩) (fun x27 bx27 => ?_)
              have J45 : iv y2_l2 0 255 → iv y14_l3 1 255 → ∀ (ls : Array Slot), lv_has ls 4 [(0, .ref ap0), (1, .int xp1), (2, .int y2_l2), (3, .int y14_l3)] → WX12_isSureBy p l e s m below meth c D T ap0 xp1 s.heap [] (F0 m 45 ls []) := by
                intro c45_y2_l2 c45_y14_l3 ls hl
                obtain ⟨x45, ex45⟩ : ∃ y : Int32, y = y14_l3 + 1 := ⟨_, rfl⟩
                have bx45 : iv x45 2 256 := iv_add c45_y14_l3 (show iv 1 1 1 from ⟨by decide, by decide⟩) ex45 (by decide)
                have qx45 := iv_add_eq c45_y14_l3 (show iv 1 1 1 from ⟨by decide, by decide⟩) ex45 (by decide)
                refine lv_iinc (v := x45) (lv' := [(3, .int x45), (0, .ref ap0), (1, .int xp1), (2, .int y2_l2)]) hx hb dX12_isSureBy_45 hl (k := 3) rfl (by rw [ex45]; rfl) (by decide) rfl (fun ls hl => ?_)
                refine lv_goto (tgt := 14) hx hb dX12_isSureBy_48 (by decide) ?_
                exact ih14 x45 (mu_up 1 hmu14 (qx45) (by decide) (show iv x45 1 256 from (bx45.mono (by decide) (by decide))).2) c45_y2_l2 (bx45.mono (by decide) (by decide)) _ (lv_sub hl [1, 2, 3, 0] rfl)
              refine lv_icmp_eq (tgt := 45) hx hb dX12_isSureBy_30 (by decide) (fun c30 => ?_) (fun c30 => ?_)
              · exact J45 c14_y2_l2 r19fp _ (lv_sub hl [0, 1, 2, 3] rfl)
              · refine lv_aload_n hx hb dX12_isSureBy_33 rfl (lv_at hl 0 rfl) ?_
                refine lv_iload_n hx hb dX12_isSureBy_34 rfl (lv_at hl 2 rfl) ?_
                refine lv_iload_n hx hb dX12_isSureBy_35 rfl (lv_at hl 3 rfl) ?_
                refine lv_iload_n hx hb dX12_isSureBy_36 rfl (lv_at hl 1 rfl) ?_
                refine hp_callpi (va_runV (As := [.int y2_l2, .int y14_l3, .int xp1]) (rest := []) ⟨hx, hb, hml, hown, hts⟩ (sX12_areAlikeAt l D T ap0 y2_l2 y14_l3 xp1 Gm ip0 c14_y2_l2 (r19fp.mono (by decide) (by decide))) (cwV 3 hts gX12_isSureBy_X12_areAlikeAt rfl rfl rfl (by decide +kernel) ⟨Nat.le_of_ble_eq_true rfl, Nat.le_of_ble_eq_true rfl⟩) (hp_preV hG hw hp0 rfl trivial) rfl rfl hl.1 rfl (lv_room (Nat.le_of_ble_eq_true rfl)) dX12_isSureBy_37 ⟨Nat.zero_le _, Nat.zero_le _⟩) (fun x37 bx37 => ?_)
                refine lv_if_eq (tgt := 45) hx hb dX12_isSureBy_40 (by decide) (fun c40 => ?_) (fun c40 => ?_)
                · have r40tp : iv x37 0 0 := (iv_both bx37 (iv_eq (show iv 0 0 0 from ⟨by decide, by decide⟩) c40)).mono (by decide) (by decide)
                  exact J45 c14_y2_l2 r19fp _ (lv_sub hl [0, 1, 2, 3] rfl)
                · have r40fp : iv x37 1 1 := (iv_ne_lo c40 bx37 rfl).mono (by decide) (by decide)
                  refine lv_iconst (v := 0) hx hb dX12_isSureBy_43 (by decide) ?_
                  exact W.zret (v := 0) hx hb hr (iv_nz (show iv 0 0 1 from ⟨by decide, by decide⟩)) (fun t ht hW => ⟨some (.int 0), rfl, ⟨(0 : Int32), rfl, (show iv 0 0 1 from ⟨by decide, by decide⟩)⟩, ht⟩) (fun q h => by cases h) dX12_isSureBy_44
        exact J14 _ x12 (Nat.lt_succ_self _) r7fp bx12 _ (lv_sub hl [1, 2, 3, 0] rfl)
  exact J2 _ (0 : Int32) (Nat.lt_succ_self _) (show iv 0 0 256 from ⟨by decide, by decide⟩) _ (lv_sub hl [1, 2, 0] rfl)
