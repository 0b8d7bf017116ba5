abbrev WX6_canStillBe (p : Program) (l : Launch) (e : Env) (s : State) (m : MethodId) (below : List Frame) (meth : Method) (c : Code) (D : hp_D) (T : hp_T) (ap0 : Nat) (xp1 : Int32) (H : Heap) (locs : List Loc) (g : JFrame) : Prop := W p l e (headSpec wsX6_canStillBe ({ frames := 0, cells := 0, slots := 0, locals := 0 })).room s m ([.ref ap0, .int xp1] : List Value).toArray below meth c H locs 0 0 (MQ below (hq_p (fun v => ∃ r : Int32, v = some (.int r) ∧ iv r 0 1)) ([.ref ap0, .int xp1] : List Value).toArray s 0 0 (fun _ => False)) g
set_option maxHeartbeats 4000000 in
set_option maxRecDepth 100000 in
theorem sX6_canStillBe (l : Launch) (D : hp_D) (T : hp_T) (ap0 : Nat) (xp1 : Int32) (ip0 : isShuns T ap0) (bp1 : iv xp1 0 9) : Met l yX6_canStillBe wsX6_canStillBe ({ frames := 0, cells := 0, slots := 0, locals := 0 }) (hp_Pc D T [.ref ap0, .int xp1] (fun _ => True)) (hq_p (fun v => ∃ r : Int32, v = some (.int r) ∧ iv r 0 1)) 0 0 (fun _ => False) := by
  obtain ⟨ap0le, ap0gr, ap0du, ap0it, ap0op, hp0, hp0le, hp0gr, hp0du, hp0it, hp0op⟩ := id ip0
  refine Met.ofW (cc := cX6_canStillBe) (maxL := 2) (ret := (some .boolean)) (by decide) rfl ?_
  intro p e s m args below meth c s₁ B hml hv
  obtain ⟨rfl, hok, hG, hB⟩ := hv
  have hx := B.exec
  have hb := B.bytes
  have hr := B.returns
  have hts := atoms_spec (ws := wsX6_canStillBe) B.pre
  have hown : s.vm.findClass RX6 = some m.cls := findClass_of_methodNamed B.named
  have hlocks := B.notSynchronized
  have hK := hG.1
  have hw : hp_w D T s s.heap [] := hp_w.rf hok
  have IX6 : ∀ w ∈ wsX60, w ∈ wsX6_canStillBe := by decide +kernel
  have L25 := hts (.fieldLink RX6 25 "PalmCensus$Shuns" "isTold" "[Z") (by decide +kernel)
  have L22 := hts (.fieldLink RX6 22 "PalmCensus$Shuns" "due" "[I") (by decide +kernel)
  have L29 := hts (.fieldLink RX6 29 "PalmCensus$Shuns" "open" "[I") (by decide +kernel)
  have hl := lv_entry ([.ref ap0, .int xp1]) (n := 2) (Nat.le_of_ble_eq_true rfl)
  rw [lg_entry_eq]
  generalize (lg_sl ([.ref ap0, .int xp1]) ++ List.replicate (2 - (lg_sl ([.ref ap0, .int xp1])).length) Slot.unset).toArray = ls at hl ⊢
  have hl : lv_has ls 2 [(0, .ref ap0), (1, .int xp1)] := hl
  show WX6_canStillBe p l e s m below meth c D T ap0 xp1 s.heap [] (F0 m 0 ls [])
  refine lv_aload_n hx hb dX6_canStillBe_0 rfl (lv_at hl 0 rfl) ?_
  refine hp_getr hx hb hts IX6 hown hK hw.1 hp0 rfl 4 (by decide) L25 rfl dX6_canStillBe_1 ?_
  refine lv_iload_n hx hb dX6_canStillBe_4 rfl (lv_at hl 1 rfl) ?_
  refine hp_zaldA hx hb hK hw.1 hp0it (vp_iv bp1 (by decide)) dX6_canStillBe_5 (fun x5 => ?_)
  have J38 : ∀ (y38_s0 : Int32), iv y38_s0 0 1 → ∀ (ls : Array Slot), lv_has ls 2 [] → WX6_canStillBe p l e s m below meth c D T ap0 xp1 s.heap [] (F0 m 38 ls [.int y38_s0]) := by
    intro y38_s0 c38_y38_s0 ls hl
    exact W.zret (v := y38_s0) hx hb hr (iv_nz c38_y38_s0) (fun t ht hW => ⟨some (.int y38_s0), rfl, ⟨y38_s0, rfl, c38_y38_s0⟩, ht⟩) (fun q h => by cases h) dX6_canStillBe_38
  have J33 : ∀ (ls : Array Slot), lv_has ls 2 [] → WX6_canStillBe p l e s m below meth c D T ap0 xp1 s.heap [] (F0 m 33 ls []) := by
    intro ls hl
    refine lv_iconst (v := 1) hx hb dX6_canStillBe_33 (by decide) ?_
    refine lv_goto (tgt := 38) hx hb dX6_canStillBe_34 (by decide) ?_
    exact J38 (1 : Int32) (show iv 1 0 1 from ⟨by decide, by decide⟩) _ (lv_sub hl [] rfl)
  refine lv_if_eq (tgt := 33) hx hb dX6_canStillBe_6 (by decide) (fun c6 => ?_) (fun c6 => ?_)
  · have r6tp : iv x5 0 0 := (iv_both (iv_any x5) (iv_eq (show iv 0 0 0 from ⟨by decide, by decide⟩) c6)).mono (by decide) (by decide)
    exact J33 _ (lv_sub hl [] rfl)
  · refine lv_aload_n hx hb dX6_canStillBe_9 rfl (lv_at hl 0 rfl) ?_
    refine hp_getr hx hb hts IX6 hown hK hw.1 hp0 rfl 3 (by decide) L22 rfl dX6_canStillBe_10 ?_
    refine lv_iload_n hx hb dX6_canStillBe_13 rfl (lv_at hl 1 rfl) ?_
    refine hp_ialdA hx hb hK hw.1 hp0du (vp_iv bp1 (by decide)) dX6_canStillBe_14 (fun x14 => ?_)
    have J37 : ∀ (ls : Array Slot), lv_has ls 2 [] → WX6_canStillBe p l e s m below meth c D T ap0 xp1 s.heap [] (F0 m 37 ls []) := by
      intro ls hl
      refine lv_iconst (v := 0) hx hb dX6_canStillBe_37 (by decide) ?_
      exact J38 (0 : Int32) (show iv 0 0 1 from ⟨by decide, by decide⟩) _ (lv_sub hl [] rfl)
    refine lv_if_lt (tgt := 37) hx hb dX6_canStillBe_15 (by decide) (fun c15 => ?_) (fun c15 => ?_)
    · have r15tp : iv x14 (-2147483648) (-1) := (iv_lt_l c15 (iv_any x14) (show iv 0 0 0 from ⟨by decide, by decide⟩)).mono (by decide) (by decide)
      exact J37 _ (lv_sub hl [] rfl)
    · have r15fq : iv x14 0 2147483647 := (iv_le_r (iv_nlt c15) (show iv 0 0 0 from ⟨by decide, by decide⟩) (iv_any x14)).mono (by decide) (by decide)
      refine lv_aload_n hx hb dX6_canStillBe_18 rfl (lv_at hl 0 rfl) ?_
      refine hp_getr hx hb hts IX6 hown hK hw.1 hp0 rfl 3 (by decide) L22 rfl dX6_canStillBe_19 ?_
      refine lv_iload_n hx hb dX6_canStillBe_22 rfl (lv_at hl 1 rfl) ?_
      refine hp_ialdA hx hb hK hw.1 hp0du (vp_iv bp1 (by decide)) dX6_canStillBe_23 (fun x23 => ?_)
      refine lv_aload_n hx hb dX6_canStillBe_24 rfl (lv_at hl 0 rfl) ?_
      refine hp_getr hx hb hts IX6 hown hK hw.1 hp0 rfl 5 (by decide) L29 rfl dX6_canStillBe_25 ?_
      refine lv_iload_n hx hb dX6_canStillBe_28 rfl (lv_at hl 1 rfl) ?_
      refine hp_ialdA hx hb hK hw.1 hp0op (vp_iv bp1 (by decide)) dX6_canStillBe_29 (fun x29 => ?_)
      refine lv_icmp_gt (tgt := 37) hx hb dX6_canStillBe_30 (by decide) (fun c30 => ?_) (fun c30 => ?_)
      · have r30tp : iv x29 (-2147483648) 2147483646 := (iv_lt_l c30 (iv_any x29) (iv_any x23)).mono (by decide) (by decide)
        have r30tq : iv x23 (-2147483647) 2147483647 := (iv_lt_r c30 (iv_any x29) (iv_any x23)).mono (by decide) (by decide)
        exact J37 _ (lv_sub hl [] rfl)
      · exact J33 _ (lv_sub hl [] rfl)
abbrev WX6_numberOf (p : Program) (l : Launch) (e : Env) (s : State) (m : MethodId) (below : List Frame) (meth : Method) (c : Code) (D : hp_D) (T : hp_T) (ap0 : Nat) (xp1 : Int32) (xp2 : Int32) (H : Heap) (locs : List Loc) (g : JFrame) : Prop := W p l e (headSpec wsX6_numberOf ({ frames := 0, cells := 0, slots := 0, locals := 0 })).room s m ([.ref ap0, .int xp1, .int xp2] : List Value).toArray below meth c H locs 0 0 (MQ below (hq_p (fun v => ∃ r : Int32, v = some (.int r) ∧ iv r (-1) 15)) ([.ref ap0, .int xp1, .int xp2] : List Value).toArray s 0 0 (fun _ => False)) g
set_option maxHeartbeats 4000000 in
set_option maxRecDepth 100000 in
theorem sX6_numberOf (l : Launch) (D : hp_D) (T : hp_T) (ap0 : Nat) (xp1 : Int32) (xp2 : Int32) (ip0 : isShuns T ap0) : Met l yX6_numberOf wsX6_numberOf ({ frames := 0, cells := 0, slots := 0, locals := 0 }) (hp_Pc D T [.ref ap0, .int xp1, .int xp2] (fun _ => True)) (hq_p (fun v => ∃ r : Int32, v = some (.int r) ∧ iv r (-1) 15)) 0 0 (fun _ => False) := by
  obtain ⟨ap0le, ap0gr, ap0du, ap0it, ap0op, hp0, hp0le, hp0gr, hp0du, hp0it, hp0op⟩ := id ip0
  refine Met.ofW (cc := cX6_numberOf) (maxL := 4) (ret := (some .int)) (by decide) rfl ?_
  intro p e s m args below meth c s₁ B hml hv
  obtain ⟨rfl, hok, hG, hB⟩ := hv
  have hx := B.exec
  have hb := B.bytes
  have hr := B.returns
  have hts := atoms_spec (ws := wsX6_numberOf) B.pre
  have hown : s.vm.findClass RX6 = some m.cls := findClass_of_methodNamed B.named
  have hlocks := B.notSynchronized
  have hK := hG.1
  have hw : hp_w D T s s.heap [] := hp_w.rf hok
  have IX6 : ∀ w ∈ wsX60, w ∈ wsX6_numberOf := by decide +kernel
  have L9 := hts (.fieldLink RX6 9 "PalmCensus$Shuns" "twos" "I") (by decide +kernel)
  have L15 := hts (.fieldLink RX6 15 "PalmCensus$Shuns" "lesser" "[I") (by decide +kernel)
  have L19 := hts (.fieldLink RX6 19 "PalmCensus$Shuns" "greater" "[I") (by decide +kernel)
  have hl := lv_entry ([.ref ap0, .int xp1, .int xp2]) (n := 4) (Nat.le_of_ble_eq_true rfl)
  rw [lg_entry_eq]
  generalize (lg_sl ([.ref ap0, .int xp1, .int xp2]) ++ List.replicate (4 - (lg_sl ([.ref ap0, .int xp1, .int xp2])).length) Slot.unset).toArray = ls at hl ⊢
  have hl : lv_has ls 4 [(0, .ref ap0), (1, .int xp1), (2, .int xp2)] := hl
  show WX6_numberOf p l e s m below meth c D T ap0 xp1 xp2 s.heap [] (F0 m 0 ls [])
  refine lv_iconst (v := 0) hx hb dX6_numberOf_0 (by decide) ?_
  refine lv_istore_n (lv' := [(3, .int 0), (0, .ref ap0), (1, .int xp1), (2, .int xp2)]) hx hb dX6_numberOf_1 rfl hl (by decide) rfl (fun ls hl => ?_)
  have J2 : ∀ (n : Nat) (y2_l3 : Int32), (16 - y2_l3.toInt).toNat < n → iv y2_l3 0 16 → ∀ (ls : Array Slot), lv_has ls 4 [(0, .ref ap0), (1, .int xp1), (2, .int xp2), (3, .int y2_l3)] → WX6_numberOf p l e s m below meth c D T ap0 xp1 xp2 s.heap [] (F0 m 2 ls []) := by
    intro n
    induction n with
    | zero => intro y2_l3 hmu2 c2_y2_l3 ls hl; exact absurd hmu2 (Nat.not_lt_zero _)
    | succ n ih2 =>
      intro y2_l3 hmu2 c2_y2_l3 ls hl
      refine lv_iload_n hx hb dX6_numberOf_2 rfl (lv_at hl 3 rfl) ?_
      refine lv_aload_n hx hb dX6_numberOf_3 rfl (lv_at hl 0 rfl) ?_
      refine hp_geti hx hb hts IX6 hown hK hw.1 hp0 rfl 0 (by decide) L9 rfl dX6_numberOf_4 (fun x4 bx4 fx4 => ?_)
      refine lv_icmp_ge (tgt := 38) hx hb dX6_numberOf_7 (by decide) (fun c7 => ?_) (fun c7 => ?_)
      · refine lv_iconst (v := (-1)) hx hb dX6_numberOf_38 (by decide) ?_
        exact W.iret (v := (-1)) hx hb hr (fun t ht hW => ⟨some (.int (-1)), rfl, ⟨((-1) : Int32), rfl, (show iv (-1) (-1) 15 from ⟨by decide, by decide⟩)⟩, ht⟩) (fun q h => by cases h) dX6_numberOf_39
      · have r7fp : iv y2_l3 0 15 := (iv_lt_l (iv_nle c7) c2_y2_l3 bx4).mono (by decide) (by decide)
        have r7fq : iv x4 1 16 := (iv_lt_r (iv_nle c7) c2_y2_l3 bx4).mono (by decide) (by decide)
        refine lv_aload_n hx hb dX6_numberOf_10 rfl (lv_at hl 0 rfl) ?_
        refine hp_getr hx hb hts IX6 hown hK hw.1 hp0 rfl 1 (by decide) L15 rfl dX6_numberOf_11 ?_
        refine lv_iload_n hx hb dX6_numberOf_14 rfl (lv_at hl 3 rfl) ?_
        refine hp_ialdI hx hb hK hw.1 hp0le (vp_iv r7fp (by decide)) dX6_numberOf_15 (fun x15 bx15 => ?_)
        refine lv_iload_n hx hb dX6_numberOf_16 rfl (lv_at hl 1 rfl) ?_
        have J32 : iv y2_l3 0 15 → iv x4 1 16 → ∀ (ls : Array Slot), lv_has ls 4 [(0, .ref ap0), (1, .int xp1), (2, .int xp2), (3, .int y2_l3)] → WX6_numberOf p l e s m below meth c D T ap0 xp1 xp2 s.heap [] (F0 m 32 ls []) := by
          intro c32_y2_l3 c32_x4 ls hl
          obtain ⟨x32, ex32⟩ : ∃ y : Int32, y = y2_l3 + 1 := ⟨_, rfl⟩
          have bx32 : iv x32 1 16 := iv_add c32_y2_l3 (show iv 1 1 1 from ⟨by decide, by decide⟩) ex32 (by decide)
          have qx32 := iv_add_eq c32_y2_l3 (show iv 1 1 1 from ⟨by decide, by decide⟩) ex32 (by decide)
          refine lv_iinc (v := x32) (lv' := [(3, .int x32), (0, .ref ap0), (1, .int xp1), (2, .int xp2)]) hx hb dX6_numberOf_32 hl (k := 3) rfl (by rw [ex32]; rfl) (by decide) rfl (fun ls hl => ?_)
          refine lv_goto (tgt := 2) hx hb dX6_numberOf_35 (by decide) ?_
          exact ih2 x32 (mu_up 1 hmu2 (qx32) (by decide) (show iv x32 0 16 from (bx32.mono (by decide) (by decide))).2) (bx32.mono (by decide) (by decide)) _ (lv_sub hl [1, 2, 3, 0] rfl)
        refine lv_icmp_ne (tgt := 32) hx hb dX6_numberOf_17 (by decide) (fun c17 => ?_) (fun c17 => ?_)
        · exact J32 r7fp r7fq _ (lv_sub hl [0, 1, 2, 3] rfl)
        · have r17fq : iv xp1 0 9 := (iv_both (iv_any xp1) (iv_eq bx15 c17.symm)).mono (by decide) (by decide)
          refine lv_aload_n hx hb dX6_numberOf_20 rfl (lv_at hl 0 rfl) ?_
          refine hp_getr hx hb hts IX6 hown hK hw.1 hp0 rfl 2 (by decide) L19 rfl dX6_numberOf_21 ?_
          refine lv_iload_n hx hb dX6_numberOf_24 rfl (lv_at hl 3 rfl) ?_
          refine hp_ialdI hx hb hK hw.1 hp0gr (vp_iv r7fp (by decide)) dX6_numberOf_25 (fun x25 bx25 => ?_)
          refine lv_iload_n hx hb dX6_numberOf_26 rfl (lv_at hl 2 rfl) ?_
          refine lv_icmp_ne (tgt := 32) hx hb dX6_numberOf_27 (by decide) (fun c27 => ?_) (fun c27 => ?_)
          · exact J32 r7fp r7fq _ (lv_sub hl [0, 1, 2, 3] rfl)
          · have r27fq : iv xp2 0 9 := (iv_both (iv_any xp2) (iv_eq bx25 c27.symm)).mono (by decide) (by decide)
            refine lv_iload_n hx hb dX6_numberOf_30 rfl (lv_at hl 3 rfl) ?_
            exact W.iret (v := y2_l3) hx hb hr (fun t ht hW => ⟨some (.int y2_l3), rfl, ⟨y2_l3, rfl, (r7fp.mono (by decide) (by decide))⟩, ht⟩) (fun q h => by cases h) dX6_numberOf_31
  exact J2 _ (0 : Int32) (Nat.lt_succ_self _) (show iv 0 0 16 from ⟨by decide, by decide⟩) _ (lv_sub hl [1, 2, 3, 0] rfl)
abbrev WX6_learn (p : Program) (l : Launch) (e : Env) (s : State) (m : MethodId) (below : List Frame) (meth : Method) (c : Code) (D : hp_D) (T : hp_T) (ap0 : Nat) (ap1 : Nat) (H : Heap) (locs : List Loc) (g : JFrame) : Prop := W p l e (headSpec wsX6_learn ({ frames := 3, cells := 0, slots := 0, locals := 66 })).room s m ([.ref ap0, .ref ap1] : List Value).toArray below meth c H locs 0 0 (MQ below (hq_e D T (fun v _ _ => v = none ∧ True)) ([.ref ap0, .ref ap1] : List Value).toArray s 0 0 (hp_F T)) g
set_option maxHeartbeats 4000000 in
set_option maxRecDepth 100000 in
theorem sX6_learn (l : Launch) (D : hp_D) (T : hp_T) (ap0 : Nat) (ap1 : Nat) (ip0 : isShuns T ap0) (pxp1 : Value → Prop) (ip1 : isMemory T ap1 pxp1) : Met l yX6_learn wsX6_learn ({ frames := 3, cells := 0, slots := 0, locals := 66 }) (hp_Pc D T [.ref ap0, .ref ap1] (fun _ => True)) (hq_e D T (fun v _ _ => v = none ∧ True)) 0 0 (hp_F T) := by
  obtain ⟨ap0le, ap0gr, ap0du, ap0it, ap0op, hp0, hp0le, hp0gr, hp0du, hp0it, hp0op⟩ := id ip0
  obtain ⟨ap1tw, ap1tg, ap1th, ap1ts, ap1pm, ap1ak, ap1ao, ap1ah, ap1aw, hp1, ip1tw, hp1tg, hp1th, hp1ts, hp1pm, hp1ak, hp1ao, hp1ah, hp1aw⟩ := id ip1
  obtain ⟨ap1twkin, ap1twpl, ap1twcr, hp1tw, hp1twkin, hp1twpl, hp1twcr⟩ := id ip1tw
  refine Met.ofW (cc := cX6_learn) (maxL := 6) (ret := none) (by decide) rfl ?_
  intro p e s m args below meth c s₁ B hml hv
  obtain ⟨rfl, hok, hG, hB⟩ := hv
  have hx := B.exec
  have hb := B.bytes
  have hr := B.returns
  have hts := atoms_spec (ws := wsX6_learn) B.pre
  have hown : s.vm.findClass RX6 = some m.cls := findClass_of_methodNamed B.named
  have hlocks := B.notSynchronized
  have hK := hG.1
  have hw : hp_w D T s s.heap [] := hp_w.rf hok
  have IX1 : ∀ w ∈ wsX10, w ∈ wsX6_learn := by decide +kernel
  have IX6 : ∀ w ∈ wsX60, w ∈ wsX6_learn := by decide +kernel
  have IX8 : ∀ w ∈ wsX80, w ∈ wsX6_learn := by decide +kernel
  have L32 := hts (.fieldLink RX6 32 "PalmCensus$Memory" "town" "LPalmCensus$Town;") (by decide +kernel)
  have L9 := hts (.fieldLink RX6 9 "PalmCensus$Shuns" "twos" "I") (by decide +kernel)
  have L22 := hts (.fieldLink RX6 22 "PalmCensus$Shuns" "due" "[I") (by decide +kernel)
  have L48 := hts (.fieldLink RX6 48 "PalmCensus$Memory" "palms" "[I") (by decide +kernel)
  have L25 := hts (.fieldLink RX6 25 "PalmCensus$Shuns" "isTold" "[Z") (by decide +kernel)
  have L29 := hts (.fieldLink RX6 29 "PalmCensus$Shuns" "open" "[I") (by decide +kernel)
  have L56 := hts (.fieldLink RX6 56 "PalmCensus$Town" "people" "I") (by decide +kernel)
  have L15 := hts (.fieldLink RX6 15 "PalmCensus$Shuns" "lesser" "[I") (by decide +kernel)
  have L19 := hts (.fieldLink RX6 19 "PalmCensus$Shuns" "greater" "[I") (by decide +kernel)
  have hl := lv_entry ([.ref ap0, .ref ap1]) (n := 6) (Nat.le_of_ble_eq_true rfl)
  rw [lg_entry_eq]
  generalize (lg_sl ([.ref ap0, .ref ap1]) ++ List.replicate (6 - (lg_sl ([.ref ap0, .ref ap1])).length) Slot.unset).toArray = ls at hl ⊢
  have hl : lv_has ls 6 [(0, .ref ap0), (1, .ref ap1)] := hl
  show WX6_learn p l e s m below meth c D T ap0 ap1 s.heap [] (F0 m 0 ls [])
  refine lv_aload_n hx hb dX6_learn_0 rfl (lv_at hl 1 rfl) ?_
  refine hp_getr hx hb hts IX1 hown hK hw.1 hp1 rfl 0 (by decide) L32 rfl dX6_learn_1 ?_
  refine lv_astore_n (lv' := [(2, .ref ap1tw), (0, .ref ap0), (1, .ref ap1)]) hx hb dX6_learn_4 rfl hl (by decide) rfl (fun ls hl => ?_)
  refine lv_aload_n hx hb dX6_learn_5 rfl (lv_at hl 1 rfl) ?_
  refine lv_iconst (v := 0) hx hb dX6_learn_6 (by decide) ?_
  refine hp_put hx hb hts IX6 tyX6 tyX6_ok nmX6 hown hK hw hp0 rfl 0 (by decide) L9 rfl rfl ⟨_, rfl, (show iv 0 0 16 from ⟨by decide, by decide⟩)⟩ rfl rfl dX6_learn_7 (fun H7 locs7 hw f7n g7 => ?_)
  refine lv_iconst (v := 0) hx hb dX6_learn_10 (by decide) ?_
  refine lv_istore_n (lv' := [(3, .int 0), (2, .ref ap1tw), (0, .ref ap0), (1, .ref ap1)]) hx hb dX6_learn_11 rfl hl (by decide) rfl (fun ls hl => ?_)
  have J12 : ∀ (n : Nat) (y12_l3 : Int32), (10 - y12_l3.toInt).toNat < n → iv y12_l3 0 10 → ∀ (H : Heap) (locs : List Loc), hp_w D T s H locs → ∀ (ls : Array Slot), lv_has ls 6 [(0, .ref ap0), (1, .ref ap1), (2, .ref ap1tw), (3, .int y12_l3)] → WX6_learn p l e s m below meth c D T ap0 ap1 H locs (F0 m 12 ls []) := by
    intro n
    induction n with
    | zero => intro y12_l3 hmu12 c12_y12_l3 H12 locs12 hw ls hl; exact absurd hmu12 (Nat.not_lt_zero _)
    | succ n ih12 =>
      intro y12_l3 hmu12 c12_y12_l3 H12 locs12 hw ls hl
      refine lv_iload_n hx hb dX6_learn_12 rfl (lv_at hl 3 rfl) ?_
      refine lv_bipush (v := 10) hx hb dX6_learn_13 (by decide) ?_
      refine lv_icmp_ge (tgt := 157) hx hb dX6_learn_15 (by decide) (fun c15 => ?_) (fun c15 => ?_)
      · have r15tq : iv y12_l3 10 10 := (iv_le_r c15 (show iv 10 10 10 from ⟨by decide, by decide⟩) c12_y12_l3).mono (by decide) (by decide)
        exact W.vret hx hb hr (fun t ht hW => ⟨none, rfl, ⟨rfl, trivial⟩, by rw [ht]; exact hw.1, hw.2.F ht⟩) hw.2.2.2 dX6_learn_157
      · have r15fp : iv y12_l3 0 9 := (iv_lt_l (iv_nle c15) c12_y12_l3 (show iv 10 10 10 from ⟨by decide, by decide⟩)).mono (by decide) (by decide)
        refine lv_aload_n hx hb dX6_learn_18 rfl (lv_at hl 2 rfl) ?_
        refine lv_iload_n hx hb dX6_learn_19 rfl (lv_at hl 3 rfl) ?_
        refine hp_callpi (va_runV (As := [.int y12_l3]) (rest := []) ⟨hx, hb, hml, hown, hts⟩ (sX8_isPerson l D T ap1tw y12_l3 ip1tw) (cwV 1 hts gX6_learn_X8_isPerson rfl rfl rfl (by decide +kernel) ⟨Nat.le_of_ble_eq_true rfl, Nat.le_of_ble_eq_true rfl⟩) (hp_preV hG hw hp1tw rfl trivial) rfl rfl hl.1 rfl (lv_room (Nat.le_of_ble_eq_true rfl)) dX6_learn_20 ⟨Nat.zero_le _, Nat.zero_le _⟩) (fun x20 bx20 => ?_)
        obtain ⟨bx20, ix20_0⟩ := bx20
        have J35 : ∀ (y35_s0 : Int32), iv y12_l3 0 9 → ∀ (H : Heap) (locs : List Loc), hp_w D T s H locs → ∀ (ls : Array Slot), lv_has ls 6 [(0, .ref ap0), (1, .ref ap1), (2, .ref ap1tw), (3, .int y12_l3)] → WX6_learn p l e s m below meth c D T ap0 ap1 H locs (F0 m 35 ls [.int y35_s0]) := by
          intro y35_s0 c35_y12_l3 H35 locs35 hw ls hl
          refine lv_istore (lv' := [(4, .int y35_s0), (0, .ref ap0), (1, .ref ap1), (2, .ref ap1tw), (3, .int y12_l3)]) hx hb dX6_learn_35 hl (by decide) rfl (fun ls hl => ?_)
          refine lv_aload_n hx hb dX6_learn_37 rfl (lv_at hl 1 rfl) ?_
          refine hp_getr hx hb hts IX6 hown hK hw.1 hp0 rfl 3 (by decide) L22 rfl dX6_learn_38 ?_
          refine lv_iload_n hx hb dX6_learn_41 rfl (lv_at hl 4 rfl) ?_
          refine lv_aload_n hx hb dX6_learn_42 rfl (lv_at hl 2 rfl) ?_
          refine hp_getr hx hb hts IX1 hown hK hw.1 hp1 rfl 7 (by decide) L48 rfl dX6_learn_43 ?_
          refine lv_iload_n hx hb dX6_learn_46 rfl (lv_at hl 4 rfl) ?_
          refine hp_ialdA hx hb hK hw.1 hp1pm (vp_iv c35_y12_l3 (by decide)) dX6_learn_47 (fun x47 => ?_)
          refine hp_iast hx hb hK hw hp0du (vp_iv c35_y12_l3 (by decide)) ⟨_, rfl⟩ dX6_learn_48 (fun H48 locs48 hw g48 => ?_)
          refine lv_aload_n hx hb dX6_learn_49 rfl (lv_at hl 1 rfl) ?_
          refine hp_getr hx hb hts IX6 hown hK hw.1 hp0 rfl 4 (by decide) L25 rfl dX6_learn_50 ?_
          refine lv_iload_n hx hb dX6_learn_53 rfl (lv_at hl 4 rfl) ?_
          refine lv_aload_n hx hb dX6_learn_54 rfl (lv_at hl 2 rfl) ?_
          refine hp_getr hx hb hts IX1 hown hK hw.1 hp1 rfl 7 (by decide) L48 rfl dX6_learn_55 ?_
          refine lv_iload_n hx hb dX6_learn_58 rfl (lv_at hl 4 rfl) ?_
          refine hp_ialdA hx hb hK hw.1 hp1pm (vp_iv c35_y12_l3 (by decide)) dX6_learn_59 (fun x59 => ?_)
          refine lv_iconst (v := (-1)) hx hb dX6_learn_60 (by decide) ?_
          have J69 : ∀ (y69_s2 : Int32), iv y12_l3 0 9 → iv y69_s2 0 1 → ∀ (H : Heap) (locs : List Loc), hp_w D T s H locs → ∀ (ls : Array Slot), lv_has ls 6 [(0, .ref ap0), (1, .ref ap1), (2, .ref ap1tw), (3, .int y12_l3), (4, .int y35_s0)] → WX6_learn p l e s m below meth c D T ap0 ap1 H locs (F0 m 69 ls [.int y69_s2, .int y12_l3, .ref ap0it]) := by
            intro y69_s2 c69_y12_l3 c69_y69_s2 H69 locs69 hw ls hl
            refine hp_zastA hx hb hK hw hp0it (vp_iv c69_y12_l3 (by decide)) dX6_learn_69 (fun H69 locs69 hw g69 => ?_)
            refine lv_aload_n hx hb dX6_learn_70 rfl (lv_at hl 0 rfl) ?_
            refine hp_getr hx hb hts IX6 hown hK hw.1 hp0 rfl 5 (by decide) L29 rfl dX6_learn_71 ?_
            refine lv_iload_n hx hb dX6_learn_74 rfl (lv_at hl 3 rfl) ?_
            refine lv_iload hx hb dX6_learn_75 (lv_at hl 4 rfl) ?_
            refine hp_callpi (va_runS (As := [.int y35_s0]) (rest := [.int y12_l3, .ref ap0op]) ⟨hx, hb, hml, hown, hts⟩ (sJ6_bitCount_0f7a4 l D T y35_s0) (va_cwS 1 hts gX6_learn_J6_bitCount_0f7a4 rfl rfl rfl (by decide +kernel) ⟨Nat.le_of_ble_eq_true rfl, Nat.le_of_ble_eq_true rfl⟩) (hp_preS hG hw trivial) rfl rfl hl.1 rfl (lv_room (Nat.le_of_ble_eq_true rfl)) dX6_learn_77 ⟨Nat.zero_le _, Nat.zero_le _⟩) (fun x77 bx77 => ?_)
            refine hp_iast hx hb hK hw hp0op (vp_iv c69_y12_l3 (by decide)) ⟨_, rfl⟩ dX6_learn_80 (fun H80 locs80 hw g80 => ?_)
            refine lv_iload_n hx hb dX6_learn_81 rfl (lv_at hl 3 rfl) ?_
            refine lv_iconst (v := 1) hx hb dX6_learn_82 (by decide) ?_
            refine lv_iadd hx hb dX6_learn_83 ?_
            refine lv_topi (fun x83 ex83 => ?_)
            have bx83 : iv x83 1 10 := iv_add c69_y12_l3 (show iv 1 1 1 from ⟨by decide, by decide⟩) ex83 (by decide)
            have qx83 := iv_add_eq c69_y12_l3 (show iv 1 1 1 from ⟨by decide, by decide⟩) ex83 (by decide)
            refine lv_istore (lv' := [(5, .int x83), (0, .ref ap0), (1, .ref ap1), (2, .ref ap1tw), (3, .int y12_l3), (4, .int y35_s0)]) hx hb dX6_learn_84 hl (by decide) rfl (fun ls hl => ?_)
            have J86 : ∀ (n : Nat) (y86_l5 : Int32), (10 - y86_l5.toInt).toNat < n → iv y12_l3 0 9 → iv y86_l5 1 10 → ∀ (H : Heap) (locs : List Loc), hp_w D T s H locs → ∀ (ls : Array Slot), lv_has ls 6 [(0, .ref ap0), (1, .ref ap1), (2, .ref ap1tw), (3, .int y12_l3), (4, .int y35_s0), (5, .int y86_l5)] → WX6_learn p l e s m below meth c D T ap0 ap1 H locs (F0 m 86 ls []) := by
              intro n
              induction n with
              | zero => intro y86_l5 hmu86 c86_y12_l3 c86_y86_l5 H86 locs86 hw ls hl; exact absurd hmu86 (Nat.not_lt_zero _)
              | succ n ih86 =>
                intro y86_l5 hmu86 c86_y12_l3 c86_y86_l5 H86 locs86 hw ls hl
                refine lv_iload hx hb dX6_learn_86 (lv_at hl 5 rfl) ?_
                refine lv_aload_n hx hb dX6_learn_88 rfl (lv_at hl 2 rfl) ?_
                refine hp_geti hx hb hts IX8 hown hK hw.1 hp1tw rfl 2 (by decide) L56 rfl dX6_learn_89 (fun x89 bx89 fx89 => ?_)
                refine lv_icmp_ge (tgt := 151) hx hb dX6_learn_92 (by decide) (fun c92 => ?_) (fun c92 => ?_)
                · obtain ⟨x151, ex151⟩ : ∃ y : Int32, y = y12_l3 + 1 := ⟨_, rfl⟩
                  have bx151 : iv x151 1 10 := iv_add c86_y12_l3 (show iv 1 1 1 from ⟨by decide, by decide⟩) ex151 (by decide)
                  have qx151 := iv_add_eq c86_y12_l3 (show iv 1 1 1 from ⟨by decide, by decide⟩) ex151 (by decide)
                  refine lv_iinc (v := x151) (lv' := [(3, .int x151), (0, .ref ap0), (1, .ref ap1), (2, .ref ap1tw), (4, .int y35_s0), (5, .int y86_l5)]) hx hb dX6_learn_151 hl (k := 3) rfl (by rw [ex151]; rfl) (by decide) rfl (fun ls hl => ?_)
                  refine lv_goto (tgt := 12) hx hb dX6_learn_154 (by decide) ?_
                  exact ih12 x151 (mu_up 1 hmu12 (qx151) (by decide) (show iv x151 0 10 from (bx151.mono (by decide) (by decide))).2) (bx151.mono (by decide) (by decide)) H86 locs86 hw _ (lv_sub hl [1, 2, 3, 0] rfl)
                · have r92fp : iv y86_l5 1 9 := (iv_lt_l (iv_nle c92) c86_y86_l5 bx89).mono (by decide) (by decide)
                  have r92fq : iv x89 2 10 := (iv_lt_r (iv_nle c92) c86_y86_l5 bx89).mono (by decide) (by decide)
                  refine lv_iload hx hb dX6_learn_95 (lv_at hl 4 rfl) ?_
                  refine lv_iload hx hb dX6_learn_97 (lv_at hl 5 rfl) ?_
                  refine lv_ishr hx hb dX6_learn_99 ?_
                  refine lv_topi (fun x99 ex99 => ?_)
                  refine lv_iconst (v := 1) hx hb dX6_learn_100 (by decide) ?_
                  refine lv_iand hx hb dX6_learn_101 ?_
                  refine lv_topi (fun x101 ex101 => ?_)
                  have bx101 : iv x101 0 1 := iv_and_r (show iv 1 0 1 from ⟨by decide, by decide⟩) ex101
                  have J145 : iv y12_l3 0 9 → iv y86_l5 1 9 → ∀ (H : Heap) (locs : List Loc), hp_w D T s H locs → ∀ (ls : Array Slot), lv_has ls 6 [(0, .ref ap0), (1, .ref ap1), (2, .ref ap1tw), (3, .int y12_l3), (4, .int y35_s0), (5, .int y86_l5)] → WX6_learn p l e s m below meth c D T ap0 ap1 H locs (F0 m 145 ls []) := by
                    intro c145_y12_l3 c145_y86_l5 H145 locs145 hw ls hl
                    obtain ⟨x145, ex145⟩ : ∃ y : Int32, y = y86_l5 + 1 := ⟨_, rfl⟩
                    have bx145 : iv x145 2 10 := iv_add c145_y86_l5 (show iv 1 1 1 from ⟨by decide, by decide⟩) ex145 (by decide)
                    have qx145 := iv_add_eq c145_y86_l5 (show iv 1 1 1 from ⟨by decide, by decide⟩) ex145 (by decide)
                    refine lv_iinc (v := x145) (lv' := [(5, .int x145), (0, .ref ap0), (1, .ref ap1), (2, .ref ap1tw), (3, .int y12_l3), (4, .int y35_s0)]) hx hb dX6_learn_145 hl (k := 5) rfl (by rw [ex145]; rfl) (by decide) rfl (fun ls hl => ?_)
                    refine lv_goto (tgt := 86) hx hb dX6_learn_148 (by decide) ?_
                    exact ih86 x145 (mu_up 1 hmu86 (qx145) (by decide) (show iv x145 1 10 from (bx145.mono (by decide) (by decide))).2) c145_y12_l3 (bx145.mono (by decide) (by decide)) H145 locs145 hw _ (lv_sub hl [1, 2, 3, 4, 5, 0] rfl)
                  refine lv_if_eq (tgt := 145) hx hb dX6_learn_102 (by decide) (fun c102 => ?_) (fun c102 => ?_)
                  · have r102tp : iv x101 0 0 := (iv_both bx101 (iv_eq (show iv 0 0 0 from ⟨by decide, by decide⟩) c102)).mono (by decide) (by decide)
                    exact J145 c86_y12_l3 r92fp H86 locs86 hw _ (lv_sub hl [0, 1, 2, 3, 4, 5] rfl)
                  · have r102fp : iv x101 1 1 := (iv_ne_lo c102 bx101 rfl).mono (by decide) (by decide)
                    refine lv_aload_n hx hb dX6_learn_105 rfl (lv_at hl 0 rfl) ?_
                    refine hp_geti hx hb hts IX6 hown hK hw.1 hp0 rfl 0 (by decide) L9 rfl dX6_learn_106 (fun x106 bx106 fx106 => ?_)
                    refine lv_bipush (v := 16) hx hb dX6_learn_109 (by decide) ?_
                    refine lv_icmp_ge (tgt := 145) hx hb dX6_learn_111 (by decide) (fun c111 => ?_) (fun c111 => ?_)
                    · have r111tq : iv x106 16 16 := (iv_le_r c111 (show iv 16 16 16 from ⟨by decide, by decide⟩) bx106).mono (by decide) (by decide)
                      exact J145 c86_y12_l3 r92fp H86 locs86 hw _ (lv_sub hl [0, 1, 2, 3, 4, 5] rfl)
                    · have r111fp : iv x106 0 15 := (iv_lt_l (iv_nle c111) bx106 (show iv 16 16 16 from ⟨by decide, by decide⟩)).mono (by decide) (by decide)
                      refine lv_aload_n hx hb dX6_learn_114 rfl (lv_at hl 0 rfl) ?_
                      refine hp_getr hx hb hts IX6 hown hK hw.1 hp0 rfl 1 (by decide) L15 rfl dX6_learn_115 ?_
                      refine lv_aload_n hx hb dX6_learn_118 rfl (lv_at hl 0 rfl) ?_
                      refine hp_getf hx hb hts IX6 hown hK fx106 rfl (by decide) L9 dX6_learn_119 ?_
                      refine lv_iload_n hx hb dX6_learn_122 rfl (lv_at hl 3 rfl) ?_
                      refine hp_iast hx hb hK hw hp0le (vp_iv r111fp (by decide)) ⟨_, rfl, c86_y12_l3⟩ dX6_learn_123 (fun H123 locs123 hw g123 => ?_)
                      have f_p0_0 := g123 _ _ _ _ fx106
                      refine lv_aload_n hx hb dX6_learn_124 rfl (lv_at hl 0 rfl) ?_
                      refine hp_getr hx hb hts IX6 hown hK hw.1 hp0 rfl 2 (by decide) L19 rfl dX6_learn_125 ?_
                      refine lv_aload_n hx hb dX6_learn_128 rfl (lv_at hl 0 rfl) ?_
                      refine hp_getf hx hb hts IX6 hown hK f_p0_0 rfl (by decide) L9 dX6_learn_129 ?_
                      refine lv_iload hx hb dX6_learn_132 (lv_at hl 5 rfl) ?_
                      refine hp_iast hx hb hK hw hp0gr (vp_iv r111fp (by decide)) ⟨_, rfl, (r92fp.mono (by decide) (by decide))⟩ dX6_learn_134 (fun H134 locs134 hw g134 => ?_)
                      have f_p0_0 := g134 _ _ _ _ f_p0_0
                      refine lv_aload_n hx hb dX6_learn_135 rfl (lv_at hl 0 rfl) ?_
                      refine lv_dup hx hb dX6_learn_136 rfl ?_
                      refine hp_getf hx hb hts IX6 hown hK f_p0_0 rfl (by decide) L9 dX6_learn_137 ?_
                      refine lv_iconst (v := 1) hx hb dX6_learn_140 (by decide) ?_
                      refine lv_iadd hx hb dX6_learn_141 ?_
                      refine lv_topi (fun x141 ex141 => ?_)
                      have bx141 : iv x141 1 16 := iv_add r111fp (show iv 1 1 1 from ⟨by decide, by decide⟩) ex141 (by decide)
                      have qx141 := iv_add_eq r111fp (show iv 1 1 1 from ⟨by decide, by decide⟩) ex141 (by decide)
                      refine hp_put hx hb hts IX6 tyX6 tyX6_ok nmX6 hown hK hw hp0 rfl 0 (by decide) L9 rfl rfl ⟨_, rfl, (bx141.mono (by decide) (by decide))⟩ rfl rfl dX6_learn_142 (fun H142 locs142 hw f142n g142 => ?_)
                      exact J145 c86_y12_l3 r92fp H142 locs142 hw _ (lv_sub hl [0, 1, 2, 3, 4, 5] rfl)
            exact J86 _ x83 (Nat.lt_succ_self _) c69_y12_l3 bx83 H80 locs80 hw _ (lv_sub hl [1, 2, 3, 4, 5, 0] rfl)
          refine lv_icmp_eq (tgt := 68) hx hb dX6_learn_61 (by decide) (fun c61 => ?_) (fun c61 => ?_)
          · have r61tp : iv x59 (-1) (-1) := (iv_both (iv_any x59) (iv_eq (show iv (-1) (-1) (-1) from ⟨by decide, by decide⟩) c61)).mono (by decide) (by decide)
            refine lv_iconst (v := 0) hx hb dX6_learn_68 (by decide) ?_
            exact J69 (0 : Int32) c35_y12_l3 (show iv 0 0 1 from ⟨by decide, by decide⟩) H48 locs48 hw _ (lv_sub hl [1, 2, 3, 4, 0] rfl)
          · refine lv_iconst (v := 1) hx hb dX6_learn_64 (by decide) ?_
            refine lv_goto (tgt := 69) hx hb dX6_learn_65 (by decide) ?_
            exact J69 (1 : Int32) c35_y12_l3 (show iv 1 0 1 from ⟨by decide, by decide⟩) H48 locs48 hw _ (lv_sub hl [1, 2, 3, 4, 0] rfl)
        refine lv_if_eq (tgt := 34) hx hb dX6_learn_23 (by decide) (fun c23 => ?_) (fun c23 => ?_)
        · have r23tp : iv x20 0 0 := (iv_both bx20 (iv_eq (show iv 0 0 0 from ⟨by decide, by decide⟩) c23)).mono (by decide) (by decide)
          refine lv_iconst (v := 0) hx hb dX6_learn_34 (by decide) ?_
          exact J35 (0 : Int32) r15fp H12 locs12 hw _ (lv_sub hl [0, 1, 2, 3] rfl)
        · have r23fp : iv x20 1 1 := (iv_ne_lo c23 bx20 rfl).mono (by decide) (by decide)
          refine lv_aload_n hx hb dX6_learn_26 rfl (lv_at hl 2 rfl) ?_
          refine lv_iload_n hx hb dX6_learn_27 rfl (lv_at hl 3 rfl) ?_
          refine hp_callpi (va_runV (As := [.int y12_l3]) (rest := []) ⟨hx, hb, hml, hown, hts⟩ (sX8_company l D T ap1tw y12_l3 ip1tw) (cwV 1 hts gX6_learn_X8_company rfl rfl rfl (by decide +kernel) ⟨Nat.le_of_ble_eq_true rfl, Nat.le_of_ble_eq_true rfl⟩) (hp_preV hG hw hp1tw rfl trivial) rfl rfl hl.1 rfl (lv_room (Nat.le_of_ble_eq_true rfl)) dX6_learn_28 ⟨Nat.zero_le _, Nat.zero_le _⟩) (fun x28 bx28 => ?_)
          refine lv_goto (tgt := 35) hx hb dX6_learn_31 (by decide) ?_
          exact J35 x28 r15fp H12 locs12 hw _ (lv_sub hl [0, 1, 2, 3] rfl)
  exact J12 _ (0 : Int32) (Nat.lt_succ_self _) (show iv 0 0 10 from ⟨by decide, by decide⟩) H7 locs7 hw _ (lv_sub hl [2, 3, 1, 0] rfl)
abbrev WX6_waysFrom_16 (p : Program) (l : Launch) (e : Env) (s : State) (m : MethodId) (below : List Frame) (meth : Method) (c : Code) (D : hp_D) (T : hp_T) (ap0 : Nat) (xp1 : Int32) (xp2 : Int32) (H : Heap) (locs : List Loc) (g : JFrame) : Prop := W p l e (headSpec wsX6_waysFrom ({ frames := 0, cells := 0, slots := 0, locals := 0 })).room s m ([.ref ap0, .int xp1, .int xp2] : List Value).toArray below meth c H locs 0 0 (MQ below (hq_e D T (fun v _ _ => ∃ r : Int32, v = some (.int r) ∧ True)) ([.ref ap0, .int xp1, .int xp2] : List Value).toArray s 0 0 (hp_F T)) g
set_option maxHeartbeats 4000000 in
set_option maxRecDepth 100000 in
theorem sX6_waysFrom_16 (l : Launch) (D : hp_D) (T : hp_T) (ap0 : Nat) (xp1 : Int32) (xp2 : Int32) (ip0 : isShuns T ap0) (bp1 : iv xp1 16 16) : Met l yX6_waysFrom wsX6_waysFrom ({ frames := 0, cells := 0, slots := 0, locals := 0 }) (hp_Pc D T [.ref ap0, .int xp1, .int xp2] (fun _ => True)) (hq_e D T (fun v _ _ => ∃ r : Int32, v = some (.int r) ∧ True)) 0 0 (hp_F T) := by
  obtain ⟨ap0le, ap0gr, ap0du, ap0it, ap0op, hp0, hp0le, hp0gr, hp0du, hp0it, hp0op⟩ := id ip0
  refine Met.ofW (cc := cX6_waysFrom) (maxL := 6) (ret := (some .int)) (by decide) rfl ?_
  intro p e s m args below meth c s₁ B hml hv
  obtain ⟨rfl, hok, hG, hB⟩ := hv
  have hx := B.exec
  have hb := B.bytes
  have hr := B.returns
  have hts := atoms_spec (ws := wsX6_waysFrom) B.pre
  have hown : s.vm.findClass RX6 = some m.cls := findClass_of_methodNamed B.named
  have hlocks := B.notSynchronized
  have hK := hG.1
  have hw : hp_w D T s s.heap [] := hp_w.rf hok
  have IX6 : ∀ w ∈ wsX60, w ∈ wsX6_waysFrom := by decide +kernel
  have L9 := hts (.fieldLink RX6 9 "PalmCensus$Shuns" "twos" "I") (by decide +kernel)
  have hl := lv_entry ([.ref ap0, .int xp1, .int xp2]) (n := 6) (Nat.le_of_ble_eq_true rfl)
  rw [lg_entry_eq]
  generalize (lg_sl ([.ref ap0, .int xp1, .int xp2]) ++ List.replicate (6 - (lg_sl ([.ref ap0, .int xp1, .int xp2])).length) Slot.unset).toArray = ls at hl ⊢
  have hl : lv_has ls 6 [(0, .ref ap0), (1, .int xp1), (2, .int xp2)] := hl
  show WX6_waysFrom_16 p l e s m below meth c D T ap0 xp1 xp2 s.heap [] (F0 m 0 ls [])
  refine lv_iload_n hx hb dX6_waysFrom_0 rfl (lv_at hl 1 rfl) ?_
  have J12 : ∀ (H : Heap) (locs : List Loc), hp_w D T s H locs → ∀ (ls : Array Slot), lv_has ls 6 [] → WX6_waysFrom_16 p l e s m below meth c D T ap0 xp1 xp2 H locs (F0 m 12 ls []) := by
    intro H12 locs12 hw ls hl
    refine lv_iconst (v := 1) hx hb dX6_waysFrom_12 (by decide) ?_
    exact W.iret (v := 1) hx hb hr (fun t ht hW => ⟨some (.int 1), rfl, ⟨(1 : Int32), rfl, trivial⟩, by rw [ht]; exact hw.1, hw.2.F ht⟩) hw.2.2.2 dX6_waysFrom_13
  refine lv_if_lt (tgt := 12) hx hb dX6_waysFrom_1 (by decide) (fun c1 => ?_) (fun c1 => ?_)
  · exact iv_abs (iv_lt_l c1 bp1 (show iv 0 0 0 from ⟨by decide, by decide⟩)) (by decide)
  · refine lv_iload_n hx hb dX6_waysFrom_4 rfl (lv_at hl 1 rfl) ?_
    refine lv_aload_n hx hb dX6_waysFrom_5 rfl (lv_at hl 0 rfl) ?_
    refine hp_geti hx hb hts IX6 hown hK hw.1 hp0 rfl 0 (by decide) L9 rfl dX6_waysFrom_6 (fun x6 bx6 fx6 => ?_)
    refine lv_icmp_lt (tgt := 14) hx hb dX6_waysFrom_9 (by decide) (fun c9 => ?_) (fun c9 => ?_)
    · exact iv_abs (iv_lt_l c9 bp1 bx6) (by decide)
    · exact J12 s.heap [] hw _ (lv_sub hl [] rfl)
abbrev WX6_waysFrom_15 (p : Program) (l : Launch) (e : Env) (s : State) (m : MethodId) (below : List Frame) (meth : Method) (c : Code) (D : hp_D) (T : hp_T) (ap0 : Nat) (xp1 : Int32) (xp2 : Int32) (H : Heap) (locs : List Loc) (g : JFrame) : Prop := W p l e (headSpec wsX6_waysFrom ({ frames := 1, cells := 0, slots := 0, locals := 25 })).room s m ([.ref ap0, .int xp1, .int xp2] : List Value).toArray below meth c H locs 0 0 (MQ below (hq_e D T (fun v _ _ => ∃ r : Int32, v = some (.int r) ∧ True)) ([.ref ap0, .int xp1, .int xp2] : List Value).toArray s 0 0 (hp_F T)) g
set_option maxHeartbeats 4000000 in
set_option maxRecDepth 100000 in
theorem sX6_waysFrom_15 (l : Launch) (D : hp_D) (T : hp_T) (ap0 : Nat) (xp1 : Int32) (xp2 : Int32) (ip0 : isShuns T ap0) (bp1 : iv xp1 15 15) : Met l yX6_waysFrom wsX6_waysFrom ({ frames := 1, cells := 0, slots := 0, locals := 25 }) (hp_Pc D T [.ref ap0, .int xp1, .int xp2] (fun _ => True)) (hq_e D T (fun v _ _ => ∃ r : Int32, v = some (.int r) ∧ True)) 0 0 (hp_F T) := by
  obtain ⟨ap0le, ap0gr, ap0du, ap0it, ap0op, hp0, hp0le, hp0gr, hp0du, hp0it, hp0op⟩ := id ip0
  refine Met.ofW (cc := cX6_waysFrom) (maxL := 6) (ret := (some .int)) (by decide) rfl ?_
  intro p e s m args below meth c s₁ B hml hv
  obtain ⟨rfl, hok, hG, hB⟩ := hv
  have hx := B.exec
  have hb := B.bytes
  have hr := B.returns
  have hts := atoms_spec (ws := wsX6_waysFrom) B.pre
  have hown : s.vm.findClass RX6 = some m.cls := findClass_of_methodNamed B.named
  have hlocks := B.notSynchronized
  have hK := hG.1
  have hw : hp_w D T s s.heap [] := hp_w.rf hok
  have IX6 : ∀ w ∈ wsX60, w ∈ wsX6_waysFrom := by decide +kernel
  have L9 := hts (.fieldLink RX6 9 "PalmCensus$Shuns" "twos" "I") (by decide +kernel)
  have L15 := hts (.fieldLink RX6 15 "PalmCensus$Shuns" "lesser" "[I") (by decide +kernel)
  have L19 := hts (.fieldLink RX6 19 "PalmCensus$Shuns" "greater" "[I") (by decide +kernel)
  have L25 := hts (.fieldLink RX6 25 "PalmCensus$Shuns" "isTold" "[Z") (by decide +kernel)
  have L29 := hts (.fieldLink RX6 29 "PalmCensus$Shuns" "open" "[I") (by decide +kernel)
  have L22 := hts (.fieldLink RX6 22 "PalmCensus$Shuns" "due" "[I") (by decide +kernel)
  have hl := lv_entry ([.ref ap0, .int xp1, .int xp2]) (n := 6) (Nat.le_of_ble_eq_true rfl)
  rw [lg_entry_eq]
  generalize (lg_sl ([.ref ap0, .int xp1, .int xp2]) ++ List.replicate (6 - (lg_sl ([.ref ap0, .int xp1, .int xp2])).length) Slot.unset).toArray = ls at hl ⊢
  have hl : lv_has ls 6 [(0, .ref ap0), (1, .int xp1), (2, .int xp2)] := hl
  show WX6_waysFrom_15 p l e s m below meth c D T ap0 xp1 xp2 s.heap [] (F0 m 0 ls [])
  refine lv_iload_n hx hb dX6_waysFrom_0 rfl (lv_at hl 1 rfl) ?_
  have J12 : ∀ (H : Heap) (locs : List Loc), hp_w D T s H locs → ∀ (ls : Array Slot), lv_has ls 6 [] → WX6_waysFrom_15 p l e s m below meth c D T ap0 xp1 xp2 H locs (F0 m 12 ls []) := by
    intro H12 locs12 hw ls hl
    refine lv_iconst (v := 1) hx hb dX6_waysFrom_12 (by decide) ?_
    exact W.iret (v := 1) hx hb hr (fun t ht hW => ⟨some (.int 1), rfl, ⟨(1 : Int32), rfl, trivial⟩, by rw [ht]; exact hw.1, hw.2.F ht⟩) hw.2.2.2 dX6_waysFrom_13
  refine lv_if_lt (tgt := 12) hx hb dX6_waysFrom_1 (by decide) (fun c1 => ?_) (fun c1 => ?_)
  · exact iv_abs (iv_lt_l c1 bp1 (show iv 0 0 0 from ⟨by decide, by decide⟩)) (by decide)
  · refine lv_iload_n hx hb dX6_waysFrom_4 rfl (lv_at hl 1 rfl) ?_
    refine lv_aload_n hx hb dX6_waysFrom_5 rfl (lv_at hl 0 rfl) ?_
    refine hp_geti hx hb hts IX6 hown hK hw.1 hp0 rfl 0 (by decide) L9 rfl dX6_waysFrom_6 (fun x6 bx6 fx6 => ?_)
    refine lv_icmp_lt (tgt := 14) hx hb dX6_waysFrom_9 (by decide) (fun c9 => ?_) (fun c9 => ?_)
    · have r9tq : iv x6 16 16 := (iv_lt_r c9 bp1 bx6).mono (by decide) (by decide)
      refine lv_aload_n hx hb dX6_waysFrom_14 rfl (lv_at hl 0 rfl) ?_
      refine hp_getr hx hb hts IX6 hown hK hw.1 hp0 rfl 1 (by decide) L15 rfl dX6_waysFrom_15 ?_
      refine lv_iload_n hx hb dX6_waysFrom_18 rfl (lv_at hl 1 rfl) ?_
      refine hp_ialdI hx hb hK hw.1 hp0le (vp_iv bp1 (by decide)) dX6_waysFrom_19 (fun x19 bx19 => ?_)
      refine lv_istore_n (lv' := [(3, .int x19), (0, .ref ap0), (1, .int xp1), (2, .int xp2)]) hx hb dX6_waysFrom_20 rfl hl (by decide) rfl (fun ls hl => ?_)
      refine lv_aload_n hx hb dX6_waysFrom_21 rfl (lv_at hl 1 rfl) ?_
      refine hp_getr hx hb hts IX6 hown hK hw.1 hp0 rfl 2 (by decide) L19 rfl dX6_waysFrom_22 ?_
      refine lv_iload_n hx hb dX6_waysFrom_25 rfl (lv_at hl 2 rfl) ?_
      refine hp_ialdI hx hb hK hw.1 hp0gr (vp_iv bp1 (by decide)) dX6_waysFrom_26 (fun x26 bx26 => ?_)
      refine lv_istore (lv' := [(4, .int x26), (3, .int x19), (0, .ref ap0), (1, .int xp1), (2, .int xp2)]) hx hb dX6_waysFrom_27 hl (by decide) rfl (fun ls hl => ?_)
      refine lv_aload_n hx hb dX6_waysFrom_29 rfl (lv_at hl 2 rfl) ?_
      refine hp_getr hx hb hts IX6 hown hK hw.1 hp0 rfl 4 (by decide) L25 rfl dX6_waysFrom_30 ?_
      refine lv_iload_n hx hb dX6_waysFrom_33 rfl (lv_at hl 1 rfl) ?_
      refine hp_zaldA hx hb hK hw.1 hp0it (vp_iv bx19 (by decide)) dX6_waysFrom_34 (fun x34 => ?_)
      have J68 : iv xp1 15 15 → iv x19 0 9 → iv x26 0 9 → ∀ (H : Heap) (locs : List Loc), hp_w D T s H locs → ∀ (ls : Array Slot), lv_has ls 6 [(0, .ref ap0), (1, .int xp1), (2, .int xp2), (3, .int x19), (4, .int x26)] → WX6_waysFrom_15 p l e s m below meth c D T ap0 xp1 xp2 H locs (F0 m 68 ls []) := by
        intro c68_xp1 c68_x19 c68_x26 H68 locs68 hw ls hl
        refine lv_aload_n hx hb dX6_waysFrom_68 rfl (lv_at hl 0 rfl) ?_
        refine hp_getr hx hb hts IX6 hown hK hw.1 hp0 rfl 5 (by decide) L29 rfl dX6_waysFrom_69 ?_
        refine lv_iload_n hx hb dX6_waysFrom_72 rfl (lv_at hl 3 rfl) ?_
        refine lv_dup2_11 hx hb dX6_waysFrom_73 rfl rfl ?_
        refine hp_ialdA hx hb hK hw.1 hp0op (vp_iv c68_x19 (by decide)) dX6_waysFrom_74 (fun x74 => ?_)
        refine lv_iconst (v := 1) hx hb dX6_waysFrom_75 (by decide) ?_
        refine lv_isub hx hb dX6_waysFrom_76 ?_
        refine lv_topi (fun x76 ex76 => ?_)
        refine hp_iast hx hb hK hw hp0op (vp_iv c68_x19 (by decide)) ⟨_, rfl⟩ dX6_waysFrom_77 (fun H77 locs77 hw g77 => ?_)
        refine lv_aload_n hx hb dX6_waysFrom_78 rfl (lv_at hl 0 rfl) ?_
        refine hp_getr hx hb hts IX6 hown hK hw.1 hp0 rfl 5 (by decide) L29 rfl dX6_waysFrom_79 ?_
        refine lv_iload hx hb dX6_waysFrom_82 (lv_at hl 4 rfl) ?_
        refine lv_dup2_11 hx hb dX6_waysFrom_84 rfl rfl ?_
        refine hp_ialdA hx hb hK hw.1 hp0op (vp_iv c68_x26 (by decide)) dX6_waysFrom_85 (fun x85 => ?_)
        refine lv_iconst (v := 1) hx hb dX6_waysFrom_86 (by decide) ?_
        refine lv_isub hx hb dX6_waysFrom_87 ?_
        refine lv_topi (fun x87 ex87 => ?_)
        refine hp_iast hx hb hK hw hp0op (vp_iv c68_x26 (by decide)) ⟨_, rfl⟩ dX6_waysFrom_88 (fun H88 locs88 hw g88 => ?_)
        refine lv_iconst (v := 0) hx hb dX6_waysFrom_89 (by decide) ?_
        refine lv_istore (lv' := [(5, .int 0), (0, .ref ap0), (1, .int xp1), (2, .int xp2), (3, .int x19), (4, .int x26)]) hx hb dX6_waysFrom_90 hl (by decide) rfl (fun ls hl => ?_)
        refine lv_iload_n hx hb dX6_waysFrom_92 rfl (lv_at hl 2 rfl) ?_
        refine lv_iload_n hx hb dX6_waysFrom_93 rfl (lv_at hl 3 rfl) ?_
        have J127 : ∀ (y127_l5 : Int32), iv xp1 15 15 → iv x19 0 9 → iv x26 0 9 → ∀ (H : Heap) (locs : List Loc), hp_w D T s H locs → ∀ (ls : Array Slot), lv_has ls 6 [(0, .ref ap0), (1, .int xp1), (2, .int xp2), (3, .int x19), (4, .int x26), (5, .int y127_l5)] → WX6_waysFrom_15 p l e s m below meth c D T ap0 xp1 xp2 H locs (F0 m 127 ls []) := by
          intro y127_l5 c127_xp1 c127_x19 c127_x26 H127 locs127 hw ls hl
          refine lv_aload_n hx hb dX6_waysFrom_127 rfl (lv_at hl 0 rfl) ?_
          refine hp_getr hx hb hts IX6 hown hK hw.1 hp0 rfl 3 (by decide) L22 rfl dX6_waysFrom_128 ?_
          refine lv_iload_n hx hb dX6_waysFrom_131 rfl (lv_at hl 3 rfl) ?_
          refine lv_dup2_11 hx hb dX6_waysFrom_132 rfl rfl ?_
          refine hp_ialdA hx hb hK hw.1 hp0du (vp_iv c127_x19 (by decide)) dX6_waysFrom_133 (fun x133 => ?_)
          refine lv_iconst (v := 1) hx hb dX6_waysFrom_134 (by decide) ?_
          refine lv_isub hx hb dX6_waysFrom_135 ?_
          refine lv_topi (fun x135 ex135 => ?_)
          refine hp_iast hx hb hK hw hp0du (vp_iv c127_x19 (by decide)) ⟨_, rfl⟩ dX6_waysFrom_136 (fun H136 locs136 hw g136 => ?_)
          refine lv_aload_n hx hb dX6_waysFrom_137 rfl (lv_at hl 0 rfl) ?_
          refine hp_getr hx hb hts IX6 hown hK hw.1 hp0 rfl 3 (by decide) L22 rfl dX6_waysFrom_138 ?_
          refine lv_iload hx hb dX6_waysFrom_141 (lv_at hl 4 rfl) ?_
          refine lv_dup2_11 hx hb dX6_waysFrom_143 rfl rfl ?_
          refine hp_ialdA hx hb hK hw.1 hp0du (vp_iv c127_x26 (by decide)) dX6_waysFrom_144 (fun x144 => ?_)
          refine lv_iconst (v := 1) hx hb dX6_waysFrom_145 (by decide) ?_
          refine lv_isub hx hb dX6_waysFrom_146 ?_
          refine lv_topi (fun x146 ex146 => ?_)
          refine hp_iast hx hb hK hw hp0du (vp_iv c127_x26 (by decide)) ⟨_, rfl⟩ dX6_waysFrom_147 (fun H147 locs147 hw g147 => ?_)
          refine lv_aload_n hx hb dX6_waysFrom_148 rfl (lv_at hl 0 rfl) ?_
          refine lv_iload_n hx hb dX6_waysFrom_149 rfl (lv_at hl 3 rfl) ?_
          refine hp_callpi (va_runV (As := [.int x19]) (rest := []) ⟨hx, hb, hml, hown, hts⟩ (sX6_canStillBe l D T ap0 x19 ip0 c127_x19) (cwV 1 hts gX6_waysFrom_X6_canStillBe rfl rfl rfl (by decide +kernel) ⟨Nat.le_of_ble_eq_true rfl, Nat.le_of_ble_eq_true rfl⟩) (hp_preV hG hw hp0 rfl trivial) rfl rfl hl.1 rfl (lv_room (Nat.le_of_ble_eq_true rfl)) dX6_waysFrom_150 ⟨Nat.zero_le _, Nat.zero_le _⟩) (fun x150 bx150 => ?_)
          have J178 : ∀ (y178_l5 : Int32), iv x19 0 9 → iv x26 0 9 → ∀ (H : Heap) (locs : List Loc), hp_w D T s H locs → ∀ (ls : Array Slot), lv_has ls 6 [(0, .ref ap0), (3, .int x19), (4, .int x26), (5, .int y178_l5)] → WX6_waysFrom_15 p l e s m below meth c D T ap0 xp1 xp2 H locs (F0 m 178 ls []) := by
            intro y178_l5 c178_x19 c178_x26 H178 locs178 hw ls hl
            refine lv_aload_n hx hb dX6_waysFrom_178 rfl (lv_at hl 0 rfl) ?_
            refine hp_getr hx hb hts IX6 hown hK hw.1 hp0 rfl 3 (by decide) L22 rfl dX6_waysFrom_179 ?_
            refine lv_iload_n hx hb dX6_waysFrom_182 rfl (lv_at hl 1 rfl) ?_
            refine lv_dup2_11 hx hb dX6_waysFrom_183 rfl rfl ?_
            refine hp_ialdA hx hb hK hw.1 hp0du (vp_iv c178_x19 (by decide)) dX6_waysFrom_184 (fun x184 => ?_)
            refine lv_iconst (v := 1) hx hb dX6_waysFrom_185 (by decide) ?_
            refine lv_iadd hx hb dX6_waysFrom_186 ?_
            refine lv_topi (fun x186 ex186 => ?_)
            refine hp_iast hx hb hK hw hp0du (vp_iv c178_x19 (by decide)) ⟨_, rfl⟩ dX6_waysFrom_187 (fun H187 locs187 hw g187 => ?_)
            refine lv_aload_n hx hb dX6_waysFrom_188 rfl (lv_at hl 0 rfl) ?_
            refine hp_getr hx hb hts IX6 hown hK hw.1 hp0 rfl 3 (by decide) L22 rfl dX6_waysFrom_189 ?_
            refine lv_iload hx hb dX6_waysFrom_192 (lv_at hl 2 rfl) ?_
            refine lv_dup2_11 hx hb dX6_waysFrom_194 rfl rfl ?_
            refine hp_ialdA hx hb hK hw.1 hp0du (vp_iv c178_x26 (by decide)) dX6_waysFrom_195 (fun x195 => ?_)
            refine lv_iconst (v := 1) hx hb dX6_waysFrom_196 (by decide) ?_
            refine lv_iadd hx hb dX6_waysFrom_197 ?_
            refine lv_topi (fun x197 ex197 => ?_)
            refine hp_iast hx hb hK hw hp0du (vp_iv c178_x26 (by decide)) ⟨_, rfl⟩ dX6_waysFrom_198 (fun H198 locs198 hw g198 => ?_)
            refine lv_aload_n hx hb dX6_waysFrom_199 rfl (lv_at hl 0 rfl) ?_
            refine hp_getr hx hb hts IX6 hown hK hw.1 hp0 rfl 5 (by decide) L29 rfl dX6_waysFrom_200 ?_
            refine lv_iload_n hx hb dX6_waysFrom_203 rfl (lv_at hl 1 rfl) ?_
            refine lv_dup2_11 hx hb dX6_waysFrom_204 rfl rfl ?_
            refine hp_ialdA hx hb hK hw.1 hp0op (vp_iv c178_x19 (by decide)) dX6_waysFrom_205 (fun x205 => ?_)
            refine lv_iconst (v := 1) hx hb dX6_waysFrom_206 (by decide) ?_
            refine lv_iadd hx hb dX6_waysFrom_207 ?_
            refine lv_topi (fun x207 ex207 => ?_)
            refine hp_iast hx hb hK hw hp0op (vp_iv c178_x19 (by decide)) ⟨_, rfl⟩ dX6_waysFrom_208 (fun H208 locs208 hw g208 => ?_)
            refine lv_aload_n hx hb dX6_waysFrom_209 rfl (lv_at hl 0 rfl) ?_
            refine hp_getr hx hb hts IX6 hown hK hw.1 hp0 rfl 5 (by decide) L29 rfl dX6_waysFrom_210 ?_
            refine lv_iload hx hb dX6_waysFrom_213 (lv_at hl 2 rfl) ?_
            refine lv_dup2_11 hx hb dX6_waysFrom_215 rfl rfl ?_
            refine hp_ialdA hx hb hK hw.1 hp0op (vp_iv c178_x26 (by decide)) dX6_waysFrom_216 (fun x216 => ?_)
            refine lv_iconst (v := 1) hx hb dX6_waysFrom_217 (by decide) ?_
            refine lv_iadd hx hb dX6_waysFrom_218 ?_
            refine lv_topi (fun x218 ex218 => ?_)
            refine hp_iast hx hb hK hw hp0op (vp_iv c178_x26 (by decide)) ⟨_, rfl⟩ dX6_waysFrom_219 (fun H219 locs219 hw g219 => ?_)
            refine lv_iload hx hb dX6_waysFrom_220 (lv_at hl 3 rfl) ?_
            exact W.iret (v := y178_l5) hx hb hr (fun t ht hW => ⟨some (.int y178_l5), rfl, ⟨y178_l5, rfl, trivial⟩, by rw [ht]; exact hw.1, hw.2.F ht⟩) hw.2.2.2 dX6_waysFrom_222
          refine lv_if_eq (tgt := 178) hx hb dX6_waysFrom_153 (by decide) (fun c153 => ?_) (fun c153 => ?_)
          · have r153tp : iv x150 0 0 := (iv_both bx150 (iv_eq (show iv 0 0 0 from ⟨by decide, by decide⟩) c153)).mono (by decide) (by decide)
            exact J178 y127_l5 c127_x19 c127_x26 H147 locs147 hw _ (lv_sub hl [0, 3, 4, 5] rfl)
          · have r153fp : iv x150 1 1 := (iv_ne_lo c153 bx150 rfl).mono (by decide) (by decide)
            refine lv_aload_n hx hb dX6_waysFrom_156 rfl (lv_at hl 0 rfl) ?_
            refine lv_iload hx hb dX6_waysFrom_157 (lv_at hl 4 rfl) ?_
            refine hp_callpi (va_runV (As := [.int x26]) (rest := []) ⟨hx, hb, hml, hown, hts⟩ (sX6_canStillBe l D T ap0 x26 ip0 c127_x26) (cwV 1 hts gX6_waysFrom_X6_canStillBe rfl rfl rfl (by decide +kernel) ⟨Nat.le_of_ble_eq_true rfl, Nat.le_of_ble_eq_true rfl⟩) (hp_preV hG hw hp0 rfl trivial) rfl rfl hl.1 rfl (lv_room (Nat.le_of_ble_eq_true rfl)) dX6_waysFrom_159 ⟨Nat.zero_le _, Nat.zero_le _⟩) (fun x159 bx159 => ?_)
            refine lv_if_eq (tgt := 178) hx hb dX6_waysFrom_162 (by decide) (fun c162 => ?_) (fun c162 => ?_)
            · have r162tp : iv x159 0 0 := (iv_both bx159 (iv_eq (show iv 0 0 0 from ⟨by decide, by decide⟩) c162)).mono (by decide) (by decide)
              exact J178 y127_l5 c127_x19 c127_x26 H147 locs147 hw _ (lv_sub hl [0, 3, 4, 5] rfl)
            · have r162fp : iv x159 1 1 := (iv_ne_lo c162 bx159 rfl).mono (by decide) (by decide)
              refine lv_iload hx hb dX6_waysFrom_165 (lv_at hl 5 rfl) ?_
              refine lv_aload_n hx hb dX6_waysFrom_167 rfl (lv_at hl 0 rfl) ?_
              refine lv_iload_n hx hb dX6_waysFrom_168 rfl (lv_at hl 1 rfl) ?_
              refine lv_iconst (v := 1) hx hb dX6_waysFrom_169 (by decide) ?_
              refine lv_iadd hx hb dX6_waysFrom_170 ?_
              refine lv_topi (fun x170 ex170 => ?_)
              have bx170 : iv x170 16 16 := iv_add c127_xp1 (show iv 1 1 1 from ⟨by decide, by decide⟩) ex170 (by decide)
              have qx170 := iv_add_eq c127_xp1 (show iv 1 1 1 from ⟨by decide, by decide⟩) ex170 (by decide)
              refine lv_iload_n hx hb dX6_waysFrom_171 rfl (lv_at hl 2 rfl) ?_
              refine hp_callei (va_runV (As := [.int x170, .int xp2]) (rest := [.int y127_l5]) ⟨hx, hb, hml, hown, hts⟩ (sX6_waysFrom_16 l D T ap0 x170 xp2 ip0 bx170) (cwV 2 hts gX6_waysFrom_X6_waysFrom rfl rfl rfl (by decide +kernel) ⟨Nat.le_of_ble_eq_true rfl, Nat.le_of_ble_eq_true rfl⟩) (hp_preV hG hw hp0 rfl trivial) rfl rfl hl.1 rfl (lv_room (Nat.le_of_ble_eq_true rfl)) dX6_waysFrom_172 ⟨Nat.zero_le _, Nat.zero_le _⟩) hw (fun x172 st172 t172 H172 locs172 eh172 eg172 bx172 hw => ?_)
              refine lv_iadd hx hb dX6_waysFrom_175 ?_
              refine lv_topi (fun x175 ex175 => ?_)
              refine lv_istore (lv' := [(5, .int x175), (0, .ref ap0), (1, .int xp1), (2, .int xp2), (3, .int x19), (4, .int x26)]) hx hb dX6_waysFrom_176 hl (by decide) rfl (fun ls hl => ?_)
              exact J178 x175 c127_x19 c127_x26 H172 locs172 hw _ (lv_sub hl [1, 4, 5, 0] rfl)
        refine lv_icmp_eq (tgt := 127) hx hb dX6_waysFrom_94 (by decide) (fun c94 => ?_) (fun c94 => ?_)
        · have r94tq : iv xp2 15 15 := (iv_both (iv_any xp2) (iv_eq c68_xp1 c94.symm)).mono (by decide) (by decide)
          exact J127 (0 : Int32) c68_xp1 c68_x19 c68_x26 H88 locs88 hw _ (lv_sub hl [1, 2, 3, 4, 5, 0] rfl)
        · refine lv_aload_n hx hb dX6_waysFrom_97 rfl (lv_at hl 1 rfl) ?_
          refine lv_iload_n hx hb dX6_waysFrom_98 rfl (lv_at hl 4 rfl) ?_
          refine hp_callpi (va_runV (As := [.int x19]) (rest := []) ⟨hx, hb, hml, hown, hts⟩ (sX6_canStillBe l D T ap0 x19 ip0 c68_x19) (cwV 1 hts gX6_waysFrom_X6_canStillBe rfl rfl rfl (by decide +kernel) ⟨Nat.le_of_ble_eq_true rfl, Nat.le_of_ble_eq_true rfl⟩) (hp_preV hG hw hp0 rfl trivial) rfl rfl hl.1 rfl (lv_room (Nat.le_of_ble_eq_true rfl)) dX6_waysFrom_99 ⟨Nat.zero_le _, Nat.zero_le _⟩) (fun x99 bx99 => ?_)
          refine lv_if_eq (tgt := 127) hx hb dX6_waysFrom_102 (by decide) (fun c102 => ?_) (fun c102 => ?_)
          · have r102tp : iv x99 0 0 := (iv_both bx99 (iv_eq (show iv 0 0 0 from ⟨by decide, by decide⟩) c102)).mono (by decide) (by decide)
            exact J127 (0 : Int32) c68_xp1 c68_x19 c68_x26 H88 locs88 hw _ (lv_sub hl [1, 2, 3, 4, 5, 0] rfl)
          · have r102fp : iv x99 1 1 := (iv_ne_lo c102 bx99 rfl).mono (by decide) (by decide)
            refine lv_aload_n hx hb dX6_waysFrom_105 rfl (lv_at hl 1 rfl) ?_
            refine lv_iload hx hb dX6_waysFrom_106 (lv_at hl 5 rfl) ?_
            refine hp_callpi (va_runV (As := [.int x26]) (rest := []) ⟨hx, hb, hml, hown, hts⟩ (sX6_canStillBe l D T ap0 x26 ip0 c68_x26) (cwV 1 hts gX6_waysFrom_X6_canStillBe rfl rfl rfl (by decide +kernel) ⟨Nat.le_of_ble_eq_true rfl, Nat.le_of_ble_eq_true rfl⟩) (hp_preV hG hw hp0 rfl trivial) rfl rfl hl.1 rfl (lv_room (Nat.le_of_ble_eq_true rfl)) dX6_waysFrom_108 ⟨Nat.zero_le _, Nat.zero_le _⟩) (fun x108 bx108 => ?_)
            refine lv_if_eq (tgt := 127) hx hb dX6_waysFrom_111 (by decide) (fun c111 => ?_) (fun c111 => ?_)
            · have r111tp : iv x108 0 0 := (iv_both bx108 (iv_eq (show iv 0 0 0 from ⟨by decide, by decide⟩) c111)).mono (by decide) (by decide)
              exact J127 (0 : Int32) c68_xp1 c68_x19 c68_x26 H88 locs88 hw _ (lv_sub hl [1, 2, 3, 4, 5, 0] rfl)
            · have r111fp : iv x108 1 1 := (iv_ne_lo c111 bx108 rfl).mono (by decide) (by decide)
              refine lv_iload hx hb dX6_waysFrom_114 (lv_at hl 0 rfl) ?_
              refine lv_aload_n hx hb dX6_waysFrom_116 rfl (lv_at hl 1 rfl) ?_
              refine lv_iload_n hx hb dX6_waysFrom_117 rfl (lv_at hl 2 rfl) ?_
              refine lv_iconst (v := 1) hx hb dX6_waysFrom_118 (by decide) ?_
              refine lv_iadd hx hb dX6_waysFrom_119 ?_
              refine lv_topi (fun x119 ex119 => ?_)
              have bx119 : iv x119 16 16 := iv_add c68_xp1 (show iv 1 1 1 from ⟨by decide, by decide⟩) ex119 (by decide)
              have qx119 := iv_add_eq c68_xp1 (show iv 1 1 1 from ⟨by decide, by decide⟩) ex119 (by decide)
              refine lv_iload_n hx hb dX6_waysFrom_120 rfl (lv_at hl 3 rfl) ?_
              refine hp_callei (va_runV (As := [.int x119, .int xp2]) (rest := [.int 0]) ⟨hx, hb, hml, hown, hts⟩ (sX6_waysFrom_16 l D T ap0 x119 xp2 ip0 bx119) (cwV 2 hts gX6_waysFrom_X6_waysFrom rfl rfl rfl (by decide +kernel) ⟨Nat.le_of_ble_eq_true rfl, Nat.le_of_ble_eq_true rfl⟩) (hp_preV hG hw hp0 rfl trivial) rfl rfl hl.1 rfl (lv_room (Nat.le_of_ble_eq_true rfl)) dX6_waysFrom_121 ⟨Nat.zero_le _, Nat.zero_le _⟩) hw (fun x121 st121 t121 H121 locs121 eh121 eg121 bx121 hw => ?_)
              refine lv_iadd hx hb dX6_waysFrom_124 ?_
              refine lv_topi (fun x124 ex124 => ?_)
              have qx124 := iv_add_eq (show iv 0 0 0 from ⟨by decide, by decide⟩) (iv_any x121) ex124 (by decide)
              refine lv_istore (lv' := [(5, .int x124), (0, .ref ap0), (1, .int xp1), (2, .int xp2), (3, .int x19), (4, .int x26)]) hx hb dX6_waysFrom_125 hl (by decide) rfl (fun ls hl => ?_)
              exact J127 x124 c68_xp1 c68_x19 c68_x26 H121 locs121 hw _ (lv_sub hl [1, 2, 3, 4, 5, 0] rfl)
      refine lv_if_ne (tgt := 68) hx hb dX6_waysFrom_35 (by decide) (fun c35 => ?_) (fun c35 => ?_)
      · exact J68 bp1 bx19 bx26 s.heap [] hw _ (lv_sub hl [2, 3, 4, 1, 0] rfl)
      · have r35fp : iv x34 0 0 := (iv_both (iv_any x34) (iv_eq (show iv 0 0 0 from ⟨by decide, by decide⟩) c35)).mono (by decide) (by decide)
        refine lv_aload_n hx hb dX6_waysFrom_38 rfl (lv_at hl 2 rfl) ?_
        refine hp_getr hx hb hts IX6 hown hK hw.1 hp0 rfl 4 (by decide) L25 rfl dX6_waysFrom_39 ?_
        refine lv_iload hx hb dX6_waysFrom_42 (lv_at hl 0 rfl) ?_
        refine hp_zaldA hx hb hK hw.1 hp0it (vp_iv bx26 (by decide)) dX6_waysFrom_44 (fun x44 => ?_)
        refine lv_if_ne (tgt := 68) hx hb dX6_waysFrom_45 (by decide) (fun c45 => ?_) (fun c45 => ?_)
        · exact J68 bp1 bx19 bx26 s.heap [] hw _ (lv_sub hl [2, 3, 4, 1, 0] rfl)
        · have r45fp : iv x44 0 0 := (iv_both (iv_any x44) (iv_eq (show iv 0 0 0 from ⟨by decide, by decide⟩) c45)).mono (by decide) (by decide)
          refine lv_iload_n hx hb dX6_waysFrom_48 rfl (lv_at hl 3 rfl) ?_
          refine lv_iload_n hx hb dX6_waysFrom_49 rfl (lv_at hl 4 rfl) ?_
          have J58 : ∀ (y58_s0 : Int32), iv xp1 15 15 → iv y58_s0 1 2 → ∀ (H : Heap) (locs : List Loc), hp_w D T s H locs → ∀ (ls : Array Slot), lv_has ls 6 [(0, .ref ap0), (1, .int xp1), (2, .int xp2)] → WX6_waysFrom_15 p l e s m below meth c D T ap0 xp1 xp2 H locs (F0 m 58 ls [.int y58_s0]) := by
            intro y58_s0 c58_xp1 c58_y58_s0 H58 locs58 hw ls hl
            refine lv_aload_n hx hb dX6_waysFrom_58 rfl (lv_at hl 0 rfl) ?_
            refine lv_iload_n hx hb dX6_waysFrom_59 rfl (lv_at hl 1 rfl) ?_
            refine lv_iconst (v := 1) hx hb dX6_waysFrom_60 (by decide) ?_
            refine lv_iadd hx hb dX6_waysFrom_61 ?_
            refine lv_topi (fun x61 ex61 => ?_)
            have bx61 : iv x61 16 16 := iv_add c58_xp1 (show iv 1 1 1 from ⟨by decide, by decide⟩) ex61 (by decide)
            have qx61 := iv_add_eq c58_xp1 (show iv 1 1 1 from ⟨by decide, by decide⟩) ex61 (by decide)
            refine lv_iload_n hx hb dX6_waysFrom_62 rfl (lv_at hl 2 rfl) ?_
            refine hp_callei (va_runV (As := [.int x61, .int xp2]) (rest := [.int y58_s0]) ⟨hx, hb, hml, hown, hts⟩ (sX6_waysFrom_16 l D T ap0 x61 xp2 ip0 bx61) (cwV 2 hts gX6_waysFrom_X6_waysFrom rfl rfl rfl (by decide +kernel) ⟨Nat.le_of_ble_eq_true rfl, Nat.le_of_ble_eq_true rfl⟩) (hp_preV hG hw hp0 rfl trivial) rfl rfl hl.1 rfl (lv_room (Nat.le_of_ble_eq_true rfl)) dX6_waysFrom_63 ⟨Nat.zero_le _, Nat.zero_le _⟩) hw (fun x63 st63 t63 H63 locs63 eh63 eg63 bx63 hw => ?_)
            refine lv_imul hx hb dX6_waysFrom_66 ?_
            refine lv_topi (fun x66 ex66 => ?_)
            exact W.iret (v := x66) hx hb hr (fun t ht hW => ⟨some (.int x66), rfl, ⟨x66, rfl, trivial⟩, by rw [ht]; exact hw.1, hw.2.F ht⟩) hw.2.2.2 dX6_waysFrom_67
          refine lv_icmp_ne (tgt := 57) hx hb dX6_waysFrom_50 (by decide) (fun c50 => ?_) (fun c50 => ?_)
          · refine lv_iconst (v := 2) hx hb dX6_waysFrom_57 (by decide) ?_
            exact J58 (2 : Int32) bp1 (show iv 2 1 2 from ⟨by decide, by decide⟩) s.heap [] hw _ (lv_sub hl [2, 3, 4] rfl)
          · have r50fq : iv xp2 15 15 := (iv_both (iv_any xp2) (iv_eq bp1 c50.symm)).mono (by decide) (by decide)
            refine lv_iconst (v := 1) hx hb dX6_waysFrom_53 (by decide) ?_
            refine lv_goto (tgt := 58) hx hb dX6_waysFrom_54 (by decide) ?_
            exact J58 (1 : Int32) bp1 (show iv 1 1 2 from ⟨by decide, by decide⟩) s.heap [] hw _ (lv_sub hl [2, 3, 4] rfl)
    · have r9fp : iv x6 0 15 := (iv_le_l (iv_nlt c9) bx6 bp1).mono (by decide) (by decide)
      exact J12 s.heap [] hw _ (lv_sub hl [] rfl)
abbrev WX6_waysFrom_14 (p : Program) (l : Launch) (e : Env) (s : State) (m : MethodId) (below : List Frame) (meth : Method) (c : Code) (D : hp_D) (T : hp_T) (ap0 : Nat) (xp1 : Int32) (xp2 : Int32) (H : Heap) (locs : List Loc) (g : JFrame) : Prop := W p l e (headSpec wsX6_waysFrom ({ frames := 2, cells := 0, slots := 0, locals := 50 })).room s m ([.ref ap0, .int xp1, .int xp2] : List Value).toArray below meth c H locs 0 0 (MQ below (hq_e D T (fun v _ _ => ∃ r : Int32, v = some (.int r) ∧ True)) ([.ref ap0, .int xp1, .int xp2] : List Value).toArray s 0 0 (hp_F T)) g
set_option maxHeartbeats 4000000 in
set_option maxRecDepth 100000 in
theorem sX6_waysFrom_14 (l : Launch) (D : hp_D) (T : hp_T) (ap0 : Nat) (xp1 : Int32) (xp2 : Int32) (ip0 : isShuns T ap0) (bp1 : iv xp1 14 14) : Met l yX6_waysFrom wsX6_waysFrom ({ frames := 2, cells := 0, slots := 0, locals := 50 }) (hp_Pc D T [.ref ap0, .int xp1, .int xp2] (fun _ => True)) (hq_e D T (fun v _ _ => ∃ r : Int32, v = some (.int r) ∧ True)) 0 0 (hp_F T) := by
  obtain ⟨ap0le, ap0gr, ap0du, ap0it, ap0op, hp0, hp0le, hp0gr, hp0du, hp0it, hp0op⟩ := id ip0
  refine Met.ofW (cc := cX6_waysFrom) (maxL := 6) (ret := (some .int)) (by decide) rfl ?_
  intro p e s m args below meth c s₁ B hml hv
  obtain ⟨rfl, hok, hG, hB⟩ := hv
  have hx := B.exec
  have hb := B.bytes
  have hr := B.returns
  have hts := atoms_spec (ws := wsX6_waysFrom) B.pre
  have hown : s.vm.findClass RX6 = some m.cls := findClass_of_methodNamed B.named
  have hlocks := B.notSynchronized
  have hK := hG.1
  have hw : hp_w D T s s.heap [] := hp_w.rf hok
  have IX6 : ∀ w ∈ wsX60, w ∈ wsX6_waysFrom := by decide +kernel
  have L9 := hts (.fieldLink RX6 9 "PalmCensus$Shuns" "twos" "I") (by decide +kernel)
  have L15 := hts (.fieldLink RX6 15 "PalmCensus$Shuns" "lesser" "[I") (by decide +kernel)
  have L19 := hts (.fieldLink RX6 19 "PalmCensus$Shuns" "greater" "[I") (by decide +kernel)
  have L25 := hts (.fieldLink RX6 25 "PalmCensus$Shuns" "isTold" "[Z") (by decide +kernel)
  have L29 := hts (.fieldLink RX6 29 "PalmCensus$Shuns" "open" "[I") (by decide +kernel)
  have L22 := hts (.fieldLink RX6 22 "PalmCensus$Shuns" "due" "[I") (by decide +kernel)
  have hl := lv_entry ([.ref ap0, .int xp1, .int xp2]) (n := 6) (Nat.le_of_ble_eq_true rfl)
  rw [lg_entry_eq]
  generalize (lg_sl ([.ref ap0, .int xp1, .int xp2]) ++ List.replicate (6 - (lg_sl ([.ref ap0, .int xp1, .int xp2])).length) Slot.unset).toArray = ls at hl ⊢
  have hl : lv_has ls 6 [(0, .ref ap0), (1, .int xp1), (2, .int xp2)] := hl
  show WX6_waysFrom_14 p l e s m below meth c D T ap0 xp1 xp2 s.heap [] (F0 m 0 ls [])
  refine lv_iload_n hx hb dX6_waysFrom_0 rfl (lv_at hl 1 rfl) ?_
  have J12 : ∀ (H : Heap) (locs : List Loc), hp_w D T s H locs → ∀ (ls : Array Slot), lv_has ls 6 [] → WX6_waysFrom_14 p l e s m below meth c D T ap0 xp1 xp2 H locs (F0 m 12 ls []) := by
    intro H12 locs12 hw ls hl
    refine lv_iconst (v := 1) hx hb dX6_waysFrom_12 (by decide) ?_
    exact W.iret (v := 1) hx hb hr (fun t ht hW => ⟨some (.int 1), rfl, ⟨(1 : Int32), rfl, trivial⟩, by rw [ht]; exact hw.1, hw.2.F ht⟩) hw.2.2.2 dX6_waysFrom_13
  refine lv_if_lt (tgt := 12) hx hb dX6_waysFrom_1 (by decide) (fun c1 => ?_) (fun c1 => ?_)
  · exact iv_abs (iv_lt_l c1 bp1 (show iv 0 0 0 from ⟨by decide, by decide⟩)) (by decide)
  · refine lv_iload_n hx hb dX6_waysFrom_4 rfl (lv_at hl 1 rfl) ?_
    refine lv_aload_n hx hb dX6_waysFrom_5 rfl (lv_at hl 0 rfl) ?_
    refine hp_geti hx hb hts IX6 hown hK hw.1 hp0 rfl 0 (by decide) L9 rfl dX6_waysFrom_6 (fun x6 bx6 fx6 => ?_)
    refine lv_icmp_lt (tgt := 14) hx hb dX6_waysFrom_9 (by decide) (fun c9 => ?_) (fun c9 => ?_)
    · have r9tq : iv x6 15 16 := (iv_lt_r c9 bp1 bx6).mono (by decide) (by decide)
      refine lv_aload_n hx hb dX6_waysFrom_14 rfl (lv_at hl 0 rfl) ?_
      refine hp_getr hx hb hts IX6 hown hK hw.1 hp0 rfl 1 (by decide) L15 rfl dX6_waysFrom_15 ?_
      refine lv_iload_n hx hb dX6_waysFrom_18 rfl (lv_at hl 1 rfl) ?_
      refine hp_ialdI hx hb hK hw.1 hp0le (vp_iv bp1 (by decide)) dX6_waysFrom_19 (fun x19 bx19 => ?_)
      refine lv_istore_n (lv' := [(3, .int x19), (0, .ref ap0), (1, .int xp1), (2, .int xp2)]) hx hb dX6_waysFrom_20 rfl hl (by decide) rfl (fun ls hl => ?_)
      refine lv_aload_n hx hb dX6_waysFrom_21 rfl (lv_at hl 1 rfl) ?_
      refine hp_getr hx hb hts IX6 hown hK hw.1 hp0 rfl 2 (by decide) L19 rfl dX6_waysFrom_22 ?_
      refine lv_iload_n hx hb dX6_waysFrom_25 rfl (lv_at hl 2 rfl) ?_
      refine hp_ialdI hx hb hK hw.1 hp0gr (vp_iv bp1 (by decide)) dX6_waysFrom_26 (fun x26 bx26 => ?_)
      refine lv_istore (lv' := [(4, .int x26), (3, .int x19), (0, .ref ap0), (1, .int xp1), (2, .int xp2)]) hx hb dX6_waysFrom_27 hl (by decide) rfl (fun ls hl => ?_)
      refine lv_aload_n hx hb dX6_waysFrom_29 rfl (lv_at hl 2 rfl) ?_
      refine hp_getr hx hb hts IX6 hown hK hw.1 hp0 rfl 4 (by decide) L25 rfl dX6_waysFrom_30 ?_
      refine lv_iload_n hx hb dX6_waysFrom_33 rfl (lv_at hl 1 rfl) ?_
      refine hp_zaldA hx hb hK hw.1 hp0it (vp_iv bx19 (by decide)) dX6_waysFrom_34 (fun x34 => ?_)
      have J68 : iv xp1 14 14 → iv x19 0 9 → iv x26 0 9 → ∀ (H : Heap) (locs : List Loc), hp_w D T s H locs → ∀ (ls : Array Slot), lv_has ls 6 [(0, .ref ap0), (1, .int xp1), (2, .int xp2), (3, .int x19), (4, .int x26)] → WX6_waysFrom_14 p l e s m below meth c D T ap0 xp1 xp2 H locs (F0 m 68 ls []) := by
        intro c68_xp1 c68_x19 c68_x26 H68 locs68 hw ls hl
        refine lv_aload_n hx hb dX6_waysFrom_68 rfl (lv_at hl 0 rfl) ?_
        refine hp_getr hx hb hts IX6 hown hK hw.1 hp0 rfl 5 (by decide) L29 rfl dX6_waysFrom_69 ?_
        refine lv_iload_n hx hb dX6_waysFrom_72 rfl (lv_at hl 3 rfl) ?_
        refine lv_dup2_11 hx hb dX6_waysFrom_73 rfl rfl ?_
        refine hp_ialdA hx hb hK hw.1 hp0op (vp_iv c68_x19 (by decide)) dX6_waysFrom_74 (fun x74 => ?_)
        refine lv_iconst (v := 1) hx hb dX6_waysFrom_75 (by decide) ?_
        refine lv_isub hx hb dX6_waysFrom_76 ?_
        refine lv_topi (fun x76 ex76 => ?_)
        refine hp_iast hx hb hK hw hp0op (vp_iv c68_x19 (by decide)) ⟨_, rfl⟩ dX6_waysFrom_77 (fun H77 locs77 hw g77 => ?_)
        refine lv_aload_n hx hb dX6_waysFrom_78 rfl (lv_at hl 0 rfl) ?_
        refine hp_getr hx hb hts IX6 hown hK hw.1 hp0 rfl 5 (by decide) L29 rfl dX6_waysFrom_79 ?_
        refine lv_iload hx hb dX6_waysFrom_82 (lv_at hl 4 rfl) ?_
        refine lv_dup2_11 hx hb dX6_waysFrom_84 rfl rfl ?_
        refine hp_ialdA hx hb hK hw.1 hp0op (vp_iv c68_x26 (by decide)) dX6_waysFrom_85 (fun x85 => ?_)
        refine lv_iconst (v := 1) hx hb dX6_waysFrom_86 (by decide) ?_
        refine lv_isub hx hb dX6_waysFrom_87 ?_
        refine lv_topi (fun x87 ex87 => ?_)
        refine hp_iast hx hb hK hw hp0op (vp_iv c68_x26 (by decide)) ⟨_, rfl⟩ dX6_waysFrom_88 (fun H88 locs88 hw g88 => ?_)
        refine lv_iconst (v := 0) hx hb dX6_waysFrom_89 (by decide) ?_
        refine lv_istore (lv' := [(5, .int 0), (0, .ref ap0), (1, .int xp1), (2, .int xp2), (3, .int x19), (4, .int x26)]) hx hb dX6_waysFrom_90 hl (by decide) rfl (fun ls hl => ?_)
        refine lv_iload_n hx hb dX6_waysFrom_92 rfl (lv_at hl 2 rfl) ?_
        refine lv_iload_n hx hb dX6_waysFrom_93 rfl (lv_at hl 3 rfl) ?_
        have J127 : ∀ (y127_l5 : Int32), iv xp1 14 14 → iv x19 0 9 → iv x26 0 9 → ∀ (H : Heap) (locs : List Loc), hp_w D T s H locs → ∀ (ls : Array Slot), lv_has ls 6 [(0, .ref ap0), (1, .int xp1), (2, .int xp2), (3, .int x19), (4, .int x26), (5, .int y127_l5)] → WX6_waysFrom_14 p l e s m below meth c D T ap0 xp1 xp2 H locs (F0 m 127 ls []) := by
          intro y127_l5 c127_xp1 c127_x19 c127_x26 H127 locs127 hw ls hl
          refine lv_aload_n hx hb dX6_waysFrom_127 rfl (lv_at hl 0 rfl) ?_
          refine hp_getr hx hb hts IX6 hown hK hw.1 hp0 rfl 3 (by decide) L22 rfl dX6_waysFrom_128 ?_
          refine lv_iload_n hx hb dX6_waysFrom_131 rfl (lv_at hl 3 rfl) ?_
          refine lv_dup2_11 hx hb dX6_waysFrom_132 rfl rfl ?_
          refine hp_ialdA hx hb hK hw.1 hp0du (vp_iv c127_x19 (by decide)) dX6_waysFrom_133 (fun x133 => ?_)
          refine lv_iconst (v := 1) hx hb dX6_waysFrom_134 (by decide) ?_
          refine lv_isub hx hb dX6_waysFrom_135 ?_
          refine lv_topi (fun x135 ex135 => ?_)
          refine hp_iast hx hb hK hw hp0du (vp_iv c127_x19 (by decide)) ⟨_, rfl⟩ dX6_waysFrom_136 (fun H136 locs136 hw g136 => ?_)
          refine lv_aload_n hx hb dX6_waysFrom_137 rfl (lv_at hl 0 rfl) ?_
          refine hp_getr hx hb hts IX6 hown hK hw.1 hp0 rfl 3 (by decide) L22 rfl dX6_waysFrom_138 ?_
          refine lv_iload hx hb dX6_waysFrom_141 (lv_at hl 4 rfl) ?_
          refine lv_dup2_11 hx hb dX6_waysFrom_143 rfl rfl ?_
          refine hp_ialdA hx hb hK hw.1 hp0du (vp_iv c127_x26 (by decide)) dX6_waysFrom_144 (fun x144 => ?_)
          refine lv_iconst (v := 1) hx hb dX6_waysFrom_145 (by decide) ?_
          refine lv_isub hx hb dX6_waysFrom_146 ?_
          refine lv_topi (fun x146 ex146 => ?_)
          refine hp_iast hx hb hK hw hp0du (vp_iv c127_x26 (by decide)) ⟨_, rfl⟩ dX6_waysFrom_147 (fun H147 locs147 hw g147 => ?_)
          refine lv_aload_n hx hb dX6_waysFrom_148 rfl (lv_at hl 0 rfl) ?_
          refine lv_iload_n hx hb dX6_waysFrom_149 rfl (lv_at hl 3 rfl) ?_
          refine hp_callpi (va_runV (As := [.int x19]) (rest := []) ⟨hx, hb, hml, hown, hts⟩ (sX6_canStillBe l D T ap0 x19 ip0 c127_x19) (cwV 1 hts gX6_waysFrom_X6_canStillBe rfl rfl rfl (by decide +kernel) ⟨Nat.le_of_ble_eq_true rfl, Nat.le_of_ble_eq_true rfl⟩) (hp_preV hG hw hp0 rfl trivial) rfl rfl hl.1 rfl (lv_room (Nat.le_of_ble_eq_true rfl)) dX6_waysFrom_150 ⟨Nat.zero_le _, Nat.zero_le _⟩) (fun x150 bx150 => ?_)
          have J178 : ∀ (y178_l5 : Int32), iv x19 0 9 → iv x26 0 9 → ∀ (H : Heap) (locs : List Loc), hp_w D T s H locs → ∀ (ls : Array Slot), lv_has ls 6 [(0, .ref ap0), (3, .int x19), (4, .int x26), (5, .int y178_l5)] → WX6_waysFrom_14 p l e s m below meth c D T ap0 xp1 xp2 H locs (F0 m 178 ls []) := by
            intro y178_l5 c178_x19 c178_x26 H178 locs178 hw ls hl
            refine lv_aload_n hx hb dX6_waysFrom_178 rfl (lv_at hl 0 rfl) ?_
            refine hp_getr hx hb hts IX6 hown hK hw.1 hp0 rfl 3 (by decide) L22 rfl dX6_waysFrom_179 ?_
            refine lv_iload_n hx hb dX6_waysFrom_182 rfl (lv_at hl 1 rfl) ?_
            refine lv_dup2_11 hx hb dX6_waysFrom_183 rfl rfl ?_
            refine hp_ialdA hx hb hK hw.1 hp0du (vp_iv c178_x19 (by decide)) dX6_waysFrom_184 (fun x184 => ?_)
            refine lv_iconst (v := 1) hx hb dX6_waysFrom_185 (by decide) ?_
            refine lv_iadd hx hb dX6_waysFrom_186 ?_
            refine lv_topi (fun x186 ex186 => ?_)
            refine hp_iast hx hb hK hw hp0du (vp_iv c178_x19 (by decide)) ⟨_, rfl⟩ dX6_waysFrom_187 (fun H187 locs187 hw g187 => ?_)
            refine lv_aload_n hx hb dX6_waysFrom_188 rfl (lv_at hl 0 rfl) ?_
            refine hp_getr hx hb hts IX6 hown hK hw.1 hp0 rfl 3 (by decide) L22 rfl dX6_waysFrom_189 ?_
            refine lv_iload hx hb dX6_waysFrom_192 (lv_at hl 2 rfl) ?_
            refine lv_dup2_11 hx hb dX6_waysFrom_194 rfl rfl ?_
            refine hp_ialdA hx hb hK hw.1 hp0du (vp_iv c178_x26 (by decide)) dX6_waysFrom_195 (fun x195 => ?_)
            refine lv_iconst (v := 1) hx hb dX6_waysFrom_196 (by decide) ?_
            refine lv_iadd hx hb dX6_waysFrom_197 ?_
            refine lv_topi (fun x197 ex197 => ?_)
            refine hp_iast hx hb hK hw hp0du (vp_iv c178_x26 (by decide)) ⟨_, rfl⟩ dX6_waysFrom_198 (fun H198 locs198 hw g198 => ?_)
            refine lv_aload_n hx hb dX6_waysFrom_199 rfl (lv_at hl 0 rfl) ?_
            refine hp_getr hx hb hts IX6 hown hK hw.1 hp0 rfl 5 (by decide) L29 rfl dX6_waysFrom_200 ?_
            refine lv_iload_n hx hb dX6_waysFrom_203 rfl (lv_at hl 1 rfl) ?_
            refine lv_dup2_11 hx hb dX6_waysFrom_204 rfl rfl ?_
            refine hp_ialdA hx hb hK hw.1 hp0op (vp_iv c178_x19 (by decide)) dX6_waysFrom_205 (fun x205 => ?_)
            refine lv_iconst (v := 1) hx hb dX6_waysFrom_206 (by decide) ?_
            refine lv_iadd hx hb dX6_waysFrom_207 ?_
            refine lv_topi (fun x207 ex207 => ?_)
            refine hp_iast hx hb hK hw hp0op (vp_iv c178_x19 (by decide)) ⟨_, rfl⟩ dX6_waysFrom_208 (fun H208 locs208 hw g208 => ?_)
            refine lv_aload_n hx hb dX6_waysFrom_209 rfl (lv_at hl 0 rfl) ?_
            refine hp_getr hx hb hts IX6 hown hK hw.1 hp0 rfl 5 (by decide) L29 rfl dX6_waysFrom_210 ?_
            refine lv_iload hx hb dX6_waysFrom_213 (lv_at hl 2 rfl) ?_
            refine lv_dup2_11 hx hb dX6_waysFrom_215 rfl rfl ?_
            refine hp_ialdA hx hb hK hw.1 hp0op (vp_iv c178_x26 (by decide)) dX6_waysFrom_216 (fun x216 => ?_)
            refine lv_iconst (v := 1) hx hb dX6_waysFrom_217 (by decide) ?_
            refine lv_iadd hx hb dX6_waysFrom_218 ?_
            refine lv_topi (fun x218 ex218 => ?_)
            refine hp_iast hx hb hK hw hp0op (vp_iv c178_x26 (by decide)) ⟨_, rfl⟩ dX6_waysFrom_219 (fun H219 locs219 hw g219 => ?_)
            refine lv_iload hx hb dX6_waysFrom_220 (lv_at hl 3 rfl) ?_
            exact W.iret (v := y178_l5) hx hb hr (fun t ht hW => ⟨some (.int y178_l5), rfl, ⟨y178_l5, rfl, trivial⟩, by rw [ht]; exact hw.1, hw.2.F ht⟩) hw.2.2.2 dX6_waysFrom_222
          refine lv_if_eq (tgt := 178) hx hb dX6_waysFrom_153 (by decide) (fun c153 => ?_) (fun c153 => ?_)
          · have r153tp : iv x150 0 0 := (iv_both bx150 (iv_eq (show iv 0 0 0 from ⟨by decide, by decide⟩) c153)).mono (by decide) (by decide)
            exact J178 y127_l5 c127_x19 c127_x26 H147 locs147 hw _ (lv_sub hl [0, 3, 4, 5] rfl)
          · have r153fp : iv x150 1 1 := (iv_ne_lo c153 bx150 rfl).mono (by decide) (by decide)
            refine lv_aload_n hx hb dX6_waysFrom_156 rfl (lv_at hl 0 rfl) ?_
            refine lv_iload hx hb dX6_waysFrom_157 (lv_at hl 4 rfl) ?_
            refine hp_callpi (va_runV (As := [.int x26]) (rest := []) ⟨hx, hb, hml, hown, hts⟩ (sX6_canStillBe l D T ap0 x26 ip0 c127_x26) (cwV 1 hts gX6_waysFrom_X6_canStillBe rfl rfl rfl (by decide +kernel) ⟨Nat.le_of_ble_eq_true rfl, Nat.le_of_ble_eq_true rfl⟩) (hp_preV hG hw hp0 rfl trivial) rfl rfl hl.1 rfl (lv_room (Nat.le_of_ble_eq_true rfl)) dX6_waysFrom_159 ⟨Nat.zero_le _, Nat.zero_le _⟩) (fun x159 bx159 => ?_)
            refine lv_if_eq (tgt := 178) hx hb dX6_waysFrom_162 (by decide) (fun c162 => ?_) (fun c162 => ?_)
            · have r162tp : iv x159 0 0 := (iv_both bx159 (iv_eq (show iv 0 0 0 from ⟨by decide, by decide⟩) c162)).mono (by decide) (by decide)
              exact J178 y127_l5 c127_x19 c127_x26 H147 locs147 hw _ (lv_sub hl [0, 3, 4, 5] rfl)
            · have r162fp : iv x159 1 1 := (iv_ne_lo c162 bx159 rfl).mono (by decide) (by decide)
              refine lv_iload hx hb dX6_waysFrom_165 (lv_at hl 5 rfl) ?_
              refine lv_aload_n hx hb dX6_waysFrom_167 rfl (lv_at hl 0 rfl) ?_
              refine lv_iload_n hx hb dX6_waysFrom_168 rfl (lv_at hl 1 rfl) ?_
              refine lv_iconst (v := 1) hx hb dX6_waysFrom_169 (by decide) ?_
              refine lv_iadd hx hb dX6_waysFrom_170 ?_
              refine lv_topi (fun x170 ex170 => ?_)
              have bx170 : iv x170 15 15 := iv_add c127_xp1 (show iv 1 1 1 from ⟨by decide, by decide⟩) ex170 (by decide)
              have qx170 := iv_add_eq c127_xp1 (show iv 1 1 1 from ⟨by decide, by decide⟩) ex170 (by decide)
              refine lv_iload_n hx hb dX6_waysFrom_171 rfl (lv_at hl 2 rfl) ?_
              refine hp_callei (va_runV (As := [.int x170, .int xp2]) (rest := [.int y127_l5]) ⟨hx, hb, hml, hown, hts⟩ (sX6_waysFrom_15 l D T ap0 x170 xp2 ip0 bx170) (cwV 2 hts gX6_waysFrom_X6_waysFrom rfl rfl rfl (by decide +kernel) ⟨Nat.le_of_ble_eq_true rfl, Nat.le_of_ble_eq_true rfl⟩) (hp_preV hG hw hp0 rfl trivial) rfl rfl hl.1 rfl (lv_room (Nat.le_of_ble_eq_true rfl)) dX6_waysFrom_172 ⟨Nat.zero_le _, Nat.zero_le _⟩) hw (fun x172 st172 t172 H172 locs172 eh172 eg172 bx172 hw => ?_)
              refine lv_iadd hx hb dX6_waysFrom_175 ?_
              refine lv_topi (fun x175 ex175 => ?_)
              refine lv_istore (lv' := [(5, .int x175), (0, .ref ap0), (1, .int xp1), (2, .int xp2), (3, .int x19), (4, .int x26)]) hx hb dX6_waysFrom_176 hl (by decide) rfl (fun ls hl => ?_)
              exact J178 x175 c127_x19 c127_x26 H172 locs172 hw _ (lv_sub hl [1, 4, 5, 0] rfl)
        refine lv_icmp_eq (tgt := 127) hx hb dX6_waysFrom_94 (by decide) (fun c94 => ?_) (fun c94 => ?_)
        · have r94tq : iv xp2 14 14 := (iv_both (iv_any xp2) (iv_eq c68_xp1 c94.symm)).mono (by decide) (by decide)
          exact J127 (0 : Int32) c68_xp1 c68_x19 c68_x26 H88 locs88 hw _ (lv_sub hl [1, 2, 3, 4, 5, 0] rfl)
        · refine lv_aload_n hx hb dX6_waysFrom_97 rfl (lv_at hl 1 rfl) ?_
          refine lv_iload_n hx hb dX6_waysFrom_98 rfl (lv_at hl 4 rfl) ?_
          refine hp_callpi (va_runV (As := [.int x19]) (rest := []) ⟨hx, hb, hml, hown, hts⟩ (sX6_canStillBe l D T ap0 x19 ip0 c68_x19) (cwV 1 hts gX6_waysFrom_X6_canStillBe rfl rfl rfl (by decide +kernel) ⟨Nat.le_of_ble_eq_true rfl, Nat.le_of_ble_eq_true rfl⟩) (hp_preV hG hw hp0 rfl trivial) rfl rfl hl.1 rfl (lv_room (Nat.le_of_ble_eq_true rfl)) dX6_waysFrom_99 ⟨Nat.zero_le _, Nat.zero_le _⟩) (fun x99 bx99 => ?_)
          refine lv_if_eq (tgt := 127) hx hb dX6_waysFrom_102 (by decide) (fun c102 => ?_) (fun c102 => ?_)
          · have r102tp : iv x99 0 0 := (iv_both bx99 (iv_eq (show iv 0 0 0 from ⟨by decide, by decide⟩) c102)).mono (by decide) (by decide)
            exact J127 (0 : Int32) c68_xp1 c68_x19 c68_x26 H88 locs88 hw _ (lv_sub hl [1, 2, 3, 4, 5, 0] rfl)
          · have r102fp : iv x99 1 1 := (iv_ne_lo c102 bx99 rfl).mono (by decide) (by decide)
            refine lv_aload_n hx hb dX6_waysFrom_105 rfl (lv_at hl 1 rfl) ?_
            refine lv_iload hx hb dX6_waysFrom_106 (lv_at hl 5 rfl) ?_
            refine hp_callpi (va_runV (As := [.int x26]) (rest := []) ⟨hx, hb, hml, hown, hts⟩ (sX6_canStillBe l D T ap0 x26 ip0 c68_x26) (cwV 1 hts gX6_waysFrom_X6_canStillBe rfl rfl rfl (by decide +kernel) ⟨Nat.le_of_ble_eq_true rfl, Nat.le_of_ble_eq_true rfl⟩) (hp_preV hG hw hp0 rfl trivial) rfl rfl hl.1 rfl (lv_room (Nat.le_of_ble_eq_true rfl)) dX6_waysFrom_108 ⟨Nat.zero_le _, Nat.zero_le _⟩) (fun x108 bx108 => ?_)
            refine lv_if_eq (tgt := 127) hx hb dX6_waysFrom_111 (by decide) (fun c111 => ?_) (fun c111 => ?_)
            · have r111tp : iv x108 0 0 := (iv_both bx108 (iv_eq (show iv 0 0 0 from ⟨by decide, by decide⟩) c111)).mono (by decide) (by decide)
              exact J127 (0 : Int32) c68_xp1 c68_x19 c68_x26 H88 locs88 hw _ (lv_sub hl [1, 2, 3, 4, 5, 0] rfl)
            · have r111fp : iv x108 1 1 := (iv_ne_lo c111 bx108 rfl).mono (by decide) (by decide)
              refine lv_iload hx hb dX6_waysFrom_114 (lv_at hl 0 rfl) ?_
              refine lv_aload_n hx hb dX6_waysFrom_116 rfl (lv_at hl 1 rfl) ?_
              refine lv_iload_n hx hb dX6_waysFrom_117 rfl (lv_at hl 2 rfl) ?_
              refine lv_iconst (v := 1) hx hb dX6_waysFrom_118 (by decide) ?_
              refine lv_iadd hx hb dX6_waysFrom_119 ?_
              refine lv_topi (fun x119 ex119 => ?_)
              have bx119 : iv x119 15 15 := iv_add c68_xp1 (show iv 1 1 1 from ⟨by decide, by decide⟩) ex119 (by decide)
              have qx119 := iv_add_eq c68_xp1 (show iv 1 1 1 from ⟨by decide, by decide⟩) ex119 (by decide)
              refine lv_iload_n hx hb dX6_waysFrom_120 rfl (lv_at hl 3 rfl) ?_
              refine hp_callei (va_runV (As := [.int x119, .int xp2]) (rest := [.int 0]) ⟨hx, hb, hml, hown, hts⟩ (sX6_waysFrom_15 l D T ap0 x119 xp2 ip0 bx119) (cwV 2 hts gX6_waysFrom_X6_waysFrom rfl rfl rfl (by decide +kernel) ⟨Nat.le_of_ble_eq_true rfl, Nat.le_of_ble_eq_true rfl⟩) (hp_preV hG hw hp0 rfl trivial) rfl rfl hl.1 rfl (lv_room (Nat.le_of_ble_eq_true rfl)) dX6_waysFrom_121 ⟨Nat.zero_le _, Nat.zero_le _⟩) hw (fun x121 st121 t121 H121 locs121 eh121 eg121 bx121 hw => ?_)
              refine lv_iadd hx hb dX6_waysFrom_124 ?_
              refine lv_topi (fun x124 ex124 => ?_)
              have qx124 := iv_add_eq (show iv 0 0 0 from ⟨by decide, by decide⟩) (iv_any x121) ex124 (by decide)
              refine lv_istore (lv' := [(5, .int x124), (0, .ref ap0), (1, .int xp1), (2, .int xp2), (3, .int x19), (4, .int x26)]) hx hb dX6_waysFrom_125 hl (by decide) rfl (fun ls hl => ?_)
              exact J127 x124 c68_xp1 c68_x19 c68_x26 H121 locs121 hw _ (lv_sub hl [1, 2, 3, 4, 5, 0] rfl)
      refine lv_if_ne (tgt := 68) hx hb dX6_waysFrom_35 (by decide) (fun c35 => ?_) (fun c35 => ?_)
      · exact J68 bp1 bx19 bx26 s.heap [] hw _ (lv_sub hl [2, 3, 4, 1, 0] rfl)
      · have r35fp : iv x34 0 0 := (iv_both (iv_any x34) (iv_eq (show iv 0 0 0 from ⟨by decide, by decide⟩) c35)).mono (by decide) (by decide)
        refine lv_aload_n hx hb dX6_waysFrom_38 rfl (lv_at hl 2 rfl) ?_
        refine hp_getr hx hb hts IX6 hown hK hw.1 hp0 rfl 4 (by decide) L25 rfl dX6_waysFrom_39 ?_
        refine lv_iload hx hb dX6_waysFrom_42 (lv_at hl 0 rfl) ?_
        refine hp_zaldA hx hb hK hw.1 hp0it (vp_iv bx26 (by decide)) dX6_waysFrom_44 (fun x44 => ?_)
        refine lv_if_ne (tgt := 68) hx hb dX6_waysFrom_45 (by decide) (fun c45 => ?_) (fun c45 => ?_)
        · exact J68 bp1 bx19 bx26 s.heap [] hw _ (lv_sub hl [2, 3, 4, 1, 0] rfl)
        · have r45fp : iv x44 0 0 := (iv_both (iv_any x44) (iv_eq (show iv 0 0 0 from ⟨by decide, by decide⟩) c45)).mono (by decide) (by decide)
          refine lv_iload_n hx hb dX6_waysFrom_48 rfl (lv_at hl 3 rfl) ?_
          refine lv_iload_n hx hb dX6_waysFrom_49 rfl (lv_at hl 4 rfl) ?_
          have J58 : ∀ (y58_s0 : Int32), iv xp1 14 14 → iv y58_s0 1 2 → ∀ (H : Heap) (locs : List Loc), hp_w D T s H locs → ∀ (ls : Array Slot), lv_has ls 6 [(0, .ref ap0), (1, .int xp1), (2, .int xp2)] → WX6_waysFrom_14 p l e s m below meth c D T ap0 xp1 xp2 H locs (F0 m 58 ls [.int y58_s0]) := by
            intro y58_s0 c58_xp1 c58_y58_s0 H58 locs58 hw ls hl
            refine lv_aload_n hx hb dX6_waysFrom_58 rfl (lv_at hl 0 rfl) ?_
            refine lv_iload_n hx hb dX6_waysFrom_59 rfl (lv_at hl 1 rfl) ?_
            refine lv_iconst (v := 1) hx hb dX6_waysFrom_60 (by decide) ?_
            refine lv_iadd hx hb dX6_waysFrom_61 ?_
            refine lv_topi (fun x61 ex61 => ?_)
            have bx61 : iv x61 15 15 := iv_add c58_xp1 (show iv 1 1 1 from ⟨by decide, by decide⟩) ex61 (by decide)
            have qx61 := iv_add_eq c58_xp1 (show iv 1 1 1 from ⟨by decide, by decide⟩) ex61 (by decide)
            refine lv_iload_n hx hb dX6_waysFrom_62 rfl (lv_at hl 2 rfl) ?_
            refine hp_callei (va_runV (As := [.int x61, .int xp2]) (rest := [.int y58_s0]) ⟨hx, hb, hml, hown, hts⟩ (sX6_waysFrom_15 l D T ap0 x61 xp2 ip0 bx61) (cwV 2 hts gX6_waysFrom_X6_waysFrom rfl rfl rfl (by decide +kernel) ⟨Nat.le_of_ble_eq_true rfl, Nat.le_of_ble_eq_true rfl⟩) (hp_preV hG hw hp0 rfl trivial) rfl rfl hl.1 rfl (lv_room (Nat.le_of_ble_eq_true rfl)) dX6_waysFrom_63 ⟨Nat.zero_le _, Nat.zero_le _⟩) hw (fun x63 st63 t63 H63 locs63 eh63 eg63 bx63 hw => ?_)
            refine lv_imul hx hb dX6_waysFrom_66 ?_
            refine lv_topi (fun x66 ex66 => ?_)
            exact W.iret (v := x66) hx hb hr (fun t ht hW => ⟨some (.int x66), rfl, ⟨x66, rfl, trivial⟩, by rw [ht]; exact hw.1, hw.2.F ht⟩) hw.2.2.2 dX6_waysFrom_67
          refine lv_icmp_ne (tgt := 57) hx hb dX6_waysFrom_50 (by decide) (fun c50 => ?_) (fun c50 => ?_)
          · refine lv_iconst (v := 2) hx hb dX6_waysFrom_57 (by decide) ?_
            exact J58 (2 : Int32) bp1 (show iv 2 1 2 from ⟨by decide, by decide⟩) s.heap [] hw _ (lv_sub hl [2, 3, 4] rfl)
          · have r50fq : iv xp2 14 14 := (iv_both (iv_any xp2) (iv_eq bp1 c50.symm)).mono (by decide) (by decide)
            refine lv_iconst (v := 1) hx hb dX6_waysFrom_53 (by decide) ?_
            refine lv_goto (tgt := 58) hx hb dX6_waysFrom_54 (by decide) ?_
            exact J58 (1 : Int32) bp1 (show iv 1 1 2 from ⟨by decide, by decide⟩) s.heap [] hw _ (lv_sub hl [2, 3, 4] rfl)
    · have r9fp : iv x6 0 14 := (iv_le_l (iv_nlt c9) bx6 bp1).mono (by decide) (by decide)
      exact J12 s.heap [] hw _ (lv_sub hl [] rfl)
abbrev WX6_waysFrom_13 (p : Program) (l : Launch) (e : Env) (s : State) (m : MethodId) (below : List Frame) (meth : Method) (c : Code) (D : hp_D) (T : hp_T) (ap0 : Nat) (xp1 : Int32) (xp2 : Int32) (H : Heap) (locs : List Loc) (g : JFrame) : Prop := W p l e (headSpec wsX6_waysFrom ({ frames := 3, cells := 0, slots := 0, locals := 75 })).room s m ([.ref ap0, .int xp1, .int xp2] : List Value).toArray below meth c H locs 0 0 (MQ below (hq_e D T (fun v _ _ => ∃ r : Int32, v = some (.int r) ∧ True)) ([.ref ap0, .int xp1, .int xp2] : List Value).toArray s 0 0 (hp_F T)) g
set_option maxHeartbeats 4000000 in
set_option maxRecDepth 100000 in
theorem sX6_waysFrom_13 (l : Launch) (D : hp_D) (T : hp_T) (ap0 : Nat) (xp1 : Int32) (xp2 : Int32) (ip0 : isShuns T ap0) (bp1 : iv xp1 13 13) : Met l yX6_waysFrom wsX6_waysFrom ({ frames := 3, cells := 0, slots := 0, locals := 75 }) (hp_Pc D T [.ref ap0, .int xp1, .int xp2] (fun _ => True)) (hq_e D T (fun v _ _ => ∃ r : Int32, v = some (.int r) ∧ True)) 0 0 (hp_F T) := by
  obtain ⟨ap0le, ap0gr, ap0du, ap0it, ap0op, hp0, hp0le, hp0gr, hp0du, hp0it, hp0op⟩ := id ip0
  refine Met.ofW (cc := cX6_waysFrom) (maxL := 6) (ret := (some .int)) (by decide) rfl ?_
  intro p e s m args below meth c s₁ B hml hv
  obtain ⟨rfl, hok, hG, hB⟩ := hv
  have hx := B.exec
  have hb := B.bytes
  have hr := B.returns
  have hts := atoms_spec (ws := wsX6_waysFrom) B.pre
  have hown : s.vm.findClass RX6 = some m.cls := findClass_of_methodNamed B.named
  have hlocks := B.notSynchronized
  have hK := hG.1
  have hw : hp_w D T s s.heap [] := hp_w.rf hok
  have IX6 : ∀ w ∈ wsX60, w ∈ wsX6_waysFrom := by decide +kernel
  have L9 := hts (.fieldLink RX6 9 "PalmCensus$Shuns" "twos" "I") (by decide +kernel)
  have L15 := hts (.fieldLink RX6 15 "PalmCensus$Shuns" "lesser" "[I") (by decide +kernel)
  have L19 := hts (.fieldLink RX6 19 "PalmCensus$Shuns" "greater" "[I") (by decide +kernel)
  have L25 := hts (.fieldLink RX6 25 "PalmCensus$Shuns" "isTold" "[Z") (by decide +kernel)
  have L29 := hts (.fieldLink RX6 29 "PalmCensus$Shuns" "open" "[I") (by decide +kernel)
  have L22 := hts (.fieldLink RX6 22 "PalmCensus$Shuns" "due" "[I") (by decide +kernel)
  have hl := lv_entry ([.ref ap0, .int xp1, .int xp2]) (n := 6) (Nat.le_of_ble_eq_true rfl)
  rw [lg_entry_eq]
  generalize (lg_sl ([.ref ap0, .int xp1, .int xp2]) ++ List.replicate (6 - (lg_sl ([.ref ap0, .int xp1, .int xp2])).length) Slot.unset).toArray = ls at hl ⊢
  have hl : lv_has ls 6 [(0, .ref ap0), (1, .int xp1), (2, .int xp2)] := hl
  show WX6_waysFrom_13 p l e s m below meth c D T ap0 xp1 xp2 s.heap [] (F0 m 0 ls [])
  refine lv_iload_n hx hb dX6_waysFrom_0 rfl (lv_at hl 1 rfl) ?_
  have J12 : ∀ (H : Heap) (locs : List Loc), hp_w D T s H locs → ∀ (ls : Array Slot), lv_has ls 6 [] → WX6_waysFrom_13 p l e s m below meth c D T ap0 xp1 xp2 H locs (F0 m 12 ls []) := by
    intro H12 locs12 hw ls hl
    refine lv_iconst (v := 1) hx hb dX6_waysFrom_12 (by decide) ?_
    exact W.iret (v := 1) hx hb hr (fun t ht hW => ⟨some (.int 1), rfl, ⟨(1 : Int32), rfl, trivial⟩, by rw [ht]; exact hw.1, hw.2.F ht⟩) hw.2.2.2 dX6_waysFrom_13
  refine lv_if_lt (tgt := 12) hx hb dX6_waysFrom_1 (by decide) (fun c1 => ?_) (fun c1 => ?_)
  · exact iv_abs (iv_lt_l c1 bp1 (show iv 0 0 0 from ⟨by decide, by decide⟩)) (by decide)
  · refine lv_iload_n hx hb dX6_waysFrom_4 rfl (lv_at hl 1 rfl) ?_
    refine lv_aload_n hx hb dX6_waysFrom_5 rfl (lv_at hl 0 rfl) ?_
    refine hp_geti hx hb hts IX6 hown hK hw.1 hp0 rfl 0 (by decide) L9 rfl dX6_waysFrom_6 (fun x6 bx6 fx6 => ?_)
    refine lv_icmp_lt (tgt := 14) hx hb dX6_waysFrom_9 (by decide) (fun c9 => ?_) (fun c9 => ?_)
    · have r9tq : iv x6 14 16 := (iv_lt_r c9 bp1 bx6).mono (by decide) (by decide)
      refine lv_aload_n hx hb dX6_waysFrom_14 rfl (lv_at hl 0 rfl) ?_
      refine hp_getr hx hb hts IX6 hown hK hw.1 hp0 rfl 1 (by decide) L15 rfl dX6_waysFrom_15 ?_
      refine lv_iload_n hx hb dX6_waysFrom_18 rfl (lv_at hl 1 rfl) ?_
      refine hp_ialdI hx hb hK hw.1 hp0le (vp_iv bp1 (by decide)) dX6_waysFrom_19 (fun x19 bx19 => ?_)
      refine lv_istore_n (lv' := [(3, .int x19), (0, .ref ap0), (1, .int xp1), (2, .int xp2)]) hx hb dX6_waysFrom_20 rfl hl (by decide) rfl (fun ls hl => ?_)
      refine lv_aload_n hx hb dX6_waysFrom_21 rfl (lv_at hl 1 rfl) ?_
      refine hp_getr hx hb hts IX6 hown hK hw.1 hp0 rfl 2 (by decide) L19 rfl dX6_waysFrom_22 ?_
      refine lv_iload_n hx hb dX6_waysFrom_25 rfl (lv_at hl 2 rfl) ?_
      refine hp_ialdI hx hb hK hw.1 hp0gr (vp_iv bp1 (by decide)) dX6_waysFrom_26 (fun x26 bx26 => ?_)
      refine lv_istore (lv' := [(4, .int x26), (3, .int x19), (0, .ref ap0), (1, .int xp1), (2, .int xp2)]) hx hb dX6_waysFrom_27 hl (by decide) rfl (fun ls hl => ?_)
      refine lv_aload_n hx hb dX6_waysFrom_29 rfl (lv_at hl 2 rfl) ?_
      refine hp_getr hx hb hts IX6 hown hK hw.1 hp0 rfl 4 (by decide) L25 rfl dX6_waysFrom_30 ?_
      refine lv_iload_n hx hb dX6_waysFrom_33 rfl (lv_at hl 1 rfl) ?_
      refine hp_zaldA hx hb hK hw.1 hp0it (vp_iv bx19 (by decide)) dX6_waysFrom_34 (fun x34 => ?_)
      have J68 : iv xp1 13 13 → iv x19 0 9 → iv x26 0 9 → ∀ (H : Heap) (locs : List Loc), hp_w D T s H locs → ∀ (ls : Array Slot), lv_has ls 6 [(0, .ref ap0), (1, .int xp1), (2, .int xp2), (3, .int x19), (4, .int x26)] → WX6_waysFrom_13 p l e s m below meth c D T ap0 xp1 xp2 H locs (F0 m 68 ls []) := by
        intro c68_xp1 c68_x19 c68_x26 H68 locs68 hw ls hl
        refine lv_aload_n hx hb dX6_waysFrom_68 rfl (lv_at hl 0 rfl) ?_
        refine hp_getr hx hb hts IX6 hown hK hw.1 hp0 rfl 5 (by decide) L29 rfl dX6_waysFrom_69 ?_
        refine lv_iload_n hx hb dX6_waysFrom_72 rfl (lv_at hl 3 rfl) ?_
        refine lv_dup2_11 hx hb dX6_waysFrom_73 rfl rfl ?_
        refine hp_ialdA hx hb hK hw.1 hp0op (vp_iv c68_x19 (by decide)) dX6_waysFrom_74 (fun x74 => ?_)
        refine lv_iconst (v := 1) hx hb dX6_waysFrom_75 (by decide) ?_
        refine lv_isub hx hb dX6_waysFrom_76 ?_
        refine lv_topi (fun x76 ex76 => ?_)
        refine hp_iast hx hb hK hw hp0op (vp_iv c68_x19 (by decide)) ⟨_, rfl⟩ dX6_waysFrom_77 (fun H77 locs77 hw g77 => ?_)
        refine lv_aload_n hx hb dX6_waysFrom_78 rfl (lv_at hl 0 rfl) ?_
        refine hp_getr hx hb hts IX6 hown hK hw.1 hp0 rfl 5 (by decide) L29 rfl dX6_waysFrom_79 ?_
        refine lv_iload hx hb dX6_waysFrom_82 (lv_at hl 4 rfl) ?_
        refine lv_dup2_11 hx hb dX6_waysFrom_84 rfl rfl ?_
        refine hp_ialdA hx hb hK hw.1 hp0op (vp_iv c68_x26 (by decide)) dX6_waysFrom_85 (fun x85 => ?_)
        refine lv_iconst (v := 1) hx hb dX6_waysFrom_86 (by decide) ?_
        refine lv_isub hx hb dX6_waysFrom_87 ?_
        refine lv_topi (fun x87 ex87 => ?_)
        refine hp_iast hx hb hK hw hp0op (vp_iv c68_x26 (by decide)) ⟨_, rfl⟩ dX6_waysFrom_88 (fun H88 locs88 hw g88 => ?_)
        refine lv_iconst (v := 0) hx hb dX6_waysFrom_89 (by decide) ?_
        refine lv_istore (lv' := [(5, .int 0), (0, .ref ap0), (1, .int xp1), (2, .int xp2), (3, .int x19), (4, .int x26)]) hx hb dX6_waysFrom_90 hl (by decide) rfl (fun ls hl => ?_)
        refine lv_iload_n hx hb dX6_waysFrom_92 rfl (lv_at hl 2 rfl) ?_
        refine lv_iload_n hx hb dX6_waysFrom_93 rfl (lv_at hl 3 rfl) ?_
        have J127 : ∀ (y127_l5 : Int32), iv xp1 13 13 → iv x19 0 9 → iv x26 0 9 → ∀ (H : Heap) (locs : List Loc), hp_w D T s H locs → ∀ (ls : Array Slot), lv_has ls 6 [(0, .ref ap0), (1, .int xp1), (2, .int xp2), (3, .int x19), (4, .int x26), (5, .int y127_l5)] → WX6_waysFrom_13 p l e s m below meth c D T ap0 xp1 xp2 H locs (F0 m 127 ls []) := by
          intro y127_l5 c127_xp1 c127_x19 c127_x26 H127 locs127 hw ls hl
          refine lv_aload_n hx hb dX6_waysFrom_127 rfl (lv_at hl 0 rfl) ?_
          refine hp_getr hx hb hts IX6 hown hK hw.1 hp0 rfl 3 (by decide) L22 rfl dX6_waysFrom_128 ?_
          refine lv_iload_n hx hb dX6_waysFrom_131 rfl (lv_at hl 3 rfl) ?_
          refine lv_dup2_11 hx hb dX6_waysFrom_132 rfl rfl ?_
          refine hp_ialdA hx hb hK hw.1 hp0du (vp_iv c127_x19 (by decide)) dX6_waysFrom_133 (fun x133 => ?_)
          refine lv_iconst (v := 1) hx hb dX6_waysFrom_134 (by decide) ?_
          refine lv_isub hx hb dX6_waysFrom_135 ?_
          refine lv_topi (fun x135 ex135 => ?_)
          refine hp_iast hx hb hK hw hp0du (vp_iv c127_x19 (by decide)) ⟨_, rfl⟩ dX6_waysFrom_136 (fun H136 locs136 hw g136 => ?_)
          refine lv_aload_n hx hb dX6_waysFrom_137 rfl (lv_at hl 0 rfl) ?_
          refine hp_getr hx hb hts IX6 hown hK hw.1 hp0 rfl 3 (by decide) L22 rfl dX6_waysFrom_138 ?_
          refine lv_iload hx hb dX6_waysFrom_141 (lv_at hl 4 rfl) ?_
          refine lv_dup2_11 hx hb dX6_waysFrom_143 rfl rfl ?_
          refine hp_ialdA hx hb hK hw.1 hp0du (vp_iv c127_x26 (by decide)) dX6_waysFrom_144 (fun x144 => ?_)
          refine lv_iconst (v := 1) hx hb dX6_waysFrom_145 (by decide) ?_
          refine lv_isub hx hb dX6_waysFrom_146 ?_
          refine lv_topi (fun x146 ex146 => ?_)
          refine hp_iast hx hb hK hw hp0du (vp_iv c127_x26 (by decide)) ⟨_, rfl⟩ dX6_waysFrom_147 (fun H147 locs147 hw g147 => ?_)
          refine lv_aload_n hx hb dX6_waysFrom_148 rfl (lv_at hl 0 rfl) ?_
          refine lv_iload_n hx hb dX6_waysFrom_149 rfl (lv_at hl 3 rfl) ?_
          refine hp_callpi (va_runV (As := [.int x19]) (rest := []) ⟨hx, hb, hml, hown, hts⟩ (sX6_canStillBe l D T ap0 x19 ip0 c127_x19) (cwV 1 hts gX6_waysFrom_X6_canStillBe rfl rfl rfl (by decide +kernel) ⟨Nat.le_of_ble_eq_true rfl, Nat.le_of_ble_eq_true rfl⟩) (hp_preV hG hw hp0 rfl trivial) rfl rfl hl.1 rfl (lv_room (Nat.le_of_ble_eq_true rfl)) dX6_waysFrom_150 ⟨Nat.zero_le _, Nat.zero_le _⟩) (fun x150 bx150 => ?_)
          have J178 : ∀ (y178_l5 : Int32), iv x19 0 9 → iv x26 0 9 → ∀ (H : Heap) (locs : List Loc), hp_w D T s H locs → ∀ (ls : Array Slot), lv_has ls 6 [(0, .ref ap0), (3, .int x19), (4, .int x26), (5, .int y178_l5)] → WX6_waysFrom_13 p l e s m below meth c D T ap0 xp1 xp2 H locs (F0 m 178 ls []) := by
            intro y178_l5 c178_x19 c178_x26 H178 locs178 hw ls hl
            refine lv_aload_n hx hb dX6_waysFrom_178 rfl (lv_at hl 0 rfl) ?_
            refine hp_getr hx hb hts IX6 hown hK hw.1 hp0 rfl 3 (by decide) L22 rfl dX6_waysFrom_179 ?_
            refine lv_iload_n hx hb dX6_waysFrom_182 rfl (lv_at hl 1 rfl) ?_
            refine lv_dup2_11 hx hb dX6_waysFrom_183 rfl rfl ?_
            refine hp_ialdA hx hb hK hw.1 hp0du (vp_iv c178_x19 (by decide)) dX6_waysFrom_184 (fun x184 => ?_)
            refine lv_iconst (v := 1) hx hb dX6_waysFrom_185 (by decide) ?_
            refine lv_iadd hx hb dX6_waysFrom_186 ?_
            refine lv_topi (fun x186 ex186 => ?_)
            refine hp_iast hx hb hK hw hp0du (vp_iv c178_x19 (by decide)) ⟨_, rfl⟩ dX6_waysFrom_187 (fun H187 locs187 hw g187 => ?_)
            refine lv_aload_n hx hb dX6_waysFrom_188 rfl (lv_at hl 0 rfl) ?_
            refine hp_getr hx hb hts IX6 hown hK hw.1 hp0 rfl 3 (by decide) L22 rfl dX6_waysFrom_189 ?_
            refine lv_iload hx hb dX6_waysFrom_192 (lv_at hl 2 rfl) ?_
            refine lv_dup2_11 hx hb dX6_waysFrom_194 rfl rfl ?_
            refine hp_ialdA hx hb hK hw.1 hp0du (vp_iv c178_x26 (by decide)) dX6_waysFrom_195 (fun x195 => ?_)
            refine lv_iconst (v := 1) hx hb dX6_waysFrom_196 (by decide) ?_
            refine lv_iadd hx hb dX6_waysFrom_197 ?_
            refine lv_topi (fun x197 ex197 => ?_)
            refine hp_iast hx hb hK hw hp0du (vp_iv c178_x26 (by decide)) ⟨_, rfl⟩ dX6_waysFrom_198 (fun H198 locs198 hw g198 => ?_)
            refine lv_aload_n hx hb dX6_waysFrom_199 rfl (lv_at hl 0 rfl) ?_
            refine hp_getr hx hb hts IX6 hown hK hw.1 hp0 rfl 5 (by decide) L29 rfl dX6_waysFrom_200 ?_
            refine lv_iload_n hx hb dX6_waysFrom_203 rfl (lv_at hl 1 rfl) ?_
            refine lv_dup2_11 hx hb dX6_waysFrom_204 rfl rfl ?_
            refine hp_ialdA hx hb hK hw.1 hp0op (vp_iv c178_x19 (by decide)) dX6_waysFrom_205 (fun x205 => ?_)
            refine lv_iconst (v := 1) hx hb dX6_waysFrom_206 (by decide) ?_
            refine lv_iadd hx hb dX6_waysFrom_207 ?_
            refine lv_topi (fun x207 ex207 => ?_)
            refine hp_iast hx hb hK hw hp0op (vp_iv c178_x19 (by decide)) ⟨_, rfl⟩ dX6_waysFrom_208 (fun H208 locs208 hw g208 => ?_)
            refine lv_aload_n hx hb dX6_waysFrom_209 rfl (lv_at hl 0 rfl) ?_
            refine hp_getr hx hb hts IX6 hown hK hw.1 hp0 rfl 5 (by decide) L29 rfl dX6_waysFrom_210 ?_
            refine lv_iload hx hb dX6_waysFrom_213 (lv_at hl 2 rfl) ?_
            refine lv_dup2_11 hx hb dX6_waysFrom_215 rfl rfl ?_
            refine hp_ialdA hx hb hK hw.1 hp0op (vp_iv c178_x26 (by decide)) dX6_waysFrom_216 (fun x216 => ?_)
            refine lv_iconst (v := 1) hx hb dX6_waysFrom_217 (by decide) ?_
            refine lv_iadd hx hb dX6_waysFrom_218 ?_
            refine lv_topi (fun x218 ex218 => ?_)
            refine hp_iast hx hb hK hw hp0op (vp_iv c178_x26 (by decide)) ⟨_, rfl⟩ dX6_waysFrom_219 (fun H219 locs219 hw g219 => ?_)
            refine lv_iload hx hb dX6_waysFrom_220 (lv_at hl 3 rfl) ?_
            exact W.iret (v := y178_l5) hx hb hr (fun t ht hW => ⟨some (.int y178_l5), rfl, ⟨y178_l5, rfl, trivial⟩, by rw [ht]; exact hw.1, hw.2.F ht⟩) hw.2.2.2 dX6_waysFrom_222
          refine lv_if_eq (tgt := 178) hx hb dX6_waysFrom_153 (by decide) (fun c153 => ?_) (fun c153 => ?_)
          · have r153tp : iv x150 0 0 := (iv_both bx150 (iv_eq (show iv 0 0 0 from ⟨by decide, by decide⟩) c153)).mono (by decide) (by decide)
            exact J178 y127_l5 c127_x19 c127_x26 H147 locs147 hw _ (lv_sub hl [0, 3, 4, 5] rfl)
          · have r153fp : iv x150 1 1 := (iv_ne_lo c153 bx150 rfl).mono (by decide) (by decide)
            refine lv_aload_n hx hb dX6_waysFrom_156 rfl (lv_at hl 0 rfl) ?_
            refine lv_iload hx hb dX6_waysFrom_157 (lv_at hl 4 rfl) ?_
            refine hp_callpi (va_runV (As := [.int x26]) (rest := []) ⟨hx, hb, hml, hown, hts⟩ (sX6_canStillBe l D T ap0 x26 ip0 c127_x26) (cwV 1 hts gX6_waysFrom_X6_canStillBe rfl rfl rfl (by decide +kernel) ⟨Nat.le_of_ble_eq_true rfl, Nat.le_of_ble_eq_true rfl⟩) (hp_preV hG hw hp0 rfl trivial) rfl rfl hl.1 rfl (lv_room (Nat.le_of_ble_eq_true rfl)) dX6_waysFrom_159 ⟨Nat.zero_le _, Nat.zero_le _⟩) (fun x159 bx159 => ?_)
            refine lv_if_eq (tgt := 178) hx hb dX6_waysFrom_162 (by decide) (fun c162 => ?_) (fun c162 => ?_)
            · have r162tp : iv x159 0 0 := (iv_both bx159 (iv_eq (show iv 0 0 0 from ⟨by decide, by decide⟩) c162)).mono (by decide) (by decide)
              exact J178 y127_l5 c127_x19 c127_x26 H147 locs147 hw _ (lv_sub hl [0, 3, 4, 5] rfl)
            · have r162fp : iv x159 1 1 := (iv_ne_lo c162 bx159 rfl).mono (by decide) (by decide)
              refine lv_iload hx hb dX6_waysFrom_165 (lv_at hl 5 rfl) ?_
              refine lv_aload_n hx hb dX6_waysFrom_167 rfl (lv_at hl 0 rfl) ?_
              refine lv_iload_n hx hb dX6_waysFrom_168 rfl (lv_at hl 1 rfl) ?_
              refine lv_iconst (v := 1) hx hb dX6_waysFrom_169 (by decide) ?_
              refine lv_iadd hx hb dX6_waysFrom_170 ?_
              refine lv_topi (fun x170 ex170 => ?_)
              have bx170 : iv x170 14 14 := iv_add c127_xp1 (show iv 1 1 1 from ⟨by decide, by decide⟩) ex170 (by decide)
              have qx170 := iv_add_eq c127_xp1 (show iv 1 1 1 from ⟨by decide, by decide⟩) ex170 (by decide)
              refine lv_iload_n hx hb dX6_waysFrom_171 rfl (lv_at hl 2 rfl) ?_
              refine hp_callei (va_runV (As := [.int x170, .int xp2]) (rest := [.int y127_l5]) ⟨hx, hb, hml, hown, hts⟩ (sX6_waysFrom_14 l D T ap0 x170 xp2 ip0 bx170) (cwV 2 hts gX6_waysFrom_X6_waysFrom rfl rfl rfl (by decide +kernel) ⟨Nat.le_of_ble_eq_true rfl, Nat.le_of_ble_eq_true rfl⟩) (hp_preV hG hw hp0 rfl trivial) rfl rfl hl.1 rfl (lv_room (Nat.le_of_ble_eq_true rfl)) dX6_waysFrom_172 ⟨Nat.zero_le _, Nat.zero_le _⟩) hw (fun x172 st172 t172 H172 locs172 eh172 eg172 bx172 hw => ?_)
              refine lv_iadd hx hb dX6_waysFrom_175 ?_
              refine lv_topi (fun x175 ex175 => ?_)
              refine lv_istore (lv' := [(5, .int x175), (0, .ref ap0), (1, .int xp1), (2, .int xp2), (3, .int x19), (4, .int x26)]) hx hb dX6_waysFrom_176 hl (by decide) rfl (fun ls hl => ?_)
              exact J178 x175 c127_x19 c127_x26 H172 locs172 hw _ (lv_sub hl [1, 4, 5, 0] rfl)
        refine lv_icmp_eq (tgt := 127) hx hb dX6_waysFrom_94 (by decide) (fun c94 => ?_) (fun c94 => ?_)
        · have r94tq : iv xp2 13 13 := (iv_both (iv_any xp2) (iv_eq c68_xp1 c94.symm)).mono (by decide) (by decide)
          exact J127 (0 : Int32) c68_xp1 c68_x19 c68_x26 H88 locs88 hw _ (lv_sub hl [1, 2, 3, 4, 5, 0] rfl)
        · refine lv_aload_n hx hb dX6_waysFrom_97 rfl (lv_at hl 1 rfl) ?_
          refine lv_iload_n hx hb dX6_waysFrom_98 rfl (lv_at hl 4 rfl) ?_
          refine hp_callpi (va_runV (As := [.int x19]) (rest := []) ⟨hx, hb, hml, hown, hts⟩ (sX6_canStillBe l D T ap0 x19 ip0 c68_x19) (cwV 1 hts gX6_waysFrom_X6_canStillBe rfl rfl rfl (by decide +kernel) ⟨Nat.le_of_ble_eq_true rfl, Nat.le_of_ble_eq_true rfl⟩) (hp_preV hG hw hp0 rfl trivial) rfl rfl hl.1 rfl (lv_room (Nat.le_of_ble_eq_true rfl)) dX6_waysFrom_99 ⟨Nat.zero_le _, Nat.zero_le _⟩) (fun x99 bx99 => ?_)
          refine lv_if_eq (tgt := 127) hx hb dX6_waysFrom_102 (by decide) (fun c102 => ?_) (fun c102 => ?_)
          · have r102tp : iv x99 0 0 := (iv_both bx99 (iv_eq (show iv 0 0 0 from ⟨by decide, by decide⟩) c102)).mono (by decide) (by decide)
            exact J127 (0 : Int32) c68_xp1 c68_x19 c68_x26 H88 locs88 hw _ (lv_sub hl [1, 2, 3, 4, 5, 0] rfl)
          · have r102fp : iv x99 1 1 := (iv_ne_lo c102 bx99 rfl).mono (by decide) (by decide)
            refine lv_aload_n hx hb dX6_waysFrom_105 rfl (lv_at hl 1 rfl) ?_
            refine lv_iload hx hb dX6_waysFrom_106 (lv_at hl 5 rfl) ?_
            refine hp_callpi (va_runV (As := [.int x26]) (rest := []) ⟨hx, hb, hml, hown, hts⟩ (sX6_canStillBe l D T ap0 x26 ip0 c68_x26) (cwV 1 hts gX6_waysFrom_X6_canStillBe rfl rfl rfl (by decide +kernel) ⟨Nat.le_of_ble_eq_true rfl, Nat.le_of_ble_eq_true rfl⟩) (hp_preV hG hw hp0 rfl trivial) rfl rfl hl.1 rfl (lv_room (Nat.le_of_ble_eq_true rfl)) dX6_waysFrom_108 ⟨Nat.zero_le _, Nat.zero_le _⟩) (fun x108 bx108 => ?_)
            refine lv_if_eq (tgt := 127) hx hb dX6_waysFrom_111 (by decide) (fun c111 => ?_) (fun c111 => ?_)
            · have r111tp : iv x108 0 0 := (iv_both bx108 (iv_eq (show iv 0 0 0 from ⟨by decide, by decide⟩) c111)).mono (by decide) (by decide)
              exact J127 (0 : Int32) c68_xp1 c68_x19 c68_x26 H88 locs88 hw _ (lv_sub hl [1, 2, 3, 4, 5, 0] rfl)
            · have r111fp : iv x108 1 1 := (iv_ne_lo c111 bx108 rfl).mono (by decide) (by decide)
              refine lv_iload hx hb dX6_waysFrom_114 (lv_at hl 0 rfl) ?_
              refine lv_aload_n hx hb dX6_waysFrom_116 rfl (lv_at hl 1 rfl) ?_
              refine lv_iload_n hx hb dX6_waysFrom_117 rfl (lv_at hl 2 rfl) ?_
              refine lv_iconst (v := 1) hx hb dX6_waysFrom_118 (by decide) ?_
              refine lv_iadd hx hb dX6_waysFrom_119 ?_
              refine lv_topi (fun x119 ex119 => ?_)
              have bx119 : iv x119 14 14 := iv_add c68_xp1 (show iv 1 1 1 from ⟨by decide, by decide⟩) ex119 (by decide)
              have qx119 := iv_add_eq c68_xp1 (show iv 1 1 1 from ⟨by decide, by decide⟩) ex119 (by decide)
              refine lv_iload_n hx hb dX6_waysFrom_120 rfl (lv_at hl 3 rfl) ?_
              refine hp_callei (va_runV (As := [.int x119, .int xp2]) (rest := [.int 0]) ⟨hx, hb, hml, hown, hts⟩ (sX6_waysFrom_14 l D T ap0 x119 xp2 ip0 bx119) (cwV 2 hts gX6_waysFrom_X6_waysFrom rfl rfl rfl (by decide +kernel) ⟨Nat.le_of_ble_eq_true rfl, Nat.le_of_ble_eq_true rfl⟩) (hp_preV hG hw hp0 rfl trivial) rfl rfl hl.1 rfl (lv_room (Nat.le_of_ble_eq_true rfl)) dX6_waysFrom_121 ⟨Nat.zero_le _, Nat.zero_le _⟩) hw (fun x121 st121 t121 H121 locs121 eh121 eg121 bx121 hw => ?_)
              refine lv_iadd hx hb dX6_waysFrom_124 ?_
              refine lv_topi (fun x124 ex124 => ?_)
              have qx124 := iv_add_eq (show iv 0 0 0 from ⟨by decide, by decide⟩) (iv_any x121) ex124 (by decide)
              refine lv_istore (lv' := [(5, .int x124), (0, .ref ap0), (1, .int xp1), (2, .int xp2), (3, .int x19), (4, .int x26)]) hx hb dX6_waysFrom_125 hl (by decide) rfl (fun ls hl => ?_)
              exact J127 x124 c68_xp1 c68_x19 c68_x26 H121 locs121 hw _ (lv_sub hl [1, 2, 3, 4, 5, 0] rfl)
      refine lv_if_ne (tgt := 68) hx hb dX6_waysFrom_35 (by decide) (fun c35 => ?_) (fun c35 => ?_)
      · exact J68 bp1 bx19 bx26 s.heap [] hw _ (lv_sub hl [2, 3, 4, 1, 0] rfl)
      · have r35fp : iv x34 0 0 := (iv_both (iv_any x34) (iv_eq (show iv 0 0 0 from ⟨by decide, by decide⟩) c35)).mono (by decide) (by decide)
        refine lv_aload_n hx hb dX6_waysFrom_38 rfl (lv_at hl 2 rfl) ?_
        refine hp_getr hx hb hts IX6 hown hK hw.1 hp0 rfl 4 (by decide) L25 rfl dX6_waysFrom_39 ?_
        refine lv_iload hx hb dX6_waysFrom_42 (lv_at hl 0 rfl) ?_
        refine hp_zaldA hx hb hK hw.1 hp0it (vp_iv bx26 (by decide)) dX6_waysFrom_44 (fun x44 => ?_)
        refine lv_if_ne (tgt := 68) hx hb dX6_waysFrom_45 (by decide) (fun c45 => ?_) (fun c45 => ?_)
        · exact J68 bp1 bx19 bx26 s.heap [] hw _ (lv_sub hl [2, 3, 4, 1, 0] rfl)
        · have r45fp : iv x44 0 0 := (iv_both (iv_any x44) (iv_eq (show iv 0 0 0 from ⟨by decide, by decide⟩) c45)).mono (by decide) (by decide)
          refine lv_iload_n hx hb dX6_waysFrom_48 rfl (lv_at hl 3 rfl) ?_
          refine lv_iload_n hx hb dX6_waysFrom_49 rfl (lv_at hl 4 rfl) ?_
          have J58 : ∀ (y58_s0 : Int32), iv xp1 13 13 → iv y58_s0 1 2 → ∀ (H : Heap) (locs : List Loc), hp_w D T s H locs → ∀ (ls : Array Slot), lv_has ls 6 [(0, .ref ap0), (1, .int xp1), (2, .int xp2)] → WX6_waysFrom_13 p l e s m below meth c D T ap0 xp1 xp2 H locs (F0 m 58 ls [.int y58_s0]) := by
            intro y58_s0 c58_xp1 c58_y58_s0 H58 locs58 hw ls hl
            refine lv_aload_n hx hb dX6_waysFrom_58 rfl (lv_at hl 0 rfl) ?_
            refine lv_iload_n hx hb dX6_waysFrom_59 rfl (lv_at hl 1 rfl) ?_
            refine lv_iconst (v := 1) hx hb dX6_waysFrom_60 (by decide) ?_
            refine lv_iadd hx hb dX6_waysFrom_61 ?_
            refine lv_topi (fun x61 ex61 => ?_)
            have bx61 : iv x61 14 14 := iv_add c58_xp1 (show iv 1 1 1 from ⟨by decide, by decide⟩) ex61 (by decide)
            have qx61 := iv_add_eq c58_xp1 (show iv 1 1 1 from ⟨by decide, by decide⟩) ex61 (by decide)
            refine lv_iload_n hx hb dX6_waysFrom_62 rfl (lv_at hl 2 rfl) ?_
            refine hp_callei (va_runV (As := [.int x61, .int xp2]) (rest := [.int y58_s0]) ⟨hx, hb, hml, hown, hts⟩ (sX6_waysFrom_14 l D T ap0 x61 xp2 ip0 bx61) (cwV 2 hts gX6_waysFrom_X6_waysFrom rfl rfl rfl (by decide +kernel) ⟨Nat.le_of_ble_eq_true rfl, Nat.le_of_ble_eq_true rfl⟩) (hp_preV hG hw hp0 rfl trivial) rfl rfl hl.1 rfl (lv_room (Nat.le_of_ble_eq_true rfl)) dX6_waysFrom_63 ⟨Nat.zero_le _, Nat.zero_le _⟩) hw (fun x63 st63 t63 H63 locs63 eh63 eg63 bx63 hw => ?_)
            refine lv_imul hx hb dX6_waysFrom_66 ?_
            refine lv_topi (fun x66 ex66 => ?_)
            exact W.iret (v := x66) hx hb hr (fun t ht hW => ⟨some (.int x66), rfl, ⟨x66, rfl, trivial⟩, by rw [ht]; exact hw.1, hw.2.F ht⟩) hw.2.2.2 dX6_waysFrom_67
          refine lv_icmp_ne (tgt := 57) hx hb dX6_waysFrom_50 (by decide) (fun c50 => ?_) (fun c50 => ?_)
          · refine lv_iconst (v := 2) hx hb dX6_waysFrom_57 (by decide) ?_
            exact J58 (2 : Int32) bp1 (show iv 2 1 2 from ⟨by decide, by decide⟩) s.heap [] hw _ (lv_sub hl [2, 3, 4] rfl)
          · have r50fq : iv xp2 13 13 := (iv_both (iv_any xp2) (iv_eq bp1 c50.symm)).mono (by decide) (by decide)
            refine lv_iconst (v := 1) hx hb dX6_waysFrom_53 (by decide) ?_
            refine lv_goto (tgt := 58) hx hb dX6_waysFrom_54 (by decide) ?_
            exact J58 (1 : Int32) bp1 (show iv 1 1 2 from ⟨by decide, by decide⟩) s.heap [] hw _ (lv_sub hl [2, 3, 4] rfl)
    · have r9fp : iv x6 0 13 := (iv_le_l (iv_nlt c9) bx6 bp1).mono (by decide) (by decide)
      exact J12 s.heap [] hw _ (lv_sub hl [] rfl)
abbrev WX6_waysFrom_12 (p : Program) (l : Launch) (e : Env) (s : State) (m : MethodId) (below : List Frame) (meth : Method) (c : Code) (D : hp_D) (T : hp_T) (ap0 : Nat) (xp1 : Int32) (xp2 : Int32) (H : Heap) (locs : List Loc) (g : JFrame) : Prop := W p l e (headSpec wsX6_waysFrom ({ frames := 4, cells := 0, slots := 0, locals := 100 })).room s m ([.ref ap0, .int xp1, .int xp2] : List Value).toArray below meth c H locs 0 0 (MQ below (hq_e D T (fun v _ _ => ∃ r : Int32, v = some (.int r) ∧ True)) ([.ref ap0, .int xp1, .int xp2] : List Value).toArray s 0 0 (hp_F T)) g
set_option maxHeartbeats 4000000 in
set_option maxRecDepth 100000 in
theorem sX6_waysFrom_12 (l : Launch) (D : hp_D) (T : hp_T) (ap0 : Nat) (xp1 : Int32) (xp2 : Int32) (ip0 : isShuns T ap0) (bp1 : iv xp1 12 12) : Met l yX6_waysFrom wsX6_waysFrom ({ frames := 4, cells := 0, slots := 0, locals := 100 }) (hp_Pc D T [.ref ap0, .int xp1, .int xp2] (fun _ => True)) (hq_e D T (fun v _ _ => ∃ r : Int32, v = some (.int r) ∧ True)) 0 0 (hp_F T) := by
  obtain ⟨ap0le, ap0gr, ap0du, ap0it, ap0op, hp0, hp0le, hp0gr, hp0du, hp0it, hp0op⟩ := id ip0
  refine Met.ofW (cc := cX6_waysFrom) (maxL := 6) (ret := (some .int)) (by decide) rfl ?_
  intro p e s m args below meth c s₁ B hml hv
  obtain ⟨rfl, hok, hG, hB⟩ := hv
  have hx := B.exec
  have hb := B.bytes
  have hr := B.returns
  have hts := atoms_spec (ws := wsX6_waysFrom) B.pre
  have hown : s.vm.findClass RX6 = some m.cls := findClass_of_methodNamed B.named
  have hlocks := B.notSynchronized
  have hK := hG.1
  have hw : hp_w D T s s.heap [] := hp_w.rf hok
  have IX6 : ∀ w ∈ wsX60, w ∈ wsX6_waysFrom := by decide +kernel
  have L9 := hts (.fieldLink RX6 9 "PalmCensus$Shuns" "twos" "I") (by decide +kernel)
  have L15 := hts (.fieldLink RX6 15 "PalmCensus$Shuns" "lesser" "[I") (by decide +kernel)
  have L19 := hts (.fieldLink RX6 19 "PalmCensus$Shuns" "greater" "[I") (by decide +kernel)
  have L25 := hts (.fieldLink RX6 25 "PalmCensus$Shuns" "isTold" "[Z") (by decide +kernel)
  have L29 := hts (.fieldLink RX6 29 "PalmCensus$Shuns" "open" "[I") (by decide +kernel)
  have L22 := hts (.fieldLink RX6 22 "PalmCensus$Shuns" "due" "[I") (by decide +kernel)
  have hl := lv_entry ([.ref ap0, .int xp1, .int xp2]) (n := 6) (Nat.le_of_ble_eq_true rfl)
  rw [lg_entry_eq]
  generalize (lg_sl ([.ref ap0, .int xp1, .int xp2]) ++ List.replicate (6 - (lg_sl ([.ref ap0, .int xp1, .int xp2])).length) Slot.unset).toArray = ls at hl ⊢
  have hl : lv_has ls 6 [(0, .ref ap0), (1, .int xp1), (2, .int xp2)] := hl
  show WX6_waysFrom_12 p l e s m below meth c D T ap0 xp1 xp2 s.heap [] (F0 m 0 ls [])
  refine lv_iload_n hx hb dX6_waysFrom_0 rfl (lv_at hl 1 rfl) ?_
  have J12 : ∀ (H : Heap) (locs : List Loc), hp_w D T s H locs → ∀ (ls : Array Slot), lv_has ls 6 [] → WX6_waysFrom_12 p l e s m below meth c D T ap0 xp1 xp2 H locs (F0 m 12 ls []) := by
    intro H12 locs12 hw ls hl
    refine lv_iconst (v := 1) hx hb dX6_waysFrom_12 (by decide) ?_
    exact W.iret (v := 1) hx hb hr (fun t ht hW => ⟨some (.int 1), rfl, ⟨(1 : Int32), rfl, trivial⟩, by rw [ht]; exact hw.1, hw.2.F ht⟩) hw.2.2.2 dX6_waysFrom_13
  refine lv_if_lt (tgt := 12) hx hb dX6_waysFrom_1 (by decide) (fun c1 => ?_) (fun c1 => ?_)
  · exact iv_abs (iv_lt_l c1 bp1 (show iv 0 0 0 from ⟨by decide, by decide⟩)) (by decide)
  · refine lv_iload_n hx hb dX6_waysFrom_4 rfl (lv_at hl 1 rfl) ?_
    refine lv_aload_n hx hb dX6_waysFrom_5 rfl (lv_at hl 0 rfl) ?_
    refine hp_geti hx hb hts IX6 hown hK hw.1 hp0 rfl 0 (by decide) L9 rfl dX6_waysFrom_6 (fun x6 bx6 fx6 => ?_)
    refine lv_icmp_lt (tgt := 14) hx hb dX6_waysFrom_9 (by decide) (fun c9 => ?_) (fun c9 => ?_)
    · have r9tq : iv x6 13 16 := (iv_lt_r c9 bp1 bx6).mono (by decide) (by decide)
      refine lv_aload_n hx hb dX6_waysFrom_14 rfl (lv_at hl 0 rfl) ?_
      refine hp_getr hx hb hts IX6 hown hK hw.1 hp0 rfl 1 (by decide) L15 rfl dX6_waysFrom_15 ?_
      refine lv_iload_n hx hb dX6_waysFrom_18 rfl (lv_at hl 1 rfl) ?_
      refine hp_ialdI hx hb hK hw.1 hp0le (vp_iv bp1 (by decide)) dX6_waysFrom_19 (fun x19 bx19 => ?_)
      refine lv_istore_n (lv' := [(3, .int x19), (0, .ref ap0), (1, .int xp1), (2, .int xp2)]) hx hb dX6_waysFrom_20 rfl hl (by decide) rfl (fun ls hl => ?_)
      refine lv_aload_n hx hb dX6_waysFrom_21 rfl (lv_at hl 1 rfl) ?_
      refine hp_getr hx hb hts IX6 hown hK hw.1 hp0 rfl 2 (by decide) L19 rfl dX6_waysFrom_22 ?_
      refine lv_iload_n hx hb dX6_waysFrom_25 rfl (lv_at hl 2 rfl) ?_
      refine hp_ialdI hx hb hK hw.1 hp0gr (vp_iv bp1 (by decide)) dX6_waysFrom_26 (fun x26 bx26 => ?_)
      refine lv_istore (lv' := [(4, .int x26), (3, .int x19), (0, .ref ap0), (1, .int xp1), (2, .int xp2)]) hx hb dX6_waysFrom_27 hl (by decide) rfl (fun ls hl => ?_)
      refine lv_aload_n hx hb dX6_waysFrom_29 rfl (lv_at hl 2 rfl) ?_
      refine hp_getr hx hb hts IX6 hown hK hw.1 hp0 rfl 4 (by decide) L25 rfl dX6_waysFrom_30 ?_
      refine lv_iload_n hx hb dX6_waysFrom_33 rfl (lv_at hl 1 rfl) ?_
      refine hp_zaldA hx hb hK hw.1 hp0it (vp_iv bx19 (by decide)) dX6_waysFrom_34 (fun x34 => ?_)
      have J68 : iv xp1 12 12 → iv x19 0 9 → iv x26 0 9 → ∀ (H : Heap) (locs : List Loc), hp_w D T s H locs → ∀ (ls : Array Slot), lv_has ls 6 [(0, .ref ap0), (1, .int xp1), (2, .int xp2), (3, .int x19), (4, .int x26)] → WX6_waysFrom_12 p l e s m below meth c D T ap0 xp1 xp2 H locs (F0 m 68 ls []) := by
        intro c68_xp1 c68_x19 c68_x26 H68 locs68 hw ls hl
        refine lv_aload_n hx hb dX6_waysFrom_68 rfl (lv_at hl 0 rfl) ?_
        refine hp_getr hx hb hts IX6 hown hK hw.1 hp0 rfl 5 (by decide) L29 rfl dX6_waysFrom_69 ?_
        refine lv_iload_n hx hb dX6_waysFrom_72 rfl (lv_at hl 3 rfl) ?_
        refine lv_dup2_11 hx hb dX6_waysFrom_73 rfl rfl ?_
        refine hp_ialdA hx hb hK hw.1 hp0op (vp_iv c68_x19 (by decide)) dX6_waysFrom_74 (fun x74 => ?_)
        refine lv_iconst (v := 1) hx hb dX6_waysFrom_75 (by decide) ?_
        refine lv_isub hx hb dX6_waysFrom_76 ?_
        refine lv_topi (fun x76 ex76 => ?_)
        refine hp_iast hx hb hK hw hp0op (vp_iv c68_x19 (by decide)) ⟨_, rfl⟩ dX6_waysFrom_77 (fun H77 locs77 hw g77 => ?_)
        refine lv_aload_n hx hb dX6_waysFrom_78 rfl (lv_at hl 0 rfl) ?_
        refine hp_getr hx hb hts IX6 hown hK hw.1 hp0 rfl 5 (by decide) L29 rfl dX6_waysFrom_79 ?_
        refine lv_iload hx hb dX6_waysFrom_82 (lv_at hl 4 rfl) ?_
        refine lv_dup2_11 hx hb dX6_waysFrom_84 rfl rfl ?_
        refine hp_ialdA hx hb hK hw.1 hp0op (vp_iv c68_x26 (by decide)) dX6_waysFrom_85 (fun x85 => ?_)
        refine lv_iconst (v := 1) hx hb dX6_waysFrom_86 (by decide) ?_
        refine lv_isub hx hb dX6_waysFrom_87 ?_
        refine lv_topi (fun x87 ex87 => ?_)
        refine hp_iast hx hb hK hw hp0op (vp_iv c68_x26 (by decide)) ⟨_, rfl⟩ dX6_waysFrom_88 (fun H88 locs88 hw g88 => ?_)
        refine lv_iconst (v := 0) hx hb dX6_waysFrom_89 (by decide) ?_
        refine lv_istore (lv' := [(5, .int 0), (0, .ref ap0), (1, .int xp1), (2, .int xp2), (3, .int x19), (4, .int x26)]) hx hb dX6_waysFrom_90 hl (by decide) rfl (fun ls hl => ?_)
        refine lv_iload_n hx hb dX6_waysFrom_92 rfl (lv_at hl 2 rfl) ?_
        refine lv_iload_n hx hb dX6_waysFrom_93 rfl (lv_at hl 3 rfl) ?_
        have J127 : ∀ (y127_l5 : Int32), iv xp1 12 12 → iv x19 0 9 → iv x26 0 9 → ∀ (H : Heap) (locs : List Loc), hp_w D T s H locs → ∀ (ls : Array Slot), lv_has ls 6 [(0, .ref ap0), (1, .int xp1), (2, .int xp2), (3, .int x19), (4, .int x26), (5, .int y127_l5)] → WX6_waysFrom_12 p l e s m below meth c D T ap0 xp1 xp2 H locs (F0 m 127 ls []) := by
          intro y127_l5 c127_xp1 c127_x19 c127_x26 H127 locs127 hw ls hl
          refine lv_aload_n hx hb dX6_waysFrom_127 rfl (lv_at hl 0 rfl) ?_
          refine hp_getr hx hb hts IX6 hown hK hw.1 hp0 rfl 3 (by decide) L22 rfl dX6_waysFrom_128 ?_
          refine lv_iload_n hx hb dX6_waysFrom_131 rfl (lv_at hl 3 rfl) ?_
          refine lv_dup2_11 hx hb dX6_waysFrom_132 rfl rfl ?_
          refine hp_ialdA hx hb hK hw.1 hp0du (vp_iv c127_x19 (by decide)) dX6_waysFrom_133 (fun x133 => ?_)
          refine lv_iconst (v := 1) hx hb dX6_waysFrom_134 (by decide) ?_
          refine lv_isub hx hb dX6_waysFrom_135 ?_
          refine lv_topi (fun x135 ex135 => ?_)
          refine hp_iast hx hb hK hw hp0du (vp_iv c127_x19 (by decide)) ⟨_, rfl⟩ dX6_waysFrom_136 (fun H136 locs136 hw g136 => ?_)
          refine lv_aload_n hx hb dX6_waysFrom_137 rfl (lv_at hl 0 rfl) ?_
          refine hp_getr hx hb hts IX6 hown hK hw.1 hp0 rfl 3 (by decide) L22 rfl dX6_waysFrom_138 ?_
          refine lv_iload hx hb dX6_waysFrom_141 (lv_at hl 4 rfl) ?_
          refine lv_dup2_11 hx hb dX6_waysFrom_143 rfl rfl ?_
          refine hp_ialdA hx hb hK hw.1 hp0du (vp_iv c127_x26 (by decide)) dX6_waysFrom_144 (fun x144 => ?_)
          refine lv_iconst (v := 1) hx hb dX6_waysFrom_145 (by decide) ?_
          refine lv_isub hx hb dX6_waysFrom_146 ?_
          refine lv_topi (fun x146 ex146 => ?_)
          refine hp_iast hx hb hK hw hp0du (vp_iv c127_x26 (by decide)) ⟨_, rfl⟩ dX6_waysFrom_147 (fun H147 locs147 hw g147 => ?_)
          refine lv_aload_n hx hb dX6_waysFrom_148 rfl (lv_at hl 0 rfl) ?_
          refine lv_iload_n hx hb dX6_waysFrom_149 rfl (lv_at hl 3 rfl) ?_
          refine hp_callpi (va_runV (As := [.int x19]) (rest := []) ⟨hx, hb, hml, hown, hts⟩ (sX6_canStillBe l D T ap0 x19 ip0 c127_x19) (cwV 1 hts gX6_waysFrom_X6_canStillBe rfl rfl rfl (by decide +kernel) ⟨Nat.le_of_ble_eq_true rfl, Nat.le_of_ble_eq_true rfl⟩) (hp_preV hG hw hp0 rfl trivial) rfl rfl hl.1 rfl (lv_room (Nat.le_of_ble_eq_true rfl)) dX6_waysFrom_150 ⟨Nat.zero_le _, Nat.zero_le _⟩) (fun x150 bx150 => ?_)
          have J178 : ∀ (y178_l5 : Int32), iv x19 0 9 → iv x26 0 9 → ∀ (H : Heap) (locs : List Loc), hp_w D T s H locs → ∀ (ls : Array Slot), lv_has ls 6 [(0, .ref ap0), (3, .int x19), (4, .int x26), (5, .int y178_l5)] → WX6_waysFrom_12 p l e s m below meth c D T ap0 xp1 xp2 H locs (F0 m 178 ls []) := by
            intro y178_l5 c178_x19 c178_x26 H178 locs178 hw ls hl
            refine lv_aload_n hx hb dX6_waysFrom_178 rfl (lv_at hl 0 rfl) ?_
            refine hp_getr hx hb hts IX6 hown hK hw.1 hp0 rfl 3 (by decide) L22 rfl dX6_waysFrom_179 ?_
            refine lv_iload_n hx hb dX6_waysFrom_182 rfl (lv_at hl 1 rfl) ?_
            refine lv_dup2_11 hx hb dX6_waysFrom_183 rfl rfl ?_
            refine hp_ialdA hx hb hK hw.1 hp0du (vp_iv c178_x19 (by decide)) dX6_waysFrom_184 (fun x184 => ?_)
            refine lv_iconst (v := 1) hx hb dX6_waysFrom_185 (by decide) ?_
            refine lv_iadd hx hb dX6_waysFrom_186 ?_
            refine lv_topi (fun x186 ex186 => ?_)
            refine hp_iast hx hb hK hw hp0du (vp_iv c178_x19 (by decide)) ⟨_, rfl⟩ dX6_waysFrom_187 (fun H187 locs187 hw g187 => ?_)
            refine lv_aload_n hx hb dX6_waysFrom_188 rfl (lv_at hl 0 rfl) ?_
            refine hp_getr hx hb hts IX6 hown hK hw.1 hp0 rfl 3 (by decide) L22 rfl dX6_waysFrom_189 ?_
            refine lv_iload hx hb dX6_waysFrom_192 (lv_at hl 2 rfl) ?_
            refine lv_dup2_11 hx hb dX6_waysFrom_194 rfl rfl ?_
            refine hp_ialdA hx hb hK hw.1 hp0du (vp_iv c178_x26 (by decide)) dX6_waysFrom_195 (fun x195 => ?_)
            refine lv_iconst (v := 1) hx hb dX6_waysFrom_196 (by decide) ?_
            refine lv_iadd hx hb dX6_waysFrom_197 ?_
            refine lv_topi (fun x197 ex197 => ?_)
            refine hp_iast hx hb hK hw hp0du (vp_iv c178_x26 (by decide)) ⟨_, rfl⟩ dX6_waysFrom_198 (fun H198 locs198 hw g198 => ?_)
            refine lv_aload_n hx hb dX6_waysFrom_199 rfl (lv_at hl 0 rfl) ?_
            refine hp_getr hx hb hts IX6 hown hK hw.1 hp0 rfl 5 (by decide) L29 rfl dX6_waysFrom_200 ?_
            refine lv_iload_n hx hb dX6_waysFrom_203 rfl (lv_at hl 1 rfl) ?_
            refine lv_dup2_11 hx hb dX6_waysFrom_204 rfl rfl ?_
            refine hp_ialdA hx hb hK hw.1 hp0op (vp_iv c178_x19 (by decide)) dX6_waysFrom_205 (fun x205 => ?_)
            refine lv_iconst (v := 1) hx hb dX6_waysFrom_206 (by decide) ?_
            refine lv_iadd hx hb dX6_waysFrom_207 ?_
            refine lv_topi (fun x207 ex207 => ?_)
            refine hp_iast hx hb hK hw hp0op (vp_iv c178_x19 (by decide)) ⟨_, rfl⟩ dX6_waysFrom_208 (fun H208 locs208 hw g208 => ?_)
            refine lv_aload_n hx hb dX6_waysFrom_209 rfl (lv_at hl 0 rfl) ?_
            refine hp_getr hx hb hts IX6 hown hK hw.1 hp0 rfl 5 (by decide) L29 rfl dX6_waysFrom_210 ?_
            refine lv_iload hx hb dX6_waysFrom_213 (lv_at hl 2 rfl) ?_
            refine lv_dup2_11 hx hb dX6_waysFrom_215 rfl rfl ?_
            refine hp_ialdA hx hb hK hw.1 hp0op (vp_iv c178_x26 (by decide)) dX6_waysFrom_216 (fun x216 => ?_)
            refine lv_iconst (v := 1) hx hb dX6_waysFrom_217 (by decide) ?_
            refine lv_iadd hx hb dX6_waysFrom_218 ?_
            refine lv_topi (fun x218 ex218 => ?_)
            refine hp_iast hx hb hK hw hp0op (vp_iv c178_x26 (by decide)) ⟨_, rfl⟩ dX6_waysFrom_219 (fun H219 locs219 hw g219 => ?_)
            refine lv_iload hx hb dX6_waysFrom_220 (lv_at hl 3 rfl) ?_
            exact W.iret (v := y178_l5) hx hb hr (fun t ht hW => ⟨some (.int y178_l5), rfl, ⟨y178_l5, rfl, trivial⟩, by rw [ht]; exact hw.1, hw.2.F ht⟩) hw.2.2.2 dX6_waysFrom_222
          refine lv_if_eq (tgt := 178) hx hb dX6_waysFrom_153 (by decide) (fun c153 => ?_) (fun c153 => ?_)
          · have r153tp : iv x150 0 0 := (iv_both bx150 (iv_eq (show iv 0 0 0 from ⟨by decide, by decide⟩) c153)).mono (by decide) (by decide)
            exact J178 y127_l5 c127_x19 c127_x26 H147 locs147 hw _ (lv_sub hl [0, 3, 4, 5] rfl)
          · have r153fp : iv x150 1 1 := (iv_ne_lo c153 bx150 rfl).mono (by decide) (by decide)
            refine lv_aload_n hx hb dX6_waysFrom_156 rfl (lv_at hl 0 rfl) ?_
            refine lv_iload hx hb dX6_waysFrom_157 (lv_at hl 4 rfl) ?_
            refine hp_callpi (va_runV (As := [.int x26]) (rest := []) ⟨hx, hb, hml, hown, hts⟩ (sX6_canStillBe l D T ap0 x26 ip0 c127_x26) (cwV 1 hts gX6_waysFrom_X6_canStillBe rfl rfl rfl (by decide +kernel) ⟨Nat.le_of_ble_eq_true rfl, Nat.le_of_ble_eq_true rfl⟩) (hp_preV hG hw hp0 rfl trivial) rfl rfl hl.1 rfl (lv_room (Nat.le_of_ble_eq_true rfl)) dX6_waysFrom_159 ⟨Nat.zero_le _, Nat.zero_le _⟩) (fun x159 bx159 => ?_)
            refine lv_if_eq (tgt := 178) hx hb dX6_waysFrom_162 (by decide) (fun c162 => ?_) (fun c162 => ?_)
            · have r162tp : iv x159 0 0 := (iv_both bx159 (iv_eq (show iv 0 0 0 from ⟨by decide, by decide⟩) c162)).mono (by decide) (by decide)
              exact J178 y127_l5 c127_x19 c127_x26 H147 locs147 hw _ (lv_sub hl [0, 3, 4, 5] rfl)
            · have r162fp : iv x159 1 1 := (iv_ne_lo c162 bx159 rfl).mono (by decide) (by decide)
              refine lv_iload hx hb dX6_waysFrom_165 (lv_at hl 5 rfl) ?_
              refine lv_aload_n hx hb dX6_waysFrom_167 rfl (lv_at hl 0 rfl) ?_
              refine lv_iload_n hx hb dX6_waysFrom_168 rfl (lv_at hl 1 rfl) ?_
              refine lv_iconst (v := 1) hx hb dX6_waysFrom_169 (by decide) ?_
              refine lv_iadd hx hb dX6_waysFrom_170 ?_
              refine lv_topi (fun x170 ex170 => ?_)
              have bx170 : iv x170 13 13 := iv_add c127_xp1 (show iv 1 1 1 from ⟨by decide, by decide⟩) ex170 (by decide)
              have qx170 := iv_add_eq c127_xp1 (show iv 1 1 1 from ⟨by decide, by decide⟩) ex170 (by decide)
              refine lv_iload_n hx hb dX6_waysFrom_171 rfl (lv_at hl 2 rfl) ?_
              refine hp_callei (va_runV (As := [.int x170, .int xp2]) (rest := [.int y127_l5]) ⟨hx, hb, hml, hown, hts⟩ (sX6_waysFrom_13 l D T ap0 x170 xp2 ip0 bx170) (cwV 2 hts gX6_waysFrom_X6_waysFrom rfl rfl rfl (by decide +kernel) ⟨Nat.le_of_ble_eq_true rfl, Nat.le_of_ble_eq_true rfl⟩) (hp_preV hG hw hp0 rfl trivial) rfl rfl hl.1 rfl (lv_room (Nat.le_of_ble_eq_true rfl)) dX6_waysFrom_172 ⟨Nat.zero_le _, Nat.zero_le _⟩) hw (fun x172 st172 t172 H172 locs172 eh172 eg172 bx172 hw => ?_)
              refine lv_iadd hx hb dX6_waysFrom_175 ?_
              refine lv_topi (fun x175 ex175 => ?_)
              refine lv_istore (lv' := [(5, .int x175), (0, .ref ap0), (1, .int xp1), (2, .int xp2), (3, .int x19), (4, .int x26)]) hx hb dX6_waysFrom_176 hl (by decide) rfl (fun ls hl => ?_)
              exact J178 x175 c127_x19 c127_x26 H172 locs172 hw _ (lv_sub hl [1, 4, 5, 0] rfl)
        refine lv_icmp_eq (tgt := 127) hx hb dX6_waysFrom_94 (by decide) (fun c94 => ?_) (fun c94 => ?_)
        · have r94tq : iv xp2 12 12 := (iv_both (iv_any xp2) (iv_eq c68_xp1 c94.symm)).mono (by decide) (by decide)
          exact J127 (0 : Int32) c68_xp1 c68_x19 c68_x26 H88 locs88 hw _ (lv_sub hl [1, 2, 3, 4, 5, 0] rfl)
        · refine lv_aload_n hx hb dX6_waysFrom_97 rfl (lv_at hl 1 rfl) ?_
          refine lv_iload_n hx hb dX6_waysFrom_98 rfl (lv_at hl 4 rfl) ?_
          refine hp_callpi (va_runV (As := [.int x19]) (rest := []) ⟨hx, hb, hml, hown, hts⟩ (sX6_canStillBe l D T ap0 x19 ip0 c68_x19) (cwV 1 hts gX6_waysFrom_X6_canStillBe rfl rfl rfl (by decide +kernel) ⟨Nat.le_of_ble_eq_true rfl, Nat.le_of_ble_eq_true rfl⟩) (hp_preV hG hw hp0 rfl trivial) rfl rfl hl.1 rfl (lv_room (Nat.le_of_ble_eq_true rfl)) dX6_waysFrom_99 ⟨Nat.zero_le _, Nat.zero_le _⟩) (fun x99 bx99 => ?_)
          refine lv_if_eq (tgt := 127) hx hb dX6_waysFrom_102 (by decide) (fun c102 => ?_) (fun c102 => ?_)
          · have r102tp : iv x99 0 0 := (iv_both bx99 (iv_eq (show iv 0 0 0 from ⟨by decide, by decide⟩) c102)).mono (by decide) (by decide)
            exact J127 (0 : Int32) c68_xp1 c68_x19 c68_x26 H88 locs88 hw _ (lv_sub hl [1, 2, 3, 4, 5, 0] rfl)
          · have r102fp : iv x99 1 1 := (iv_ne_lo c102 bx99 rfl).mono (by decide) (by decide)
            refine lv_aload_n hx hb dX6_waysFrom_105 rfl (lv_at hl 1 rfl) ?_
            refine lv_iload hx hb dX6_waysFrom_106 (lv_at hl 5 rfl) ?_
            refine hp_callpi (va_runV (As := [.int x26]) (rest := []) ⟨hx, hb, hml, hown, hts⟩ (sX6_canStillBe l D T ap0 x26 ip0 c68_x26) (cwV 1 hts gX6_waysFrom_X6_canStillBe rfl rfl rfl (by decide +kernel) ⟨Nat.le_of_ble_eq_true rfl, Nat.le_of_ble_eq_true rfl⟩) (hp_preV hG hw hp0 rfl trivial) rfl rfl hl.1 rfl (lv_room (Nat.le_of_ble_eq_true rfl)) dX6_waysFrom_108 ⟨Nat.zero_le _, Nat.zero_le _⟩) (fun x108 bx108 => ?_)
            refine lv_if_eq (tgt := 127) hx hb dX6_waysFrom_111 (by decide) (fun c111 => ?_) (fun c111 => ?_)
            · have r111tp : iv x108 0 0 := (iv_both bx108 (iv_eq (show iv 0 0 0 from ⟨by decide, by decide⟩) c111)).mono (by decide) (by decide)
              exact J127 (0 : Int32) c68_xp1 c68_x19 c68_x26 H88 locs88 hw _ (lv_sub hl [1, 2, 3, 4, 5, 0] rfl)
            · have r111fp : iv x108 1 1 := (iv_ne_lo c111 bx108 rfl).mono (by decide) (by decide)
              refine lv_iload hx hb dX6_waysFrom_114 (lv_at hl 0 rfl) ?_
              refine lv_aload_n hx hb dX6_waysFrom_116 rfl (lv_at hl 1 rfl) ?_
              refine lv_iload_n hx hb dX6_waysFrom_117 rfl (lv_at hl 2 rfl) ?_
              refine lv_iconst (v := 1) hx hb dX6_waysFrom_118 (by decide) ?_
              refine lv_iadd hx hb dX6_waysFrom_119 ?_
              refine lv_topi (fun x119 ex119 => ?_)
              have bx119 : iv x119 13 13 := iv_add c68_xp1 (show iv 1 1 1 from ⟨by decide, by decide⟩) ex119 (by decide)
              have qx119 := iv_add_eq c68_xp1 (show iv 1 1 1 from ⟨by decide, by decide⟩) ex119 (by decide)
              refine lv_iload_n hx hb dX6_waysFrom_120 rfl (lv_at hl 3 rfl) ?_
              refine hp_callei (va_runV (As := [.int x119, .int xp2]) (rest := [.int 0]) ⟨hx, hb, hml, hown, hts⟩ (sX6_waysFrom_13 l D T ap0 x119 xp2 ip0 bx119) (cwV 2 hts gX6_waysFrom_X6_waysFrom rfl rfl rfl (by decide +kernel) ⟨Nat.le_of_ble_eq_true rfl, Nat.le_of_ble_eq_true rfl⟩) (hp_preV hG hw hp0 rfl trivial) rfl rfl hl.1 rfl (lv_room (Nat.le_of_ble_eq_true rfl)) dX6_waysFrom_121 ⟨Nat.zero_le _, Nat.zero_le _⟩) hw (fun x121 st121 t121 H121 locs121 eh121 eg121 bx121 hw => ?_)
              refine lv_iadd hx hb dX6_waysFrom_124 ?_
              refine lv_topi (fun x124 ex124 => ?_)
              have qx124 := iv_add_eq (show iv 0 0 0 from ⟨by decide, by decide⟩) (iv_any x121) ex124 (by decide)
              refine lv_istore (lv' := [(5, .int x124), (0, .ref ap0), (1, .int xp1), (2, .int xp2), (3, .int x19), (4, .int x26)]) hx hb dX6_waysFrom_125 hl (by decide) rfl (fun ls hl => ?_)
              exact J127 x124 c68_xp1 c68_x19 c68_x26 H121 locs121 hw _ (lv_sub hl [1, 2, 3, 4, 5, 0] rfl)
      refine lv_if_ne (tgt := 68) hx hb dX6_waysFrom_35 (by decide) (fun c35 => ?_) (fun c35 => ?_)
      · exact J68 bp1 bx19 bx26 s.heap [] hw _ (lv_sub hl [2, 3, 4, 1, 0] rfl)
      · have r35fp : iv x34 0 0 := (iv_both (iv_any x34) (iv_eq (show iv 0 0 0 from ⟨by decide, by decide⟩) c35)).mono (by decide) (by decide)
        refine lv_aload_n hx hb dX6_waysFrom_38 rfl (lv_at hl 2 rfl) ?_
        refine hp_getr hx hb hts IX6 hown hK hw.1 hp0 rfl 4 (by decide) L25 rfl dX6_waysFrom_39 ?_
        refine lv_iload hx hb dX6_waysFrom_42 (lv_at hl 0 rfl) ?_
        refine hp_zaldA hx hb hK hw.1 hp0it (vp_iv bx26 (by decide)) dX6_waysFrom_44 (fun x44 => ?_)
        refine lv_if_ne (tgt := 68) hx hb dX6_waysFrom_45 (by decide) (fun c45 => ?_) (fun c45 => ?_)
        · exact J68 bp1 bx19 bx26 s.heap [] hw _ (lv_sub hl [2, 3, 4, 1, 0] rfl)
        · have r45fp : iv x44 0 0 := (iv_both (iv_any x44) (iv_eq (show iv 0 0 0 from ⟨by decide, by decide⟩) c45)).mono (by decide) (by decide)
          refine lv_iload_n hx hb dX6_waysFrom_48 rfl (lv_at hl 3 rfl) ?_
          refine lv_iload_n hx hb dX6_waysFrom_49 rfl (lv_at hl 4 rfl) ?_
          have J58 : ∀ (y58_s0 : Int32), iv xp1 12 12 → iv y58_s0 1 2 → ∀ (H : Heap) (locs : List Loc), hp_w D T s H locs → ∀ (ls : Array Slot), lv_has ls 6 [(0, .ref ap0), (1, .int xp1), (2, .int xp2)] → WX6_waysFrom_12 p l e s m below meth c D T ap0 xp1 xp2 H locs (F0 m 58 ls [.int y58_s0]) := by
            intro y58_s0 c58_xp1 c58_y58_s0 H58 locs58 hw ls hl
            refine lv_aload_n hx hb dX6_waysFrom_58 rfl (lv_at hl 0 rfl) ?_
            refine lv_iload_n hx hb dX6_waysFrom_59 rfl (lv_at hl 1 rfl) ?_
            refine lv_iconst (v := 1) hx hb dX6_waysFrom_60 (by decide) ?_
            refine lv_iadd hx hb dX6_waysFrom_61 ?_
            refine lv_topi (fun x61 ex61 => ?_)
            have bx61 : iv x61 13 13 := iv_add c58_xp1 (show iv 1 1 1 from ⟨by decide, by decide⟩) ex61 (by decide)
            have qx61 := iv_add_eq c58_xp1 (show iv 1 1 1 from ⟨by decide, by decide⟩) ex61 (by decide)
            refine lv_iload_n hx hb dX6_waysFrom_62 rfl (lv_at hl 2 rfl) ?_
            refine hp_callei (va_runV (As := [.int x61, .int xp2]) (rest := [.int y58_s0]) ⟨hx, hb, hml, hown, hts⟩ (sX6_waysFrom_13 l D T ap0 x61 xp2 ip0 bx61) (cwV 2 hts gX6_waysFrom_X6_waysFrom rfl rfl rfl (by decide +kernel) ⟨Nat.le_of_ble_eq_true rfl, Nat.le_of_ble_eq_true rfl⟩) (hp_preV hG hw hp0 rfl trivial) rfl rfl hl.1 rfl (lv_room (Nat.le_of_ble_eq_true rfl)) dX6_waysFrom_63 ⟨Nat.zero_le _, Nat.zero_le _⟩) hw (fun x63 st63 t63 H63 locs63 eh63 eg63 bx63 hw => ?_)
            refine lv_imul hx hb dX6_waysFrom_66 ?_
            refine lv_topi (fun x66 ex66 => ?_)
            exact W.iret (v := x66) hx hb hr (fun t ht hW => ⟨some (.int x66), rfl, ⟨x66, rfl, trivial⟩, by rw [ht]; exact hw.1, hw.2.F ht⟩) hw.2.2.2 dX6_waysFrom_67
          refine lv_icmp_ne (tgt := 57) hx hb dX6_waysFrom_50 (by decide) (fun c50 => ?_) (fun c50 => ?_)
          · refine lv_iconst (v := 2) hx hb dX6_waysFrom_57 (by decide) ?_
            exact J58 (2 : Int32) bp1 (show iv 2 1 2 from ⟨by decide, by decide⟩) s.heap [] hw _ (lv_sub hl [2, 3, 4] rfl)
          · have r50fq : iv xp2 12 12 := (iv_both (iv_any xp2) (iv_eq bp1 c50.symm)).mono (by decide) (by decide)
            refine lv_iconst (v := 1) hx hb dX6_waysFrom_53 (by decide) ?_
            refine lv_goto (tgt := 58) hx hb dX6_waysFrom_54 (by decide) ?_
            exact J58 (1 : Int32) bp1 (show iv 1 1 2 from ⟨by decide, by decide⟩) s.heap [] hw _ (lv_sub hl [2, 3, 4] rfl)
    · have r9fp : iv x6 0 12 := (iv_le_l (iv_nlt c9) bx6 bp1).mono (by decide) (by decide)
      exact J12 s.heap [] hw _ (lv_sub hl [] rfl)
abbrev WX6_waysFrom_11 (p : Program) (l : Launch) (e : Env) (s : State) (m : MethodId) (below : List Frame) (meth : Method) (c : Code) (D : hp_D) (T : hp_T) (ap0 : Nat) (xp1 : Int32) (xp2 : Int32) (H : Heap) (locs : List Loc) (g : JFrame) : Prop := W p l e (headSpec wsX6_waysFrom ({ frames := 5, cells := 0, slots := 0, locals := 125 })).room s m ([.ref ap0, .int xp1, .int xp2] : List Value).toArray below meth c H locs 0 0 (MQ below (hq_e D T (fun v _ _ => ∃ r : Int32, v = some (.int r) ∧ True)) ([.ref ap0, .int xp1, .int xp2] : List Value).toArray s 0 0 (hp_F T)) g
set_option maxHeartbeats 4000000 in
set_option maxRecDepth 100000 in
theorem sX6_waysFrom_11 (l : Launch) (D : hp_D) (T : hp_T) (ap0 : Nat) (xp1 : Int32) (xp2 : Int32) (ip0 : isShuns T ap0) (bp1 : iv xp1 11 11) : Met l yX6_waysFrom wsX6_waysFrom ({ frames := 5, cells := 0, slots := 0, locals := 125 }) (hp_Pc D T [.ref ap0, .int xp1, .int xp2] (fun _ => True)) (hq_e D T (fun v _ _ => ∃ r : Int32, v = some (.int r) ∧ True)) 0 0 (hp_F T) := by
  obtain ⟨ap0le, ap0gr, ap0du, ap0it, ap0op, hp0, hp0le, hp0gr, hp0du, hp0it, hp0op⟩ := id ip0
  refine Met.ofW (cc := cX6_waysFrom) (maxL := 6) (ret := (some .int)) (by decide) rfl ?_
  intro p e s m args below meth c s₁ B hml hv
  obtain ⟨rfl, hok, hG, hB⟩ := hv
  have hx := B.exec
  have hb := B.bytes
  have hr := B.returns
  have hts := atoms_spec (ws := wsX6_waysFrom) B.pre
  have hown : s.vm.findClass RX6 = some m.cls := findClass_of_methodNamed B.named
  have hlocks := B.notSynchronized
  have hK := hG.1
  have hw : hp_w D T s s.heap [] := hp_w.rf hok
  have IX6 : ∀ w ∈ wsX60, w ∈ wsX6_waysFrom := by decide +kernel
  have L9 := hts (.fieldLink RX6 9 "PalmCensus$Shuns" "twos" "I") (by decide +kernel)
  have L15 := hts (.fieldLink RX6 15 "PalmCensus$Shuns" "lesser" "[I") (by decide +kernel)
  have L19 := hts (.fieldLink RX6 19 "PalmCensus$Shuns" "greater" "[I") (by decide +kernel)
  have L25 := hts (.fieldLink RX6 25 "PalmCensus$Shuns" "isTold" "[Z") (by decide +kernel)
  have L29 := hts (.fieldLink RX6 29 "PalmCensus$Shuns" "open" "[I") (by decide +kernel)
  have L22 := hts (.fieldLink RX6 22 "PalmCensus$Shuns" "due" "[I") (by decide +kernel)
  have hl := lv_entry ([.ref ap0, .int xp1, .int xp2]) (n := 6) (Nat.le_of_ble_eq_true rfl)
  rw [lg_entry_eq]
  generalize (lg_sl ([.ref ap0, .int xp1, .int xp2]) ++ List.replicate (6 - (lg_sl ([.ref ap0, .int xp1, .int xp2])).length) Slot.unset).toArray = ls at hl ⊢
  have hl : lv_has ls 6 [(0, .ref ap0), (1, .int xp1), (2, .int xp2)] := hl
  show WX6_waysFrom_11 p l e s m below meth c D T ap0 xp1 xp2 s.heap [] (F0 m 0 ls [])
  refine lv_iload_n hx hb dX6_waysFrom_0 rfl (lv_at hl 1 rfl) ?_
  have J12 : ∀ (H : Heap) (locs : List Loc), hp_w D T s H locs → ∀ (ls : Array Slot), lv_has ls 6 [] → WX6_waysFrom_11 p l e s m below meth c D T ap0 xp1 xp2 H locs (F0 m 12 ls []) := by
    intro H12 locs12 hw ls hl
    refine lv_iconst (v := 1) hx hb dX6_waysFrom_12 (by decide) ?_
    exact W.iret (v := 1) hx hb hr (fun t ht hW => ⟨some (.int 1), rfl, ⟨(1 : Int32), rfl, trivial⟩, by rw [ht]; exact hw.1, hw.2.F ht⟩) hw.2.2.2 dX6_waysFrom_13
  refine lv_if_lt (tgt := 12) hx hb dX6_waysFrom_1 (by decide) (fun c1 => ?_) (fun c1 => ?_)
  · exact iv_abs (iv_lt_l c1 bp1 (show iv 0 0 0 from ⟨by decide, by decide⟩)) (by decide)
  · refine lv_iload_n hx hb dX6_waysFrom_4 rfl (lv_at hl 1 rfl) ?_
    refine lv_aload_n hx hb dX6_waysFrom_5 rfl (lv_at hl 0 rfl) ?_
    refine hp_geti hx hb hts IX6 hown hK hw.1 hp0 rfl 0 (by decide) L9 rfl dX6_waysFrom_6 (fun x6 bx6 fx6 => ?_)
    refine lv_icmp_lt (tgt := 14) hx hb dX6_waysFrom_9 (by decide) (fun c9 => ?_) (fun c9 => ?_)
    · have r9tq : iv x6 12 16 := (iv_lt_r c9 bp1 bx6).mono (by decide) (by decide)
      refine lv_aload_n hx hb dX6_waysFrom_14 rfl (lv_at hl 0 rfl) ?_
      refine hp_getr hx hb hts IX6 hown hK hw.1 hp0 rfl 1 (by decide) L15 rfl dX6_waysFrom_15 ?_
      refine lv_iload_n hx hb dX6_waysFrom_18 rfl (lv_at hl 1 rfl) ?_
      refine hp_ialdI hx hb hK hw.1 hp0le (vp_iv bp1 (by decide)) dX6_waysFrom_19 (fun x19 bx19 => ?_)
      refine lv_istore_n (lv' := [(3, .int x19), (0, .ref ap0), (1, .int xp1), (2, .int xp2)]) hx hb dX6_waysFrom_20 rfl hl (by decide) rfl (fun ls hl => ?_)
      refine lv_aload_n hx hb dX6_waysFrom_21 rfl (lv_at hl 1 rfl) ?_
      refine hp_getr hx hb hts IX6 hown hK hw.1 hp0 rfl 2 (by decide) L19 rfl dX6_waysFrom_22 ?_
      refine lv_iload_n hx hb dX6_waysFrom_25 rfl (lv_at hl 2 rfl) ?_
      refine hp_ialdI hx hb hK hw.1 hp0gr (vp_iv bp1 (by decide)) dX6_waysFrom_26 (fun x26 bx26 => ?_)
      refine lv_istore (lv' := [(4, .int x26), (3, .int x19), (0, .ref ap0), (1, .int xp1), (2, .int xp2)]) hx hb dX6_waysFrom_27 hl (by decide) rfl (fun ls hl => ?_)
      refine lv_aload_n hx hb dX6_waysFrom_29 rfl (lv_at hl 2 rfl) ?_
      refine hp_getr hx hb hts IX6 hown hK hw.1 hp0 rfl 4 (by decide) L25 rfl dX6_waysFrom_30 ?_
      refine lv_iload_n hx hb dX6_waysFrom_33 rfl (lv_at hl 1 rfl) ?_
      refine hp_zaldA hx hb hK hw.1 hp0it (vp_iv bx19 (by decide)) dX6_waysFrom_34 (fun x34 => ?_)
      have J68 : iv xp1 11 11 → iv x19 0 9 → iv x26 0 9 → ∀ (H : Heap) (locs : List Loc), hp_w D T s H locs → ∀ (ls : Array Slot), lv_has ls 6 [(0, .ref ap0), (1, .int xp1), (2, .int xp2), (3, .int x19), (4, .int x26)] → WX6_waysFrom_11 p l e s m below meth c D T ap0 xp1 xp2 H locs (F0 m 68 ls []) := by
        intro c68_xp1 c68_x19 c68_x26 H68 locs68 hw ls hl
        refine lv_aload_n hx hb dX6_waysFrom_68 rfl (lv_at hl 0 rfl) ?_
        refine hp_getr hx hb hts IX6 hown hK hw.1 hp0 rfl 5 (by decide) L29 rfl dX6_waysFrom_69 ?_
        refine lv_iload_n hx hb dX6_waysFrom_72 rfl (lv_at hl 3 rfl) ?_
        refine lv_dup2_11 hx hb dX6_waysFrom_73 rfl rfl ?_
        refine hp_ialdA hx hb hK hw.1 hp0op (vp_iv c68_x19 (by decide)) dX6_waysFrom_74 (fun x74 => ?_)
        refine lv_iconst (v := 1) hx hb dX6_waysFrom_75 (by decide) ?_
        refine lv_isub hx hb dX6_waysFrom_76 ?_
        refine lv_topi (fun x76 ex76 => ?_)
        refine hp_iast hx hb hK hw hp0op (vp_iv c68_x19 (by decide)) ⟨_, rfl⟩ dX6_waysFrom_77 (fun H77 locs77 hw g77 => ?_)
        refine lv_aload_n hx hb dX6_waysFrom_78 rfl (lv_at hl 0 rfl) ?_
        refine hp_getr hx hb hts IX6 hown hK hw.1 hp0 rfl 5 (by decide) L29 rfl dX6_waysFrom_79 ?_
        refine lv_iload hx hb dX6_waysFrom_82 (lv_at hl 4 rfl) ?_
        refine lv_dup2_11 hx hb dX6_waysFrom_84 rfl rfl ?_
        refine hp_ialdA hx hb hK hw.1 hp0op (vp_iv c68_x26 (by decide)) dX6_waysFrom_85 (fun x85 => ?_)
        refine lv_iconst (v := 1) hx hb dX6_waysFrom_86 (by decide) ?_
        refine lv_isub hx hb dX6_waysFrom_87 ?_
        refine lv_topi (fun x87 ex87 => ?_)
        refine hp_iast hx hb hK hw hp0op (vp_iv c68_x26 (by decide)) ⟨_, rfl⟩ dX6_waysFrom_88 (fun H88 locs88 hw g88 => ?_)
        refine lv_iconst (v := 0) hx hb dX6_waysFrom_89 (by decide) ?_
        refine lv_istore (lv' := [(5, .int 0), (0, .ref ap0), (1, .int xp1), (2, .int xp2), (3, .int x19), (4, .int x26)]) hx hb dX6_waysFrom_90 hl (by decide) rfl (fun ls hl => ?_)
        refine lv_iload_n hx hb dX6_waysFrom_92 rfl (lv_at hl 2 rfl) ?_
        refine lv_iload_n hx hb dX6_waysFrom_93 rfl (lv_at hl 3 rfl) ?_
        have J127 : ∀ (y127_l5 : Int32), iv xp1 11 11 → iv x19 0 9 → iv x26 0 9 → ∀ (H : Heap) (locs : List Loc), hp_w D T s H locs → ∀ (ls : Array Slot), lv_has ls 6 [(0, .ref ap0), (1, .int xp1), (2, .int xp2), (3, .int x19), (4, .int x26), (5, .int y127_l5)] → WX6_waysFrom_11 p l e s m below meth c D T ap0 xp1 xp2 H locs (F0 m 127 ls []) := by
          intro y127_l5 c127_xp1 c127_x19 c127_x26 H127 locs127 hw ls hl
          refine lv_aload_n hx hb dX6_waysFrom_127 rfl (lv_at hl 0 rfl) ?_
          refine hp_getr hx hb hts IX6 hown hK hw.1 hp0 rfl 3 (by decide) L22 rfl dX6_waysFrom_128 ?_
          refine lv_iload_n hx hb dX6_waysFrom_131 rfl (lv_at hl 3 rfl) ?_
          refine lv_dup2_11 hx hb dX6_waysFrom_132 rfl rfl ?_
          refine hp_ialdA hx hb hK hw.1 hp0du (vp_iv c127_x19 (by decide)) dX6_waysFrom_133 (fun x133 => ?_)
          refine lv_iconst (v := 1) hx hb dX6_waysFrom_134 (by decide) ?_
          refine lv_isub hx hb dX6_waysFrom_135 ?_
          refine lv_topi (fun x135 ex135 => ?_)
          refine hp_iast hx hb hK hw hp0du (vp_iv c127_x19 (by decide)) ⟨_, rfl⟩ dX6_waysFrom_136 (fun H136 locs136 hw g136 => ?_)
          refine lv_aload_n hx hb dX6_waysFrom_137 rfl (lv_at hl 0 rfl) ?_
          refine hp_getr hx hb hts IX6 hown hK hw.1 hp0 rfl 3 (by decide) L22 rfl dX6_waysFrom_138 ?_
          refine lv_iload hx hb dX6_waysFrom_141 (lv_at hl 4 rfl) ?_
          refine lv_dup2_11 hx hb dX6_waysFrom_143 rfl rfl ?_
          refine hp_ialdA hx hb hK hw.1 hp0du (vp_iv c127_x26 (by decide)) dX6_waysFrom_144 (fun x144 => ?_)
          refine lv_iconst (v := 1) hx hb dX6_waysFrom_145 (by decide) ?_
          refine lv_isub hx hb dX6_waysFrom_146 ?_
          refine lv_topi (fun x146 ex146 => ?_)
          refine hp_iast hx hb hK hw hp0du (vp_iv c127_x26 (by decide)) ⟨_, rfl⟩ dX6_waysFrom_147 (fun H147 locs147 hw g147 => ?_)
          refine lv_aload_n hx hb dX6_waysFrom_148 rfl (lv_at hl 0 rfl) ?_
          refine lv_iload_n hx hb dX6_waysFrom_149 rfl (lv_at hl 3 rfl) ?_
          refine hp_callpi (va_runV (As := [.int x19]) (rest := []) ⟨hx, hb, hml, hown, hts⟩ (sX6_canStillBe l D T ap0 x19 ip0 c127_x19) (cwV 1 hts gX6_waysFrom_X6_canStillBe rfl rfl rfl (by decide +kernel) ⟨Nat.le_of_ble_eq_true rfl, Nat.le_of_ble_eq_true rfl⟩) (hp_preV hG hw hp0 rfl trivial) rfl rfl hl.1 rfl (lv_room (Nat.le_of_ble_eq_true rfl)) dX6_waysFrom_150 ⟨Nat.zero_le _, Nat.zero_le _⟩) (fun x150 bx150 => ?_)
          have J178 : ∀ (y178_l5 : Int32), iv x19 0 9 → iv x26 0 9 → ∀ (H : Heap) (locs : List Loc), hp_w D T s H locs → ∀ (ls : Array Slot), lv_has ls 6 [(0, .ref ap0), (3, .int x19), (4, .int x26), (5, .int y178_l5)] → WX6_waysFrom_11 p l e s m below meth c D T ap0 xp1 xp2 H locs (F0 m 178 ls []) := by
            intro y178_l5 c178_x19 c178_x26 H178 locs178 hw ls hl
            refine lv_aload_n hx hb dX6_waysFrom_178 rfl (lv_at hl 0 rfl) ?_
            refine hp_getr hx hb hts IX6 hown hK hw.1 hp0 rfl 3 (by decide) L22 rfl dX6_waysFrom_179 ?_
            refine lv_iload_n hx hb dX6_waysFrom_182 rfl (lv_at hl 1 rfl) ?_
            refine lv_dup2_11 hx hb dX6_waysFrom_183 rfl rfl ?_
            refine hp_ialdA hx hb hK hw.1 hp0du (vp_iv c178_x19 (by decide)) dX6_waysFrom_184 (fun x184 => ?_)
            refine lv_iconst (v := 1) hx hb dX6_waysFrom_185 (by decide) ?_
            refine lv_iadd hx hb dX6_waysFrom_186 ?_
            refine lv_topi (fun x186 ex186 => ?_)
            refine hp_iast hx hb hK hw hp0du (vp_iv c178_x19 (by decide)) ⟨_, rfl⟩ dX6_waysFrom_187 (fun H187 locs187 hw g187 => ?_)
            refine lv_aload_n hx hb dX6_waysFrom_188 rfl (lv_at hl 0 rfl) ?_
            refine hp_getr hx hb hts IX6 hown hK hw.1 hp0 rfl 3 (by decide) L22 rfl dX6_waysFrom_189 ?_
            refine lv_iload hx hb dX6_waysFrom_192 (lv_at hl 2 rfl) ?_
            refine lv_dup2_11 hx hb dX6_waysFrom_194 rfl rfl ?_
            refine hp_ialdA hx hb hK hw.1 hp0du (vp_iv c178_x26 (by decide)) dX6_waysFrom_195 (fun x195 => ?_)
            refine lv_iconst (v := 1) hx hb dX6_waysFrom_196 (by decide) ?_
            refine lv_iadd hx hb dX6_waysFrom_197 ?_
            refine lv_topi (fun x197 ex197 => ?_)
            refine hp_iast hx hb hK hw hp0du (vp_iv c178_x26 (by decide)) ⟨_, rfl⟩ dX6_waysFrom_198 (fun H198 locs198 hw g198 => ?_)
            refine lv_aload_n hx hb dX6_waysFrom_199 rfl (lv_at hl 0 rfl) ?_
            refine hp_getr hx hb hts IX6 hown hK hw.1 hp0 rfl 5 (by decide) L29 rfl dX6_waysFrom_200 ?_
            refine lv_iload_n hx hb dX6_waysFrom_203 rfl (lv_at hl 1 rfl) ?_
            refine lv_dup2_11 hx hb dX6_waysFrom_204 rfl rfl ?_
            refine hp_ialdA hx hb hK hw.1 hp0op (vp_iv c178_x19 (by decide)) dX6_waysFrom_205 (fun x205 => ?_)
            refine lv_iconst (v := 1) hx hb dX6_waysFrom_206 (by decide) ?_
            refine lv_iadd hx hb dX6_waysFrom_207 ?_
            refine lv_topi (fun x207 ex207 => ?_)
            refine hp_iast hx hb hK hw hp0op (vp_iv c178_x19 (by decide)) ⟨_, rfl⟩ dX6_waysFrom_208 (fun H208 locs208 hw g208 => ?_)
            refine lv_aload_n hx hb dX6_waysFrom_209 rfl (lv_at hl 0 rfl) ?_
            refine hp_getr hx hb hts IX6 hown hK hw.1 hp0 rfl 5 (by decide) L29 rfl dX6_waysFrom_210 ?_
            refine lv_iload hx hb dX6_waysFrom_213 (lv_at hl 2 rfl) ?_
            refine lv_dup2_11 hx hb dX6_waysFrom_215 rfl rfl ?_
            refine hp_ialdA hx hb hK hw.1 hp0op (vp_iv c178_x26 (by decide)) dX6_waysFrom_216 (fun x216 => ?_)
            refine lv_iconst (v := 1) hx hb dX6_waysFrom_217 (by decide) ?_
            refine lv_iadd hx hb dX6_waysFrom_218 ?_
            refine lv_topi (fun x218 ex218 => ?_)
            refine hp_iast hx hb hK hw hp0op (vp_iv c178_x26 (by decide)) ⟨_, rfl⟩ dX6_waysFrom_219 (fun H219 locs219 hw g219 => ?_)
            refine lv_iload hx hb dX6_waysFrom_220 (lv_at hl 3 rfl) ?_
            exact W.iret (v := y178_l5) hx hb hr (fun t ht hW => ⟨some (.int y178_l5), rfl, ⟨y178_l5, rfl, trivial⟩, by rw [ht]; exact hw.1, hw.2.F ht⟩) hw.2.2.2 dX6_waysFrom_222
          refine lv_if_eq (tgt := 178) hx hb dX6_waysFrom_153 (by decide) (fun c153 => ?_) (fun c153 => ?_)
          · have r153tp : iv x150 0 0 := (iv_both bx150 (iv_eq (show iv 0 0 0 from ⟨by decide, by decide⟩) c153)).mono (by decide) (by decide)
            exact J178 y127_l5 c127_x19 c127_x26 H147 locs147 hw _ (lv_sub hl [0, 3, 4, 5] rfl)
          · have r153fp : iv x150 1 1 := (iv_ne_lo c153 bx150 rfl).mono (by decide) (by decide)
            refine lv_aload_n hx hb dX6_waysFrom_156 rfl (lv_at hl 0 rfl) ?_
            refine lv_iload hx hb dX6_waysFrom_157 (lv_at hl 4 rfl) ?_
            refine hp_callpi (va_runV (As := [.int x26]) (rest := []) ⟨hx, hb, hml, hown, hts⟩ (sX6_canStillBe l D T ap0 x26 ip0 c127_x26) (cwV 1 hts gX6_waysFrom_X6_canStillBe rfl rfl rfl (by decide +kernel) ⟨Nat.le_of_ble_eq_true rfl, Nat.le_of_ble_eq_true rfl⟩) (hp_preV hG hw hp0 rfl trivial) rfl rfl hl.1 rfl (lv_room (Nat.le_of_ble_eq_true rfl)) dX6_waysFrom_159 ⟨Nat.zero_le _, Nat.zero_le _⟩) (fun x159 bx159 => ?_)
            refine lv_if_eq (tgt := 178) hx hb dX6_waysFrom_162 (by decide) (fun c162 => ?_) (fun c162 => ?_)
            · have r162tp : iv x159 0 0 := (iv_both bx159 (iv_eq (show iv 0 0 0 from ⟨by decide, by decide⟩) c162)).mono (by decide) (by decide)
              exact J178 y127_l5 c127_x19 c127_x26 H147 locs147 hw _ (lv_sub hl [0, 3, 4, 5] rfl)
            · have r162fp : iv x159 1 1 := (iv_ne_lo c162 bx159 rfl).mono (by decide) (by decide)
              refine lv_iload hx hb dX6_waysFrom_165 (lv_at hl 5 rfl) ?_
              refine lv_aload_n hx hb dX6_waysFrom_167 rfl (lv_at hl 0 rfl) ?_
              refine lv_iload_n hx hb dX6_waysFrom_168 rfl (lv_at hl 1 rfl) ?_
              refine lv_iconst (v := 1) hx hb dX6_waysFrom_169 (by decide) ?_
              refine lv_iadd hx hb dX6_waysFrom_170 ?_
              refine lv_topi (fun x170 ex170 => ?_)
              have bx170 : iv x170 12 12 := iv_add c127_xp1 (show iv 1 1 1 from ⟨by decide, by decide⟩) ex170 (by decide)
              have qx170 := iv_add_eq c127_xp1 (show iv 1 1 1 from ⟨by decide, by decide⟩) ex170 (by decide)
              refine lv_iload_n hx hb dX6_waysFrom_171 rfl (lv_at hl 2 rfl) ?_
              refine hp_callei (va_runV (As := [.int x170, .int xp2]) (rest := [.int y127_l5]) ⟨hx, hb, hml, hown, hts⟩ (sX6_waysFrom_12 l D T ap0 x170 xp2 ip0 bx170) (cwV 2 hts gX6_waysFrom_X6_waysFrom rfl rfl rfl (by decide +kernel) ⟨Nat.le_of_ble_eq_true rfl, Nat.le_of_ble_eq_true rfl⟩) (hp_preV hG hw hp0 rfl trivial) rfl rfl hl.1 rfl (lv_room (Nat.le_of_ble_eq_true rfl)) dX6_waysFrom_172 ⟨Nat.zero_le _, Nat.zero_le _⟩) hw (fun x172 st172 t172 H172 locs172 eh172 eg172 bx172 hw => ?_)
              refine lv_iadd hx hb dX6_waysFrom_175 ?_
              refine lv_topi (fun x175 ex175 => ?_)
              refine lv_istore (lv' := [(5, .int x175), (0, .ref ap0), (1, .int xp1), (2, .int xp2), (3, .int x19), (4, .int x26)]) hx hb dX6_waysFrom_176 hl (by decide) rfl (fun ls hl => ?_)
              exact J178 x175 c127_x19 c127_x26 H172 locs172 hw _ (lv_sub hl [1, 4, 5, 0] rfl)
        refine lv_icmp_eq (tgt := 127) hx hb dX6_waysFrom_94 (by decide) (fun c94 => ?_) (fun c94 => ?_)
        · have r94tq : iv xp2 11 11 := (iv_both (iv_any xp2) (iv_eq c68_xp1 c94.symm)).mono (by decide) (by decide)
          exact J127 (0 : Int32) c68_xp1 c68_x19 c68_x26 H88 locs88 hw _ (lv_sub hl [1, 2, 3, 4, 5, 0] rfl)
        · refine lv_aload_n hx hb dX6_waysFrom_97 rfl (lv_at hl 1 rfl) ?_
          refine lv_iload_n hx hb dX6_waysFrom_98 rfl (lv_at hl 4 rfl) ?_
          refine hp_callpi (va_runV (As := [.int x19]) (rest := []) ⟨hx, hb, hml, hown, hts⟩ (sX6_canStillBe l D T ap0 x19 ip0 c68_x19) (cwV 1 hts gX6_waysFrom_X6_canStillBe rfl rfl rfl (by decide +kernel) ⟨Nat.le_of_ble_eq_true rfl, Nat.le_of_ble_eq_true rfl⟩) (hp_preV hG hw hp0 rfl trivial) rfl rfl hl.1 rfl (lv_room (Nat.le_of_ble_eq_true rfl)) dX6_waysFrom_99 ⟨Nat.zero_le _, Nat.zero_le _⟩) (fun x99 bx99 => ?_)
          refine lv_if_eq (tgt := 127) hx hb dX6_waysFrom_102 (by decide) (fun c102 => ?_) (fun c102 => ?_)
          · have r102tp : iv x99 0 0 := (iv_both bx99 (iv_eq (show iv 0 0 0 from ⟨by decide, by decide⟩) c102)).mono (by decide) (by decide)
            exact J127 (0 : Int32) c68_xp1 c68_x19 c68_x26 H88 locs88 hw _ (lv_sub hl [1, 2, 3, 4, 5, 0] rfl)
          · have r102fp : iv x99 1 1 := (iv_ne_lo c102 bx99 rfl).mono (by decide) (by decide)
            refine lv_aload_n hx hb dX6_waysFrom_105 rfl (lv_at hl 1 rfl) ?_
            refine lv_iload hx hb dX6_waysFrom_106 (lv_at hl 5 rfl) ?_
            refine hp_callpi (va_runV (As := [.int x26]) (rest := []) ⟨hx, hb, hml, hown, hts⟩ (sX6_canStillBe l D T ap0 x26 ip0 c68_x26) (cwV 1 hts gX6_waysFrom_X6_canStillBe rfl rfl rfl (by decide +kernel) ⟨Nat.le_of_ble_eq_true rfl, Nat.le_of_ble_eq_true rfl⟩) (hp_preV hG hw hp0 rfl trivial) rfl rfl hl.1 rfl (lv_room (Nat.le_of_ble_eq_true rfl)) dX6_waysFrom_108 ⟨Nat.zero_le _, Nat.zero_le _⟩) (fun x108 bx108 => ?_)
            refine lv_if_eq (tgt := 127) hx hb dX6_waysFrom_111 (by decide) (fun c111 => ?_) (fun c111 => ?_)
            · have r111tp : iv x108 0 0 := (iv_both bx108 (iv_eq (show iv 0 0 0 from ⟨by decide, by decide⟩) c111)).mono (by decide) (by decide)
              exact J127 (0 : Int32) c68_xp1 c68_x19 c68_x26 H88 locs88 hw _ (lv_sub hl [1, 2, 3, 4, 5, 0] rfl)
            · have r111fp : iv x108 1 1 := (iv_ne_lo c111 bx108 rfl).mono (by decide) (by decide)
              refine lv_iload hx hb dX6_waysFrom_114 (lv_at hl 0 rfl) ?_
              refine lv_aload_n hx hb dX6_waysFrom_116 rfl (lv_at hl 1 rfl) ?_
              refine lv_iload_n hx hb dX6_waysFrom_117 rfl (lv_at hl 2 rfl) ?_
              refine lv_iconst (v := 1) hx hb dX6_waysFrom_118 (by decide) ?_
              refine lv_iadd hx hb dX6_waysFrom_119 ?_
              refine lv_topi (fun x119 ex119 => ?_)
              have bx119 : iv x119 12 12 := iv_add c68_xp1 (show iv 1 1 1 from ⟨by decide, by decide⟩) ex119 (by decide)
              have qx119 := iv_add_eq c68_xp1 (show iv 1 1 1 from ⟨by decide, by decide⟩) ex119 (by decide)
              refine lv_iload_n hx hb dX6_waysFrom_120 rfl (lv_at hl 3 rfl) ?_
              refine hp_callei (va_runV (As := [.int x119, .int xp2]) (rest := [.int 0]) ⟨hx, hb, hml, hown, hts⟩ (sX6_waysFrom_12 l D T ap0 x119 xp2 ip0 bx119) (cwV 2 hts gX6_waysFrom_X6_waysFrom rfl rfl rfl (by decide +kernel) ⟨Nat.le_of_ble_eq_true rfl, Nat.le_of_ble_eq_true rfl⟩) (hp_preV hG hw hp0 rfl trivial) rfl rfl hl.1 rfl (lv_room (Nat.le_of_ble_eq_true rfl)) dX6_waysFrom_121 ⟨Nat.zero_le _, Nat.zero_le _⟩) hw (fun x121 st121 t121 H121 locs121 eh121 eg121 bx121 hw => ?_)
              refine lv_iadd hx hb dX6_waysFrom_124 ?_
              refine lv_topi (fun x124 ex124 => ?_)
              have qx124 := iv_add_eq (show iv 0 0 0 from ⟨by decide, by decide⟩) (iv_any x121) ex124 (by decide)
              refine lv_istore (lv' := [(5, .int x124), (0, .ref ap0), (1, .int xp1), (2, .int xp2), (3, .int x19), (4, .int x26)]) hx hb dX6_waysFrom_125 hl (by decide) rfl (fun ls hl => ?_)
              exact J127 x124 c68_xp1 c68_x19 c68_x26 H121 locs121 hw _ (lv_sub hl [1, 2, 3, 4, 5, 0] rfl)
      refine lv_if_ne (tgt := 68) hx hb dX6_waysFrom_35 (by decide) (fun c35 => ?_) (fun c35 => ?_)
      · exact J68 bp1 bx19 bx26 s.heap [] hw _ (lv_sub hl [2, 3, 4, 1, 0] rfl)
      · have r35fp : iv x34 0 0 := (iv_both (iv_any x34) (iv_eq (show iv 0 0 0 from ⟨by decide, by decide⟩) c35)).mono (by decide) (by decide)
        refine lv_aload_n hx hb dX6_waysFrom_38 rfl (lv_at hl 2 rfl) ?_
        refine hp_getr hx hb hts IX6 hown hK hw.1 hp0 rfl 4 (by decide) L25 rfl dX6_waysFrom_39 ?_
        refine lv_iload hx hb dX6_waysFrom_42 (lv_at hl 0 rfl) ?_
        refine hp_zaldA hx hb hK hw.1 hp0it (vp_iv bx26 (by decide)) dX6_waysFrom_44 (fun x44 => ?_)
        refine lv_if_ne (tgt := 68) hx hb dX6_waysFrom_45 (by decide) (fun c45 => ?_) (fun c45 => ?_)
        · exact J68 bp1 bx19 bx26 s.heap [] hw _ (lv_sub hl [2, 3, 4, 1, 0] rfl)
        · have r45fp : iv x44 0 0 := (iv_both (iv_any x44) (iv_eq (show iv 0 0 0 from ⟨by decide, by decide⟩) c45)).mono (by decide) (by decide)
          refine lv_iload_n hx hb dX6_waysFrom_48 rfl (lv_at hl 3 rfl) ?_
          refine lv_iload_n hx hb dX6_waysFrom_49 rfl (lv_at hl 4 rfl) ?_
          have J58 : ∀ (y58_s0 : Int32), iv xp1 11 11 → iv y58_s0 1 2 → ∀ (H : Heap) (locs : List Loc), hp_w D T s H locs → ∀ (ls : Array Slot), lv_has ls 6 [(0, .ref ap0), (1, .int xp1), (2, .int xp2)] → WX6_waysFrom_11 p l e s m below meth c D T ap0 xp1 xp2 H locs (F0 m 58 ls [.int y58_s0]) := by
            intro y58_s0 c58_xp1 c58_y58_s0 H58 locs58 hw ls hl
            refine lv_aload_n hx hb dX6_waysFrom_58 rfl (lv_at hl 0 rfl) ?_
            refine lv_iload_n hx hb dX6_waysFrom_59 rfl (lv_at hl 1 rfl) ?_
            refine lv_iconst (v := 1) hx hb dX6_waysFrom_60 (by decide) ?_
            refine lv_iadd hx hb dX6_waysFrom_61 ?_
            refine lv_topi (fun x61 ex61 => ?_)
            have bx61 : iv x61 12 12 := iv_add c58_xp1 (show iv 1 1 1 from ⟨by decide, by decide⟩) ex61 (by decide)
            have qx61 := iv_add_eq c58_xp1 (show iv 1 1 1 from ⟨by decide, by decide⟩) ex61 (by decide)
            refine lv_iload_n hx hb dX6_waysFrom_62 rfl (lv_at hl 2 rfl) ?_
            refine hp_callei (va_runV (As := [.int x61, .int xp2]) (rest := [.int y58_s0]) ⟨hx, hb, hml, hown, hts⟩ (sX6_waysFrom_12 l D T ap0 x61 xp2 ip0 bx61) (cwV 2 hts gX6_waysFrom_X6_waysFrom rfl rfl rfl (by decide +kernel) ⟨Nat.le_of_ble_eq_true rfl, Nat.le_of_ble_eq_true rfl⟩) (hp_preV hG hw hp0 rfl trivial) rfl rfl hl.1 rfl (lv_room (Nat.le_of_ble_eq_true rfl)) dX6_waysFrom_63 ⟨Nat.zero_le _, Nat.zero_le _⟩) hw (fun x63 st63 t63 H63 locs63 eh63 eg63 bx63 hw => ?_)
            refine lv_imul hx hb dX6_waysFrom_66 ?_
            refine lv_topi (fun x66 ex66 => ?_)
            exact W.iret (v := x66) hx hb hr (fun t ht hW => ⟨some (.int x66), rfl, ⟨x66, rfl, trivial⟩, by rw [ht]; exact hw.1, hw.2.F ht⟩) hw.2.2.2 dX6_waysFrom_67
          refine lv_icmp_ne (tgt := 57) hx hb dX6_waysFrom_50 (by decide) (fun c50 => ?_) (fun c50 => ?_)
          · refine lv_iconst (v := 2) hx hb dX6_waysFrom_57 (by decide) ?_
            exact J58 (2 : Int32) bp1 (show iv 2 1 2 from ⟨by decide, by decide⟩) s.heap [] hw _ (lv_sub hl [2, 3, 4] rfl)
          · have r50fq : iv xp2 11 11 := (iv_both (iv_any xp2) (iv_eq bp1 c50.symm)).mono (by decide) (by decide)
            refine lv_iconst (v := 1) hx hb dX6_waysFrom_53 (by decide) ?_
            refine lv_goto (tgt := 58) hx hb dX6_waysFrom_54 (by decide) ?_
            exact J58 (1 : Int32) bp1 (show iv 1 1 2 from ⟨by decide, by decide⟩) s.heap [] hw _ (lv_sub hl [2, 3, 4] rfl)
    · have r9fp : iv x6 0 11 := (iv_le_l (iv_nlt c9) bx6 bp1).mono (by decide) (by decide)
      exact J12 s.heap [] hw _ (lv_sub hl [] rfl)
abbrev WX6_waysFrom_10 (p : Program) (l : Launch) (e : Env) (s : State) (m : MethodId) (below : List Frame) (meth : Method) (c : Code) (D : hp_D) (T : hp_T) (ap0 : Nat) (xp1 : Int32) (xp2 : Int32) (H : Heap) (locs : List Loc) (g : JFrame) : Prop := W p l e (headSpec wsX6_waysFrom ({ frames := 6, cells := 0, slots := 0, locals := 150 })).room s m ([.ref ap0, .int xp1, .int xp2] : List Value).toArray below meth c H locs 0 0 (MQ below (hq_e D T (fun v _ _ => ∃ r : Int32, v = some (.int r) ∧ True)) ([.ref ap0, .int xp1, .int xp2] : List Value).toArray s 0 0 (hp_F T)) g
set_option maxHeartbeats 4000000 in
set_option maxRecDepth 100000 in
theorem sX6_waysFrom_10 (l : Launch) (D : hp_D) (T : hp_T) (ap0 : Nat) (xp1 : Int32) (xp2 : Int32) (ip0 : isShuns T ap0) (bp1 : iv xp1 10 10) : Met l yX6_waysFrom wsX6_waysFrom ({ frames := 6, cells := 0, slots := 0, locals := 150 }) (hp_Pc D T [.ref ap0, .int xp1, .int xp2] (fun _ => True)) (hq_e D T (fun v _ _ => ∃ r : Int32, v = some (.int r) ∧ True)) 0 0 (hp_F T) := by
  obtain ⟨ap0le, ap0gr, ap0du, ap0it, ap0op, hp0, hp0le, hp0gr, hp0du, hp0it, hp0op⟩ := id ip0
  refine Met.ofW (cc := cX6_waysFrom) (maxL := 6) (ret := (some .int)) (by decide) rfl ?_
  intro p e s m args below meth c s₁ B hml hv
  obtain ⟨rfl, hok, hG, hB⟩ := hv
  have hx := B.exec
  have hb := B.bytes
  have hr := B.returns
  have hts := atoms_spec (ws := wsX6_waysFrom) B.pre
  have hown : s.vm.findClass RX6 = some m.cls := findClass_of_methodNamed B.named
  have hlocks := B.notSynchronized
  have hK := hG.1
  have hw : hp_w D T s s.heap [] := hp_w.rf hok
  have IX6 : ∀ w ∈ wsX60, w ∈ wsX6_waysFrom := by decide +kernel
  have L9 := hts (.fieldLink RX6 9 "PalmCensus$Shuns" "twos" "I") (by decide +kernel)
  have L15 := hts (.fieldLink RX6 15 "PalmCensus$Shuns" "lesser" "[I") (by decide +kernel)
  have L19 := hts (.fieldLink RX6 19 "PalmCensus$Shuns" "greater" "[I") (by decide +kernel)
  have L25 := hts (.fieldLink RX6 25 "PalmCensus$Shuns" "isTold" "[Z") (by decide +kernel)
  have L29 := hts (.fieldLink RX6 29 "PalmCensus$Shuns" "open" "[I") (by decide +kernel)
  have L22 := hts (.fieldLink RX6 22 "PalmCensus$Shuns" "due" "[I") (by decide +kernel)
  have hl := lv_entry ([.ref ap0, .int xp1, .int xp2]) (n := 6) (Nat.le_of_ble_eq_true rfl)
  rw [lg_entry_eq]
  generalize (lg_sl ([.ref ap0, .int xp1, .int xp2]) ++ List.replicate (6 - (lg_sl ([.ref ap0, .int xp1, .int xp2])).length) Slot.unset).toArray = ls at hl ⊢
  have hl : lv_has ls 6 [(0, .ref ap0), (1, .int xp1), (2, .int xp2)] := hl
  show WX6_waysFrom_10 p l e s m below meth c D T ap0 xp1 xp2 s.heap [] (F0 m 0 ls [])
  refine lv_iload_n hx hb dX6_waysFrom_0 rfl (lv_at hl 1 rfl) ?_
  have J12 : ∀ (H : Heap) (locs : List Loc), hp_w D T s H locs → ∀ (ls : Array Slot), lv_has ls 6 [] → WX6_waysFrom_10 p l e s m below meth c D T ap0 xp1 xp2 H locs (F0 m 12 ls []) := by
    intro H12 locs12 hw ls hl
    refine lv_iconst (v := 1) hx hb dX6_waysFrom_12 (by decide) ?_
    exact W.iret (v := 1) hx hb hr (fun t ht hW => ⟨some (.int 1), rfl, ⟨(1 : Int32), rfl, trivial⟩, by rw [ht]; exact hw.1, hw.2.F ht⟩) hw.2.2.2 dX6_waysFrom_13
  refine lv_if_lt (tgt := 12) hx hb dX6_waysFrom_1 (by decide) (fun c1 => ?_) (fun c1 => ?_)
  · exact iv_abs (iv_lt_l c1 bp1 (show iv 0 0 0 from ⟨by decide, by decide⟩)) (by decide)
  · refine lv_iload_n hx hb dX6_waysFrom_4 rfl (lv_at hl 1 rfl) ?_
    refine lv_aload_n hx hb dX6_waysFrom_5 rfl (lv_at hl 0 rfl) ?_
    refine hp_geti hx hb hts IX6 hown hK hw.1 hp0 rfl 0 (by decide) L9 rfl dX6_waysFrom_6 (fun x6 bx6 fx6 => ?_)
    refine lv_icmp_lt (tgt := 14) hx hb dX6_waysFrom_9 (by decide) (fun c9 => ?_) (fun c9 => ?_)
    · have r9tq : iv x6 11 16 := (iv_lt_r c9 bp1 bx6).mono (by decide) (by decide)
      refine lv_aload_n hx hb dX6_waysFrom_14 rfl (lv_at hl 0 rfl) ?_
      refine hp_getr hx hb hts IX6 hown hK hw.1 hp0 rfl 1 (by decide) L15 rfl dX6_waysFrom_15 ?_
      refine lv_iload_n hx hb dX6_waysFrom_18 rfl (lv_at hl 1 rfl) ?_
      refine hp_ialdI hx hb hK hw.1 hp0le (vp_iv bp1 (by decide)) dX6_waysFrom_19 (fun x19 bx19 => ?_)
      refine lv_istore_n (lv' := [(3, .int x19), (0, .ref ap0), (1, .int xp1), (2, .int xp2)]) hx hb dX6_waysFrom_20 rfl hl (by decide) rfl (fun ls hl => ?_)
      refine lv_aload_n hx hb dX6_waysFrom_21 rfl (lv_at hl 1 rfl) ?_
      refine hp_getr hx hb hts IX6 hown hK hw.1 hp0 rfl 2 (by decide) L19 rfl dX6_waysFrom_22 ?_
      refine lv_iload_n hx hb dX6_waysFrom_25 rfl (lv_at hl 2 rfl) ?_
      refine hp_ialdI hx hb hK hw.1 hp0gr (vp_iv bp1 (by decide)) dX6_waysFrom_26 (fun x26 bx26 => ?_)
      refine lv_istore (lv' := [(4, .int x26), (3, .int x19), (0, .ref ap0), (1, .int xp1), (2, .int xp2)]) hx hb dX6_waysFrom_27 hl (by decide) rfl (fun ls hl => ?_)
      refine lv_aload_n hx hb dX6_waysFrom_29 rfl (lv_at hl 2 rfl) ?_
      refine hp_getr hx hb hts IX6 hown hK hw.1 hp0 rfl 4 (by decide) L25 rfl dX6_waysFrom_30 ?_
      refine lv_iload_n hx hb dX6_waysFrom_33 rfl (lv_at hl 1 rfl) ?_
      refine hp_zaldA hx hb hK hw.1 hp0it (vp_iv bx19 (by decide)) dX6_waysFrom_34 (fun x34 => ?_)
      have J68 : iv xp1 10 10 → iv x19 0 9 → iv x26 0 9 → ∀ (H : Heap) (locs : List Loc), hp_w D T s H locs → ∀ (ls : Array Slot), lv_has ls 6 [(0, .ref ap0), (1, .int xp1), (2, .int xp2), (3, .int x19), (4, .int x26)] → WX6_waysFrom_10 p l e s m below meth c D T ap0 xp1 xp2 H locs (F0 m 68 ls []) := by
        intro c68_xp1 c68_x19 c68_x26 H68 locs68 hw ls hl
        refine lv_aload_n hx hb dX6_waysFrom_68 rfl (lv_at hl 0 rfl) ?_
        refine hp_getr hx hb hts IX6 hown hK hw.1 hp0 rfl 5 (by decide) L29 rfl dX6_waysFrom_69 ?_
        refine lv_iload_n hx hb dX6_waysFrom_72 rfl (lv_at hl 3 rfl) ?_
        refine lv_dup2_11 hx hb dX6_waysFrom_73 rfl rfl ?_
        refine hp_ialdA hx hb hK hw.1 hp0op (vp_iv c68_x19 (by decide)) dX6_waysFrom_74 (fun x74 => ?_)
        refine lv_iconst (v := 1) hx hb dX6_waysFrom_75 (by decide) ?_
        refine lv_isub hx hb dX6_waysFrom_76 ?_
        refine lv_topi (fun x76 ex76 => ?_)
        refine hp_iast hx hb hK hw hp0op (vp_iv c68_x19 (by decide)) ⟨_, rfl⟩ dX6_waysFrom_77 (fun H77 locs77 hw g77 => ?_)
        refine lv_aload_n hx hb dX6_waysFrom_78 rfl (lv_at hl 0 rfl) ?_
        refine hp_getr hx hb hts IX6 hown hK hw.1 hp0 rfl 5 (by decide) L29 rfl dX6_waysFrom_79 ?_
        refine lv_iload hx hb dX6_waysFrom_82 (lv_at hl 4 rfl) ?_
        refine lv_dup2_11 hx hb dX6_waysFrom_84 rfl rfl ?_
        refine hp_ialdA hx hb hK hw.1 hp0op (vp_iv c68_x26 (by decide)) dX6_waysFrom_85 (fun x85 => ?_)
        refine lv_iconst (v := 1) hx hb dX6_waysFrom_86 (by decide) ?_
        refine lv_isub hx hb dX6_waysFrom_87 ?_
        refine lv_topi (fun x87 ex87 => ?_)
        refine hp_iast hx hb hK hw hp0op (vp_iv c68_x26 (by decide)) ⟨_, rfl⟩ dX6_waysFrom_88 (fun H88 locs88 hw g88 => ?_)
        refine lv_iconst (v := 0) hx hb dX6_waysFrom_89 (by decide) ?_
        refine lv_istore (lv' := [(5, .int 0), (0, .ref ap0), (1, .int xp1), (2, .int xp2), (3, .int x19), (4, .int x26)]) hx hb dX6_waysFrom_90 hl (by decide) rfl (fun ls hl => ?_)
        refine lv_iload_n hx hb dX6_waysFrom_92 rfl (lv_at hl 2 rfl) ?_
        refine lv_iload_n hx hb dX6_waysFrom_93 rfl (lv_at hl 3 rfl) ?_
        have J127 : ∀ (y127_l5 : Int32), iv xp1 10 10 → iv x19 0 9 → iv x26 0 9 → ∀ (H : Heap) (locs : List Loc), hp_w D T s H locs → ∀ (ls : Array Slot), lv_has ls 6 [(0, .ref ap0), (1, .int xp1), (2, .int xp2), (3, .int x19), (4, .int x26), (5, .int y127_l5)] → WX6_waysFrom_10 p l e s m below meth c D T ap0 xp1 xp2 H locs (F0 m 127 ls []) := by
          intro y127_l5 c127_xp1 c127_x19 c127_x26 H127 locs127 hw ls hl
          refine lv_aload_n hx hb dX6_waysFrom_127 rfl (lv_at hl 0 rfl) ?_
          refine hp_getr hx hb hts IX6 hown hK hw.1 hp0 rfl 3 (by decide) L22 rfl dX6_waysFrom_128 ?_
          refine lv_iload_n hx hb dX6_waysFrom_131 rfl (lv_at hl 3 rfl) ?_
          refine lv_dup2_11 hx hb dX6_waysFrom_132 rfl rfl ?_
          refine hp_ialdA hx hb hK hw.1 hp0du (vp_iv c127_x19 (by decide)) dX6_waysFrom_133 (fun x133 => ?_)
          refine lv_iconst (v := 1) hx hb dX6_waysFrom_134 (by decide) ?_
          refine lv_isub hx hb dX6_waysFrom_135 ?_
          refine lv_topi (fun x135 ex135 => ?_)
          refine hp_iast hx hb hK hw hp0du (vp_iv c127_x19 (by decide)) ⟨_, rfl⟩ dX6_waysFrom_136 (fun H136 locs136 hw g136 => ?_)
          refine lv_aload_n hx hb dX6_waysFrom_137 rfl (lv_at hl 0 rfl) ?_
          refine hp_getr hx hb hts IX6 hown hK hw.1 hp0 rfl 3 (by decide) L22 rfl dX6_waysFrom_138 ?_
          refine lv_iload hx hb dX6_waysFrom_141 (lv_at hl 4 rfl) ?_
          refine lv_dup2_11 hx hb dX6_waysFrom_143 rfl rfl ?_
          refine hp_ialdA hx hb hK hw.1 hp0du (vp_iv c127_x26 (by decide)) dX6_waysFrom_144 (fun x144 => ?_)
          refine lv_iconst (v := 1) hx hb dX6_waysFrom_145 (by decide) ?_
          refine lv_isub hx hb dX6_waysFrom_146 ?_
          refine lv_topi (fun x146 ex146 => ?_)
          refine hp_iast hx hb hK hw hp0du (vp_iv c127_x26 (by decide)) ⟨_, rfl⟩ dX6_waysFrom_147 (fun H147 locs147 hw g147 => ?_)
          refine lv_aload_n hx hb dX6_waysFrom_148 rfl (lv_at hl 0 rfl) ?_
          refine lv_iload_n hx hb dX6_waysFrom_149 rfl (lv_at hl 3 rfl) ?_
          refine hp_callpi (va_runV (As := [.int x19]) (rest := []) ⟨hx, hb, hml, hown, hts⟩ (sX6_canStillBe l D T ap0 x19 ip0 c127_x19) (cwV 1 hts gX6_waysFrom_X6_canStillBe rfl rfl rfl (by decide +kernel) ⟨Nat.le_of_ble_eq_true rfl, Nat.le_of_ble_eq_true rfl⟩) (hp_preV hG hw hp0 rfl trivial) rfl rfl hl.1 rfl (lv_room (Nat.le_of_ble_eq_true rfl)) dX6_waysFrom_150 ⟨Nat.zero_le _, Nat.zero_le _⟩) (fun x150 bx150 => ?_)
          have J178 : ∀ (y178_l5 : Int32), iv x19 0 9 → iv x26 0 9 → ∀ (H : Heap) (locs : List Loc), hp_w D T s H locs → ∀ (ls : Array Slot), lv_has ls 6 [(0, .ref ap0), (3, .int x19), (4, .int x26), (5, .int y178_l5)] → WX6_waysFrom_10 p l e s m below meth c D T ap0 xp1 xp2 H locs (F0 m 178 ls []) := by
            intro y178_l5 c178_x19 c178_x26 H178 locs178 hw ls hl
            refine lv_aload_n hx hb dX6_waysFrom_178 rfl (lv_at hl 0 rfl) ?_
            refine hp_getr hx hb hts IX6 hown hK hw.1 hp0 rfl 3 (by decide) L22 rfl dX6_waysFrom_179 ?_
            refine lv_iload_n hx hb dX6_waysFrom_182 rfl (lv_at hl 1 rfl) ?_
            refine lv_dup2_11 hx hb dX6_waysFrom_183 rfl rfl ?_
            refine hp_ialdA hx hb hK hw.1 hp0du (vp_iv c178_x19 (by decide)) dX6_waysFrom_184 (fun x184 => ?_)
            refine lv_iconst (v := 1) hx hb dX6_waysFrom_185 (by decide) ?_
            refine lv_iadd hx hb dX6_waysFrom_186 ?_
            refine lv_topi (fun x186 ex186 => ?_)
            refine hp_iast hx hb hK hw hp0du (vp_iv c178_x19 (by decide)) ⟨_, rfl⟩ dX6_waysFrom_187 (fun H187 locs187 hw g187 => ?_)
            refine lv_aload_n hx hb dX6_waysFrom_188 rfl (lv_at hl 0 rfl) ?_
            refine hp_getr hx hb hts IX6 hown hK hw.1 hp0 rfl 3 (by decide) L22 rfl dX6_waysFrom_189 ?_
            refine lv_iload hx hb dX6_waysFrom_192 (lv_at hl 2 rfl) ?_
            refine lv_dup2_11 hx hb dX6_waysFrom_194 rfl rfl ?_
            refine hp_ialdA hx hb hK hw.1 hp0du (vp_iv c178_x26 (by decide)) dX6_waysFrom_195 (fun x195 => ?_)
            refine lv_iconst (v := 1) hx hb dX6_waysFrom_196 (by decide) ?_
            refine lv_iadd hx hb dX6_waysFrom_197 ?_
            refine lv_topi (fun x197 ex197 => ?_)
            refine hp_iast hx hb hK hw hp0du (vp_iv c178_x26 (by decide)) ⟨_, rfl⟩ dX6_waysFrom_198 (fun H198 locs198 hw g198 => ?_)
            refine lv_aload_n hx hb dX6_waysFrom_199 rfl (lv_at hl 0 rfl) ?_
            refine hp_getr hx hb hts IX6 hown hK hw.1 hp0 rfl 5 (by decide) L29 rfl dX6_waysFrom_200 ?_
            refine lv_iload_n hx hb dX6_waysFrom_203 rfl (lv_at hl 1 rfl) ?_
            refine lv_dup2_11 hx hb dX6_waysFrom_204 rfl rfl ?_
            refine hp_ialdA hx hb hK hw.1 hp0op (vp_iv c178_x19 (by decide)) dX6_waysFrom_205 (fun x205 => ?_)
            refine lv_iconst (v := 1) hx hb dX6_waysFrom_206 (by decide) ?_
            refine lv_iadd hx hb dX6_waysFrom_207 ?_
            refine lv_topi (fun x207 ex207 => ?_)
            refine hp_iast hx hb hK hw hp0op (vp_iv c178_x19 (by decide)) ⟨_, rfl⟩ dX6_waysFrom_208 (fun H208 locs208 hw g208 => ?_)
            refine lv_aload_n hx hb dX6_waysFrom_209 rfl (lv_at hl 0 rfl) ?_
            refine hp_getr hx hb hts IX6 hown hK hw.1 hp0 rfl 5 (by decide) L29 rfl dX6_waysFrom_210 ?_
            refine lv_iload hx hb dX6_waysFrom_213 (lv_at hl 2 rfl) ?_
            refine lv_dup2_11 hx hb dX6_waysFrom_215 rfl rfl ?_
            refine hp_ialdA hx hb hK hw.1 hp0op (vp_iv c178_x26 (by decide)) dX6_waysFrom_216 (fun x216 => ?_)
            refine lv_iconst (v := 1) hx hb dX6_waysFrom_217 (by decide) ?_
            refine lv_iadd hx hb dX6_waysFrom_218 ?_
            refine lv_topi (fun x218 ex218 => ?_)
            refine hp_iast hx hb hK hw hp0op (vp_iv c178_x26 (by decide)) ⟨_, rfl⟩ dX6_waysFrom_219 (fun H219 locs219 hw g219 => ?_)
            refine lv_iload hx hb dX6_waysFrom_220 (lv_at hl 3 rfl) ?_
            exact W.iret (v := y178_l5) hx hb hr (fun t ht hW => ⟨some (.int y178_l5), rfl, ⟨y178_l5, rfl, trivial⟩, by rw [ht]; exact hw.1, hw.2.F ht⟩) hw.2.2.2 dX6_waysFrom_222
          refine lv_if_eq (tgt := 178) hx hb dX6_waysFrom_153 (by decide) (fun c153 => ?_) (fun c153 => ?_)
          · have r153tp : iv x150 0 0 := (iv_both bx150 (iv_eq (show iv 0 0 0 from ⟨by decide, by decide⟩) c153)).mono (by decide) (by decide)
            exact J178 y127_l5 c127_x19 c127_x26 H147 locs147 hw _ (lv_sub hl [0, 3, 4, 5] rfl)
          · have r153fp : iv x150 1 1 := (iv_ne_lo c153 bx150 rfl).mono (by decide) (by decide)
            refine lv_aload_n hx hb dX6_waysFrom_156 rfl (lv_at hl 0 rfl) ?_
            refine lv_iload hx hb dX6_waysFrom_157 (lv_at hl 4 rfl) ?_
            refine hp_callpi (va_runV (As := [.int x26]) (rest := []) ⟨hx, hb, hml, hown, hts⟩ (sX6_canStillBe l D T ap0 x26 ip0 c127_x26) (cwV 1 hts gX6_waysFrom_X6_canStillBe rfl rfl rfl (by decide +kernel) ⟨Nat.le_of_ble_eq_true rfl, Nat.le_of_ble_eq_true rfl⟩) (hp_preV hG hw hp0 rfl trivial) rfl rfl hl.1 rfl (lv_room (Nat.le_of_ble_eq_true rfl)) dX6_waysFrom_159 ⟨Nat.zero_le _, Nat.zero_le _⟩) (fun x159 bx159 => ?_)
            refine lv_if_eq (tgt := 178) hx hb dX6_waysFrom_162 (by decide) (fun c162 => ?_) (fun c162 => ?_)
            · have r162tp : iv x159 0 0 := (iv_both bx159 (iv_eq (show iv 0 0 0 from ⟨by decide, by decide⟩) c162)).mono (by decide) (by decide)
              exact J178 y127_l5 c127_x19 c127_x26 H147 locs147 hw _ (lv_sub hl [0, 3, 4, 5] rfl)
            · have r162fp : iv x159 1 1 := (iv_ne_lo c162 bx159 rfl).mono (by decide) (by decide)
              refine lv_iload hx hb dX6_waysFrom_165 (lv_at hl 5 rfl) ?_
              refine lv_aload_n hx hb dX6_waysFrom_167 rfl (lv_at hl 0 rfl) ?_
              refine lv_iload_n hx hb dX6_waysFrom_168 rfl (lv_at hl 1 rfl) ?_
              refine lv_iconst (v := 1) hx hb dX6_waysFrom_169 (by decide) ?_
              refine lv_iadd hx hb dX6_waysFrom_170 ?_
              refine lv_topi (fun x170 ex170 => ?_)
              have bx170 : iv x170 11 11 := iv_add c127_xp1 (show iv 1 1 1 from ⟨by decide, by decide⟩) ex170 (by decide)
              have qx170 := iv_add_eq c127_xp1 (show iv 1 1 1 from ⟨by decide, by decide⟩) ex170 (by decide)
              refine lv_iload_n hx hb dX6_waysFrom_171 rfl (lv_at hl 2 rfl) ?_
              refine hp_callei (va_runV (As := [.int x170, .int xp2]) (rest := [.int y127_l5]) ⟨hx, hb, hml, hown, hts⟩ (sX6_waysFrom_11 l D T ap0 x170 xp2 ip0 bx170) (cwV 2 hts gX6_waysFrom_X6_waysFrom rfl rfl rfl (by decide +kernel) ⟨Nat.le_of_ble_eq_true rfl, Nat.le_of_ble_eq_true rfl⟩) (hp_preV hG hw hp0 rfl trivial) rfl rfl hl.1 rfl (lv_room (Nat.le_of_ble_eq_true rfl)) dX6_waysFrom_172 ⟨Nat.zero_le _, Nat.zero_le _⟩) hw (fun x172 st172 t172 H172 locs172 eh172 eg172 bx172 hw => ?_)
              refine lv_iadd hx hb dX6_waysFrom_175 ?_
              refine lv_topi (fun x175 ex175 => ?_)
              refine lv_istore (lv' := [(5, .int x175), (0, .ref ap0), (1, .int xp1), (2, .int xp2), (3, .int x19), (4, .int x26)]) hx hb dX6_waysFrom_176 hl (by decide) rfl (fun ls hl => ?_)
              exact J178 x175 c127_x19 c127_x26 H172 locs172 hw _ (lv_sub hl [1, 4, 5, 0] rfl)
        refine lv_icmp_eq (tgt := 127) hx hb dX6_waysFrom_94 (by decide) (fun c94 => ?_) (fun c94 => ?_)
        · have r94tq : iv xp2 10 10 := (iv_both (iv_any xp2) (iv_eq c68_xp1 c94.symm)).mono (by decide) (by decide)
          exact J127 (0 : Int32) c68_xp1 c68_x19 c68_x26 H88 locs88 hw _ (lv_sub hl [1, 2, 3, 4, 5, 0] rfl)
        · refine lv_aload_n hx hb dX6_waysFrom_97 rfl (lv_at hl 1 rfl) ?_
          refine lv_iload_n hx hb dX6_waysFrom_98 rfl (lv_at hl 4 rfl) ?_
          refine hp_callpi (va_runV (As := [.int x19]) (rest := []) ⟨hx, hb, hml, hown, hts⟩ (sX6_canStillBe l D T ap0 x19 ip0 c68_x19) (cwV 1 hts gX6_waysFrom_X6_canStillBe rfl rfl rfl (by decide +kernel) ⟨Nat.le_of_ble_eq_true rfl, Nat.le_of_ble_eq_true rfl⟩) (hp_preV hG hw hp0 rfl trivial) rfl rfl hl.1 rfl (lv_room (Nat.le_of_ble_eq_true rfl)) dX6_waysFrom_99 ⟨Nat.zero_le _, Nat.zero_le _⟩) (fun x99 bx99 => ?_)
          refine lv_if_eq (tgt := 127) hx hb dX6_waysFrom_102 (by decide) (fun c102 => ?_) (fun c102 => ?_)
          · have r102tp : iv x99 0 0 := (iv_both bx99 (iv_eq (show iv 0 0 0 from ⟨by decide, by decide⟩) c102)).mono (by decide) (by decide)
            exact J127 (0 : Int32) c68_xp1 c68_x19 c68_x26 H88 locs88 hw _ (lv_sub hl [1, 2, 3, 4, 5, 0] rfl)
          · have r102fp : iv x99 1 1 := (iv_ne_lo c102 bx99 rfl).mono (by decide) (by decide)
            refine lv_aload_n hx hb dX6_waysFrom_105 rfl (lv_at hl 1 rfl) ?_
            refine lv_iload hx hb dX6_waysFrom_106 (lv_at hl 5 rfl) ?_
            refine hp_callpi (va_runV (As := [.int x26]) (rest := []) ⟨hx, hb, hml, hown, hts⟩ (sX6_canStillBe l D T ap0 x26 ip0 c68_x26) (cwV 1 hts gX6_waysFrom_X6_canStillBe rfl rfl rfl (by decide +kernel) ⟨Nat.le_of_ble_eq_true rfl, Nat.le_of_ble_eq_true rfl⟩) (hp_preV hG hw hp0 rfl trivial) rfl rfl hl.1 rfl (lv_room (Nat.le_of_ble_eq_true rfl)) dX6_waysFrom_108 ⟨Nat.zero_le _, Nat.zero_le _⟩) (fun x108 bx108 => ?_)
            refine lv_if_eq (tgt := 127) hx hb dX6_waysFrom_111 (by decide) (fun c111 => ?_) (fun c111 => ?_)
            · have r111tp : iv x108 0 0 := (iv_both bx108 (iv_eq (show iv 0 0 0 from ⟨by decide, by decide⟩) c111)).mono (by decide) (by decide)
              exact J127 (0 : Int32) c68_xp1 c68_x19 c68_x26 H88 locs88 hw _ (lv_sub hl [1, 2, 3, 4, 5, 0] rfl)
            · have r111fp : iv x108 1 1 := (iv_ne_lo c111 bx108 rfl).mono (by decide) (by decide)
              refine lv_iload hx hb dX6_waysFrom_114 (lv_at hl 0 rfl) ?_
              refine lv_aload_n hx hb dX6_waysFrom_116 rfl (lv_at hl 1 rfl) ?_
              refine lv_iload_n hx hb dX6_waysFrom_117 rfl (lv_at hl 2 rfl) ?_
              refine lv_iconst (v := 1) hx hb dX6_waysFrom_118 (by decide) ?_
              refine lv_iadd hx hb dX6_waysFrom_119 ?_
              refine lv_topi (fun x119 ex119 => ?_)
              have bx119 : iv x119 11 11 := iv_add c68_xp1 (show iv 1 1 1 from ⟨by decide, by decide⟩) ex119 (by decide)
              have qx119 := iv_add_eq c68_xp1 (show iv 1 1 1 from ⟨by decide, by decide⟩) ex119 (by decide)
              refine lv_iload_n hx hb dX6_waysFrom_120 rfl (lv_at hl 3 rfl) ?_
              refine hp_callei (va_runV (As := [.int x119, .int xp2]) (rest := [.int 0]) ⟨hx, hb, hml, hown, hts⟩ (sX6_waysFrom_11 l D T ap0 x119 xp2 ip0 bx119) (cwV 2 hts gX6_waysFrom_X6_waysFrom rfl rfl rfl (by decide +kernel) ⟨Nat.le_of_ble_eq_true rfl, Nat.le_of_ble_eq_true rfl⟩) (hp_preV hG hw hp0 rfl trivial) rfl rfl hl.1 rfl (lv_room (Nat.le_of_ble_eq_true rfl)) dX6_waysFrom_121 ⟨Nat.zero_le _, Nat.zero_le _⟩) hw (fun x121 st121 t121 H121 locs121 eh121 eg121 bx121 hw => ?_)
              refine lv_iadd hx hb dX6_waysFrom_124 ?_
              refine lv_topi (fun x124 ex124 => ?_)
              have qx124 := iv_add_eq (show iv 0 0 0 from ⟨by decide, by decide⟩) (iv_any x121) ex124 (by decide)
              refine lv_istore (lv' := [(5, .int x124), (0, .ref ap0), (1, .int xp1), (2, .int xp2), (3, .int x19), (4, .int x26)]) hx hb dX6_waysFrom_125 hl (by decide) rfl (fun ls hl => ?_)
              exact J127 x124 c68_xp1 c68_x19 c68_x26 H121 locs121 hw _ (lv_sub hl [1, 2, 3, 4, 5, 0] rfl)
      refine lv_if_ne (tgt := 68) hx hb dX6_waysFrom_35 (by decide) (fun c35 => ?_) (fun c35 => ?_)
      · exact J68 bp1 bx19 bx26 s.heap [] hw _ (lv_sub hl [2, 3, 4, 1, 0] rfl)
      · have r35fp : iv x34 0 0 := (iv_both (iv_any x34) (iv_eq (show iv 0 0 0 from ⟨by decide, by decide⟩) c35)).mono (by decide) (by decide)
        refine lv_aload_n hx hb dX6_waysFrom_38 rfl (lv_at hl 2 rfl) ?_
        refine hp_getr hx hb hts IX6 hown hK hw.1 hp0 rfl 4 (by decide) L25 rfl dX6_waysFrom_39 ?_
        refine lv_iload hx hb dX6_waysFrom_42 (lv_at hl 0 rfl) ?_
        refine hp_zaldA hx hb hK hw.1 hp0it (vp_iv bx26 (by decide)) dX6_waysFrom_44 (fun x44 => ?_)
        refine lv_if_ne (tgt := 68) hx hb dX6_waysFrom_45 (by decide) (fun c45 => ?_) (fun c45 => ?_)
        · exact J68 bp1 bx19 bx26 s.heap [] hw _ (lv_sub hl [2, 3, 4, 1, 0] rfl)
        · have r45fp : iv x44 0 0 := (iv_both (iv_any x44) (iv_eq (show iv 0 0 0 from ⟨by decide, by decide⟩) c45)).mono (by decide) (by decide)
          refine lv_iload_n hx hb dX6_waysFrom_48 rfl (lv_at hl 3 rfl) ?_
          refine lv_iload_n hx hb dX6_waysFrom_49 rfl (lv_at hl 4 rfl) ?_
          have J58 : ∀ (y58_s0 : Int32), iv xp1 10 10 → iv y58_s0 1 2 → ∀ (H : Heap) (locs : List Loc), hp_w D T s H locs → ∀ (ls : Array Slot), lv_has ls 6 [(0, .ref ap0), (1, .int xp1), (2, .int xp2)] → WX6_waysFrom_10 p l e s m below meth c D T ap0 xp1 xp2 H locs (F0 m 58 ls [.int y58_s0]) := by
            intro y58_s0 c58_xp1 c58_y58_s0 H58 locs58 hw ls hl
            refine lv_aload_n hx hb dX6_waysFrom_58 rfl (lv_at hl 0 rfl) ?_
            refine lv_iload_n hx hb dX6_waysFrom_59 rfl (lv_at hl 1 rfl) ?_
            refine lv_iconst (v := 1) hx hb dX6_waysFrom_60 (by decide) ?_
            refine lv_iadd hx hb dX6_waysFrom_61 ?_
            refine lv_topi (fun x61 ex61 => ?_)
            have bx61 : iv x61 11 11 := iv_add c58_xp1 (show iv 1 1 1 from ⟨by decide, by decide⟩) ex61 (by decide)
            have qx61 := iv_add_eq c58_xp1 (show iv 1 1 1 from ⟨by decide, by decide⟩) ex61 (by decide)
            refine lv_iload_n hx hb dX6_waysFrom_62 rfl (lv_at hl 2 rfl) ?_
            refine hp_callei (va_runV (As := [.int x61, .int xp2]) (rest := [.int y58_s0]) ⟨hx, hb, hml, hown, hts⟩ (sX6_waysFrom_11 l D T ap0 x61 xp2 ip0 bx61) (cwV 2 hts gX6_waysFrom_X6_waysFrom rfl rfl rfl (by decide +kernel) ⟨Nat.le_of_ble_eq_true rfl, Nat.le_of_ble_eq_true rfl⟩) (hp_preV hG hw hp0 rfl trivial) rfl rfl hl.1 rfl (lv_room (Nat.le_of_ble_eq_true rfl)) dX6_waysFrom_63 ⟨Nat.zero_le _, Nat.zero_le _⟩) hw (fun x63 st63 t63 H63 locs63 eh63 eg63 bx63 hw => ?_)
            refine lv_imul hx hb dX6_waysFrom_66 ?_
            refine lv_topi (fun x66 ex66 => ?_)
            exact W.iret (v := x66) hx hb hr (fun t ht hW => ⟨some (.int x66), rfl, ⟨x66, rfl, trivial⟩, by rw [ht]; exact hw.1, hw.2.F ht⟩) hw.2.2.2 dX6_waysFrom_67
          refine lv_icmp_ne (tgt := 57) hx hb dX6_waysFrom_50 (by decide) (fun c50 => ?_) (fun c50 => ?_)
          · refine lv_iconst (v := 2) hx hb dX6_waysFrom_57 (by decide) ?_
            exact J58 (2 : Int32) bp1 (show iv 2 1 2 from ⟨by decide, by decide⟩) s.heap [] hw _ (lv_sub hl [2, 3, 4] rfl)
          · have r50fq : iv xp2 10 10 := (iv_both (iv_any xp2) (iv_eq bp1 c50.symm)).mono (by decide) (by decide)
            refine lv_iconst (v := 1) hx hb dX6_waysFrom_53 (by decide) ?_
            refine lv_goto (tgt := 58) hx hb dX6_waysFrom_54 (by decide) ?_
            exact J58 (1 : Int32) bp1 (show iv 1 1 2 from ⟨by decide, by decide⟩) s.heap [] hw _ (lv_sub hl [2, 3, 4] rfl)
    · have r9fp : iv x6 0 10 := (iv_le_l (iv_nlt c9) bx6 bp1).mono (by decide) (by decide)
      exact J12 s.heap [] hw _ (lv_sub hl [] rfl)
abbrev WX6_waysFrom_9 (p : Program) (l : Launch) (e : Env) (s : State) (m : MethodId) (below : List Frame) (meth : Method) (c : Code) (D : hp_D) (T : hp_T) (ap0 : Nat) (xp1 : Int32) (xp2 : Int32) (H : Heap) (locs : List Loc) (g : JFrame) : Prop := W p l e (headSpec wsX6_waysFrom ({ frames := 7, cells := 0, slots := 0, locals := 175 })).room s m ([.ref ap0, .int xp1, .int xp2] : List Value).toArray below meth c H locs 0 0 (MQ below (hq_e D T (fun v _ _ => ∃ r : Int32, v = some (.int r) ∧ True)) ([.ref ap0, .int xp1, .int xp2] : List Value).toArray s 0 0 (hp_F T)) g
set_option maxHeartbeats 4000000 in
set_option maxRecDepth 100000 in
theorem sX6_waysFrom_9 (l : Launch) (D : hp_D) (T : hp_T) (ap0 : Nat) (xp1 : Int32) (xp2 : Int32) (ip0 : isShuns T ap0) (bp1 : iv xp1 9 9) : Met l yX6_waysFrom wsX6_waysFrom ({ frames := 7, cells := 0, slots := 0, locals := 175 }) (hp_Pc D T [.ref ap0, .int xp1, .int xp2] (fun _ => True)) (hq_e D T (fun v _ _ => ∃ r : Int32, v = some (.int r) ∧ True)) 0 0 (hp_F T) := by
  obtain ⟨ap0le, ap0gr, ap0du, ap0it, ap0op, hp0, hp0le, hp0gr, hp0du, hp0it, hp0op⟩ := id ip0
  refine Met.ofW (cc := cX6_waysFrom) (maxL := 6) (ret := (some .int)) (by decide) rfl ?_
  intro p e s m args below meth c s₁ B hml hv
  obtain ⟨rfl, hok, hG, hB⟩ := hv
  have hx := B.exec
  have hb := B.bytes
  have hr := B.returns
  have hts := atoms_spec (ws := wsX6_waysFrom) B.pre
  have hown : s.vm.findClass RX6 = some m.cls := findClass_of_methodNamed B.named
  have hlocks := B.notSynchronized
  have hK := hG.1
  have hw : hp_w D T s s.heap [] := hp_w.rf hok
  have IX6 : ∀ w ∈ wsX60, w ∈ wsX6_waysFrom := by decide +kernel
  have L9 := hts (.fieldLink RX6 9 "PalmCensus$Shuns" "twos" "I") (by decide +kernel)
  have L15 := hts (.fieldLink RX6 15 "PalmCensus$Shuns" "lesser" "[I") (by decide +kernel)
  have L19 := hts (.fieldLink RX6 19 "PalmCensus$Shuns" "greater" "[I") (by decide +kernel)
  have L25 := hts (.fieldLink RX6 25 "PalmCensus$Shuns" "isTold" "[Z") (by decide +kernel)
  have L29 := hts (.fieldLink RX6 29 "PalmCensus$Shuns" "open" "[I") (by decide +kernel)
  have L22 := hts (.fieldLink RX6 22 "PalmCensus$Shuns" "due" "[I") (by decide +kernel)
  have hl := lv_entry ([.ref ap0, .int xp1, .int xp2]) (n := 6) (Nat.le_of_ble_eq_true rfl)
  rw [lg_entry_eq]
  generalize (lg_sl ([.ref ap0, .int xp1, .int xp2]) ++ List.replicate (6 - (lg_sl ([.ref ap0, .int xp1, .int xp2])).length) Slot.unset).toArray = ls at hl ⊢
  have hl : lv_has ls 6 [(0, .ref ap0), (1, .int xp1), (2, .int xp2)] := hl
  show WX6_waysFrom_9 p l e s m below meth c D T ap0 xp1 xp2 s.heap [] (F0 m 0 ls [])
  refine lv_iload_n hx hb dX6_waysFrom_0 rfl (lv_at hl 1 rfl) ?_
  have J12 : ∀ (H : Heap) (locs : List Loc), hp_w D T s H locs → ∀ (ls : Array Slot), lv_has ls 6 [] → WX6_waysFrom_9 p l e s m below meth c D T ap0 xp1 xp2 H locs (F0 m 12 ls []) := by
    intro H12 locs12 hw ls hl
    refine lv_iconst (v := 1) hx hb dX6_waysFrom_12 (by decide) ?_
    exact W.iret (v := 1) hx hb hr (fun t ht hW => ⟨some (.int 1), rfl, ⟨(1 : Int32), rfl, trivial⟩, by rw [ht]; exact hw.1, hw.2.F ht⟩) hw.2.2.2 dX6_waysFrom_13
  refine lv_if_lt (tgt := 12) hx hb dX6_waysFrom_1 (by decide) (fun c1 => ?_) (fun c1 => ?_)
  · exact iv_abs (iv_lt_l c1 bp1 (show iv 0 0 0 from ⟨by decide, by decide⟩)) (by decide)
  · refine lv_iload_n hx hb dX6_waysFrom_4 rfl (lv_at hl 1 rfl) ?_
    refine lv_aload_n hx hb dX6_waysFrom_5 rfl (lv_at hl 0 rfl) ?_
    refine hp_geti hx hb hts IX6 hown hK hw.1 hp0 rfl 0 (by decide) L9 rfl dX6_waysFrom_6 (fun x6 bx6 fx6 => ?_)
    refine lv_icmp_lt (tgt := 14) hx hb dX6_waysFrom_9 (by decide) (fun c9 => ?_) (fun c9 => ?_)
    · have r9tq : iv x6 10 16 := (iv_lt_r c9 bp1 bx6).mono (by decide) (by decide)
      refine lv_aload_n hx hb dX6_waysFrom_14 rfl (lv_at hl 0 rfl) ?_
      refine hp_getr hx hb hts IX6 hown hK hw.1 hp0 rfl 1 (by decide) L15 rfl dX6_waysFrom_15 ?_
      refine lv_iload_n hx hb dX6_waysFrom_18 rfl (lv_at hl 1 rfl) ?_
      refine hp_ialdI hx hb hK hw.1 hp0le (vp_iv bp1 (by decide)) dX6_waysFrom_19 (fun x19 bx19 => ?_)
      refine lv_istore_n (lv' := [(3, .int x19), (0, .ref ap0), (1, .int xp1), (2, .int xp2)]) hx hb dX6_waysFrom_20 rfl hl (by decide) rfl (fun ls hl => ?_)
      refine lv_aload_n hx hb dX6_waysFrom_21 rfl (lv_at hl 1 rfl) ?_
      refine hp_getr hx hb hts IX6 hown hK hw.1 hp0 rfl 2 (by decide) L19 rfl dX6_waysFrom_22 ?_
      refine lv_iload_n hx hb dX6_waysFrom_25 rfl (lv_at hl 2 rfl) ?_
      refine hp_ialdI hx hb hK hw.1 hp0gr (vp_iv bp1 (by decide)) dX6_waysFrom_26 (fun x26 bx26 => ?_)
      refine lv_istore (lv' := [(4, .int x26), (3, .int x19), (0, .ref ap0), (1, .int xp1), (2, .int xp2)]) hx hb dX6_waysFrom_27 hl (by decide) rfl (fun ls hl => ?_)
      refine lv_aload_n hx hb dX6_waysFrom_29 rfl (lv_at hl 2 rfl) ?_
      refine hp_getr hx hb hts IX6 hown hK hw.1 hp0 rfl 4 (by decide) L25 rfl dX6_waysFrom_30 ?_
      refine lv_iload_n hx hb dX6_waysFrom_33 rfl (lv_at hl 1 rfl) ?_
      refine hp_zaldA hx hb hK hw.1 hp0it (vp_iv bx19 (by decide)) dX6_waysFrom_34 (fun x34 => ?_)
      have J68 : iv xp1 9 9 → iv x19 0 9 → iv x26 0 9 → ∀ (H : Heap) (locs : List Loc), hp_w D T s H locs → ∀ (ls : Array Slot), lv_has ls 6 [(0, .ref ap0), (1, .int xp1), (2, .int xp2), (3, .int x19), (4, .int x26)] → WX6_waysFrom_9 p l e s m below meth c D T ap0 xp1 xp2 H locs (F0 m 68 ls []) := by
        intro c68_xp1 c68_x19 c68_x26 H68 locs68 hw ls hl
        refine lv_aload_n hx hb dX6_waysFrom_68 rfl (lv_at hl 0 rfl) ?_
        refine hp_getr hx hb hts IX6 hown hK hw.1 hp0 rfl 5 (by decide) L29 rfl dX6_waysFrom_69 ?_
        refine lv_iload_n hx hb dX6_waysFrom_72 rfl (lv_at hl 3 rfl) ?_
        refine lv_dup2_11 hx hb dX6_waysFrom_73 rfl rfl ?_
        refine hp_ialdA hx hb hK hw.1 hp0op (vp_iv c68_x19 (by decide)) dX6_waysFrom_74 (fun x74 => ?_)
        refine lv_iconst (v := 1) hx hb dX6_waysFrom_75 (by decide) ?_
        refine lv_isub hx hb dX6_waysFrom_76 ?_
        refine lv_topi (fun x76 ex76 => ?_)
        refine hp_iast hx hb hK hw hp0op (vp_iv c68_x19 (by decide)) ⟨_, rfl⟩ dX6_waysFrom_77 (fun H77 locs77 hw g77 => ?_)
        refine lv_aload_n hx hb dX6_waysFrom_78 rfl (lv_at hl 0 rfl) ?_
        refine hp_getr hx hb hts IX6 hown hK hw.1 hp0 rfl 5 (by decide) L29 rfl dX6_waysFrom_79 ?_
        refine lv_iload hx hb dX6_waysFrom_82 (lv_at hl 4 rfl) ?_
        refine lv_dup2_11 hx hb dX6_waysFrom_84 rfl rfl ?_
        refine hp_ialdA hx hb hK hw.1 hp0op (vp_iv c68_x26 (by decide)) dX6_waysFrom_85 (fun x85 => ?_)
        refine lv_iconst (v := 1) hx hb dX6_waysFrom_86 (by decide) ?_
        refine lv_isub hx hb dX6_waysFrom_87 ?_
        refine lv_topi (fun x87 ex87 => ?_)
        refine hp_iast hx hb hK hw hp0op (vp_iv c68_x26 (by decide)) ⟨_, rfl⟩ dX6_waysFrom_88 (fun H88 locs88 hw g88 => ?_)
        refine lv_iconst (v := 0) hx hb dX6_waysFrom_89 (by decide) ?_
        refine lv_istore (lv' := [(5, .int 0), (0, .ref ap0), (1, .int xp1), (2, .int xp2), (3, .int x19), (4, .int x26)]) hx hb dX6_waysFrom_90 hl (by decide) rfl (fun ls hl => ?_)
        refine lv_iload_n hx hb dX6_waysFrom_92 rfl (lv_at hl 2 rfl) ?_
        refine lv_iload_n hx hb dX6_waysFrom_93 rfl (lv_at hl 3 rfl) ?_
        have J127 : ∀ (y127_l5 : Int32), iv xp1 9 9 → iv x19 0 9 → iv x26 0 9 → ∀ (H : Heap) (locs : List Loc), hp_w D T s H locs → ∀ (ls : Array Slot), lv_has ls 6 [(0, .ref ap0), (1, .int xp1), (2, .int xp2), (3, .int x19), (4, .int x26), (5, .int y127_l5)] → WX6_waysFrom_9 p l e s m below meth c D T ap0 xp1 xp2 H locs (F0 m 127 ls []) := by
          intro y127_l5 c127_xp1 c127_x19 c127_x26 H127 locs127 hw ls hl
          refine lv_aload_n hx hb dX6_waysFrom_127 rfl (lv_at hl 0 rfl) ?_
          refine hp_getr hx hb hts IX6 hown hK hw.1 hp0 rfl 3 (by decide) L22 rfl dX6_waysFrom_128 ?_
          refine lv_iload_n hx hb dX6_waysFrom_131 rfl (lv_at hl 3 rfl) ?_
          refine lv_dup2_11 hx hb dX6_waysFrom_132 rfl rfl ?_
          refine hp_ialdA hx hb hK hw.1 hp0du (vp_iv c127_x19 (by decide)) dX6_waysFrom_133 (fun x133 => ?_)
          refine lv_iconst (v := 1) hx hb dX6_waysFrom_134 (by decide) ?_
          refine lv_isub hx hb dX6_waysFrom_135 ?_
          refine lv_topi (fun x135 ex135 => ?_)
          refine hp_iast hx hb hK hw hp0du (vp_iv c127_x19 (by decide)) ⟨_, rfl⟩ dX6_waysFrom_136 (fun H136 locs136 hw g136 => ?_)
          refine lv_aload_n hx hb dX6_waysFrom_137 rfl (lv_at hl 0 rfl) ?_
          refine hp_getr hx hb hts IX6 hown hK hw.1 hp0 rfl 3 (by decide) L22 rfl dX6_waysFrom_138 ?_
          refine lv_iload hx hb dX6_waysFrom_141 (lv_at hl 4 rfl) ?_
          refine lv_dup2_11 hx hb dX6_waysFrom_143 rfl rfl ?_
          refine hp_ialdA hx hb hK hw.1 hp0du (vp_iv c127_x26 (by decide)) dX6_waysFrom_144 (fun x144 => ?_)
          refine lv_iconst (v := 1) hx hb dX6_waysFrom_145 (by decide) ?_
          refine lv_isub hx hb dX6_waysFrom_146 ?_
          refine lv_topi (fun x146 ex146 => ?_)
          refine hp_iast hx hb hK hw hp0du (vp_iv c127_x26 (by decide)) ⟨_, rfl⟩ dX6_waysFrom_147 (fun H147 locs147 hw g147 => ?_)
          refine lv_aload_n hx hb dX6_waysFrom_148 rfl (lv_at hl 0 rfl) ?_
          refine lv_iload_n hx hb dX6_waysFrom_149 rfl (lv_at hl 3 rfl) ?_
          refine hp_callpi (va_runV (As := [.int x19]) (rest := []) ⟨hx, hb, hml, hown, hts⟩ (sX6_canStillBe l D T ap0 x19 ip0 c127_x19) (cwV 1 hts gX6_waysFrom_X6_canStillBe rfl rfl rfl (by decide +kernel) ⟨Nat.le_of_ble_eq_true rfl, Nat.le_of_ble_eq_true rfl⟩) (hp_preV hG hw hp0 rfl trivial) rfl rfl hl.1 rfl (lv_room (Nat.le_of_ble_eq_true rfl)) dX6_waysFrom_150 ⟨Nat.zero_le _, Nat.zero_le _⟩) (fun x150 bx150 => ?_)
          have J178 : ∀ (y178_l5 : Int32), iv x19 0 9 → iv x26 0 9 → ∀ (H : Heap) (locs : List Loc), hp_w D T s H locs → ∀ (ls : Array Slot), lv_has ls 6 [(0, .ref ap0), (3, .int x19), (4, .int x26), (5, .int y178_l5)] → WX6_waysFrom_9 p l e s m below meth c D T ap0 xp1 xp2 H locs (F0 m 178 ls []) := by
            intro y178_l5 c178_x19 c178_x26 H178 locs178 hw ls hl
            refine lv_aload_n hx hb dX6_waysFrom_178 rfl (lv_at hl 0 rfl) ?_
            refine hp_getr hx hb hts IX6 hown hK hw.1 hp0 rfl 3 (by decide) L22 rfl dX6_waysFrom_179 ?_
            refine lv_iload_n hx hb dX6_waysFrom_182 rfl (lv_at hl 1 rfl) ?_
            refine lv_dup2_11 hx hb dX6_waysFrom_183 rfl rfl ?_
            refine hp_ialdA hx hb hK hw.1 hp0du (vp_iv c178_x19 (by decide)) dX6_waysFrom_184 (fun x184 => ?_)
            refine lv_iconst (v := 1) hx hb dX6_waysFrom_185 (by decide) ?_
            refine lv_iadd hx hb dX6_waysFrom_186 ?_
            refine lv_topi (fun x186 ex186 => ?_)
            refine hp_iast hx hb hK hw hp0du (vp_iv c178_x19 (by decide)) ⟨_, rfl⟩ dX6_waysFrom_187 (fun H187 locs187 hw g187 => ?_)
            refine lv_aload_n hx hb dX6_waysFrom_188 rfl (lv_at hl 0 rfl) ?_
            refine hp_getr hx hb hts IX6 hown hK hw.1 hp0 rfl 3 (by decide) L22 rfl dX6_waysFrom_189 ?_
            refine lv_iload hx hb dX6_waysFrom_192 (lv_at hl 2 rfl) ?_
            refine lv_dup2_11 hx hb dX6_waysFrom_194 rfl rfl ?_
            refine hp_ialdA hx hb hK hw.1 hp0du (vp_iv c178_x26 (by decide)) dX6_waysFrom_195 (fun x195 => ?_)
            refine lv_iconst (v := 1) hx hb dX6_waysFrom_196 (by decide) ?_
            refine lv_iadd hx hb dX6_waysFrom_197 ?_
            refine lv_topi (fun x197 ex197 => ?_)
            refine hp_iast hx hb hK hw hp0du (vp_iv c178_x26 (by decide)) ⟨_, rfl⟩ dX6_waysFrom_198 (fun H198 locs198 hw g198 => ?_)
            refine lv_aload_n hx hb dX6_waysFrom_199 rfl (lv_at hl 0 rfl) ?_
            refine hp_getr hx hb hts IX6 hown hK hw.1 hp0 rfl 5 (by decide) L29 rfl dX6_waysFrom_200 ?_
            refine lv_iload_n hx hb dX6_waysFrom_203 rfl (lv_at hl 1 rfl) ?_
            refine lv_dup2_11 hx hb dX6_waysFrom_204 rfl rfl ?_
            refine hp_ialdA hx hb hK hw.1 hp0op (vp_iv c178_x19 (by decide)) dX6_waysFrom_205 (fun x205 => ?_)
            refine lv_iconst (v := 1) hx hb dX6_waysFrom_206 (by decide) ?_
            refine lv_iadd hx hb dX6_waysFrom_207 ?_
            refine lv_topi (fun x207 ex207 => ?_)
            refine hp_iast hx hb hK hw hp0op (vp_iv c178_x19 (by decide)) ⟨_, rfl⟩ dX6_waysFrom_208 (fun H208 locs208 hw g208 => ?_)
            refine lv_aload_n hx hb dX6_waysFrom_209 rfl (lv_at hl 0 rfl) ?_
            refine hp_getr hx hb hts IX6 hown hK hw.1 hp0 rfl 5 (by decide) L29 rfl dX6_waysFrom_210 ?_
            refine lv_iload hx hb dX6_waysFrom_213 (lv_at hl 2 rfl) ?_
            refine lv_dup2_11 hx hb dX6_waysFrom_215 rfl rfl ?_
            refine hp_ialdA hx hb hK hw.1 hp0op (vp_iv c178_x26 (by decide)) dX6_waysFrom_216 (fun x216 => ?_)
            refine lv_iconst (v := 1) hx hb dX6_waysFrom_217 (by decide) ?_
            refine lv_iadd hx hb dX6_waysFrom_218 ?_
            refine lv_topi (fun x218 ex218 => ?_)
            refine hp_iast hx hb hK hw hp0op (vp_iv c178_x26 (by decide)) ⟨_, rfl⟩ dX6_waysFrom_219 (fun H219 locs219 hw g219 => ?_)
            refine lv_iload hx hb dX6_waysFrom_220 (lv_at hl 3 rfl) ?_
            exact W.iret (v := y178_l5) hx hb hr (fun t ht hW => ⟨some (.int y178_l5), rfl, ⟨y178_l5, rfl, trivial⟩, by rw [ht]; exact hw.1, hw.2.F ht⟩) hw.2.2.2 dX6_waysFrom_222
          refine lv_if_eq (tgt := 178) hx hb dX6_waysFrom_153 (by decide) (fun c153 => ?_) (fun c153 => ?_)
          · have r153tp : iv x150 0 0 := (iv_both bx150 (iv_eq (show iv 0 0 0 from ⟨by decide, by decide⟩) c153)).mono (by decide) (by decide)
            exact J178 y127_l5 c127_x19 c127_x26 H147 locs147 hw _ (lv_sub hl [0, 3, 4, 5] rfl)
          · have r153fp : iv x150 1 1 := (iv_ne_lo c153 bx150 rfl).mono (by decide) (by decide)
            refine lv_aload_n hx hb dX6_waysFrom_156 rfl (lv_at hl 0 rfl) ?_
            refine lv_iload hx hb dX6_waysFrom_157 (lv_at hl 4 rfl) ?_
            refine hp_callpi (va_runV (As := [.int x26]) (rest := []) ⟨hx, hb, hml, hown, hts⟩ (sX6_canStillBe l D T ap0 x26 ip0 c127_x26) (cwV 1 hts gX6_waysFrom_X6_canStillBe rfl rfl rfl (by decide +kernel) ⟨Nat.le_of_ble_eq_true rfl, Nat.le_of_ble_eq_true rfl⟩) (hp_preV hG hw hp0 rfl trivial) rfl rfl hl.1 rfl (lv_room (Nat.le_of_ble_eq_true rfl)) dX6_waysFrom_159 ⟨Nat.zero_le _, Nat.zero_le _⟩) (fun x159 bx159 => ?_)
            refine lv_if_eq (tgt := 178) hx hb dX6_waysFrom_162 (by decide) (fun c162 => ?_) (fun c162 => ?_)
            · have r162tp : iv x159 0 0 := (iv_both bx159 (iv_eq (show iv 0 0 0 from ⟨by decide, by decide⟩) c162)).mono (by decide) (by decide)
              exact J178 y127_l5 c127_x19 c127_x26 H147 locs147 hw _ (lv_sub hl [0, 3, 4, 5] rfl)
            · have r162fp : iv x159 1 1 := (iv_ne_lo c162 bx159 rfl).mono (by decide) (by decide)
              refine lv_iload hx hb dX6_waysFrom_165 (lv_at hl 5 rfl) ?_
              refine lv_aload_n hx hb dX6_waysFrom_167 rfl (lv_at hl 0 rfl) ?_
              refine lv_iload_n hx hb dX6_waysFrom_168 rfl (lv_at hl 1 rfl) ?_
              refine lv_iconst (v := 1) hx hb dX6_waysFrom_169 (by decide) ?_
              refine lv_iadd hx hb dX6_waysFrom_170 ?_
              refine lv_topi (fun x170 ex170 => ?_)
              have bx170 : iv x170 10 10 := iv_add c127_xp1 (show iv 1 1 1 from ⟨by decide, by decide⟩) ex170 (by decide)
              have qx170 := iv_add_eq c127_xp1 (show iv 1 1 1 from ⟨by decide, by decide⟩) ex170 (by decide)
              refine lv_iload_n hx hb dX6_waysFrom_171 rfl (lv_at hl 2 rfl) ?_
              refine hp_callei (va_runV (As := [.int x170, .int xp2]) (rest := [.int y127_l5]) ⟨hx, hb, hml, hown, hts⟩ (sX6_waysFrom_10 l D T ap0 x170 xp2 ip0 bx170) (cwV 2 hts gX6_waysFrom_X6_waysFrom rfl rfl rfl (by decide +kernel) ⟨Nat.le_of_ble_eq_true rfl, Nat.le_of_ble_eq_true rfl⟩) (hp_preV hG hw hp0 rfl trivial) rfl rfl hl.1 rfl (lv_room (Nat.le_of_ble_eq_true rfl)) dX6_waysFrom_172 ⟨Nat.zero_le _, Nat.zero_le _⟩) hw (fun x172 st172 t172 H172 locs172 eh172 eg172 bx172 hw => ?_)
              refine lv_iadd hx hb dX6_waysFrom_175 ?_
              refine lv_topi (fun x175 ex175 => ?_)
              refine lv_istore (lv' := [(5, .int x175), (0, .ref ap0), (1, .int xp1), (2, .int xp2), (3, .int x19), (4, .int x26)]) hx hb dX6_waysFrom_176 hl (by decide) rfl (fun ls hl => ?_)
              exact J178 x175 c127_x19 c127_x26 H172 locs172 hw _ (lv_sub hl [1, 4, 5, 0] rfl)
        refine lv_icmp_eq (tgt := 127) hx hb dX6_waysFrom_94 (by decide) (fun c94 => ?_) (fun c94 => ?_)
        · have r94tq : iv xp2 9 9 := (iv_both (iv_any xp2) (iv_eq c68_xp1 c94.symm)).mono (by decide) (by decide)
          exact J127 (0 : Int32) c68_xp1 c68_x19 c68_x26 H88 locs88 hw _ (lv_sub hl [1, 2, 3, 4, 5, 0] rfl)
        · refine lv_aload_n hx hb dX6_waysFrom_97 rfl (lv_at hl 1 rfl) ?_
          refine lv_iload_n hx hb dX6_waysFrom_98 rfl (lv_at hl 4 rfl) ?_
          refine hp_callpi (va_runV (As := [.int x19]) (rest := []) ⟨hx, hb, hml, hown, hts⟩ (sX6_canStillBe l D T ap0 x19 ip0 c68_x19) (cwV 1 hts gX6_waysFrom_X6_canStillBe rfl rfl rfl (by decide +kernel) ⟨Nat.le_of_ble_eq_true rfl, Nat.le_of_ble_eq_true rfl⟩) (hp_preV hG hw hp0 rfl trivial) rfl rfl hl.1 rfl (lv_room (Nat.le_of_ble_eq_true rfl)) dX6_waysFrom_99 ⟨Nat.zero_le _, Nat.zero_le _⟩) (fun x99 bx99 => ?_)
          refine lv_if_eq (tgt := 127) hx hb dX6_waysFrom_102 (by decide) (fun c102 => ?_) (fun c102 => ?_)
          · have r102tp : iv x99 0 0 := (iv_both bx99 (iv_eq (show iv 0 0 0 from ⟨by decide, by decide⟩) c102)).mono (by decide) (by decide)
            exact J127 (0 : Int32) c68_xp1 c68_x19 c68_x26 H88 locs88 hw _ (lv_sub hl [1, 2, 3, 4, 5, 0] rfl)
          · have r102fp : iv x99 1 1 := (iv_ne_lo c102 bx99 rfl).mono (by decide) (by decide)
            refine lv_aload_n hx hb dX6_waysFrom_105 rfl (lv_at hl 1 rfl) ?_
            refine lv_iload hx hb dX6_waysFrom_106 (lv_at hl 5 rfl) ?_
            refine hp_callpi (va_runV (As := [.int x26]) (rest := []) ⟨hx, hb, hml, hown, hts⟩ (sX6_canStillBe l D T ap0 x26 ip0 c68_x26) (cwV 1 hts gX6_waysFrom_X6_canStillBe rfl rfl rfl (by decide +kernel) ⟨Nat.le_of_ble_eq_true rfl, Nat.le_of_ble_eq_true rfl⟩) (hp_preV hG hw hp0 rfl trivial) rfl rfl hl.1 rfl (lv_room (Nat.le_of_ble_eq_true rfl)) dX6_waysFrom_108 ⟨Nat.zero_le _, Nat.zero_le _⟩) (fun x108 bx108 => ?_)
            refine lv_if_eq (tgt := 127) hx hb dX6_waysFrom_111 (by decide) (fun c111 => ?_) (fun c111 => ?_)
            · have r111tp : iv x108 0 0 := (iv_both bx108 (iv_eq (show iv 0 0 0 from ⟨by decide, by decide⟩) c111)).mono (by decide) (by decide)
              exact J127 (0 : Int32) c68_xp1 c68_x19 c68_x26 H88 locs88 hw _ (lv_sub hl [1, 2, 3, 4, 5, 0] rfl)
            · have r111fp : iv x108 1 1 := (iv_ne_lo c111 bx108 rfl).mono (by decide) (by decide)
              refine lv_iload hx hb dX6_waysFrom_114 (lv_at hl 0 rfl) ?_
              refine lv_aload_n hx hb dX6_waysFrom_116 rfl (lv_at hl 1 rfl) ?_
              refine lv_iload_n hx hb dX6_waysFrom_117 rfl (lv_at hl 2 rfl) ?_
              refine lv_iconst (v := 1) hx hb dX6_waysFrom_118 (by decide) ?_
              refine lv_iadd hx hb dX6_waysFrom_119 ?_
              refine lv_topi (fun x119 ex119 => ?_)
              have bx119 : iv x119 10 10 := iv_add c68_xp1 (show iv 1 1 1 from ⟨by decide, by decide⟩) ex119 (by decide)
              have qx119 := iv_add_eq c68_xp1 (show iv 1 1 1 from ⟨by decide, by decide⟩) ex119 (by decide)
              refine lv_iload_n hx hb dX6_waysFrom_120 rfl (lv_at hl 3 rfl) ?_
              refine hp_callei (va_runV (As := [.int x119, .int xp2]) (rest := [.int 0]) ⟨hx, hb, hml, hown, hts⟩ (sX6_waysFrom_10 l D T ap0 x119 xp2 ip0 bx119) (cwV 2 hts gX6_waysFrom_X6_waysFrom rfl rfl rfl (by decide +kernel) ⟨Nat.le_of_ble_eq_true rfl, Nat.le_of_ble_eq_true rfl⟩) (hp_preV hG hw hp0 rfl trivial) rfl rfl hl.1 rfl (lv_room (Nat.le_of_ble_eq_true rfl)) dX6_waysFrom_121 ⟨Nat.zero_le _, Nat.zero_le _⟩) hw (fun x121 st121 t121 H121 locs121 eh121 eg121 bx121 hw => ?_)
              refine lv_iadd hx hb dX6_waysFrom_124 ?_
              refine lv_topi (fun x124 ex124 => ?_)
              have qx124 := iv_add_eq (show iv 0 0 0 from ⟨by decide, by decide⟩) (iv_any x121) ex124 (by decide)
              refine lv_istore (lv' := [(5, .int x124), (0, .ref ap0), (1, .int xp1), (2, .int xp2), (3, .int x19), (4, .int x26)]) hx hb dX6_waysFrom_125 hl (by decide) rfl (fun ls hl => ?_)
              exact J127 x124 c68_xp1 c68_x19 c68_x26 H121 locs121 hw _ (lv_sub hl [1, 2, 3, 4, 5, 0] rfl)
      refine lv_if_ne (tgt := 68) hx hb dX6_waysFrom_35 (by decide) (fun c35 => ?_) (fun c35 => ?_)
      · exact J68 bp1 bx19 bx26 s.heap [] hw _ (lv_sub hl [2, 3, 4, 1, 0] rfl)
      · have r35fp : iv x34 0 0 := (iv_both (iv_any x34) (iv_eq (show iv 0 0 0 from ⟨by decide, by decide⟩) c35)).mono (by decide) (by decide)
        refine lv_aload_n hx hb dX6_waysFrom_38 rfl (lv_at hl 2 rfl) ?_
        refine hp_getr hx hb hts IX6 hown hK hw.1 hp0 rfl 4 (by decide) L25 rfl dX6_waysFrom_39 ?_
        refine lv_iload hx hb dX6_waysFrom_42 (lv_at hl 0 rfl) ?_
        refine hp_zaldA hx hb hK hw.1 hp0it (vp_iv bx26 (by decide)) dX6_waysFrom_44 (fun x44 => ?_)
        refine lv_if_ne (tgt := 68) hx hb dX6_waysFrom_45 (by decide) (fun c45 => ?_) (fun c45 => ?_)
        · exact J68 bp1 bx19 bx26 s.heap [] hw _ (lv_sub hl [2, 3, 4, 1, 0] rfl)
        · have r45fp : iv x44 0 0 := (iv_both (iv_any x44) (iv_eq (show iv 0 0 0 from ⟨by decide, by decide⟩) c45)).mono (by decide) (by decide)
          refine lv_iload_n hx hb dX6_waysFrom_48 rfl (lv_at hl 3 rfl) ?_
          refine lv_iload_n hx hb dX6_waysFrom_49 rfl (lv_at hl 4 rfl) ?_
          have J58 : ∀ (y58_s0 : Int32), iv xp1 9 9 → iv y58_s0 1 2 → ∀ (H : Heap) (locs : List Loc), hp_w D T s H locs → ∀ (ls : Array Slot), lv_has ls 6 [(0, .ref ap0), (1, .int xp1), (2, .int xp2)] → WX6_waysFrom_9 p l e s m below meth c D T ap0 xp1 xp2 H locs (F0 m 58 ls [.int y58_s0]) := by
            intro y58_s0 c58_xp1 c58_y58_s0 H58 locs58 hw ls hl
            refine lv_aload_n hx hb dX6_waysFrom_58 rfl (lv_at hl 0 rfl) ?_
            refine lv_iload_n hx hb dX6_waysFrom_59 rfl (lv_at hl 1 rfl) ?_
            refine lv_iconst (v := 1) hx hb dX6_waysFrom_60 (by decide) ?_
            refine lv_iadd hx hb dX6_waysFrom_61 ?_
            refine lv_topi (fun x61 ex61 => ?_)
            have bx61 : iv x61 10 10 := iv_add c58_xp1 (show iv 1 1 1 from ⟨by decide, by decide⟩) ex61 (by decide)
            have qx61 := iv_add_eq c58_xp1 (show iv 1 1 1 from ⟨by decide, by decide⟩) ex61 (by decide)
            refine lv_iload_n hx hb dX6_waysFrom_62 rfl (lv_at hl 2 rfl) ?_
            refine hp_callei (va_runV (As := [.int x61, .int xp2]) (rest := [.int y58_s0]) ⟨hx, hb, hml, hown, hts⟩ (sX6_waysFrom_10 l D T ap0 x61 xp2 ip0 bx61) (cwV 2 hts gX6_waysFrom_X6_waysFrom rfl rfl rfl (by decide +kernel) ⟨Nat.le_of_ble_eq_true rfl, Nat.le_of_ble_eq_true rfl⟩) (hp_preV hG hw hp0 rfl trivial) rfl rfl hl.1 rfl (lv_room (Nat.le_of_ble_eq_true rfl)) dX6_waysFrom_63 ⟨Nat.zero_le _, Nat.zero_le _⟩) hw (fun x63 st63 t63 H63 locs63 eh63 eg63 bx63 hw => ?_)
            refine lv_imul hx hb dX6_waysFrom_66 ?_
            refine lv_topi (fun x66 ex66 => ?_)
            exact W.iret (v := x66) hx hb hr (fun t ht hW => ⟨some (.int x66), rfl, ⟨x66, rfl, trivial⟩, by rw [ht]; exact hw.1, hw.2.F ht⟩) hw.2.2.2 dX6_waysFrom_67
          refine lv_icmp_ne (tgt := 57) hx hb dX6_waysFrom_50 (by decide) (fun c50 => ?_) (fun c50 => ?_)
          · refine lv_iconst (v := 2) hx hb dX6_waysFrom_57 (by decide) ?_
            exact J58 (2 : Int32) bp1 (show iv 2 1 2 from ⟨by decide, by decide⟩) s.heap [] hw _ (lv_sub hl [2, 3, 4] rfl)
          · have r50fq : iv xp2 9 9 := (iv_both (iv_any xp2) (iv_eq bp1 c50.symm)).mono (by decide) (by decide)
            refine lv_iconst (v := 1) hx hb dX6_waysFrom_53 (by decide) ?_
            refine lv_goto (tgt := 58) hx hb dX6_waysFrom_54 (by decide) ?_
            exact J58 (1 : Int32) bp1 (show iv 1 1 2 from ⟨by decide, by decide⟩) s.heap [] hw _ (lv_sub hl [2, 3, 4] rfl)
    · have r9fp : iv x6 0 9 := (iv_le_l (iv_nlt c9) bx6 bp1).mono (by decide) (by decide)
      exact J12 s.heap [] hw _ (lv_sub hl [] rfl)
abbrev WX6_waysFrom_8 (p : Program) (l : Launch) (e : Env) (s : State) (m : MethodId) (below : List Frame) (meth : Method) (c : Code) (D : hp_D) (T : hp_T) (ap0 : Nat) (xp1 : Int32) (xp2 : Int32) (H : Heap) (locs : List Loc) (g : JFrame) : Prop := W p l e (headSpec wsX6_waysFrom ({ frames := 8, cells := 0, slots := 0, locals := 200 })).room s m ([.ref ap0, .int xp1, .int xp2] : List Value).toArray below meth c H locs 0 0 (MQ below (hq_e D T (fun v _ _ => ∃ r : Int32, v = some (.int r) ∧ True)) ([.ref ap0, .int xp1, .int xp2] : List Value).toArray s 0 0 (hp_F T)) g
set_option maxHeartbeats 4000000 in
set_option maxRecDepth 100000 in
theorem sX6_waysFrom_8 (l : Launch) (D : hp_D) (T : hp_T) (ap0 : Nat) (xp1 : Int32) (xp2 : Int32) (ip0 : isShuns T ap0) (bp1 : iv xp1 8 8) : Met l yX6_waysFrom wsX6_waysFrom ({ frames := 8, cells := 0, slots := 0, locals := 200 }) (hp_Pc D T [.ref ap0, .int xp1, .int xp2] (fun _ => True)) (hq_e D T (fun v _ _ => ∃ r : Int32, v = some (.int r) ∧ True)) 0 0 (hp_F T) := by
  obtain ⟨ap0le, ap0gr, ap0du, ap0it, ap0op, hp0, hp0le, hp0gr, hp0du, hp0it, hp0op⟩ := id ip0
  refine Met.ofW (cc := cX6_waysFrom) (maxL := 6) (ret := (some .int)) (by decide) rfl ?_
  intro p e s m args below meth c s₁ B hml hv
  obtain ⟨rfl, hok, hG, hB⟩ := hv
  have hx := B.exec
  have hb := B.bytes
  have hr := B.returns
  have hts := atoms_spec (ws := wsX6_waysFrom) B.pre
  have hown : s.vm.findClass RX6 = some m.cls := findClass_of_methodNamed B.named
  have hlocks := B.notSynchronized
  have hK := hG.1
  have hw : hp_w D T s s.heap [] := hp_w.rf hok
  have IX6 : ∀ w ∈ wsX60, w ∈ wsX6_waysFrom := by decide +kernel
  have L9 := hts (.fieldLink RX6 9 "PalmCensus$Shuns" "twos" "I") (by decide +kernel)
  have L15 := hts (.fieldLink RX6 15 "PalmCensus$Shuns" "lesser" "[I") (by decide +kernel)
  have L19 := hts (.fieldLink RX6 19 "PalmCensus$Shuns" "greater" "[I") (by decide +kernel)
  have L25 := hts (.fieldLink RX6 25 "PalmCensus$Shuns" "isTold" "[Z") (by decide +kernel)
  have L29 := hts (.fieldLink RX6 29 "PalmCensus$Shuns" "open" "[I") (by decide +kernel)
  have L22 := hts (.fieldLink RX6 22 "PalmCensus$Shuns" "due" "[I") (by decide +kernel)
  have hl := lv_entry ([.ref ap0, .int xp1, .int xp2]) (n := 6) (Nat.le_of_ble_eq_true rfl)
  rw [lg_entry_eq]
  generalize (lg_sl ([.ref ap0, .int xp1, .int xp2]) ++ List.replicate (6 - (lg_sl ([.ref ap0, .int xp1, .int xp2])).length) Slot.unset).toArray = ls at hl ⊢
  have hl : lv_has ls 6 [(0, .ref ap0), (1, .int xp1), (2, .int xp2)] := hl
  show WX6_waysFrom_8 p l e s m below meth c D T ap0 xp1 xp2 s.heap [] (F0 m 0 ls [])
  refine lv_iload_n hx hb dX6_waysFrom_0 rfl (lv_at hl 1 rfl) ?_
  have J12 : ∀ (H : Heap) (locs : List Loc), hp_w D T s H locs → ∀ (ls : Array Slot), lv_has ls 6 [] → WX6_waysFrom_8 p l e s m below meth c D T ap0 xp1 xp2 H locs (F0 m 12 ls []) := by
    intro H12 locs12 hw ls hl
    refine lv_iconst (v := 1) hx hb dX6_waysFrom_12 (by decide) ?_
    exact W.iret (v := 1) hx hb hr (fun t ht hW => ⟨some (.int 1), rfl, ⟨(1 : Int32), rfl, trivial⟩, by rw [ht]; exact hw.1, hw.2.F ht⟩) hw.2.2.2 dX6_waysFrom_13
  refine lv_if_lt (tgt := 12) hx hb dX6_waysFrom_1 (by decide) (fun c1 => ?_) (fun c1 => ?_)
  · exact iv_abs (iv_lt_l c1 bp1 (show iv 0 0 0 from ⟨by decide, by decide⟩)) (by decide)
  · refine lv_iload_n hx hb dX6_waysFrom_4 rfl (lv_at hl 1 rfl) ?_
    refine lv_aload_n hx hb dX6_waysFrom_5 rfl (lv_at hl 0 rfl) ?_
    refine hp_geti hx hb hts IX6 hown hK hw.1 hp0 rfl 0 (by decide) L9 rfl dX6_waysFrom_6 (fun x6 bx6 fx6 => ?_)
    refine lv_icmp_lt (tgt := 14) hx hb dX6_waysFrom_9 (by decide) (fun c9 => ?_) (fun c9 => ?_)
    · have r9tq : iv x6 9 16 := (iv_lt_r c9 bp1 bx6).mono (by decide) (by decide)
      refine lv_aload_n hx hb dX6_waysFrom_14 rfl (lv_at hl 0 rfl) ?_
      refine hp_getr hx hb hts IX6 hown hK hw.1 hp0 rfl 1 (by decide) L15 rfl dX6_waysFrom_15 ?_
      refine lv_iload_n hx hb dX6_waysFrom_18 rfl (lv_at hl 1 rfl) ?_
      refine hp_ialdI hx hb hK hw.1 hp0le (vp_iv bp1 (by decide)) dX6_waysFrom_19 (fun x19 bx19 => ?_)
      refine lv_istore_n (lv' := [(3, .int x19), (0, .ref ap0), (1, .int xp1), (2, .int xp2)]) hx hb dX6_waysFrom_20 rfl hl (by decide) rfl (fun ls hl => ?_)
      refine lv_aload_n hx hb dX6_waysFrom_21 rfl (lv_at hl 1 rfl) ?_
      refine hp_getr hx hb hts IX6 hown hK hw.1 hp0 rfl 2 (by decide) L19 rfl dX6_waysFrom_22 ?_
      refine lv_iload_n hx hb dX6_waysFrom_25 rfl (lv_at hl 2 rfl) ?_
      refine hp_ialdI hx hb hK hw.1 hp0gr (vp_iv bp1 (by decide)) dX6_waysFrom_26 (fun x26 bx26 => ?_)
      refine lv_istore (lv' := [(4, .int x26), (3, .int x19), (0, .ref ap0), (1, .int xp1), (2, .int xp2)]) hx hb dX6_waysFrom_27 hl (by decide) rfl (fun ls hl => ?_)
      refine lv_aload_n hx hb dX6_waysFrom_29 rfl (lv_at hl 2 rfl) ?_
      refine hp_getr hx hb hts IX6 hown hK hw.1 hp0 rfl 4 (by decide) L25 rfl dX6_waysFrom_30 ?_
      refine lv_iload_n hx hb dX6_waysFrom_33 rfl (lv_at hl 1 rfl) ?_
      refine hp_zaldA hx hb hK hw.1 hp0it (vp_iv bx19 (by decide)) dX6_waysFrom_34 (fun x34 => ?_)
      have J68 : iv xp1 8 8 → iv x19 0 9 → iv x26 0 9 → ∀ (H : Heap) (locs : List Loc), hp_w D T s H locs → ∀ (ls : Array Slot), lv_has ls 6 [(0, .ref ap0), (1, .int xp1), (2, .int xp2), (3, .int x19), (4, .int x26)] → WX6_waysFrom_8 p l e s m below meth c D T ap0 xp1 xp2 H locs (F0 m 68 ls []) := by
        intro c68_xp1 c68_x19 c68_x26 H68 locs68 hw ls hl
        refine lv_aload_n hx hb dX6_waysFrom_68 rfl (lv_at hl 0 rfl) ?_
        refine hp_getr hx hb hts IX6 hown hK hw.1 hp0 rfl 5 (by decide) L29 rfl dX6_waysFrom_69 ?_
        refine lv_iload_n hx hb dX6_waysFrom_72 rfl (lv_at hl 3 rfl) ?_
        refine lv_dup2_11 hx hb dX6_waysFrom_73 rfl rfl ?_
        refine hp_ialdA hx hb hK hw.1 hp0op (vp_iv c68_x19 (by decide)) dX6_waysFrom_74 (fun x74 => ?_)
        refine lv_iconst (v := 1) hx hb dX6_waysFrom_75 (by decide) ?_
        refine lv_isub hx hb dX6_waysFrom_76 ?_
        refine lv_topi (fun x76 ex76 => ?_)
        refine hp_iast hx hb hK hw hp0op (vp_iv c68_x19 (by decide)) ⟨_, rfl⟩ dX6_waysFrom_77 (fun H77 locs77 hw g77 => ?_)
        refine lv_aload_n hx hb dX6_waysFrom_78 rfl (lv_at hl 0 rfl) ?_
        refine hp_getr hx hb hts IX6 hown hK hw.1 hp0 rfl 5 (by decide) L29 rfl dX6_waysFrom_79 ?_
        refine lv_iload hx hb dX6_waysFrom_82 (lv_at hl 4 rfl) ?_
        refine lv_dup2_11 hx hb dX6_waysFrom_84 rfl rfl ?_
        refine hp_ialdA hx hb hK hw.1 hp0op (vp_iv c68_x26 (by decide)) dX6_waysFrom_85 (fun x85 => ?_)
        refine lv_iconst (v := 1) hx hb dX6_waysFrom_86 (by decide) ?_
        refine lv_isub hx hb dX6_waysFrom_87 ?_
        refine lv_topi (fun x87 ex87 => ?_)
        refine hp_iast hx hb hK hw hp0op (vp_iv c68_x26 (by decide)) ⟨_, rfl⟩ dX6_waysFrom_88 (fun H88 locs88 hw g88 => ?_)
        refine lv_iconst (v := 0) hx hb dX6_waysFrom_89 (by decide) ?_
        refine lv_istore (lv' := [(5, .int 0), (0, .ref ap0), (1, .int xp1), (2, .int xp2), (3, .int x19), (4, .int x26)]) hx hb dX6_waysFrom_90 hl (by decide) rfl (fun ls hl => ?_)
        refine lv_iload_n hx hb dX6_waysFrom_92 rfl (lv_at hl 2 rfl) ?_
        refine lv_iload_n hx hb dX6_waysFrom_93 rfl (lv_at hl 3 rfl) ?_
        have J127 : ∀ (y127_l5 : Int32), iv xp1 8 8 → iv x19 0 9 → iv x26 0 9 → ∀ (H : Heap) (locs : List Loc), hp_w D T s H locs → ∀ (ls : Array Slot), lv_has ls 6 [(0, .ref ap0), (1, .int xp1), (2, .int xp2), (3, .int x19), (4, .int x26), (5, .int y127_l5)] → WX6_waysFrom_8 p l e s m below meth c D T ap0 xp1 xp2 H locs (F0 m 127 ls []) := by
          intro y127_l5 c127_xp1 c127_x19 c127_x26 H127 locs127 hw ls hl
          refine lv_aload_n hx hb dX6_waysFrom_127 rfl (lv_at hl 0 rfl) ?_
          refine hp_getr hx hb hts IX6 hown hK hw.1 hp0 rfl 3 (by decide) L22 rfl dX6_waysFrom_128 ?_
          refine lv_iload_n hx hb dX6_waysFrom_131 rfl (lv_at hl 3 rfl) ?_
          refine lv_dup2_11 hx hb dX6_waysFrom_132 rfl rfl ?_
          refine hp_ialdA hx hb hK hw.1 hp0du (vp_iv c127_x19 (by decide)) dX6_waysFrom_133 (fun x133 => ?_)
          refine lv_iconst (v := 1) hx hb dX6_waysFrom_134 (by decide) ?_
          refine lv_isub hx hb dX6_waysFrom_135 ?_
          refine lv_topi (fun x135 ex135 => ?_)
          refine hp_iast hx hb hK hw hp0du (vp_iv c127_x19 (by decide)) ⟨_, rfl⟩ dX6_waysFrom_136 (fun H136 locs136 hw g136 => ?_)
          refine lv_aload_n hx hb dX6_waysFrom_137 rfl (lv_at hl 0 rfl) ?_
          refine hp_getr hx hb hts IX6 hown hK hw.1 hp0 rfl 3 (by decide) L22 rfl dX6_waysFrom_138 ?_
          refine lv_iload hx hb dX6_waysFrom_141 (lv_at hl 4 rfl) ?_
          refine lv_dup2_11 hx hb dX6_waysFrom_143 rfl rfl ?_
          refine hp_ialdA hx hb hK hw.1 hp0du (vp_iv c127_x26 (by decide)) dX6_waysFrom_144 (fun x144 => ?_)
          refine lv_iconst (v := 1) hx hb dX6_waysFrom_145 (by decide) ?_
          refine lv_isub hx hb dX6_waysFrom_146 ?_
          refine lv_topi (fun x146 ex146 => ?_)
          refine hp_iast hx hb hK hw hp0du (vp_iv c127_x26 (by decide)) ⟨_, rfl⟩ dX6_waysFrom_147 (fun H147 locs147 hw g147 => ?_)
          refine lv_aload_n hx hb dX6_waysFrom_148 rfl (lv_at hl 0 rfl) ?_
          refine lv_iload_n hx hb dX6_waysFrom_149 rfl (lv_at hl 3 rfl) ?_
          refine hp_callpi (va_runV (As := [.int x19]) (rest := []) ⟨hx, hb, hml, hown, hts⟩ (sX6_canStillBe l D T ap0 x19 ip0 c127_x19) (cwV 1 hts gX6_waysFrom_X6_canStillBe rfl rfl rfl (by decide +kernel) ⟨Nat.le_of_ble_eq_true rfl, Nat.le_of_ble_eq_true rfl⟩) (hp_preV hG hw hp0 rfl trivial) rfl rfl hl.1 rfl (lv_room (Nat.le_of_ble_eq_true rfl)) dX6_waysFrom_150 ⟨Nat.zero_le _, Nat.zero_le _⟩) (fun x150 bx150 => ?_)
          have J178 : ∀ (y178_l5 : Int32), iv x19 0 9 → iv x26 0 9 → ∀ (H : Heap) (locs : List Loc), hp_w D T s H locs → ∀ (ls : Array Slot), lv_has ls 6 [(0, .ref ap0), (3, .int x19), (4, .int x26), (5, .int y178_l5)] → WX6_waysFrom_8 p l e s m below meth c D T ap0 xp1 xp2 H locs (F0 m 178 ls []) := by
            intro y178_l5 c178_x19 c178_x26 H178 locs178 hw ls hl
            refine lv_aload_n hx hb dX6_waysFrom_178 rfl (lv_at hl 0 rfl) ?_
            refine hp_getr hx hb hts IX6 hown hK hw.1 hp0 rfl 3 (by decide) L22 rfl dX6_waysFrom_179 ?_
            refine lv_iload_n hx hb dX6_waysFrom_182 rfl (lv_at hl 1 rfl) ?_
            refine lv_dup2_11 hx hb dX6_waysFrom_183 rfl rfl ?_
            refine hp_ialdA hx hb hK hw.1 hp0du (vp_iv c178_x19 (by decide)) dX6_waysFrom_184 (fun x184 => ?_)
            refine lv_iconst (v := 1) hx hb dX6_waysFrom_185 (by decide) ?_
            refine lv_iadd hx hb dX6_waysFrom_186 ?_
            refine lv_topi (fun x186 ex186 => ?_)
            refine hp_iast hx hb hK hw hp0du (vp_iv c178_x19 (by decide)) ⟨_, rfl⟩ dX6_waysFrom_187 (fun H187 locs187 hw g187 => ?_)
            refine lv_aload_n hx hb dX6_waysFrom_188 rfl (lv_at hl 0 rfl) ?_
            refine hp_getr hx hb hts IX6 hown hK hw.1 hp0 rfl 3 (by decide) L22 rfl dX6_waysFrom_189 ?_
            refine lv_iload hx hb dX6_waysFrom_192 (lv_at hl 2 rfl) ?_
            refine lv_dup2_11 hx hb dX6_waysFrom_194 rfl rfl ?_
            refine hp_ialdA hx hb hK hw.1 hp0du (vp_iv c178_x26 (by decide)) dX6_waysFrom_195 (fun x195 => ?_)
            refine lv_iconst (v := 1) hx hb dX6_waysFrom_196 (by decide) ?_
            refine lv_iadd hx hb dX6_waysFrom_197 ?_
            refine lv_topi (fun x197 ex197 => ?_)
            refine hp_iast hx hb hK hw hp0du (vp_iv c178_x26 (by decide)) ⟨_, rfl⟩ dX6_waysFrom_198 (fun H198 locs198 hw g198 => ?_)
            refine lv_aload_n hx hb dX6_waysFrom_199 rfl (lv_at hl 0 rfl) ?_
            refine hp_getr hx hb hts IX6 hown hK hw.1 hp0 rfl 5 (by decide) L29 rfl dX6_waysFrom_200 ?_
            refine lv_iload_n hx hb dX6_waysFrom_203 rfl (lv_at hl 1 rfl) ?_
            refine lv_dup2_11 hx hb dX6_waysFrom_204 rfl rfl ?_
            refine hp_ialdA hx hb hK hw.1 hp0op (vp_iv c178_x19 (by decide)) dX6_waysFrom_205 (fun x205 => ?_)
            refine lv_iconst (v := 1) hx hb dX6_waysFrom_206 (by decide) ?_
            refine lv_iadd hx hb dX6_waysFrom_207 ?_
            refine lv_topi (fun x207 ex207 => ?_)
            refine hp_iast hx hb hK hw hp0op (vp_iv c178_x19 (by decide)) ⟨_, rfl⟩ dX6_waysFrom_208 (fun H208 locs208 hw g208 => ?_)
            refine lv_aload_n hx hb dX6_waysFrom_209 rfl (lv_at hl 0 rfl) ?_
            refine hp_getr hx hb hts IX6 hown hK hw.1 hp0 rfl 5 (by decide) L29 rfl dX6_waysFrom_210 ?_
            refine lv_iload hx hb dX6_waysFrom_213 (lv_at hl 2 rfl) ?_
            refine lv_dup2_11 hx hb dX6_waysFrom_215 rfl rfl ?_
            refine hp_ialdA hx hb hK hw.1 hp0op (vp_iv c178_x26 (by decide)) dX6_waysFrom_216 (fun x216 => ?_)
            refine lv_iconst (v := 1) hx hb dX6_waysFrom_217 (by decide) ?_
            refine lv_iadd hx hb dX6_waysFrom_218 ?_
            refine lv_topi (fun x218 ex218 => ?_)
            refine hp_iast hx hb hK hw hp0op (vp_iv c178_x26 (by decide)) ⟨_, rfl⟩ dX6_waysFrom_219 (fun H219 locs219 hw g219 => ?_)
            refine lv_iload hx hb dX6_waysFrom_220 (lv_at hl 3 rfl) ?_
            exact W.iret (v := y178_l5) hx hb hr (fun t ht hW => ⟨some (.int y178_l5), rfl, ⟨y178_l5, rfl, trivial⟩, by rw [ht]; exact hw.1, hw.2.F ht⟩) hw.2.2.2 dX6_waysFrom_222
          refine lv_if_eq (tgt := 178) hx hb dX6_waysFrom_153 (by decide) (fun c153 => ?_) (fun c153 => ?_)
          · have r153tp : iv x150 0 0 := (iv_both bx150 (iv_eq (show iv 0 0 0 from ⟨by decide, by decide⟩) c153)).mono (by decide) (by decide)
            exact J178 y127_l5 c127_x19 c127_x26 H147 locs147 hw _ (lv_sub hl [0, 3, 4, 5] rfl)
          · have r153fp : iv x150 1 1 := (iv_ne_lo c153 bx150 rfl).mono (by decide) (by decide)
            refine lv_aload_n hx hb dX6_waysFrom_156 rfl (lv_at hl 0 rfl) ?_
            refine lv_iload hx hb dX6_waysFrom_157 (lv_at hl 4 rfl) ?_
            refine hp_callpi (va_runV (As := [.int x26]) (rest := []) ⟨hx, hb, hml, hown, hts⟩ (sX6_canStillBe l D T ap0 x26 ip0 c127_x26) (cwV 1 hts gX6_waysFrom_X6_canStillBe rfl rfl rfl (by decide +kernel) ⟨Nat.le_of_ble_eq_true rfl, Nat.le_of_ble_eq_true rfl⟩) (hp_preV hG hw hp0 rfl trivial) rfl rfl hl.1 rfl (lv_room (Nat.le_of_ble_eq_true rfl)) dX6_waysFrom_159 ⟨Nat.zero_le _, Nat.zero_le _⟩) (fun x159 bx159 => ?_)
            refine lv_if_eq (tgt := 178) hx hb dX6_waysFrom_162 (by decide) (fun c162 => ?_) (fun c162 => ?_)
            · have r162tp : iv x159 0 0 := (iv_both bx159 (iv_eq (show iv 0 0 0 from ⟨by decide, by decide⟩) c162)).mono (by decide) (by decide)
              exact J178 y127_l5 c127_x19 c127_x26 H147 locs147 hw _ (lv_sub hl [0, 3, 4, 5] rfl)
            · have r162fp : iv x159 1 1 := (iv_ne_lo c162 bx159 rfl).mono (by decide) (by decide)
              refine lv_iload hx hb dX6_waysFrom_165 (lv_at hl 5 rfl) ?_
              refine lv_aload_n hx hb dX6_waysFrom_167 rfl (lv_at hl 0 rfl) ?_
              refine lv_iload_n hx hb dX6_waysFrom_168 rfl (lv_at hl 1 rfl) ?_
              refine lv_iconst (v := 1) hx hb dX6_waysFrom_169 (by decide) ?_
              refine lv_iadd hx hb dX6_waysFrom_170 ?_
              refine lv_topi (fun x170 ex170 => ?_)
              have bx170 : iv x170 9 9 := iv_add c127_xp1 (show iv 1 1 1 from ⟨by decide, by decide⟩) ex170 (by decide)
              have qx170 := iv_add_eq c127_xp1 (show iv 1 1 1 from ⟨by decide, by decide⟩) ex170 (by decide)
              refine lv_iload_n hx hb dX6_waysFrom_171 rfl (lv_at hl 2 rfl) ?_
              refine hp_callei (va_runV (As := [.int x170, .int xp2]) (rest := [.int y127_l5]) ⟨hx, hb, hml, hown, hts⟩ (sX6_waysFrom_9 l D T ap0 x170 xp2 ip0 bx170) (cwV 2 hts gX6_waysFrom_X6_waysFrom rfl rfl rfl (by decide +kernel) ⟨Nat.le_of_ble_eq_true rfl, Nat.le_of_ble_eq_true rfl⟩) (hp_preV hG hw hp0 rfl trivial) rfl rfl hl.1 rfl (lv_room (Nat.le_of_ble_eq_true rfl)) dX6_waysFrom_172 ⟨Nat.zero_le _, Nat.zero_le _⟩) hw (fun x172 st172 t172 H172 locs172 eh172 eg172 bx172 hw => ?_)
              refine lv_iadd hx hb dX6_waysFrom_175 ?_
              refine lv_topi (fun x175 ex175 => ?_)
              refine lv_istore (lv' := [(5, .int x175), (0, .ref ap0), (1, .int xp1), (2, .int xp2), (3, .int x19), (4, .int x26)]) hx hb dX6_waysFrom_176 hl (by decide) rfl (fun ls hl => ?_)
              exact J178 x175 c127_x19 c127_x26 H172 locs172 hw _ (lv_sub hl [1, 4, 5, 0] rfl)
        refine lv_icmp_eq (tgt := 127) hx hb dX6_waysFrom_94 (by decide) (fun c94 => ?_) (fun c94 => ?_)
        · have r94tq : iv xp2 8 8 := (iv_both (iv_any xp2) (iv_eq c68_xp1 c94.symm)).mono (by decide) (by decide)
          exact J127 (0 : Int32) c68_xp1 c68_x19 c68_x26 H88 locs88 hw _ (lv_sub hl [1, 2, 3, 4, 5, 0] rfl)
        · refine lv_aload_n hx hb dX6_waysFrom_97 rfl (lv_at hl 1 rfl) ?_
          refine lv_iload_n hx hb dX6_waysFrom_98 rfl (lv_at hl 4 rfl) ?_
          refine hp_callpi (va_runV (As := [.int x19]) (rest := []) ⟨hx, hb, hml, hown, hts⟩ (sX6_canStillBe l D T ap0 x19 ip0 c68_x19) (cwV 1 hts gX6_waysFrom_X6_canStillBe rfl rfl rfl (by decide +kernel) ⟨Nat.le_of_ble_eq_true rfl, Nat.le_of_ble_eq_true rfl⟩) (hp_preV hG hw hp0 rfl trivial) rfl rfl hl.1 rfl (lv_room (Nat.le_of_ble_eq_true rfl)) dX6_waysFrom_99 ⟨Nat.zero_le _, Nat.zero_le _⟩) (fun x99 bx99 => ?_)
          refine lv_if_eq (tgt := 127) hx hb dX6_waysFrom_102 (by decide) (fun c102 => ?_) (fun c102 => ?_)
          · have r102tp : iv x99 0 0 := (iv_both bx99 (iv_eq (show iv 0 0 0 from ⟨by decide, by decide⟩) c102)).mono (by decide) (by decide)
            exact J127 (0 : Int32) c68_xp1 c68_x19 c68_x26 H88 locs88 hw _ (lv_sub hl [1, 2, 3, 4, 5, 0] rfl)
          · have r102fp : iv x99 1 1 := (iv_ne_lo c102 bx99 rfl).mono (by decide) (by decide)
            refine lv_aload_n hx hb dX6_waysFrom_105 rfl (lv_at hl 1 rfl) ?_
            refine lv_iload hx hb dX6_waysFrom_106 (lv_at hl 5 rfl) ?_
            refine hp_callpi (va_runV (As := [.int x26]) (rest := []) ⟨hx, hb, hml, hown, hts⟩ (sX6_canStillBe l D T ap0 x26 ip0 c68_x26) (cwV 1 hts gX6_waysFrom_X6_canStillBe rfl rfl rfl (by decide +kernel) ⟨Nat.le_of_ble_eq_true rfl, Nat.le_of_ble_eq_true rfl⟩) (hp_preV hG hw hp0 rfl trivial) rfl rfl hl.1 rfl (lv_room (Nat.le_of_ble_eq_true rfl)) dX6_waysFrom_108 ⟨Nat.zero_le _, Nat.zero_le _⟩) (fun x108 bx108 => ?_)
            refine lv_if_eq (tgt := 127) hx hb dX6_waysFrom_111 (by decide) (fun c111 => ?_) (fun c111 => ?_)
            · have r111tp : iv x108 0 0 := (iv_both bx108 (iv_eq (show iv 0 0 0 from ⟨by decide, by decide⟩) c111)).mono (by decide) (by decide)
              exact J127 (0 : Int32) c68_xp1 c68_x19 c68_x26 H88 locs88 hw _ (lv_sub hl [1, 2, 3, 4, 5, 0] rfl)
            · have r111fp : iv x108 1 1 := (iv_ne_lo c111 bx108 rfl).mono (by decide) (by decide)
              refine lv_iload hx hb dX6_waysFrom_114 (lv_at hl 0 rfl) ?_
              refine lv_aload_n hx hb dX6_waysFrom_116 rfl (lv_at hl 1 rfl) ?_
              refine lv_iload_n hx hb dX6_waysFrom_117 rfl (lv_at hl 2 rfl) ?_
              refine lv_iconst (v := 1) hx hb dX6_waysFrom_118 (by decide) ?_
              refine lv_iadd hx hb dX6_waysFrom_119 ?_
              refine lv_topi (fun x119 ex119 => ?_)
              have bx119 : iv x119 9 9 := iv_add c68_xp1 (show iv 1 1 1 from ⟨by decide, by decide⟩) ex119 (by decide)
              have qx119 := iv_add_eq c68_xp1 (show iv 1 1 1 from ⟨by decide, by decide⟩) ex119 (by decide)
              refine lv_iload_n hx hb dX6_waysFrom_120 rfl (lv_at hl 3 rfl) ?_
              refine hp_callei (va_runV (As := [.int x119, .int xp2]) (rest := [.int 0]) ⟨hx, hb, hml, hown, hts⟩ (sX6_waysFrom_9 l D T ap0 x119 xp2 ip0 bx119) (cwV 2 hts gX6_waysFrom_X6_waysFrom rfl rfl rfl (by decide +kernel) ⟨Nat.le_of_ble_eq_true rfl, Nat.le_of_ble_eq_true rfl⟩) (hp_preV hG hw hp0 rfl trivial) rfl rfl hl.1 rfl (lv_room (Nat.le_of_ble_eq_true rfl)) dX6_waysFrom_121 ⟨Nat.zero_le _, Nat.zero_le _⟩) hw (fun x121 st121 t121 H121 locs121 eh121 eg121 bx121 hw => ?_)
              refine lv_iadd hx hb dX6_waysFrom_124 ?_
              refine lv_topi (fun x124 ex124 => ?_)
              have qx124 := iv_add_eq (show iv 0 0 0 from ⟨by decide, by decide⟩) (iv_any x121) ex124 (by decide)
              refine lv_istore (lv' := [(5, .int x124), (0, .ref ap0), (1, .int xp1), (2, .int xp2), (3, .int x19), (4, .int x26)]) hx hb dX6_waysFrom_125 hl (by decide) rfl (fun ls hl => ?_)
              exact J127 x124 c68_xp1 c68_x19 c68_x26 H121 locs121 hw _ (lv_sub hl [1, 2, 3, 4, 5, 0] rfl)
      refine lv_if_ne (tgt := 68) hx hb dX6_waysFrom_35 (by decide) (fun c35 => ?_) (fun c35 => ?_)
      · exact J68 bp1 bx19 bx26 s.heap [] hw _ (lv_sub hl [2, 3, 4, 1, 0] rfl)
      · have r35fp : iv x34 0 0 := (iv_both (iv_any x34) (iv_eq (show iv 0 0 0 from ⟨by decide, by decide⟩) c35)).mono (by decide) (by decide)
        refine lv_aload_n hx hb dX6_waysFrom_38 rfl (lv_at hl 2 rfl) ?_
        refine hp_getr hx hb hts IX6 hown hK hw.1 hp0 rfl 4 (by decide) L25 rfl dX6_waysFrom_39 ?_
        refine lv_iload hx hb dX6_waysFrom_42 (lv_at hl 0 rfl) ?_
        refine hp_zaldA hx hb hK hw.1 hp0it (vp_iv bx26 (by decide)) dX6_waysFrom_44 (fun x44 => ?_)
        refine lv_if_ne (tgt := 68) hx hb dX6_waysFrom_45 (by decide) (fun c45 => ?_) (fun c45 => ?_)
        · exact J68 bp1 bx19 bx26 s.heap [] hw _ (lv_sub hl [2, 3, 4, 1, 0] rfl)
        · have r45fp : iv x44 0 0 := (iv_both (iv_any x44) (iv_eq (show iv 0 0 0 from ⟨by decide, by decide⟩) c45)).mono (by decide) (by decide)
          refine lv_iload_n hx hb dX6_waysFrom_48 rfl (lv_at hl 3 rfl) ?_
          refine lv_iload_n hx hb dX6_waysFrom_49 rfl (lv_at hl 4 rfl) ?_
          have J58 : ∀ (y58_s0 : Int32), iv xp1 8 8 → iv y58_s0 1 2 → ∀ (H : Heap) (locs : List Loc), hp_w D T s H locs → ∀ (ls : Array Slot), lv_has ls 6 [(0, .ref ap0), (1, .int xp1), (2, .int xp2)] → WX6_waysFrom_8 p l e s m below meth c D T ap0 xp1 xp2 H locs (F0 m 58 ls [.int y58_s0]) := by
            intro y58_s0 c58_xp1 c58_y58_s0 H58 locs58 hw ls hl
            refine lv_aload_n hx hb dX6_waysFrom_58 rfl (lv_at hl 0 rfl) ?_
            refine lv_iload_n hx hb dX6_waysFrom_59 rfl (lv_at hl 1 rfl) ?_
            refine lv_iconst (v := 1) hx hb dX6_waysFrom_60 (by decide) ?_
            refine lv_iadd hx hb dX6_waysFrom_61 ?_
            refine lv_topi (fun x61 ex61 => ?_)
            have bx61 : iv x61 9 9 := iv_add c58_xp1 (show iv 1 1 1 from ⟨by decide, by decide⟩) ex61 (by decide)
            have qx61 := iv_add_eq c58_xp1 (show iv 1 1 1 from ⟨by decide, by decide⟩) ex61 (by decide)
            refine lv_iload_n hx hb dX6_waysFrom_62 rfl (lv_at hl 2 rfl) ?_
            refine hp_callei (va_runV (As := [.int x61, .int xp2]) (rest := [.int y58_s0]) ⟨hx, hb, hml, hown, hts⟩ (sX6_waysFrom_9 l D T ap0 x61 xp2 ip0 bx61) (cwV 2 hts gX6_waysFrom_X6_waysFrom rfl rfl rfl (by decide +kernel) ⟨Nat.le_of_ble_eq_true rfl, Nat.le_of_ble_eq_true rfl⟩) (hp_preV hG hw hp0 rfl trivial) rfl rfl hl.1 rfl (lv_room (Nat.le_of_ble_eq_true rfl)) dX6_waysFrom_63 ⟨Nat.zero_le _, Nat.zero_le _⟩) hw (fun x63 st63 t63 H63 locs63 eh63 eg63 bx63 hw => ?_)
            refine lv_imul hx hb dX6_waysFrom_66 ?_
            refine lv_topi (fun x66 ex66 => ?_)
            exact W.iret (v := x66) hx hb hr (fun t ht hW => ⟨some (.int x66), rfl, ⟨x66, rfl, trivial⟩, by rw [ht]; exact hw.1, hw.2.F ht⟩) hw.2.2.2 dX6_waysFrom_67
          refine lv_icmp_ne (tgt := 57) hx hb dX6_waysFrom_50 (by decide) (fun c50 => ?_) (fun c50 => ?_)
          · refine lv_iconst (v := 2) hx hb dX6_waysFrom_57 (by decide) ?_
            exact J58 (2 : Int32) bp1 (show iv 2 1 2 from ⟨by decide, by decide⟩) s.heap [] hw _ (lv_sub hl [2, 3, 4] rfl)
          · have r50fq : iv xp2 8 8 := (iv_both (iv_any xp2) (iv_eq bp1 c50.symm)).mono (by decide) (by decide)
            refine lv_iconst (v := 1) hx hb dX6_waysFrom_53 (by decide) ?_
            refine lv_goto (tgt := 58) hx hb dX6_waysFrom_54 (by decide) ?_
            exact J58 (1 : Int32) bp1 (show iv 1 1 2 from ⟨by decide, by decide⟩) s.heap [] hw _ (lv_sub hl [2, 3, 4] rfl)
    · have r9fp : iv x6 0 8 := (iv_le_l (iv_nlt c9) bx6 bp1).mono (by decide) (by decide)
      exact J12 s.heap [] hw _ (lv_sub hl [] rfl)
abbrev WX6_waysFrom_7 (p : Program) (l : Launch) (e : Env) (s : State) (m : MethodId) (below : List Frame) (meth : Method) (c : Code) (D : hp_D) (T : hp_T) (ap0 : Nat) (xp1 : Int32) (xp2 : Int32) (H : Heap) (locs : List Loc) (g : JFrame) : Prop := W p l e (headSpec wsX6_waysFrom ({ frames := 9, cells := 0, slots := 0, locals := 225 })).room s m ([.ref ap0, .int xp1, .int xp2] : List Value).toArray below meth c H locs 0 0 (MQ below (hq_e D T (fun v _ _ => ∃ r : Int32, v = some (.int r) ∧ True)) ([.ref ap0, .int xp1, .int xp2] : List Value).toArray s 0 0 (hp_F T)) g
set_option maxHeartbeats 4000000 in
set_option maxRecDepth 100000 in
theorem sX6_waysFrom_7 (l : Launch) (D : hp_D) (T : hp_T) (ap0 : Nat) (xp1 : Int32) (xp2 : Int32) (ip0 : isShuns T ap0) (bp1 : iv xp1 7 7) : Met l yX6_waysFrom wsX6_waysFrom ({ frames := 9, cells := 0, slots := 0, locals := 225 }) (hp_Pc D T [.ref ap0, .int xp1, .int xp2] (fun _ => True)) (hq_e D T (fun v _ _ => ∃ r : Int32, v = some (.int r) ∧ True)) 0 0 (hp_F T) := by
  obtain ⟨ap0le, ap0gr, ap0du, ap0it, ap0op, hp0, hp0le, hp0gr, hp0du, hp0it, hp0op⟩ := id ip0
  refine Met.ofW (cc := cX6_waysFrom) (maxL := 6) (ret := (some .int)) (by decide) rfl ?_
  intro p e s m args below meth c s₁ B hml hv
  obtain ⟨rfl, hok, hG, hB⟩ := hv
  have hx := B.exec
  have hb := B.bytes
  have hr := B.returns
  have hts := atoms_spec (ws := wsX6_waysFrom) B.pre
  have hown : s.vm.findClass RX6 = some m.cls := findClass_of_methodNamed B.named
  have hlocks := B.notSynchronized
  have hK := hG.1
  have hw : hp_w D T s s.heap [] := hp_w.rf hok
  have IX6 : ∀ w ∈ wsX60, w ∈ wsX6_waysFrom := by decide +kernel
  have L9 := hts (.fieldLink RX6 9 "PalmCensus$Shuns" "twos" "I") (by decide +kernel)
  have L15 := hts (.fieldLink RX6 15 "PalmCensus$Shuns" "lesser" "[I") (by decide +kernel)
  have L19 := hts (.fieldLink RX6 19 "PalmCensus$Shuns" "greater" "[I") (by decide +kernel)
  have L25 := hts (.fieldLink RX6 25 "PalmCensus$Shuns" "isTold" "[Z") (by decide +kernel)
  have L29 := hts (.fieldLink RX6 29 "PalmCensus$Shuns" "open" "[I") (by decide +kernel)
  have L22 := hts (.fieldLink RX6 22 "PalmCensus$Shuns" "due" "[I") (by decide +kernel)
  have hl := lv_entry ([.ref ap0, .int xp1, .int xp2]) (n := 6) (Nat.le_of_ble_eq_true rfl)
  rw [lg_entry_eq]
  generalize (lg_sl ([.ref ap0, .int xp1, .int xp2]) ++ List.replicate (6 - (lg_sl ([.ref ap0, .int xp1, .int xp2])).length) Slot.unset).toArray = ls at hl ⊢
  have hl : lv_has ls 6 [(0, .ref ap0), (1, .int xp1), (2, .int xp2)] := hl
  show WX6_waysFrom_7 p l e s m below meth c D T ap0 xp1 xp2 s.heap [] (F0 m 0 ls [])
  refine lv_iload_n hx hb dX6_waysFrom_0 rfl (lv_at hl 1 rfl) ?_
  have J12 : ∀ (H : Heap) (locs : List Loc), hp_w D T s H locs → ∀ (ls : Array Slot), lv_has ls 6 [] → WX6_waysFrom_7 p l e s m below meth c D T ap0 xp1 xp2 H locs (F0 m 12 ls []) := by
    intro H12 locs12 hw ls hl
    refine lv_iconst (v := 1) hx hb dX6_waysFrom_12 (by decide) ?_
    exact W.iret (v := 1) hx hb hr (fun t ht hW => ⟨some (.int 1), rfl, ⟨(1 : Int32), rfl, trivial⟩, by rw [ht]; exact hw.1, hw.2.F ht⟩) hw.2.2.2 dX6_waysFrom_13
  refine lv_if_lt (tgt := 12) hx hb dX6_waysFrom_1 (by decide) (fun c1 => ?_) (fun c1 => ?_)
  · exact iv_abs (iv_lt_l c1 bp1 (show iv 0 0 0 from ⟨by decide, by decide⟩)) (by decide)
  · refine lv_iload_n hx hb dX6_waysFrom_4 rfl (lv_at hl 1 rfl) ?_
    refine lv_aload_n hx hb dX6_waysFrom_5 rfl (lv_at hl 0 rfl) ?_
    refine hp_geti hx hb hts IX6 hown hK hw.1 hp0 rfl 0 (by decide) L9 rfl dX6_waysFrom_6 (fun x6 bx6 fx6 => ?_)
    refine lv_icmp_lt (tgt := 14) hx hb dX6_waysFrom_9 (by decide) (fun c9 => ?_) (fun c9 => ?_)
    · have r9tq : iv x6 8 16 := (iv_lt_r c9 bp1 bx6).mono (by decide) (by decide)
      refine lv_aload_n hx hb dX6_waysFrom_14 rfl (lv_at hl 0 rfl) ?_
      refine hp_getr hx hb hts IX6 hown hK hw.1 hp0 rfl 1 (by decide) L15 rfl dX6_waysFrom_15 ?_
      refine lv_iload_n hx hb dX6_waysFrom_18 rfl (lv_at hl 1 rfl) ?_
      refine hp_ialdI hx hb hK hw.1 hp0le (vp_iv bp1 (by decide)) dX6_waysFrom_19 (fun x19 bx19 => ?_)
      refine lv_istore_n (lv' := [(3, .int x19), (0, .ref ap0), (1, .int xp1), (2, .int xp2)]) hx hb dX6_waysFrom_20 rfl hl (by decide) rfl (fun ls hl => ?_)
      refine lv_aload_n hx hb dX6_waysFrom_21 rfl (lv_at hl 1 rfl) ?_
      refine hp_getr hx hb hts IX6 hown hK hw.1 hp0 rfl 2 (by decide) L19 rfl dX6_waysFrom_22 ?_
      refine lv_iload_n hx hb dX6_waysFrom_25 rfl (lv_at hl 2 rfl) ?_
      refine hp_ialdI hx hb hK hw.1 hp0gr (vp_iv bp1 (by decide)) dX6_waysFrom_26 (fun x26 bx26 => ?_)
      refine lv_istore (lv' := [(4, .int x26), (3, .int x19), (0, .ref ap0), (1, .int xp1), (2, .int xp2)]) hx hb dX6_waysFrom_27 hl (by decide) rfl (fun ls hl => ?_)
      refine lv_aload_n hx hb dX6_waysFrom_29 rfl (lv_at hl 2 rfl) ?_
      refine hp_getr hx hb hts IX6 hown hK hw.1 hp0 rfl 4 (by decide) L25 rfl dX6_waysFrom_30 ?_
      refine lv_iload_n hx hb dX6_waysFrom_33 rfl (lv_at hl 1 rfl) ?_
      refine hp_zaldA hx hb hK hw.1 hp0it (vp_iv bx19 (by decide)) dX6_waysFrom_34 (fun x34 => ?_)
      have J68 : iv xp1 7 7 → iv x19 0 9 → iv x26 0 9 → ∀ (H : Heap) (locs : List Loc), hp_w D T s H locs → ∀ (ls : Array Slot), lv_has ls 6 [(0, .ref ap0), (1, .int xp1), (2, .int xp2), (3, .int x19), (4, .int x26)] → WX6_waysFrom_7 p l e s m below meth c D T ap0 xp1 xp2 H locs (F0 m 68 ls []) := by
        intro c68_xp1 c68_x19 c68_x26 H68 locs68 hw ls hl
        refine lv_aload_n hx hb dX6_waysFrom_68 rfl (lv_at hl 0 rfl) ?_
        refine hp_getr hx hb hts IX6 hown hK hw.1 hp0 rfl 5 (by decide) L29 rfl dX6_waysFrom_69 ?_
        refine lv_iload_n hx hb dX6_waysFrom_72 rfl (lv_at hl 3 rfl) ?_
        refine lv_dup2_11 hx hb dX6_waysFrom_73 rfl rfl ?_
        refine hp_ialdA hx hb hK hw.1 hp0op (vp_iv c68_x19 (by decide)) dX6_waysFrom_74 (fun x74 => ?_)
        refine lv_iconst (v := 1) hx hb dX6_waysFrom_75 (by decide) ?_
        refine lv_isub hx hb dX6_waysFrom_76 ?_
        refine lv_topi (fun x76 ex76 => ?_)
        refine hp_iast hx hb hK hw hp0op (vp_iv c68_x19 (by decide)) ⟨_, rfl⟩ dX6_waysFrom_77 (fun H77 locs77 hw g77 => ?_)
        refine lv_aload_n hx hb dX6_waysFrom_78 rfl (lv_at hl 0 rfl) ?_
        refine hp_getr hx hb hts IX6 hown hK hw.1 hp0 rfl 5 (by decide) L29 rfl dX6_waysFrom_79 ?_
        refine lv_iload hx hb dX6_waysFrom_82 (lv_at hl 4 rfl) ?_
        refine lv_dup2_11 hx hb dX6_waysFrom_84 rfl rfl ?_
        refine hp_ialdA hx hb hK hw.1 hp0op (vp_iv c68_x26 (by decide)) dX6_waysFrom_85 (fun x85 => ?_)
        refine lv_iconst (v := 1) hx hb dX6_waysFrom_86 (by decide) ?_
        refine lv_isub hx hb dX6_waysFrom_87 ?_
        refine lv_topi (fun x87 ex87 => ?_)
        refine hp_iast hx hb hK hw hp0op (vp_iv c68_x26 (by decide)) ⟨_, rfl⟩ dX6_waysFrom_88 (fun H88 locs88 hw g88 => ?_)
        refine lv_iconst (v := 0) hx hb dX6_waysFrom_89 (by decide) ?_
        refine lv_istore (lv' := [(5, .int 0), (0, .ref ap0), (1, .int xp1), (2, .int xp2), (3, .int x19), (4, .int x26)]) hx hb dX6_waysFrom_90 hl (by decide) rfl (fun ls hl => ?_)
        refine lv_iload_n hx hb dX6_waysFrom_92 rfl (lv_at hl 2 rfl) ?_
        refine lv_iload_n hx hb dX6_waysFrom_93 rfl (lv_at hl 3 rfl) ?_
        have J127 : ∀ (y127_l5 : Int32), iv xp1 7 7 → iv x19 0 9 → iv x26 0 9 → ∀ (H : Heap) (locs : List Loc), hp_w D T s H locs → ∀ (ls : Array Slot), lv_has ls 6 [(0, .ref ap0), (1, .int xp1), (2, .int xp2), (3, .int x19), (4, .int x26), (5, .int y127_l5)] → WX6_waysFrom_7 p l e s m below meth c D T ap0 xp1 xp2 H locs (F0 m 127 ls []) := by
          intro y127_l5 c127_xp1 c127_x19 c127_x26 H127 locs127 hw ls hl
          refine lv_aload_n hx hb dX6_waysFrom_127 rfl (lv_at hl 0 rfl) ?_
          refine hp_getr hx hb hts IX6 hown hK hw.1 hp0 rfl 3 (by decide) L22 rfl dX6_waysFrom_128 ?_
          refine lv_iload_n hx hb dX6_waysFrom_131 rfl (lv_at hl 3 rfl) ?_
          refine lv_dup2_11 hx hb dX6_waysFrom_132 rfl rfl ?_
          refine hp_ialdA hx hb hK hw.1 hp0du (vp_iv c127_x19 (by decide)) dX6_waysFrom_133 (fun x133 => ?_)
          refine lv_iconst (v := 1) hx hb dX6_waysFrom_134 (by decide) ?_
          refine lv_isub hx hb dX6_waysFrom_135 ?_
          refine lv_topi (fun x135 ex135 => ?_)
          refine hp_iast hx hb hK hw hp0du (vp_iv c127_x19 (by decide)) ⟨_, rfl⟩ dX6_waysFrom_136 (fun H136 locs136 hw g136 => ?_)
          refine lv_aload_n hx hb dX6_waysFrom_137 rfl (lv_at hl 0 rfl) ?_
          refine hp_getr hx hb hts IX6 hown hK hw.1 hp0 rfl 3 (by decide) L22 rfl dX6_waysFrom_138 ?_
          refine lv_iload hx hb dX6_waysFrom_141 (lv_at hl 4 rfl) ?_
          refine lv_dup2_11 hx hb dX6_waysFrom_143 rfl rfl ?_
          refine hp_ialdA hx hb hK hw.1 hp0du (vp_iv c127_x26 (by decide)) dX6_waysFrom_144 (fun x144 => ?_)
          refine lv_iconst (v := 1) hx hb dX6_waysFrom_145 (by decide) ?_
          refine lv_isub hx hb dX6_waysFrom_146 ?_
          refine lv_topi (fun x146 ex146 => ?_)
          refine hp_iast hx hb hK hw hp0du (vp_iv c127_x26 (by decide)) ⟨_, rfl⟩ dX6_waysFrom_147 (fun H147 locs147 hw g147 => ?_)
          refine lv_aload_n hx hb dX6_waysFrom_148 rfl (lv_at hl 0 rfl) ?_
          refine lv_iload_n hx hb dX6_waysFrom_149 rfl (lv_at hl 3 rfl) ?_
          refine hp_callpi (va_runV (As := [.int x19]) (rest := []) ⟨hx, hb, hml, hown, hts⟩ (sX6_canStillBe l D T ap0 x19 ip0 c127_x19) (cwV 1 hts gX6_waysFrom_X6_canStillBe rfl rfl rfl (by decide +kernel) ⟨Nat.le_of_ble_eq_true rfl, Nat.le_of_ble_eq_true rfl⟩) (hp_preV hG hw hp0 rfl trivial) rfl rfl hl.1 rfl (lv_room (Nat.le_of_ble_eq_true rfl)) dX6_waysFrom_150 ⟨Nat.zero_le _, Nat.zero_le _⟩) (fun x150 bx150 => ?_)
          have J178 : ∀ (y178_l5 : Int32), iv x19 0 9 → iv x26 0 9 → ∀ (H : Heap) (locs : List Loc), hp_w D T s H locs → ∀ (ls : Array Slot), lv_has ls 6 [(0, .ref ap0), (3, .int x19), (4, .int x26), (5, .int y178_l5)] → WX6_waysFrom_7 p l e s m below meth c D T ap0 xp1 xp2 H locs (F0 m 178 ls []) := by
            intro y178_l5 c178_x19 c178_x26 H178 locs178 hw ls hl
            refine lv_aload_n hx hb dX6_waysFrom_178 rfl (lv_at hl 0 rfl) ?_
            refine hp_getr hx hb hts IX6 hown hK hw.1 hp0 rfl 3 (by decide) L22 rfl dX6_waysFrom_179 ?_
            refine lv_iload_n hx hb dX6_waysFrom_182 rfl (lv_at hl 1 rfl) ?_
            refine lv_dup2_11 hx hb dX6_waysFrom_183 rfl rfl ?_
            refine hp_ialdA hx hb hK hw.1 hp0du (vp_iv c178_x19 (by decide)) dX6_waysFrom_184 (fun x184 => ?_)
            refine lv_iconst (v := 1) hx hb dX6_waysFrom_185 (by decide) ?_
            refine lv_iadd hx hb dX6_waysFrom_186 ?_
            refine lv_topi (fun x186 ex186 => ?_)
            refine hp_iast hx hb hK hw hp0du (vp_iv c178_x19 (by decide)) ⟨_, rfl⟩ dX6_waysFrom_187 (fun H187 locs187 hw g187 => ?_)
            refine lv_aload_n hx hb dX6_waysFrom_188 rfl (lv_at hl 0 rfl) ?_
            refine hp_getr hx hb hts IX6 hown hK hw.1 hp0 rfl 3 (by decide) L22 rfl dX6_waysFrom_189 ?_
            refine lv_iload hx hb dX6_waysFrom_192 (lv_at hl 2 rfl) ?_
            refine lv_dup2_11 hx hb dX6_waysFrom_194 rfl rfl ?_
            refine hp_ialdA hx hb hK hw.1 hp0du (vp_iv c178_x26 (by decide)) dX6_waysFrom_195 (fun x195 => ?_)
            refine lv_iconst (v := 1) hx hb dX6_waysFrom_196 (by decide) ?_
            refine lv_iadd hx hb dX6_waysFrom_197 ?_
            refine lv_topi (fun x197 ex197 => ?_)
            refine hp_iast hx hb hK hw hp0du (vp_iv c178_x26 (by decide)) ⟨_, rfl⟩ dX6_waysFrom_198 (fun H198 locs198 hw g198 => ?_)
            refine lv_aload_n hx hb dX6_waysFrom_199 rfl (lv_at hl 0 rfl) ?_
            refine hp_getr hx hb hts IX6 hown hK hw.1 hp0 rfl 5 (by decide) L29 rfl dX6_waysFrom_200 ?_
            refine lv_iload_n hx hb dX6_waysFrom_203 rfl (lv_at hl 1 rfl) ?_
            refine lv_dup2_11 hx hb dX6_waysFrom_204 rfl rfl ?_
            refine hp_ialdA hx hb hK hw.1 hp0op (vp_iv c178_x19 (by decide)) dX6_waysFrom_205 (fun x205 => ?_)
            refine lv_iconst (v := 1) hx hb dX6_waysFrom_206 (by decide) ?_
            refine lv_iadd hx hb dX6_waysFrom_207 ?_
            refine lv_topi (fun x207 ex207 => ?_)
            refine hp_iast hx hb hK hw hp0op (vp_iv c178_x19 (by decide)) ⟨_, rfl⟩ dX6_waysFrom_208 (fun H208 locs208 hw g208 => ?_)
            refine lv_aload_n hx hb dX6_waysFrom_209 rfl (lv_at hl 0 rfl) ?_
            refine hp_getr hx hb hts IX6 hown hK hw.1 hp0 rfl 5 (by decide) L29 rfl dX6_waysFrom_210 ?_
            refine lv_iload hx hb dX6_waysFrom_213 (lv_at hl 2 rfl) ?_
            refine lv_dup2_11 hx hb dX6_waysFrom_215 rfl rfl ?_
            refine hp_ialdA hx hb hK hw.1 hp0op (vp_iv c178_x26 (by decide)) dX6_waysFrom_216 (fun x216 => ?_)
            refine lv_iconst (v := 1) hx hb dX6_waysFrom_217 (by decide) ?_
            refine lv_iadd hx hb dX6_waysFrom_218 ?_
            refine lv_topi (fun x218 ex218 => ?_)
            refine hp_iast hx hb hK hw hp0op (vp_iv c178_x26 (by decide)) ⟨_, rfl⟩ dX6_waysFrom_219 (fun H219 locs219 hw g219 => ?_)
            refine lv_iload hx hb dX6_waysFrom_220 (lv_at hl 3 rfl) ?_
            exact W.iret (v := y178_l5) hx hb hr (fun t ht hW => ⟨some (.int y178_l5), rfl, ⟨y178_l5, rfl, trivial⟩, by rw [ht]; exact hw.1, hw.2.F ht⟩) hw.2.2.2 dX6_waysFrom_222
          refine lv_if_eq (tgt := 178) hx hb dX6_waysFrom_153 (by decide) (fun c153 => ?_) (fun c153 => ?_)
          · have r153tp : iv x150 0 0 := (iv_both bx150 (iv_eq (show iv 0 0 0 from ⟨by decide, by decide⟩) c153)).mono (by decide) (by decide)
            exact J178 y127_l5 c127_x19 c127_x26 H147 locs147 hw _ (lv_sub hl [0, 3, 4, 5] rfl)
          · have r153fp : iv x150 1 1 := (iv_ne_lo c153 bx150 rfl).mono (by decide) (by decide)
            refine lv_aload_n hx hb dX6_waysFrom_156 rfl (lv_at hl 0 rfl) ?_
            refine lv_iload hx hb dX6_waysFrom_157 (lv_at hl 4 rfl) ?_
            refine hp_callpi (va_runV (As := [.int x26]) (rest := []) ⟨hx, hb, hml, hown, hts⟩ (sX6_canStillBe l D T ap0 x26 ip0 c127_x26) (cwV 1 hts gX6_waysFrom_X6_canStillBe rfl rfl rfl (by decide +kernel) ⟨Nat.le_of_ble_eq_true rfl, Nat.le_of_ble_eq_true rfl⟩) (hp_preV hG hw hp0 rfl trivial) rfl rfl hl.1 rfl (lv_room (Nat.le_of_ble_eq_true rfl)) dX6_waysFrom_159 ⟨Nat.zero_le _, Nat.zero_le _⟩) (fun x159 bx159 => ?_)
            refine lv_if_eq (tgt := 178) hx hb dX6_waysFrom_162 (by decide) (fun c162 => ?_) (fun c162 => ?_)
            · have r162tp : iv x159 0 0 := (iv_both bx159 (iv_eq (show iv 0 0 0 from ⟨by decide, by decide⟩) c162)).mono (by decide) (by decide)
              exact J178 y127_l5 c127_x19 c127_x26 H147 locs147 hw _ (lv_sub hl [0, 3, 4, 5] rfl)
            · have r162fp : iv x159 1 1 := (iv_ne_lo c162 bx159 rfl).mono (by decide) (by decide)
              refine lv_iload hx hb dX6_waysFrom_165 (lv_at hl 5 rfl) ?_
              refine lv_aload_n hx hb dX6_waysFrom_167 rfl (lv_at hl 0 rfl) ?_
              refine lv_iload_n hx hb dX6_waysFrom_168 rfl (lv_at hl 1 rfl) ?_
              refine lv_iconst (v := 1) hx hb dX6_waysFrom_169 (by decide) ?_
              refine lv_iadd hx hb dX6_waysFrom_170 ?_
              refine lv_topi (fun x170 ex170 => ?_)
              have bx170 : iv x170 8 8 := iv_add c127_xp1 (show iv 1 1 1 from ⟨by decide, by decide⟩) ex170 (by decide)
              have qx170 := iv_add_eq c127_xp1 (show iv 1 1 1 from ⟨by decide, by decide⟩) ex170 (by decide)
              refine lv_iload_n hx hb dX6_waysFrom_171 rfl (lv_at hl 2 rfl) ?_
              refine hp_callei (va_runV (As := [.int x170, .int xp2]) (rest := [.int y127_l5]) ⟨hx, hb, hml, hown, hts⟩ (sX6_waysFrom_8 l D T ap0 x170 xp2 ip0 bx170) (cwV 2 hts gX6_waysFrom_X6_waysFrom rfl rfl rfl (by decide +kernel) ⟨Nat.le_of_ble_eq_true rfl, Nat.le_of_ble_eq_true rfl⟩) (hp_preV hG hw hp0 rfl trivial) rfl rfl hl.1 rfl (lv_room (Nat.le_of_ble_eq_true rfl)) dX6_waysFrom_172 ⟨Nat.zero_le _, Nat.zero_le _⟩) hw (fun x172 st172 t172 H172 locs172 eh172 eg172 bx172 hw => ?_)
              refine lv_iadd hx hb dX6_waysFrom_175 ?_
              refine lv_topi (fun x175 ex175 => ?_)
              refine lv_istore (lv' := [(5, .int x175), (0, .ref ap0), (1, .int xp1), (2, .int xp2), (3, .int x19), (4, .int x26)]) hx hb dX6_waysFrom_176 hl (by decide) rfl (fun ls hl => ?_)
              exact J178 x175 c127_x19 c127_x26 H172 locs172 hw _ (lv_sub hl [1, 4, 5, 0] rfl)
        refine lv_icmp_eq (tgt := 127) hx hb dX6_waysFrom_94 (by decide) (fun c94 => ?_) (fun c94 => ?_)
        · have r94tq : iv xp2 7 7 := (iv_both (iv_any xp2) (iv_eq c68_xp1 c94.symm)).mono (by decide) (by decide)
          exact J127 (0 : Int32) c68_xp1 c68_x19 c68_x26 H88 locs88 hw _ (lv_sub hl [1, 2, 3, 4, 5, 0] rfl)
        · refine lv_aload_n hx hb dX6_waysFrom_97 rfl (lv_at hl 1 rfl) ?_
          refine lv_iload_n hx hb dX6_waysFrom_98 rfl (lv_at hl 4 rfl) ?_
          refine hp_callpi (va_runV (As := [.int x19]) (rest := []) ⟨hx, hb, hml, hown, hts⟩ (sX6_canStillBe l D T ap0 x19 ip0 c68_x19) (cwV 1 hts gX6_waysFrom_X6_canStillBe rfl rfl rfl (by decide +kernel) ⟨Nat.le_of_ble_eq_true rfl, Nat.le_of_ble_eq_true rfl⟩) (hp_preV hG hw hp0 rfl trivial) rfl rfl hl.1 rfl (lv_room (Nat.le_of_ble_eq_true rfl)) dX6_waysFrom_99 ⟨Nat.zero_le _, Nat.zero_le _⟩) (fun x99 bx99 => ?_)
          refine lv_if_eq (tgt := 127) hx hb dX6_waysFrom_102 (by decide) (fun c102 => ?_) (fun c102 => ?_)
          · have r102tp : iv x99 0 0 := (iv_both bx99 (iv_eq (show iv 0 0 0 from ⟨by decide, by decide⟩) c102)).mono (by decide) (by decide)
            exact J127 (0 : Int32) c68_xp1 c68_x19 c68_x26 H88 locs88 hw _ (lv_sub hl [1, 2, 3, 4, 5, 0] rfl)
          · have r102fp : iv x99 1 1 := (iv_ne_lo c102 bx99 rfl).mono (by decide) (by decide)
            refine lv_aload_n hx hb dX6_waysFrom_105 rfl (lv_at hl 1 rfl) ?_
            refine lv_iload hx hb dX6_waysFrom_106 (lv_at hl 5 rfl) ?_
            refine hp_callpi (va_runV (As := [.int x26]) (rest := []) ⟨hx, hb, hml, hown, hts⟩ (sX6_canStillBe l D T ap0 x26 ip0 c68_x26) (cwV 1 hts gX6_waysFrom_X6_canStillBe rfl rfl rfl (by decide +kernel) ⟨Nat.le_of_ble_eq_true rfl, Nat.le_of_ble_eq_true rfl⟩) (hp_preV hG hw hp0 rfl trivial) rfl rfl hl.1 rfl (lv_room (Nat.le_of_ble_eq_true rfl)) dX6_waysFrom_108 ⟨Nat.zero_le _, Nat.zero_le _⟩) (fun x108 bx108 => ?_)
            refine lv_if_eq (tgt := 127) hx hb dX6_waysFrom_111 (by decide) (fun c111 => ?_) (fun c111 => ?_)
            · have r111tp : iv x108 0 0 := (iv_both bx108 (iv_eq (show iv 0 0 0 from ⟨by decide, by decide⟩) c111)).mono (by decide) (by decide)
              exact J127 (0 : Int32) c68_xp1 c68_x19 c68_x26 H88 locs88 hw _ (lv_sub hl [1, 2, 3, 4, 5, 0] rfl)
            · have r111fp : iv x108 1 1 := (iv_ne_lo c111 bx108 rfl).mono (by decide) (by decide)
              refine lv_iload hx hb dX6_waysFrom_114 (lv_at hl 0 rfl) ?_
              refine lv_aload_n hx hb dX6_waysFrom_116 rfl (lv_at hl 1 rfl) ?_
              refine lv_iload_n hx hb dX6_waysFrom_117 rfl (lv_at hl 2 rfl) ?_
              refine lv_iconst (v := 1) hx hb dX6_waysFrom_118 (by decide) ?_
              refine lv_iadd hx hb dX6_waysFrom_119 ?_
              refine lv_topi (fun x119 ex119 => ?_)
              have bx119 : iv x119 8 8 := iv_add c68_xp1 (show iv 1 1 1 from ⟨by decide, by decide⟩) ex119 (by decide)
              have qx119 := iv_add_eq c68_xp1 (show iv 1 1 1 from ⟨by decide, by decide⟩) ex119 (by decide)
              refine lv_iload_n hx hb dX6_waysFrom_120 rfl (lv_at hl 3 rfl) ?_
              refine hp_callei (va_runV (As := [.int x119, .int xp2]) (rest := [.int 0]) ⟨hx, hb, hml, hown, hts⟩ (sX6_waysFrom_8 l D T ap0 x119 xp2 ip0 bx119) (cwV 2 hts gX6_waysFrom_X6_waysFrom rfl rfl rfl (by decide +kernel) ⟨Nat.le_of_ble_eq_true rfl, Nat.le_of_ble_eq_true rfl⟩) (hp_preV hG hw hp0 rfl trivial) rfl rfl hl.1 rfl (lv_room (Nat.le_of_ble_eq_true rfl)) dX6_waysFrom_121 ⟨Nat.zero_le _, Nat.zero_le _⟩) hw (fun x121 st121 t121 H121 locs121 eh121 eg121 bx121 hw => ?_)
              refine lv_iadd hx hb dX6_waysFrom_124 ?_
              refine lv_topi (fun x124 ex124 => ?_)
              have qx124 := iv_add_eq (show iv 0 0 0 from ⟨by decide, by decide⟩) (iv_any x121) ex124 (by decide)
              refine lv_istore (lv' := [(5, .int x124), (0, .ref ap0), (1, .int xp1), (2, .int xp2), (3, .int x19), (4, .int x26)]) hx hb dX6_waysFrom_125 hl (by decide) rfl (fun ls hl => ?_)
              exact J127 x124 c68_xp1 c68_x19 c68_x26 H121 locs121 hw _ (lv_sub hl [1, 2, 3, 4, 5, 0] rfl)
      refine lv_if_ne (tgt := 68) hx hb dX6_waysFrom_35 (by decide) (fun c35 => ?_) (fun c35 => ?_)
      · exact J68 bp1 bx19 bx26 s.heap [] hw _ (lv_sub hl [2, 3, 4, 1, 0] rfl)
      · have r35fp : iv x34 0 0 := (iv_both (iv_any x34) (iv_eq (show iv 0 0 0 from ⟨by decide, by decide⟩) c35)).mono (by decide) (by decide)
        refine lv_aload_n hx hb dX6_waysFrom_38 rfl (lv_at hl 2 rfl) ?_
        refine hp_getr hx hb hts IX6 hown hK hw.1 hp0 rfl 4 (by decide) L25 rfl dX6_waysFrom_39 ?_
        refine lv_iload hx hb dX6_waysFrom_42 (lv_at hl 0 rfl) ?_
        refine hp_zaldA hx hb hK hw.1 hp0it (vp_iv bx26 (by decide)) dX6_waysFrom_44 (fun x44 => ?_)
        refine lv_if_ne (tgt := 68) hx hb dX6_waysFrom_45 (by decide) (fun c45 => ?_) (fun c45 => ?_)
        · exact J68 bp1 bx19 bx26 s.heap [] hw _ (lv_sub hl [2, 3, 4, 1, 0] rfl)
        · have r45fp : iv x44 0 0 := (iv_both (iv_any x44) (iv_eq (show iv 0 0 0 from ⟨by decide, by decide⟩) c45)).mono (by decide) (by decide)
          refine lv_iload_n hx hb dX6_waysFrom_48 rfl (lv_at hl 3 rfl) ?_
          refine lv_iload_n hx hb dX6_waysFrom_49 rfl (lv_at hl 4 rfl) ?_
          have J58 : ∀ (y58_s0 : Int32), iv xp1 7 7 → iv y58_s0 1 2 → ∀ (H : Heap) (locs : List Loc), hp_w D T s H locs → ∀ (ls : Array Slot), lv_has ls 6 [(0, .ref ap0), (1, .int xp1), (2, .int xp2)] → WX6_waysFrom_7 p l e s m below meth c D T ap0 xp1 xp2 H locs (F0 m 58 ls [.int y58_s0]) := by
            intro y58_s0 c58_xp1 c58_y58_s0 H58 locs58 hw ls hl
            refine lv_aload_n hx hb dX6_waysFrom_58 rfl (lv_at hl 0 rfl) ?_
            refine lv_iload_n hx hb dX6_waysFrom_59 rfl (lv_at hl 1 rfl) ?_
            refine lv_iconst (v := 1) hx hb dX6_waysFrom_60 (by decide) ?_
            refine lv_iadd hx hb dX6_waysFrom_61 ?_
            refine lv_topi (fun x61 ex61 => ?_)
            have bx61 : iv x61 8 8 := iv_add c58_xp1 (show iv 1 1 1 from ⟨by decide, by decide⟩) ex61 (by decide)
            have qx61 := iv_add_eq c58_xp1 (show iv 1 1 1 from ⟨by decide, by decide⟩) ex61 (by decide)
            refine lv_iload_n hx hb dX6_waysFrom_62 rfl (lv_at hl 2 rfl) ?_
            refine hp_callei (va_runV (As := [.int x61, .int xp2]) (rest := [.int y58_s0]) ⟨hx, hb, hml, hown, hts⟩ (sX6_waysFrom_8 l D T ap0 x61 xp2 ip0 bx61) (cwV 2 hts gX6_waysFrom_X6_waysFrom rfl rfl rfl (by decide +kernel) ⟨Nat.le_of_ble_eq_true rfl, Nat.le_of_ble_eq_true rfl⟩) (hp_preV hG hw hp0 rfl trivial) rfl rfl hl.1 rfl (lv_room (Nat.le_of_ble_eq_true rfl)) dX6_waysFrom_63 ⟨Nat.zero_le _, Nat.zero_le _⟩) hw (fun x63 st63 t63 H63 locs63 eh63 eg63 bx63 hw => ?_)
            refine lv_imul hx hb dX6_waysFrom_66 ?_
            refine lv_topi (fun x66 ex66 => ?_)
            exact W.iret (v := x66) hx hb hr (fun t ht hW => ⟨some (.int x66), rfl, ⟨x66, rfl, trivial⟩, by rw [ht]; exact hw.1, hw.2.F ht⟩) hw.2.2.2 dX6_waysFrom_67
          refine lv_icmp_ne (tgt := 57) hx hb dX6_waysFrom_50 (by decide) (fun c50 => ?_) (fun c50 => ?_)
          · refine lv_iconst (v := 2) hx hb dX6_waysFrom_57 (by decide) ?_
            exact J58 (2 : Int32) bp1 (show iv 2 1 2 from ⟨by decide, by decide⟩) s.heap [] hw _ (lv_sub hl [2, 3, 4] rfl)
          · have r50fq : iv xp2 7 7 := (iv_both (iv_any xp2) (iv_eq bp1 c50.symm)).mono (by decide) (by decide)
            refine lv_iconst (v := 1) hx hb dX6_waysFrom_53 (by decide) ?_
            refine lv_goto (tgt := 58) hx hb dX6_waysFrom_54 (by decide) ?_
            exact J58 (1 : Int32) bp1 (show iv 1 1 2 from ⟨by decide, by decide⟩) s.heap [] hw _ (lv_sub hl [2, 3, 4] rfl)
    · have r9fp : iv x6 0 7 := (iv_le_l (iv_nlt c9) bx6 bp1).mono (by decide) (by decide)
      exact J12 s.heap [] hw _ (lv_sub hl [] rfl)
abbrev WX6_waysFrom_6 (p : Program) (l : Launch) (e : Env) (s : State) (m : MethodId) (below : List Frame) (meth : Method) (c : Code) (D : hp_D) (T : hp_T) (ap0 : Nat) (xp1 : Int32) (xp2 : Int32) (H : Heap) (locs : List Loc) (g : JFrame) : Prop := W p l e (headSpec wsX6_waysFrom ({ frames := 10, cells := 0, slots := 0, locals := 250 })).room s m ([.ref ap0, .int xp1, .int xp2] : List Value).toArray below meth c H locs 0 0 (MQ below (hq_e D T (fun v _ _ => ∃ r : Int32, v = some (.int r) ∧ True)) ([.ref ap0, .int xp1, .int xp2] : List Value).toArray s 0 0 (hp_F T)) g
set_option maxHeartbeats 4000000 in
set_option maxRecDepth 100000 in
theorem sX6_waysFrom_6 (l : Launch) (D : hp_D) (T : hp_T) (ap0 : Nat) (xp1 : Int32) (xp2 : Int32) (ip0 : isShuns T ap0) (bp1 : iv xp1 6 6) : Met l yX6_waysFrom wsX6_waysFrom ({ frames := 10, cells := 0, slots := 0, locals := 250 }) (hp_Pc D T [.ref ap0, .int xp1, .int xp2] (fun _ => True)) (hq_e D T (fun v _ _ => ∃ r : Int32, v = some (.int r) ∧ True)) 0 0 (hp_F T) := by
  obtain ⟨ap0le, ap0gr, ap0du, ap0it, ap0op, hp0, hp0le, hp0gr, hp0du, hp0it, hp0op⟩ := id ip0
  refine Met.ofW (cc := cX6_waysFrom) (maxL := 6) (ret := (some .int)) (by decide) rfl ?_
  intro p e s m args below meth c s₁ B hml hv
  obtain ⟨rfl, hok, hG, hB⟩ := hv
  have hx := B.exec
  have hb := B.bytes
  have hr := B.returns
  have hts := atoms_spec (ws := wsX6_waysFrom) B.pre
  have hown : s.vm.findClass RX6 = some m.cls := findClass_of_methodNamed B.named
  have hlocks := B.notSynchronized
  have hK := hG.1
  have hw : hp_w D T s s.heap [] := hp_w.rf hok
  have IX6 : ∀ w ∈ wsX60, w ∈ wsX6_waysFrom := by decide +kernel
  have L9 := hts (.fieldLink RX6 9 "PalmCensus$Shuns" "twos" "I") (by decide +kernel)
  have L15 := hts (.fieldLink RX6 15 "PalmCensus$Shuns" "lesser" "[I") (by decide +kernel)
  have L19 := hts (.fieldLink RX6 19 "PalmCensus$Shuns" "greater" "[I") (by decide +kernel)
  have L25 := hts (.fieldLink RX6 25 "PalmCensus$Shuns" "isTold" "[Z") (by decide +kernel)
  have L29 := hts (.fieldLink RX6 29 "PalmCensus$Shuns" "open" "[I") (by decide +kernel)
  have L22 := hts (.fieldLink RX6 22 "PalmCensus$Shuns" "due" "[I") (by decide +kernel)
  have hl := lv_entry ([.ref ap0, .int xp1, .int xp2]) (n := 6) (Nat.le_of_ble_eq_true rfl)
  rw [lg_entry_eq]
  generalize (lg_sl ([.ref ap0, .int xp1, .int xp2]) ++ List.replicate (6 - (lg_sl ([.ref ap0, .int xp1, .int xp2])).length) Slot.unset).toArray = ls at hl ⊢
  have hl : lv_has ls 6 [(0, .ref ap0), (1, .int xp1), (2, .int xp2)] := hl
  show WX6_waysFrom_6 p l e s m below meth c D T ap0 xp1 xp2 s.heap [] (F0 m 0 ls [])
  refine lv_iload_n hx hb dX6_waysFrom_0 rfl (lv_at hl 1 rfl) ?_
  have J12 : ∀ (H : Heap) (locs : List Loc), hp_w D T s H locs → ∀ (ls : Array Slot), lv_has ls 6 [] → WX6_waysFrom_6 p l e s m below meth c D T ap0 xp1 xp2 H locs (F0 m 12 ls []) := by
    intro H12 locs12 hw ls hl
    refine lv_iconst (v := 1) hx hb dX6_waysFrom_12 (by decide) ?_
    exact W.iret (v := 1) hx hb hr (fun t ht hW => ⟨some (.int 1), rfl, ⟨(1 : Int32), rfl, trivial⟩, by rw [ht]; exact hw.1, hw.2.F ht⟩) hw.2.2.2 dX6_waysFrom_13
  refine lv_if_lt (tgt := 12) hx hb dX6_waysFrom_1 (by decide) (fun c1 => ?_) (fun c1 => ?_)
  · exact iv_abs (iv_lt_l c1 bp1 (show iv 0 0 0 from ⟨by decide, by decide⟩)) (by decide)
  · refine lv_iload_n hx hb dX6_waysFrom_4 rfl (lv_at hl 1 rfl) ?_
    refine lv_aload_n hx hb dX6_waysFrom_5 rfl (lv_at hl 0 rfl) ?_
    refine hp_geti hx hb hts IX6 hown hK hw.1 hp0 rfl 0 (by decide) L9 rfl dX6_waysFrom_6 (fun x6 bx6 fx6 => ?_)
    refine lv_icmp_lt (tgt := 14) hx hb dX6_waysFrom_9 (by decide) (fun c9 => ?_) (fun c9 => ?_)
    · have r9tq : iv x6 7 16 := (iv_lt_r c9 bp1 bx6).mono (by decide) (by decide)
      refine lv_aload_n hx hb dX6_waysFrom_14 rfl (lv_at hl 0 rfl) ?_
      refine hp_getr hx hb hts IX6 hown hK hw.1 hp0 rfl 1 (by decide) L15 rfl dX6_waysFrom_15 ?_
      refine lv_iload_n hx hb dX6_waysFrom_18 rfl (lv_at hl 1 rfl) ?_
      refine hp_ialdI hx hb hK hw.1 hp0le (vp_iv bp1 (by decide)) dX6_waysFrom_19 (fun x19 bx19 => ?_)
      refine lv_istore_n (lv' := [(3, .int x19), (0, .ref ap0), (1, .int xp1), (2, .int xp2)]) hx hb dX6_waysFrom_20 rfl hl (by decide) rfl (fun ls hl => ?_)
      refine lv_aload_n hx hb dX6_waysFrom_21 rfl (lv_at hl 1 rfl) ?_
      refine hp_getr hx hb hts IX6 hown hK hw.1 hp0 rfl 2 (by decide) L19 rfl dX6_waysFrom_22 ?_
      refine lv_iload_n hx hb dX6_waysFrom_25 rfl (lv_at hl 2 rfl) ?_
      refine hp_ialdI hx hb hK hw.1 hp0gr (vp_iv bp1 (by decide)) dX6_waysFrom_26 (fun x26 bx26 => ?_)
      refine lv_istore (lv' := [(4, .int x26), (3, .int x19), (0, .ref ap0), (1, .int xp1), (2, .int xp2)]) hx hb dX6_waysFrom_27 hl (by decide) rfl (fun ls hl => ?_)
      refine lv_aload_n hx hb dX6_waysFrom_29 rfl (lv_at hl 2 rfl) ?_
      refine hp_getr hx hb hts IX6 hown hK hw.1 hp0 rfl 4 (by decide) L25 rfl dX6_waysFrom_30 ?_
      refine lv_iload_n hx hb dX6_waysFrom_33 rfl (lv_at hl 1 rfl) ?_
      refine hp_zaldA hx hb hK hw.1 hp0it (vp_iv bx19 (by decide)) dX6_waysFrom_34 (fun x34 => ?_)
      have J68 : iv xp1 6 6 → iv x19 0 9 → iv x26 0 9 → ∀ (H : Heap) (locs : List Loc), hp_w D T s H locs → ∀ (ls : Array Slot), lv_has ls 6 [(0, .ref ap0), (1, .int xp1), (2, .int xp2), (3, .int x19), (4, .int x26)] → WX6_waysFrom_6 p l e s m below meth c D T ap0 xp1 xp2 H locs (F0 m 68 ls []) := by
        intro c68_xp1 c68_x19 c68_x26 H68 locs68 hw ls hl
        refine lv_aload_n hx hb dX6_waysFrom_68 rfl (lv_at hl 0 rfl) ?_
        refine hp_getr hx hb hts IX6 hown hK hw.1 hp0 rfl 5 (by decide) L29 rfl dX6_waysFrom_69 ?_
        refine lv_iload_n hx hb dX6_waysFrom_72 rfl (lv_at hl 3 rfl) ?_
        refine lv_dup2_11 hx hb dX6_waysFrom_73 rfl rfl ?_
        refine hp_ialdA hx hb hK hw.1 hp0op (vp_iv c68_x19 (by decide)) dX6_waysFrom_74 (fun x74 => ?_)
        refine lv_iconst (v := 1) hx hb dX6_waysFrom_75 (by decide) ?_
        refine lv_isub hx hb dX6_waysFrom_76 ?_
        refine lv_topi (fun x76 ex76 => ?_)
        refine hp_iast hx hb hK hw hp0op (vp_iv c68_x19 (by decide)) ⟨_, rfl⟩ dX6_waysFrom_77 (fun H77 locs77 hw g77 => ?_)
        refine lv_aload_n hx hb dX6_waysFrom_78 rfl (lv_at hl 0 rfl) ?_
        refine hp_getr hx hb hts IX6 hown hK hw.1 hp0 rfl 5 (by decide) L29 rfl dX6_waysFrom_79 ?_
        refine lv_iload hx hb dX6_waysFrom_82 (lv_at hl 4 rfl) ?_
        refine lv_dup2_11 hx hb dX6_waysFrom_84 rfl rfl ?_
        refine hp_ialdA hx hb hK hw.1 hp0op (vp_iv c68_x26 (by decide)) dX6_waysFrom_85 (fun x85 => ?_)
        refine lv_iconst (v := 1) hx hb dX6_waysFrom_86 (by decide) ?_
        refine lv_isub hx hb dX6_waysFrom_87 ?_
        refine lv_topi (fun x87 ex87 => ?_)
        refine hp_iast hx hb hK hw hp0op (vp_iv c68_x26 (by decide)) ⟨_, rfl⟩ dX6_waysFrom_88 (fun H88 locs88 hw g88 => ?_)
        refine lv_iconst (v := 0) hx hb dX6_waysFrom_89 (by decide) ?_
        refine lv_istore (lv' := [(5, .int 0), (0, .ref ap0), (1, .int xp1), (2, .int xp2), (3, .int x19), (4, .int x26)]) hx hb dX6_waysFrom_90 hl (by decide) rfl (fun ls hl => ?_)
        refine lv_iload_n hx hb dX6_waysFrom_92 rfl (lv_at hl 2 rfl) ?_
        refine lv_iload_n hx hb dX6_waysFrom_93 rfl (lv_at hl 3 rfl) ?_
        have J127 : ∀ (y127_l5 : Int32), iv xp1 6 6 → iv x19 0 9 → iv x26 0 9 → ∀ (H : Heap) (locs : List Loc), hp_w D T s H locs → ∀ (ls : Array Slot), lv_has ls 6 [(0, .ref ap0), (1, .int xp1), (2, .int xp2), (3, .int x19), (4, .int x26), (5, .int y127_l5)] → WX6_waysFrom_6 p l e s m below meth c D T ap0 xp1 xp2 H locs (F0 m 127 ls []) := by
          intro y127_l5 c127_xp1 c127_x19 c127_x26 H127 locs127 hw ls hl
          refine lv_aload_n hx hb dX6_waysFrom_127 rfl (lv_at hl 0 rfl) ?_
          refine hp_getr hx hb hts IX6 hown hK hw.1 hp0 rfl 3 (by decide) L22 rfl dX6_waysFrom_128 ?_
          refine lv_iload_n hx hb dX6_waysFrom_131 rfl (lv_at hl 3 rfl) ?_
          refine lv_dup2_11 hx hb dX6_waysFrom_132 rfl rfl ?_
          refine hp_ialdA hx hb hK hw.1 hp0du (vp_iv c127_x19 (by decide)) dX6_waysFrom_133 (fun x133 => ?_)
          refine lv_iconst (v := 1) hx hb dX6_waysFrom_134 (by decide) ?_
          refine lv_isub hx hb dX6_waysFrom_135 ?_
          refine lv_topi (fun x135 ex135 => ?_)
          refine hp_iast hx hb hK hw hp0du (vp_iv c127_x19 (by decide)) ⟨_, rfl⟩ dX6_waysFrom_136 (fun H136 locs136 hw g136 => ?_)
          refine lv_aload_n hx hb dX6_waysFrom_137 rfl (lv_at hl 0 rfl) ?_
          refine hp_getr hx hb hts IX6 hown hK hw.1 hp0 rfl 3 (by decide) L22 rfl dX6_waysFrom_138 ?_
          refine lv_iload hx hb dX6_waysFrom_141 (lv_at hl 4 rfl) ?_
          refine lv_dup2_11 hx hb dX6_waysFrom_143 rfl rfl ?_
          refine hp_ialdA hx hb hK hw.1 hp0du (vp_iv c127_x26 (by decide)) dX6_waysFrom_144 (fun x144 => ?_)
          refine lv_iconst (v := 1) hx hb dX6_waysFrom_145 (by decide) ?_
          refine lv_isub hx hb dX6_waysFrom_146 ?_
          refine lv_topi (fun x146 ex146 => ?_)
          refine hp_iast hx hb hK hw hp0du (vp_iv c127_x26 (by decide)) ⟨_, rfl⟩ dX6_waysFrom_147 (fun H147 locs147 hw g147 => ?_)
          refine lv_aload_n hx hb dX6_waysFrom_148 rfl (lv_at hl 0 rfl) ?_
          refine lv_iload_n hx hb dX6_waysFrom_149 rfl (lv_at hl 3 rfl) ?_
          refine hp_callpi (va_runV (As := [.int x19]) (rest := []) ⟨hx, hb, hml, hown, hts⟩ (sX6_canStillBe l D T ap0 x19 ip0 c127_x19) (cwV 1 hts gX6_waysFrom_X6_canStillBe rfl rfl rfl (by decide +kernel) ⟨Nat.le_of_ble_eq_true rfl, Nat.le_of_ble_eq_true rfl⟩) (hp_preV hG hw hp0 rfl trivial) rfl rfl hl.1 rfl (lv_room (Nat.le_of_ble_eq_true rfl)) dX6_waysFrom_150 ⟨Nat.zero_le _, Nat.zero_le _⟩) (fun x150 bx150 => ?_)
          have J178 : ∀ (y178_l5 : Int32), iv x19 0 9 → iv x26 0 9 → ∀ (H : Heap) (locs : List Loc), hp_w D T s H locs → ∀ (ls : Array Slot), lv_has ls 6 [(0, .ref ap0), (3, .int x19), (4, .int x26), (5, .int y178_l5)] → WX6_waysFrom_6 p l e s m below meth c D T ap0 xp1 xp2 H locs (F0 m 178 ls []) := by
            intro y178_l5 c178_x19 c178_x26 H178 locs178 hw ls hl
            refine lv_aload_n hx hb dX6_waysFrom_178 rfl (lv_at hl 0 rfl) ?_
            refine hp_getr hx hb hts IX6 hown hK hw.1 hp0 rfl 3 (by decide) L22 rfl dX6_waysFrom_179 ?_
            refine lv_iload_n hx hb dX6_waysFrom_182 rfl (lv_at hl 1 rfl) ?_
            refine lv_dup2_11 hx hb dX6_waysFrom_183 rfl rfl ?_
            refine hp_ialdA hx hb hK hw.1 hp0du (vp_iv c178_x19 (by decide)) dX6_waysFrom_184 (fun x184 => ?_)
            refine lv_iconst (v := 1) hx hb dX6_waysFrom_185 (by decide) ?_
            refine lv_iadd hx hb dX6_waysFrom_186 ?_
            refine lv_topi (fun x186 ex186 => ?_)
            refine hp_iast hx hb hK hw hp0du (vp_iv c178_x19 (by decide)) ⟨_, rfl⟩ dX6_waysFrom_187 (fun H187 locs187 hw g187 => ?_)
            refine lv_aload_n hx hb dX6_waysFrom_188 rfl (lv_at hl 0 rfl) ?_
            refine hp_getr hx hb hts IX6 hown hK hw.1 hp0 rfl 3 (by decide) L22 rfl dX6_waysFrom_189 ?_
            refine lv_iload hx hb dX6_waysFrom_192 (lv_at hl 2 rfl) ?_
            refine lv_dup2_11 hx hb dX6_waysFrom_194 rfl rfl ?_
            refine hp_ialdA hx hb hK hw.1 hp0du (vp_iv c178_x26 (by decide)) dX6_waysFrom_195 (fun x195 => ?_)
            refine lv_iconst (v := 1) hx hb dX6_waysFrom_196 (by decide) ?_
            refine lv_iadd hx hb dX6_waysFrom_197 ?_
            refine lv_topi (fun x197 ex197 => ?_)
            refine hp_iast hx hb hK hw hp0du (vp_iv c178_x26 (by decide)) ⟨_, rfl⟩ dX6_waysFrom_198 (fun H198 locs198 hw g198 => ?_)
            refine lv_aload_n hx hb dX6_waysFrom_199 rfl (lv_at hl 0 rfl) ?_
            refine hp_getr hx hb hts IX6 hown hK hw.1 hp0 rfl 5 (by decide) L29 rfl dX6_waysFrom_200 ?_
            refine lv_iload_n hx hb dX6_waysFrom_203 rfl (lv_at hl 1 rfl) ?_
            refine lv_dup2_11 hx hb dX6_waysFrom_204 rfl rfl ?_
            refine hp_ialdA hx hb hK hw.1 hp0op (vp_iv c178_x19 (by decide)) dX6_waysFrom_205 (fun x205 => ?_)
            refine lv_iconst (v := 1) hx hb dX6_waysFrom_206 (by decide) ?_
            refine lv_iadd hx hb dX6_waysFrom_207 ?_
            refine lv_topi (fun x207 ex207 => ?_)
            refine hp_iast hx hb hK hw hp0op (vp_iv c178_x19 (by decide)) ⟨_, rfl⟩ dX6_waysFrom_208 (fun H208 locs208 hw g208 => ?_)
            refine lv_aload_n hx hb dX6_waysFrom_209 rfl (lv_at hl 0 rfl) ?_
            refine hp_getr hx hb hts IX6 hown hK hw.1 hp0 rfl 5 (by decide) L29 rfl dX6_waysFrom_210 ?_
            refine lv_iload hx hb dX6_waysFrom_213 (lv_at hl 2 rfl) ?_
            refine lv_dup2_11 hx hb dX6_waysFrom_215 rfl rfl ?_
            refine hp_ialdA hx hb hK hw.1 hp0op (vp_iv c178_x26 (by decide)) dX6_waysFrom_216 (fun x216 => ?_)
            refine lv_iconst (v := 1) hx hb dX6_waysFrom_217 (by decide) ?_
            refine lv_iadd hx hb dX6_waysFrom_218 ?_
            refine lv_topi (fun x218 ex218 => ?_)
            refine hp_iast hx hb hK hw hp0op (vp_iv c178_x26 (by decide)) ⟨_, rfl⟩ dX6_waysFrom_219 (fun H219 locs219 hw g219 => ?_)
            refine lv_iload hx hb dX6_waysFrom_220 (lv_at hl 3 rfl) ?_
            exact W.iret (v := y178_l5) hx hb hr (fun t ht hW => ⟨some (.int y178_l5), rfl, ⟨y178_l5, rfl, trivial⟩, by rw [ht]; exact hw.1, hw.2.F ht⟩) hw.2.2.2 dX6_waysFrom_222
          refine lv_if_eq (tgt := 178) hx hb dX6_waysFrom_153 (by decide) (fun c153 => ?_) (fun c153 => ?_)
          · have r153tp : iv x150 0 0 := (iv_both bx150 (iv_eq (show iv 0 0 0 from ⟨by decide, by decide⟩) c153)).mono (by decide) (by decide)
            exact J178 y127_l5 c127_x19 c127_x26 H147 locs147 hw _ (lv_sub hl [0, 3, 4, 5] rfl)
          · have r153fp : iv x150 1 1 := (iv_ne_lo c153 bx150 rfl).mono (by decide) (by decide)
            refine lv_aload_n hx hb dX6_waysFrom_156 rfl (lv_at hl 0 rfl) ?_
            refine lv_iload hx hb dX6_waysFrom_157 (lv_at hl 4 rfl) ?_
            refine hp_callpi (va_runV (As := [.int x26]) (rest := []) ⟨hx, hb, hml, hown, hts⟩ (sX6_canStillBe l D T ap0 x26 ip0 c127_x26) (cwV 1 hts gX6_waysFrom_X6_canStillBe rfl rfl rfl (by decide +kernel) ⟨Nat.le_of_ble_eq_true rfl, Nat.le_of_ble_eq_true rfl⟩) (hp_preV hG hw hp0 rfl trivial) rfl rfl hl.1 rfl (lv_room (Nat.le_of_ble_eq_true rfl)) dX6_waysFrom_159 ⟨Nat.zero_le _, Nat.zero_le _⟩) (fun x159 bx159 => ?_)
            refine lv_if_eq (tgt := 178) hx hb dX6_waysFrom_162 (by decide) (fun c162 => ?_) (fun c162 => ?_)
            · have r162tp : iv x159 0 0 := (iv_both bx159 (iv_eq (show iv 0 0 0 from ⟨by decide, by decide⟩) c162)).mono (by decide) (by decide)
              exact J178 y127_l5 c127_x19 c127_x26 H147 locs147 hw _ (lv_sub hl [0, 3, 4, 5] rfl)
            · have r162fp : iv x159 1 1 := (iv_ne_lo c162 bx159 rfl).mono (by decide) (by decide)
              refine lv_iload hx hb dX6_waysFrom_165 (lv_at hl 5 rfl) ?_
              refine lv_aload_n hx hb dX6_waysFrom_167 rfl (lv_at hl 0 rfl) ?_
              refine lv_iload_n hx hb dX6_waysFrom_168 rfl (lv_at hl 1 rfl) ?_
              refine lv_iconst (v := 1) hx hb dX6_waysFrom_169 (by decide) ?_
              refine lv_iadd hx hb dX6_waysFrom_170 ?_
              refine lv_topi (fun x170 ex170 => ?_)
              have bx170 : iv x170 7 7 := iv_add c127_xp1 (show iv 1 1 1 from ⟨by decide, by decide⟩) ex170 (by decide)
              have qx170 := iv_add_eq c127_xp1 (show iv 1 1 1 from ⟨by decide, by decide⟩) ex170 (by decide)
              refine lv_iload_n hx hb dX6_waysFrom_171 rfl (lv_at hl 2 rfl) ?_
              refine hp_callei (va_runV (As := [.int x170, .int xp2]) (rest := [.int y127_l5]) ⟨hx, hb, hml, hown, hts⟩ (sX6_waysFrom_7 l D T ap0 x170 xp2 ip0 bx170) (cwV 2 hts gX6_waysFrom_X6_waysFrom rfl rfl rfl (by decide +kernel) ⟨Nat.le_of_ble_eq_true rfl, Nat.le_of_ble_eq_true rfl⟩) (hp_preV hG hw hp0 rfl trivial) rfl rfl hl.1 rfl (lv_room (Nat.le_of_ble_eq_true rfl)) dX6_waysFrom_172 ⟨Nat.zero_le _, Nat.zero_le _⟩) hw (fun x172 st172 t172 H172 locs172 eh172 eg172 bx172 hw => ?_)
              refine lv_iadd hx hb dX6_waysFrom_175 ?_
              refine lv_topi (fun x175 ex175 => ?_)
              refine lv_istore (lv' := [(5, .int x175), (0, .ref ap0), (1, .int xp1), (2, .int xp2), (3, .int x19), (4, .int x26)]) hx hb dX6_waysFrom_176 hl (by decide) rfl (fun ls hl => ?_)
              exact J178 x175 c127_x19 c127_x26 H172 locs172 hw _ (lv_sub hl [1, 4, 5, 0] rfl)
        refine lv_icmp_eq (tgt := 127) hx hb dX6_waysFrom_94 (by decide) (fun c94 => ?_) (fun c94 => ?_)
        · have r94tq : iv xp2 6 6 := (iv_both (iv_any xp2) (iv_eq c68_xp1 c94.symm)).mono (by decide) (by decide)
          exact J127 (0 : Int32) c68_xp1 c68_x19 c68_x26 H88 locs88 hw _ (lv_sub hl [1, 2, 3, 4, 5, 0] rfl)
        · refine lv_aload_n hx hb dX6_waysFrom_97 rfl (lv_at hl 1 rfl) ?_
          refine lv_iload_n hx hb dX6_waysFrom_98 rfl (lv_at hl 4 rfl) ?_
          refine hp_callpi (va_runV (As := [.int x19]) (rest := []) ⟨hx, hb, hml, hown, hts⟩ (sX6_canStillBe l D T ap0 x19 ip0 c68_x19) (cwV 1 hts gX6_waysFrom_X6_canStillBe rfl rfl rfl (by decide +kernel) ⟨Nat.le_of_ble_eq_true rfl, Nat.le_of_ble_eq_true rfl⟩) (hp_preV hG hw hp0 rfl trivial) rfl rfl hl.1 rfl (lv_room (Nat.le_of_ble_eq_true rfl)) dX6_waysFrom_99 ⟨Nat.zero_le _, Nat.zero_le _⟩) (fun x99 bx99 => ?_)
          refine lv_if_eq (tgt := 127) hx hb dX6_waysFrom_102 (by decide) (fun c102 => ?_) (fun c102 => ?_)
          · have r102tp : iv x99 0 0 := (iv_both bx99 (iv_eq (show iv 0 0 0 from ⟨by decide, by decide⟩) c102)).mono (by decide) (by decide)
            exact J127 (0 : Int32) c68_xp1 c68_x19 c68_x26 H88 locs88 hw _ (lv_sub hl [1, 2, 3, 4, 5, 0] rfl)
          · have r102fp : iv x99 1 1 := (iv_ne_lo c102 bx99 rfl).mono (by decide) (by decide)
            refine lv_aload_n hx hb dX6_waysFrom_105 rfl (lv_at hl 1 rfl) ?_
            refine lv_iload hx hb dX6_waysFrom_106 (lv_at hl 5 rfl) ?_
            refine hp_callpi (va_runV (As := [.int x26]) (rest := []) ⟨hx, hb, hml, hown, hts⟩ (sX6_canStillBe l D T ap0 x26 ip0 c68_x26) (cwV 1 hts gX6_waysFrom_X6_canStillBe rfl rfl rfl (by decide +kernel) ⟨Nat.le_of_ble_eq_true rfl, Nat.le_of_ble_eq_true rfl⟩) (hp_preV hG hw hp0 rfl trivial) rfl rfl hl.1 rfl (lv_room (Nat.le_of_ble_eq_true rfl)) dX6_waysFrom_108 ⟨Nat.zero_le _, Nat.zero_le _⟩) (fun x108 bx108 => ?_)
            refine lv_if_eq (tgt := 127) hx hb dX6_waysFrom_111 (by decide) (fun c111 => ?_) (fun c111 => ?_)
            · have r111tp : iv x108 0 0 := (iv_both bx108 (iv_eq (show iv 0 0 0 from ⟨by decide, by decide⟩) c111)).mono (by decide) (by decide)
              exact J127 (0 : Int32) c68_xp1 c68_x19 c68_x26 H88 locs88 hw _ (lv_sub hl [1, 2, 3, 4, 5, 0] rfl)
            · have r111fp : iv x108 1 1 := (iv_ne_lo c111 bx108 rfl).mono (by decide) (by decide)
              refine lv_iload hx hb dX6_waysFrom_114 (lv_at hl 0 rfl) ?_
              refine lv_aload_n hx hb dX6_waysFrom_116 rfl (lv_at hl 1 rfl) ?_
              refine lv_iload_n hx hb dX6_waysFrom_117 rfl (lv_at hl 2 rfl) ?_
              refine lv_iconst (v := 1) hx hb dX6_waysFrom_118 (by decide) ?_
              refine lv_iadd hx hb dX6_waysFrom_119 ?_
              refine lv_topi (fun x119 ex119 => ?_)
              have bx119 : iv x119 7 7 := iv_add c68_xp1 (show iv 1 1 1 from ⟨by decide, by decide⟩) ex119 (by decide)
              have qx119 := iv_add_eq c68_xp1 (show iv 1 1 1 from ⟨by decide, by decide⟩) ex119 (by decide)
              refine lv_iload_n hx hb dX6_waysFrom_120 rfl (lv_at hl 3 rfl) ?_
              refine hp_callei (va_runV (As := [.int x119, .int xp2]) (rest := [.int 0]) ⟨hx, hb, hml, hown, hts⟩ (sX6_waysFrom_7 l D T ap0 x119 xp2 ip0 bx119) (cwV 2 hts gX6_waysFrom_X6_waysFrom rfl rfl rfl (by decide +kernel) ⟨Nat.le_of_ble_eq_true rfl, Nat.le_of_ble_eq_true rfl⟩) (hp_preV hG hw hp0 rfl trivial) rfl rfl hl.1 rfl (lv_room (Nat.le_of_ble_eq_true rfl)) dX6_waysFrom_121 ⟨Nat.zero_le _, Nat.zero_le _⟩) hw (fun x121 st121 t121 H121 locs121 eh121 eg121 bx121 hw => ?_)
              refine lv_iadd hx hb dX6_waysFrom_124 ?_
              refine lv_topi (fun x124 ex124 => ?_)
              have qx124 := iv_add_eq (show iv 0 0 0 from ⟨by decide, by decide⟩) (iv_any x121) ex124 (by decide)
              refine lv_istore (lv' := [(5, .int x124), (0, .ref ap0), (1, .int xp1), (2, .int xp2), (3, .int x19), (4, .int x26)]) hx hb dX6_waysFrom_125 hl (by decide) rfl (fun ls hl => ?_)
              exact J127 x124 c68_xp1 c68_x19 c68_x26 H121 locs121 hw _ (lv_sub hl [1, 2, 3, 4, 5, 0] rfl)
      refine lv_if_ne (tgt := 68) hx hb dX6_waysFrom_35 (by decide) (fun c35 => ?_) (fun c35 => ?_)
      · exact J68 bp1 bx19 bx26 s.heap [] hw _ (lv_sub hl [2, 3, 4, 1, 0] rfl)
      · have r35fp : iv x34 0 0 := (iv_both (iv_any x34) (iv_eq (show iv 0 0 0 from ⟨by decide, by decide⟩) c35)).mono (by decide) (by decide)
        refine lv_aload_n hx hb dX6_waysFrom_38 rfl (lv_at hl 2 rfl) ?_
        refine hp_getr hx hb hts IX6 hown hK hw.1 hp0 rfl 4 (by decide) L25 rfl dX6_waysFrom_39 ?_
        refine lv_iload hx hb dX6_waysFrom_42 (lv_at hl 0 rfl) ?_
        refine hp_zaldA hx hb hK hw.1 hp0it (vp_iv bx26 (by decide)) dX6_waysFrom_44 (fun x44 => ?_)
        refine lv_if_ne (tgt := 68) hx hb dX6_waysFrom_45 (by decide) (fun c45 => ?_) (fun c45 => ?_)
        · exact J68 bp1 bx19 bx26 s.heap [] hw _ (lv_sub hl [2, 3, 4, 1, 0] rfl)
        · have r45fp : iv x44 0 0 := (iv_both (iv_any x44) (iv_eq (show iv 0 0 0 from ⟨by decide, by decide⟩) c45)).mono (by decide) (by decide)
          refine lv_iload_n hx hb dX6_waysFrom_48 rfl (lv_at hl 3 rfl) ?_
          refine lv_iload_n hx hb dX6_waysFrom_49 rfl (lv_at hl 4 rfl) ?_
          have J58 : ∀ (y58_s0 : Int32), iv xp1 6 6 → iv y58_s0 1 2 → ∀ (H : Heap) (locs : List Loc), hp_w D T s H locs → ∀ (ls : Array Slot), lv_has ls 6 [(0, .ref ap0), (1, .int xp1), (2, .int xp2)] → WX6_waysFrom_6 p l e s m below meth c D T ap0 xp1 xp2 H locs (F0 m 58 ls [.int y58_s0]) := by
            intro y58_s0 c58_xp1 c58_y58_s0 H58 locs58 hw ls hl
            refine lv_aload_n hx hb dX6_waysFrom_58 rfl (lv_at hl 0 rfl) ?_
            refine lv_iload_n hx hb dX6_waysFrom_59 rfl (lv_at hl 1 rfl) ?_
            refine lv_iconst (v := 1) hx hb dX6_waysFrom_60 (by decide) ?_
            refine lv_iadd hx hb dX6_waysFrom_61 ?_
            refine lv_topi (fun x61 ex61 => ?_)
            have bx61 : iv x61 7 7 := iv_add c58_xp1 (show iv 1 1 1 from ⟨by decide, by decide⟩) ex61 (by decide)
            have qx61 := iv_add_eq c58_xp1 (show iv 1 1 1 from ⟨by decide, by decide⟩) ex61 (by decide)
            refine lv_iload_n hx hb dX6_waysFrom_62 rfl (lv_at hl 2 rfl) ?_
            refine hp_callei (va_runV (As := [.int x61, .int xp2]) (rest := [.int y58_s0]) ⟨hx, hb, hml, hown, hts⟩ (sX6_waysFrom_7 l D T ap0 x61 xp2 ip0 bx61) (cwV 2 hts gX6_waysFrom_X6_waysFrom rfl rfl rfl (by decide +kernel) ⟨Nat.le_of_ble_eq_true rfl, Nat.le_of_ble_eq_true rfl⟩) (hp_preV hG hw hp0 rfl trivial) rfl rfl hl.1 rfl (lv_room (Nat.le_of_ble_eq_true rfl)) dX6_waysFrom_63 ⟨Nat.zero_le _, Nat.zero_le _⟩) hw (fun x63 st63 t63 H63 locs63 eh63 eg63 bx63 hw => ?_)
            refine lv_imul hx hb dX6_waysFrom_66 ?_
            refine lv_topi (fun x66 ex66 => ?_)
            exact W.iret (v := x66) hx hb hr (fun t ht hW => ⟨some (.int x66), rfl, ⟨x66, rfl, trivial⟩, by rw [ht]; exact hw.1, hw.2.F ht⟩) hw.2.2.2 dX6_waysFrom_67
          refine lv_icmp_ne (tgt := 57) hx hb dX6_waysFrom_50 (by decide) (fun c50 => ?_) (fun c50 => ?_)
          · refine lv_iconst (v := 2) hx hb dX6_waysFrom_57 (by decide) ?_
            exact J58 (2 : Int32) bp1 (show iv 2 1 2 from ⟨by decide, by decide⟩) s.heap [] hw _ (lv_sub hl [2, 3, 4] rfl)
          · have r50fq : iv xp2 6 6 := (iv_both (iv_any xp2) (iv_eq bp1 c50.symm)).mono (by decide) (by decide)
            refine lv_iconst (v := 1) hx hb dX6_waysFrom_53 (by decide) ?_
            refine lv_goto (tgt := 58) hx hb dX6_waysFrom_54 (by decide) ?_
            exact J58 (1 : Int32) bp1 (show iv 1 1 2 from ⟨by decide, by decide⟩) s.heap [] hw _ (lv_sub hl [2, 3, 4] rfl)
    · have r9fp : iv x6 0 6 := (iv_le_l (iv_nlt c9) bx6 bp1).mono (by decide) (by decide)
      exact J12 s.heap [] hw _ (lv_sub hl [] rfl)
abbrev WX6_waysFrom_5 (p : Program) (l : Launch) (e : Env) (s : State) (m : MethodId) (below : List Frame) (meth : Method) (c : Code) (D : hp_D) (T : hp_T) (ap0 : Nat) (xp1 : Int32) (xp2 : Int32) (H : Heap) (locs : List Loc) (g : JFrame) : Prop := W p l e (headSpec wsX6_waysFrom ({ frames := 11, cells := 0, slots := 0, locals := 275 })).room s m ([.ref ap0, .int xp1, .int xp2] : List Value).toArray below meth c H locs 0 0 (MQ below (hq_e D T (fun v _ _ => ∃ r : Int32, v = some (.int r) ∧ True)) ([.ref ap0, .int xp1, .int xp2] : List Value).toArray s 0 0 (hp_F T)) g
set_option maxHeartbeats 4000000 in
set_option maxRecDepth 100000 in
theorem sX6_waysFrom_5 (l : Launch) (D : hp_D) (T : hp_T) (ap0 : Nat) (xp1 : Int32) (xp2 : Int32) (ip0 : isShuns T ap0) (bp1 : iv xp1 5 5) : Met l yX6_waysFrom wsX6_waysFrom ({ frames := 11, cells := 0, slots := 0, locals := 275 }) (hp_Pc D T [.ref ap0, .int xp1, .int xp2] (fun _ => True)) (hq_e D T (fun v _ _ => ∃ r : Int32, v = some (.int r) ∧ True)) 0 0 (hp_F T) := by
  obtain ⟨ap0le, ap0gr, ap0du, ap0it, ap0op, hp0, hp0le, hp0gr, hp0du, hp0it, hp0op⟩ := id ip0
  refine Met.ofW (cc := cX6_waysFrom) (maxL := 6) (ret := (some .int)) (by decide) rfl ?_
  intro p e s m args below meth c s₁ B hml hv
  obtain ⟨rfl, hok, hG, hB⟩ := hv
  have hx := B.exec
  have hb := B.bytes
  have hr := B.returns
  have hts := atoms_spec (ws := wsX6_waysFrom) B.pre
  have hown : s.vm.findClass RX6 = some m.cls := findClass_of_methodNamed B.named
  have hlocks := B.notSynchronized
  have hK := hG.1
  have hw : hp_w D T s s.heap [] := hp_w.rf hok
  have IX6 : ∀ w ∈ wsX60, w ∈ wsX6_waysFrom := by decide +kernel
  have L9 := hts (.fieldLink RX6 9 "PalmCensus$Shuns" "twos" "I") (by decide +kernel)
  have L15 := hts (.fieldLink RX6 15 "PalmCensus$Shuns" "lesser" "[I") (by decide +kernel)
  have L19 := hts (.fieldLink RX6 19 "PalmCensus$Shuns" "greater" "[I") (by decide +kernel)
  have L25 := hts (.fieldLink RX6 25 "PalmCensus$Shuns" "isTold" "[Z") (by decide +kernel)
  have L29 := hts (.fieldLink RX6 29 "PalmCensus$Shuns" "open" "[I") (by decide +kernel)
  have L22 := hts (.fieldLink RX6 22 "PalmCensus$Shuns" "due" "[I") (by decide +kernel)
  have hl := lv_entry ([.ref ap0, .int xp1, .int xp2]) (n := 6) (Nat.le_of_ble_eq_true rfl)
  rw [lg_entry_eq]
  generalize (lg_sl ([.ref ap0, .int xp1, .int xp2]) ++ List.replicate (6 - (lg_sl ([.ref ap0, .int xp1, .int xp2])).length) Slot.unset).toArray = ls at hl ⊢
  have hl : lv_has ls 6 [(0, .ref ap0), (1, .int xp1), (2, .int xp2)] := hl
  show WX6_waysFrom_5 p l e s m below meth c D T ap0 xp1 xp2 s.heap [] (F0 m 0 ls [])
  refine lv_iload_n hx hb dX6_waysFrom_0 rfl (lv_at hl 1 rfl) ?_
  have J12 : ∀ (H : Heap) (locs : List Loc), hp_w D T s H locs → ∀ (ls : Array Slot), lv_has ls 6 [] → WX6_waysFrom_5 p l e s m below meth c D T ap0 xp1 xp2 H locs (F0 m 12 ls []) := by
    intro H12 locs12 hw ls hl
    refine lv_iconst (v := 1) hx hb dX6_waysFrom_12 (by decide) ?_
    exact W.iret (v := 1) hx hb hr (fun t ht hW => ⟨some (.int 1), rfl, ⟨(1 : Int32), rfl, trivial⟩, by rw [ht]; exact hw.1, hw.2.F ht⟩) hw.2.2.2 dX6_waysFrom_13
  refine lv_if_lt (tgt := 12) hx hb dX6_waysFrom_1 (by decide) (fun c1 => ?_) (fun c1 => ?_)
  · exact iv_abs (iv_lt_l c1 bp1 (show iv 0 0 0 from ⟨by decide, by decide⟩)) (by decide)
  · refine lv_iload_n hx hb dX6_waysFrom_4 rfl (lv_at hl 1 rfl) ?_
    refine lv_aload_n hx hb dX6_waysFrom_5 rfl (lv_at hl 0 rfl) ?_
    refine hp_geti hx hb hts IX6 hown hK hw.1 hp0 rfl 0 (by decide) L9 rfl dX6_waysFrom_6 (fun x6 bx6 fx6 => ?_)
    refine lv_icmp_lt (tgt := 14) hx hb dX6_waysFrom_9 (by decide) (fun c9 => ?_) (fun c9 => ?_)
    · have r9tq : iv x6 6 16 := (iv_lt_r c9 bp1 bx6).mono (by decide) (by decide)
      refine lv_aload_n hx hb dX6_waysFrom_14 rfl (lv_at hl 0 rfl) ?_
      refine hp_getr hx hb hts IX6 hown hK hw.1 hp0 rfl 1 (by decide) L15 rfl dX6_waysFrom_15 ?_
      refine lv_iload_n hx hb dX6_waysFrom_18 rfl (lv_at hl 1 rfl) ?_
      refine hp_ialdI hx hb hK hw.1 hp0le (vp_iv bp1 (by decide)) dX6_waysFrom_19 (fun x19 bx19 => ?_)
      refine lv_istore_n (lv' := [(3, .int x19), (0, .ref ap0), (1, .int xp1), (2, .int xp2)]) hx hb dX6_waysFrom_20 rfl hl (by decide) rfl (fun ls hl => ?_)
      refine lv_aload_n hx hb dX6_waysFrom_21 rfl (lv_at hl 1 rfl) ?_
      refine hp_getr hx hb hts IX6 hown hK hw.1 hp0 rfl 2 (by decide) L19 rfl dX6_waysFrom_22 ?_
      refine lv_iload_n hx hb dX6_waysFrom_25 rfl (lv_at hl 2 rfl) ?_
      refine hp_ialdI hx hb hK hw.1 hp0gr (vp_iv bp1 (by decide)) dX6_waysFrom_26 (fun x26 bx26 => ?_)
      refine lv_istore (lv' := [(4, .int x26), (3, .int x19), (0, .ref ap0), (1, .int xp1), (2, .int xp2)]) hx hb dX6_waysFrom_27 hl (by decide) rfl (fun ls hl => ?_)
      refine lv_aload_n hx hb dX6_waysFrom_29 rfl (lv_at hl 2 rfl) ?_
      refine hp_getr hx hb hts IX6 hown hK hw.1 hp0 rfl 4 (by decide) L25 rfl dX6_waysFrom_30 ?_
      refine lv_iload_n hx hb dX6_waysFrom_33 rfl (lv_at hl 1 rfl) ?_
      refine hp_zaldA hx hb hK hw.1 hp0it (vp_iv bx19 (by decide)) dX6_waysFrom_34 (fun x34 => ?_)
      have J68 : iv xp1 5 5 → iv x19 0 9 → iv x26 0 9 → ∀ (H : Heap) (locs : List Loc), hp_w D T s H locs → ∀ (ls : Array Slot), lv_has ls 6 [(0, .ref ap0), (1, .int xp1), (2, .int xp2), (3, .int x19), (4, .int x26)] → WX6_waysFrom_5 p l e s m below meth c D T ap0 xp1 xp2 H locs (F0 m 68 ls []) := by
        intro c68_xp1 c68_x19 c68_x26 H68 locs68 hw ls hl
        refine lv_aload_n hx hb dX6_waysFrom_68 rfl (lv_at hl 0 rfl) ?_
        refine hp_getr hx hb hts IX6 hown hK hw.1 hp0 rfl 5 (by decide) L29 rfl dX6_waysFrom_69 ?_
        refine lv_iload_n hx hb dX6_waysFrom_72 rfl (lv_at hl 3 rfl) ?_
        refine lv_dup2_11 hx hb dX6_waysFrom_73 rfl rfl ?_
        refine hp_ialdA hx hb hK hw.1 hp0op (vp_iv c68_x19 (by decide)) dX6_waysFrom_74 (fun x74 => ?_)
        refine lv_iconst (v := 1) hx hb dX6_waysFrom_75 (by decide) ?_
        refine lv_isub hx hb dX6_waysFrom_76 ?_
        refine lv_topi (fun x76 ex76 => ?_)
        refine hp_iast hx hb hK hw hp0op (vp_iv c68_x19 (by decide)) ⟨_, rfl⟩ dX6_waysFrom_77 (fun H77 locs77 hw g77 => ?_)
        refine lv_aload_n hx hb dX6_waysFrom_78 rfl (lv_at hl 0 rfl) ?_
        refine hp_getr hx hb hts IX6 hown hK hw.1 hp0 rfl 5 (by decide) L29 rfl dX6_waysFrom_79 ?_
        refine lv_iload hx hb dX6_waysFrom_82 (lv_at hl 4 rfl) ?_
        refine lv_dup2_11 hx hb dX6_waysFrom_84 rfl rfl ?_
        refine hp_ialdA hx hb hK hw.1 hp0op (vp_iv c68_x26 (by decide)) dX6_waysFrom_85 (fun x85 => ?_)
        refine lv_iconst (v := 1) hx hb dX6_waysFrom_86 (by decide) ?_
        refine lv_isub hx hb dX6_waysFrom_87 ?_
        refine lv_topi (fun x87 ex87 => ?_)
        refine hp_iast hx hb hK hw hp0op (vp_iv c68_x26 (by decide)) ⟨_, rfl⟩ dX6_waysFrom_88 (fun H88 locs88 hw g88 => ?_)
        refine lv_iconst (v := 0) hx hb dX6_waysFrom_89 (by decide) ?_
        refine lv_istore (lv' := [(5, .int 0), (0, .ref ap0), (1, .int xp1), (2, .int xp2), (3, .int x19), (4, .int x26)]) hx hb dX6_waysFrom_90 hl (by decide) rfl (fun ls hl => ?_)
        refine lv_iload_n hx hb dX6_waysFrom_92 rfl (lv_at hl 2 rfl) ?_
        refine lv_iload_n hx hb dX6_waysFrom_93 rfl (lv_at hl 3 rfl) ?_
        have J127 : ∀ (y127_l5 : Int32), iv xp1 5 5 → iv x19 0 9 → iv x26 0 9 → ∀ (H : Heap) (locs : List Loc), hp_w D T s H locs → ∀ (ls : Array Slot), lv_has ls 6 [(0, .ref ap0), (1, .int xp1), (2, .int xp2), (3, .int x19), (4, .int x26), (5, .int y127_l5)] → WX6_waysFrom_5 p l e s m below meth c D T ap0 xp1 xp2 H locs (F0 m 127 ls []) := by
          intro y127_l5 c127_xp1 c127_x19 c127_x26 H127 locs127 hw ls hl
          refine lv_aload_n hx hb dX6_waysFrom_127 rfl (lv_at hl 0 rfl) ?_
          refine hp_getr hx hb hts IX6 hown hK hw.1 hp0 rfl 3 (by decide) L22 rfl dX6_waysFrom_128 ?_
          refine lv_iload_n hx hb dX6_waysFrom_131 rfl (lv_at hl 3 rfl) ?_
          refine lv_dup2_11 hx hb dX6_waysFrom_132 rfl rfl ?_
          refine hp_ialdA hx hb hK hw.1 hp0du (vp_iv c127_x19 (by decide)) dX6_waysFrom_133 (fun x133 => ?_)
          refine lv_iconst (v := 1) hx hb dX6_waysFrom_134 (by decide) ?_
          refine lv_isub hx hb dX6_waysFrom_135 ?_
          refine lv_topi (fun x135 ex135 => ?_)
          refine hp_iast hx hb hK hw hp0du (vp_iv c127_x19 (by decide)) ⟨_, rfl⟩ dX6_waysFrom_136 (fun H136 locs136 hw g136 => ?_)
          refine lv_aload_n hx hb dX6_waysFrom_137 rfl (lv_at hl 0 rfl) ?_
          refine hp_getr hx hb hts IX6 hown hK hw.1 hp0 rfl 3 (by decide) L22 rfl dX6_waysFrom_138 ?_
          refine lv_iload hx hb dX6_waysFrom_141 (lv_at hl 4 rfl) ?_
          refine lv_dup2_11 hx hb dX6_waysFrom_143 rfl rfl ?_
          refine hp_ialdA hx hb hK hw.1 hp0du (vp_iv c127_x26 (by decide)) dX6_waysFrom_144 (fun x144 => ?_)
          refine lv_iconst (v := 1) hx hb dX6_waysFrom_145 (by decide) ?_
          refine lv_isub hx hb dX6_waysFrom_146 ?_
          refine lv_topi (fun x146 ex146 => ?_)
          refine hp_iast hx hb hK hw hp0du (vp_iv c127_x26 (by decide)) ⟨_, rfl⟩ dX6_waysFrom_147 (fun H147 locs147 hw g147 => ?_)
          refine lv_aload_n hx hb dX6_waysFrom_148 rfl (lv_at hl 0 rfl) ?_
          refine lv_iload_n hx hb dX6_waysFrom_149 rfl (lv_at hl 3 rfl) ?_
          refine hp_callpi (va_runV (As := [.int x19]) (rest := []) ⟨hx, hb, hml, hown, hts⟩ (sX6_canStillBe l D T ap0 x19 ip0 c127_x19) (cwV 1 hts gX6_waysFrom_X6_canStillBe rfl rfl rfl (by decide +kernel) ⟨Nat.le_of_ble_eq_true rfl, Nat.le_of_ble_eq_true rfl⟩) (hp_preV hG hw hp0 rfl trivial) rfl rfl hl.1 rfl (lv_room (Nat.le_of_ble_eq_true rfl)) dX6_waysFrom_150 ⟨Nat.zero_le _, Nat.zero_le _⟩) (fun x150 bx150 => ?_)
          have J178 : ∀ (y178_l5 : Int32), iv x19 0 9 → iv x26 0 9 → ∀ (H : Heap) (locs : List Loc), hp_w D T s H locs → ∀ (ls : Array Slot), lv_has ls 6 [(0, .ref ap0), (3, .int x19), (4, .int x26), (5, .int y178_l5)] → WX6_waysFrom_5 p l e s m below meth c D T ap0 xp1 xp2 H locs (F0 m 178 ls []) := by
            intro y178_l5 c178_x19 c178_x26 H178 locs178 hw ls hl
            refine lv_aload_n hx hb dX6_waysFrom_178 rfl (lv_at hl 0 rfl) ?_
            refine hp_getr hx hb hts IX6 hown hK hw.1 hp0 rfl 3 (by decide) L22 rfl dX6_waysFrom_179 ?_
            refine lv_iload_n hx hb dX6_waysFrom_182 rfl (lv_at hl 1 rfl) ?_
            refine lv_dup2_11 hx hb dX6_waysFrom_183 rfl rfl ?_
            refine hp_ialdA hx hb hK hw.1 hp0du (vp_iv c178_x19 (by decide)) dX6_waysFrom_184 (fun x184 => ?_)
            refine lv_iconst (v := 1) hx hb dX6_waysFrom_185 (by decide) ?_
            refine lv_iadd hx hb dX6_waysFrom_186 ?_
            refine lv_topi (fun x186 ex186 => ?_)
            refine hp_iast hx hb hK hw hp0du (vp_iv c178_x19 (by decide)) ⟨_, rfl⟩ dX6_waysFrom_187 (fun H187 locs187 hw g187 => ?_)
            refine lv_aload_n hx hb dX6_waysFrom_188 rfl (lv_at hl 0 rfl) ?_
            refine hp_getr hx hb hts IX6 hown hK hw.1 hp0 rfl 3 (by decide) L22 rfl dX6_waysFrom_189 ?_
            refine lv_iload hx hb dX6_waysFrom_192 (lv_at hl 2 rfl) ?_
            refine lv_dup2_11 hx hb dX6_waysFrom_194 rfl rfl ?_
            refine hp_ialdA hx hb hK hw.1 hp0du (vp_iv c178_x26 (by decide)) dX6_waysFrom_195 (fun x195 => ?_)
            refine lv_iconst (v := 1) hx hb dX6_waysFrom_196 (by decide) ?_
            refine lv_iadd hx hb dX6_waysFrom_197 ?_
            refine lv_topi (fun x197 ex197 => ?_)
            refine hp_iast hx hb hK hw hp0du (vp_iv c178_x26 (by decide)) ⟨_, rfl⟩ dX6_waysFrom_198 (fun H198 locs198 hw g198 => ?_)
            refine lv_aload_n hx hb dX6_waysFrom_199 rfl (lv_at hl 0 rfl) ?_
            refine hp_getr hx hb hts IX6 hown hK hw.1 hp0 rfl 5 (by decide) L29 rfl dX6_waysFrom_200 ?_
            refine lv_iload_n hx hb dX6_waysFrom_203 rfl (lv_at hl 1 rfl) ?_
            refine lv_dup2_11 hx hb dX6_waysFrom_204 rfl rfl ?_
            refine hp_ialdA hx hb hK hw.1 hp0op (vp_iv c178_x19 (by decide)) dX6_waysFrom_205 (fun x205 => ?_)
            refine lv_iconst (v := 1) hx hb dX6_waysFrom_206 (by decide) ?_
            refine lv_iadd hx hb dX6_waysFrom_207 ?_
            refine lv_topi (fun x207 ex207 => ?_)
            refine hp_iast hx hb hK hw hp0op (vp_iv c178_x19 (by decide)) ⟨_, rfl⟩ dX6_waysFrom_208 (fun H208 locs208 hw g208 => ?_)
            refine lv_aload_n hx hb dX6_waysFrom_209 rfl (lv_at hl 0 rfl) ?_
            refine hp_getr hx hb hts IX6 hown hK hw.1 hp0 rfl 5 (by decide) L29 rfl dX6_waysFrom_210 ?_
            refine lv_iload hx hb dX6_waysFrom_213 (lv_at hl 2 rfl) ?_
            refine lv_dup2_11 hx hb dX6_waysFrom_215 rfl rfl ?_
            refine hp_ialdA hx hb hK hw.1 hp0op (vp_iv c178_x26 (by decide)) dX6_waysFrom_216 (fun x216 => ?_)
            refine lv_iconst (v := 1) hx hb dX6_waysFrom_217 (by decide) ?_
            refine lv_iadd hx hb dX6_waysFrom_218 ?_
            refine lv_topi (fun x218 ex218 => ?_)
            refine hp_iast hx hb hK hw hp0op (vp_iv c178_x26 (by decide)) ⟨_, rfl⟩ dX6_waysFrom_219 (fun H219 locs219 hw g219 => ?_)
            refine lv_iload hx hb dX6_waysFrom_220 (lv_at hl 3 rfl) ?_
            exact W.iret (v := y178_l5) hx hb hr (fun t ht hW => ⟨some (.int y178_l5), rfl, ⟨y178_l5, rfl, trivial⟩, by rw [ht]; exact hw.1, hw.2.F ht⟩) hw.2.2.2 dX6_waysFrom_222
          refine lv_if_eq (tgt := 178) hx hb dX6_waysFrom_153 (by decide) (fun c153 => ?_) (fun c153 => ?_)
          · have r153tp : iv x150 0 0 := (iv_both bx150 (iv_eq (show iv 0 0 0 from ⟨by decide, by decide⟩) c153)).mono (by decide) (by decide)
            exact J178 y127_l5 c127_x19 c127_x26 H147 locs147 hw _ (lv_sub hl [0, 3, 4, 5] rfl)
          · have r153fp : iv x150 1 1 := (iv_ne_lo c153 bx150 rfl).mono (by decide) (by decide)
            refine lv_aload_n hx hb dX6_waysFrom_156 rfl (lv_at hl 0 rfl) ?_
            refine lv_iload hx hb dX6_waysFrom_157 (lv_at hl 4 rfl) ?_
            refine hp_callpi (va_runV (As := [.int x26]) (rest := []) ⟨hx, hb, hml, hown, hts⟩ (sX6_canStillBe l D T ap0 x26 ip0 c127_x26) (cwV 1 hts gX6_waysFrom_X6_canStillBe rfl rfl rfl (by decide +kernel) ⟨Nat.le_of_ble_eq_true rfl, Nat.le_of_ble_eq_true rfl⟩) (hp_preV hG hw hp0 rfl trivial) rfl rfl hl.1 rfl (lv_room (Nat.le_of_ble_eq_true rfl)) dX6_waysFrom_159 ⟨Nat.zero_le _, Nat.zero_le _⟩) (fun x159 bx159 => ?_)
            refine lv_if_eq (tgt := 178) hx hb dX6_waysFrom_162 (by decide) (fun c162 => ?_) (fun c162 => ?_)
            · have r162tp : iv x159 0 0 := (iv_both bx159 (iv_eq (show iv 0 0 0 from ⟨by decide, by decide⟩) c162)).mono (by decide) (by decide)
              exact J178 y127_l5 c127_x19 c127_x26 H147 locs147 hw _ (lv_sub hl [0, 3, 4, 5] rfl)
            · have r162fp : iv x159 1 1 := (iv_ne_lo c162 bx159 rfl).mono (by decide) (by decide)
              refine lv_iload hx hb dX6_waysFrom_165 (lv_at hl 5 rfl) ?_
              refine lv_aload_n hx hb dX6_waysFrom_167 rfl (lv_at hl 0 rfl) ?_
              refine lv_iload_n hx hb dX6_waysFrom_168 rfl (lv_at hl 1 rfl) ?_
              refine lv_iconst (v := 1) hx hb dX6_waysFrom_169 (by decide) ?_
              refine lv_iadd hx hb dX6_waysFrom_170 ?_
              refine lv_topi (fun x170 ex170 => ?_)
              have bx170 : iv x170 6 6 := iv_add c127_xp1 (show iv 1 1 1 from ⟨by decide, by decide⟩) ex170 (by decide)
              have qx170 := iv_add_eq c127_xp1 (show iv 1 1 1 from ⟨by decide, by decide⟩) ex170 (by decide)
              refine lv_iload_n hx hb dX6_waysFrom_171 rfl (lv_at hl 2 rfl) ?_
              refine hp_callei (va_runV (As := [.int x170, .int xp2]) (rest := [.int y127_l5]) ⟨hx, hb, hml, hown, hts⟩ (sX6_waysFrom_6 l D T ap0 x170 xp2 ip0 bx170) (cwV 2 hts gX6_waysFrom_X6_waysFrom rfl rfl rfl (by decide +kernel) ⟨Nat.le_of_ble_eq_true rfl, Nat.le_of_ble_eq_true rfl⟩) (hp_preV hG hw hp0 rfl trivial) rfl rfl hl.1 rfl (lv_room (Nat.le_of_ble_eq_true rfl)) dX6_waysFrom_172 ⟨Nat.zero_le _, Nat.zero_le _⟩) hw (fun x172 st172 t172 H172 locs172 eh172 eg172 bx172 hw => ?_)
              refine lv_iadd hx hb dX6_waysFrom_175 ?_
              refine lv_topi (fun x175 ex175 => ?_)
              refine lv_istore (lv' := [(5, .int x175), (0, .ref ap0), (1, .int xp1), (2, .int xp2), (3, .int x19), (4, .int x26)]) hx hb dX6_waysFrom_176 hl (by decide) rfl (fun ls hl => ?_)
              exact J178 x175 c127_x19 c127_x26 H172 locs172 hw _ (lv_sub hl [1, 4, 5, 0] rfl)
        refine lv_icmp_eq (tgt := 127) hx hb dX6_waysFrom_94 (by decide) (fun c94 => ?_) (fun c94 => ?_)
        · have r94tq : iv xp2 5 5 := (iv_both (iv_any xp2) (iv_eq c68_xp1 c94.symm)).mono (by decide) (by decide)
          exact J127 (0 : Int32) c68_xp1 c68_x19 c68_x26 H88 locs88 hw _ (lv_sub hl [1, 2, 3, 4, 5, 0] rfl)
        · refine lv_aload_n hx hb dX6_waysFrom_97 rfl (lv_at hl 1 rfl) ?_
          refine lv_iload_n hx hb dX6_waysFrom_98 rfl (lv_at hl 4 rfl) ?_
          refine hp_callpi (va_runV (As := [.int x19]) (rest := []) ⟨hx, hb, hml, hown, hts⟩ (sX6_canStillBe l D T ap0 x19 ip0 c68_x19) (cwV 1 hts gX6_waysFrom_X6_canStillBe rfl rfl rfl (by decide +kernel) ⟨Nat.le_of_ble_eq_true rfl, Nat.le_of_ble_eq_true rfl⟩) (hp_preV hG hw hp0 rfl trivial) rfl rfl hl.1 rfl (lv_room (Nat.le_of_ble_eq_true rfl)) dX6_waysFrom_99 ⟨Nat.zero_le _, Nat.zero_le _⟩) (fun x99 bx99 => ?_)
          refine lv_if_eq (tgt := 127) hx hb dX6_waysFrom_102 (by decide) (fun c102 => ?_) (fun c102 => ?_)
          · have r102tp : iv x99 0 0 := (iv_both bx99 (iv_eq (show iv 0 0 0 from ⟨by decide, by decide⟩) c102)).mono (by decide) (by decide)
            exact J127 (0 : Int32) c68_xp1 c68_x19 c68_x26 H88 locs88 hw _ (lv_sub hl [1, 2, 3, 4, 5, 0] rfl)
          · have r102fp : iv x99 1 1 := (iv_ne_lo c102 bx99 rfl).mono (by decide) (by decide)
            refine lv_aload_n hx hb dX6_waysFrom_105 rfl (lv_at hl 1 rfl) ?_
            refine lv_iload hx hb dX6_waysFrom_106 (lv_at hl 5 rfl) ?_
            refine hp_callpi (va_runV (As := [.int x26]) (rest := []) ⟨hx, hb, hml, hown, hts⟩ (sX6_canStillBe l D T ap0 x26 ip0 c68_x26) (cwV 1 hts gX6_waysFrom_X6_canStillBe rfl rfl rfl (by decide +kernel) ⟨Nat.le_of_ble_eq_true rfl, Nat.le_of_ble_eq_true rfl⟩) (hp_preV hG hw hp0 rfl trivial) rfl rfl hl.1 rfl (lv_room (Nat.le_of_ble_eq_true rfl)) dX6_waysFrom_108 ⟨Nat.zero_le _, Nat.zero_le _⟩) (fun x108 bx108 => ?_)
            refine lv_if_eq (tgt := 127) hx hb dX6_waysFrom_111 (by decide) (fun c111 => ?_) (fun c111 => ?_)
            · have r111tp : iv x108 0 0 := (iv_both bx108 (iv_eq (show iv 0 0 0 from ⟨by decide, by decide⟩) c111)).mono (by decide) (by decide)
              exact J127 (0 : Int32) c68_xp1 c68_x19 c68_x26 H88 locs88 hw _ (lv_sub hl [1, 2, 3, 4, 5, 0] rfl)
            · have r111fp : iv x108 1 1 := (iv_ne_lo c111 bx108 rfl).mono (by decide) (by decide)
              refine lv_iload hx hb dX6_waysFrom_114 (lv_at hl 0 rfl) ?_
              refine lv_aload_n hx hb dX6_waysFrom_116 rfl (lv_at hl 1 rfl) ?_
              refine lv_iload_n hx hb dX6_waysFrom_117 rfl (lv_at hl 2 rfl) ?_
              refine lv_iconst (v := 1) hx hb dX6_waysFrom_118 (by decide) ?_
              refine lv_iadd hx hb dX6_waysFrom_119 ?_
              refine lv_topi (fun x119 ex119 => ?_)
              have bx119 : iv x119 6 6 := iv_add c68_xp1 (show iv 1 1 1 from ⟨by decide, by decide⟩) ex119 (by decide)
              have qx119 := iv_add_eq c68_xp1 (show iv 1 1 1 from ⟨by decide, by decide⟩) ex119 (by decide)
              refine lv_iload_n hx hb dX6_waysFrom_120 rfl (lv_at hl 3 rfl) ?_
              refine hp_callei (va_runV (As := [.int x119, .int xp2]) (rest := [.int 0]) ⟨hx, hb, hml, hown, hts⟩ (sX6_waysFrom_6 l D T ap0 x119 xp2 ip0 bx119) (cwV 2 hts gX6_waysFrom_X6_waysFrom rfl rfl rfl (by decide +kernel) ⟨Nat.le_of_ble_eq_true rfl, Nat.le_of_ble_eq_true rfl⟩) (hp_preV hG hw hp0 rfl trivial) rfl rfl hl.1 rfl (lv_room (Nat.le_of_ble_eq_true rfl)) dX6_waysFrom_121 ⟨Nat.zero_le _, Nat.zero_le _⟩) hw (fun x121 st121 t121 H121 locs121 eh121 eg121 bx121 hw => ?_)
              refine lv_iadd hx hb dX6_waysFrom_124 ?_
              refine lv_topi (fun x124 ex124 => ?_)
              have qx124 := iv_add_eq (show iv 0 0 0 from ⟨by decide, by decide⟩) (iv_any x121) ex124 (by decide)
              refine lv_istore (lv' := [(5, .int x124), (0, .ref ap0), (1, .int xp1), (2, .int xp2), (3, .int x19), (4, .int x26)]) hx hb dX6_waysFrom_125 hl (by decide) rfl (fun ls hl => ?_)
              exact J127 x124 c68_xp1 c68_x19 c68_x26 H121 locs121 hw _ (lv_sub hl [1, 2, 3, 4, 5, 0] rfl)
      refine lv_if_ne (tgt := 68) hx hb dX6_waysFrom_35 (by decide) (fun c35 => ?_) (fun c35 => ?_)
      · exact J68 bp1 bx19 bx26 s.heap [] hw _ (lv_sub hl [2, 3, 4, 1, 0] rfl)
      · have r35fp : iv x34 0 0 := (iv_both (iv_any x34) (iv_eq (show iv 0 0 0 from ⟨by decide, by decide⟩) c35)).mono (by decide) (by decide)
        refine lv_aload_n hx hb dX6_waysFrom_38 rfl (lv_at hl 2 rfl) ?_
        refine hp_getr hx hb hts IX6 hown hK hw.1 hp0 rfl 4 (by decide) L25 rfl dX6_waysFrom_39 ?_
        refine lv_iload hx hb dX6_waysFrom_42 (lv_at hl 0 rfl) ?_
        refine hp_zaldA hx hb hK hw.1 hp0it (vp_iv bx26 (by decide)) dX6_waysFrom_44 (fun x44 => ?_)
        refine lv_if_ne (tgt := 68) hx hb dX6_waysFrom_45 (by decide) (fun c45 => ?_) (fun c45 => ?_)
        · exact J68 bp1 bx19 bx26 s.heap [] hw _ (lv_sub hl [2, 3, 4, 1, 0] rfl)
        · have r45fp : iv x44 0 0 := (iv_both (iv_any x44) (iv_eq (show iv 0 0 0 from ⟨by decide, by decide⟩) c45)).mono (by decide) (by decide)
          refine lv_iload_n hx hb dX6_waysFrom_48 rfl (lv_at hl 3 rfl) ?_
          refine lv_iload_n hx hb dX6_waysFrom_49 rfl (lv_at hl 4 rfl) ?_
          have J58 : ∀ (y58_s0 : Int32), iv xp1 5 5 → iv y58_s0 1 2 → ∀ (H : Heap) (locs : List Loc), hp_w D T s H locs → ∀ (ls : Array Slot), lv_has ls 6 [(0, .ref ap0), (1, .int xp1), (2, .int xp2)] → WX6_waysFrom_5 p l e s m below meth c D T ap0 xp1 xp2 H locs (F0 m 58 ls [.int y58_s0]) := by
            intro y58_s0 c58_xp1 c58_y58_s0 H58 locs58 hw ls hl
            refine lv_aload_n hx hb dX6_waysFrom_58 rfl (lv_at hl 0 rfl) ?_
            refine lv_iload_n hx hb dX6_waysFrom_59 rfl (lv_at hl 1 rfl) ?_
            refine lv_iconst (v := 1) hx hb dX6_waysFrom_60 (by decide) ?_
            refine lv_iadd hx hb dX6_waysFrom_61 ?_
            refine lv_topi (fun x61 ex61 => ?_)
            have bx61 : iv x61 6 6 := iv_add c58_xp1 (show iv 1 1 1 from ⟨by decide, by decide⟩) ex61 (by decide)
            have qx61 := iv_add_eq c58_xp1 (show iv 1 1 1 from ⟨by decide, by decide⟩) ex61 (by decide)
            refine lv_iload_n hx hb dX6_waysFrom_62 rfl (lv_at hl 2 rfl) ?_
            refine hp_callei (va_runV (As := [.int x61, .int xp2]) (rest := [.int y58_s0]) ⟨hx, hb, hml, hown, hts⟩ (sX6_waysFrom_6 l D T ap0 x61 xp2 ip0 bx61) (cwV 2 hts gX6_waysFrom_X6_waysFrom rfl rfl rfl (by decide +kernel) ⟨Nat.le_of_ble_eq_true rfl, Nat.le_of_ble_eq_true rfl⟩) (hp_preV hG hw hp0 rfl trivial) rfl rfl hl.1 rfl (lv_room (Nat.le_of_ble_eq_true rfl)) dX6_waysFrom_63 ⟨Nat.zero_le _, Nat.zero_le _⟩) hw (fun x63 st63 t63 H63 locs63 eh63 eg63 bx63 hw => ?_)
            refine lv_imul hx hb dX6_waysFrom_66 ?_
            refine lv_topi (fun x66 ex66 => ?_)
            exact W.iret (v := x66) hx hb hr (fun t ht hW => ⟨some (.int x66), rfl, ⟨x66, rfl, trivial⟩, by rw [ht]; exact hw.1, hw.2.F ht⟩) hw.2.2.2 dX6_waysFrom_67
          refine lv_icmp_ne (tgt := 57) hx hb dX6_waysFrom_50 (by decide) (fun c50 => ?_) (fun c50 => ?_)
          · refine lv_iconst (v := 2) hx hb dX6_waysFrom_57 (by decide) ?_
            exact J58 (2 : Int32) bp1 (show iv 2 1 2 from ⟨by decide, by decide⟩) s.heap [] hw _ (lv_sub hl [2, 3, 4] rfl)
          · have r50fq : iv xp2 5 5 := (iv_both (iv_any xp2) (iv_eq bp1 c50.symm)).mono (by decide) (by decide)
            refine lv_iconst (v := 1) hx hb dX6_waysFrom_53 (by decide) ?_
            refine lv_goto (tgt := 58) hx hb dX6_waysFrom_54 (by decide) ?_
            exact J58 (1 : Int32) bp1 (show iv 1 1 2 from ⟨by decide, by decide⟩) s.heap [] hw _ (lv_sub hl [2, 3, 4] rfl)
    · have r9fp : iv x6 0 5 := (iv_le_l (iv_nlt c9) bx6 bp1).mono (by decide) (by decide)
      exact J12 s.heap [] hw _ (lv_sub hl [] rfl)
abbrev WX6_waysFrom_4 (p : Program) (l : Launch) (e : Env) (s : State) (m : MethodId) (below : List Frame) (meth : Method) (c : Code) (D : hp_D) (T : hp_T) (ap0 : Nat) (xp1 : Int32) (xp2 : Int32) (H : Heap) (locs : List Loc) (g : JFrame) : Prop := W p l e (headSpec wsX6_waysFrom ({ frames := 12, cells := 0, slots := 0, locals := 300 })).room s m ([.ref ap0, .int xp1, .int xp2] : List Value).toArray below meth c H locs 0 0 (MQ below (hq_e D T (fun v _ _ => ∃ r : Int32, v = some (.int r) ∧ True)) ([.ref ap0, .int xp1, .int xp2] : List Value).toArray s 0 0 (hp_F T)) g
set_option maxHeartbeats 4000000 in
set_option maxRecDepth 100000 in
theorem sX6_waysFrom_4 (l : Launch) (D : hp_D) (T : hp_T) (ap0 : Nat) (xp1 : Int32) (xp2 : Int32) (ip0 : isShuns T ap0) (bp1 : iv xp1 4 4) : Met l yX6_waysFrom wsX6_waysFrom ({ frames := 12, cells := 0, slots := 0, locals := 300 }) (hp_Pc D T [.ref ap0, .int xp1, .int xp2] (fun _ => True)) (hq_e D T (fun v _ _ => ∃ r : Int32, v = some (.int r) ∧ True)) 0 0 (hp_F T) := by
  obtain ⟨ap0le, ap0gr, ap0du, ap0it, ap0op, hp0, hp0le, hp0gr, hp0du, hp0it, hp0op⟩ := id ip0
  refine Met.ofW (cc := cX6_waysFrom) (maxL := 6) (ret := (some .int)) (by decide) rfl ?_
  intro p e s m args below meth c s₁ B hml hv
  obtain ⟨rfl, hok, hG, hB⟩ := hv
  have hx := B.exec
  have hb := B.bytes
  have hr := B.returns
  have hts := atoms_spec (ws := wsX6_waysFrom) B.pre
  have hown : s.vm.findClass RX6 = some m.cls := findClass_of_methodNamed B.named
  have hlocks := B.notSynchronized
  have hK := hG.1
  have hw : hp_w D T s s.heap [] := hp_w.rf hok
  have IX6 : ∀ w ∈ wsX60, w ∈ wsX6_waysFrom := by decide +kernel
  have L9 := hts (.fieldLink RX6 9 "PalmCensus$Shuns" "twos" "I") (by decide +kernel)
  have L15 := hts (.fieldLink RX6 15 "PalmCensus$Shuns" "lesser" "[I") (by decide +kernel)
  have L19 := hts (.fieldLink RX6 19 "PalmCensus$Shuns" "greater" "[I") (by decide +kernel)
  have L25 := hts (.fieldLink RX6 25 "PalmCensus$Shuns" "isTold" "[Z") (by decide +kernel)
  have L29 := hts (.fieldLink RX6 29 "PalmCensus$Shuns" "open" "[I") (by decide +kernel)
  have L22 := hts (.fieldLink RX6 22 "PalmCensus$Shuns" "due" "[I") (by decide +kernel)
  have hl := lv_entry ([.ref ap0, .int xp1, .int xp2]) (n := 6) (Nat.le_of_ble_eq_true rfl)
  rw [lg_entry_eq]
  generalize (lg_sl ([.ref ap0, .int xp1, .int xp2]) ++ List.replicate (6 - (lg_sl ([.ref ap0, .int xp1, .int xp2])).length) Slot.unset).toArray = ls at hl ⊢
  have hl : lv_has ls 6 [(0, .ref ap0), (1, .int xp1), (2, .int xp2)] := hl
  show WX6_waysFrom_4 p l e s m below meth c D T ap0 xp1 xp2 s.heap [] (F0 m 0 ls [])
  refine lv_iload_n hx hb dX6_waysFrom_0 rfl (lv_at hl 1 rfl) ?_
  have J12 : ∀ (H : Heap) (locs : List Loc), hp_w D T s H locs → ∀ (ls : Array Slot), lv_has ls 6 [] → WX6_waysFrom_4 p l e s m below meth c D T ap0 xp1 xp2 H locs (F0 m 12 ls []) := by
    intro H12 locs12 hw ls hl
    refine lv_iconst (v := 1) hx hb dX6_waysFrom_12 (by decide) ?_
    exact W.iret (v := 1) hx hb hr (fun t ht hW => ⟨some (.int 1), rfl, ⟨(1 : Int32), rfl, trivial⟩, by rw [ht]; exact hw.1, hw.2.F ht⟩) hw.2.2.2 dX6_waysFrom_13
  refine lv_if_lt (tgt := 12) hx hb dX6_waysFrom_1 (by decide) (fun c1 => ?_) (fun c1 => ?_)
  · exact iv_abs (iv_lt_l c1 bp1 (show iv 0 0 0 from ⟨by decide, by decide⟩)) (by decide)
  · refine lv_iload_n hx hb dX6_waysFrom_4 rfl (lv_at hl 1 rfl) ?_
    refine lv_aload_n hx hb dX6_waysFrom_5 rfl (lv_at hl 0 rfl) ?_
    refine hp_geti hx hb hts IX6 hown hK hw.1 hp0 rfl 0 (by decide) L9 rfl dX6_waysFrom_6 (fun x6 bx6 fx6 => ?_)
    refine lv_icmp_lt (tgt := 14) hx hb dX6_waysFrom_9 (by decide) (fun c9 => ?_) (fun c9 => ?_)
    · have r9tq : iv x6 5 16 := (iv_lt_r c9 bp1 bx6).mono (by decide) (by decide)
      refine lv_aload_n hx hb dX6_waysFrom_14 rfl (lv_at hl 0 rfl) ?_
      refine hp_getr hx hb hts IX6 hown hK hw.1 hp0 rfl 1 (by decide) L15 rfl dX6_waysFrom_15 ?_
      refine lv_iload_n hx hb dX6_waysFrom_18 rfl (lv_at hl 1 rfl) ?_
      refine hp_ialdI hx hb hK hw.1 hp0le (vp_iv bp1 (by decide)) dX6_waysFrom_19 (fun x19 bx19 => ?_)
      refine lv_istore_n (lv' := [(3, .int x19), (0, .ref ap0), (1, .int xp1), (2, .int xp2)]) hx hb dX6_waysFrom_20 rfl hl (by decide) rfl (fun ls hl => ?_)
      refine lv_aload_n hx hb dX6_waysFrom_21 rfl (lv_at hl 1 rfl) ?_
      refine hp_getr hx hb hts IX6 hown hK hw.1 hp0 rfl 2 (by decide) L19 rfl dX6_waysFrom_22 ?_
      refine lv_iload_n hx hb dX6_waysFrom_25 rfl (lv_at hl 2 rfl) ?_
      refine hp_ialdI hx hb hK hw.1 hp0gr (vp_iv bp1 (by decide)) dX6_waysFrom_26 (fun x26 bx26 => ?_)
      refine lv_istore (lv' := [(4, .int x26), (3, .int x19), (0, .ref ap0), (1, .int xp1), (2, .int xp2)]) hx hb dX6_waysFrom_27 hl (by decide) rfl (fun ls hl => ?_)
      refine lv_aload_n hx hb dX6_waysFrom_29 rfl (lv_at hl 2 rfl) ?_
      refine hp_getr hx hb hts IX6 hown hK hw.1 hp0 rfl 4 (by decide) L25 rfl dX6_waysFrom_30 ?_
      refine lv_iload_n hx hb dX6_waysFrom_33 rfl (lv_at hl 1 rfl) ?_
      refine hp_zaldA hx hb hK hw.1 hp0it (vp_iv bx19 (by decide)) dX6_waysFrom_34 (fun x34 => ?_)
      have J68 : iv xp1 4 4 → iv x19 0 9 → iv x26 0 9 → ∀ (H : Heap) (locs : List Loc), hp_w D T s H locs → ∀ (ls : Array Slot), lv_has ls 6 [(0, .ref ap0), (1, .int xp1), (2, .int xp2), (3, .int x19), (4, .int x26)] → WX6_waysFrom_4 p l e s m below meth c D T ap0 xp1 xp2 H locs (F0 m 68 ls []) := by
        intro c68_xp1 c68_x19 c68_x26 H68 locs68 hw ls hl
        refine lv_aload_n hx hb dX6_waysFrom_68 rfl (lv_at hl 0 rfl) ?_
        refine hp_getr hx hb hts IX6 hown hK hw.1 hp0 rfl 5 (by decide) L29 rfl dX6_waysFrom_69 ?_
        refine lv_iload_n hx hb dX6_waysFrom_72 rfl (lv_at hl 3 rfl) ?_
        refine lv_dup2_11 hx hb dX6_waysFrom_73 rfl rfl ?_
        refine hp_ialdA hx hb hK hw.1 hp0op (vp_iv c68_x19 (by decide)) dX6_waysFrom_74 (fun x74 => ?_)
        refine lv_iconst (v := 1) hx hb dX6_waysFrom_75 (by decide) ?_
        refine lv_isub hx hb dX6_waysFrom_76 ?_
        refine lv_topi (fun x76 ex76 => ?_)
        refine hp_iast hx hb hK hw hp0op (vp_iv c68_x19 (by decide)) ⟨_, rfl⟩ dX6_waysFrom_77 (fun H77 locs77 hw g77 => ?_)
        refine lv_aload_n hx hb dX6_waysFrom_78 rfl (lv_at hl 0 rfl) ?_
        refine hp_getr hx hb hts IX6 hown hK hw.1 hp0 rfl 5 (by decide) L29 rfl dX6_waysFrom_79 ?_
        refine lv_iload hx hb dX6_waysFrom_82 (lv_at hl 4 rfl) ?_
        refine lv_dup2_11 hx hb dX6_waysFrom_84 rfl rfl ?_
        refine hp_ialdA hx hb hK hw.1 hp0op (vp_iv c68_x26 (by decide)) dX6_waysFrom_85 (fun x85 => ?_)
        refine lv_iconst (v := 1) hx hb dX6_waysFrom_86 (by decide) ?_
        refine lv_isub hx hb dX6_waysFrom_87 ?_
        refine lv_topi (fun x87 ex87 => ?_)
        refine hp_iast hx hb hK hw hp0op (vp_iv c68_x26 (by decide)) ⟨_, rfl⟩ dX6_waysFrom_88 (fun H88 locs88 hw g88 => ?_)
        refine lv_iconst (v := 0) hx hb dX6_waysFrom_89 (by decide) ?_
        refine lv_istore (lv' := [(5, .int 0), (0, .ref ap0), (1, .int xp1), (2, .int xp2), (3, .int x19), (4, .int x26)]) hx hb dX6_waysFrom_90 hl (by decide) rfl (fun ls hl => ?_)
        refine lv_iload_n hx hb dX6_waysFrom_92 rfl (lv_at hl 2 rfl) ?_
        refine lv_iload_n hx hb dX6_waysFrom_93 rfl (lv_at hl 3 rfl) ?_
        have J127 : ∀ (y127_l5 : Int32), iv xp1 4 4 → iv x19 0 9 → iv x26 0 9 → ∀ (H : Heap) (locs : List Loc), hp_w D T s H locs → ∀ (ls : Array Slot), lv_has ls 6 [(0, .ref ap0), (1, .int xp1), (2, .int xp2), (3, .int x19), (4, .int x26), (5, .int y127_l5)] → WX6_waysFrom_4 p l e s m below meth c D T ap0 xp1 xp2 H locs (F0 m 127 ls []) := by
          intro y127_l5 c127_xp1 c127_x19 c127_x26 H127 locs127 hw ls hl
          refine lv_aload_n hx hb dX6_waysFrom_127 rfl (lv_at hl 0 rfl) ?_
          refine hp_getr hx hb hts IX6 hown hK hw.1 hp0 rfl 3 (by decide) L22 rfl dX6_waysFrom_128 ?_
          refine lv_iload_n hx hb dX6_waysFrom_131 rfl (lv_at hl 3 rfl) ?_
          refine lv_dup2_11 hx hb dX6_waysFrom_132 rfl rfl ?_
          refine hp_ialdA hx hb hK hw.1 hp0du (vp_iv c127_x19 (by decide)) dX6_waysFrom_133 (fun x133 => ?_)
          refine lv_iconst (v := 1) hx hb dX6_waysFrom_134 (by decide) ?_
          refine lv_isub hx hb dX6_waysFrom_135 ?_
          refine lv_topi (fun x135 ex135 => ?_)
          refine hp_iast hx hb hK hw hp0du (vp_iv c127_x19 (by decide)) ⟨_, rfl⟩ dX6_waysFrom_136 (fun H136 locs136 hw g136 => ?_)
          refine lv_aload_n hx hb dX6_waysFrom_137 rfl (lv_at hl 0 rfl) ?_
          refine hp_getr hx hb hts IX6 hown hK hw.1 hp0 rfl 3 (by decide) L22 rfl dX6_waysFrom_138 ?_
          refine lv_iload hx hb dX6_waysFrom_141 (lv_at hl 4 rfl) ?_
          refine lv_dup2_11 hx hb dX6_waysFrom_143 rfl rfl ?_
          refine hp_ialdA hx hb hK hw.1 hp0du (vp_iv c127_x26 (by decide)) dX6_waysFrom_144 (fun x144 => ?_)
          refine lv_iconst (v := 1) hx hb dX6_waysFrom_145 (by decide) ?_
          refine lv_isub hx hb dX6_waysFrom_146 ?_
          refine lv_topi (fun x146 ex146 => ?_)
          refine hp_iast hx hb hK hw hp0du (vp_iv c127_x26 (by decide)) ⟨_, rfl⟩ dX6_waysFrom_147 (fun H147 locs147 hw g147 => ?_)
          refine lv_aload_n hx hb dX6_waysFrom_148 rfl (lv_at hl 0 rfl) ?_
          refine lv_iload_n hx hb dX6_waysFrom_149 rfl (lv_at hl 3 rfl) ?_
          refine hp_callpi (va_runV (As := [.int x19]) (rest := []) ⟨hx, hb, hml, hown, hts⟩ (sX6_canStillBe l D T ap0 x19 ip0 c127_x19) (cwV 1 hts gX6_waysFrom_X6_canStillBe rfl rfl rfl (by decide +kernel) ⟨Nat.le_of_ble_eq_true rfl, Nat.le_of_ble_eq_true rfl⟩) (hp_preV hG hw hp0 rfl trivial) rfl rfl hl.1 rfl (lv_room (Nat.le_of_ble_eq_true rfl)) dX6_waysFrom_150 ⟨Nat.zero_le _, Nat.zero_le _⟩) (fun x150 bx150 => ?_)
          have J178 : ∀ (y178_l5 : Int32), iv x19 0 9 → iv x26 0 9 → ∀ (H : Heap) (locs : List Loc), hp_w D T s H locs → ∀ (ls : Array Slot), lv_has ls 6 [(0, .ref ap0), (3, .int x19), (4, .int x26), (5, .int y178_l5)] → WX6_waysFrom_4 p l e s m below meth c D T ap0 xp1 xp2 H locs (F0 m 178 ls []) := by
            intro y178_l5 c178_x19 c178_x26 H178 locs178 hw ls hl
            refine lv_aload_n hx hb dX6_waysFrom_178 rfl (lv_at hl 0 rfl) ?_
            refine hp_getr hx hb hts IX6 hown hK hw.1 hp0 rfl 3 (by decide) L22 rfl dX6_waysFrom_179 ?_
            refine lv_iload_n hx hb dX6_waysFrom_182 rfl (lv_at hl 1 rfl) ?_
            refine lv_dup2_11 hx hb dX6_waysFrom_183 rfl rfl ?_
            refine hp_ialdA hx hb hK hw.1 hp0du (vp_iv c178_x19 (by decide)) dX6_waysFrom_184 (fun x184 => ?_)
            refine lv_iconst (v := 1) hx hb dX6_waysFrom_185 (by decide) ?_
            refine lv_iadd hx hb dX6_waysFrom_186 ?_
            refine lv_topi (fun x186 ex186 => ?_)
            refine hp_iast hx hb hK hw hp0du (vp_iv c178_x19 (by decide)) ⟨_, rfl⟩ dX6_waysFrom_187 (fun H187 locs187 hw g187 => ?_)
            refine lv_aload_n hx hb dX6_waysFrom_188 rfl (lv_at hl 0 rfl) ?_
            refine hp_getr hx hb hts IX6 hown hK hw.1 hp0 rfl 3 (by decide) L22 rfl dX6_waysFrom_189 ?_
            refine lv_iload hx hb dX6_waysFrom_192 (lv_at hl 2 rfl) ?_
            refine lv_dup2_11 hx hb dX6_waysFrom_194 rfl rfl ?_
            refine hp_ialdA hx hb hK hw.1 hp0du (vp_iv c178_x26 (by decide)) dX6_waysFrom_195 (fun x195 => ?_)
            refine lv_iconst (v := 1) hx hb dX6_waysFrom_196 (by decide) ?_
            refine lv_iadd hx hb dX6_waysFrom_197 ?_
            refine lv_topi (fun x197 ex197 => ?_)
            refine hp_iast hx hb hK hw hp0du (vp_iv c178_x26 (by decide)) ⟨_, rfl⟩ dX6_waysFrom_198 (fun H198 locs198 hw g198 => ?_)
            refine lv_aload_n hx hb dX6_waysFrom_199 rfl (lv_at hl 0 rfl) ?_
            refine hp_getr hx hb hts IX6 hown hK hw.1 hp0 rfl 5 (by decide) L29 rfl dX6_waysFrom_200 ?_
            refine lv_iload_n hx hb dX6_waysFrom_203 rfl (lv_at hl 1 rfl) ?_
            refine lv_dup2_11 hx hb dX6_waysFrom_204 rfl rfl ?_
            refine hp_ialdA hx hb hK hw.1 hp0op (vp_iv c178_x19 (by decide)) dX6_waysFrom_205 (fun x205 => ?_)
            refine lv_iconst (v := 1) hx hb dX6_waysFrom_206 (by decide) ?_
            refine lv_iadd hx hb dX6_waysFrom_207 ?_
            refine lv_topi (fun x207 ex207 => ?_)
            refine hp_iast hx hb hK hw hp0op (vp_iv c178_x19 (by decide)) ⟨_, rfl⟩ dX6_waysFrom_208 (fun H208 locs208 hw g208 => ?_)
            refine lv_aload_n hx hb dX6_waysFrom_209 rfl (lv_at hl 0 rfl) ?_
            refine hp_getr hx hb hts IX6 hown hK hw.1 hp0 rfl 5 (by decide) L29 rfl dX6_waysFrom_210 ?_
            refine lv_iload hx hb dX6_waysFrom_213 (lv_at hl 2 rfl) ?_
            refine lv_dup2_11 hx hb dX6_waysFrom_215 rfl rfl ?_
            refine hp_ialdA hx hb hK hw.1 hp0op (vp_iv c178_x26 (by decide)) dX6_waysFrom_216 (fun x216 => ?_)
            refine lv_iconst (v := 1) hx hb dX6_waysFrom_217 (by decide) ?_
            refine lv_iadd hx hb dX6_waysFrom_218 ?_
            refine lv_topi (fun x218 ex218 => ?_)
            refine hp_iast hx hb hK hw hp0op (vp_iv c178_x26 (by decide)) ⟨_, rfl⟩ dX6_waysFrom_219 (fun H219 locs219 hw g219 => ?_)
            refine lv_iload hx hb dX6_waysFrom_220 (lv_at hl 3 rfl) ?_
            exact W.iret (v := y178_l5) hx hb hr (fun t ht hW => ⟨some (.int y178_l5), rfl, ⟨y178_l5, rfl, trivial⟩, by rw [ht]; exact hw.1, hw.2.F ht⟩) hw.2.2.2 dX6_waysFrom_222
          refine lv_if_eq (tgt := 178) hx hb dX6_waysFrom_153 (by decide) (fun c153 => ?_) (fun c153 => ?_)
          · have r153tp : iv x150 0 0 := (iv_both bx150 (iv_eq (show iv 0 0 0 from ⟨by decide, by decide⟩) c153)).mono (by decide) (by decide)
            exact J178 y127_l5 c127_x19 c127_x26 H147 locs147 hw _ (lv_sub hl [0, 3, 4, 5] rfl)
          · have r153fp : iv x150 1 1 := (iv_ne_lo c153 bx150 rfl).mono (by decide) (by decide)
            refine lv_aload_n hx hb dX6_waysFrom_156 rfl (lv_at hl 0 rfl) ?_
            refine lv_iload hx hb dX6_waysFrom_157 (lv_at hl 4 rfl) ?_
            refine hp_callpi (va_runV (As := [.int x26]) (rest := []) ⟨hx, hb, hml, hown, hts⟩ (sX6_canStillBe l D T ap0 x26 ip0 c127_x26) (cwV 1 hts gX6_waysFrom_X6_canStillBe rfl rfl rfl (by decide +kernel) ⟨Nat.le_of_ble_eq_true rfl, Nat.le_of_ble_eq_true rfl⟩) (hp_preV hG hw hp0 rfl trivial) rfl rfl hl.1 rfl (lv_room (Nat.le_of_ble_eq_true rfl)) dX6_waysFrom_159 ⟨Nat.zero_le _, Nat.zero_le _⟩) (fun x159 bx159 => ?_)
            refine lv_if_eq (tgt := 178) hx hb dX6_waysFrom_162 (by decide) (fun c162 => ?_) (fun c162 => ?_)
            · have r162tp : iv x159 0 0 := (iv_both bx159 (iv_eq (show iv 0 0 0 from ⟨by decide, by decide⟩) c162)).mono (by decide) (by decide)
              exact J178 y127_l5 c127_x19 c127_x26 H147 locs147 hw _ (lv_sub hl [0, 3, 4, 5] rfl)
            · have r162fp : iv x159 1 1 := (iv_ne_lo c162 bx159 rfl).mono (by decide) (by decide)
              refine lv_iload hx hb dX6_waysFrom_165 (lv_at hl 5 rfl) ?_
              refine lv_aload_n hx hb dX6_waysFrom_167 rfl (lv_at hl 0 rfl) ?_
              refine lv_iload_n hx hb dX6_waysFrom_168 rfl (lv_at hl 1 rfl) ?_
              refine lv_iconst (v := 1) hx hb dX6_waysFrom_169 (by decide) ?_
              refine lv_iadd hx hb dX6_waysFrom_170 ?_
              refine lv_topi (fun x170 ex170 => ?_)
              have bx170 : iv x170 5 5 := iv_add c127_xp1 (show iv 1 1 1 from ⟨by decide, by decide⟩) ex170 (by decide)
              have qx170 := iv_add_eq c127_xp1 (show iv 1 1 1 from ⟨by decide, by decide⟩) ex170 (by decide)
              refine lv_iload_n hx hb dX6_waysFrom_171 rfl (lv_at hl 2 rfl) ?_
              refine hp_callei (va_runV (As := [.int x170, .int xp2]) (rest := [.int y127_l5]) ⟨hx, hb, hml, hown, hts⟩ (sX6_waysFrom_5 l D T ap0 x170 xp2 ip0 bx170) (cwV 2 hts gX6_waysFrom_X6_waysFrom rfl rfl rfl (by decide +kernel) ⟨Nat.le_of_ble_eq_true rfl, Nat.le_of_ble_eq_true rfl⟩) (hp_preV hG hw hp0 rfl trivial) rfl rfl hl.1 rfl (lv_room (Nat.le_of_ble_eq_true rfl)) dX6_waysFrom_172 ⟨Nat.zero_le _, Nat.zero_le _⟩) hw (fun x172 st172 t172 H172 locs172 eh172 eg172 bx172 hw => ?_)
              refine lv_iadd hx hb dX6_waysFrom_175 ?_
              refine lv_topi (fun x175 ex175 => ?_)
              refine lv_istore (lv' := [(5, .int x175), (0, .ref ap0), (1, .int xp1), (2, .int xp2), (3, .int x19), (4, .int x26)]) hx hb dX6_waysFrom_176 hl (by decide) rfl (fun ls hl => ?_)
              exact J178 x175 c127_x19 c127_x26 H172 locs172 hw _ (lv_sub hl [1, 4, 5, 0] rfl)
        refine lv_icmp_eq (tgt := 127) hx hb dX6_waysFrom_94 (by decide) (fun c94 => ?_) (fun c94 => ?_)
        · have r94tq : iv xp2 4 4 := (iv_both (iv_any xp2) (iv_eq c68_xp1 c94.symm)).mono (by decide) (by decide)
          exact J127 (0 : Int32) c68_xp1 c68_x19 c68_x26 H88 locs88 hw _ (lv_sub hl [1, 2, 3, 4, 5, 0] rfl)
        · refine lv_aload_n hx hb dX6_waysFrom_97 rfl (lv_at hl 1 rfl) ?_
          refine lv_iload_n hx hb dX6_waysFrom_98 rfl (lv_at hl 4 rfl) ?_
          refine hp_callpi (va_runV (As := [.int x19]) (rest := []) ⟨hx, hb, hml, hown, hts⟩ (sX6_canStillBe l D T ap0 x19 ip0 c68_x19) (cwV 1 hts gX6_waysFrom_X6_canStillBe rfl rfl rfl (by decide +kernel) ⟨Nat.le_of_ble_eq_true rfl, Nat.le_of_ble_eq_true rfl⟩) (hp_preV hG hw hp0 rfl trivial) rfl rfl hl.1 rfl (lv_room (Nat.le_of_ble_eq_true rfl)) dX6_waysFrom_99 ⟨Nat.zero_le _, Nat.zero_le _⟩) (fun x99 bx99 => ?_)
          refine lv_if_eq (tgt := 127) hx hb dX6_waysFrom_102 (by decide) (fun c102 => ?_) (fun c102 => ?_)
          · have r102tp : iv x99 0 0 := (iv_both bx99 (iv_eq (show iv 0 0 0 from ⟨by decide, by decide⟩) c102)).mono (by decide) (by decide)
            exact J127 (0 : Int32) c68_xp1 c68_x19 c68_x26 H88 locs88 hw _ (lv_sub hl [1, 2, 3, 4, 5, 0] rfl)
          · have r102fp : iv x99 1 1 := (iv_ne_lo c102 bx99 rfl).mono (by decide) (by decide)
            refine lv_aload_n hx hb dX6_waysFrom_105 rfl (lv_at hl 1 rfl) ?_
            refine lv_iload hx hb dX6_waysFrom_106 (lv_at hl 5 rfl) ?_
            refine hp_callpi (va_runV (As := [.int x26]) (rest := []) ⟨hx, hb, hml, hown, hts⟩ (sX6_canStillBe l D T ap0 x26 ip0 c68_x26) (cwV 1 hts gX6_waysFrom_X6_canStillBe rfl rfl rfl (by decide +kernel) ⟨Nat.le_of_ble_eq_true rfl, Nat.le_of_ble_eq_true rfl⟩) (hp_preV hG hw hp0 rfl trivial) rfl rfl hl.1 rfl (lv_room (Nat.le_of_ble_eq_true rfl)) dX6_waysFrom_108 ⟨Nat.zero_le _, Nat.zero_le _⟩) (fun x108 bx108 => ?_)
            refine lv_if_eq (tgt := 127) hx hb dX6_waysFrom_111 (by decide) (fun c111 => ?_) (fun c111 => ?_)
            · have r111tp : iv x108 0 0 := (iv_both bx108 (iv_eq (show iv 0 0 0 from ⟨by decide, by decide⟩) c111)).mono (by decide) (by decide)
              exact J127 (0 : Int32) c68_xp1 c68_x19 c68_x26 H88 locs88 hw _ (lv_sub hl [1, 2, 3, 4, 5, 0] rfl)
            · have r111fp : iv x108 1 1 := (iv_ne_lo c111 bx108 rfl).mono (by decide) (by decide)
              refine lv_iload hx hb dX6_waysFrom_114 (lv_at hl 0 rfl) ?_
              refine lv_aload_n hx hb dX6_waysFrom_116 rfl (lv_at hl 1 rfl) ?_
              refine lv_iload_n hx hb dX6_waysFrom_117 rfl (lv_at hl 2 rfl) ?_
              refine lv_iconst (v := 1) hx hb dX6_waysFrom_118 (by decide) ?_
              refine lv_iadd hx hb dX6_waysFrom_119 ?_
              refine lv_topi (fun x119 ex119 => ?_)
              have bx119 : iv x119 5 5 := iv_add c68_xp1 (show iv 1 1 1 from ⟨by decide, by decide⟩) ex119 (by decide)
              have qx119 := iv_add_eq c68_xp1 (show iv 1 1 1 from ⟨by decide, by decide⟩) ex119 (by decide)
              refine lv_iload_n hx hb dX6_waysFrom_120 rfl (lv_at hl 3 rfl) ?_
              refine hp_callei (va_runV (As := [.int x119, .int xp2]) (rest := [.int 0]) ⟨hx, hb, hml, hown, hts⟩ (sX6_waysFrom_5 l D T ap0 x119 xp2 ip0 bx119) (cwV 2 hts gX6_waysFrom_X6_waysFrom rfl rfl rfl (by decide +kernel) ⟨Nat.le_of_ble_eq_true rfl, Nat.le_of_ble_eq_true rfl⟩) (hp_preV hG hw hp0 rfl trivial) rfl rfl hl.1 rfl (lv_room (Nat.le_of_ble_eq_true rfl)) dX6_waysFrom_121 ⟨Nat.zero_le _, Nat.zero_le _⟩) hw (fun x121 st121 t121 H121 locs121 eh121 eg121 bx121 hw => ?_)
              refine lv_iadd hx hb dX6_waysFrom_124 ?_
              refine lv_topi (fun x124 ex124 => ?_)
              have qx124 := iv_add_eq (show iv 0 0 0 from ⟨by decide, by decide⟩) (iv_any x121) ex124 (by decide)
              refine lv_istore (lv' := [(5, .int x124), (0, .ref ap0), (1, .int xp1), (2, .int xp2), (3, .int x19), (4, .int x26)]) hx hb dX6_waysFrom_125 hl (by decide) rfl (fun ls hl => ?_)
              exact J127 x124 c68_xp1 c68_x19 c68_x26 H121 locs121 hw _ (lv_sub hl [1, 2, 3, 4, 5, 0] rfl)
      refine lv_if_ne (tgt := 68) hx hb dX6_waysFrom_35 (by decide) (fun c35 => ?_) (fun c35 => ?_)
      · exact J68 bp1 bx19 bx26 s.heap [] hw _ (lv_sub hl [2, 3, 4, 1, 0] rfl)
      · have r35fp : iv x34 0 0 := (iv_both (iv_any x34) (iv_eq (show iv 0 0 0 from ⟨by decide, by decide⟩) c35)).mono (by decide) (by decide)
        refine lv_aload_n hx hb dX6_waysFrom_38 rfl (lv_at hl 2 rfl) ?_
        refine hp_getr hx hb hts IX6 hown hK hw.1 hp0 rfl 4 (by decide) L25 rfl dX6_waysFrom_39 ?_
        refine lv_iload hx hb dX6_waysFrom_42 (lv_at hl 0 rfl) ?_
        refine hp_zaldA hx hb hK hw.1 hp0it (vp_iv bx26 (by decide)) dX6_waysFrom_44 (fun x44 => ?_)
        refine lv_if_ne (tgt := 68) hx hb dX6_waysFrom_45 (by decide) (fun c45 => ?_) (fun c45 => ?_)
        · exact J68 bp1 bx19 bx26 s.heap [] hw _ (lv_sub hl [2, 3, 4, 1, 0] rfl)
        · have r45fp : iv x44 0 0 := (iv_both (iv_any x44) (iv_eq (show iv 0 0 0 from ⟨by decide, by decide⟩) c45)).mono (by decide) (by decide)
          refine lv_iload_n hx hb dX6_waysFrom_48 rfl (lv_at hl 3 rfl) ?_
          refine lv_iload_n hx hb dX6_waysFrom_49 rfl (lv_at hl 4 rfl) ?_
          have J58 : ∀ (y58_s0 : Int32), iv xp1 4 4 → iv y58_s0 1 2 → ∀ (H : Heap) (locs : List Loc), hp_w D T s H locs → ∀ (ls : Array Slot), lv_has ls 6 [(0, .ref ap0), (1, .int xp1), (2, .int xp2)] → WX6_waysFrom_4 p l e s m below meth c D T ap0 xp1 xp2 H locs (F0 m 58 ls [.int y58_s0]) := by
            intro y58_s0 c58_xp1 c58_y58_s0 H58 locs58 hw ls hl
            refine lv_aload_n hx hb dX6_waysFrom_58 rfl (lv_at hl 0 rfl) ?_
            refine lv_iload_n hx hb dX6_waysFrom_59 rfl (lv_at hl 1 rfl) ?_
            refine lv_iconst (v := 1) hx hb dX6_waysFrom_60 (by decide) ?_
            refine lv_iadd hx hb dX6_waysFrom_61 ?_
            refine lv_topi (fun x61 ex61 => ?_)
            have bx61 : iv x61 5 5 := iv_add c58_xp1 (show iv 1 1 1 from ⟨by decide, by decide⟩) ex61 (by decide)
            have qx61 := iv_add_eq c58_xp1 (show iv 1 1 1 from ⟨by decide, by decide⟩) ex61 (by decide)
            refine lv_iload_n hx hb dX6_waysFrom_62 rfl (lv_at hl 2 rfl) ?_
            refine hp_callei (va_runV (As := [.int x61, .int xp2]) (rest := [.int y58_s0]) ⟨hx, hb, hml, hown, hts⟩ (sX6_waysFrom_5 l D T ap0 x61 xp2 ip0 bx61) (cwV 2 hts gX6_waysFrom_X6_waysFrom rfl rfl rfl (by decide +kernel) ⟨Nat.le_of_ble_eq_true rfl, Nat.le_of_ble_eq_true rfl⟩) (hp_preV hG hw hp0 rfl trivial) rfl rfl hl.1 rfl (lv_room (Nat.le_of_ble_eq_true rfl)) dX6_waysFrom_63 ⟨Nat.zero_le _, Nat.zero_le _⟩) hw (fun x63 st63 t63 H63 locs63 eh63 eg63 bx63 hw => ?_)
            refine lv_imul hx hb dX6_waysFrom_66 ?_
            refine lv_topi (fun x66 ex66 => ?_)
            exact W.iret (v := x66) hx hb hr (fun t ht hW => ⟨some (.int x66), rfl, ⟨x66, rfl, trivial⟩, by rw [ht]; exact hw.1, hw.2.F ht⟩) hw.2.2.2 dX6_waysFrom_67
          refine lv_icmp_ne (tgt := 57) hx hb dX6_waysFrom_50 (by decide) (fun c50 => ?_) (fun c50 => ?_)
          · refine lv_iconst (v := 2) hx hb dX6_waysFrom_57 (by decide) ?_
            exact J58 (2 : Int32) bp1 (show iv 2 1 2 from ⟨by decide, by decide⟩) s.heap [] hw _ (lv_sub hl [2, 3, 4] rfl)
          · have r50fq : iv xp2 4 4 := (iv_both (iv_any xp2) (iv_eq bp1 c50.symm)).mono (by decide) (by decide)
            refine lv_iconst (v := 1) hx hb dX6_waysFrom_53 (by decide) ?_
            refine lv_goto (tgt := 58) hx hb dX6_waysFrom_54 (by decide) ?_
            exact J58 (1 : Int32) bp1 (show iv 1 1 2 from ⟨by decide, by decide⟩) s.heap [] hw _ (lv_sub hl [2, 3, 4] rfl)
    · have r9fp : iv x6 0 4 := (iv_le_l (iv_nlt c9) bx6 bp1).mono (by decide) (by decide)
      exact J12 s.heap [] hw _ (lv_sub hl [] rfl)
abbrev WX6_waysFrom_3 (p : Program) (l : Launch) (e : Env) (s : State) (m : MethodId) (below : List Frame) (meth : Method) (c : Code) (D : hp_D) (T : hp_T) (ap0 : Nat) (xp1 : Int32) (xp2 : Int32) (H : Heap) (locs : List Loc) (g : JFrame) : Prop := W p l e (headSpec wsX6_waysFrom ({ frames := 13, cells := 0, slots := 0, locals := 325 })).room s m ([.ref ap0, .int xp1, .int xp2] : List Value).toArray below meth c H locs 0 0 (MQ below (hq_e D T (fun v _ _ => ∃ r : Int32, v = some (.int r) ∧ True)) ([.ref ap0, .int xp1, .int xp2] : List Value).toArray s 0 0 (hp_F T)) g
set_option maxHeartbeats 4000000 in
set_option maxRecDepth 100000 in
theorem sX6_waysFrom_3 (l : Launch) (D : hp_D) (T : hp_T) (ap0 : Nat) (xp1 : Int32) (xp2 : Int32) (ip0 : isShuns T ap0) (bp1 : iv xp1 3 3) : Met l yX6_waysFrom wsX6_waysFrom ({ frames := 13, cells := 0, slots := 0, locals := 325 }) (hp_Pc D T [.ref ap0, .int xp1, .int xp2] (fun _ => True)) (hq_e D T (fun v _ _ => ∃ r : Int32, v = some (.int r) ∧ True)) 0 0 (hp_F T) := by
  obtain ⟨ap0le, ap0gr, ap0du, ap0it, ap0op, hp0, hp0le, hp0gr, hp0du, hp0it, hp0op⟩ := id ip0
  refine Met.ofW (cc := cX6_waysFrom) (maxL := 6) (ret := (some .int)) (by decide) rfl ?_
  intro p e s m args below meth c s₁ B hml hv
  obtain ⟨rfl, hok, hG, hB⟩ := hv
  have hx := B.exec
  have hb := B.bytes
  have hr := B.returns
  have hts := atoms_spec (ws := wsX6_waysFrom) B.pre
  have hown : s.vm.findClass RX6 = some m.cls := findClass_of_methodNamed B.named
  have hlocks := B.notSynchronized
  have hK := hG.1
  have hw : hp_w D T s s.heap [] := hp_w.rf hok
  have IX6 : ∀ w ∈ wsX60, w ∈ wsX6_waysFrom := by decide +kernel
  have L9 := hts (.fieldLink RX6 9 "PalmCensus$Shuns" "twos" "I") (by decide +kernel)
  have L15 := hts (.fieldLink RX6 15 "PalmCensus$Shuns" "lesser" "[I") (by decide +kernel)
  have L19 := hts (.fieldLink RX6 19 "PalmCensus$Shuns" "greater" "[I") (by decide +kernel)
  have L25 := hts (.fieldLink RX6 25 "PalmCensus$Shuns" "isTold" "[Z") (by decide +kernel)
  have L29 := hts (.fieldLink RX6 29 "PalmCensus$Shuns" "open" "[I") (by decide +kernel)
  have L22 := hts (.fieldLink RX6 22 "PalmCensus$Shuns" "due" "[I") (by decide +kernel)
  have hl := lv_entry ([.ref ap0, .int xp1, .int xp2]) (n := 6) (Nat.le_of_ble_eq_true rfl)
  rw [lg_entry_eq]
  generalize (lg_sl ([.ref ap0, .int xp1, .int xp2]) ++ List.replicate (6 - (lg_sl ([.ref ap0, .int xp1, .int xp2])).length) Slot.unset).toArray = ls at hl ⊢
  have hl : lv_has ls 6 [(0, .ref ap0), (1, .int xp1), (2, .int xp2)] := hl
  show WX6_waysFrom_3 p l e s m below meth c D T ap0 xp1 xp2 s.heap [] (F0 m 0 ls [])
  refine lv_iload_n hx hb dX6_waysFrom_0 rfl (lv_at hl 1 rfl) ?_
  have J12 : ∀ (H : Heap) (locs : List Loc), hp_w D T s H locs → ∀ (ls : Array Slot), lv_has ls 6 [] → WX6_waysFrom_3 p l e s m below meth c D T ap0 xp1 xp2 H locs (F0 m 12 ls []) := by
    intro H12 locs12 hw ls hl
    refine lv_iconst (v := 1) hx hb dX6_waysFrom_12 (by decide) ?_
    exact W.iret (v := 1) hx hb hr (fun t ht hW => ⟨some (.int 1), rfl, ⟨(1 : Int32), rfl, trivial⟩, by rw [ht]; exact hw.1, hw.2.F ht⟩) hw.2.2.2 dX6_waysFrom_13
  refine lv_if_lt (tgt := 12) hx hb dX6_waysFrom_1 (by decide) (fun c1 => ?_) (fun c1 => ?_)
  · exact iv_abs (iv_lt_l c1 bp1 (show iv 0 0 0 from ⟨by decide, by decide⟩)) (by decide)
  · refine lv_iload_n hx hb dX6_waysFrom_4 rfl (lv_at hl 1 rfl) ?_
    refine lv_aload_n hx hb dX6_waysFrom_5 rfl (lv_at hl 0 rfl) ?_
    refine hp_geti hx hb hts IX6 hown hK hw.1 hp0 rfl 0 (by decide) L9 rfl dX6_waysFrom_6 (fun x6 bx6 fx6 => ?_)
    refine lv_icmp_lt (tgt := 14) hx hb dX6_waysFrom_9 (by decide) (fun c9 => ?_) (fun c9 => ?_)
    · have r9tq : iv x6 4 16 := (iv_lt_r c9 bp1 bx6).mono (by decide) (by decide)
      refine lv_aload_n hx hb dX6_waysFrom_14 rfl (lv_at hl 0 rfl) ?_
      refine hp_getr hx hb hts IX6 hown hK hw.1 hp0 rfl 1 (by decide) L15 rfl dX6_waysFrom_15 ?_
      refine lv_iload_n hx hb dX6_waysFrom_18 rfl (lv_at hl 1 rfl) ?_
      refine hp_ialdI hx hb hK hw.1 hp0le (vp_iv bp1 (by decide)) dX6_waysFrom_19 (fun x19 bx19 => ?_)
      refine lv_istore_n (lv' := [(3, .int x19), (0, .ref ap0), (1, .int xp1), (2, .int xp2)]) hx hb dX6_waysFrom_20 rfl hl (by decide) rfl (fun ls hl => ?_)
      refine lv_aload_n hx hb dX6_waysFrom_21 rfl (lv_at hl 1 rfl) ?_
      refine hp_getr hx hb hts IX6 hown hK hw.1 hp0 rfl 2 (by decide) L19 rfl dX6_waysFrom_22 ?_
      refine lv_iload_n hx hb dX6_waysFrom_25 rfl (lv_at hl 2 rfl) ?_
      refine hp_ialdI hx hb hK hw.1 hp0gr (vp_iv bp1 (by decide)) dX6_waysFrom_26 (fun x26 bx26 => ?_)
      refine lv_istore (lv' := [(4, .int x26), (3, .int x19), (0, .ref ap0), (1, .int xp1), (2, .int xp2)]) hx hb dX6_waysFrom_27 hl (by decide) rfl (fun ls hl => ?_)
      refine lv_aload_n hx hb dX6_waysFrom_29 rfl (lv_at hl 2 rfl) ?_
      refine hp_getr hx hb hts IX6 hown hK hw.1 hp0 rfl 4 (by decide) L25 rfl dX6_waysFrom_30 ?_
      refine lv_iload_n hx hb dX6_waysFrom_33 rfl (lv_at hl 1 rfl) ?_
      refine hp_zaldA hx hb hK hw.1 hp0it (vp_iv bx19 (by decide)) dX6_waysFrom_34 (fun x34 => ?_)
      have J68 : iv xp1 3 3 → iv x19 0 9 → iv x26 0 9 → ∀ (H : Heap) (locs : List Loc), hp_w D T s H locs → ∀ (ls : Array Slot), lv_has ls 6 [(0, .ref ap0), (1, .int xp1), (2, .int xp2), (3, .int x19), (4, .int x26)] → WX6_waysFrom_3 p l e s m below meth c D T ap0 xp1 xp2 H locs (F0 m 68 ls []) := by
        intro c68_xp1 c68_x19 c68_x26 H68 locs68 hw ls hl
        refine lv_aload_n hx hb dX6_waysFrom_68 rfl (lv_at hl 0 rfl) ?_
        refine hp_getr hx hb hts IX6 hown hK hw.1 hp0 rfl 5 (by decide) L29 rfl dX6_waysFrom_69 ?_
        refine lv_iload_n hx hb dX6_waysFrom_72 rfl (lv_at hl 3 rfl) ?_
        refine lv_dup2_11 hx hb dX6_waysFrom_73 rfl rfl ?_
        refine hp_ialdA hx hb hK hw.1 hp0op (vp_iv c68_x19 (by decide)) dX6_waysFrom_74 (fun x74 => ?_)
        refine lv_iconst (v := 1) hx hb dX6_waysFrom_75 (by decide) ?_
        refine lv_isub hx hb dX6_waysFrom_76 ?_
        refine lv_topi (fun x76 ex76 => ?_)
        refine hp_iast hx hb hK hw hp0op (vp_iv c68_x19 (by decide)) ⟨_, rfl⟩ dX6_waysFrom_77 (fun H77 locs77 hw g77 => ?_)
        refine lv_aload_n hx hb dX6_waysFrom_78 rfl (lv_at hl 0 rfl) ?_
        refine hp_getr hx hb hts IX6 hown hK hw.1 hp0 rfl 5 (by decide) L29 rfl dX6_waysFrom_79 ?_
        refine lv_iload hx hb dX6_waysFrom_82 (lv_at hl 4 rfl) ?_
        refine lv_dup2_11 hx hb dX6_waysFrom_84 rfl rfl ?_
        refine hp_ialdA hx hb hK hw.1 hp0op (vp_iv c68_x26 (by decide)) dX6_waysFrom_85 (fun x85 => ?_)
        refine lv_iconst (v := 1) hx hb dX6_waysFrom_86 (by decide) ?_
        refine lv_isub hx hb dX6_waysFrom_87 ?_
        refine lv_topi (fun x87 ex87 => ?_)
        refine hp_iast hx hb hK hw hp0op (vp_iv c68_x26 (by decide)) ⟨_, rfl⟩ dX6_waysFrom_88 (fun H88 locs88 hw g88 => ?_)
        refine lv_iconst (v := 0) hx hb dX6_waysFrom_89 (by decide) ?_
        refine lv_istore (lv' := [(5, .int 0), (0, .ref ap0), (1, .int xp1), (2, .int xp2), (3, .int x19), (4, .int x26)]) hx hb dX6_waysFrom_90 hl (by decide) rfl (fun ls hl => ?_)
        refine lv_iload_n hx hb dX6_waysFrom_92 rfl (lv_at hl 2 rfl) ?_
        refine lv_iload_n hx hb dX6_waysFrom_93 rfl (lv_at hl 3 rfl) ?_
        have J127 : ∀ (y127_l5 : Int32), iv xp1 3 3 → iv x19 0 9 → iv x26 0 9 → ∀ (H : Heap) (locs : List Loc), hp_w D T s H locs → ∀ (ls : Array Slot), lv_has ls 6 [(0, .ref ap0), (1, .int xp1), (2, .int xp2), (3, .int x19), (4, .int x26), (5, .int y127_l5)] → WX6_waysFrom_3 p l e s m below meth c D T ap0 xp1 xp2 H locs (F0 m 127 ls []) := by
          intro y127_l5 c127_xp1 c127_x19 c127_x26 H127 locs127 hw ls hl
          refine lv_aload_n hx hb dX6_waysFrom_127 rfl (lv_at hl 0 rfl) ?_
          refine hp_getr hx hb hts IX6 hown hK hw.1 hp0 rfl 3 (by decide) L22 rfl dX6_waysFrom_128 ?_
          refine lv_iload_n hx hb dX6_waysFrom_131 rfl (lv_at hl 3 rfl) ?_
          refine lv_dup2_11 hx hb dX6_waysFrom_132 rfl rfl ?_
          refine hp_ialdA hx hb hK hw.1 hp0du (vp_iv c127_x19 (by decide)) dX6_waysFrom_133 (fun x133 => ?_)
          refine lv_iconst (v := 1) hx hb dX6_waysFrom_134 (by decide) ?_
          refine lv_isub hx hb dX6_waysFrom_135 ?_
          refine lv_topi (fun x135 ex135 => ?_)
          refine hp_iast hx hb hK hw hp0du (vp_iv c127_x19 (by decide)) ⟨_, rfl⟩ dX6_waysFrom_136 (fun H136 locs136 hw g136 => ?_)
          refine lv_aload_n hx hb dX6_waysFrom_137 rfl (lv_at hl 0 rfl) ?_
          refine hp_getr hx hb hts IX6 hown hK hw.1 hp0 rfl 3 (by decide) L22 rfl dX6_waysFrom_138 ?_
          refine lv_iload hx hb dX6_waysFrom_141 (lv_at hl 4 rfl) ?_
          refine lv_dup2_11 hx hb dX6_waysFrom_143 rfl rfl ?_
          refine hp_ialdA hx hb hK hw.1 hp0du (vp_iv c127_x26 (by decide)) dX6_waysFrom_144 (fun x144 => ?_)
          refine lv_iconst (v := 1) hx hb dX6_waysFrom_145 (by decide) ?_
          refine lv_isub hx hb dX6_waysFrom_146 ?_
          refine lv_topi (fun x146 ex146 => ?_)
          refine hp_iast hx hb hK hw hp0du (vp_iv c127_x26 (by decide)) ⟨_, rfl⟩ dX6_waysFrom_147 (fun H147 locs147 hw g147 => ?_)
          refine lv_aload_n hx hb dX6_waysFrom_148 rfl (lv_at hl 0 rfl) ?_
          refine lv_iload_n hx hb dX6_waysFrom_149 rfl (lv_at hl 3 rfl) ?_
          refine hp_callpi (va_runV (As := [.int x19]) (rest := []) ⟨hx, hb, hml, hown, hts⟩ (sX6_canStillBe l D T ap0 x19 ip0 c127_x19) (cwV 1 hts gX6_waysFrom_X6_canStillBe rfl rfl rfl (by decide +kernel) ⟨Nat.le_of_ble_eq_true rfl, Nat.le_of_ble_eq_true rfl⟩) (hp_preV hG hw hp0 rfl trivial) rfl rfl hl.1 rfl (lv_room (Nat.le_of_ble_eq_true rfl)) dX6_waysFrom_150 ⟨Nat.zero_le _, Nat.zero_le _⟩) (fun x150 bx150 => ?_)
          have J178 : ∀ (y178_l5 : Int32), iv x19 0 9 → iv x26 0 9 → ∀ (H : Heap) (locs : List Loc), hp_w D T s H locs → ∀ (ls : Array Slot), lv_has ls 6 [(0, .ref ap0), (3, .int x19), (4, .int x26), (5, .int y178_l5)] → WX6_waysFrom_3 p l e s m below meth c D T ap0 xp1 xp2 H locs (F0 m 178 ls []) := by
            intro y178_l5 c178_x19 c178_x26 H178 locs178 hw ls hl
            refine lv_aload_n hx hb dX6_waysFrom_178 rfl (lv_at hl 0 rfl) ?_
            refine hp_getr hx hb hts IX6 hown hK hw.1 hp0 rfl 3 (by decide) L22 rfl dX6_waysFrom_179 ?_
            refine lv_iload_n hx hb dX6_waysFrom_182 rfl (lv_at hl 1 rfl) ?_
            refine lv_dup2_11 hx hb dX6_waysFrom_183 rfl rfl ?_
            refine hp_ialdA hx hb hK hw.1 hp0du (vp_iv c178_x19 (by decide)) dX6_waysFrom_184 (fun x184 => ?_)
            refine lv_iconst (v := 1) hx hb dX6_waysFrom_185 (by decide) ?_
            refine lv_iadd hx hb dX6_waysFrom_186 ?_
            refine lv_topi (fun x186 ex186 => ?_)
            refine hp_iast hx hb hK hw hp0du (vp_iv c178_x19 (by decide)) ⟨_, rfl⟩ dX6_waysFrom_187 (fun H187 locs187 hw g187 => ?_)
            refine lv_aload_n hx hb dX6_waysFrom_188 rfl (lv_at hl 0 rfl) ?_
            refine hp_getr hx hb hts IX6 hown hK hw.1 hp0 rfl 3 (by decide) L22 rfl dX6_waysFrom_189 ?_
            refine lv_iload hx hb dX6_waysFrom_192 (lv_at hl 2 rfl) ?_
            refine lv_dup2_11 hx hb dX6_waysFrom_194 rfl rfl ?_
            refine hp_ialdA hx hb hK hw.1 hp0du (vp_iv c178_x26 (by decide)) dX6_waysFrom_195 (fun x195 => ?_)
            refine lv_iconst (v := 1) hx hb dX6_waysFrom_196 (by decide) ?_
            refine lv_iadd hx hb dX6_waysFrom_197 ?_
            refine lv_topi (fun x197 ex197 => ?_)
            refine hp_iast hx hb hK hw hp0du (vp_iv c178_x26 (by decide)) ⟨_, rfl⟩ dX6_waysFrom_198 (fun H198 locs198 hw g198 => ?_)
            refine lv_aload_n hx hb dX6_waysFrom_199 rfl (lv_at hl 0 rfl) ?_
            refine hp_getr hx hb hts IX6 hown hK hw.1 hp0 rfl 5 (by decide) L29 rfl dX6_waysFrom_200 ?_
            refine lv_iload_n hx hb dX6_waysFrom_203 rfl (lv_at hl 1 rfl) ?_
            refine lv_dup2_11 hx hb dX6_waysFrom_204 rfl rfl ?_
            refine hp_ialdA hx hb hK hw.1 hp0op (vp_iv c178_x19 (by decide)) dX6_waysFrom_205 (fun x205 => ?_)
            refine lv_iconst (v := 1) hx hb dX6_waysFrom_206 (by decide) ?_
            refine lv_iadd hx hb dX6_waysFrom_207 ?_
            refine lv_topi (fun x207 ex207 => ?_)
            refine hp_iast hx hb hK hw hp0op (vp_iv c178_x19 (by decide)) ⟨_, rfl⟩ dX6_waysFrom_208 (fun H208 locs208 hw g208 => ?_)
            refine lv_aload_n hx hb dX6_waysFrom_209 rfl (lv_at hl 0 rfl) ?_
            refine hp_getr hx hb hts IX6 hown hK hw.1 hp0 rfl 5 (by decide) L29 rfl dX6_waysFrom_210 ?_
            refine lv_iload hx hb dX6_waysFrom_213 (lv_at hl 2 rfl) ?_
            refine lv_dup2_11 hx hb dX6_waysFrom_215 rfl rfl ?_
            refine hp_ialdA hx hb hK hw.1 hp0op (vp_iv c178_x26 (by decide)) dX6_waysFrom_216 (fun x216 => ?_)
            refine lv_iconst (v := 1) hx hb dX6_waysFrom_217 (by decide) ?_
            refine lv_iadd hx hb dX6_waysFrom_218 ?_
            refine lv_topi (fun x218 ex218 => ?_)
            refine hp_iast hx hb hK hw hp0op (vp_iv c178_x26 (by decide)) ⟨_, rfl⟩ dX6_waysFrom_219 (fun H219 locs219 hw g219 => ?_)
            refine lv_iload hx hb dX6_waysFrom_220 (lv_at hl 3 rfl) ?_
            exact W.iret (v := y178_l5) hx hb hr (fun t ht hW => ⟨some (.int y178_l5), rfl, ⟨y178_l5, rfl, trivial⟩, by rw [ht]; exact hw.1, hw.2.F ht⟩) hw.2.2.2 dX6_waysFrom_222
          refine lv_if_eq (tgt := 178) hx hb dX6_waysFrom_153 (by decide) (fun c153 => ?_) (fun c153 => ?_)
          · have r153tp : iv x150 0 0 := (iv_both bx150 (iv_eq (show iv 0 0 0 from ⟨by decide, by decide⟩) c153)).mono (by decide) (by decide)
            exact J178 y127_l5 c127_x19 c127_x26 H147 locs147 hw _ (lv_sub hl [0, 3, 4, 5] rfl)
          · have r153fp : iv x150 1 1 := (iv_ne_lo c153 bx150 rfl).mono (by decide) (by decide)
            refine lv_aload_n hx hb dX6_waysFrom_156 rfl (lv_at hl 0 rfl) ?_
            refine lv_iload hx hb dX6_waysFrom_157 (lv_at hl 4 rfl) ?_
            refine hp_callpi (va_runV (As := [.int x26]) (rest := []) ⟨hx, hb, hml, hown, hts⟩ (sX6_canStillBe l D T ap0 x26 ip0 c127_x26) (cwV 1 hts gX6_waysFrom_X6_canStillBe rfl rfl rfl (by decide +kernel) ⟨Nat.le_of_ble_eq_true rfl, Nat.le_of_ble_eq_true rfl⟩) (hp_preV hG hw hp0 rfl trivial) rfl rfl hl.1 rfl (lv_room (Nat.le_of_ble_eq_true rfl)) dX6_waysFrom_159 ⟨Nat.zero_le _, Nat.zero_le _⟩) (fun x159 bx159 => ?_)
            refine lv_if_eq (tgt := 178) hx hb dX6_waysFrom_162 (by decide) (fun c162 => ?_) (fun c162 => ?_)
            · have r162tp : iv x159 0 0 := (iv_both bx159 (iv_eq (show iv 0 0 0 from ⟨by decide, by decide⟩) c162)).mono (by decide) (by decide)
              exact J178 y127_l5 c127_x19 c127_x26 H147 locs147 hw _ (lv_sub hl [0, 3, 4, 5] rfl)
            · have r162fp : iv x159 1 1 := (iv_ne_lo c162 bx159 rfl).mono (by decide) (by decide)
              refine lv_iload hx hb dX6_waysFrom_165 (lv_at hl 5 rfl) ?_
              refine lv_aload_n hx hb dX6_waysFrom_167 rfl (lv_at hl 0 rfl) ?_
              refine lv_iload_n hx hb dX6_waysFrom_168 rfl (lv_at hl 1 rfl) ?_
              refine lv_iconst (v := 1) hx hb dX6_waysFrom_169 (by decide) ?_
              refine lv_iadd hx hb dX6_waysFrom_170 ?_
              refine lv_topi (fun x170 ex170 => ?_)
              have bx170 : iv x170 4 4 := iv_add c127_xp1 (show iv 1 1 1 from ⟨by decide, by decide⟩) ex170 (by decide)
              have qx170 := iv_add_eq c127_xp1 (show iv 1 1 1 from ⟨by decide, by decide⟩) ex170 (by decide)
              refine lv_iload_n hx hb dX6_waysFrom_171 rfl (lv_at hl 2 rfl) ?_
              refine hp_callei (va_runV (As := [.int x170, .int xp2]) (rest := [.int y127_l5]) ⟨hx, hb, hml, hown, hts⟩ (sX6_waysFrom_4 l D T ap0 x170 xp2 ip0 bx170) (cwV 2 hts gX6_waysFrom_X6_waysFrom rfl rfl rfl (by decide +kernel) ⟨Nat.le_of_ble_eq_true rfl, Nat.le_of_ble_eq_true rfl⟩) (hp_preV hG hw hp0 rfl trivial) rfl rfl hl.1 rfl (lv_room (Nat.le_of_ble_eq_true rfl)) dX6_waysFrom_172 ⟨Nat.zero_le _, Nat.zero_le _⟩) hw (fun x172 st172 t172 H172 locs172 eh172 eg172 bx172 hw => ?_)
              refine lv_iadd hx hb dX6_waysFrom_175 ?_
              refine lv_topi (fun x175 ex175 => ?_)
              refine lv_istore (lv' := [(5, .int x175), (0, .ref ap0), (1, .int xp1), (2, .int xp2), (3, .int x19), (4, .int x26)]) hx hb dX6_waysFrom_176 hl (by decide) rfl (fun ls hl => ?_)
              exact J178 x175 c127_x19 c127_x26 H172 locs172 hw _ (lv_sub hl [1, 4, 5, 0] rfl)
        refine lv_icmp_eq (tgt := 127) hx hb dX6_waysFrom_94 (by decide) (fun c94 => ?_) (fun c94 => ?_)
        · have r94tq : iv xp2 3 3 := (iv_both (iv_any xp2) (iv_eq c68_xp1 c94.symm)).mono (by decide) (by decide)
          exact J127 (0 : Int32) c68_xp1 c68_x19 c68_x26 H88 locs88 hw _ (lv_sub hl [1, 2, 3, 4, 5, 0] rfl)
        · refine lv_aload_n hx hb dX6_waysFrom_97 rfl (lv_at hl 1 rfl) ?_
          refine lv_iload_n hx hb dX6_waysFrom_98 rfl (lv_at hl 4 rfl) ?_
          refine hp_callpi (va_runV (As := [.int x19]) (rest := []) ⟨hx, hb, hml, hown, hts⟩ (sX6_canStillBe l D T ap0 x19 ip0 c68_x19) (cwV 1 hts gX6_waysFrom_X6_canStillBe rfl rfl rfl (by decide +kernel) ⟨Nat.le_of_ble_eq_true rfl, Nat.le_of_ble_eq_true rfl⟩) (hp_preV hG hw hp0 rfl trivial) rfl rfl hl.1 rfl (lv_room (Nat.le_of_ble_eq_true rfl)) dX6_waysFrom_99 ⟨Nat.zero_le _, Nat.zero_le _⟩) (fun x99 bx99 => ?_)
          refine lv_if_eq (tgt := 127) hx hb dX6_waysFrom_102 (by decide) (fun c102 => ?_) (fun c102 => ?_)
          · have r102tp : iv x99 0 0 := (iv_both bx99 (iv_eq (show iv 0 0 0 from ⟨by decide, by decide⟩) c102)).mono (by decide) (by decide)
            exact J127 (0 : Int32) c68_xp1 c68_x19 c68_x26 H88 locs88 hw _ (lv_sub hl [1, 2, 3, 4, 5, 0] rfl)
          · have r102fp : iv x99 1 1 := (iv_ne_lo c102 bx99 rfl).mono (by decide) (by decide)
            refine lv_aload_n hx hb dX6_waysFrom_105 rfl (lv_at hl 1 rfl) ?_
            refine lv_iload hx hb dX6_waysFrom_106 (lv_at hl 5 rfl) ?_
            refine hp_callpi (va_runV (As := [.int x26]) (rest := []) ⟨hx, hb, hml, hown, hts⟩ (sX6_canStillBe l D T ap0 x26 ip0 c68_x26) (cwV 1 hts gX6_waysFrom_X6_canStillBe rfl rfl rfl (by decide +kernel) ⟨Nat.le_of_ble_eq_true rfl, Nat.le_of_ble_eq_true rfl⟩) (hp_preV hG hw hp0 rfl trivial) rfl rfl hl.1 rfl (lv_room (Nat.le_of_ble_eq_true rfl)) dX6_waysFrom_108 ⟨Nat.zero_le _, Nat.zero_le _⟩) (fun x108 bx108 => ?_)
            refine lv_if_eq (tgt := 127) hx hb dX6_waysFrom_111 (by decide) (fun c111 => ?_) (fun c111 => ?_)
            · have r111tp : iv x108 0 0 := (iv_both bx108 (iv_eq (show iv 0 0 0 from ⟨by decide, by decide⟩) c111)).mono (by decide) (by decide)
              exact J127 (0 : Int32) c68_xp1 c68_x19 c68_x26 H88 locs88 hw _ (lv_sub hl [1, 2, 3, 4, 5, 0] rfl)
            · have r111fp : iv x108 1 1 := (iv_ne_lo c111 bx108 rfl).mono (by decide) (by decide)
              refine lv_iload hx hb dX6_waysFrom_114 (lv_at hl 0 rfl) ?_
              refine lv_aload_n hx hb dX6_waysFrom_116 rfl (lv_at hl 1 rfl) ?_
              refine lv_iload_n hx hb dX6_waysFrom_117 rfl (lv_at hl 2 rfl) ?_
              refine lv_iconst (v := 1) hx hb dX6_waysFrom_118 (by decide) ?_
              refine lv_iadd hx hb dX6_waysFrom_119 ?_
              refine lv_topi (fun x119 ex119 => ?_)
              have bx119 : iv x119 4 4 := iv_add c68_xp1 (show iv 1 1 1 from ⟨by decide, by decide⟩) ex119 (by decide)
              have qx119 := iv_add_eq c68_xp1 (show iv 1 1 1 from ⟨by decide, by decide⟩) ex119 (by decide)
              refine lv_iload_n hx hb dX6_waysFrom_120 rfl (lv_at hl 3 rfl) ?_
              refine hp_callei (va_runV (As := [.int x119, .int xp2]) (rest := [.int 0]) ⟨hx, hb, hml, hown, hts⟩ (sX6_waysFrom_4 l D T ap0 x119 xp2 ip0 bx119) (cwV 2 hts gX6_waysFrom_X6_waysFrom rfl rfl rfl (by decide +kernel) ⟨Nat.le_of_ble_eq_true rfl, Nat.le_of_ble_eq_true rfl⟩) (hp_preV hG hw hp0 rfl trivial) rfl rfl hl.1 rfl (lv_room (Nat.le_of_ble_eq_true rfl)) dX6_waysFrom_121 ⟨Nat.zero_le _, Nat.zero_le _⟩) hw (fun x121 st121 t121 H121 locs121 eh121 eg121 bx121 hw => ?_)
              refine lv_iadd hx hb dX6_waysFrom_124 ?_
              refine lv_topi (fun x124 ex124 => ?_)
              have qx124 := iv_add_eq (show iv 0 0 0 from ⟨by decide, by decide⟩) (iv_any x121) ex124 (by decide)
              refine lv_istore (lv' := [(5, .int x124), (0, .ref ap0), (1, .int xp1), (2, .int xp2), (3, .int x19), (4, .int x26)]) hx hb dX6_waysFrom_125 hl (by decide) rfl (fun ls hl => ?_)
              exact J127 x124 c68_xp1 c68_x19 c68_x26 H121 locs121 hw _ (lv_sub hl [1, 2, 3, 4, 5, 0] rfl)
      refine lv_if_ne (tgt := 68) hx hb dX6_waysFrom_35 (by decide) (fun c35 => ?_) (fun c35 => ?_)
      · exact J68 bp1 bx19 bx26 s.heap [] hw _ (lv_sub hl [2, 3, 4, 1, 0] rfl)
      · have r35fp : iv x34 0 0 := (iv_both (iv_any x34) (iv_eq (show iv 0 0 0 from ⟨by decide, by decide⟩) c35)).mono (by decide) (by decide)
        refine lv_aload_n hx hb dX6_waysFrom_38 rfl (lv_at hl 2 rfl) ?_
        refine hp_getr hx hb hts IX6 hown hK hw.1 hp0 rfl 4 (by decide) L25 rfl dX6_waysFrom_39 ?_
        refine lv_iload hx hb dX6_waysFrom_42 (lv_at hl 0 rfl) ?_
        refine hp_zaldA hx hb hK hw.1 hp0it (vp_iv bx26 (by decide)) dX6_waysFrom_44 (fun x44 => ?_)
        refine lv_if_ne (tgt := 68) hx hb dX6_waysFrom_45 (by decide) (fun c45 => ?_) (fun c45 => ?_)
        · exact J68 bp1 bx19 bx26 s.heap [] hw _ (lv_sub hl [2, 3, 4, 1, 0] rfl)
        · have r45fp : iv x44 0 0 := (iv_both (iv_any x44) (iv_eq (show iv 0 0 0 from ⟨by decide, by decide⟩) c45)).mono (by decide) (by decide)
          refine lv_iload_n hx hb dX6_waysFrom_48 rfl (lv_at hl 3 rfl) ?_
          refine lv_iload_n hx hb dX6_waysFrom_49 rfl (lv_at hl 4 rfl) ?_
          have J58 : ∀ (y58_s0 : Int32), iv xp1 3 3 → iv y58_s0 1 2 → ∀ (H : Heap) (locs : List Loc), hp_w D T s H locs → ∀ (ls : Array Slot), lv_has ls 6 [(0, .ref ap0), (1, .int xp1), (2, .int xp2)] → WX6_waysFrom_3 p l e s m below meth c D T ap0 xp1 xp2 H locs (F0 m 58 ls [.int y58_s0]) := by
            intro y58_s0 c58_xp1 c58_y58_s0 H58 locs58 hw ls hl
            refine lv_aload_n hx hb dX6_waysFrom_58 rfl (lv_at hl 0 rfl) ?_
            refine lv_iload_n hx hb dX6_waysFrom_59 rfl (lv_at hl 1 rfl) ?_
            refine lv_iconst (v := 1) hx hb dX6_waysFrom_60 (by decide) ?_
            refine lv_iadd hx hb dX6_waysFrom_61 ?_
            refine lv_topi (fun x61 ex61 => ?_)
            have bx61 : iv x61 4 4 := iv_add c58_xp1 (show iv 1 1 1 from ⟨by decide, by decide⟩) ex61 (by decide)
            have qx61 := iv_add_eq c58_xp1 (show iv 1 1 1 from ⟨by decide, by decide⟩) ex61 (by decide)
            refine lv_iload_n hx hb dX6_waysFrom_62 rfl (lv_at hl 2 rfl) ?_
            refine hp_callei (va_runV (As := [.int x61, .int xp2]) (rest := [.int y58_s0]) ⟨hx, hb, hml, hown, hts⟩ (sX6_waysFrom_4 l D T ap0 x61 xp2 ip0 bx61) (cwV 2 hts gX6_waysFrom_X6_waysFrom rfl rfl rfl (by decide +kernel) ⟨Nat.le_of_ble_eq_true rfl, Nat.le_of_ble_eq_true rfl⟩) (hp_preV hG hw hp0 rfl trivial) rfl rfl hl.1 rfl (lv_room (Nat.le_of_ble_eq_true rfl)) dX6_waysFrom_63 ⟨Nat.zero_le _, Nat.zero_le _⟩) hw (fun x63 st63 t63 H63 locs63 eh63 eg63 bx63 hw => ?_)
            refine lv_imul hx hb dX6_waysFrom_66 ?_
            refine lv_topi (fun x66 ex66 => ?_)
            exact W.iret (v := x66) hx hb hr (fun t ht hW => ⟨some (.int x66), rfl, ⟨x66, rfl, trivial⟩, by rw [ht]; exact hw.1, hw.2.F ht⟩) hw.2.2.2 dX6_waysFrom_67
          refine lv_icmp_ne (tgt := 57) hx hb dX6_waysFrom_50 (by decide) (fun c50 => ?_) (fun c50 => ?_)
          · refine lv_iconst (v := 2) hx hb dX6_waysFrom_57 (by decide) ?_
            exact J58 (2 : Int32) bp1 (show iv 2 1 2 from ⟨by decide, by decide⟩) s.heap [] hw _ (lv_sub hl [2, 3, 4] rfl)
          · have r50fq : iv xp2 3 3 := (iv_both (iv_any xp2) (iv_eq bp1 c50.symm)).mono (by decide) (by decide)
            refine lv_iconst (v := 1) hx hb dX6_waysFrom_53 (by decide) ?_
            refine lv_goto (tgt := 58) hx hb dX6_waysFrom_54 (by decide) ?_
            exact J58 (1 : Int32) bp1 (show iv 1 1 2 from ⟨by decide, by decide⟩) s.heap [] hw _ (lv_sub hl [2, 3, 4] rfl)
    · have r9fp : iv x6 0 3 := (iv_le_l (iv_nlt c9) bx6 bp1).mono (by decide) (by decide)
      exact J12 s.heap [] hw _ (lv_sub hl [] rfl)
abbrev WX6_waysFrom_2 (p : Program) (l : Launch) (e : Env) (s : State) (m : MethodId) (below : List Frame) (meth : Method) (c : Code) (D : hp_D) (T : hp_T) (ap0 : Nat) (xp1 : Int32) (xp2 : Int32) (H : Heap) (locs : List Loc) (g : JFrame) : Prop := W p l e (headSpec wsX6_waysFrom ({ frames := 14, cells := 0, slots := 0, locals := 350 })).room s m ([.ref ap0, .int xp1, .int xp2] : List Value).toArray below meth c H locs 0 0 (MQ below (hq_e D T (fun v _ _ => ∃ r : Int32, v = some (.int r) ∧ True)) ([.ref ap0, .int xp1, .int xp2] : List Value).toArray s 0 0 (hp_F T)) g
set_option maxHeartbeats 4000000 in
set_option maxRecDepth 100000 in
theorem sX6_waysFrom_2 (l : Launch) (D : hp_D) (T : hp_T) (ap0 : Nat) (xp1 : Int32) (xp2 : Int32) (ip0 : isShuns T ap0) (bp1 : iv xp1 2 2) : Met l yX6_waysFrom wsX6_waysFrom ({ frames := 14, cells := 0, slots := 0, locals := 350 }) (hp_Pc D T [.ref ap0, .int xp1, .int xp2] (fun _ => True)) (hq_e D T (fun v _ _ => ∃ r : Int32, v = some (.int r) ∧ True)) 0 0 (hp_F T) := by
  obtain ⟨ap0le, ap0gr, ap0du, ap0it, ap0op, hp0, hp0le, hp0gr, hp0du, hp0it, hp0op⟩ := id ip0
  refine Met.ofW (cc := cX6_waysFrom) (maxL := 6) (ret := (some .int)) (by decide) rfl ?_
  intro p e s m args below meth c s₁ B hml hv
  obtain ⟨rfl, hok, hG, hB⟩ := hv
  have hx := B.exec
  have hb := B.bytes
  have hr := B.returns
  have hts := atoms_spec (ws := wsX6_waysFrom) B.pre
  have hown : s.vm.findClass RX6 = some m.cls := findClass_of_methodNamed B.named
  have hlocks := B.notSynchronized
  have hK := hG.1
  have hw : hp_w D T s s.heap [] := hp_w.rf hok
  have IX6 : ∀ w ∈ wsX60, w ∈ wsX6_waysFrom := by decide +kernel
  have L9 := hts (.fieldLink RX6 9 "PalmCensus$Shuns" "twos" "I") (by decide +kernel)
  have L15 := hts (.fieldLink RX6 15 "PalmCensus$Shuns" "lesser" "[I") (by decide +kernel)
  have L19 := hts (.fieldLink RX6 19 "PalmCensus$Shuns" "greater" "[I") (by decide +kernel)
  have L25 := hts (.fieldLink RX6 25 "PalmCensus$Shuns" "isTold" "[Z") (by decide +kernel)
  have L29 := hts (.fieldLink RX6 29 "PalmCensus$Shuns" "open" "[I") (by decide +kernel)
  have L22 := hts (.fieldLink RX6 22 "PalmCensus$Shuns" "due" "[I") (by decide +kernel)
  have hl := lv_entry ([.ref ap0, .int xp1, .int xp2]) (n := 6) (Nat.le_of_ble_eq_true rfl)
  rw [lg_entry_eq]
  generalize (lg_sl ([.ref ap0, .int xp1, .int xp2]) ++ List.replicate (6 - (lg_sl ([.ref ap0, .int xp1, .int xp2])).length) Slot.unset).toArray = ls at hl ⊢
  have hl : lv_has ls 6 [(0, .ref ap0), (1, .int xp1), (2, .int xp2)] := hl
  show WX6_waysFrom_2 p l e s m below meth c D T ap0 xp1 xp2 s.heap [] (F0 m 0 ls [])
  refine lv_iload_n hx hb dX6_waysFrom_0 rfl (lv_at hl 1 rfl) ?_
  have J12 : ∀ (H : Heap) (locs : List Loc), hp_w D T s H locs → ∀ (ls : Array Slot), lv_has ls 6 [] → WX6_waysFrom_2 p l e s m below meth c D T ap0 xp1 xp2 H locs (F0 m 12 ls []) := by
    intro H12 locs12 hw ls hl
    refine lv_iconst (v := 1) hx hb dX6_waysFrom_12 (by decide) ?_
    exact W.iret (v := 1) hx hb hr (fun t ht hW => ⟨some (.int 1), rfl, ⟨(1 : Int32), rfl, trivial⟩, by rw [ht]; exact hw.1, hw.2.F ht⟩) hw.2.2.2 dX6_waysFrom_13
  refine lv_if_lt (tgt := 12) hx hb dX6_waysFrom_1 (by decide) (fun c1 => ?_) (fun c1 => ?_)
  · exact iv_abs (iv_lt_l c1 bp1 (show iv 0 0 0 from ⟨by decide, by decide⟩)) (by decide)
  · refine lv_iload_n hx hb dX6_waysFrom_4 rfl (lv_at hl 1 rfl) ?_
    refine lv_aload_n hx hb dX6_waysFrom_5 rfl (lv_at hl 0 rfl) ?_
    refine hp_geti hx hb hts IX6 hown hK hw.1 hp0 rfl 0 (by decide) L9 rfl dX6_waysFrom_6 (fun x6 bx6 fx6 => ?_)
    refine lv_icmp_lt (tgt := 14) hx hb dX6_waysFrom_9 (by decide) (fun c9 => ?_) (fun c9 => ?_)
    · have r9tq : iv x6 3 16 := (iv_lt_r c9 bp1 bx6).mono (by decide) (by decide)
      refine lv_aload_n hx hb dX6_waysFrom_14 rfl (lv_at hl 0 rfl) ?_
      refine hp_getr hx hb hts IX6 hown hK hw.1 hp0 rfl 1 (by decide) L15 rfl dX6_waysFrom_15 ?_
      refine lv_iload_n hx hb dX6_waysFrom_18 rfl (lv_at hl 1 rfl) ?_
      refine hp_ialdI hx hb hK hw.1 hp0le (vp_iv bp1 (by decide)) dX6_waysFrom_19 (fun x19 bx19 => ?_)
      refine lv_istore_n (lv' := [(3, .int x19), (0, .ref ap0), (1, .int xp1), (2, .int xp2)]) hx hb dX6_waysFrom_20 rfl hl (by decide) rfl (fun ls hl => ?_)
      refine lv_aload_n hx hb dX6_waysFrom_21 rfl (lv_at hl 1 rfl) ?_
      refine hp_getr hx hb hts IX6 hown hK hw.1 hp0 rfl 2 (by decide) L19 rfl dX6_waysFrom_22 ?_
      refine lv_iload_n hx hb dX6_waysFrom_25 rfl (lv_at hl 2 rfl) ?_
      refine hp_ialdI hx hb hK hw.1 hp0gr (vp_iv bp1 (by decide)) dX6_waysFrom_26 (fun x26 bx26 => ?_)
      refine lv_istore (lv' := [(4, .int x26), (3, .int x19), (0, .ref ap0), (1, .int xp1), (2, .int xp2)]) hx hb dX6_waysFrom_27 hl (by decide) rfl (fun ls hl => ?_)
      refine lv_aload_n hx hb dX6_waysFrom_29 rfl (lv_at hl 2 rfl) ?_
      refine hp_getr hx hb hts IX6 hown hK hw.1 hp0 rfl 4 (by decide) L25 rfl dX6_waysFrom_30 ?_
      refine lv_iload_n hx hb dX6_waysFrom_33 rfl (lv_at hl 1 rfl) ?_
      refine hp_zaldA hx hb hK hw.1 hp0it (vp_iv bx19 (by decide)) dX6_waysFrom_34 (fun x34 => ?_)
      have J68 : iv xp1 2 2 → iv x19 0 9 → iv x26 0 9 → ∀ (H : Heap) (locs : List Loc), hp_w D T s H locs → ∀ (ls : Array Slot), lv_has ls 6 [(0, .ref ap0), (1, .int xp1), (2, .int xp2), (3, .int x19), (4, .int x26)] → WX6_waysFrom_2 p l e s m below meth c D T ap0 xp1 xp2 H locs (F0 m 68 ls []) := by
        intro c68_xp1 c68_x19 c68_x26 H68 locs68 hw ls hl
        refine lv_aload_n hx hb dX6_waysFrom_68 rfl (lv_at hl 0 rfl) ?_
        refine hp_getr hx hb hts IX6 hown hK hw.1 hp0 rfl 5 (by decide) L29 rfl dX6_waysFrom_69 ?_
        refine lv_iload_n hx hb dX6_waysFrom_72 rfl (lv_at hl 3 rfl) ?_
        refine lv_dup2_11 hx hb dX6_waysFrom_73 rfl rfl ?_
        refine hp_ialdA hx hb hK hw.1 hp0op (vp_iv c68_x19 (by decide)) dX6_waysFrom_74 (fun x74 => ?_)
        refine lv_iconst (v := 1) hx hb dX6_waysFrom_75 (by decide) ?_
        refine lv_isub hx hb dX6_waysFrom_76 ?_
        refine lv_topi (fun x76 ex76 => ?_)
        refine hp_iast hx hb hK hw hp0op (vp_iv c68_x19 (by decide)) ⟨_, rfl⟩ dX6_waysFrom_77 (fun H77 locs77 hw g77 => ?_)
        refine lv_aload_n hx hb dX6_waysFrom_78 rfl (lv_at hl 0 rfl) ?_
        refine hp_getr hx hb hts IX6 hown hK hw.1 hp0 rfl 5 (by decide) L29 rfl dX6_waysFrom_79 ?_
        refine lv_iload hx hb dX6_waysFrom_82 (lv_at hl 4 rfl) ?_
        refine lv_dup2_11 hx hb dX6_waysFrom_84 rfl rfl ?_
        refine hp_ialdA hx hb hK hw.1 hp0op (vp_iv c68_x26 (by decide)) dX6_waysFrom_85 (fun x85 => ?_)
        refine lv_iconst (v := 1) hx hb dX6_waysFrom_86 (by decide) ?_
        refine lv_isub hx hb dX6_waysFrom_87 ?_
        refine lv_topi (fun x87 ex87 => ?_)
        refine hp_iast hx hb hK hw hp0op (vp_iv c68_x26 (by decide)) ⟨_, rfl⟩ dX6_waysFrom_88 (fun H88 locs88 hw g88 => ?_)
        refine lv_iconst (v := 0) hx hb dX6_waysFrom_89 (by decide) ?_
        refine lv_istore (lv' := [(5, .int 0), (0, .ref ap0), (1, .int xp1), (2, .int xp2), (3, .int x19), (4, .int x26)]) hx hb dX6_waysFrom_90 hl (by decide) rfl (fun ls hl => ?_)
        refine lv_iload_n hx hb dX6_waysFrom_92 rfl (lv_at hl 2 rfl) ?_
        refine lv_iload_n hx hb dX6_waysFrom_93 rfl (lv_at hl 3 rfl) ?_
        have J127 : ∀ (y127_l5 : Int32), iv xp1 2 2 → iv x19 0 9 → iv x26 0 9 → ∀ (H : Heap) (locs : List Loc), hp_w D T s H locs → ∀ (ls : Array Slot), lv_has ls 6 [(0, .ref ap0), (1, .int xp1), (2, .int xp2), (3, .int x19), (4, .int x26), (5, .int y127_l5)] → WX6_waysFrom_2 p l e s m below meth c D T ap0 xp1 xp2 H locs (F0 m 127 ls []) := by
          intro y127_l5 c127_xp1 c127_x19 c127_x26 H127 locs127 hw ls hl
          refine lv_aload_n hx hb dX6_waysFrom_127 rfl (lv_at hl 0 rfl) ?_
          refine hp_getr hx hb hts IX6 hown hK hw.1 hp0 rfl 3 (by decide) L22 rfl dX6_waysFrom_128 ?_
          refine lv_iload_n hx hb dX6_waysFrom_131 rfl (lv_at hl 3 rfl) ?_
          refine lv_dup2_11 hx hb dX6_waysFrom_132 rfl rfl ?_
          refine hp_ialdA hx hb hK hw.1 hp0du (vp_iv c127_x19 (by decide)) dX6_waysFrom_133 (fun x133 => ?_)
          refine lv_iconst (v := 1) hx hb dX6_waysFrom_134 (by decide) ?_
          refine lv_isub hx hb dX6_waysFrom_135 ?_
          refine lv_topi (fun x135 ex135 => ?_)
          refine hp_iast hx hb hK hw hp0du (vp_iv c127_x19 (by decide)) ⟨_, rfl⟩ dX6_waysFrom_136 (fun H136 locs136 hw g136 => ?_)
          refine lv_aload_n hx hb dX6_waysFrom_137 rfl (lv_at hl 0 rfl) ?_
          refine hp_getr hx hb hts IX6 hown hK hw.1 hp0 rfl 3 (by decide) L22 rfl dX6_waysFrom_138 ?_
          refine lv_iload hx hb dX6_waysFrom_141 (lv_at hl 4 rfl) ?_
          refine lv_dup2_11 hx hb dX6_waysFrom_143 rfl rfl ?_
          refine hp_ialdA hx hb hK hw.1 hp0du (vp_iv c127_x26 (by decide)) dX6_waysFrom_144 (fun x144 => ?_)
          refine lv_iconst (v := 1) hx hb dX6_waysFrom_145 (by decide) ?_
          refine lv_isub hx hb dX6_waysFrom_146 ?_
          refine lv_topi (fun x146 ex146 => ?_)
          refine hp_iast hx hb hK hw hp0du (vp_iv c127_x26 (by decide)) ⟨_, rfl⟩ dX6_waysFrom_147 (fun H147 locs147 hw g147 => ?_)
          refine lv_aload_n hx hb dX6_waysFrom_148 rfl (lv_at hl 0 rfl) ?_
          refine lv_iload_n hx hb dX6_waysFrom_149 rfl (lv_at hl 3 rfl) ?_
          refine hp_callpi (va_runV (As := [.int x19]) (rest := []) ⟨hx, hb, hml, hown, hts⟩ (sX6_canStillBe l D T ap0 x19 ip0 c127_x19) (cwV 1 hts gX6_waysFrom_X6_canStillBe rfl rfl rfl (by decide +kernel) ⟨Nat.le_of_ble_eq_true rfl, Nat.le_of_ble_eq_true rfl⟩) (hp_preV hG hw hp0 rfl trivial) rfl rfl hl.1 rfl (lv_room (Nat.le_of_ble_eq_true rfl)) dX6_waysFrom_150 ⟨Nat.zero_le _, Nat.zero_le _⟩) (fun x150 bx150 => ?_)
          have J178 : ∀ (y178_l5 : Int32), iv x19 0 9 → iv x26 0 9 → ∀ (H : Heap) (locs : List Loc), hp_w D T s H locs → ∀ (ls : Array Slot), lv_has ls 6 [(0, .ref ap0), (3, .int x19), (4, .int x26), (5, .int y178_l5)] → WX6_waysFrom_2 p l e s m below meth c D T ap0 xp1 xp2 H locs (F0 m 178 ls []) := by
            intro y178_l5 c178_x19 c178_x26 H178 locs178 hw ls hl
            refine lv_aload_n hx hb dX6_waysFrom_178 rfl (lv_at hl 0 rfl) ?_
            refine hp_getr hx hb hts IX6 hown hK hw.1 hp0 rfl 3 (by decide) L22 rfl dX6_waysFrom_179 ?_
            refine lv_iload_n hx hb dX6_waysFrom_182 rfl (lv_at hl 1 rfl) ?_
            refine lv_dup2_11 hx hb dX6_waysFrom_183 rfl rfl ?_
            refine hp_ialdA hx hb hK hw.1 hp0du (vp_iv c178_x19 (by decide)) dX6_waysFrom_184 (fun x184 => ?_)
            refine lv_iconst (v := 1) hx hb dX6_waysFrom_185 (by decide) ?_
            refine lv_iadd hx hb dX6_waysFrom_186 ?_
            refine lv_topi (fun x186 ex186 => ?_)
            refine hp_iast hx hb hK hw hp0du (vp_iv c178_x19 (by decide)) ⟨_, rfl⟩ dX6_waysFrom_187 (fun H187 locs187 hw g187 => ?_)
            refine lv_aload_n hx hb dX6_waysFrom_188 rfl (lv_at hl 0 rfl) ?_
            refine hp_getr hx hb hts IX6 hown hK hw.1 hp0 rfl 3 (by decide) L22 rfl dX6_waysFrom_189 ?_
            refine lv_iload hx hb dX6_waysFrom_192 (lv_at hl 2 rfl) ?_
            refine lv_dup2_11 hx hb dX6_waysFrom_194 rfl rfl ?_
            refine hp_ialdA hx hb hK hw.1 hp0du (vp_iv c178_x26 (by decide)) dX6_waysFrom_195 (fun x195 => ?_)
            refine lv_iconst (v := 1) hx hb dX6_waysFrom_196 (by decide) ?_
            refine lv_iadd hx hb dX6_waysFrom_197 ?_
            refine lv_topi (fun x197 ex197 => ?_)
            refine hp_iast hx hb hK hw hp0du (vp_iv c178_x26 (by decide)) ⟨_, rfl⟩ dX6_waysFrom_198 (fun H198 locs198 hw g198 => ?_)
            refine lv_aload_n hx hb dX6_waysFrom_199 rfl (lv_at hl 0 rfl) ?_
            refine hp_getr hx hb hts IX6 hown hK hw.1 hp0 rfl 5 (by decide) L29 rfl dX6_waysFrom_200 ?_
            refine lv_iload_n hx hb dX6_waysFrom_203 rfl (lv_at hl 1 rfl) ?_
            refine lv_dup2_11 hx hb dX6_waysFrom_204 rfl rfl ?_
            refine hp_ialdA hx hb hK hw.1 hp0op (vp_iv c178_x19 (by decide)) dX6_waysFrom_205 (fun x205 => ?_)
            refine lv_iconst (v := 1) hx hb dX6_waysFrom_206 (by decide) ?_
            refine lv_iadd hx hb dX6_waysFrom_207 ?_
            refine lv_topi (fun x207 ex207 => ?_)
            refine hp_iast hx hb hK hw hp0op (vp_iv c178_x19 (by decide)) ⟨_, rfl⟩ dX6_waysFrom_208 (fun H208 locs208 hw g208 => ?_)
            refine lv_aload_n hx hb dX6_waysFrom_209 rfl (lv_at hl 0 rfl) ?_
            refine hp_getr hx hb hts IX6 hown hK hw.1 hp0 rfl 5 (by decide) L29 rfl dX6_waysFrom_210 ?_
            refine lv_iload hx hb dX6_waysFrom_213 (lv_at hl 2 rfl) ?_
            refine lv_dup2_11 hx hb dX6_waysFrom_215 rfl rfl ?_
            refine hp_ialdA hx hb hK hw.1 hp0op (vp_iv c178_x26 (by decide)) dX6_waysFrom_216 (fun x216 => ?_)
            refine lv_iconst (v := 1) hx hb dX6_waysFrom_217 (by decide) ?_
            refine lv_iadd hx hb dX6_waysFrom_218 ?_
            refine lv_topi (fun x218 ex218 => ?_)
            refine hp_iast hx hb hK hw hp0op (vp_iv c178_x26 (by decide)) ⟨_, rfl⟩ dX6_waysFrom_219 (fun H219 locs219 hw g219 => ?_)
            refine lv_iload hx hb dX6_waysFrom_220 (lv_at hl 3 rfl) ?_
            exact W.iret (v := y178_l5) hx hb hr (fun t ht hW => ⟨some (.int y178_l5), rfl, ⟨y178_l5, rfl, trivial⟩, by rw [ht]; exact hw.1, hw.2.F ht⟩) hw.2.2.2 dX6_waysFrom_222
          refine lv_if_eq (tgt := 178) hx hb dX6_waysFrom_153 (by decide) (fun c153 => ?_) (fun c153 => ?_)
          · have r153tp : iv x150 0 0 := (iv_both bx150 (iv_eq (show iv 0 0 0 from ⟨by decide, by decide⟩) c153)).mono (by decide) (by decide)
            exact J178 y127_l5 c127_x19 c127_x26 H147 locs147 hw _ (lv_sub hl [0, 3, 4, 5] rfl)
          · have r153fp : iv x150 1 1 := (iv_ne_lo c153 bx150 rfl).mono (by decide) (by decide)
            refine lv_aload_n hx hb dX6_waysFrom_156 rfl (lv_at hl 0 rfl) ?_
            refine lv_iload hx hb dX6_waysFrom_157 (lv_at hl 4 rfl) ?_
            refine hp_callpi (va_runV (As := [.int x26]) (rest := []) ⟨hx, hb, hml, hown, hts⟩ (sX6_canStillBe l D T ap0 x26 ip0 c127_x26) (cwV 1 hts gX6_waysFrom_X6_canStillBe rfl rfl rfl (by decide +kernel) ⟨Nat.le_of_ble_eq_true rfl, Nat.le_of_ble_eq_true rfl⟩) (hp_preV hG hw hp0 rfl trivial) rfl rfl hl.1 rfl (lv_room (Nat.le_of_ble_eq_true rfl)) dX6_waysFrom_159 ⟨Nat.zero_le _, Nat.zero_le _⟩) (fun x159 bx159 => ?_)
            refine lv_if_eq (tgt := 178) hx hb dX6_waysFrom_162 (by decide) (fun c162 => ?_) (fun c162 => ?_)
            · have r162tp : iv x159 0 0 := (iv_both bx159 (iv_eq (show iv 0 0 0 from ⟨by decide, by decide⟩) c162)).mono (by decide) (by decide)
              exact J178 y127_l5 c127_x19 c127_x26 H147 locs147 hw _ (lv_sub hl [0, 3, 4, 5] rfl)
            · have r162fp : iv x159 1 1 := (iv_ne_lo c162 bx159 rfl).mono (by decide) (by decide)
              refine lv_iload hx hb dX6_waysFrom_165 (lv_at hl 5 rfl) ?_
              refine lv_aload_n hx hb dX6_waysFrom_167 rfl (lv_at hl 0 rfl) ?_
              refine lv_iload_n hx hb dX6_waysFrom_168 rfl (lv_at hl 1 rfl) ?_
              refine lv_iconst (v := 1) hx hb dX6_waysFrom_169 (by decide) ?_
              refine lv_iadd hx hb dX6_waysFrom_170 ?_
              refine lv_topi (fun x170 ex170 => ?_)
              have bx170 : iv x170 3 3 := iv_add c127_xp1 (show iv 1 1 1 from ⟨by decide, by decide⟩) ex170 (by decide)
              have qx170 := iv_add_eq c127_xp1 (show iv 1 1 1 from ⟨by decide, by decide⟩) ex170 (by decide)
              refine lv_iload_n hx hb dX6_waysFrom_171 rfl (lv_at hl 2 rfl) ?_
              refine hp_callei (va_runV (As := [.int x170, .int xp2]) (rest := [.int y127_l5]) ⟨hx, hb, hml, hown, hts⟩ (sX6_waysFrom_3 l D T ap0 x170 xp2 ip0 bx170) (cwV 2 hts gX6_waysFrom_X6_waysFrom rfl rfl rfl (by decide +kernel) ⟨Nat.le_of_ble_eq_true rfl, Nat.le_of_ble_eq_true rfl⟩) (hp_preV hG hw hp0 rfl trivial) rfl rfl hl.1 rfl (lv_room (Nat.le_of_ble_eq_true rfl)) dX6_waysFrom_172 ⟨Nat.zero_le _, Nat.zero_le _⟩) hw (fun x172 st172 t172 H172 locs172 eh172 eg172 bx172 hw => ?_)
              refine lv_iadd hx hb dX6_waysFrom_175 ?_
              refine lv_topi (fun x175 ex175 => ?_)
              refine lv_istore (lv' := [(5, .int x175), (0, .ref ap0), (1, .int xp1), (2, .int xp2), (3, .int x19), (4, .int x26)]) hx hb dX6_waysFrom_176 hl (by decide) rfl (fun ls hl => ?_)
              exact J178 x175 c127_x19 c127_x26 H172 locs172 hw _ (lv_sub hl [1, 4, 5, 0] rfl)
        refine lv_icmp_eq (tgt := 127) hx hb dX6_waysFrom_94 (by decide) (fun c94 => ?_) (fun c94 => ?_)
        · have r94tq : iv xp2 2 2 := (iv_both (iv_any xp2) (iv_eq c68_xp1 c94.symm)).mono (by decide) (by decide)
          exact J127 (0 : Int32) c68_xp1 c68_x19 c68_x26 H88 locs88 hw _ (lv_sub hl [1, 2, 3, 4, 5, 0] rfl)
        · refine lv_aload_n hx hb dX6_waysFrom_97 rfl (lv_at hl 1 rfl) ?_
          refine lv_iload_n hx hb dX6_waysFrom_98 rfl (lv_at hl 4 rfl) ?_
          refine hp_callpi (va_runV (As := [.int x19]) (rest := []) ⟨hx, hb, hml, hown, hts⟩ (sX6_canStillBe l D T ap0 x19 ip0 c68_x19) (cwV 1 hts gX6_waysFrom_X6_canStillBe rfl rfl rfl (by decide +kernel) ⟨Nat.le_of_ble_eq_true rfl, Nat.le_of_ble_eq_true rfl⟩) (hp_preV hG hw hp0 rfl trivial) rfl rfl hl.1 rfl (lv_room (Nat.le_of_ble_eq_true rfl)) dX6_waysFrom_99 ⟨Nat.zero_le _, Nat.zero_le _⟩) (fun x99 bx99 => ?_)
          refine lv_if_eq (tgt := 127) hx hb dX6_waysFrom_102 (by decide) (fun c102 => ?_) (fun c102 => ?_)
          · have r102tp : iv x99 0 0 := (iv_both bx99 (iv_eq (show iv 0 0 0 from ⟨by decide, by decide⟩) c102)).mono (by decide) (by decide)
            exact J127 (0 : Int32) c68_xp1 c68_x19 c68_x26 H88 locs88 hw _ (lv_sub hl [1, 2, 3, 4, 5, 0] rfl)
          · have r102fp : iv x99 1 1 := (iv_ne_lo c102 bx99 rfl).mono (by decide) (by decide)
            refine lv_aload_n hx hb dX6_waysFrom_105 rfl (lv_at hl 1 rfl) ?_
            refine lv_iload hx hb dX6_waysFrom_106 (lv_at hl 5 rfl) ?_
            refine hp_callpi (va_runV (As := [.int x26]) (rest := []) ⟨hx, hb, hml, hown, hts⟩ (sX6_canStillBe l D T ap0 x26 ip0 c68_x26) (cwV 1 hts gX6_waysFrom_X6_canStillBe rfl rfl rfl (by decide +kernel) ⟨Nat.le_of_ble_eq_true rfl, Nat.le_of_ble_eq_true rfl⟩) (hp_preV hG hw hp0 rfl trivial) rfl rfl hl.1 rfl (lv_room (Nat.le_of_ble_eq_true rfl)) dX6_waysFrom_108 ⟨Nat.zero_le _, Nat.zero_le _⟩) (fun x108 bx108 => ?_)
            refine lv_if_eq (tgt := 127) hx hb dX6_waysFrom_111 (by decide) (fun c111 => ?_) (fun c111 => ?_)
            · have r111tp : iv x108 0 0 := (iv_both bx108 (iv_eq (show iv 0 0 0 from ⟨by decide, by decide⟩) c111)).mono (by decide) (by decide)
              exact J127 (0 : Int32) c68_xp1 c68_x19 c68_x26 H88 locs88 hw _ (lv_sub hl [1, 2, 3, 4, 5, 0] rfl)
            · have r111fp : iv x108 1 1 := (iv_ne_lo c111 bx108 rfl).mono (by decide) (by decide)
              refine lv_iload hx hb dX6_waysFrom_114 (lv_at hl 0 rfl) ?_
              refine lv_aload_n hx hb dX6_waysFrom_116 rfl (lv_at hl 1 rfl) ?_
              refine lv_iload_n hx hb dX6_waysFrom_117 rfl (lv_at hl 2 rfl) ?_
              refine lv_iconst (v := 1) hx hb dX6_waysFrom_118 (by decide) ?_
              refine lv_iadd hx hb dX6_waysFrom_119 ?_
              refine lv_topi (fun x119 ex119 => ?_)
              have bx119 : iv x119 3 3 := iv_add c68_xp1 (show iv 1 1 1 from ⟨by decide, by decide⟩) ex119 (by decide)
              have qx119 := iv_add_eq c68_xp1 (show iv 1 1 1 from ⟨by decide, by decide⟩) ex119 (by decide)
              refine lv_iload_n hx hb dX6_waysFrom_120 rfl (lv_at hl 3 rfl) ?_
              refine hp_callei (va_runV (As := [.int x119, .int xp2]) (rest := [.int 0]) ⟨hx, hb, hml, hown, hts⟩ (sX6_waysFrom_3 l D T ap0 x119 xp2 ip0 bx119) (cwV 2 hts gX6_waysFrom_X6_waysFrom rfl rfl rfl (by decide +kernel) ⟨Nat.le_of_ble_eq_true rfl, Nat.le_of_ble_eq_true rfl⟩) (hp_preV hG hw hp0 rfl trivial) rfl rfl hl.1 rfl (lv_room (Nat.le_of_ble_eq_true rfl)) dX6_waysFrom_121 ⟨Nat.zero_le _, Nat.zero_le _⟩) hw (fun x121 st121 t121 H121 locs121 eh121 eg121 bx121 hw => ?_)
              refine lv_iadd hx hb dX6_waysFrom_124 ?_
              refine lv_topi (fun x124 ex124 => ?_)
              have qx124 := iv_add_eq (show iv 0 0 0 from ⟨by decide, by decide⟩) (iv_any x121) ex124 (by decide)
              refine lv_istore (lv' := [(5, .int x124), (0, .ref ap0), (1, .int xp1), (2, .int xp2), (3, .int x19), (4, .int x26)]) hx hb dX6_waysFrom_125 hl (by decide) rfl (fun ls hl => ?_)
              exact J127 x124 c68_xp1 c68_x19 c68_x26 H121 locs121 hw _ (lv_sub hl [1, 2, 3, 4, 5, 0] rfl)
      refine lv_if_ne (tgt := 68) hx hb dX6_waysFrom_35 (by decide) (fun c35 => ?_) (fun c35 => ?_)
      · exact J68 bp1 bx19 bx26 s.heap [] hw _ (lv_sub hl [2, 3, 4, 1, 0] rfl)
      · have r35fp : iv x34 0 0 := (iv_both (iv_any x34) (iv_eq (show iv 0 0 0 from ⟨by decide, by decide⟩) c35)).mono (by decide) (by decide)
        refine lv_aload_n hx hb dX6_waysFrom_38 rfl (lv_at hl 2 rfl) ?_
        refine hp_getr hx hb hts IX6 hown hK hw.1 hp0 rfl 4 (by decide) L25 rfl dX6_waysFrom_39 ?_
        refine lv_iload hx hb dX6_waysFrom_42 (lv_at hl 0 rfl) ?_
        refine hp_zaldA hx hb hK hw.1 hp0it (vp_iv bx26 (by decide)) dX6_waysFrom_44 (fun x44 => ?_)
        refine lv_if_ne (tgt := 68) hx hb dX6_waysFrom_45 (by decide) (fun c45 => ?_) (fun c45 => ?_)
        · exact J68 bp1 bx19 bx26 s.heap [] hw _ (lv_sub hl [2, 3, 4, 1, 0] rfl)
        · have r45fp : iv x44 0 0 := (iv_both (iv_any x44) (iv_eq (show iv 0 0 0 from ⟨by decide, by decide⟩) c45)).mono (by decide) (by decide)
          refine lv_iload_n hx hb dX6_waysFrom_48 rfl (lv_at hl 3 rfl) ?_
          refine lv_iload_n hx hb dX6_waysFrom_49 rfl (lv_at hl 4 rfl) ?_
          have J58 : ∀ (y58_s0 : Int32), iv xp1 2 2 → iv y58_s0 1 2 → ∀ (H : Heap) (locs : List Loc), hp_w D T s H locs → ∀ (ls : Array Slot), lv_has ls 6 [(0, .ref ap0), (1, .int xp1), (2, .int xp2)] → WX6_waysFrom_2 p l e s m below meth c D T ap0 xp1 xp2 H locs (F0 m 58 ls [.int y58_s0]) := by
            intro y58_s0 c58_xp1 c58_y58_s0 H58 locs58 hw ls hl
            refine lv_aload_n hx hb dX6_waysFrom_58 rfl (lv_at hl 0 rfl) ?_
            refine lv_iload_n hx hb dX6_waysFrom_59 rfl (lv_at hl 1 rfl) ?_
            refine lv_iconst (v := 1) hx hb dX6_waysFrom_60 (by decide) ?_
            refine lv_iadd hx hb dX6_waysFrom_61 ?_
            refine lv_topi (fun x61 ex61 => ?_)
            have bx61 : iv x61 3 3 := iv_add c58_xp1 (show iv 1 1 1 from ⟨by decide, by decide⟩) ex61 (by decide)
            have qx61 := iv_add_eq c58_xp1 (show iv 1 1 1 from ⟨by decide, by decide⟩) ex61 (by decide)
            refine lv_iload_n hx hb dX6_waysFrom_62 rfl (lv_at hl 2 rfl) ?_
            refine hp_callei (va_runV (As := [.int x61, .int xp2]) (rest := [.int y58_s0]) ⟨hx, hb, hml, hown, hts⟩ (sX6_waysFrom_3 l D T ap0 x61 xp2 ip0 bx61) (cwV 2 hts gX6_waysFrom_X6_waysFrom rfl rfl rfl (by decide +kernel) ⟨Nat.le_of_ble_eq_true rfl, Nat.le_of_ble_eq_true rfl⟩) (hp_preV hG hw hp0 rfl trivial) rfl rfl hl.1 rfl (lv_room (Nat.le_of_ble_eq_true rfl)) dX6_waysFrom_63 ⟨Nat.zero_le _, Nat.zero_le _⟩) hw (fun x63 st63 t63 H63 locs63 eh63 eg63 bx63 hw => ?_)
            refine lv_imul hx hb dX6_waysFrom_66 ?_
            refine lv_topi (fun x66 ex66 => ?_)
            exact W.iret (v := x66) hx hb hr (fun t ht hW => ⟨some (.int x66), rfl, ⟨x66, rfl, trivial⟩, by rw [ht]; exact hw.1, hw.2.F ht⟩) hw.2.2.2 dX6_waysFrom_67
          refine lv_icmp_ne (tgt := 57) hx hb dX6_waysFrom_50 (by decide) (fun c50 => ?_) (fun c50 => ?_)
          · refine lv_iconst (v := 2) hx hb dX6_waysFrom_57 (by decide) ?_
            exact J58 (2 : Int32) bp1 (show iv 2 1 2 from ⟨by decide, by decide⟩) s.heap [] hw _ (lv_sub hl [2, 3, 4] rfl)
          · have r50fq : iv xp2 2 2 := (iv_both (iv_any xp2) (iv_eq bp1 c50.symm)).mono (by decide) (by decide)
            refine lv_iconst (v := 1) hx hb dX6_waysFrom_53 (by decide) ?_
            refine lv_goto (tgt := 58) hx hb dX6_waysFrom_54 (by decide) ?_
            exact J58 (1 : Int32) bp1 (show iv 1 1 2 from ⟨by decide, by decide⟩) s.heap [] hw _ (lv_sub hl [2, 3, 4] rfl)
    · have r9fp : iv x6 0 2 := (iv_le_l (iv_nlt c9) bx6 bp1).mono (by decide) (by decide)
      exact J12 s.heap [] hw _ (lv_sub hl [] rfl)
abbrev WX6_waysFrom_1 (p : Program) (l : Launch) (e : Env) (s : State) (m : MethodId) (below : List Frame) (meth : Method) (c : Code) (D : hp_D) (T : hp_T) (ap0 : Nat) (xp1 : Int32) (xp2 : Int32) (H : Heap) (locs : List Loc) (g : JFrame) : Prop := W p l e (headSpec wsX6_waysFrom ({ frames := 15, cells := 0, slots := 0, locals := 375 })).room s m ([.ref ap0, .int xp1, .int xp2] : List Value).toArray below meth c H locs 0 0 (MQ below (hq_e D T (fun v _ _ => ∃ r : Int32, v = some (.int r) ∧ True)) ([.ref ap0, .int xp1, .int xp2] : List Value).toArray s 0 0 (hp_F T)) g
set_option maxHeartbeats 4000000 in
set_option maxRecDepth 100000 in
theorem sX6_waysFrom_1 (l : Launch) (D : hp_D) (T : hp_T) (ap0 : Nat) (xp1 : Int32) (xp2 : Int32) (ip0 : isShuns T ap0) (bp1 : iv xp1 1 1) : Met l yX6_waysFrom wsX6_waysFrom ({ frames := 15, cells := 0, slots := 0, locals := 375 }) (hp_Pc D T [.ref ap0, .int xp1, .int xp2] (fun _ => True)) (hq_e D T (fun v _ _ => ∃ r : Int32, v = some (.int r) ∧ True)) 0 0 (hp_F T) := by
  obtain ⟨ap0le, ap0gr, ap0du, ap0it, ap0op, hp0, hp0le, hp0gr, hp0du, hp0it, hp0op⟩ := id ip0
  refine Met.ofW (cc := cX6_waysFrom) (maxL := 6) (ret := (some .int)) (by decide) rfl ?_
  intro p e s m args below meth c s₁ B hml hv
  obtain ⟨rfl, hok, hG, hB⟩ := hv
  have hx := B.exec
  have hb := B.bytes
  have hr := B.returns
  have hts := atoms_spec (ws := wsX6_waysFrom) B.pre
  have hown : s.vm.findClass RX6 = some m.cls := findClass_of_methodNamed B.named
  have hlocks := B.notSynchronized
  have hK := hG.1
  have hw : hp_w D T s s.heap [] := hp_w.rf hok
  have IX6 : ∀ w ∈ wsX60, w ∈ wsX6_waysFrom := by decide +kernel
  have L9 := hts (.fieldLink RX6 9 "PalmCensus$Shuns" "twos" "I") (by decide +kernel)
  have L15 := hts (.fieldLink RX6 15 "PalmCensus$Shuns" "lesser" "[I") (by decide +kernel)
  have L19 := hts (.fieldLink RX6 19 "PalmCensus$Shuns" "greater" "[I") (by decide +kernel)
  have L25 := hts (.fieldLink RX6 25 "PalmCensus$Shuns" "isTold" "[Z") (by decide +kernel)
  have L29 := hts (.fieldLink RX6 29 "PalmCensus$Shuns" "open" "[I") (by decide +kernel)
  have L22 := hts (.fieldLink RX6 22 "PalmCensus$Shuns" "due" "[I") (by decide +kernel)
  have hl := lv_entry ([.ref ap0, .int xp1, .int xp2]) (n := 6) (Nat.le_of_ble_eq_true rfl)
  rw [lg_entry_eq]
  generalize (lg_sl ([.ref ap0, .int xp1, .int xp2]) ++ List.replicate (6 - (lg_sl ([.ref ap0, .int xp1, .int xp2])).length) Slot.unset).toArray = ls at hl ⊢
  have hl : lv_has ls 6 [(0, .ref ap0), (1, .int xp1), (2, .int xp2)] := hl
  show WX6_waysFrom_1 p l e s m below meth c D T ap0 xp1 xp2 s.heap [] (F0 m 0 ls [])
  refine lv_iload_n hx hb dX6_waysFrom_0 rfl (lv_at hl 1 rfl) ?_
  have J12 : ∀ (H : Heap) (locs : List Loc), hp_w D T s H locs → ∀ (ls : Array Slot), lv_has ls 6 [] → WX6_waysFrom_1 p l e s m below meth c D T ap0 xp1 xp2 H locs (F0 m 12 ls []) := by
    intro H12 locs12 hw ls hl
    refine lv_iconst (v := 1) hx hb dX6_waysFrom_12 (by decide) ?_
    exact W.iret (v := 1) hx hb hr (fun t ht hW => ⟨some (.int 1), rfl, ⟨(1 : Int32), rfl, trivial⟩, by rw [ht]; exact hw.1, hw.2.F ht⟩) hw.2.2.2 dX6_waysFrom_13
  refine lv_if_lt (tgt := 12) hx hb dX6_waysFrom_1 (by decide) (fun c1 => ?_) (fun c1 => ?_)
  · exact iv_abs (iv_lt_l c1 bp1 (show iv 0 0 0 from ⟨by decide, by decide⟩)) (by decide)
  · refine lv_iload_n hx hb dX6_waysFrom_4 rfl (lv_at hl 1 rfl) ?_
    refine lv_aload_n hx hb dX6_waysFrom_5 rfl (lv_at hl 0 rfl) ?_
    refine hp_geti hx hb hts IX6 hown hK hw.1 hp0 rfl 0 (by decide) L9 rfl dX6_waysFrom_6 (fun x6 bx6 fx6 => ?_)
    refine lv_icmp_lt (tgt := 14) hx hb dX6_waysFrom_9 (by decide) (fun c9 => ?_) (fun c9 => ?_)
    · have r9tq : iv x6 2 16 := (iv_lt_r c9 bp1 bx6).mono (by decide) (by decide)
      refine lv_aload_n hx hb dX6_waysFrom_14 rfl (lv_at hl 0 rfl) ?_
      refine hp_getr hx hb hts IX6 hown hK hw.1 hp0 rfl 1 (by decide) L15 rfl dX6_waysFrom_15 ?_
      refine lv_iload_n hx hb dX6_waysFrom_18 rfl (lv_at hl 1 rfl) ?_
      refine hp_ialdI hx hb hK hw.1 hp0le (vp_iv bp1 (by decide)) dX6_waysFrom_19 (fun x19 bx19 => ?_)
      refine lv_istore_n (lv' := [(3, .int x19), (0, .ref ap0), (1, .int xp1), (2, .int xp2)]) hx hb dX6_waysFrom_20 rfl hl (by decide) rfl (fun ls hl => ?_)
      refine lv_aload_n hx hb dX6_waysFrom_21 rfl (lv_at hl 1 rfl) ?_
      refine hp_getr hx hb hts IX6 hown hK hw.1 hp0 rfl 2 (by decide) L19 rfl dX6_waysFrom_22 ?_
      refine lv_iload_n hx hb dX6_waysFrom_25 rfl (lv_at hl 2 rfl) ?_
      refine hp_ialdI hx hb hK hw.1 hp0gr (vp_iv bp1 (by decide)) dX6_waysFrom_26 (fun x26 bx26 => ?_)
      refine lv_istore (lv' := [(4, .int x26), (3, .int x19), (0, .ref ap0), (1, .int xp1), (2, .int xp2)]) hx hb dX6_waysFrom_27 hl (by decide) rfl (fun ls hl => ?_)
      refine lv_aload_n hx hb dX6_waysFrom_29 rfl (lv_at hl 2 rfl) ?_
      refine hp_getr hx hb hts IX6 hown hK hw.1 hp0 rfl 4 (by decide) L25 rfl dX6_waysFrom_30 ?_
      refine lv_iload_n hx hb dX6_waysFrom_33 rfl (lv_at hl 1 rfl) ?_
      refine hp_zaldA hx hb hK hw.1 hp0it (vp_iv bx19 (by decide)) dX6_waysFrom_34 (fun x34 => ?_)
      have J68 : iv xp1 1 1 → iv x19 0 9 → iv x26 0 9 → ∀ (H : Heap) (locs : List Loc), hp_w D T s H locs → ∀ (ls : Array Slot), lv_has ls 6 [(0, .ref ap0), (1, .int xp1), (2, .int xp2), (3, .int x19), (4, .int x26)] → WX6_waysFrom_1 p l e s m below meth c D T ap0 xp1 xp2 H locs (F0 m 68 ls []) := by
        intro c68_xp1 c68_x19 c68_x26 H68 locs68 hw ls hl
        refine lv_aload_n hx hb dX6_waysFrom_68 rfl (lv_at hl 0 rfl) ?_
        refine hp_getr hx hb hts IX6 hown hK hw.1 hp0 rfl 5 (by decide) L29 rfl dX6_waysFrom_69 ?_
        refine lv_iload_n hx hb dX6_waysFrom_72 rfl (lv_at hl 3 rfl) ?_
        refine lv_dup2_11 hx hb dX6_waysFrom_73 rfl rfl ?_
        refine hp_ialdA hx hb hK hw.1 hp0op (vp_iv c68_x19 (by decide)) dX6_waysFrom_74 (fun x74 => ?_)
        refine lv_iconst (v := 1) hx hb dX6_waysFrom_75 (by decide) ?_
        refine lv_isub hx hb dX6_waysFrom_76 ?_
        refine lv_topi (fun x76 ex76 => ?_)
        refine hp_iast hx hb hK hw hp0op (vp_iv c68_x19 (by decide)) ⟨_, rfl⟩ dX6_waysFrom_77 (fun H77 locs77 hw g77 => ?_)
        refine lv_aload_n hx hb dX6_waysFrom_78 rfl (lv_at hl 0 rfl) ?_
        refine hp_getr hx hb hts IX6 hown hK hw.1 hp0 rfl 5 (by decide) L29 rfl dX6_waysFrom_79 ?_
        refine lv_iload hx hb dX6_waysFrom_82 (lv_at hl 4 rfl) ?_
        refine lv_dup2_11 hx hb dX6_waysFrom_84 rfl rfl ?_
        refine hp_ialdA hx hb hK hw.1 hp0op (vp_iv c68_x26 (by decide)) dX6_waysFrom_85 (fun x85 => ?_)
        refine lv_iconst (v := 1) hx hb dX6_waysFrom_86 (by decide) ?_
        refine lv_isub hx hb dX6_waysFrom_87 ?_
        refine lv_topi (fun x87 ex87 => ?_)
        refine hp_iast hx hb hK hw hp0op (vp_iv c68_x26 (by decide)) ⟨_, rfl⟩ dX6_waysFrom_88 (fun H88 locs88 hw g88 => ?_)
        refine lv_iconst (v := 0) hx hb dX6_waysFrom_89 (by decide) ?_
        refine lv_istore (lv' := [(5, .int 0), (0, .ref ap0), (1, .int xp1), (2, .int xp2), (3, .int x19), (4, .int x26)]) hx hb dX6_waysFrom_90 hl (by decide) rfl (fun ls hl => ?_)
        refine lv_iload_n hx hb dX6_waysFrom_92 rfl (lv_at hl 2 rfl) ?_
        refine lv_iload_n hx hb dX6_waysFrom_93 rfl (lv_at hl 3 rfl) ?_
        have J127 : ∀ (y127_l5 : Int32), iv xp1 1 1 → iv x19 0 9 → iv x26 0 9 → ∀ (H : Heap) (locs : List Loc), hp_w D T s H locs → ∀ (ls : Array Slot), lv_has ls 6 [(0, .ref ap0), (1, .int xp1), (2, .int xp2), (3, .int x19), (4, .int x26), (5, .int y127_l5)] → WX6_waysFrom_1 p l e s m below meth c D T ap0 xp1 xp2 H locs (F0 m 127 ls []) := by
          intro y127_l5 c127_xp1 c127_x19 c127_x26 H127 locs127 hw ls hl
          refine lv_aload_n hx hb dX6_waysFrom_127 rfl (lv_at hl 0 rfl) ?_
          refine hp_getr hx hb hts IX6 hown hK hw.1 hp0 rfl 3 (by decide) L22 rfl dX6_waysFrom_128 ?_
          refine lv_iload_n hx hb dX6_waysFrom_131 rfl (lv_at hl 3 rfl) ?_
          refine lv_dup2_11 hx hb dX6_waysFrom_132 rfl rfl ?_
          refine hp_ialdA hx hb hK hw.1 hp0du (vp_iv c127_x19 (by decide)) dX6_waysFrom_133 (fun x133 => ?_)
          refine lv_iconst (v := 1) hx hb dX6_waysFrom_134 (by decide) ?_
          refine lv_isub hx hb dX6_waysFrom_135 ?_
          refine lv_topi (fun x135 ex135 => ?_)
          refine hp_iast hx hb hK hw hp0du (vp_iv c127_x19 (by decide)) ⟨_, rfl⟩ dX6_waysFrom_136 (fun H136 locs136 hw g136 => ?_)
          refine lv_aload_n hx hb dX6_waysFrom_137 rfl (lv_at hl 0 rfl) ?_
          refine hp_getr hx hb hts IX6 hown hK hw.1 hp0 rfl 3 (by decide) L22 rfl dX6_waysFrom_138 ?_
          refine lv_iload hx hb dX6_waysFrom_141 (lv_at hl 4 rfl) ?_
          refine lv_dup2_11 hx hb dX6_waysFrom_143 rfl rfl ?_
          refine hp_ialdA hx hb hK hw.1 hp0du (vp_iv c127_x26 (by decide)) dX6_waysFrom_144 (fun x144 => ?_)
          refine lv_iconst (v := 1) hx hb dX6_waysFrom_145 (by decide) ?_
          refine lv_isub hx hb dX6_waysFrom_146 ?_
          refine lv_topi (fun x146 ex146 => ?_)
          refine hp_iast hx hb hK hw hp0du (vp_iv c127_x26 (by decide)) ⟨_, rfl⟩ dX6_waysFrom_147 (fun H147 locs147 hw g147 => ?_)
          refine lv_aload_n hx hb dX6_waysFrom_148 rfl (lv_at hl 0 rfl) ?_
          refine lv_iload_n hx hb dX6_waysFrom_149 rfl (lv_at hl 3 rfl) ?_
          refine hp_callpi (va_runV (As := [.int x19]) (rest := []) ⟨hx, hb, hml, hown, hts⟩ (sX6_canStillBe l D T ap0 x19 ip0 c127_x19) (cwV 1 hts gX6_waysFrom_X6_canStillBe rfl rfl rfl (by decide +kernel) ⟨Nat.le_of_ble_eq_true rfl, Nat.le_of_ble_eq_true rfl⟩) (hp_preV hG hw hp0 rfl trivial) rfl rfl hl.1 rfl (lv_room (Nat.le_of_ble_eq_true rfl)) dX6_waysFrom_150 ⟨Nat.zero_le _, Nat.zero_le _⟩) (fun x150 bx150 => ?_)
          have J178 : ∀ (y178_l5 : Int32), iv x19 0 9 → iv x26 0 9 → ∀ (H : Heap) (locs : List Loc), hp_w D T s H locs → ∀ (ls : Array Slot), lv_has ls 6 [(0, .ref ap0), (3, .int x19), (4, .int x26), (5, .int y178_l5)] → WX6_waysFrom_1 p l e s m below meth c D T ap0 xp1 xp2 H locs (F0 m 178 ls []) := by
            intro y178_l5 c178_x19 c178_x26 H178 locs178 hw ls hl
            refine lv_aload_n hx hb dX6_waysFrom_178 rfl (lv_at hl 0 rfl) ?_
            refine hp_getr hx hb hts IX6 hown hK hw.1 hp0 rfl 3 (by decide) L22 rfl dX6_waysFrom_179 ?_
            refine lv_iload_n hx hb dX6_waysFrom_182 rfl (lv_at hl 1 rfl) ?_
            refine lv_dup2_11 hx hb dX6_waysFrom_183 rfl rfl ?_
            refine hp_ialdA hx hb hK hw.1 hp0du (vp_iv c178_x19 (by decide)) dX6_waysFrom_184 (fun x184 => ?_)
            refine lv_iconst (v := 1) hx hb dX6_waysFrom_185 (by decide) ?_
            refine lv_iadd hx hb dX6_waysFrom_186 ?_
            refine lv_topi (fun x186 ex186 => ?_)
            refine hp_iast hx hb hK hw hp0du (vp_iv c178_x19 (by decide)) ⟨_, rfl⟩ dX6_waysFrom_187 (fun H187 locs187 hw g187 => ?_)
            refine lv_aload_n hx hb dX6_waysFrom_188 rfl (lv_at hl 0 rfl) ?_
            refine hp_getr hx hb hts IX6 hown hK hw.1 hp0 rfl 3 (by decide) L22 rfl dX6_waysFrom_189 ?_
            refine lv_iload hx hb dX6_waysFrom_192 (lv_at hl 2 rfl) ?_
            refine lv_dup2_11 hx hb dX6_waysFrom_194 rfl rfl ?_
            refine hp_ialdA hx hb hK hw.1 hp0du (vp_iv c178_x26 (by decide)) dX6_waysFrom_195 (fun x195 => ?_)
            refine lv_iconst (v := 1) hx hb dX6_waysFrom_196 (by decide) ?_
            refine lv_iadd hx hb dX6_waysFrom_197 ?_
            refine lv_topi (fun x197 ex197 => ?_)
            refine hp_iast hx hb hK hw hp0du (vp_iv c178_x26 (by decide)) ⟨_, rfl⟩ dX6_waysFrom_198 (fun H198 locs198 hw g198 => ?_)
            refine lv_aload_n hx hb dX6_waysFrom_199 rfl (lv_at hl 0 rfl) ?_
            refine hp_getr hx hb hts IX6 hown hK hw.1 hp0 rfl 5 (by decide) L29 rfl dX6_waysFrom_200 ?_
            refine lv_iload_n hx hb dX6_waysFrom_203 rfl (lv_at hl 1 rfl) ?_
            refine lv_dup2_11 hx hb dX6_waysFrom_204 rfl rfl ?_
            refine hp_ialdA hx hb hK hw.1 hp0op (vp_iv c178_x19 (by decide)) dX6_waysFrom_205 (fun x205 => ?_)
            refine lv_iconst (v := 1) hx hb dX6_waysFrom_206 (by decide) ?_
            refine lv_iadd hx hb dX6_waysFrom_207 ?_
            refine lv_topi (fun x207 ex207 => ?_)
            refine hp_iast hx hb hK hw hp0op (vp_iv c178_x19 (by decide)) ⟨_, rfl⟩ dX6_waysFrom_208 (fun H208 locs208 hw g208 => ?_)
            refine lv_aload_n hx hb dX6_waysFrom_209 rfl (lv_at hl 0 rfl) ?_
            refine hp_getr hx hb hts IX6 hown hK hw.1 hp0 rfl 5 (by decide) L29 rfl dX6_waysFrom_210 ?_
            refine lv_iload hx hb dX6_waysFrom_213 (lv_at hl 2 rfl) ?_
            refine lv_dup2_11 hx hb dX6_waysFrom_215 rfl rfl ?_
            refine hp_ialdA hx hb hK hw.1 hp0op (vp_iv c178_x26 (by decide)) dX6_waysFrom_216 (fun x216 => ?_)
            refine lv_iconst (v := 1) hx hb dX6_waysFrom_217 (by decide) ?_
            refine lv_iadd hx hb dX6_waysFrom_218 ?_
            refine lv_topi (fun x218 ex218 => ?_)
            refine hp_iast hx hb hK hw hp0op (vp_iv c178_x26 (by decide)) ⟨_, rfl⟩ dX6_waysFrom_219 (fun H219 locs219 hw g219 => ?_)
            refine lv_iload hx hb dX6_waysFrom_220 (lv_at hl 3 rfl) ?_
            exact W.iret (v := y178_l5) hx hb hr (fun t ht hW => ⟨some (.int y178_l5), rfl, ⟨y178_l5, rfl, trivial⟩, by rw [ht]; exact hw.1, hw.2.F ht⟩) hw.2.2.2 dX6_waysFrom_222
          refine lv_if_eq (tgt := 178) hx hb dX6_waysFrom_153 (by decide) (fun c153 => ?_) (fun c153 => ?_)
          · have r153tp : iv x150 0 0 := (iv_both bx150 (iv_eq (show iv 0 0 0 from ⟨by decide, by decide⟩) c153)).mono (by decide) (by decide)
            exact J178 y127_l5 c127_x19 c127_x26 H147 locs147 hw _ (lv_sub hl [0, 3, 4, 5] rfl)
          · have r153fp : iv x150 1 1 := (iv_ne_lo c153 bx150 rfl).mono (by decide) (by decide)
            refine lv_aload_n hx hb dX6_waysFrom_156 rfl (lv_at hl 0 rfl) ?_
            refine lv_iload hx hb dX6_waysFrom_157 (lv_at hl 4 rfl) ?_
            refine hp_callpi (va_runV (As := [.int x26]) (rest := []) ⟨hx, hb, hml, hown, hts⟩ (sX6_canStillBe l D T ap0 x26 ip0 c127_x26) (cwV 1 hts gX6_waysFrom_X6_canStillBe rfl rfl rfl (by decide +kernel) ⟨Nat.le_of_ble_eq_true rfl, Nat.le_of_ble_eq_true rfl⟩) (hp_preV hG hw hp0 rfl trivial) rfl rfl hl.1 rfl (lv_room (Nat.le_of_ble_eq_true rfl)) dX6_waysFrom_159 ⟨Nat.zero_le _, Nat.zero_le _⟩) (fun x159 bx159 => ?_)
            refine lv_if_eq (tgt := 178) hx hb dX6_waysFrom_162 (by decide) (fun c162 => ?_) (fun c162 => ?_)
            · have r162tp : iv x159 0 0 := (iv_both bx159 (iv_eq (show iv 0 0 0 from ⟨by decide, by decide⟩) c162)).mono (by decide) (by decide)
              exact J178 y127_l5 c127_x19 c127_x26 H147 locs147 hw _ (lv_sub hl [0, 3, 4, 5] rfl)
            · have r162fp : iv x159 1 1 := (iv_ne_lo c162 bx159 rfl).mono (by decide) (by decide)
              refine lv_iload hx hb dX6_waysFrom_165 (lv_at hl 5 rfl) ?_
              refine lv_aload_n hx hb dX6_waysFrom_167 rfl (lv_at hl 0 rfl) ?_
              refine lv_iload_n hx hb dX6_waysFrom_168 rfl (lv_at hl 1 rfl) ?_
              refine lv_iconst (v := 1) hx hb dX6_waysFrom_169 (by decide) ?_
              refine lv_iadd hx hb dX6_waysFrom_170 ?_
              refine lv_topi (fun x170 ex170 => ?_)
              have bx170 : iv x170 2 2 := iv_add c127_xp1 (show iv 1 1 1 from ⟨by decide, by decide⟩) ex170 (by decide)
              have qx170 := iv_add_eq c127_xp1 (show iv 1 1 1 from ⟨by decide, by decide⟩) ex170 (by decide)
              refine lv_iload_n hx hb dX6_waysFrom_171 rfl (lv_at hl 2 rfl) ?_
              refine hp_callei (va_runV (As := [.int x170, .int xp2]) (rest := [.int y127_l5]) ⟨hx, hb, hml, hown, hts⟩ (sX6_waysFrom_2 l D T ap0 x170 xp2 ip0 bx170) (cwV 2 hts gX6_waysFrom_X6_waysFrom rfl rfl rfl (by decide +kernel) ⟨Nat.le_of_ble_eq_true rfl, Nat.le_of_ble_eq_true rfl⟩) (hp_preV hG hw hp0 rfl trivial) rfl rfl hl.1 rfl (lv_room (Nat.le_of_ble_eq_true rfl)) dX6_waysFrom_172 ⟨Nat.zero_le _, Nat.zero_le _⟩) hw (fun x172 st172 t172 H172 locs172 eh172 eg172 bx172 hw => ?_)
              refine lv_iadd hx hb dX6_waysFrom_175 ?_
              refine lv_topi (fun x175 ex175 => ?_)
              refine lv_istore (lv' := [(5, .int x175), (0, .ref ap0), (1, .int xp1), (2, .int xp2), (3, .int x19), (4, .int x26)]) hx hb dX6_waysFrom_176 hl (by decide) rfl (fun ls hl => ?_)
              exact J178 x175 c127_x19 c127_x26 H172 locs172 hw _ (lv_sub hl [1, 4, 5, 0] rfl)
        refine lv_icmp_eq (tgt := 127) hx hb dX6_waysFrom_94 (by decide) (fun c94 => ?_) (fun c94 => ?_)
        · have r94tq : iv xp2 1 1 := (iv_both (iv_any xp2) (iv_eq c68_xp1 c94.symm)).mono (by decide) (by decide)
          exact J127 (0 : Int32) c68_xp1 c68_x19 c68_x26 H88 locs88 hw _ (lv_sub hl [1, 2, 3, 4, 5, 0] rfl)
        · refine lv_aload_n hx hb dX6_waysFrom_97 rfl (lv_at hl 1 rfl) ?_
          refine lv_iload_n hx hb dX6_waysFrom_98 rfl (lv_at hl 4 rfl) ?_
          refine hp_callpi (va_runV (As := [.int x19]) (rest := []) ⟨hx, hb, hml, hown, hts⟩ (sX6_canStillBe l D T ap0 x19 ip0 c68_x19) (cwV 1 hts gX6_waysFrom_X6_canStillBe rfl rfl rfl (by decide +kernel) ⟨Nat.le_of_ble_eq_true rfl, Nat.le_of_ble_eq_true rfl⟩) (hp_preV hG hw hp0 rfl trivial) rfl rfl hl.1 rfl (lv_room (Nat.le_of_ble_eq_true rfl)) dX6_waysFrom_99 ⟨Nat.zero_le _, Nat.zero_le _⟩) (fun x99 bx99 => ?_)
          refine lv_if_eq (tgt := 127) hx hb dX6_waysFrom_102 (by decide) (fun c102 => ?_) (fun c102 => ?_)
          · have r102tp : iv x99 0 0 := (iv_both bx99 (iv_eq (show iv 0 0 0 from ⟨by decide, by decide⟩) c102)).mono (by decide) (by decide)
            exact J127 (0 : Int32) c68_xp1 c68_x19 c68_x26 H88 locs88 hw _ (lv_sub hl [1, 2, 3, 4, 5, 0] rfl)
          · have r102fp : iv x99 1 1 := (iv_ne_lo c102 bx99 rfl).mono (by decide) (by decide)
            refine lv_aload_n hx hb dX6_waysFrom_105 rfl (lv_at hl 1 rfl) ?_
            refine lv_iload hx hb dX6_waysFrom_106 (lv_at hl 5 rfl) ?_
            refine hp_callpi (va_runV (As := [.int x26]) (rest := []) ⟨hx, hb, hml, hown, hts⟩ (sX6_canStillBe l D T ap0 x26 ip0 c68_x26) (cwV 1 hts gX6_waysFrom_X6_canStillBe rfl rfl rfl (by decide +kernel) ⟨Nat.le_of_ble_eq_true rfl, Nat.le_of_ble_eq_true rfl⟩) (hp_preV hG hw hp0 rfl trivial) rfl rfl hl.1 rfl (lv_room (Nat.le_of_ble_eq_true rfl)) dX6_waysFrom_108 ⟨Nat.zero_le _, Nat.zero_le _⟩) (fun x108 bx108 => ?_)
            refine lv_if_eq (tgt := 127) hx hb dX6_waysFrom_111 (by decide) (fun c111 => ?_) (fun c111 => ?_)
            · have r111tp : iv x108 0 0 := (iv_both bx108 (iv_eq (show iv 0 0 0 from ⟨by decide, by decide⟩) c111)).mono (by decide) (by decide)
              exact J127 (0 : Int32) c68_xp1 c68_x19 c68_x26 H88 locs88 hw _ (lv_sub hl [1, 2, 3, 4, 5, 0] rfl)
            · have r111fp : iv x108 1 1 := (iv_ne_lo c111 bx108 rfl).mono (by decide) (by decide)
              refine lv_iload hx hb dX6_waysFrom_114 (lv_at hl 0 rfl) ?_
              refine lv_aload_n hx hb dX6_waysFrom_116 rfl (lv_at hl 1 rfl) ?_
              refine lv_iload_n hx hb dX6_waysFrom_117 rfl (lv_at hl 2 rfl) ?_
              refine lv_iconst (v := 1) hx hb dX6_waysFrom_118 (by decide) ?_
              refine lv_iadd hx hb dX6_waysFrom_119 ?_
              refine lv_topi (fun x119 ex119 => ?_)
              have bx119 : iv x119 2 2 := iv_add c68_xp1 (show iv 1 1 1 from ⟨by decide, by decide⟩) ex119 (by decide)
              have qx119 := iv_add_eq c68_xp1 (show iv 1 1 1 from ⟨by decide, by decide⟩) ex119 (by decide)
              refine lv_iload_n hx hb dX6_waysFrom_120 rfl (lv_at hl 3 rfl) ?_
              refine hp_callei (va_runV (As := [.int x119, .int xp2]) (rest := [.int 0]) ⟨hx, hb, hml, hown, hts⟩ (sX6_waysFrom_2 l D T ap0 x119 xp2 ip0 bx119) (cwV 2 hts gX6_waysFrom_X6_waysFrom rfl rfl rfl (by decide +kernel) ⟨Nat.le_of_ble_eq_true rfl, Nat.le_of_ble_eq_true rfl⟩) (hp_preV hG hw hp0 rfl trivial) rfl rfl hl.1 rfl (lv_room (Nat.le_of_ble_eq_true rfl)) dX6_waysFrom_121 ⟨Nat.zero_le _, Nat.zero_le _⟩) hw (fun x121 st121 t121 H121 locs121 eh121 eg121 bx121 hw => ?_)
              refine lv_iadd hx hb dX6_waysFrom_124 ?_
              refine lv_topi (fun x124 ex124 => ?_)
              have qx124 := iv_add_eq (show iv 0 0 0 from ⟨by decide, by decide⟩) (iv_any x121) ex124 (by decide)
              refine lv_istore (lv' := [(5, .int x124), (0, .ref ap0), (1, .int xp1), (2, .int xp2), (3, .int x19), (4, .int x26)]) hx hb dX6_waysFrom_125 hl (by decide) rfl (fun ls hl => ?_)
              exact J127 x124 c68_xp1 c68_x19 c68_x26 H121 locs121 hw _ (lv_sub hl [1, 2, 3, 4, 5, 0] rfl)
      refine lv_if_ne (tgt := 68) hx hb dX6_waysFrom_35 (by decide) (fun c35 => ?_) (fun c35 => ?_)
      · exact J68 bp1 bx19 bx26 s.heap [] hw _ (lv_sub hl [2, 3, 4, 1, 0] rfl)
      · have r35fp : iv x34 0 0 := (iv_both (iv_any x34) (iv_eq (show iv 0 0 0 from ⟨by decide, by decide⟩) c35)).mono (by decide) (by decide)
        refine lv_aload_n hx hb dX6_waysFrom_38 rfl (lv_at hl 2 rfl) ?_
        refine hp_getr hx hb hts IX6 hown hK hw.1 hp0 rfl 4 (by decide) L25 rfl dX6_waysFrom_39 ?_
        refine lv_iload hx hb dX6_waysFrom_42 (lv_at hl 0 rfl) ?_
        refine hp_zaldA hx hb hK hw.1 hp0it (vp_iv bx26 (by decide)) dX6_waysFrom_44 (fun x44 => ?_)
        refine lv_if_ne (tgt := 68) hx hb dX6_waysFrom_45 (by decide) (fun c45 => ?_) (fun c45 => ?_)
        · exact J68 bp1 bx19 bx26 s.heap [] hw _ (lv_sub hl [2, 3, 4, 1, 0] rfl)
        · have r45fp : iv x44 0 0 := (iv_both (iv_any x44) (iv_eq (show iv 0 0 0 from ⟨by decide, by decide⟩) c45)).mono (by decide) (by decide)
          refine lv_iload_n hx hb dX6_waysFrom_48 rfl (lv_at hl 3 rfl) ?_
          refine lv_iload_n hx hb dX6_waysFrom_49 rfl (lv_at hl 4 rfl) ?_
          have J58 : ∀ (y58_s0 : Int32), iv xp1 1 1 → iv y58_s0 1 2 → ∀ (H : Heap) (locs : List Loc), hp_w D T s H locs → ∀ (ls : Array Slot), lv_has ls 6 [(0, .ref ap0), (1, .int xp1), (2, .int xp2)] → WX6_waysFrom_1 p l e s m below meth c D T ap0 xp1 xp2 H locs (F0 m 58 ls [.int y58_s0]) := by
            intro y58_s0 c58_xp1 c58_y58_s0 H58 locs58 hw ls hl
            refine lv_aload_n hx hb dX6_waysFrom_58 rfl (lv_at hl 0 rfl) ?_
            refine lv_iload_n hx hb dX6_waysFrom_59 rfl (lv_at hl 1 rfl) ?_
            refine lv_iconst (v := 1) hx hb dX6_waysFrom_60 (by decide) ?_
            refine lv_iadd hx hb dX6_waysFrom_61 ?_
            refine lv_topi (fun x61 ex61 => ?_)
            have bx61 : iv x61 2 2 := iv_add c58_xp1 (show iv 1 1 1 from ⟨by decide, by decide⟩) ex61 (by decide)
            have qx61 := iv_add_eq c58_xp1 (show iv 1 1 1 from ⟨by decide, by decide⟩) ex61 (by decide)
            refine lv_iload_n hx hb dX6_waysFrom_62 rfl (lv_at hl 2 rfl) ?_
            refine hp_callei (va_runV (As := [.int x61, .int xp2]) (rest := [.int y58_s0]) ⟨hx, hb, hml, hown, hts⟩ (sX6_waysFrom_2 l D T ap0 x61 xp2 ip0 bx61) (cwV 2 hts gX6_waysFrom_X6_waysFrom rfl rfl rfl (by decide +kernel) ⟨Nat.le_of_ble_eq_true rfl, Nat.le_of_ble_eq_true rfl⟩) (hp_preV hG hw hp0 rfl trivial) rfl rfl hl.1 rfl (lv_room (Nat.le_of_ble_eq_true rfl)) dX6_waysFrom_63 ⟨Nat.zero_le _, Nat.zero_le _⟩) hw (fun x63 st63 t63 H63 locs63 eh63 eg63 bx63 hw => ?_)
            refine lv_imul hx hb dX6_waysFrom_66 ?_
            refine lv_topi (fun x66 ex66 => ?_)
            exact W.iret (v := x66) hx hb hr (fun t ht hW => ⟨some (.int x66), rfl, ⟨x66, rfl, trivial⟩, by rw [ht]; exact hw.1, hw.2.F ht⟩) hw.2.2.2 dX6_waysFrom_67
          refine lv_icmp_ne (tgt := 57) hx hb dX6_waysFrom_50 (by decide) (fun c50 => ?_) (fun c50 => ?_)
          · refine lv_iconst (v := 2) hx hb dX6_waysFrom_57 (by decide) ?_
            exact J58 (2 : Int32) bp1 (show iv 2 1 2 from ⟨by decide, by decide⟩) s.heap [] hw _ (lv_sub hl [2, 3, 4] rfl)
          · have r50fq : iv xp2 1 1 := (iv_both (iv_any xp2) (iv_eq bp1 c50.symm)).mono (by decide) (by decide)
            refine lv_iconst (v := 1) hx hb dX6_waysFrom_53 (by decide) ?_
            refine lv_goto (tgt := 58) hx hb dX6_waysFrom_54 (by decide) ?_
            exact J58 (1 : Int32) bp1 (show iv 1 1 2 from ⟨by decide, by decide⟩) s.heap [] hw _ (lv_sub hl [2, 3, 4] rfl)
    · have r9fp : iv x6 0 1 := (iv_le_l (iv_nlt c9) bx6 bp1).mono (by decide) (by decide)
      exact J12 s.heap [] hw _ (lv_sub hl [] rfl)
abbrev WX6_waysFrom_0 (p : Program) (l : Launch) (e : Env) (s : State) (m : MethodId) (below : List Frame) (meth : Method) (c : Code) (D : hp_D) (T : hp_T) (ap0 : Nat) (xp1 : Int32) (xp2 : Int32) (H : Heap) (locs : List Loc) (g : JFrame) : Prop := W p l e (headSpec wsX6_waysFrom ({ frames := 16, cells := 0, slots := 0, locals := 400 })).room s m ([.ref ap0, .int xp1, .int xp2] : List Value).toArray below meth c H locs 0 0 (MQ below (hq_e D T (fun v _ _ => ∃ r : Int32, v = some (.int r) ∧ True)) ([.ref ap0, .int xp1, .int xp2] : List Value).toArray s 0 0 (hp_F T)) g
set_option maxHeartbeats 4000000 in
set_option maxRecDepth 100000 in
theorem sX6_waysFrom_0 (l : Launch) (D : hp_D) (T : hp_T) (ap0 : Nat) (xp1 : Int32) (xp2 : Int32) (ip0 : isShuns T ap0) (bp1 : iv xp1 0 0) : Met l yX6_waysFrom wsX6_waysFrom ({ frames := 16, cells := 0, slots := 0, locals := 400 }) (hp_Pc D T [.ref ap0, .int xp1, .int xp2] (fun _ => True)) (hq_e D T (fun v _ _ => ∃ r : Int32, v = some (.int r) ∧ True)) 0 0 (hp_F T) := by
  obtain ⟨ap0le, ap0gr, ap0du, ap0it, ap0op, hp0, hp0le, hp0gr, hp0du, hp0it, hp0op⟩ := id ip0
  refine Met.ofW (cc := cX6_waysFrom) (maxL := 6) (ret := (some .int)) (by decide) rfl ?_
  intro p e s m args below meth c s₁ B hml hv
  obtain ⟨rfl, hok, hG, hB⟩ := hv
  have hx := B.exec
  have hb := B.bytes
  have hr := B.returns
  have hts := atoms_spec (ws := wsX6_waysFrom) B.pre
  have hown : s.vm.findClass RX6 = some m.cls := findClass_of_methodNamed B.named
  have hlocks := B.notSynchronized
  have hK := hG.1
  have hw : hp_w D T s s.heap [] := hp_w.rf hok
  have IX6 : ∀ w ∈ wsX60, w ∈ wsX6_waysFrom := by decide +kernel
  have L9 := hts (.fieldLink RX6 9 "PalmCensus$Shuns" "twos" "I") (by decide +kernel)
  have L15 := hts (.fieldLink RX6 15 "PalmCensus$Shuns" "lesser" "[I") (by decide +kernel)
  have L19 := hts (.fieldLink RX6 19 "PalmCensus$Shuns" "greater" "[I") (by decide +kernel)
  have L25 := hts (.fieldLink RX6 25 "PalmCensus$Shuns" "isTold" "[Z") (by decide +kernel)
  have L29 := hts (.fieldLink RX6 29 "PalmCensus$Shuns" "open" "[I") (by decide +kernel)
  have L22 := hts (.fieldLink RX6 22 "PalmCensus$Shuns" "due" "[I") (by decide +kernel)
  have hl := lv_entry ([.ref ap0, .int xp1, .int xp2]) (n := 6) (Nat.le_of_ble_eq_true rfl)
  rw [lg_entry_eq]
  generalize (lg_sl ([.ref ap0, .int xp1, .int xp2]) ++ List.replicate (6 - (lg_sl ([.ref ap0, .int xp1, .int xp2])).length) Slot.unset).toArray = ls at hl ⊢
  have hl : lv_has ls 6 [(0, .ref ap0), (1, .int xp1), (2, .int xp2)] := hl
  show WX6_waysFrom_0 p l e s m below meth c D T ap0 xp1 xp2 s.heap [] (F0 m 0 ls [])
  refine lv_iload_n hx hb dX6_waysFrom_0 rfl (lv_at hl 1 rfl) ?_
  have J12 : ∀ (H : Heap) (locs : List Loc), hp_w D T s H locs → ∀ (ls : Array Slot), lv_has ls 6 [] → WX6_waysFrom_0 p l e s m below meth c D T ap0 xp1 xp2 H locs (F0 m 12 ls []) := by
    intro H12 locs12 hw ls hl
    refine lv_iconst (v := 1) hx hb dX6_waysFrom_12 (by decide) ?_
    exact W.iret (v := 1) hx hb hr (fun t ht hW => ⟨some (.int 1), rfl, ⟨(1 : Int32), rfl, trivial⟩, by rw [ht]; exact hw.1, hw.2.F ht⟩) hw.2.2.2 dX6_waysFrom_13
  refine lv_if_lt (tgt := 12) hx hb dX6_waysFrom_1 (by decide) (fun c1 => ?_) (fun c1 => ?_)
  · exact iv_abs (iv_lt_l c1 bp1 (show iv 0 0 0 from ⟨by decide, by decide⟩)) (by decide)
  · refine lv_iload_n hx hb dX6_waysFrom_4 rfl (lv_at hl 1 rfl) ?_
    refine lv_aload_n hx hb dX6_waysFrom_5 rfl (lv_at hl 0 rfl) ?_
    refine hp_geti hx hb hts IX6 hown hK hw.1 hp0 rfl 0 (by decide) L9 rfl dX6_waysFrom_6 (fun x6 bx6 fx6 => ?_)
    refine lv_icmp_lt (tgt := 14) hx hb dX6_waysFrom_9 (by decide) (fun c9 => ?_) (fun c9 => ?_)
    · have r9tq : iv x6 1 16 := (iv_lt_r c9 bp1 bx6).mono (by decide) (by decide)
      refine lv_aload_n hx hb dX6_waysFrom_14 rfl (lv_at hl 0 rfl) ?_
      refine hp_getr hx hb hts IX6 hown hK hw.1 hp0 rfl 1 (by decide) L15 rfl dX6_waysFrom_15 ?_
      refine lv_iload_n hx hb dX6_waysFrom_18 rfl (lv_at hl 1 rfl) ?_
      refine hp_ialdI hx hb hK hw.1 hp0le (vp_iv bp1 (by decide)) dX6_waysFrom_19 (fun x19 bx19 => ?_)
      refine lv_istore_n (lv' := [(3, .int x19), (0, .ref ap0), (1, .int xp1), (2, .int xp2)]) hx hb dX6_waysFrom_20 rfl hl (by decide) rfl (fun ls hl => ?_)
      refine lv_aload_n hx hb dX6_waysFrom_21 rfl (lv_at hl 1 rfl) ?_
      refine hp_getr hx hb hts IX6 hown hK hw.1 hp0 rfl 2 (by decide) L19 rfl dX6_waysFrom_22 ?_
      refine lv_iload_n hx hb dX6_waysFrom_25 rfl (lv_at hl 2 rfl) ?_
      refine hp_ialdI hx hb hK hw.1 hp0gr (vp_iv bp1 (by decide)) dX6_waysFrom_26 (fun x26 bx26 => ?_)
      refine lv_istore (lv' := [(4, .int x26), (3, .int x19), (0, .ref ap0), (1, .int xp1), (2, .int xp2)]) hx hb dX6_waysFrom_27 hl (by decide) rfl (fun ls hl => ?_)
      refine lv_aload_n hx hb dX6_waysFrom_29 rfl (lv_at hl 2 rfl) ?_
      refine hp_getr hx hb hts IX6 hown hK hw.1 hp0 rfl 4 (by decide) L25 rfl dX6_waysFrom_30 ?_
      refine lv_iload_n hx hb dX6_waysFrom_33 rfl (lv_at hl 1 rfl) ?_
      refine hp_zaldA hx hb hK hw.1 hp0it (vp_iv bx19 (by decide)) dX6_waysFrom_34 (fun x34 => ?_)
      have J68 : iv xp1 0 0 → iv x19 0 9 → iv x26 0 9 → ∀ (H : Heap) (locs : List Loc), hp_w D T s H locs → ∀ (ls : Array Slot), lv_has ls 6 [(0, .ref ap0), (1, .int xp1), (2, .int xp2), (3, .int x19), (4, .int x26)] → WX6_waysFrom_0 p l e s m below meth c D T ap0 xp1 xp2 H locs (F0 m 68 ls []) := by
        intro c68_xp1 c68_x19 c68_x26 H68 locs68 hw ls hl
        refine lv_aload_n hx hb dX6_waysFrom_68 rfl (lv_at hl 0 rfl) ?_
        refine hp_getr hx hb hts IX6 hown hK hw.1 hp0 rfl 5 (by decide) L29 rfl dX6_waysFrom_69 ?_
        refine lv_iload_n hx hb dX6_waysFrom_72 rfl (lv_at hl 3 rfl) ?_
        refine lv_dup2_11 hx hb dX6_waysFrom_73 rfl rfl ?_
        refine hp_ialdA hx hb hK hw.1 hp0op (vp_iv c68_x19 (by decide)) dX6_waysFrom_74 (fun x74 => ?_)
        refine lv_iconst (v := 1) hx hb dX6_waysFrom_75 (by decide) ?_
        refine lv_isub hx hb dX6_waysFrom_76 ?_
        refine lv_topi (fun x76 ex76 => ?_)
        refine hp_iast hx hb hK hw hp0op (vp_iv c68_x19 (by decide)) ⟨_, rfl⟩ dX6_waysFrom_77 (fun H77 locs77 hw g77 => ?_)
        refine lv_aload_n hx hb dX6_waysFrom_78 rfl (lv_at hl 0 rfl) ?_
        refine hp_getr hx hb hts IX6 hown hK hw.1 hp0 rfl 5 (by decide) L29 rfl dX6_waysFrom_79 ?_
        refine lv_iload hx hb dX6_waysFrom_82 (lv_at hl 4 rfl) ?_
        refine lv_dup2_11 hx hb dX6_waysFrom_84 rfl rfl ?_
        refine hp_ialdA hx hb hK hw.1 hp0op (vp_iv c68_x26 (by decide)) dX6_waysFrom_85 (fun x85 => ?_)
        refine lv_iconst (v := 1) hx hb dX6_waysFrom_86 (by decide) ?_
        refine lv_isub hx hb dX6_waysFrom_87 ?_
        refine lv_topi (fun x87 ex87 => ?_)
        refine hp_iast hx hb hK hw hp0op (vp_iv c68_x26 (by decide)) ⟨_, rfl⟩ dX6_waysFrom_88 (fun H88 locs88 hw g88 => ?_)
        refine lv_iconst (v := 0) hx hb dX6_waysFrom_89 (by decide) ?_
        refine lv_istore (lv' := [(5, .int 0), (0, .ref ap0), (1, .int xp1), (2, .int xp2), (3, .int x19), (4, .int x26)]) hx hb dX6_waysFrom_90 hl (by decide) rfl (fun ls hl => ?_)
        refine lv_iload_n hx hb dX6_waysFrom_92 rfl (lv_at hl 2 rfl) ?_
        refine lv_iload_n hx hb dX6_waysFrom_93 rfl (lv_at hl 3 rfl) ?_
        have J127 : ∀ (y127_l5 : Int32), iv xp1 0 0 → iv x19 0 9 → iv x26 0 9 → ∀ (H : Heap) (locs : List Loc), hp_w D T s H locs → ∀ (ls : Array Slot), lv_has ls 6 [(0, .ref ap0), (1, .int xp1), (2, .int xp2), (3, .int x19), (4, .int x26), (5, .int y127_l5)] → WX6_waysFrom_0 p l e s m below meth c D T ap0 xp1 xp2 H locs (F0 m 127 ls []) := by
          intro y127_l5 c127_xp1 c127_x19 c127_x26 H127 locs127 hw ls hl
          refine lv_aload_n hx hb dX6_waysFrom_127 rfl (lv_at hl 0 rfl) ?_
          refine hp_getr hx hb hts IX6 hown hK hw.1 hp0 rfl 3 (by decide) L22 rfl dX6_waysFrom_128 ?_
          refine lv_iload_n hx hb dX6_waysFrom_131 rfl (lv_at hl 3 rfl) ?_
          refine lv_dup2_11 hx hb dX6_waysFrom_132 rfl rfl ?_
          refine hp_ialdA hx hb hK hw.1 hp0du (vp_iv c127_x19 (by decide)) dX6_waysFrom_133 (fun x133 => ?_)
          refine lv_iconst (v := 1) hx hb dX6_waysFrom_134 (by decide) ?_
          refine lv_isub hx hb dX6_waysFrom_135 ?_
          refine lv_topi (fun x135 ex135 => ?_)
          refine hp_iast hx hb hK hw hp0du (vp_iv c127_x19 (by decide)) ⟨_, rfl⟩ dX6_waysFrom_136 (fun H136 locs136 hw g136 => ?_)
          refine lv_aload_n hx hb dX6_waysFrom_137 rfl (lv_at hl 0 rfl) ?_
          refine hp_getr hx hb hts IX6 hown hK hw.1 hp0 rfl 3 (by decide) L22 rfl dX6_waysFrom_138 ?_
          refine lv_iload hx hb dX6_waysFrom_141 (lv_at hl 4 rfl) ?_
          refine lv_dup2_11 hx hb dX6_waysFrom_143 rfl rfl ?_
          refine hp_ialdA hx hb hK hw.1 hp0du (vp_iv c127_x26 (by decide)) dX6_waysFrom_144 (fun x144 => ?_)
          refine lv_iconst (v := 1) hx hb dX6_waysFrom_145 (by decide) ?_
          refine lv_isub hx hb dX6_waysFrom_146 ?_
          refine lv_topi (fun x146 ex146 => ?_)
          refine hp_iast hx hb hK hw hp0du (vp_iv c127_x26 (by decide)) ⟨_, rfl⟩ dX6_waysFrom_147 (fun H147 locs147 hw g147 => ?_)
          refine lv_aload_n hx hb dX6_waysFrom_148 rfl (lv_at hl 0 rfl) ?_
          refine lv_iload_n hx hb dX6_waysFrom_149 rfl (lv_at hl 3 rfl) ?_
          refine hp_callpi (va_runV (As := [.int x19]) (rest := []) ⟨hx, hb, hml, hown, hts⟩ (sX6_canStillBe l D T ap0 x19 ip0 c127_x19) (cwV 1 hts gX6_waysFrom_X6_canStillBe rfl rfl rfl (by decide +kernel) ⟨Nat.le_of_ble_eq_true rfl, Nat.le_of_ble_eq_true rfl⟩) (hp_preV hG hw hp0 rfl trivial) rfl rfl hl.1 rfl (lv_room (Nat.le_of_ble_eq_true rfl)) dX6_waysFrom_150 ⟨Nat.zero_le _, Nat.zero_le _⟩) (fun x150 bx150 => ?_)
          have J178 : ∀ (y178_l5 : Int32), iv x19 0 9 → iv x26 0 9 → ∀ (H : Heap) (locs : List Loc), hp_w D T s H locs → ∀ (ls : Array Slot), lv_has ls 6 [(0, .ref ap0), (3, .int x19), (4, .int x26), (5, .int y178_l5)] → WX6_waysFrom_0 p l e s m below meth c D T ap0 xp1 xp2 H locs (F0 m 178 ls []) := by
            intro y178_l5 c178_x19 c178_x26 H178 locs178 hw ls hl
            refine lv_aload_n hx hb dX6_waysFrom_178 rfl (lv_at hl 0 rfl) ?_
            refine hp_getr hx hb hts IX6 hown hK hw.1 hp0 rfl 3 (by decide) L22 rfl dX6_waysFrom_179 ?_
            refine lv_iload_n hx hb dX6_waysFrom_182 rfl (lv_at hl 1 rfl) ?_
            refine lv_dup2_11 hx hb dX6_waysFrom_183 rfl rfl ?_
            refine hp_ialdA hx hb hK hw.1 hp0du (vp_iv c178_x19 (by decide)) dX6_waysFrom_184 (fun x184 => ?_)
            refine lv_iconst (v := 1) hx hb dX6_waysFrom_185 (by decide) ?_
            refine lv_iadd hx hb dX6_waysFrom_186 ?_
            refine lv_topi (fun x186 ex186 => ?_)
            refine hp_iast hx hb hK hw hp0du (vp_iv c178_x19 (by decide)) ⟨_, rfl⟩ dX6_waysFrom_187 (fun H187 locs187 hw g187 => ?_)
            refine lv_aload_n hx hb dX6_waysFrom_188 rfl (lv_at hl 0 rfl) ?_
            refine hp_getr hx hb hts IX6 hown hK hw.1 hp0 rfl 3 (by decide) L22 rfl dX6_waysFrom_189 ?_
            refine lv_iload hx hb dX6_waysFrom_192 (lv_at hl 2 rfl) ?_
            refine lv_dup2_11 hx hb dX6_waysFrom_194 rfl rfl ?_
            refine hp_ialdA hx hb hK hw.1 hp0du (vp_iv c178_x26 (by decide)) dX6_waysFrom_195 (fun x195 => ?_)
            refine lv_iconst (v := 1) hx hb dX6_waysFrom_196 (by decide) ?_
            refine lv_iadd hx hb dX6_waysFrom_197 ?_
            refine lv_topi (fun x197 ex197 => ?_)
            refine hp_iast hx hb hK hw hp0du (vp_iv c178_x26 (by decide)) ⟨_, rfl⟩ dX6_waysFrom_198 (fun H198 locs198 hw g198 => ?_)
            refine lv_aload_n hx hb dX6_waysFrom_199 rfl (lv_at hl 0 rfl) ?_
            refine hp_getr hx hb hts IX6 hown hK hw.1 hp0 rfl 5 (by decide) L29 rfl dX6_waysFrom_200 ?_
            refine lv_iload_n hx hb dX6_waysFrom_203 rfl (lv_at hl 1 rfl) ?_
            refine lv_dup2_11 hx hb dX6_waysFrom_204 rfl rfl ?_
            refine hp_ialdA hx hb hK hw.1 hp0op (vp_iv c178_x19 (by decide)) dX6_waysFrom_205 (fun x205 => ?_)
            refine lv_iconst (v := 1) hx hb dX6_waysFrom_206 (by decide) ?_
            refine lv_iadd hx hb dX6_waysFrom_207 ?_
            refine lv_topi (fun x207 ex207 => ?_)
            refine hp_iast hx hb hK hw hp0op (vp_iv c178_x19 (by decide)) ⟨_, rfl⟩ dX6_waysFrom_208 (fun H208 locs208 hw g208 => ?_)
            refine lv_aload_n hx hb dX6_waysFrom_209 rfl (lv_at hl 0 rfl) ?_
            refine hp_getr hx hb hts IX6 hown hK hw.1 hp0 rfl 5 (by decide) L29 rfl dX6_waysFrom_210 ?_
            refine lv_iload hx hb dX6_waysFrom_213 (lv_at hl 2 rfl) ?_
            refine lv_dup2_11 hx hb dX6_waysFrom_215 rfl rfl ?_
            refine hp_ialdA hx hb hK hw.1 hp0op (vp_iv c178_x26 (by decide)) dX6_waysFrom_216 (fun x216 => ?_)
            refine lv_iconst (v := 1) hx hb dX6_waysFrom_217 (by decide) ?_
            refine lv_iadd hx hb dX6_waysFrom_218 ?_
            refine lv_topi (fun x218 ex218 => ?_)
            refine hp_iast hx hb hK hw hp0op (vp_iv c178_x26 (by decide)) ⟨_, rfl⟩ dX6_waysFrom_219 (fun H219 locs219 hw g219 => ?_)
            refine lv_iload hx hb dX6_waysFrom_220 (lv_at hl 3 rfl) ?_
            exact W.iret (v := y178_l5) hx hb hr (fun t ht hW => ⟨some (.int y178_l5), rfl, ⟨y178_l5, rfl, trivial⟩, by rw [ht]; exact hw.1, hw.2.F ht⟩) hw.2.2.2 dX6_waysFrom_222
          refine lv_if_eq (tgt := 178) hx hb dX6_waysFrom_153 (by decide) (fun c153 => ?_) (fun c153 => ?_)
          · have r153tp : iv x150 0 0 := (iv_both bx150 (iv_eq (show iv 0 0 0 from ⟨by decide, by decide⟩) c153)).mono (by decide) (by decide)
            exact J178 y127_l5 c127_x19 c127_x26 H147 locs147 hw _ (lv_sub hl [0, 3, 4, 5] rfl)
          · have r153fp : iv x150 1 1 := (iv_ne_lo c153 bx150 rfl).mono (by decide) (by decide)
            refine lv_aload_n hx hb dX6_waysFrom_156 rfl (lv_at hl 0 rfl) ?_
            refine lv_iload hx hb dX6_waysFrom_157 (lv_at hl 4 rfl) ?_
            refine hp_callpi (va_runV (As := [.int x26]) (rest := []) ⟨hx, hb, hml, hown, hts⟩ (sX6_canStillBe l D T ap0 x26 ip0 c127_x26) (cwV 1 hts gX6_waysFrom_X6_canStillBe rfl rfl rfl (by decide +kernel) ⟨Nat.le_of_ble_eq_true rfl, Nat.le_of_ble_eq_true rfl⟩) (hp_preV hG hw hp0 rfl trivial) rfl rfl hl.1 rfl (lv_room (Nat.le_of_ble_eq_true rfl)) dX6_waysFrom_159 ⟨Nat.zero_le _, Nat.zero_le _⟩) (fun x159 bx159 => ?_)
            refine lv_if_eq (tgt := 178) hx hb dX6_waysFrom_162 (by decide) (fun c162 => ?_) (fun c162 => ?_)
            · have r162tp : iv x159 0 0 := (iv_both bx159 (iv_eq (show iv 0 0 0 from ⟨by decide, by decide⟩) c162)).mono (by decide) (by decide)
              exact J178 y127_l5 c127_x19 c127_x26 H147 locs147 hw _ (lv_sub hl [0, 3, 4, 5] rfl)
            · have r162fp : iv x159 1 1 := (iv_ne_lo c162 bx159 rfl).mono (by decide) (by decide)
              refine lv_iload hx hb dX6_waysFrom_165 (lv_at hl 5 rfl) ?_
              refine lv_aload_n hx hb dX6_waysFrom_167 rfl (lv_at hl 0 rfl) ?_
              refine lv_iload_n hx hb dX6_waysFrom_168 rfl (lv_at hl 1 rfl) ?_
              refine lv_iconst (v := 1) hx hb dX6_waysFrom_169 (by decide) ?_
              refine lv_iadd hx hb dX6_waysFrom_170 ?_
              refine lv_topi (fun x170 ex170 => ?_)
              have bx170 : iv x170 1 1 := iv_add c127_xp1 (show iv 1 1 1 from ⟨by decide, by decide⟩) ex170 (by decide)
              have qx170 := iv_add_eq c127_xp1 (show iv 1 1 1 from ⟨by decide, by decide⟩) ex170 (by decide)
              refine lv_iload_n hx hb dX6_waysFrom_171 rfl (lv_at hl 2 rfl) ?_
              refine hp_callei (va_runV (As := [.int x170, .int xp2]) (rest := [.int y127_l5]) ⟨hx, hb, hml, hown, hts⟩ (sX6_waysFrom_1 l D T ap0 x170 xp2 ip0 bx170) (cwV 2 hts gX6_waysFrom_X6_waysFrom rfl rfl rfl (by decide +kernel) ⟨Nat.le_of_ble_eq_true rfl, Nat.le_of_ble_eq_true rfl⟩) (hp_preV hG hw hp0 rfl trivial) rfl rfl hl.1 rfl (lv_room (Nat.le_of_ble_eq_true rfl)) dX6_waysFrom_172 ⟨Nat.zero_le _, Nat.zero_le _⟩) hw (fun x172 st172 t172 H172 locs172 eh172 eg172 bx172 hw => ?_)
              refine lv_iadd hx hb dX6_waysFrom_175 ?_
              refine lv_topi (fun x175 ex175 => ?_)
              refine lv_istore (lv' := [(5, .int x175), (0, .ref ap0), (1, .int xp1), (2, .int xp2), (3, .int x19), (4, .int x26)]) hx hb dX6_waysFrom_176 hl (by decide) rfl (fun ls hl => ?_)
              exact J178 x175 c127_x19 c127_x26 H172 locs172 hw _ (lv_sub hl [1, 4, 5, 0] rfl)
        refine lv_icmp_eq (tgt := 127) hx hb dX6_waysFrom_94 (by decide) (fun c94 => ?_) (fun c94 => ?_)
        · have r94tq : iv xp2 0 0 := (iv_both (iv_any xp2) (iv_eq c68_xp1 c94.symm)).mono (by decide) (by decide)
          exact J127 (0 : Int32) c68_xp1 c68_x19 c68_x26 H88 locs88 hw _ (lv_sub hl [1, 2, 3, 4, 5, 0] rfl)
        · refine lv_aload_n hx hb dX6_waysFrom_97 rfl (lv_at hl 1 rfl) ?_
          refine lv_iload_n hx hb dX6_waysFrom_98 rfl (lv_at hl 4 rfl) ?_
          refine hp_callpi (va_runV (As := [.int x19]) (rest := []) ⟨hx, hb, hml, hown, hts⟩ (sX6_canStillBe l D T ap0 x19 ip0 c68_x19) (cwV 1 hts gX6_waysFrom_X6_canStillBe rfl rfl rfl (by decide +kernel) ⟨Nat.le_of_ble_eq_true rfl, Nat.le_of_ble_eq_true rfl⟩) (hp_preV hG hw hp0 rfl trivial) rfl rfl hl.1 rfl (lv_room (Nat.le_of_ble_eq_true rfl)) dX6_waysFrom_99 ⟨Nat.zero_le _, Nat.zero_le _⟩) (fun x99 bx99 => ?_)
          refine lv_if_eq (tgt := 127) hx hb dX6_waysFrom_102 (by decide) (fun c102 => ?_) (fun c102 => ?_)
          · have r102tp : iv x99 0 0 := (iv_both bx99 (iv_eq (show iv 0 0 0 from ⟨by decide, by decide⟩) c102)).mono (by decide) (by decide)
            exact J127 (0 : Int32) c68_xp1 c68_x19 c68_x26 H88 locs88 hw _ (lv_sub hl [1, 2, 3, 4, 5, 0] rfl)
          · have r102fp : iv x99 1 1 := (iv_ne_lo c102 bx99 rfl).mono (by decide) (by decide)
            refine lv_aload_n hx hb dX6_waysFrom_105 rfl (lv_at hl 1 rfl) ?_
            refine lv_iload hx hb dX6_waysFrom_106 (lv_at hl 5 rfl) ?_
            refine hp_callpi (va_runV (As := [.int x26]) (rest := []) ⟨hx, hb, hml, hown, hts⟩ (sX6_canStillBe l D T ap0 x26 ip0 c68_x26) (cwV 1 hts gX6_waysFrom_X6_canStillBe rfl rfl rfl (by decide +kernel) ⟨Nat.le_of_ble_eq_true rfl, Nat.le_of_ble_eq_true rfl⟩) (hp_preV hG hw hp0 rfl trivial) rfl rfl hl.1 rfl (lv_room (Nat.le_of_ble_eq_true rfl)) dX6_waysFrom_108 ⟨Nat.zero_le _, Nat.zero_le _⟩) (fun x108 bx108 => ?_)
            refine lv_if_eq (tgt := 127) hx hb dX6_waysFrom_111 (by decide) (fun c111 => ?_) (fun c111 => ?_)
            · have r111tp : iv x108 0 0 := (iv_both bx108 (iv_eq (show iv 0 0 0 from ⟨by decide, by decide⟩) c111)).mono (by decide) (by decide)
              exact J127 (0 : Int32) c68_xp1 c68_x19 c68_x26 H88 locs88 hw _ (lv_sub hl [1, 2, 3, 4, 5, 0] rfl)
            · have r111fp : iv x108 1 1 := (iv_ne_lo c111 bx108 rfl).mono (by decide) (by decide)
              refine lv_iload hx hb dX6_waysFrom_114 (lv_at hl 0 rfl) ?_
              refine lv_aload_n hx hb dX6_waysFrom_116 rfl (lv_at hl 1 rfl) ?_
              refine lv_iload_n hx hb dX6_waysFrom_117 rfl (lv_at hl 2 rfl) ?_
              refine lv_iconst (v := 1) hx hb dX6_waysFrom_118 (by decide) ?_
              refine lv_iadd hx hb dX6_waysFrom_119 ?_
              refine lv_topi (fun x119 ex119 => ?_)
              have bx119 : iv x119 1 1 := iv_add c68_xp1 (show iv 1 1 1 from ⟨by decide, by decide⟩) ex119 (by decide)
              have qx119 := iv_add_eq c68_xp1 (show iv 1 1 1 from ⟨by decide, by decide⟩) ex119 (by decide)
              refine lv_iload_n hx hb dX6_waysFrom_120 rfl (lv_at hl 3 rfl) ?_
              refine hp_callei (va_runV (As := [.int x119, .int xp2]) (rest := [.int 0]) ⟨hx, hb, hml, hown, hts⟩ (sX6_waysFrom_1 l D T ap0 x119 xp2 ip0 bx119) (cwV 2 hts gX6_waysFrom_X6_waysFrom rfl rfl rfl (by decide +kernel) ⟨Nat.le_of_ble_eq_true rfl, Nat.le_of_ble_eq_true rfl⟩) (hp_preV hG hw hp0 rfl trivial) rfl rfl hl.1 rfl (lv_room (Nat.le_of_ble_eq_true rfl)) dX6_waysFrom_121 ⟨Nat.zero_le _, Nat.zero_le _⟩) hw (fun x121 st121 t121 H121 locs121 eh121 eg121 bx121 hw => ?_)
              refine lv_iadd hx hb dX6_waysFrom_124 ?_
              refine lv_topi (fun x124 ex124 => ?_)
              have qx124 := iv_add_eq (show iv 0 0 0 from ⟨by decide, by decide⟩) (iv_any x121) ex124 (by decide)
              refine lv_istore (lv' := [(5, .int x124), (0, .ref ap0), (1, .int xp1), (2, .int xp2), (3, .int x19), (4, .int x26)]) hx hb dX6_waysFrom_125 hl (by decide) rfl (fun ls hl => ?_)
              exact J127 x124 c68_xp1 c68_x19 c68_x26 H121 locs121 hw _ (lv_sub hl [1, 2, 3, 4, 5, 0] rfl)
      refine lv_if_ne (tgt := 68) hx hb dX6_waysFrom_35 (by decide) (fun c35 => ?_) (fun c35 => ?_)
      · exact J68 bp1 bx19 bx26 s.heap [] hw _ (lv_sub hl [2, 3, 4, 1, 0] rfl)
      · have r35fp : iv x34 0 0 := (iv_both (iv_any x34) (iv_eq (show iv 0 0 0 from ⟨by decide, by decide⟩) c35)).mono (by decide) (by decide)
        refine lv_aload_n hx hb dX6_waysFrom_38 rfl (lv_at hl 2 rfl) ?_
        refine hp_getr hx hb hts IX6 hown hK hw.1 hp0 rfl 4 (by decide) L25 rfl dX6_waysFrom_39 ?_
        refine lv_iload hx hb dX6_waysFrom_42 (lv_at hl 0 rfl) ?_
        refine hp_zaldA hx hb hK hw.1 hp0it (vp_iv bx26 (by decide)) dX6_waysFrom_44 (fun x44 => ?_)
        refine lv_if_ne (tgt := 68) hx hb dX6_waysFrom_45 (by decide) (fun c45 => ?_) (fun c45 => ?_)
        · exact J68 bp1 bx19 bx26 s.heap [] hw _ (lv_sub hl [2, 3, 4, 1, 0] rfl)
        · have r45fp : iv x44 0 0 := (iv_both (iv_any x44) (iv_eq (show iv 0 0 0 from ⟨by decide, by decide⟩) c45)).mono (by decide) (by decide)
          refine lv_iload_n hx hb dX6_waysFrom_48 rfl (lv_at hl 3 rfl) ?_
          refine lv_iload_n hx hb dX6_waysFrom_49 rfl (lv_at hl 4 rfl) ?_
          have J58 : ∀ (y58_s0 : Int32), iv xp1 0 0 → iv y58_s0 1 2 → ∀ (H : Heap) (locs : List Loc), hp_w D T s H locs → ∀ (ls : Array Slot), lv_has ls 6 [(0, .ref ap0), (1, .int xp1), (2, .int xp2)] → WX6_waysFrom_0 p l e s m below meth c D T ap0 xp1 xp2 H locs (F0 m 58 ls [.int y58_s0]) := by
            intro y58_s0 c58_xp1 c58_y58_s0 H58 locs58 hw ls hl
            refine lv_aload_n hx hb dX6_waysFrom_58 rfl (lv_at hl 0 rfl) ?_
            refine lv_iload_n hx hb dX6_waysFrom_59 rfl (lv_at hl 1 rfl) ?_
            refine lv_iconst (v := 1) hx hb dX6_waysFrom_60 (by decide) ?_
            refine lv_iadd hx hb dX6_waysFrom_61 ?_
            refine lv_topi (fun x61 ex61 => ?_)
            have bx61 : iv x61 1 1 := iv_add c58_xp1 (show iv 1 1 1 from ⟨by decide, by decide⟩) ex61 (by decide)
            have qx61 := iv_add_eq c58_xp1 (show iv 1 1 1 from ⟨by decide, by decide⟩) ex61 (by decide)
            refine lv_iload_n hx hb dX6_waysFrom_62 rfl (lv_at hl 2 rfl) ?_
            refine hp_callei (va_runV (As := [.int x61, .int xp2]) (rest := [.int y58_s0]) ⟨hx, hb, hml, hown, hts⟩ (sX6_waysFrom_1 l D T ap0 x61 xp2 ip0 bx61) (cwV 2 hts gX6_waysFrom_X6_waysFrom rfl rfl rfl (by decide +kernel) ⟨Nat.le_of_ble_eq_true rfl, Nat.le_of_ble_eq_true rfl⟩) (hp_preV hG hw hp0 rfl trivial) rfl rfl hl.1 rfl (lv_room (Nat.le_of_ble_eq_true rfl)) dX6_waysFrom_63 ⟨Nat.zero_le _, Nat.zero_le _⟩) hw (fun x63 st63 t63 H63 locs63 eh63 eg63 bx63 hw => ?_)
            refine lv_imul hx hb dX6_waysFrom_66 ?_
            refine lv_topi (fun x66 ex66 => ?_)
            exact W.iret (v := x66) hx hb hr (fun t ht hW => ⟨some (.int x66), rfl, ⟨x66, rfl, trivial⟩, by rw [ht]; exact hw.1, hw.2.F ht⟩) hw.2.2.2 dX6_waysFrom_67
          refine lv_icmp_ne (tgt := 57) hx hb dX6_waysFrom_50 (by decide) (fun c50 => ?_) (fun c50 => ?_)
          · refine lv_iconst (v := 2) hx hb dX6_waysFrom_57 (by decide) ?_
            exact J58 (2 : Int32) bp1 (show iv 2 1 2 from ⟨by decide, by decide⟩) s.heap [] hw _ (lv_sub hl [2, 3, 4] rfl)
          · have r50fq : iv xp2 0 0 := (iv_both (iv_any xp2) (iv_eq bp1 c50.symm)).mono (by decide) (by decide)
            refine lv_iconst (v := 1) hx hb dX6_waysFrom_53 (by decide) ?_
            refine lv_goto (tgt := 58) hx hb dX6_waysFrom_54 (by decide) ?_
            exact J58 (1 : Int32) bp1 (show iv 1 1 2 from ⟨by decide, by decide⟩) s.heap [] hw _ (lv_sub hl [2, 3, 4] rfl)
    · have r9fp : iv x6 0 0 := (iv_le_l (iv_nlt c9) bx6 bp1).mono (by decide) (by decide)
      exact J12 s.heap [] hw _ (lv_sub hl [] rfl)
abbrev WX6_waysWith (p : Program) (l : Launch) (e : Env) (s : State) (m : MethodId) (below : List Frame) (meth : Method) (c : Code) (D : hp_D) (T : hp_T) (ap0 : Nat) (xp1 : Int32) (H : Heap) (locs : List Loc) (g : JFrame) : Prop := W p l e (headSpec wsX6_waysWith ({ frames := 17, cells := 0, slots := 0, locals := 425 })).room s m ([.ref ap0, .int xp1] : List Value).toArray below meth c H locs 0 0 (MQ below (hq_e D T (fun v _ _ => ∃ r : Int32, v = some (.int r) ∧ True)) ([.ref ap0, .int xp1] : List Value).toArray s 0 0 (hp_F T)) g
set_option maxHeartbeats 4000000 in
set_option maxRecDepth 100000 in
theorem sX6_waysWith (l : Launch) (D : hp_D) (T : hp_T) (ap0 : Nat) (xp1 : Int32) (ip0 : isShuns T ap0) : Met l yX6_waysWith wsX6_waysWith ({ frames := 17, cells := 0, slots := 0, locals := 425 }) (hp_Pc D T [.ref ap0, .int xp1] (fun _ => True)) (hq_e D T (fun v _ _ => ∃ r : Int32, v = some (.int r) ∧ True)) 0 0 (hp_F T) := by
  obtain ⟨ap0le, ap0gr, ap0du, ap0it, ap0op, hp0, hp0le, hp0gr, hp0du, hp0it, hp0op⟩ := id ip0
  refine Met.ofW (cc := cX6_waysWith) (maxL := 3) (ret := (some .int)) (by decide) rfl ?_
  intro p e s m args below meth c s₁ B hml hv
  obtain ⟨rfl, hok, hG, hB⟩ := hv
  have hx := B.exec
  have hb := B.bytes
  have hr := B.returns
  have hts := atoms_spec (ws := wsX6_waysWith) B.pre
  have hown : s.vm.findClass RX6 = some m.cls := findClass_of_methodNamed B.named
  have hlocks := B.notSynchronized
  have hK := hG.1
  have hw : hp_w D T s s.heap [] := hp_w.rf hok
  have hl := lv_entry ([.ref ap0, .int xp1]) (n := 3) (Nat.le_of_ble_eq_true rfl)
  rw [lg_entry_eq]
  generalize (lg_sl ([.ref ap0, .int xp1]) ++ List.replicate (3 - (lg_sl ([.ref ap0, .int xp1])).length) Slot.unset).toArray = ls at hl ⊢
  have hl : lv_has ls 3 [(0, .ref ap0), (1, .int xp1)] := hl
  show WX6_waysWith p l e s m below meth c D T ap0 xp1 s.heap [] (F0 m 0 ls [])
  refine lv_iconst (v := 0) hx hb dX6_waysWith_0 (by decide) ?_
  refine lv_istore_n (lv' := [(2, .int 0), (0, .ref ap0), (1, .int xp1)]) hx hb dX6_waysWith_1 rfl hl (by decide) rfl (fun ls hl => ?_)
  have J2 : ∀ (n : Nat) (y2_l2 : Int32), (10 - y2_l2.toInt).toNat < n → iv y2_l2 0 10 → ∀ (H : Heap) (locs : List Loc), hp_w D T s H locs → ∀ (ls : Array Slot), lv_has ls 3 [(0, .ref ap0), (1, .int xp1), (2, .int y2_l2)] → WX6_waysWith p l e s m below meth c D T ap0 xp1 H locs (F0 m 2 ls []) := by
    intro n
    induction n with
    | zero => intro y2_l2 hmu2 c2_y2_l2 H2 locs2 hw ls hl; exact absurd hmu2 (Nat.not_lt_zero _)
    | succ n ih2 =>
      intro y2_l2 hmu2 c2_y2_l2 H2 locs2 hw ls hl
      refine lv_iload_n hx hb dX6_waysWith_2 rfl (lv_at hl 2 rfl) ?_
      refine lv_bipush (v := 10) hx hb dX6_waysWith_3 (by decide) ?_
      refine lv_icmp_ge (tgt := 24) hx hb dX6_waysWith_5 (by decide) (fun c5 => ?_) (fun c5 => ?_)
      · have r5tq : iv y2_l2 10 10 := (iv_le_r c5 (show iv 10 10 10 from ⟨by decide, by decide⟩) c2_y2_l2).mono (by decide) (by decide)
        refine lv_aload_n hx hb dX6_waysWith_24 rfl (lv_at hl 0 rfl) ?_
        refine lv_iconst (v := 0) hx hb dX6_waysWith_25 (by decide) ?_
        refine lv_iload_n hx hb dX6_waysWith_26 rfl (lv_at hl 1 rfl) ?_
        refine hp_callei (va_runV (As := [.int 0, .int xp1]) (rest := []) ⟨hx, hb, hml, hown, hts⟩ (sX6_waysFrom_0 l D T ap0 (0 : Int32) xp1 ip0 (show iv 0 0 0 from ⟨by decide, by decide⟩)) (cwV 2 hts gX6_waysWith_X6_waysFrom rfl rfl rfl (by decide +kernel) ⟨Nat.le_of_ble_eq_true rfl, Nat.le_of_ble_eq_true rfl⟩) (hp_preV hG hw hp0 rfl trivial) rfl rfl hl.1 rfl (lv_room (Nat.le_of_ble_eq_true rfl)) dX6_waysWith_27 ⟨Nat.zero_le _, Nat.zero_le _⟩) hw (fun x27 st27 t27 H27 locs27 eh27 eg27 bx27 hw => ?_)
        exact W.iret (v := x27) hx hb hr (fun t ht hW => ⟨some (.int x27), rfl, ⟨x27, rfl, trivial⟩, by rw [ht]; exact hw.1, hw.2.F ht⟩) hw.2.2.2 dX6_waysWith_30
      · have r5fp : iv y2_l2 0 9 := (iv_lt_l (iv_nle c5) c2_y2_l2 (show iv 10 10 10 from ⟨by decide, by decide⟩)).mono (by decide) (by decide)
        refine lv_aload_n hx hb dX6_waysWith_8 rfl (lv_at hl 0 rfl) ?_
        refine lv_iload_n hx hb dX6_waysWith_9 rfl (lv_at hl 2 rfl) ?_
        refine hp_callpi (va_runV (As := [.int y2_l2]) (rest := []) ⟨hx, hb, hml, hown, hts⟩ (sX6_canStillBe l D T ap0 y2_l2 ip0 r5fp) (cwV 1 hts gX6_waysWith_X6_canStillBe rfl rfl rfl (by decide +kernel) ⟨Nat.le_of_ble_eq_true rfl, Nat.le_of_ble_eq_true rfl⟩) (hp_preV hG hw hp0 rfl trivial) rfl rfl hl.1 rfl (lv_room (Nat.le_of_ble_eq_true rfl)) dX6_waysWith_10 ⟨Nat.zero_le _, Nat.zero_le _⟩) (fun x10 bx10 => ?_)
        refine lv_if_ne (tgt := 18) hx hb dX6_waysWith_13 (by decide) (fun c13 => ?_) (fun c13 => ?_)
        · have r13tp : iv x10 1 1 := (iv_ne_lo c13 bx10 rfl).mono (by decide) (by decide)
          obtain ⟨x18, ex18⟩ : ∃ y : Int32, y = y2_l2 + 1 := ⟨_, rfl⟩
          have bx18 : iv x18 1 10 := iv_add r5fp (show iv 1 1 1 from ⟨by decide, by decide⟩) ex18 (by decide)
          have qx18 := iv_add_eq r5fp (show iv 1 1 1 from ⟨by decide, by decide⟩) ex18 (by decide)
          refine lv_iinc (v := x18) (lv' := [(2, .int x18), (0, .ref ap0), (1, .int xp1)]) hx hb dX6_waysWith_18 hl (k := 2) rfl (by rw [ex18]; rfl) (by decide) rfl (fun ls hl => ?_)
          refine lv_goto (tgt := 2) hx hb dX6_waysWith_21 (by decide) ?_
          exact ih2 x18 (mu_up 1 hmu2 (qx18) (by decide) (show iv x18 0 10 from (bx18.mono (by decide) (by decide))).2) (bx18.mono (by decide) (by decide)) H2 locs2 hw _ (lv_sub hl [1, 2, 0] rfl)
        · have r13fp : iv x10 0 0 := (iv_both bx10 (iv_eq (show iv 0 0 0 from ⟨by decide, by decide⟩) c13)).mono (by decide) (by decide)
          refine lv_iconst (v := 0) hx hb dX6_waysWith_16 (by decide) ?_
          exact W.iret (v := 0) hx hb hr (fun t ht hW => ⟨some (.int 0), rfl, ⟨(0 : Int32), rfl, trivial⟩, by rw [ht]; exact hw.1, hw.2.F ht⟩) hw.2.2.2 dX6_waysWith_17
  exact J2 _ (0 : Int32) (Nat.lt_succ_self _) (show iv 0 0 10 from ⟨by decide, by decide⟩) s.heap [] hw _ (lv_sub hl [1, 2, 0] rfl)
