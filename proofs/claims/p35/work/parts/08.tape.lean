abbrev WX7_put (p : Program) (l : Launch) (e : Env) (s : State) (m : MethodId) (below : List Frame) (meth : Method) (c : Code) (D : hp_D) (T : hp_T) (ap0 : Nat) (xp1 : Int32) (H : Heap) (locs : List Loc) (g : JFrame) : Prop := W p l e (headSpec wsX7_put ({ frames := 0, cells := 0, slots := 0, locals := 0 })).room s m ([.ref ap0, .int xp1] : List Value).toArray below meth c H locs 0 0 (MQ below (hq_e D T (fun v _ _ => v = none ∧ True)) ([.ref ap0, .int xp1] : List Value).toArray s 0 0 (hp_F T)) g
set_option maxHeartbeats 4000000 in
set_option maxRecDepth 100000 in
theorem sX7_put (l : Launch) (D : hp_D) (T : hp_T) (ap0 : Nat) (xp1 : Int32) (ip0 : isTape T ap0) : Met l yX7_put wsX7_put ({ frames := 0, cells := 0, slots := 0, locals := 0 }) (hp_Pc D T [.ref ap0, .int xp1] (fun _ => True)) (hq_e D T (fun v _ _ => v = none ∧ True)) 0 0 (hp_F T) := by
  obtain ⟨ap0bt, hp0, hp0bt⟩ := id ip0
  refine Met.ofW (cc := cX7_put) (maxL := 3) (ret := none) (by decide) rfl ?_
  intro p e s m args below meth c s₁ B hml hv
  obtain ⟨rfl, hok, hG, hB⟩ := hv
  have hx := B.exec
  have hb := B.bytes
  have hr := B.returns
  have hts := atoms_spec (ws := wsX7_put) B.pre
  have hown : s.vm.findClass RX7 = some m.cls := findClass_of_methodNamed B.named
  have hlocks := B.notSynchronized
  have hK := hG.1
  have hw : hp_w D T s s.heap [] := hp_w.rf hok
  have IX7 : ∀ w ∈ wsX70, w ∈ wsX7_put := by decide +kernel
  have L15 := hts (.fieldLink RX7 15 "PalmCensus$Tape" "length" "I") (by decide +kernel)
  have L9 := hts (.fieldLink RX7 9 "PalmCensus$Tape" "bytes" "[B") (by decide +kernel)
  have hl := lv_entry ([.ref ap0, .int xp1]) (n := 3) (Nat.le_of_ble_eq_true rfl)
  rw [lg_entry_eq]
  generalize (lg_sl ([.ref ap0, .int xp1]) ++ List.replicate (3 - (lg_sl ([.ref ap0, .int xp1])).length) Slot.unset).toArray = ls at hl ⊢
  have hl : lv_has ls 3 [(0, .ref ap0), (1, .int xp1)] := hl
  show WX7_put p l e s m below meth c D T ap0 xp1 s.heap [] (F0 m 0 ls [])
  obtain ⟨x9000op0_1, bx9000op0_1, fx9000op0_1⟩ := hp_opI hw.1 hp0 1 rfl
  refine lv_bipush (v := 24) hx hb dX7_put_0 (by decide) ?_
  refine lv_istore_n (lv' := [(2, .int 24), (0, .ref ap0), (1, .int xp1)]) hx hb dX7_put_2 rfl hl (by decide) rfl (fun ls hl => ?_)
  have J3 : ∀ (n : Nat) (y3_l2 y3_fp0_1 : Int32), (y3_l2.toInt - (-10)).toNat < n → iv y3_l2 (-10) 24 → iv y3_fp0_1 0 400 → ∀ (H : Heap) (locs : List Loc), hp_w D T s H locs → hp_f D H ap0 7 1 (.int y3_fp0_1) → ∀ (ls : Array Slot), lv_has ls 3 [(0, .ref ap0), (1, .int xp1), (2, .int y3_l2)] → WX7_put p l e s m below meth c D T ap0 xp1 H locs (F0 m 3 ls []) := by
    intro n
    induction n with
    | zero => intro y3_l2 y3_fp0_1 hmu3 c3_y3_l2 c3_y3_fp0_1 H3 locs3 hw f_p0_1 ls hl; exact absurd hmu3 (Nat.not_lt_zero _)
    | succ n ih3 =>
      intro y3_l2 y3_fp0_1 hmu3 c3_y3_l2 c3_y3_fp0_1 H3 locs3 hw f_p0_1 ls hl
      refine lv_iload_n hx hb dX7_put_3 rfl (lv_at hl 2 rfl) ?_
      refine lv_if_lt (tgt := 48) hx hb dX7_put_4 (by decide) (fun c4 => ?_) (fun c4 => ?_)
      · have r4tp : iv y3_l2 (-10) (-1) := (iv_lt_l c4 c3_y3_l2 (show iv 0 0 0 from ⟨by decide, by decide⟩)).mono (by decide) (by decide)
        exact W.vret hx hb hr (fun t ht hW => ⟨none, rfl, ⟨rfl, trivial⟩, by rw [ht]; exact hw.1, hw.2.F ht⟩) hw.2.2.2 dX7_put_48
      · have r4fq : iv y3_l2 0 24 := (iv_le_r (iv_nlt c4) (show iv 0 0 0 from ⟨by decide, by decide⟩) c3_y3_l2).mono (by decide) (by decide)
        refine lv_aload_n hx hb dX7_put_7 rfl (lv_at hl 0 rfl) ?_
        refine hp_getf hx hb hts IX7 hown hK f_p0_1 rfl (by decide) L15 dX7_put_8 ?_
        refine lv_aload_n hx hb dX7_put_11 rfl (lv_at hl 0 rfl) ?_
        refine hp_getr hx hb hts IX7 hown hK hw.1 hp0 rfl 0 (by decide) L9 rfl dX7_put_12 ?_
        refine hp_alen (v := 400) hx hb hK hw.1 hp0bt rfl rfl dX7_put_15 ?_
        have J42 : ∀ (y42_fp0_1 : Int32), iv y3_l2 0 24 → iv y42_fp0_1 1 400 → ∀ (H : Heap) (locs : List Loc), hp_w D T s H locs → hp_f D H ap0 7 1 (.int y42_fp0_1) → ∀ (ls : Array Slot), lv_has ls 3 [(0, .ref ap0), (1, .int xp1), (2, .int y3_l2)] → WX7_put p l e s m below meth c D T ap0 xp1 H locs (F0 m 42 ls []) := by
          intro y42_fp0_1 c42_y3_l2 c42_y42_fp0_1 H42 locs42 hw f_p0_1 ls hl
          obtain ⟨x42, ex42⟩ : ∃ y : Int32, y = y3_l2 + (-8) := ⟨_, rfl⟩
          have bx42 : iv x42 (-8) 16 := iv_add c42_y3_l2 (show iv (-8) (-8) (-8) from ⟨by decide, by decide⟩) ex42 (by decide)
          have qx42 := iv_add_eq c42_y3_l2 (show iv (-8) (-8) (-8) from ⟨by decide, by decide⟩) ex42 (by decide)
          refine lv_iinc (v := x42) (lv' := [(2, .int x42), (0, .ref ap0), (1, .int xp1)]) hx hb dX7_put_42 hl (k := 2) rfl (by rw [ex42]; rfl) (by decide) rfl (fun ls hl => ?_)
          refine lv_goto (tgt := 3) hx hb dX7_put_45 (by decide) ?_
          exact ih3 x42 y42_fp0_1 (mu_dn 8 hmu3 (qx42) (by decide) (show iv x42 (-10) 24 from (bx42.mono (by decide) (by decide))).1) (bx42.mono (by decide) (by decide)) (c42_y42_fp0_1.mono (by decide) (by decide)) H42 locs42 hw f_p0_1 _ (lv_sub hl [1, 2, 0] rfl)
        refine lv_icmp_ge (tgt := 42) hx hb dX7_put_16 (by decide) (fun c16 => ?_) (fun c16 => ?_)
        · have r16tq : iv y3_fp0_1 400 400 := (iv_le_r c16 (show iv 400 400 400 from ⟨by decide, by decide⟩) c3_y3_fp0_1).mono (by decide) (by decide)
          exact J42 y3_fp0_1 r4fq (r16tq.mono (by decide) (by decide)) H3 locs3 hw f_p0_1 _ (lv_sub hl [0, 1, 2] rfl)
        · have r16fp : iv y3_fp0_1 0 399 := (iv_lt_l (iv_nle c16) c3_y3_fp0_1 (show iv 400 400 400 from ⟨by decide, by decide⟩)).mono (by decide) (by decide)
          refine lv_aload_n hx hb dX7_put_19 rfl (lv_at hl 0 rfl) ?_
          refine hp_getr hx hb hts IX7 hown hK hw.1 hp0 rfl 0 (by decide) L9 rfl dX7_put_20 ?_
          refine lv_aload_n hx hb dX7_put_23 rfl (lv_at hl 0 rfl) ?_
          refine hp_getf hx hb hts IX7 hown hK f_p0_1 rfl (by decide) L15 dX7_put_24 ?_
          refine lv_iload_n hx hb dX7_put_27 rfl (lv_at hl 1 rfl) ?_
          refine lv_iload_n hx hb dX7_put_28 rfl (lv_at hl 2 rfl) ?_
          refine lv_ishr hx hb dX7_put_29 ?_
          refine lv_topi (fun x29 ex29 => ?_)
          obtain ⟨x30, ex30⟩ : ∃ y : Int32, x29.toInt8.toInt32 = y := ⟨_, rfl⟩
          refine lv_i2b (v := x30) hx hb dX7_put_30 ex30 ?_
          refine hp_bastA hx hb hK hw hp0bt (vp_iv r16fp (by decide)) dX7_put_31 (fun H31 locs31 hw g31 => ?_)
          have f_p0_1 := g31 _ _ _ _ f_p0_1
          refine lv_aload_n hx hb dX7_put_32 rfl (lv_at hl 0 rfl) ?_
          refine lv_dup hx hb dX7_put_33 rfl ?_
          refine hp_getf hx hb hts IX7 hown hK f_p0_1 rfl (by decide) L15 dX7_put_34 ?_
          refine lv_iconst (v := 1) hx hb dX7_put_37 (by decide) ?_
          refine lv_iadd hx hb dX7_put_38 ?_
          refine lv_topi (fun x38 ex38 => ?_)
          have bx38 : iv x38 1 400 := iv_add r16fp (show iv 1 1 1 from ⟨by decide, by decide⟩) ex38 (by decide)
          have qx38 := iv_add_eq r16fp (show iv 1 1 1 from ⟨by decide, by decide⟩) ex38 (by decide)
          refine hp_put hx hb hts IX7 tyX7 tyX7_ok nmX7 hown hK hw hp0 rfl 1 (by decide) L15 rfl rfl ⟨_, rfl, (bx38.mono (by decide) (by decide))⟩ rfl rfl dX7_put_39 (fun H39 locs39 hw f39n g39 => ?_)
          exact J42 x38 r4fq bx38 H39 locs39 hw f39n _ (lv_sub hl [0, 1, 2] rfl)
  exact J3 _ (24 : Int32) x9000op0_1 (Nat.lt_succ_self _) (show iv 24 (-10) 24 from ⟨by decide, by decide⟩) bx9000op0_1 s.heap [] hw fx9000op0_1 _ (lv_sub hl [1, 2, 0] rfl)
abbrev WX7_startReading (p : Program) (l : Launch) (e : Env) (s : State) (m : MethodId) (below : List Frame) (meth : Method) (c : Code) (D : hp_D) (T : hp_T) (ap0 : Nat) (H : Heap) (locs : List Loc) (g : JFrame) : Prop := W p l e (headSpec wsX7_startReading ({ frames := 0, cells := 0, slots := 0, locals := 0 })).room s m ([.ref ap0] : List Value).toArray below meth c H locs 0 0 (MQ below (hq_e D T (fun v _ _ => v = none ∧ True)) ([.ref ap0] : List Value).toArray s 0 0 (hp_F T)) g
set_option maxHeartbeats 4000000 in
set_option maxRecDepth 100000 in
theorem sX7_startReading (l : Launch) (D : hp_D) (T : hp_T) (ap0 : Nat) (ip0 : isTape T ap0) : Met l yX7_startReading wsX7_startReading ({ frames := 0, cells := 0, slots := 0, locals := 0 }) (hp_Pc D T [.ref ap0] (fun _ => True)) (hq_e D T (fun v _ _ => v = none ∧ True)) 0 0 (hp_F T) := by
  obtain ⟨ap0bt, hp0, hp0bt⟩ := id ip0
  refine Met.ofW (cc := cX7_startReading) (maxL := 1) (ret := none) (by decide) rfl ?_
  intro p e s m args below meth c s₁ B hml hv
  obtain ⟨rfl, hok, hG, hB⟩ := hv
  have hx := B.exec
  have hb := B.bytes
  have hr := B.returns
  have hts := atoms_spec (ws := wsX7_startReading) B.pre
  have hown : s.vm.findClass RX7 = some m.cls := findClass_of_methodNamed B.named
  have hlocks := B.notSynchronized
  have hK := hG.1
  have hw : hp_w D T s s.heap [] := hp_w.rf hok
  have IX7 : ∀ w ∈ wsX70, w ∈ wsX7_startReading := by decide +kernel
  have L19 := hts (.fieldLink RX7 19 "PalmCensus$Tape" "place" "I") (by decide +kernel)
  have L25 := hts (.fieldLink RX7 25 "PalmCensus$Tape" "start" "I") (by decide +kernel)
  have L22 := hts (.fieldLink RX7 22 "PalmCensus$Tape" "fault" "I") (by decide +kernel)
  have hl := lv_entry ([.ref ap0]) (n := 1) (Nat.le_of_ble_eq_true rfl)
  rw [lg_entry_eq]
  generalize (lg_sl ([.ref ap0]) ++ List.replicate (1 - (lg_sl ([.ref ap0])).length) Slot.unset).toArray = ls at hl ⊢
  have hl : lv_has ls 1 [(0, .ref ap0)] := hl
  show WX7_startReading p l e s m below meth c D T ap0 s.heap [] (F0 m 0 ls [])
  refine lv_aload_n hx hb dX7_startReading_0 rfl (lv_at hl 0 rfl) ?_
  refine lv_iconst (v := 0) hx hb dX7_startReading_1 (by decide) ?_
  refine hp_put hx hb hts IX7 tyX7 tyX7_ok nmX7 hown hK hw hp0 rfl 2 (by decide) L19 rfl rfl ⟨_, rfl, (show iv 0 0 400 from ⟨by decide, by decide⟩)⟩ rfl rfl dX7_startReading_2 (fun H2 locs2 hw f2n g2 => ?_)
  refine lv_aload_n hx hb dX7_startReading_5 rfl (lv_at hl 0 rfl) ?_
  refine lv_iconst (v := 0) hx hb dX7_startReading_6 (by decide) ?_
  refine hp_put hx hb hts IX7 tyX7 tyX7_ok nmX7 hown hK hw hp0 rfl 4 (by decide) L25 rfl rfl ⟨_, rfl, (show iv 0 0 400 from ⟨by decide, by decide⟩)⟩ rfl rfl dX7_startReading_7 (fun H7 locs7 hw f7n g7 => ?_)
  refine lv_aload_n hx hb dX7_startReading_10 rfl (lv_at hl 0 rfl) ?_
  refine lv_iconst (v := 0) hx hb dX7_startReading_11 (by decide) ?_
  refine hp_put hx hb hts IX7 tyX7 tyX7_ok nmX7 hown hK hw hp0 rfl 3 (by decide) L22 rfl rfl ⟨_, rfl⟩ rfl rfl dX7_startReading_12 (fun H12 locs12 hw f12n g12 => ?_)
  exact W.vret hx hb hr (fun t ht hW => ⟨none, rfl, ⟨rfl, trivial⟩, by rw [ht]; exact hw.1, hw.2.F ht⟩) hw.2.2.2 dX7_startReading_15
abbrev WX7_blame (p : Program) (l : Launch) (e : Env) (s : State) (m : MethodId) (below : List Frame) (meth : Method) (c : Code) (D : hp_D) (T : hp_T) (ap0 : Nat) (xp1 : Int32) (xp2 : Int32) (H : Heap) (locs : List Loc) (g : JFrame) : Prop := W p l e (headSpec wsX7_blame ({ frames := 0, cells := 0, slots := 0, locals := 0 })).room s m ([.ref ap0, .int xp1, .int xp2] : List Value).toArray below meth c H locs 0 0 (MQ below (hq_e D T (fun v _ _ => ∃ r : Int32, v = some (.int r) ∧ iv r 0 0)) ([.ref ap0, .int xp1, .int xp2] : List Value).toArray s 0 0 (hp_F T)) g
set_option maxHeartbeats 4000000 in
set_option maxRecDepth 100000 in
theorem sX7_blame (l : Launch) (D : hp_D) (T : hp_T) (ap0 : Nat) (xp1 : Int32) (xp2 : Int32) (ip0 : isTape T ap0) : Met l yX7_blame wsX7_blame ({ frames := 0, cells := 0, slots := 0, locals := 0 }) (hp_Pc D T [.ref ap0, .int xp1, .int xp2] (fun _ => True)) (hq_e D T (fun v _ _ => ∃ r : Int32, v = some (.int r) ∧ iv r 0 0)) 0 0 (hp_F T) := by
  obtain ⟨ap0bt, hp0, hp0bt⟩ := id ip0
  refine Met.ofW (cc := cX7_blame) (maxL := 3) (ret := (some .boolean)) (by decide) rfl ?_
  intro p e s m args below meth c s₁ B hml hv
  obtain ⟨rfl, hok, hG, hB⟩ := hv
  have hx := B.exec
  have hb := B.bytes
  have hr := B.returns
  have hts := atoms_spec (ws := wsX7_blame) B.pre
  have hown : s.vm.findClass RX7 = some m.cls := findClass_of_methodNamed B.named
  have hlocks := B.notSynchronized
  have hK := hG.1
  have hw : hp_w D T s s.heap [] := hp_w.rf hok
  have IX7 : ∀ w ∈ wsX70, w ∈ wsX7_blame := by decide +kernel
  have L22 := hts (.fieldLink RX7 22 "PalmCensus$Tape" "fault" "I") (by decide +kernel)
  have hl := lv_entry ([.ref ap0, .int xp1, .int xp2]) (n := 3) (Nat.le_of_ble_eq_true rfl)
  rw [lg_entry_eq]
  generalize (lg_sl ([.ref ap0, .int xp1, .int xp2]) ++ List.replicate (3 - (lg_sl ([.ref ap0, .int xp1, .int xp2])).length) Slot.unset).toArray = ls at hl ⊢
  have hl : lv_has ls 3 [(0, .ref ap0), (1, .int xp1), (2, .int xp2)] := hl
  show WX7_blame p l e s m below meth c D T ap0 xp1 xp2 s.heap [] (F0 m 0 ls [])
  refine lv_aload_n hx hb dX7_blame_0 rfl (lv_at hl 0 rfl) ?_
  refine hp_getA hx hb hts IX7 hown hK hw.1 hp0 rfl 3 (by decide) L22 rfl dX7_blame_1 (fun x1 fx1 => ?_)
  have J19 : ∀ (H : Heap) (locs : List Loc), hp_w D T s H locs → ∀ (ls : Array Slot), lv_has ls 3 [] → WX7_blame p l e s m below meth c D T ap0 xp1 xp2 H locs (F0 m 19 ls []) := by
    intro H19 locs19 hw ls hl
    refine lv_iconst (v := 0) hx hb dX7_blame_19 (by decide) ?_
    exact W.zret (v := 0) hx hb hr (iv_nz (show iv 0 0 1 from ⟨by decide, by decide⟩)) (fun t ht hW => ⟨some (.int 0), rfl, ⟨(0 : Int32), rfl, (show iv 0 0 0 from ⟨by decide, by decide⟩)⟩, by rw [ht]; exact hw.1, hw.2.F ht⟩) hw.2.2.2 dX7_blame_20
  refine lv_if_ne (tgt := 19) hx hb dX7_blame_4 (by decide) (fun c4 => ?_) (fun c4 => ?_)
  · exact J19 s.heap [] hw _ (lv_sub hl [] rfl)
  · have r4fp : iv x1 0 0 := (iv_both (iv_any x1) (iv_eq (show iv 0 0 0 from ⟨by decide, by decide⟩) c4)).mono (by decide) (by decide)
    refine lv_aload_n hx hb dX7_blame_7 rfl (lv_at hl 0 rfl) ?_
    refine lv_iconst (v := 1) hx hb dX7_blame_8 (by decide) ?_
    refine lv_bipush (v := 8) hx hb dX7_blame_9 (by decide) ?_
    refine lv_iload_n hx hb dX7_blame_11 rfl (lv_at hl 1 rfl) ?_
    refine lv_imul hx hb dX7_blame_12 ?_
    refine lv_topi (fun x12 ex12 => ?_)
    refine lv_iadd hx hb dX7_blame_13 ?_
    refine lv_topi (fun x13 ex13 => ?_)
    refine lv_iload_n hx hb dX7_blame_14 rfl (lv_at hl 2 rfl) ?_
    refine lv_iadd hx hb dX7_blame_15 ?_
    refine lv_topi (fun x15 ex15 => ?_)
    refine hp_put hx hb hts IX7 tyX7 tyX7_ok nmX7 hown hK hw hp0 rfl 3 (by decide) L22 rfl rfl ⟨_, rfl⟩ rfl rfl dX7_blame_16 (fun H16 locs16 hw f16n g16 => ?_)
    exact J19 H16 locs16 hw _ (lv_sub hl [] rfl)
abbrev WX7_byteAt (p : Program) (l : Launch) (e : Env) (s : State) (m : MethodId) (below : List Frame) (meth : Method) (c : Code) (D : hp_D) (T : hp_T) (ap0 : Nat) (xp1 : Int32) (H : Heap) (locs : List Loc) (g : JFrame) : Prop := W p l e (headSpec wsX7_byteAt ({ frames := 0, cells := 0, slots := 0, locals := 0 })).room s m ([.ref ap0, .int xp1] : List Value).toArray below meth c H locs 0 0 (MQ below (hq_p (fun v => ∃ r : Int32, v = some (.int r) ∧ (iv r (-1) 255 ∧ (0 ≤ r → iv xp1 0 399)))) ([.ref ap0, .int xp1] : List Value).toArray s 0 0 (fun _ => False)) g
set_option maxHeartbeats 4000000 in
set_option maxRecDepth 100000 in
theorem sX7_byteAt (l : Launch) (D : hp_D) (T : hp_T) (ap0 : Nat) (xp1 : Int32) (ip0 : isTape T ap0) : Met l yX7_byteAt wsX7_byteAt ({ frames := 0, cells := 0, slots := 0, locals := 0 }) (hp_Pc D T [.ref ap0, .int xp1] (fun _ => True)) (hq_p (fun v => ∃ r : Int32, v = some (.int r) ∧ (iv r (-1) 255 ∧ (0 ≤ r → iv xp1 0 399)))) 0 0 (fun _ => False) := by
  obtain ⟨ap0bt, hp0, hp0bt⟩ := id ip0
  refine Met.ofW (cc := cX7_byteAt) (maxL := 2) (ret := (some .int)) (by decide) rfl ?_
  intro p e s m args below meth c s₁ B hml hv
  obtain ⟨rfl, hok, hG, hB⟩ := hv
  have hx := B.exec
  have hb := B.bytes
  have hr := B.returns
  have hts := atoms_spec (ws := wsX7_byteAt) B.pre
  have hown : s.vm.findClass RX7 = some m.cls := findClass_of_methodNamed B.named
  have hlocks := B.notSynchronized
  have hK := hG.1
  have hw : hp_w D T s s.heap [] := hp_w.rf hok
  have IX7 : ∀ w ∈ wsX70, w ∈ wsX7_byteAt := by decide +kernel
  have L15 := hts (.fieldLink RX7 15 "PalmCensus$Tape" "length" "I") (by decide +kernel)
  have L9 := hts (.fieldLink RX7 9 "PalmCensus$Tape" "bytes" "[B") (by decide +kernel)
  have hl := lv_entry ([.ref ap0, .int xp1]) (n := 2) (Nat.le_of_ble_eq_true rfl)
  rw [lg_entry_eq]
  generalize (lg_sl ([.ref ap0, .int xp1]) ++ List.replicate (2 - (lg_sl ([.ref ap0, .int xp1])).length) Slot.unset).toArray = ls at hl ⊢
  have hl : lv_has ls 2 [(0, .ref ap0), (1, .int xp1)] := hl
  show WX7_byteAt p l e s m below meth c D T ap0 xp1 s.heap [] (F0 m 0 ls [])
  refine lv_iload_n hx hb dX7_byteAt_0 rfl (lv_at hl 1 rfl) ?_
  have J34 : ∀ (ls : Array Slot), lv_has ls 2 [] → WX7_byteAt p l e s m below meth c D T ap0 xp1 s.heap [] (F0 m 34 ls []) := by
    intro ls hl
    refine lv_iconst (v := (-1)) hx hb dX7_byteAt_34 (by decide) ?_
    exact W.iret (v := (-1)) hx hb hr (fun t ht hW => ⟨some (.int (-1)), rfl, ⟨((-1) : Int32), rfl, ⟨(show iv (-1) (-1) 255 from ⟨by decide, by decide⟩), (fun h => absurd h (iv_neg0 (show iv (-1) (-1) (-1) from ⟨by decide, by decide⟩) (by decide)))⟩⟩, ht⟩) (fun q h => by cases h) dX7_byteAt_35
  refine lv_if_lt (tgt := 34) hx hb dX7_byteAt_1 (by decide) (fun c1 => ?_) (fun c1 => ?_)
  · have r1tp : iv xp1 (-2147483648) (-1) := (iv_lt_l c1 (iv_any xp1) (show iv 0 0 0 from ⟨by decide, by decide⟩)).mono (by decide) (by decide)
    exact J34 _ (lv_sub hl [] rfl)
  · have r1fq : iv xp1 0 2147483647 := (iv_le_r (iv_nlt c1) (show iv 0 0 0 from ⟨by decide, by decide⟩) (iv_any xp1)).mono (by decide) (by decide)
    refine lv_iload_n hx hb dX7_byteAt_4 rfl (lv_at hl 1 rfl) ?_
    refine lv_aload_n hx hb dX7_byteAt_5 rfl (lv_at hl 0 rfl) ?_
    refine hp_geti hx hb hts IX7 hown hK hw.1 hp0 rfl 1 (by decide) L15 rfl dX7_byteAt_6 (fun x6 bx6 fx6 => ?_)
    refine lv_icmp_ge (tgt := 34) hx hb dX7_byteAt_9 (by decide) (fun c9 => ?_) (fun c9 => ?_)
    · exact J34 _ (lv_sub hl [] rfl)
    · have r9fp : iv xp1 0 399 := (iv_lt_l (iv_nle c9) r1fq bx6).mono (by decide) (by decide)
      have r9fq : iv x6 1 400 := (iv_lt_r (iv_nle c9) r1fq bx6).mono (by decide) (by decide)
      refine lv_iload_n hx hb dX7_byteAt_12 rfl (lv_at hl 1 rfl) ?_
      refine lv_aload_n hx hb dX7_byteAt_13 rfl (lv_at hl 0 rfl) ?_
      refine hp_getr hx hb hts IX7 hown hK hw.1 hp0 rfl 0 (by decide) L9 rfl dX7_byteAt_14 ?_
      refine hp_alen (v := 400) hx hb hK hw.1 hp0bt rfl rfl dX7_byteAt_17 ?_
      refine lv_icmp_ge (tgt := 34) hx hb dX7_byteAt_18 (by decide) (fun c18 => ?_) (fun c18 => ?_)
      · exact iv_abs (iv_le_l c18 (show iv 400 400 400 from ⟨by decide, by decide⟩) r9fp) (by decide)
      · refine lv_aload_n hx hb dX7_byteAt_21 rfl (lv_at hl 0 rfl) ?_
        refine hp_getr hx hb hts IX7 hown hK hw.1 hp0 rfl 0 (by decide) L9 rfl dX7_byteAt_22 ?_
        refine lv_iload_n hx hb dX7_byteAt_25 rfl (lv_at hl 1 rfl) ?_
        refine hp_baldA hx hb hK hw.1 hp0bt (vp_iv r9fp (by decide)) dX7_byteAt_26 (fun x26 => ?_)
        refine lv_sipush (v := 255) hx hb dX7_byteAt_27 (by decide) ?_
        refine lv_iand hx hb dX7_byteAt_30 ?_
        refine lv_topi (fun x30 ex30 => ?_)
        have bx30 : iv x30 0 255 := iv_and_r (show iv 255 0 255 from ⟨by decide, by decide⟩) ex30
        refine lv_goto (tgt := 35) hx hb dX7_byteAt_31 (by decide) ?_
        exact W.iret (v := x30) hx hb hr (fun t ht hW => ⟨some (.int x30), rfl, ⟨x30, rfl, ⟨(bx30.mono (by decide) (by decide)), (fun _ => r9fp)⟩⟩, ht⟩) (fun q h => by cases h) dX7_byteAt_35
abbrev WX7_isDigitAt (p : Program) (l : Launch) (e : Env) (s : State) (m : MethodId) (below : List Frame) (meth : Method) (c : Code) (D : hp_D) (T : hp_T) (ap0 : Nat) (xp1 : Int32) (H : Heap) (locs : List Loc) (g : JFrame) : Prop := W p l e (headSpec wsX7_isDigitAt ({ frames := 0, cells := 0, slots := 0, locals := 0 })).room s m ([.ref ap0, .int xp1] : List Value).toArray below meth c H locs 0 0 (MQ below (hq_p (fun v => ∃ r : Int32, v = some (.int r) ∧ (iv r 0 1 ∧ (¬ r = 0 → iv xp1 0 399)))) ([.ref ap0, .int xp1] : List Value).toArray s 0 0 (fun _ => False)) g
set_option maxHeartbeats 4000000 in
set_option maxRecDepth 100000 in
theorem sX7_isDigitAt (l : Launch) (D : hp_D) (T : hp_T) (ap0 : Nat) (xp1 : Int32) (ip0 : isTape T ap0) : Met l yX7_isDigitAt wsX7_isDigitAt ({ frames := 0, cells := 0, slots := 0, locals := 0 }) (hp_Pc D T [.ref ap0, .int xp1] (fun _ => True)) (hq_p (fun v => ∃ r : Int32, v = some (.int r) ∧ (iv r 0 1 ∧ (¬ r = 0 → iv xp1 0 399)))) 0 0 (fun _ => False) := by
  obtain ⟨ap0bt, hp0, hp0bt⟩ := id ip0
  refine Met.ofW (cc := cX7_isDigitAt) (maxL := 3) (ret := (some .boolean)) (by decide) rfl ?_
  intro p e s m args below meth c s₁ B hml hv
  obtain ⟨rfl, hok, hG, hB⟩ := hv
  have hx := B.exec
  have hb := B.bytes
  have hr := B.returns
  have hts := atoms_spec (ws := wsX7_isDigitAt) B.pre
  have hown : s.vm.findClass RX7 = some m.cls := findClass_of_methodNamed B.named
  have hlocks := B.notSynchronized
  have hK := hG.1
  have hw : hp_w D T s s.heap [] := hp_w.rf hok
  have IX7 : ∀ w ∈ wsX70, w ∈ wsX7_isDigitAt := by decide +kernel
  have L15 := hts (.fieldLink RX7 15 "PalmCensus$Tape" "length" "I") (by decide +kernel)
  have L9 := hts (.fieldLink RX7 9 "PalmCensus$Tape" "bytes" "[B") (by decide +kernel)
  have hl := lv_entry ([.ref ap0, .int xp1]) (n := 3) (Nat.le_of_ble_eq_true rfl)
  rw [lg_entry_eq]
  generalize (lg_sl ([.ref ap0, .int xp1]) ++ List.replicate (3 - (lg_sl ([.ref ap0, .int xp1])).length) Slot.unset).toArray = ls at hl ⊢
  have hl : lv_has ls 3 [(0, .ref ap0), (1, .int xp1)] := hl
  show WX7_isDigitAt p l e s m below meth c D T ap0 xp1 s.heap [] (F0 m 0 ls [])
  refine lv_iload_n hx hb dX7_isDigitAt_0 rfl (lv_at hl 1 rfl) ?_
  have J25 : ∀ (ls : Array Slot), lv_has ls 3 [(0, .ref ap0), (1, .int xp1)] → WX7_isDigitAt p l e s m below meth c D T ap0 xp1 s.heap [] (F0 m 25 ls []) := by
    intro ls hl
    refine lv_iconst (v := 0) hx hb dX7_isDigitAt_25 (by decide) ?_
    refine lv_istore_n (lv' := [(2, .int 0), (0, .ref ap0), (1, .int xp1)]) hx hb dX7_isDigitAt_26 rfl hl (by decide) rfl (fun ls hl => ?_)
    refine lv_iload_n hx hb dX7_isDigitAt_27 rfl (lv_at hl 0 rfl) ?_
    refine lv_if_eq (tgt := 57) hx hb dX7_isDigitAt_28 (by decide) (fun c28 => ?_) (fun c28 => ?_)
    · refine lv_iconst (v := 0) hx hb dX7_isDigitAt_57 (by decide) ?_
      exact W.zret (v := 0) hx hb hr (iv_nz (show iv 0 0 1 from ⟨by decide, by decide⟩)) (fun t ht hW => ⟨some (.int 0), rfl, ⟨(0 : Int32), rfl, ⟨(show iv 0 0 1 from ⟨by decide, by decide⟩), (fun h => absurd rfl h)⟩⟩, ht⟩) (fun q h => by cases h) dX7_isDigitAt_58
    · exact absurd rfl c28
  refine lv_if_lt (tgt := 25) hx hb dX7_isDigitAt_1 (by decide) (fun c1 => ?_) (fun c1 => ?_)
  · have r1tp : iv xp1 (-2147483648) (-1) := (iv_lt_l c1 (iv_any xp1) (show iv 0 0 0 from ⟨by decide, by decide⟩)).mono (by decide) (by decide)
    exact J25 _ (lv_sub hl [0, 1] rfl)
  · have r1fq : iv xp1 0 2147483647 := (iv_le_r (iv_nlt c1) (show iv 0 0 0 from ⟨by decide, by decide⟩) (iv_any xp1)).mono (by decide) (by decide)
    refine lv_iload_n hx hb dX7_isDigitAt_4 rfl (lv_at hl 1 rfl) ?_
    refine lv_aload_n hx hb dX7_isDigitAt_5 rfl (lv_at hl 0 rfl) ?_
    refine hp_geti hx hb hts IX7 hown hK hw.1 hp0 rfl 1 (by decide) L15 rfl dX7_isDigitAt_6 (fun x6 bx6 fx6 => ?_)
    refine lv_icmp_ge (tgt := 25) hx hb dX7_isDigitAt_9 (by decide) (fun c9 => ?_) (fun c9 => ?_)
    · exact J25 _ (lv_sub hl [0, 1] rfl)
    · have r9fp : iv xp1 0 399 := (iv_lt_l (iv_nle c9) r1fq bx6).mono (by decide) (by decide)
      have r9fq : iv x6 1 400 := (iv_lt_r (iv_nle c9) r1fq bx6).mono (by decide) (by decide)
      refine lv_iload_n hx hb dX7_isDigitAt_12 rfl (lv_at hl 1 rfl) ?_
      refine lv_aload_n hx hb dX7_isDigitAt_13 rfl (lv_at hl 0 rfl) ?_
      refine hp_getr hx hb hts IX7 hown hK hw.1 hp0 rfl 0 (by decide) L9 rfl dX7_isDigitAt_14 ?_
      refine hp_alen (v := 400) hx hb hK hw.1 hp0bt rfl rfl dX7_isDigitAt_17 ?_
      refine lv_icmp_ge (tgt := 25) hx hb dX7_isDigitAt_18 (by decide) (fun c18 => ?_) (fun c18 => ?_)
      · exact iv_abs (iv_le_l c18 (show iv 400 400 400 from ⟨by decide, by decide⟩) r9fp) (by decide)
      · refine lv_iconst (v := 1) hx hb dX7_isDigitAt_21 (by decide) ?_
        refine lv_goto (tgt := 26) hx hb dX7_isDigitAt_22 (by decide) ?_
        refine lv_istore_n (lv' := [(2, .int 1), (0, .ref ap0), (1, .int xp1)]) hx hb dX7_isDigitAt_26 rfl hl (by decide) rfl (fun ls hl => ?_)
        refine lv_iload_n hx hb dX7_isDigitAt_27 rfl (lv_at hl 0 rfl) ?_
        have J57_22 : iv x6 1 400 → ∀ (ls : Array Slot), lv_has ls 3 [] → WX7_isDigitAt p l e s m below meth c D T ap0 xp1 s.heap [] (F0 m 57 ls []) := by
          intro c57_x6 ls hl
          refine lv_iconst (v := 0) hx hb dX7_isDigitAt_57 (by decide) ?_
          exact W.zret (v := 0) hx hb hr (iv_nz (show iv 0 0 1 from ⟨by decide, by decide⟩)) (fun t ht hW => ⟨some (.int 0), rfl, ⟨(0 : Int32), rfl, ⟨(show iv 0 0 1 from ⟨by decide, by decide⟩), (fun h => absurd rfl h)⟩⟩, ht⟩) (fun q h => by cases h) dX7_isDigitAt_58
        refine lv_if_eq (tgt := 57) hx hb dX7_isDigitAt_28 (by decide) (fun c28 => ?_) (fun c28 => ?_)
        · exact iv_abs2 c28 (show iv 1 1 1 from ⟨by decide, by decide⟩) (show iv 0 0 0 from ⟨by decide, by decide⟩) (by decide)
        · refine lv_aload_n hx hb dX7_isDigitAt_31 rfl (lv_at hl 1 rfl) ?_
          refine hp_getr hx hb hts IX7 hown hK hw.1 hp0 rfl 0 (by decide) L9 rfl dX7_isDigitAt_32 ?_
          refine lv_iload_n hx hb dX7_isDigitAt_35 rfl (lv_at hl 2 rfl) ?_
          refine hp_baldA hx hb hK hw.1 hp0bt (vp_iv r9fp (by decide)) dX7_isDigitAt_36 (fun x36 => ?_)
          refine lv_bipush (v := 48) hx hb dX7_isDigitAt_37 (by decide) ?_
          refine lv_icmp_lt (tgt := 57) hx hb dX7_isDigitAt_39 (by decide) (fun c39 => ?_) (fun c39 => ?_)
          · have r39tp : iv x36 (-2147483648) 47 := (iv_lt_l c39 (iv_any x36) (show iv 48 48 48 from ⟨by decide, by decide⟩)).mono (by decide) (by decide)
            exact J57_22 r9fq _ (lv_sub hl [] rfl)
          · have r39fq : iv x36 48 2147483647 := (iv_le_r (iv_nlt c39) (show iv 48 48 48 from ⟨by decide, by decide⟩) (iv_any x36)).mono (by decide) (by decide)
            refine lv_aload_n hx hb dX7_isDigitAt_42 rfl (lv_at hl 1 rfl) ?_
            refine hp_getr hx hb hts IX7 hown hK hw.1 hp0 rfl 0 (by decide) L9 rfl dX7_isDigitAt_43 ?_
            refine lv_iload_n hx hb dX7_isDigitAt_46 rfl (lv_at hl 2 rfl) ?_
            refine hp_baldA hx hb hK hw.1 hp0bt (vp_iv r9fp (by decide)) dX7_isDigitAt_47 (fun x47 => ?_)
            refine lv_bipush (v := 57) hx hb dX7_isDigitAt_48 (by decide) ?_
            refine lv_icmp_gt (tgt := 57) hx hb dX7_isDigitAt_50 (by decide) (fun c50 => ?_) (fun c50 => ?_)
            · have r50tq : iv x47 58 2147483647 := (iv_lt_r c50 (show iv 57 57 57 from ⟨by decide, by decide⟩) (iv_any x47)).mono (by decide) (by decide)
              exact J57_22 r9fq _ (lv_sub hl [] rfl)
            · have r50fp : iv x47 (-2147483648) 57 := (iv_le_l (iv_nlt c50) (iv_any x47) (show iv 57 57 57 from ⟨by decide, by decide⟩)).mono (by decide) (by decide)
              refine lv_iconst (v := 1) hx hb dX7_isDigitAt_53 (by decide) ?_
              refine lv_goto (tgt := 58) hx hb dX7_isDigitAt_54 (by decide) ?_
              exact W.zret (v := 1) hx hb hr (iv_nz (show iv 1 0 1 from ⟨by decide, by decide⟩)) (fun t ht hW => ⟨some (.int 1), rfl, ⟨(1 : Int32), rfl, ⟨(show iv 1 0 1 from ⟨by decide, by decide⟩), (fun _ => r9fp)⟩⟩, ht⟩) (fun q h => by cases h) dX7_isDigitAt_58
abbrev WX7_skipBlanks (p : Program) (l : Launch) (e : Env) (s : State) (m : MethodId) (below : List Frame) (meth : Method) (c : Code) (D : hp_D) (T : hp_T) (ap0 : Nat) (H : Heap) (locs : List Loc) (g : JFrame) : Prop := W p l e (headSpec wsX7_skipBlanks ({ frames := 0, cells := 0, slots := 0, locals := 0 })).room s m ([.ref ap0] : List Value).toArray below meth c H locs 0 0 (MQ below (hq_e D T (fun v _ _ => v = none ∧ True)) ([.ref ap0] : List Value).toArray s 0 0 (hp_F T)) g
set_option maxHeartbeats 4000000 in
set_option maxRecDepth 100000 in
theorem sX7_skipBlanks (l : Launch) (D : hp_D) (T : hp_T) (ap0 : Nat) (ip0 : isTape T ap0) : Met l yX7_skipBlanks wsX7_skipBlanks ({ frames := 0, cells := 0, slots := 0, locals := 0 }) (hp_Pc D T [.ref ap0] (fun _ => True)) (hq_e D T (fun v _ _ => v = none ∧ True)) 0 0 (hp_F T) := by
  obtain ⟨ap0bt, hp0, hp0bt⟩ := id ip0
  refine Met.ofW (cc := cX7_skipBlanks) (maxL := 1) (ret := none) (by decide) rfl ?_
  intro p e s m args below meth c s₁ B hml hv
  obtain ⟨rfl, hok, hG, hB⟩ := hv
  have hx := B.exec
  have hb := B.bytes
  have hr := B.returns
  have hts := atoms_spec (ws := wsX7_skipBlanks) B.pre
  have hown : s.vm.findClass RX7 = some m.cls := findClass_of_methodNamed B.named
  have hlocks := B.notSynchronized
  have hK := hG.1
  have hw : hp_w D T s s.heap [] := hp_w.rf hok
  have IX7 : ∀ w ∈ wsX70, w ∈ wsX7_skipBlanks := by decide +kernel
  have L19 := hts (.fieldLink RX7 19 "PalmCensus$Tape" "place" "I") (by decide +kernel)
  have L15 := hts (.fieldLink RX7 15 "PalmCensus$Tape" "length" "I") (by decide +kernel)
  have L9 := hts (.fieldLink RX7 9 "PalmCensus$Tape" "bytes" "[B") (by decide +kernel)
  have hl := lv_entry ([.ref ap0]) (n := 1) (Nat.le_of_ble_eq_true rfl)
  rw [lg_entry_eq]
  generalize (lg_sl ([.ref ap0]) ++ List.replicate (1 - (lg_sl ([.ref ap0])).length) Slot.unset).toArray = ls at hl ⊢
  have hl : lv_has ls 1 [(0, .ref ap0)] := hl
  show WX7_skipBlanks p l e s m below meth c D T ap0 s.heap [] (F0 m 0 ls [])
  obtain ⟨x9000op0_1, bx9000op0_1, fx9000op0_1⟩ := hp_opI hw.1 hp0 1 rfl
  obtain ⟨x9000op0_2, bx9000op0_2, fx9000op0_2⟩ := hp_opI hw.1 hp0 2 rfl
  have J0 : ∀ (n : Nat) (y0_fp0_1 y0_fp0_2 : Int32), (400 - y0_fp0_2.toInt).toNat < n → iv y0_fp0_1 0 400 → iv y0_fp0_2 0 400 → ∀ (H : Heap) (locs : List Loc), hp_w D T s H locs → hp_f D H ap0 7 1 (.int y0_fp0_1) → hp_f D H ap0 7 2 (.int y0_fp0_2) → ∀ (ls : Array Slot), lv_has ls 1 [(0, .ref ap0)] → WX7_skipBlanks p l e s m below meth c D T ap0 H locs (F0 m 0 ls []) := by
    intro n
    induction n with
    | zero => intro y0_fp0_1 y0_fp0_2 hmu0 c0_y0_fp0_1 c0_y0_fp0_2 H0 locs0 hw f_p0_1 f_p0_2 ls hl; exact absurd hmu0 (Nat.not_lt_zero _)
    | succ n ih0 =>
      intro y0_fp0_1 y0_fp0_2 hmu0 c0_y0_fp0_1 c0_y0_fp0_2 H0 locs0 hw f_p0_1 f_p0_2 ls hl
      refine lv_aload_n hx hb dX7_skipBlanks_0 rfl (lv_at hl 0 rfl) ?_
      refine hp_getf hx hb hts IX7 hown hK f_p0_2 rfl (by decide) L19 dX7_skipBlanks_1 ?_
      refine lv_aload_n hx hb dX7_skipBlanks_4 rfl (lv_at hl 0 rfl) ?_
      refine hp_getf hx hb hts IX7 hown hK f_p0_1 rfl (by decide) L15 dX7_skipBlanks_5 ?_
      have J50 : iv y0_fp0_1 0 400 → iv y0_fp0_2 0 400 → ∀ (H : Heap) (locs : List Loc), hp_w D T s H locs → hp_f D H ap0 7 1 (.int y0_fp0_1) → hp_f D H ap0 7 2 (.int y0_fp0_2) → ∀ (ls : Array Slot), lv_has ls 1 [] → WX7_skipBlanks p l e s m below meth c D T ap0 H locs (F0 m 50 ls []) := by
        intro c50_y0_fp0_1 c50_y0_fp0_2 H50 locs50 hw f_p0_1 f_p0_2 ls hl
        exact W.vret hx hb hr (fun t ht hW => ⟨none, rfl, ⟨rfl, trivial⟩, by rw [ht]; exact hw.1, hw.2.F ht⟩) hw.2.2.2 dX7_skipBlanks_50
      refine lv_icmp_ge (tgt := 50) hx hb dX7_skipBlanks_8 (by decide) (fun c8 => ?_) (fun c8 => ?_)
      · exact J50 c0_y0_fp0_1 c0_y0_fp0_2 H0 locs0 hw f_p0_1 f_p0_2 _ (lv_sub hl [] rfl)
      · have r8fp : iv y0_fp0_2 0 399 := (iv_lt_l (iv_nle c8) c0_y0_fp0_2 c0_y0_fp0_1).mono (by decide) (by decide)
        have r8fq : iv y0_fp0_1 1 400 := (iv_lt_r (iv_nle c8) c0_y0_fp0_2 c0_y0_fp0_1).mono (by decide) (by decide)
        refine lv_aload_n hx hb dX7_skipBlanks_11 rfl (lv_at hl 0 rfl) ?_
        refine hp_getf hx hb hts IX7 hown hK f_p0_2 rfl (by decide) L19 dX7_skipBlanks_12 ?_
        refine lv_aload_n hx hb dX7_skipBlanks_15 rfl (lv_at hl 0 rfl) ?_
        refine hp_getr hx hb hts IX7 hown hK hw.1 hp0 rfl 0 (by decide) L9 rfl dX7_skipBlanks_16 ?_
        refine hp_alen (v := 400) hx hb hK hw.1 hp0bt rfl rfl dX7_skipBlanks_19 ?_
        refine lv_icmp_ge (tgt := 50) hx hb dX7_skipBlanks_20 (by decide) (fun c20 => ?_) (fun c20 => ?_)
        · exact iv_abs (iv_le_l c20 (show iv 400 400 400 from ⟨by decide, by decide⟩) r8fp) (by decide)
        · refine lv_aload_n hx hb dX7_skipBlanks_23 rfl (lv_at hl 0 rfl) ?_
          refine hp_getr hx hb hts IX7 hown hK hw.1 hp0 rfl 0 (by decide) L9 rfl dX7_skipBlanks_24 ?_
          refine lv_aload_n hx hb dX7_skipBlanks_27 rfl (lv_at hl 0 rfl) ?_
          refine hp_getf hx hb hts IX7 hown hK f_p0_2 rfl (by decide) L19 dX7_skipBlanks_28 ?_
          refine hp_baldA hx hb hK hw.1 hp0bt (vp_iv r8fp (by decide)) dX7_skipBlanks_31 (fun x31 => ?_)
          refine lv_bipush (v := 32) hx hb dX7_skipBlanks_32 (by decide) ?_
          refine lv_icmp_ne (tgt := 50) hx hb dX7_skipBlanks_34 (by decide) (fun c34 => ?_) (fun c34 => ?_)
          · exact J50 (r8fq.mono (by decide) (by decide)) (r8fp.mono (by decide) (by decide)) H0 locs0 hw f_p0_1 f_p0_2 _ (lv_sub hl [] rfl)
          · have r34fp : iv x31 32 32 := (iv_both (iv_any x31) (iv_eq (show iv 32 32 32 from ⟨by decide, by decide⟩) c34)).mono (by decide) (by decide)
            refine lv_aload_n hx hb dX7_skipBlanks_37 rfl (lv_at hl 0 rfl) ?_
            refine lv_dup hx hb dX7_skipBlanks_38 rfl ?_
            refine hp_getf hx hb hts IX7 hown hK f_p0_2 rfl (by decide) L19 dX7_skipBlanks_39 ?_
            refine lv_iconst (v := 1) hx hb dX7_skipBlanks_42 (by decide) ?_
            refine lv_iadd hx hb dX7_skipBlanks_43 ?_
            refine lv_topi (fun x43 ex43 => ?_)
            have bx43 : iv x43 1 400 := iv_add r8fp (show iv 1 1 1 from ⟨by decide, by decide⟩) ex43 (by decide)
            have qx43 := iv_add_eq r8fp (show iv 1 1 1 from ⟨by decide, by decide⟩) ex43 (by decide)
            refine hp_put hx hb hts IX7 tyX7 tyX7_ok nmX7 hown hK hw hp0 rfl 2 (by decide) L19 rfl rfl ⟨_, rfl, (bx43.mono (by decide) (by decide))⟩ rfl rfl dX7_skipBlanks_44 (fun H44 locs44 hw f44n g44 => ?_)
            have f_p0_1 := g44 _ _ _ _ f_p0_1 (Or.inr ⟨rfl, by decide⟩)
            refine lv_goto (tgt := 0) hx hb dX7_skipBlanks_47 (by decide) ?_
            exact ih0 y0_fp0_1 x43 (mu_up 1 hmu0 (qx43) (by decide) (show iv x43 0 400 from (bx43.mono (by decide) (by decide))).2) (r8fq.mono (by decide) (by decide)) (bx43.mono (by decide) (by decide)) H44 locs44 hw f_p0_1 f44n _ (lv_sub hl [0] rfl)
  exact J0 _ x9000op0_1 x9000op0_2 (Nat.lt_succ_self _) bx9000op0_1 bx9000op0_2 s.heap [] hw fx9000op0_1 fx9000op0_2 _ (lv_sub hl [0] rfl)
abbrev WX7_isAtEnd (p : Program) (l : Launch) (e : Env) (s : State) (m : MethodId) (below : List Frame) (meth : Method) (c : Code) (D : hp_D) (T : hp_T) (ap0 : Nat) (H : Heap) (locs : List Loc) (g : JFrame) : Prop := W p l e (headSpec wsX7_isAtEnd ({ frames := 1, cells := 0, slots := 0, locals := 20 })).room s m ([.ref ap0] : List Value).toArray below meth c H locs 0 0 (MQ below (hq_e D T (fun v _ _ => ∃ r : Int32, v = some (.int r) ∧ iv r 0 1)) ([.ref ap0] : List Value).toArray s 0 0 (hp_F T)) g
set_option maxHeartbeats 4000000 in
set_option maxRecDepth 100000 in
theorem sX7_isAtEnd (l : Launch) (D : hp_D) (T : hp_T) (ap0 : Nat) (ip0 : isTape T ap0) : Met l yX7_isAtEnd wsX7_isAtEnd ({ frames := 1, cells := 0, slots := 0, locals := 20 }) (hp_Pc D T [.ref ap0] (fun _ => True)) (hq_e D T (fun v _ _ => ∃ r : Int32, v = some (.int r) ∧ iv r 0 1)) 0 0 (hp_F T) := by
  obtain ⟨ap0bt, hp0, hp0bt⟩ := id ip0
  refine Met.ofW (cc := cX7_isAtEnd) (maxL := 1) (ret := (some .boolean)) (by decide) rfl ?_
  intro p e s m args below meth c s₁ B hml hv
  obtain ⟨rfl, hok, hG, hB⟩ := hv
  have hx := B.exec
  have hb := B.bytes
  have hr := B.returns
  have hts := atoms_spec (ws := wsX7_isAtEnd) B.pre
  have hown : s.vm.findClass RX7 = some m.cls := findClass_of_methodNamed B.named
  have hlocks := B.notSynchronized
  have hK := hG.1
  have hw : hp_w D T s s.heap [] := hp_w.rf hok
  have IX7 : ∀ w ∈ wsX70, w ∈ wsX7_isAtEnd := by decide +kernel
  have L19 := hts (.fieldLink RX7 19 "PalmCensus$Tape" "place" "I") (by decide +kernel)
  have L15 := hts (.fieldLink RX7 15 "PalmCensus$Tape" "length" "I") (by decide +kernel)
  have hl := lv_entry ([.ref ap0]) (n := 1) (Nat.le_of_ble_eq_true rfl)
  rw [lg_entry_eq]
  generalize (lg_sl ([.ref ap0]) ++ List.replicate (1 - (lg_sl ([.ref ap0])).length) Slot.unset).toArray = ls at hl ⊢
  have hl : lv_has ls 1 [(0, .ref ap0)] := hl
  show WX7_isAtEnd p l e s m below meth c D T ap0 s.heap [] (F0 m 0 ls [])
  refine lv_aload_n hx hb dX7_isAtEnd_0 rfl (lv_at hl 0 rfl) ?_
  refine hp_callev (va_runV (As := []) (rest := []) ⟨hx, hb, hml, hown, hts⟩ (sX7_skipBlanks l D T ap0 ip0) (cwV 0 hts gX7_isAtEnd_X7_skipBlanks rfl rfl rfl (by decide +kernel) ⟨Nat.le_of_ble_eq_true rfl, Nat.le_of_ble_eq_true rfl⟩) (hp_preV hG hw hp0 rfl trivial) rfl rfl hl.1 rfl (lv_room (Nat.le_of_ble_eq_true rfl)) dX7_isAtEnd_1 ⟨Nat.zero_le _, Nat.zero_le _⟩) hw (fun st1 t1 H1 locs1 eh1 eg1 bx1 hw => ?_)
  refine lv_aload_n hx hb dX7_isAtEnd_4 rfl (lv_at hl 0 rfl) ?_
  refine hp_geti hx hb hts IX7 hown hK hw.1 hp0 rfl 2 (by decide) L19 rfl dX7_isAtEnd_5 (fun x5 bx5 fx5 => ?_)
  refine lv_aload_n hx hb dX7_isAtEnd_8 rfl (lv_at hl 0 rfl) ?_
  refine hp_geti hx hb hts IX7 hown hK hw.1 hp0 rfl 1 (by decide) L15 rfl dX7_isAtEnd_9 (fun x9 bx9 fx9 => ?_)
  have J20 : ∀ (y20_s0 : Int32), iv y20_s0 0 1 → ∀ (H : Heap) (locs : List Loc), hp_w D T s H locs → ∀ (ls : Array Slot), lv_has ls 1 [] → WX7_isAtEnd p l e s m below meth c D T ap0 H locs (F0 m 20 ls [.int y20_s0]) := by
    intro y20_s0 c20_y20_s0 H20 locs20 hw ls hl
    exact W.zret (v := y20_s0) hx hb hr (iv_nz c20_y20_s0) (fun t ht hW => ⟨some (.int y20_s0), rfl, ⟨y20_s0, rfl, c20_y20_s0⟩, by rw [ht]; exact hw.1, hw.2.F ht⟩) hw.2.2.2 dX7_isAtEnd_20
  refine lv_icmp_lt (tgt := 19) hx hb dX7_isAtEnd_12 (by decide) (fun c12 => ?_) (fun c12 => ?_)
  · have r12tp : iv x5 0 399 := (iv_lt_l c12 bx5 bx9).mono (by decide) (by decide)
    have r12tq : iv x9 1 400 := (iv_lt_r c12 bx5 bx9).mono (by decide) (by decide)
    refine lv_iconst (v := 0) hx hb dX7_isAtEnd_19 (by decide) ?_
    exact J20 (0 : Int32) (show iv 0 0 1 from ⟨by decide, by decide⟩) H1 locs1 hw _ (lv_sub hl [] rfl)
  · refine lv_iconst (v := 1) hx hb dX7_isAtEnd_15 (by decide) ?_
    refine lv_goto (tgt := 20) hx hb dX7_isAtEnd_16 (by decide) ?_
    exact J20 (1 : Int32) (show iv 1 0 1 from ⟨by decide, by decide⟩) H1 locs1 hw _ (lv_sub hl [] rfl)
abbrev WX7_takeNumber (p : Program) (l : Launch) (e : Env) (s : State) (m : MethodId) (below : List Frame) (meth : Method) (c : Code) (D : hp_D) (T : hp_T) (ap0 : Nat) (xp1 : Int32) (xp2 : Int32) (H : Heap) (locs : List Loc) (g : JFrame) : Prop := W p l e (headSpec wsX7_takeNumber ({ frames := 1, cells := 0, slots := 0, locals := 22 })).room s m ([.ref ap0, .int xp1, .int xp2] : List Value).toArray below meth c H locs 0 0 (MQ below (hq_e D T (fun v _ _ => ∃ r : Int32, v = some (.int r) ∧ (True ∧ (r = (-1) ∨ (xp1 ≤ r ∧ r ≤ xp2))))) ([.ref ap0, .int xp1, .int xp2] : List Value).toArray s 0 0 (hp_F T)) g
set_option maxHeartbeats 4000000 in
set_option maxRecDepth 100000 in
theorem sX7_takeNumber (l : Launch) (D : hp_D) (T : hp_T) (ap0 : Nat) (xp1 : Int32) (xp2 : Int32) (ip0 : isTape T ap0) : Met l yX7_takeNumber wsX7_takeNumber ({ frames := 1, cells := 0, slots := 0, locals := 22 }) (hp_Pc D T [.ref ap0, .int xp1, .int xp2] (fun _ => True)) (hq_e D T (fun v _ _ => ∃ r : Int32, v = some (.int r) ∧ (True ∧ (r = (-1) ∨ (xp1 ≤ r ∧ r ≤ xp2))))) 0 0 (hp_F T) := by
  obtain ⟨ap0bt, hp0, hp0bt⟩ := id ip0
  refine Met.ofW (cc := cX7_takeNumber) (maxL := 4) (ret := (some .int)) (by decide) rfl ?_
  intro p e s m args below meth c s₁ B hml hv
  obtain ⟨rfl, hok, hG, hB⟩ := hv
  have hx := B.exec
  have hb := B.bytes
  have hr := B.returns
  have hts := atoms_spec (ws := wsX7_takeNumber) B.pre
  have hown : s.vm.findClass RX7 = some m.cls := findClass_of_methodNamed B.named
  have hlocks := B.notSynchronized
  have hK := hG.1
  have hw : hp_w D T s s.heap [] := hp_w.rf hok
  have IX7 : ∀ w ∈ wsX70, w ∈ wsX7_takeNumber := by decide +kernel
  have L19 := hts (.fieldLink RX7 19 "PalmCensus$Tape" "place" "I") (by decide +kernel)
  have L25 := hts (.fieldLink RX7 25 "PalmCensus$Tape" "start" "I") (by decide +kernel)
  have L15 := hts (.fieldLink RX7 15 "PalmCensus$Tape" "length" "I") (by decide +kernel)
  have hl := lv_entry ([.ref ap0, .int xp1, .int xp2]) (n := 4) (Nat.le_of_ble_eq_true rfl)
  rw [lg_entry_eq]
  generalize (lg_sl ([.ref ap0, .int xp1, .int xp2]) ++ List.replicate (4 - (lg_sl ([.ref ap0, .int xp1, .int xp2])).length) Slot.unset).toArray = ls at hl ⊢
  have hl : lv_has ls 4 [(0, .ref ap0), (1, .int xp1), (2, .int xp2)] := hl
  show WX7_takeNumber p l e s m below meth c D T ap0 xp1 xp2 s.heap [] (F0 m 0 ls [])
  obtain ⟨x9000op0_1, bx9000op0_1, fx9000op0_1⟩ := hp_opI hw.1 hp0 1 rfl
  obtain ⟨x9000op0_2, bx9000op0_2, fx9000op0_2⟩ := hp_opI hw.1 hp0 2 rfl
  refine lv_aload_n hx hb dX7_takeNumber_0 rfl (lv_at hl 0 rfl) ?_
  refine hp_callev (va_runV (As := []) (rest := []) ⟨hx, hb, hml, hown, hts⟩ (sX7_skipBlanks l D T ap0 ip0) (cwV 0 hts gX7_takeNumber_X7_skipBlanks rfl rfl rfl (by decide +kernel) ⟨Nat.le_of_ble_eq_true rfl, Nat.le_of_ble_eq_true rfl⟩) (hp_preV hG hw hp0 rfl trivial) rfl rfl hl.1 rfl (lv_room (Nat.le_of_ble_eq_true rfl)) dX7_takeNumber_1 ⟨Nat.zero_le _, Nat.zero_le _⟩) hw (fun st1 t1 H1 locs1 eh1 eg1 bx1 hw => ?_)
  obtain ⟨x1op0_1, bx1op0_1, fx1op0_1⟩ := hp_opI hw.1 hp0 1 rfl
  obtain ⟨x1op0_2, bx1op0_2, fx1op0_2⟩ := hp_opI hw.1 hp0 2 rfl
  refine lv_aload_n hx hb dX7_takeNumber_4 rfl (lv_at hl 0 rfl) ?_
  refine lv_aload_n hx hb dX7_takeNumber_5 rfl (lv_at hl 0 rfl) ?_
  refine hp_getf hx hb hts IX7 hown hK fx1op0_2 rfl (by decide) L19 dX7_takeNumber_6 ?_
  refine hp_put hx hb hts IX7 tyX7 tyX7_ok nmX7 hown hK hw hp0 rfl 4 (by decide) L25 rfl rfl ⟨_, rfl, bx1op0_2⟩ rfl rfl dX7_takeNumber_9 (fun H9 locs9 hw f9n g9 => ?_)
  have f_p0_1 := g9 _ _ _ _ fx1op0_1 (Or.inr ⟨rfl, by decide⟩)
  have f_p0_2 := g9 _ _ _ _ fx1op0_2 (Or.inr ⟨rfl, by decide⟩)
  refine lv_iconst (v := 0) hx hb dX7_takeNumber_12 (by decide) ?_
  refine lv_istore_n (lv' := [(3, .int 0), (0, .ref ap0), (1, .int xp1), (2, .int xp2)]) hx hb dX7_takeNumber_13 rfl hl (by decide) rfl (fun ls hl => ?_)
  have J14 : ∀ (n : Nat) (y14_l3 y14_fp0_1 y14_fp0_2 : Int32), (400 - y14_fp0_2.toInt).toNat < n → iv y14_fp0_1 0 400 → iv y14_fp0_2 0 400 → ∀ (H : Heap) (locs : List Loc), hp_w D T s H locs → hp_f D H ap0 7 1 (.int y14_fp0_1) → hp_f D H ap0 7 2 (.int y14_fp0_2) → ∀ (ls : Array Slot), lv_has ls 4 [(0, .ref ap0), (1, .int xp1), (2, .int xp2), (3, .int y14_l3)] → WX7_takeNumber p l e s m below meth c D T ap0 xp1 xp2 H locs (F0 m 14 ls []) := by
    intro n
    induction n with
    | zero => intro y14_l3 y14_fp0_1 y14_fp0_2 hmu14 c14_y14_fp0_1 c14_y14_fp0_2 H14 locs14 hw f_p0_1 f_p0_2 ls hl; exact absurd hmu14 (Nat.not_lt_zero _)
    | succ n ih14 =>
      intro y14_l3 y14_fp0_1 y14_fp0_2 hmu14 c14_y14_fp0_1 c14_y14_fp0_2 H14 locs14 hw f_p0_1 f_p0_2 ls hl
      refine lv_aload_n hx hb dX7_takeNumber_14 rfl (lv_at hl 0 rfl) ?_
      refine hp_getf hx hb hts IX7 hown hK f_p0_2 rfl (by decide) L19 dX7_takeNumber_15 ?_
      refine lv_aload_n hx hb dX7_takeNumber_18 rfl (lv_at hl 0 rfl) ?_
      refine hp_getf hx hb hts IX7 hown hK f_p0_1 rfl (by decide) L15 dX7_takeNumber_19 ?_
      have J79 : iv y14_fp0_1 0 400 → iv y14_fp0_2 0 400 → ∀ (H : Heap) (locs : List Loc), hp_w D T s H locs → hp_f D H ap0 7 1 (.int y14_fp0_1) → hp_f D H ap0 7 2 (.int y14_fp0_2) → ∀ (ls : Array Slot), lv_has ls 4 [(0, .ref ap0), (1, .int xp1), (2, .int xp2), (3, .int y14_l3)] → WX7_takeNumber p l e s m below meth c D T ap0 xp1 xp2 H locs (F0 m 79 ls []) := by
        intro c79_y14_fp0_1 c79_y14_fp0_2 H79 locs79 hw f_p0_1 f_p0_2 ls hl
        refine lv_aload_n hx hb dX7_takeNumber_79 rfl (lv_at hl 0 rfl) ?_
        refine hp_getf hx hb hts IX7 hown hK f_p0_2 rfl (by decide) L19 dX7_takeNumber_80 ?_
        refine lv_aload_n hx hb dX7_takeNumber_83 rfl (lv_at hl 0 rfl) ?_
        refine hp_geti hx hb hts IX7 hown hK hw.1 hp0 rfl 4 (by decide) L25 rfl dX7_takeNumber_84 (fun x84 bx84 fx84 => ?_)
        refine lv_icmp_ne (tgt := 102) hx hb dX7_takeNumber_87 (by decide) (fun c87 => ?_) (fun c87 => ?_)
        · refine lv_aload_n hx hb dX7_takeNumber_102 rfl (lv_at hl 0 rfl) ?_
          refine hp_getf hx hb hts IX7 hown hK f_p0_2 rfl (by decide) L19 dX7_takeNumber_103 ?_
          refine lv_aload_n hx hb dX7_takeNumber_106 rfl (lv_at hl 0 rfl) ?_
          refine hp_getf hx hb hts IX7 hown hK fx84 rfl (by decide) L25 dX7_takeNumber_107 ?_
          refine lv_isub hx hb dX7_takeNumber_110 ?_
          refine lv_topi (fun x110 ex110 => ?_)
          have bx110 : iv x110 (-400) 400 := iv_sub c79_y14_fp0_2 bx84 ex110 (by decide)
          have qx110 := iv_sub_eq c79_y14_fp0_2 bx84 ex110 (by decide)
          refine lv_iconst (v := 5) hx hb dX7_takeNumber_111 (by decide) ?_
          have J125 : iv y14_fp0_1 0 400 → iv y14_fp0_2 0 400 → ∀ (H : Heap) (locs : List Loc), hp_w D T s H locs → hp_f D H ap0 7 1 (.int y14_fp0_1) → hp_f D H ap0 7 2 (.int y14_fp0_2) → ∀ (ls : Array Slot), lv_has ls 4 [(0, .ref ap0)] → WX7_takeNumber p l e s m below meth c D T ap0 xp1 xp2 H locs (F0 m 125 ls []) := by
            intro c125_y14_fp0_1 c125_y14_fp0_2 H125 locs125 hw f_p0_1 f_p0_2 ls hl
            refine lv_aload_n hx hb dX7_takeNumber_125 rfl (lv_at hl 0 rfl) ?_
            refine lv_aload_n hx hb dX7_takeNumber_126 rfl (lv_at hl 0 rfl) ?_
            refine hp_geti hx hb hts IX7 hown hK hw.1 hp0 rfl 4 (by decide) L25 rfl dX7_takeNumber_127 (fun x127 bx127 fx127 => ?_)
            refine lv_iconst (v := 1) hx hb dX7_takeNumber_130 (by decide) ?_
            refine hp_callei (va_runV (As := [.int x127, .int 1]) (rest := []) ⟨hx, hb, hml, hown, hts⟩ (sX7_blame l D T ap0 x127 (1 : Int32) ip0) (cwV 2 hts gX7_takeNumber_X7_blame rfl rfl rfl (by decide +kernel) ⟨Nat.le_of_ble_eq_true rfl, Nat.le_of_ble_eq_true rfl⟩) (hp_preV hG hw hp0 rfl trivial) rfl rfl hl.1 rfl (lv_room (Nat.le_of_ble_eq_true rfl)) dX7_takeNumber_131 ⟨Nat.zero_le _, Nat.zero_le _⟩) hw (fun x131 st131 t131 H131 locs131 eh131 eg131 bx131 hw => ?_)
            obtain ⟨x131op0_1, bx131op0_1, fx131op0_1⟩ := hp_opI hw.1 hp0 1 rfl
            obtain ⟨x131op0_2, bx131op0_2, fx131op0_2⟩ := hp_opI hw.1 hp0 2 rfl
            refine lv_pop hx hb dX7_takeNumber_134 rfl ?_
            refine lv_iconst (v := (-1)) hx hb dX7_takeNumber_135 (by decide) ?_
            exact W.iret (v := (-1)) hx hb hr (fun t ht hW => ⟨some (.int (-1)), rfl, ⟨((-1) : Int32), rfl, ⟨trivial, (Or.inl rfl)⟩⟩, by rw [ht]; exact hw.1, hw.2.F ht⟩) hw.2.2.2 dX7_takeNumber_136
          refine lv_icmp_gt (tgt := 125) hx hb dX7_takeNumber_112 (by decide) (fun c112 => ?_) (fun c112 => ?_)
          · have r112tq : iv x110 6 400 := (iv_lt_r c112 (show iv 5 5 5 from ⟨by decide, by decide⟩) bx110).mono (by decide) (by decide)
            exact J125 c79_y14_fp0_1 c79_y14_fp0_2 H79 locs79 hw f_p0_1 f_p0_2 _ (lv_sub hl [0] rfl)
          · have r112fp : iv x110 (-400) 5 := (iv_le_l (iv_nlt c112) bx110 (show iv 5 5 5 from ⟨by decide, by decide⟩)).mono (by decide) (by decide)
            refine lv_iload_n hx hb dX7_takeNumber_115 rfl (lv_at hl 3 rfl) ?_
            refine lv_iload_n hx hb dX7_takeNumber_116 rfl (lv_at hl 1 rfl) ?_
            refine lv_icmp_lt (tgt := 125) hx hb dX7_takeNumber_117 (by decide) (fun c117 => ?_) (fun c117 => ?_)
            · have r117tp : iv y14_l3 (-2147483648) 2147483646 := (iv_lt_l c117 (iv_any y14_l3) (iv_any xp1)).mono (by decide) (by decide)
              have r117tq : iv xp1 (-2147483647) 2147483647 := (iv_lt_r c117 (iv_any y14_l3) (iv_any xp1)).mono (by decide) (by decide)
              exact J125 c79_y14_fp0_1 c79_y14_fp0_2 H79 locs79 hw f_p0_1 f_p0_2 _ (lv_sub hl [0] rfl)
            · refine lv_iload_n hx hb dX7_takeNumber_120 rfl (lv_at hl 3 rfl) ?_
              refine lv_iload_n hx hb dX7_takeNumber_121 rfl (lv_at hl 2 rfl) ?_
              refine lv_icmp_le (tgt := 137) hx hb dX7_takeNumber_122 (by decide) (fun c122 => ?_) (fun c122 => ?_)
              · refine lv_iload_n hx hb dX7_takeNumber_137 rfl (lv_at hl 3 rfl) ?_
                exact W.iret (v := y14_l3) hx hb hr (fun t ht hW => ⟨some (.int y14_l3), rfl, ⟨y14_l3, rfl, ⟨trivial, (Or.inr ⟨(iv_nlt c117), c122⟩)⟩⟩, by rw [ht]; exact hw.1, hw.2.F ht⟩) hw.2.2.2 dX7_takeNumber_138
              · have r122fp : iv xp2 (-2147483648) 2147483646 := (iv_lt_l (iv_nle c122) (iv_any xp2) (iv_any y14_l3)).mono (by decide) (by decide)
                have r122fq : iv y14_l3 (-2147483647) 2147483647 := (iv_lt_r (iv_nle c122) (iv_any xp2) (iv_any y14_l3)).mono (by decide) (by decide)
                exact J125 c79_y14_fp0_1 c79_y14_fp0_2 H79 locs79 hw f_p0_1 f_p0_2 _ (lv_sub hl [0] rfl)
        · refine lv_aload_n hx hb dX7_takeNumber_90 rfl (lv_at hl 0 rfl) ?_
          refine lv_aload_n hx hb dX7_takeNumber_91 rfl (lv_at hl 0 rfl) ?_
          refine hp_getf hx hb hts IX7 hown hK fx84 rfl (by decide) L25 dX7_takeNumber_92 ?_
          refine lv_iconst (v := 0) hx hb dX7_takeNumber_95 (by decide) ?_
          refine hp_callei (va_runV (As := [.int x84, .int 0]) (rest := []) ⟨hx, hb, hml, hown, hts⟩ (sX7_blame l D T ap0 x84 (0 : Int32) ip0) (cwV 2 hts gX7_takeNumber_X7_blame rfl rfl rfl (by decide +kernel) ⟨Nat.le_of_ble_eq_true rfl, Nat.le_of_ble_eq_true rfl⟩) (hp_preV hG hw hp0 rfl trivial) rfl rfl hl.1 rfl (lv_room (Nat.le_of_ble_eq_true rfl)) dX7_takeNumber_96 ⟨Nat.zero_le _, Nat.zero_le _⟩) hw (fun x96 st96 t96 H96 locs96 eh96 eg96 bx96 hw => ?_)
          obtain ⟨x96op0_1, bx96op0_1, fx96op0_1⟩ := hp_opI hw.1 hp0 1 rfl
          obtain ⟨x96op0_2, bx96op0_2, fx96op0_2⟩ := hp_opI hw.1 hp0 2 rfl
          refine lv_pop hx hb dX7_takeNumber_99 rfl ?_
          refine lv_iconst (v := (-1)) hx hb dX7_takeNumber_100 (by decide) ?_
          exact W.iret (v := (-1)) hx hb hr (fun t ht hW => ⟨some (.int (-1)), rfl, ⟨((-1) : Int32), rfl, ⟨trivial, (Or.inl rfl)⟩⟩, by rw [ht]; exact hw.1, hw.2.F ht⟩) hw.2.2.2 dX7_takeNumber_101
      refine lv_icmp_ge (tgt := 79) hx hb dX7_takeNumber_22 (by decide) (fun c22 => ?_) (fun c22 => ?_)
      · exact J79 c14_y14_fp0_1 c14_y14_fp0_2 H14 locs14 hw f_p0_1 f_p0_2 _ (lv_sub hl [0, 1, 2, 3] rfl)
      · have r22fp : iv y14_fp0_2 0 399 := (iv_lt_l (iv_nle c22) c14_y14_fp0_2 c14_y14_fp0_1).mono (by decide) (by decide)
        have r22fq : iv y14_fp0_1 1 400 := (iv_lt_r (iv_nle c22) c14_y14_fp0_2 c14_y14_fp0_1).mono (by decide) (by decide)
        refine lv_aload_n hx hb dX7_takeNumber_25 rfl (lv_at hl 0 rfl) ?_
        refine lv_aload_n hx hb dX7_takeNumber_26 rfl (lv_at hl 0 rfl) ?_
        refine hp_getf hx hb hts IX7 hown hK f_p0_2 rfl (by decide) L19 dX7_takeNumber_27 ?_
        refine hp_callpi (va_runV (As := [.int y14_fp0_2]) (rest := []) ⟨hx, hb, hml, hown, hts⟩ (sX7_isDigitAt l D T ap0 y14_fp0_2 ip0) (cwV 1 hts gX7_takeNumber_X7_isDigitAt rfl rfl rfl (by decide +kernel) ⟨Nat.le_of_ble_eq_true rfl, Nat.le_of_ble_eq_true rfl⟩) (hp_preV hG hw hp0 rfl trivial) rfl rfl hl.1 rfl (lv_room (Nat.le_of_ble_eq_true rfl)) dX7_takeNumber_30 ⟨Nat.zero_le _, Nat.zero_le _⟩) (fun x30 bx30 => ?_)
        obtain ⟨bx30, ix30_0⟩ := bx30
        refine lv_if_eq (tgt := 79) hx hb dX7_takeNumber_33 (by decide) (fun c33 => ?_) (fun c33 => ?_)
        · have r33tp : iv x30 0 0 := (iv_both bx30 (iv_eq (show iv 0 0 0 from ⟨by decide, by decide⟩) c33)).mono (by decide) (by decide)
          exact J79 (r22fq.mono (by decide) (by decide)) (r22fp.mono (by decide) (by decide)) H14 locs14 hw f_p0_1 f_p0_2 _ (lv_sub hl [0, 1, 2, 3] rfl)
        · have r33fp : iv x30 1 1 := (iv_ne_lo c33 bx30 rfl).mono (by decide) (by decide)
          refine lv_aload_n hx hb dX7_takeNumber_36 rfl (lv_at hl 0 rfl) ?_
          refine hp_getf hx hb hts IX7 hown hK f_p0_2 rfl (by decide) L19 dX7_takeNumber_37 ?_
          refine lv_aload_n hx hb dX7_takeNumber_40 rfl (lv_at hl 0 rfl) ?_
          refine hp_geti hx hb hts IX7 hown hK hw.1 hp0 rfl 4 (by decide) L25 rfl dX7_takeNumber_41 (fun x41 bx41 fx41 => ?_)
          refine lv_isub hx hb dX7_takeNumber_44 ?_
          refine lv_topi (fun x44 ex44 => ?_)
          have bx44 : iv x44 (-400) 399 := iv_sub r22fp bx41 ex44 (by decide)
          have qx44 := iv_sub_eq r22fp bx41 ex44 (by decide)
          refine lv_iconst (v := 5) hx hb dX7_takeNumber_45 (by decide) ?_
          have J66 : ∀ (y66_l3 : Int32), iv y14_fp0_1 1 400 → iv y14_fp0_2 0 399 → ∀ (H : Heap) (locs : List Loc), hp_w D T s H locs → hp_f D H ap0 7 1 (.int y14_fp0_1) → hp_f D H ap0 7 2 (.int y14_fp0_2) → ∀ (ls : Array Slot), lv_has ls 4 [(0, .ref ap0), (1, .int xp1), (2, .int xp2), (3, .int y66_l3)] → WX7_takeNumber p l e s m below meth c D T ap0 xp1 xp2 H locs (F0 m 66 ls []) := by
            intro y66_l3 c66_y14_fp0_1 c66_y14_fp0_2 H66 locs66 hw f_p0_1 f_p0_2 ls hl
            refine lv_aload_n hx hb dX7_takeNumber_66 rfl (lv_at hl 0 rfl) ?_
            refine lv_dup hx hb dX7_takeNumber_67 rfl ?_
            refine hp_getf hx hb hts IX7 hown hK f_p0_2 rfl (by decide) L19 dX7_takeNumber_68 ?_
            refine lv_iconst (v := 1) hx hb dX7_takeNumber_71 (by decide) ?_
            refine lv_iadd hx hb dX7_takeNumber_72 ?_
            refine lv_topi (fun x72 ex72 => ?_)
            have bx72 : iv x72 1 400 := iv_add c66_y14_fp0_2 (show iv 1 1 1 from ⟨by decide, by decide⟩) ex72 (by decide)
            have qx72 := iv_add_eq c66_y14_fp0_2 (show iv 1 1 1 from ⟨by decide, by decide⟩) ex72 (by decide)
            refine hp_put hx hb hts IX7 tyX7 tyX7_ok nmX7 hown hK hw hp0 rfl 2 (by decide) L19 rfl rfl ⟨_, rfl, (bx72.mono (by decide) (by decide))⟩ rfl rfl dX7_takeNumber_73 (fun H73 locs73 hw f73n g73 => ?_)
            have f_p0_1 := g73 _ _ _ _ f_p0_1 (Or.inr ⟨rfl, by decide⟩)
            refine lv_goto (tgt := 14) hx hb dX7_takeNumber_76 (by decide) ?_
            exact ih14 y66_l3 y14_fp0_1 x72 (mu_up 1 hmu14 (qx72) (by decide) (show iv x72 0 400 from (bx72.mono (by decide) (by decide))).2) (c66_y14_fp0_1.mono (by decide) (by decide)) (bx72.mono (by decide) (by decide)) H73 locs73 hw f_p0_1 f73n _ (lv_sub hl [0, 1, 2, 3] rfl)
          refine lv_icmp_ge (tgt := 66) hx hb dX7_takeNumber_46 (by decide) (fun c46 => ?_) (fun c46 => ?_)
          · have r46tq : iv x44 5 399 := (iv_le_r c46 (show iv 5 5 5 from ⟨by decide, by decide⟩) bx44).mono (by decide) (by decide)
            exact J66 y14_l3 r22fq r22fp H14 locs14 hw f_p0_1 f_p0_2 _ (lv_sub hl [0, 1, 2, 3] rfl)
          · have r46fp : iv x44 (-400) 4 := (iv_lt_l (iv_nle c46) bx44 (show iv 5 5 5 from ⟨by decide, by decide⟩)).mono (by decide) (by decide)
            refine lv_iload_n hx hb dX7_takeNumber_49 rfl (lv_at hl 3 rfl) ?_
            refine lv_bipush (v := 10) hx hb dX7_takeNumber_50 (by decide) ?_
            refine lv_imul hx hb dX7_takeNumber_52 ?_
            refine lv_topi (fun x52 ex52 => ?_)
            refine lv_aload_n hx hb dX7_takeNumber_53 rfl (lv_at hl 0 rfl) ?_
            refine lv_aload_n hx hb dX7_takeNumber_54 rfl (lv_at hl 0 rfl) ?_
            refine hp_getf hx hb hts IX7 hown hK f_p0_2 rfl (by decide) L19 dX7_takeNumber_55 ?_
            refine hp_callpi (va_runV (As := [.int y14_fp0_2]) (rest := [.int x52]) ⟨hx, hb, hml, hown, hts⟩ (sX7_byteAt l D T ap0 y14_fp0_2 ip0) (cwV 1 hts gX7_takeNumber_X7_byteAt rfl rfl rfl (by decide +kernel) ⟨Nat.le_of_ble_eq_true rfl, Nat.le_of_ble_eq_true rfl⟩) (hp_preV hG hw hp0 rfl trivial) rfl rfl hl.1 rfl (lv_room (Nat.le_of_ble_eq_true rfl)) dX7_takeNumber_58 ⟨Nat.zero_le _, Nat.zero_le _⟩) (fun x58 bx58 => ?_)
            obtain ⟨bx58, ix58_0⟩ := bx58
            refine lv_iadd hx hb dX7_takeNumber_61 ?_
            refine lv_topi (fun x61 ex61 => ?_)
            refine lv_bipush (v := 48) hx hb dX7_takeNumber_62 (by decide) ?_
            refine lv_isub hx hb dX7_takeNumber_64 ?_
            refine lv_topi (fun x64 ex64 => ?_)
            refine lv_istore_n (lv' := [(3, .int x64), (0, .ref ap0), (1, .int xp1), (2, .int xp2)]) hx hb dX7_takeNumber_65 rfl hl (by decide) rfl (fun ls hl => ?_)
            exact J66 x64 r22fq r22fp H14 locs14 hw f_p0_1 f_p0_2 _ (lv_sub hl [1, 2, 3, 0] rfl)
  exact J14 _ (0 : Int32) x1op0_1 x1op0_2 (Nat.lt_succ_self _) bx1op0_1 bx1op0_2 H9 locs9 hw f_p0_1 f_p0_2 _ (lv_sub hl [1, 2, 3, 0] rfl)
abbrev WX7_takeWord (p : Program) (l : Launch) (e : Env) (s : State) (m : MethodId) (below : List Frame) (meth : Method) (c : Code) (D : hp_D) (T : hp_T) (ap0 : Nat) (k1 : Nat) (H : Heap) (locs : List Loc) (g : JFrame) : Prop := W p l e (headSpec wsX7_takeWord ({ frames := 4, cells := 0, slots := 0, locals := 101 })).room s m ([.ref ap0, .ref (D.2.2.1 k1)] : List Value).toArray below meth c H locs 0 0 (MQ below (hq_e D T (fun v _ _ => ∃ r : Int32, v = some (.int r) ∧ True)) ([.ref ap0, .ref (D.2.2.1 k1)] : List Value).toArray s 0 0 (hp_F T)) g
set_option maxHeartbeats 4000000 in
set_option maxRecDepth 100000 in
theorem sX7_takeWord (l : Launch) (D : hp_D) (T : hp_T) (ap0 : Nat) (k1 : Nat) (ip0 : isTape T ap0) (hk1 : k1 < 11) : Met l yX7_takeWord wsX7_takeWord ({ frames := 4, cells := 0, slots := 0, locals := 101 }) (hp_Pc D T [.ref ap0, .ref (D.2.2.1 k1)] (fun _ => True)) (hq_e D T (fun v _ _ => ∃ r : Int32, v = some (.int r) ∧ True)) 0 0 (hp_F T) := by
  obtain ⟨ap0bt, hp0, hp0bt⟩ := id ip0
  refine Met.ofW (cc := cX7_takeWord) (maxL := 8) (ret := (some .int)) (by decide) rfl ?_
  intro p e s m args below meth c s₁ B hml hv
  obtain ⟨rfl, hok, hG, hB⟩ := hv
  have hx := B.exec
  have hb := B.bytes
  have hr := B.returns
  have hts := atoms_spec (ws := wsX7_takeWord) B.pre
  have hown : s.vm.findClass RX7 = some m.cls := findClass_of_methodNamed B.named
  have hlocks := B.notSynchronized
  have hK := hG.1
  have hw : hp_w D T s s.heap [] := hp_w.rf hok
  have IX7 : ∀ w ∈ wsX70, w ∈ wsX7_takeWord := by decide +kernel
  have L19 := hts (.fieldLink RX7 19 "PalmCensus$Tape" "place" "I") (by decide +kernel)
  have L15 := hts (.fieldLink RX7 15 "PalmCensus$Tape" "length" "I") (by decide +kernel)
  have L25 := hts (.fieldLink RX7 25 "PalmCensus$Tape" "start" "I") (by decide +kernel)
  have L9 := hts (.fieldLink RX7 9 "PalmCensus$Tape" "bytes" "[B") (by decide +kernel)
  obtain ⟨Lp1, eLp1⟩ : ∃ y : Int32, y = Int32.ofNat (js_len.getD k1 0) := ⟨_, rfl⟩
  have bLp1 : iv Lp1 0 60 := iv_eq (iv_nI (n := js_len.getD k1 0) (by have := js_ok k1 hk1; omega) (by omega) (by have := js_ok k1 hk1; omega)) eLp1
  have hl := lv_entry ([.ref ap0, .ref (D.2.2.1 k1)]) (n := 8) (Nat.le_of_ble_eq_true rfl)
  rw [lg_entry_eq]
  generalize (lg_sl ([.ref ap0, .ref (D.2.2.1 k1)]) ++ List.replicate (8 - (lg_sl ([.ref ap0, .ref (D.2.2.1 k1)])).length) Slot.unset).toArray = ls at hl ⊢
  have hl : lv_has ls 8 [(0, .ref ap0), (1, .ref (D.2.2.1 k1))] := hl
  show WX7_takeWord p l e s m below meth c D T ap0 k1 s.heap [] (F0 m 0 ls [])
  obtain ⟨x9000op0_1, bx9000op0_1, fx9000op0_1⟩ := hp_opI hw.1 hp0 1 rfl
  obtain ⟨x9000op0_2, bx9000op0_2, fx9000op0_2⟩ := hp_opI hw.1 hp0 2 rfl
  refine lv_aload_n hx hb dX7_takeWord_0 rfl (lv_at hl 0 rfl) ?_
  refine hp_callev (va_runV (As := []) (rest := []) ⟨hx, hb, hml, hown, hts⟩ (sX7_skipBlanks l D T ap0 ip0) (cwV 0 hts gX7_takeWord_X7_skipBlanks rfl rfl rfl (by decide +kernel) ⟨Nat.le_of_ble_eq_true rfl, Nat.le_of_ble_eq_true rfl⟩) (hp_preV hG hw hp0 rfl trivial) rfl rfl hl.1 rfl (lv_room (Nat.le_of_ble_eq_true rfl)) dX7_takeWord_1 ⟨Nat.zero_le _, Nat.zero_le _⟩) hw (fun st1 t1 H1 locs1 eh1 eg1 bx1 hw => ?_)
  obtain ⟨x1op0_1, bx1op0_1, fx1op0_1⟩ := hp_opI hw.1 hp0 1 rfl
  obtain ⟨x1op0_2, bx1op0_2, fx1op0_2⟩ := hp_opI hw.1 hp0 2 rfl
  refine lv_aload_n hx hb dX7_takeWord_4 rfl (lv_at hl 0 rfl) ?_
  refine hp_getf hx hb hts IX7 hown hK fx1op0_2 rfl (by decide) L19 dX7_takeWord_5 ?_
  refine lv_istore_n (lv' := [(2, .int x1op0_2), (0, .ref ap0), (1, .ref (D.2.2.1 k1))]) hx hb dX7_takeWord_8 rfl hl (by decide) rfl (fun ls hl => ?_)
  have J9 : ∀ (n : Nat) (y9_l2 y9_fp0_1 y9_fp0_2 : Int32), (400 - y9_l2.toInt).toNat < n → iv y9_l2 0 400 → iv y9_fp0_1 0 400 → iv y9_fp0_2 0 400 → ∀ (H : Heap) (locs : List Loc), hp_w D T s H locs → hp_f D H ap0 7 1 (.int y9_fp0_1) → hp_f D H ap0 7 2 (.int y9_fp0_2) → ∀ (ls : Array Slot), lv_has ls 8 [(0, .ref ap0), (1, .ref (D.2.2.1 k1)), (2, .int y9_l2)] → WX7_takeWord p l e s m below meth c D T ap0 k1 H locs (F0 m 9 ls []) := by
    intro n
    induction n with
    | zero => intro y9_l2 y9_fp0_1 y9_fp0_2 hmu9 c9_y9_l2 c9_y9_fp0_1 c9_y9_fp0_2 H9 locs9 hw f_p0_1 f_p0_2 ls hl; exact absurd hmu9 (Nat.not_lt_zero _)
    | succ n ih9 =>
      intro y9_l2 y9_fp0_1 y9_fp0_2 hmu9 c9_y9_l2 c9_y9_fp0_1 c9_y9_fp0_2 H9 locs9 hw f_p0_1 f_p0_2 ls hl
      refine lv_iload_n hx hb dX7_takeWord_9 rfl (lv_at hl 2 rfl) ?_
      refine lv_aload_n hx hb dX7_takeWord_10 rfl (lv_at hl 0 rfl) ?_
      refine hp_getf hx hb hts IX7 hown hK f_p0_1 rfl (by decide) L15 dX7_takeWord_11 ?_
      have J54 : iv y9_l2 0 400 → iv y9_fp0_1 0 400 → iv y9_fp0_2 0 400 → ∀ (H : Heap) (locs : List Loc), hp_w D T s H locs → hp_f D H ap0 7 1 (.int y9_fp0_1) → hp_f D H ap0 7 2 (.int y9_fp0_2) → ∀ (ls : Array Slot), lv_has ls 8 [(0, .ref ap0), (1, .ref (D.2.2.1 k1)), (2, .int y9_l2)] → WX7_takeWord p l e s m below meth c D T ap0 k1 H locs (F0 m 54 ls []) := by
        intro c54_y9_l2 c54_y9_fp0_1 c54_y9_fp0_2 H54 locs54 hw f_p0_1 f_p0_2 ls hl
        refine lv_iconst (v := 0) hx hb dX7_takeWord_54 (by decide) ?_
        refine lv_istore_n (lv' := [(3, .int 0), (0, .ref ap0), (1, .ref (D.2.2.1 k1)), (2, .int y9_l2)]) hx hb dX7_takeWord_55 rfl hl (by decide) rfl (fun ls hl => ?_)
        refine lv_iconst (v := 0) hx hb dX7_takeWord_56 (by decide) ?_
        refine lv_istore (lv' := [(4, .int 0), (3, .int 0), (0, .ref ap0), (1, .ref (D.2.2.1 k1)), (2, .int y9_l2)]) hx hb dX7_takeWord_57 hl (by decide) rfl (fun ls hl => ?_)
        refine lv_iconst (v := 0) hx hb dX7_takeWord_59 (by decide) ?_
        refine lv_istore (lv' := [(5, .int 0), (4, .int 0), (3, .int 0), (0, .ref ap0), (1, .ref (D.2.2.1 k1)), (2, .int y9_l2)]) hx hb dX7_takeWord_60 hl (by decide) rfl (fun ls hl => ?_)
        have J62 : ∀ (n : Nat) (y62_l3 y62_l4 y62_l5 y62_fp0_1 y62_fp0_2 : Int32), (61 - y62_l5.toInt).toNat < n → iv y9_l2 0 400 → iv y62_l4 (-1) 400 → iv y62_l5 0 61 → iv y62_fp0_1 0 400 → iv y62_fp0_2 0 400 → ∀ (H : Heap) (locs : List Loc), hp_w D T s H locs → hp_f D H ap0 7 1 (.int y62_fp0_1) → hp_f D H ap0 7 2 (.int y62_fp0_2) → ∀ (ls : Array Slot), lv_has ls 8 [(0, .ref ap0), (1, .ref (D.2.2.1 k1)), (2, .int y9_l2), (3, .int y62_l3), (4, .int y62_l4), (5, .int y62_l5)] → WX7_takeWord p l e s m below meth c D T ap0 k1 H locs (F0 m 62 ls []) := by
          intro n
          induction n with
          | zero => intro y62_l3 y62_l4 y62_l5 y62_fp0_1 y62_fp0_2 hmu62 c62_y9_l2 c62_y62_l4 c62_y62_l5 c62_y62_fp0_1 c62_y62_fp0_2 H62 locs62 hw f_p0_1 f_p0_2 ls hl; exact absurd hmu62 (Nat.not_lt_zero _)
          | succ n ih62 =>
            intro y62_l3 y62_l4 y62_l5 y62_fp0_1 y62_fp0_2 hmu62 c62_y9_l2 c62_y62_l4 c62_y62_l5 c62_y62_fp0_1 c62_y62_fp0_2 H62 locs62 hw f_p0_1 f_p0_2 ls hl
            refine lv_iload hx hb dX7_takeWord_62 (lv_at hl 5 rfl) ?_
            refine lv_aload_n hx hb dX7_takeWord_64 rfl (lv_at hl 1 rfl) ?_
            refine hp_callpi (va_runV (As := []) (rest := [.int y62_l5]) ⟨hx, hb, hml, hown, hts⟩ (sJ0_length l D T k1 hk1) (cwV 0 hts gX7_takeWord_J0_length_8abf5 rfl rfl rfl (by decide +kernel) ⟨Nat.le_of_ble_eq_true rfl, Nat.le_of_ble_eq_true rfl⟩) ⟨hp_Pc.blind, vk_recv hG.2.2.2.1 hk1 hw.2, hp_Pc.at hG hw trivial⟩ rfl rfl hl.1 rfl (lv_room (Nat.le_of_ble_eq_true rfl)) dX7_takeWord_65 ⟨Nat.zero_le _, Nat.zero_le _⟩) (fun x65 h65 => ?_)
            have z65 := eLp1.trans h65.symm
            subst z65
            refine lv_icmp_gt (tgt := 213) hx hb dX7_takeWord_68 (by decide) (fun c68 => ?_) (fun c68 => ?_)
            · have r68tq : iv y62_l5 1 61 := (iv_lt_r c68 bLp1 c62_y62_l5).mono (by decide) (by decide)
              refine lv_iconst (v := (-1)) hx hb dX7_takeWord_213 (by decide) ?_
              exact W.iret (v := (-1)) hx hb hr (fun t ht hW => ⟨some (.int (-1)), rfl, ⟨((-1) : Int32), rfl, trivial⟩, by rw [ht]; exact hw.1, hw.2.F ht⟩) hw.2.2.2 dX7_takeWord_214
            · have r68fp : iv y62_l5 0 60 := (iv_le_l (iv_nlt c68) c62_y62_l5 bLp1).mono (by decide) (by decide)
              refine lv_iload hx hb dX7_takeWord_71 (lv_at hl 5 rfl) ?_
              refine lv_aload_n hx hb dX7_takeWord_73 rfl (lv_at hl 1 rfl) ?_
              refine hp_callpi (va_runV (As := []) (rest := [.int y62_l5]) ⟨hx, hb, hml, hown, hts⟩ (sJ0_length l D T k1 hk1) (cwV 0 hts gX7_takeWord_J0_length_8abf5 rfl rfl rfl (by decide +kernel) ⟨Nat.le_of_ble_eq_true rfl, Nat.le_of_ble_eq_true rfl⟩) ⟨hp_Pc.blind, vk_recv hG.2.2.2.1 hk1 hw.2, hp_Pc.at hG hw trivial⟩ rfl rfl hl.1 rfl (lv_room (Nat.le_of_ble_eq_true rfl)) dX7_takeWord_74 ⟨Nat.zero_le _, Nat.zero_le _⟩) (fun x74 h74 => ?_)
              have z74 := eLp1.trans h74.symm
              subst z74
              have J91 : iv y9_l2 0 400 → iv y62_l4 (-1) 400 → iv y62_l5 0 60 → iv y62_fp0_1 0 400 → iv y62_fp0_2 0 400 → ∀ (H : Heap) (locs : List Loc), hp_w D T s H locs → hp_f D H ap0 7 1 (.int y62_fp0_1) → hp_f D H ap0 7 2 (.int y62_fp0_2) → ∀ (ls : Array Slot), lv_has ls 8 [(0, .ref ap0), (1, .ref (D.2.2.1 k1)), (2, .int y9_l2), (3, .int y62_l3), (4, .int y62_l4), (5, .int y62_l5)] → WX7_takeWord p l e s m below meth c D T ap0 k1 H locs (F0 m 91 ls []) := by
                intro c91_y9_l2 c91_y62_l4 c91_y62_l5 c91_y62_fp0_1 c91_y62_fp0_2 H91 locs91 hw f_p0_1 f_p0_2 ls hl
                refine lv_iconst (v := 1) hx hb dX7_takeWord_91 (by decide) ?_
                refine lv_goto (tgt := 96) hx hb dX7_takeWord_92 (by decide) ?_
                refine lv_istore (lv' := [(6, .int 1), (0, .ref ap0), (1, .ref (D.2.2.1 k1)), (2, .int y9_l2), (3, .int y62_l3), (4, .int y62_l4), (5, .int y62_l5)]) hx hb dX7_takeWord_96 hl (by decide) rfl (fun ls hl => ?_)
                refine lv_iload hx hb dX7_takeWord_98 (lv_at hl 0 rfl) ?_
                refine lv_if_eq (tgt := 134) hx hb dX7_takeWord_100 (by decide) (fun c100 => ?_) (fun c100 => ?_)
                · exact iv_abs2 c100 (show iv 1 1 1 from ⟨by decide, by decide⟩) (show iv 0 0 0 from ⟨by decide, by decide⟩) (by decide)
                · refine lv_iload hx hb dX7_takeWord_103 (lv_at hl 5 rfl) ?_
                  refine lv_if_le (tgt := 134) hx hb dX7_takeWord_105 (by decide) (fun c105 => ?_) (fun c105 => ?_)
                  · have r105tp : iv y62_l4 (-1) 0 := (iv_le_l c105 c91_y62_l4 (show iv 0 0 0 from ⟨by decide, by decide⟩)).mono (by decide) (by decide)
                    refine lv_iload hx hb dX7_takeWord_134 (lv_at hl 0 rfl) ?_
                    refine lv_if_eq (tgt := 148) hx hb dX7_takeWord_136 (by decide) (fun c136 => ?_) (fun c136 => ?_)
                    · exact iv_abs2 c136 (show iv 1 1 1 from ⟨by decide, by decide⟩) (show iv 0 0 0 from ⟨by decide, by decide⟩) (by decide)
                    · obtain ⟨x139, ex139⟩ : ∃ y : Int32, y = y62_l3 + 1 := ⟨_, rfl⟩
                      refine lv_iinc (v := x139) (lv' := [(3, .int x139), (6, .int 1), (0, .ref ap0), (1, .ref (D.2.2.1 k1)), (2, .int y9_l2), (4, .int y62_l4), (5, .int y62_l5)]) hx hb dX7_takeWord_139 hl (k := 4) rfl (by rw [ex139]; rfl) (by decide) rfl (fun ls hl => ?_)
                      refine lv_iconst (v := 0) hx hb dX7_takeWord_142 (by decide) ?_
                      refine lv_istore (lv' := [(4, .int 0), (3, .int x139), (6, .int 1), (0, .ref ap0), (1, .ref (D.2.2.1 k1)), (2, .int y9_l2), (5, .int y62_l5)]) hx hb dX7_takeWord_143 hl (by decide) rfl (fun ls hl => ?_)
                      refine lv_goto (tgt := 207) hx hb dX7_takeWord_145 (by decide) ?_
                      obtain ⟨x207, ex207⟩ : ∃ y : Int32, y = y62_l5 + 1 := ⟨_, rfl⟩
                      have bx207 : iv x207 1 61 := iv_add c91_y62_l5 (show iv 1 1 1 from ⟨by decide, by decide⟩) ex207 (by decide)
                      have qx207 := iv_add_eq c91_y62_l5 (show iv 1 1 1 from ⟨by decide, by decide⟩) ex207 (by decide)
                      refine lv_iinc (v := x207) (lv' := [(5, .int x207), (4, .int 0), (3, .int x139), (6, .int 1), (0, .ref ap0), (1, .ref (D.2.2.1 k1)), (2, .int y9_l2)]) hx hb dX7_takeWord_207 hl (k := 6) rfl (by rw [ex207]; rfl) (by decide) rfl (fun ls hl => ?_)
                      refine lv_goto (tgt := 62) hx hb dX7_takeWord_210 (by decide) ?_
                      exact ih62 x139 (0 : Int32) x207 y62_fp0_1 y62_fp0_2 (mu_up 1 hmu62 (qx207) (by decide) (show iv x207 0 61 from (bx207.mono (by decide) (by decide))).2) c91_y9_l2 (show iv 0 (-1) 400 from ⟨by decide, by decide⟩) (bx207.mono (by decide) (by decide)) c91_y62_fp0_1 c91_y62_fp0_2 H91 locs91 hw f_p0_1 f_p0_2 _ (lv_sub hl [4, 5, 6, 2, 1, 0] rfl)
                  · have r105fq : iv y62_l4 1 400 := (iv_lt_r (iv_nle c105) (show iv 0 0 0 from ⟨by decide, by decide⟩) c91_y62_l4).mono (by decide) (by decide)
                    refine lv_aload_n hx hb dX7_takeWord_108 rfl (lv_at hl 1 rfl) ?_
                    refine hp_getf hx hb hts IX7 hown hK f_p0_2 rfl (by decide) L19 dX7_takeWord_109 ?_
                    refine lv_iload hx hb dX7_takeWord_112 (lv_at hl 5 rfl) ?_
                    refine lv_iadd hx hb dX7_takeWord_114 ?_
                    refine lv_topi (fun x114 ex114 => ?_)
                    have bx114 : iv x114 1 800 := iv_add c91_y62_fp0_2 r105fq ex114 (by decide)
                    have qx114 := iv_add_eq c91_y62_fp0_2 r105fq ex114 (by decide)
                    refine lv_iload_n hx hb dX7_takeWord_115 rfl (lv_at hl 3 rfl) ?_
                    refine lv_icmp_ne (tgt := 134) hx hb dX7_takeWord_116 (by decide) (fun c116 => ?_) (fun c116 => ?_)
                    · refine lv_iload hx hb dX7_takeWord_134 (lv_at hl 0 rfl) ?_
                      refine lv_if_eq (tgt := 148) hx hb dX7_takeWord_136 (by decide) (fun c136 => ?_) (fun c136 => ?_)
                      · exact iv_abs2 c136 (show iv 1 1 1 from ⟨by decide, by decide⟩) (show iv 0 0 0 from ⟨by decide, by decide⟩) (by decide)
                      · obtain ⟨x139, ex139⟩ : ∃ y : Int32, y = y62_l3 + 1 := ⟨_, rfl⟩
                        refine lv_iinc (v := x139) (lv' := [(3, .int x139), (6, .int 1), (0, .ref ap0), (1, .ref (D.2.2.1 k1)), (2, .int y9_l2), (4, .int y62_l4), (5, .int y62_l5)]) hx hb dX7_takeWord_139 hl (k := 4) rfl (by rw [ex139]; rfl) (by decide) rfl (fun ls hl => ?_)
                        refine lv_iconst (v := 0) hx hb dX7_takeWord_142 (by decide) ?_
                        refine lv_istore (lv' := [(4, .int 0), (3, .int x139), (6, .int 1), (0, .ref ap0), (1, .ref (D.2.2.1 k1)), (2, .int y9_l2), (5, .int y62_l5)]) hx hb dX7_takeWord_143 hl (by decide) rfl (fun ls hl => ?_)
                        refine lv_goto (tgt := 207) hx hb dX7_takeWord_145 (by decide) ?_
                        obtain ⟨x207, ex207⟩ : ∃ y : Int32, y = y62_l5 + 1 := ⟨_, rfl⟩
                        have bx207 : iv x207 1 61 := iv_add c91_y62_l5 (show iv 1 1 1 from ⟨by decide, by decide⟩) ex207 (by decide)
                        have qx207 := iv_add_eq c91_y62_l5 (show iv 1 1 1 from ⟨by decide, by decide⟩) ex207 (by decide)
                        refine lv_iinc (v := x207) (lv' := [(5, .int x207), (4, .int 0), (3, .int x139), (6, .int 1), (0, .ref ap0), (1, .ref (D.2.2.1 k1)), (2, .int y9_l2)]) hx hb dX7_takeWord_207 hl (k := 6) rfl (by rw [ex207]; rfl) (by decide) rfl (fun ls hl => ?_)
                        refine lv_goto (tgt := 62) hx hb dX7_takeWord_210 (by decide) ?_
                        exact ih62 x139 (0 : Int32) x207 y62_fp0_1 y62_fp0_2 (mu_up 1 hmu62 (qx207) (by decide) (show iv x207 0 61 from (bx207.mono (by decide) (by decide))).2) c91_y9_l2 (show iv 0 (-1) 400 from ⟨by decide, by decide⟩) (bx207.mono (by decide) (by decide)) c91_y62_fp0_1 c91_y62_fp0_2 H91 locs91 hw f_p0_1 f_p0_2 _ (lv_sub hl [4, 5, 6, 2, 1, 0] rfl)
                    · have r116fp : iv x114 1 400 := (iv_both bx114 (iv_eq c91_y9_l2 c116)).mono (by decide) (by decide)
                      have r116fpu : iv y62_fp0_2 0 399 := iv_bku qx114 r116fp c91_y62_fp0_2 r105fq (by decide)
                      have r116fq : iv y9_l2 1 400 := (iv_both c91_y9_l2 (iv_eq r116fp c116.symm)).mono (by decide) (by decide)
                      refine lv_aload_n hx hb dX7_takeWord_119 rfl (lv_at hl 1 rfl) ?_
                      refine lv_aload_n hx hb dX7_takeWord_120 rfl (lv_at hl 1 rfl) ?_
                      refine hp_getf hx hb hts IX7 hown hK f_p0_2 rfl (by decide) L19 dX7_takeWord_121 ?_
                      refine hp_put hx hb hts IX7 tyX7 tyX7_ok nmX7 hown hK hw hp0 rfl 4 (by decide) L25 rfl rfl ⟨_, rfl, (r116fpu.mono (by decide) (by decide))⟩ rfl rfl dX7_takeWord_124 (fun H124 locs124 hw f124n g124 => ?_)
                      have f_p0_1 := g124 _ _ _ _ f_p0_1 (Or.inr ⟨rfl, by decide⟩)
                      have f_p0_2 := g124 _ _ _ _ f_p0_2 (Or.inr ⟨rfl, by decide⟩)
                      refine lv_aload_n hx hb dX7_takeWord_127 rfl (lv_at hl 1 rfl) ?_
                      refine lv_iload_n hx hb dX7_takeWord_128 rfl (lv_at hl 3 rfl) ?_
                      refine hp_put hx hb hts IX7 tyX7 tyX7_ok nmX7 hown hK hw hp0 rfl 2 (by decide) L19 rfl rfl ⟨_, rfl, (r116fq.mono (by decide) (by decide))⟩ rfl rfl dX7_takeWord_129 (fun H129 locs129 hw f129n g129 => ?_)
                      have f_p0_1 := g129 _ _ _ _ f_p0_1 (Or.inr ⟨rfl, by decide⟩)
                      refine lv_iload_n hx hb dX7_takeWord_132 rfl (lv_at hl 4 rfl) ?_
                      exact W.iret (v := y62_l3) hx hb hr (fun t ht hW => ⟨some (.int y62_l3), rfl, ⟨y62_l3, rfl, trivial⟩, by rw [ht]; exact hw.1, hw.2.F ht⟩) hw.2.2.2 dX7_takeWord_133
              refine lv_icmp_eq (tgt := 91) hx hb dX7_takeWord_77 (by decide) (fun c77 => ?_) (fun c77 => ?_)
              · exact J91 c62_y9_l2 c62_y62_l4 r68fp c62_y62_fp0_1 c62_y62_fp0_2 H62 locs62 hw f_p0_1 f_p0_2 _ (lv_sub hl [0, 1, 2, 3, 4, 5] rfl)
              · refine lv_aload_n hx hb dX7_takeWord_80 rfl (lv_at hl 1 rfl) ?_
                refine lv_iload hx hb dX7_takeWord_81 (lv_at hl 5 rfl) ?_
                refine hp_callpi (va_runV (As := [.int y62_l5]) (rest := []) ⟨hx, hb, hml, hown, hts⟩ (sJ0_charAt l D T k1 y62_l5 hk1 (vp_len eLp1.symm (iv_ltne (iv_nlt c68) c77) r68fp (by decide) (Nat.le_of_lt (js_ok k1 hk1)))) (cwV 1 hts gX7_takeWord_J0_charAt_5068e rfl rfl rfl (by decide +kernel) ⟨Nat.le_of_ble_eq_true rfl, Nat.le_of_ble_eq_true rfl⟩) ⟨hp_Pc.blind, vk_recv hG.2.2.2.1 hk1 hw.2, hp_Pc.at hG hw trivial⟩ rfl rfl hl.1 rfl (lv_room (Nat.le_of_ble_eq_true rfl)) dX7_takeWord_83 ⟨Nat.zero_le _, Nat.zero_le _⟩) (fun x83 bx83 => ?_)
                refine lv_bipush (v := 32) hx hb dX7_takeWord_86 (by decide) ?_
                refine lv_icmp_ne (tgt := 95) hx hb dX7_takeWord_88 (by decide) (fun c88 => ?_) (fun c88 => ?_)
                · refine lv_iconst (v := 0) hx hb dX7_takeWord_95 (by decide) ?_
                  refine lv_istore (lv' := [(6, .int 0), (0, .ref ap0), (1, .ref (D.2.2.1 k1)), (2, .int y9_l2), (3, .int y62_l3), (4, .int y62_l4), (5, .int y62_l5)]) hx hb dX7_takeWord_96 hl (by decide) rfl (fun ls hl => ?_)
                  refine lv_iload hx hb dX7_takeWord_98 (lv_at hl 0 rfl) ?_
                  refine lv_if_eq (tgt := 134) hx hb dX7_takeWord_100 (by decide) (fun c100 => ?_) (fun c100 => ?_)
                  · refine lv_iload hx hb dX7_takeWord_134 (lv_at hl 0 rfl) ?_
                    have J207_95_100 : ∀ (y207_l4 : Int32), iv y9_l2 0 400 → iv y207_l4 (-1) 400 → iv y62_l5 0 60 → iv y62_fp0_1 0 400 → iv y62_fp0_2 0 400 → ∀ (H : Heap) (locs : List Loc), hp_w D T s H locs → hp_f D H ap0 7 1 (.int y62_fp0_1) → hp_f D H ap0 7 2 (.int y62_fp0_2) → ∀ (ls : Array Slot), lv_has ls 8 [(0, .ref ap0), (1, .ref (D.2.2.1 k1)), (2, .int y9_l2), (3, .int y62_l3), (4, .int y207_l4), (5, .int y62_l5)] → WX7_takeWord p l e s m below meth c D T ap0 k1 H locs (F0 m 207 ls []) := by
                      intro y207_l4 c207_y9_l2 c207_y207_l4 c207_y62_l5 c207_y62_fp0_1 c207_y62_fp0_2 H207 locs207 hw f_p0_1 f_p0_2 ls hl
                      obtain ⟨x207, ex207⟩ : ∃ y : Int32, y = y62_l5 + 1 := ⟨_, rfl⟩
                      have bx207 : iv x207 1 61 := iv_add c207_y62_l5 (show iv 1 1 1 from ⟨by decide, by decide⟩) ex207 (by decide)
                      have qx207 := iv_add_eq c207_y62_l5 (show iv 1 1 1 from ⟨by decide, by decide⟩) ex207 (by decide)
                      refine lv_iinc (v := x207) (lv' := [(5, .int x207), (0, .ref ap0), (1, .ref (D.2.2.1 k1)), (2, .int y9_l2), (3, .int y62_l3), (4, .int y207_l4)]) hx hb dX7_takeWord_207 hl (k := 5) rfl (by rw [ex207]; rfl) (by decide) rfl (fun ls hl => ?_)
                      refine lv_goto (tgt := 62) hx hb dX7_takeWord_210 (by decide) ?_
                      exact ih62 y62_l3 y207_l4 x207 y62_fp0_1 y62_fp0_2 (mu_up 1 hmu62 (qx207) (by decide) (show iv x207 0 61 from (bx207.mono (by decide) (by decide))).2) c207_y9_l2 c207_y207_l4 (bx207.mono (by decide) (by decide)) c207_y62_fp0_1 c207_y62_fp0_2 H207 locs207 hw f_p0_1 f_p0_2 _ (lv_sub hl [1, 2, 3, 4, 5, 0] rfl)
                    refine lv_if_eq (tgt := 148) hx hb dX7_takeWord_136 (by decide) (fun c136 => ?_) (fun c136 => ?_)
                    · refine lv_iload hx hb dX7_takeWord_148 (lv_at hl 5 rfl) ?_
                      refine lv_if_lt (tgt := 207) hx hb dX7_takeWord_150 (by decide) (fun c150 => ?_) (fun c150 => ?_)
                      · have r150tp : iv y62_l4 (-1) (-1) := (iv_lt_l c150 c62_y62_l4 (show iv 0 0 0 from ⟨by decide, by decide⟩)).mono (by decide) (by decide)
                        exact J207_95_100 y62_l4 c62_y9_l2 (r150tp.mono (by decide) (by decide)) r68fp c62_y62_fp0_1 c62_y62_fp0_2 H62 locs62 hw f_p0_1 f_p0_2 _ (lv_sub hl [1, 2, 3, 4, 5, 6] rfl)
                      · have r150fq : iv y62_l4 0 400 := (iv_le_r (iv_nlt c150) (show iv 0 0 0 from ⟨by decide, by decide⟩) c62_y62_l4).mono (by decide) (by decide)
                        refine lv_aload_n hx hb dX7_takeWord_153 rfl (lv_at hl 1 rfl) ?_
                        refine hp_getf hx hb hts IX7 hown hK f_p0_2 rfl (by decide) L19 dX7_takeWord_154 ?_
                        refine lv_iload hx hb dX7_takeWord_157 (lv_at hl 5 rfl) ?_
                        refine lv_iadd hx hb dX7_takeWord_159 ?_
                        refine lv_topi (fun x159 ex159 => ?_)
                        have bx159 : iv x159 0 800 := iv_add c62_y62_fp0_2 r150fq ex159 (by decide)
                        have qx159 := iv_add_eq c62_y62_fp0_2 r150fq ex159 (by decide)
                        refine lv_iload_n hx hb dX7_takeWord_160 rfl (lv_at hl 3 rfl) ?_
                        have J189_95_100 : iv y9_l2 0 400 → iv y62_l4 0 400 → iv y62_l5 0 60 → iv y62_fp0_1 0 400 → iv y62_fp0_2 0 400 → ∀ (H : Heap) (locs : List Loc), hp_w D T s H locs → hp_f D H ap0 7 1 (.int y62_fp0_1) → hp_f D H ap0 7 2 (.int y62_fp0_2) → ∀ (ls : Array Slot), lv_has ls 8 [(0, .ref ap0), (1, .ref (D.2.2.1 k1)), (2, .int y9_l2), (3, .int y62_l3), (4, .int y62_l4), (5, .int y62_l5)] → WX7_takeWord p l e s m below meth c D T ap0 k1 H locs (F0 m 189 ls []) := by
                          intro c189_y9_l2 c189_y62_l4 c189_y62_l5 c189_y62_fp0_1 c189_y62_fp0_2 H189 locs189 hw f_p0_1 f_p0_2 ls hl
                          refine lv_iconst (v := 0) hx hb dX7_takeWord_189 (by decide) ?_
                          refine lv_istore (lv' := [(7, .int 0), (0, .ref ap0), (1, .ref (D.2.2.1 k1)), (2, .int y9_l2), (3, .int y62_l3), (4, .int y62_l4), (5, .int y62_l5)]) hx hb dX7_takeWord_190 hl (by decide) rfl (fun ls hl => ?_)
                          refine lv_iload hx hb dX7_takeWord_192 (lv_at hl 0 rfl) ?_
                          refine lv_if_eq (tgt := 204) hx hb dX7_takeWord_194 (by decide) (fun c194 => ?_) (fun c194 => ?_)
                          · refine lv_iconst (v := (-1)) hx hb dX7_takeWord_204 (by decide) ?_
                            refine lv_istore (lv' := [(4, .int (-1)), (7, .int 0), (0, .ref ap0), (1, .ref (D.2.2.1 k1)), (2, .int y9_l2), (3, .int y62_l3), (5, .int y62_l5)]) hx hb dX7_takeWord_205 hl (by decide) rfl (fun ls hl => ?_)
                            exact J207_95_100 ((-1) : Int32) c189_y9_l2 (show iv (-1) (-1) 400 from ⟨by decide, by decide⟩) c189_y62_l5 c189_y62_fp0_1 c189_y62_fp0_2 H189 locs189 hw f_p0_1 f_p0_2 _ (lv_sub hl [2, 3, 4, 5, 0, 6] rfl)
                          · exact absurd rfl c194
                        refine lv_icmp_ge (tgt := 189) hx hb dX7_takeWord_161 (by decide) (fun c161 => ?_) (fun c161 => ?_)
                        · exact J189_95_100 c62_y9_l2 r150fq r68fp c62_y62_fp0_1 c62_y62_fp0_2 H62 locs62 hw f_p0_1 f_p0_2 _ (lv_sub hl [1, 2, 3, 4, 5, 6] rfl)
                        · have r161fp : iv x159 0 399 := (iv_lt_l (iv_nle c161) bx159 c62_y9_l2).mono (by decide) (by decide)
                          have r161fpu : iv y62_fp0_2 0 399 := iv_bku qx159 r161fp c62_y62_fp0_2 r150fq (by decide)
                          have r161fpw : iv y62_l4 0 399 := iv_bkw qx159 r161fp r150fq r161fpu (by decide)
                          have r161fq : iv y9_l2 1 400 := (iv_lt_r (iv_nle c161) bx159 c62_y9_l2).mono (by decide) (by decide)
                          refine lv_aload_n hx hb dX7_takeWord_164 rfl (lv_at hl 1 rfl) ?_
                          refine hp_getr hx hb hts IX7 hown hK hw.1 hp0 rfl 0 (by decide) L9 rfl dX7_takeWord_165 ?_
                          refine lv_aload_n hx hb dX7_takeWord_168 rfl (lv_at hl 1 rfl) ?_
                          refine hp_getf hx hb hts IX7 hown hK f_p0_2 rfl (by decide) L19 dX7_takeWord_169 ?_
                          refine lv_iload hx hb dX7_takeWord_172 (lv_at hl 5 rfl) ?_
                          refine lv_iadd hx hb dX7_takeWord_174 ?_
                          refine lv_topi (fun x174 ex174 => ?_)
                          have bx174 : iv x174 0 399 := iv_eq r161fp (ex174.trans ex159.symm)
                          refine hp_baldA hx hb hK hw.1 hp0bt (vp_iv bx174 (by decide)) dX7_takeWord_175 (fun x175 => ?_)
                          refine lv_aload_n hx hb dX7_takeWord_176 rfl (lv_at hl 2 rfl) ?_
                          refine lv_iload hx hb dX7_takeWord_177 (lv_at hl 6 rfl) ?_
                          refine hp_callpi (va_runV (As := [.int y62_l5]) (rest := [.int x175]) ⟨hx, hb, hml, hown, hts⟩ (sJ0_charAt l D T k1 y62_l5 hk1 (vp_len eLp1.symm (iv_ltne (iv_nlt c68) c77) r68fp (by decide) (Nat.le_of_lt (js_ok k1 hk1)))) (cwV 1 hts gX7_takeWord_J0_charAt_5068e rfl rfl rfl (by decide +kernel) ⟨Nat.le_of_ble_eq_true rfl, Nat.le_of_ble_eq_true rfl⟩) ⟨hp_Pc.blind, vk_recv hG.2.2.2.1 hk1 hw.2, hp_Pc.at hG hw trivial⟩ rfl rfl hl.1 rfl (lv_room (Nat.le_of_ble_eq_true rfl)) dX7_takeWord_179 ⟨Nat.zero_le _, Nat.zero_le _⟩) (fun x179 bx179 => ?_)
                          refine lv_icmp_ne (tgt := 189) hx hb dX7_takeWord_182 (by decide) (fun c182 => ?_) (fun c182 => ?_)
                          · exact J189_95_100 (r161fq.mono (by decide) (by decide)) (r161fpw.mono (by decide) (by decide)) r68fp c62_y62_fp0_1 (r161fpu.mono (by decide) (by decide)) H62 locs62 hw f_p0_1 f_p0_2 _ (lv_sub hl [1, 2, 3, 4, 5, 6] rfl)
                          · have r182fp : iv x175 0 65535 := (iv_both (iv_any x175) (iv_eq bx179 c182)).mono (by decide) (by decide)
                            refine lv_iconst (v := 1) hx hb dX7_takeWord_185 (by decide) ?_
                            refine lv_goto (tgt := 190) hx hb dX7_takeWord_186 (by decide) ?_
                            refine lv_istore (lv' := [(7, .int 1), (6, .int 0), (0, .ref ap0), (1, .ref (D.2.2.1 k1)), (2, .int y9_l2), (3, .int y62_l3), (4, .int y62_l4), (5, .int y62_l5)]) hx hb dX7_takeWord_190 hl (by decide) rfl (fun ls hl => ?_)
                            refine lv_iload hx hb dX7_takeWord_192 (lv_at hl 0 rfl) ?_
                            refine lv_if_eq (tgt := 204) hx hb dX7_takeWord_194 (by decide) (fun c194 => ?_) (fun c194 => ?_)
                            · exact iv_abs2 c194 (show iv 1 1 1 from ⟨by decide, by decide⟩) (show iv 0 0 0 from ⟨by decide, by decide⟩) (by decide)
                            · refine lv_iload hx hb dX7_takeWord_197 (lv_at hl 6 rfl) ?_
                              refine lv_iconst (v := 1) hx hb dX7_takeWord_199 (by decide) ?_
                              refine lv_iadd hx hb dX7_takeWord_200 ?_
                              refine lv_topi (fun x200 ex200 => ?_)
                              have bx200 : iv x200 1 400 := iv_add r161fpw (show iv 1 1 1 from ⟨by decide, by decide⟩) ex200 (by decide)
                              have qx200 := iv_add_eq r161fpw (show iv 1 1 1 from ⟨by decide, by decide⟩) ex200 (by decide)
                              refine lv_goto (tgt := 205) hx hb dX7_takeWord_201 (by decide) ?_
                              refine lv_istore (lv' := [(4, .int x200), (7, .int 1), (6, .int 0), (0, .ref ap0), (1, .ref (D.2.2.1 k1)), (2, .int y9_l2), (3, .int y62_l3), (5, .int y62_l5)]) hx hb dX7_takeWord_205 hl (by decide) rfl (fun ls hl => ?_)
                              exact J207_95_100 x200 (r161fq.mono (by decide) (by decide)) (bx200.mono (by decide) (by decide)) r68fp c62_y62_fp0_1 (r161fpu.mono (by decide) (by decide)) H62 locs62 hw f_p0_1 f_p0_2 _ (lv_sub hl [3, 4, 5, 6, 0, 7] rfl)
                    · exact absurd rfl c136
                  · exact absurd rfl c100
                · have r88fp : iv x83 32 32 := (iv_both bx83 (iv_eq (show iv 32 32 32 from ⟨by decide, by decide⟩) c88)).mono (by decide) (by decide)
                  exact J91 c62_y9_l2 c62_y62_l4 r68fp c62_y62_fp0_1 c62_y62_fp0_2 H62 locs62 hw f_p0_1 f_p0_2 _ (lv_sub hl [0, 1, 2, 3, 4, 5] rfl)
        exact J62 _ (0 : Int32) (0 : Int32) (0 : Int32) y9_fp0_1 y9_fp0_2 (Nat.lt_succ_self _) c54_y9_l2 (show iv 0 (-1) 400 from ⟨by decide, by decide⟩) (show iv 0 0 61 from ⟨by decide, by decide⟩) c54_y9_fp0_1 c54_y9_fp0_2 H54 locs54 hw f_p0_1 f_p0_2 _ (lv_sub hl [3, 4, 5, 2, 1, 0] rfl)
      refine lv_icmp_ge (tgt := 54) hx hb dX7_takeWord_14 (by decide) (fun c14 => ?_) (fun c14 => ?_)
      · exact J54 c9_y9_l2 c9_y9_fp0_1 c9_y9_fp0_2 H9 locs9 hw f_p0_1 f_p0_2 _ (lv_sub hl [0, 1, 2] rfl)
      · have r14fp : iv y9_l2 0 399 := (iv_lt_l (iv_nle c14) c9_y9_l2 c9_y9_fp0_1).mono (by decide) (by decide)
        have r14fq : iv y9_fp0_1 1 400 := (iv_lt_r (iv_nle c14) c9_y9_l2 c9_y9_fp0_1).mono (by decide) (by decide)
        refine lv_iload_n hx hb dX7_takeWord_17 rfl (lv_at hl 2 rfl) ?_
        refine lv_aload_n hx hb dX7_takeWord_18 rfl (lv_at hl 0 rfl) ?_
        refine hp_getr hx hb hts IX7 hown hK hw.1 hp0 rfl 0 (by decide) L9 rfl dX7_takeWord_19 ?_
        refine hp_alen (v := 400) hx hb hK hw.1 hp0bt rfl rfl dX7_takeWord_22 ?_
        refine lv_icmp_ge (tgt := 54) hx hb dX7_takeWord_23 (by decide) (fun c23 => ?_) (fun c23 => ?_)
        · exact iv_abs (iv_le_l c23 (show iv 400 400 400 from ⟨by decide, by decide⟩) r14fp) (by decide)
        · refine lv_aload_n hx hb dX7_takeWord_26 rfl (lv_at hl 0 rfl) ?_
          refine hp_getr hx hb hts IX7 hown hK hw.1 hp0 rfl 0 (by decide) L9 rfl dX7_takeWord_27 ?_
          refine lv_iload_n hx hb dX7_takeWord_30 rfl (lv_at hl 2 rfl) ?_
          refine hp_baldA hx hb hK hw.1 hp0bt (vp_iv r14fp (by decide)) dX7_takeWord_31 (fun x31 => ?_)
          refine lv_bipush (v := 97) hx hb dX7_takeWord_32 (by decide) ?_
          refine lv_icmp_lt (tgt := 54) hx hb dX7_takeWord_34 (by decide) (fun c34 => ?_) (fun c34 => ?_)
          · have r34tp : iv x31 (-2147483648) 96 := (iv_lt_l c34 (iv_any x31) (show iv 97 97 97 from ⟨by decide, by decide⟩)).mono (by decide) (by decide)
            exact J54 (r14fp.mono (by decide) (by decide)) (r14fq.mono (by decide) (by decide)) c9_y9_fp0_2 H9 locs9 hw f_p0_1 f_p0_2 _ (lv_sub hl [0, 1, 2] rfl)
          · have r34fq : iv x31 97 2147483647 := (iv_le_r (iv_nlt c34) (show iv 97 97 97 from ⟨by decide, by decide⟩) (iv_any x31)).mono (by decide) (by decide)
            refine lv_aload_n hx hb dX7_takeWord_37 rfl (lv_at hl 0 rfl) ?_
            refine hp_getr hx hb hts IX7 hown hK hw.1 hp0 rfl 0 (by decide) L9 rfl dX7_takeWord_38 ?_
            refine lv_iload_n hx hb dX7_takeWord_41 rfl (lv_at hl 2 rfl) ?_
            refine hp_baldA hx hb hK hw.1 hp0bt (vp_iv r14fp (by decide)) dX7_takeWord_42 (fun x42 => ?_)
            refine lv_bipush (v := 122) hx hb dX7_takeWord_43 (by decide) ?_
            refine lv_icmp_gt (tgt := 54) hx hb dX7_takeWord_45 (by decide) (fun c45 => ?_) (fun c45 => ?_)
            · have r45tq : iv x42 123 2147483647 := (iv_lt_r c45 (show iv 122 122 122 from ⟨by decide, by decide⟩) (iv_any x42)).mono (by decide) (by decide)
              exact J54 (r14fp.mono (by decide) (by decide)) (r14fq.mono (by decide) (by decide)) c9_y9_fp0_2 H9 locs9 hw f_p0_1 f_p0_2 _ (lv_sub hl [0, 1, 2] rfl)
            · have r45fp : iv x42 (-2147483648) 122 := (iv_le_l (iv_nlt c45) (iv_any x42) (show iv 122 122 122 from ⟨by decide, by decide⟩)).mono (by decide) (by decide)
              obtain ⟨x48, ex48⟩ : ∃ y : Int32, y = y9_l2 + 1 := ⟨_, rfl⟩
              have bx48 : iv x48 1 400 := iv_add r14fp (show iv 1 1 1 from ⟨by decide, by decide⟩) ex48 (by decide)
              have qx48 := iv_add_eq r14fp (show iv 1 1 1 from ⟨by decide, by decide⟩) ex48 (by decide)
              refine lv_iinc (v := x48) (lv' := [(2, .int x48), (0, .ref ap0), (1, .ref (D.2.2.1 k1))]) hx hb dX7_takeWord_48 hl (k := 2) rfl (by rw [ex48]; rfl) (by decide) rfl (fun ls hl => ?_)
              refine lv_goto (tgt := 9) hx hb dX7_takeWord_51 (by decide) ?_
              exact ih9 x48 y9_fp0_1 y9_fp0_2 (mu_up 1 hmu9 (qx48) (by decide) (show iv x48 0 400 from (bx48.mono (by decide) (by decide))).2) (bx48.mono (by decide) (by decide)) (r14fq.mono (by decide) (by decide)) c9_y9_fp0_2 H9 locs9 hw f_p0_1 f_p0_2 _ (lv_sub hl [1, 2, 0] rfl)
  exact J9 _ x1op0_2 x1op0_1 x1op0_2 (Nat.lt_succ_self _) bx1op0_2 bx1op0_1 bx1op0_2 H1 locs1 hw fx1op0_1 fx1op0_2 _ (lv_sub hl [1, 2, 0] rfl)
abbrev WX7_takeSignOf (p : Program) (l : Launch) (e : Env) (s : State) (m : MethodId) (below : List Frame) (meth : Method) (c : Code) (D : hp_D) (T : hp_T) (ap0 : Nat) (k1 : Nat) (H : Heap) (locs : List Loc) (g : JFrame) : Prop := W p l e (headSpec wsX7_takeSignOf ({ frames := 4, cells := 0, slots := 0, locals := 101 })).room s m ([.ref ap0, .ref (D.2.2.1 k1)] : List Value).toArray below meth c H locs 0 0 (MQ below (hq_e D T (fun v _ _ => ∃ r : Int32, v = some (.int r) ∧ True)) ([.ref ap0, .ref (D.2.2.1 k1)] : List Value).toArray s 0 0 (hp_F T)) g
set_option maxHeartbeats 4000000 in
set_option maxRecDepth 100000 in
theorem sX7_takeSignOf (l : Launch) (D : hp_D) (T : hp_T) (ap0 : Nat) (k1 : Nat) (ip0 : isTape T ap0) (hk1 : k1 < 11) : Met l yX7_takeSignOf wsX7_takeSignOf ({ frames := 4, cells := 0, slots := 0, locals := 101 }) (hp_Pc D T [.ref ap0, .ref (D.2.2.1 k1)] (fun _ => True)) (hq_e D T (fun v _ _ => ∃ r : Int32, v = some (.int r) ∧ True)) 0 0 (hp_F T) := by
  obtain ⟨ap0bt, hp0, hp0bt⟩ := id ip0
  refine Met.ofW (cc := cX7_takeSignOf) (maxL := 3) (ret := (some .int)) (by decide) rfl ?_
  intro p e s m args below meth c s₁ B hml hv
  obtain ⟨rfl, hok, hG, hB⟩ := hv
  have hx := B.exec
  have hb := B.bytes
  have hr := B.returns
  have hts := atoms_spec (ws := wsX7_takeSignOf) B.pre
  have hown : s.vm.findClass RX7 = some m.cls := findClass_of_methodNamed B.named
  have hlocks := B.notSynchronized
  have hK := hG.1
  have hw : hp_w D T s s.heap [] := hp_w.rf hok
  have IX7 : ∀ w ∈ wsX70, w ∈ wsX7_takeSignOf := by decide +kernel
  have L19 := hts (.fieldLink RX7 19 "PalmCensus$Tape" "place" "I") (by decide +kernel)
  have L25 := hts (.fieldLink RX7 25 "PalmCensus$Tape" "start" "I") (by decide +kernel)
  obtain ⟨Lp1, eLp1⟩ : ∃ y : Int32, y = Int32.ofNat (js_len.getD k1 0) := ⟨_, rfl⟩
  have bLp1 : iv Lp1 0 60 := iv_eq (iv_nI (n := js_len.getD k1 0) (by have := js_ok k1 hk1; omega) (by omega) (by have := js_ok k1 hk1; omega)) eLp1
  have hl := lv_entry ([.ref ap0, .ref (D.2.2.1 k1)]) (n := 3) (Nat.le_of_ble_eq_true rfl)
  rw [lg_entry_eq]
  generalize (lg_sl ([.ref ap0, .ref (D.2.2.1 k1)]) ++ List.replicate (3 - (lg_sl ([.ref ap0, .ref (D.2.2.1 k1)])).length) Slot.unset).toArray = ls at hl ⊢
  have hl : lv_has ls 3 [(0, .ref ap0), (1, .ref (D.2.2.1 k1))] := hl
  show WX7_takeSignOf p l e s m below meth c D T ap0 k1 s.heap [] (F0 m 0 ls [])
  obtain ⟨x9000op0_2, bx9000op0_2, fx9000op0_2⟩ := hp_opI hw.1 hp0 2 rfl
  refine lv_aload_n hx hb dX7_takeSignOf_0 rfl (lv_at hl 0 rfl) ?_
  refine hp_callev (va_runV (As := []) (rest := []) ⟨hx, hb, hml, hown, hts⟩ (sX7_skipBlanks l D T ap0 ip0) (cwV 0 hts gX7_takeSignOf_X7_skipBlanks rfl rfl rfl (by decide +kernel) ⟨Nat.le_of_ble_eq_true rfl, Nat.le_of_ble_eq_true rfl⟩) (hp_preV hG hw hp0 rfl trivial) rfl rfl hl.1 rfl (lv_room (Nat.le_of_ble_eq_true rfl)) dX7_takeSignOf_1 ⟨Nat.zero_le _, Nat.zero_le _⟩) hw (fun st1 t1 H1 locs1 eh1 eg1 bx1 hw => ?_)
  obtain ⟨x1op0_2, bx1op0_2, fx1op0_2⟩ := hp_opI hw.1 hp0 2 rfl
  refine lv_iconst (v := 0) hx hb dX7_takeSignOf_4 (by decide) ?_
  refine lv_istore_n (lv' := [(2, .int 0), (0, .ref ap0), (1, .ref (D.2.2.1 k1))]) hx hb dX7_takeSignOf_5 rfl hl (by decide) rfl (fun ls hl => ?_)
  have J6 : ∀ (n : Nat) (y6_l2 y6_fp0_2 : Int32), (60 - y6_l2.toInt).toNat < n → iv y6_l2 0 60 → iv y6_fp0_2 0 400 → ∀ (H : Heap) (locs : List Loc), hp_w D T s H locs → hp_f D H ap0 7 2 (.int y6_fp0_2) → ∀ (ls : Array Slot), lv_has ls 3 [(0, .ref ap0), (1, .ref (D.2.2.1 k1)), (2, .int y6_l2)] → WX7_takeSignOf p l e s m below meth c D T ap0 k1 H locs (F0 m 6 ls []) := by
    intro n
    induction n with
    | zero => intro y6_l2 y6_fp0_2 hmu6 c6_y6_l2 c6_y6_fp0_2 H6 locs6 hw f_p0_2 ls hl; exact absurd hmu6 (Nat.not_lt_zero _)
    | succ n ih6 =>
      intro y6_l2 y6_fp0_2 hmu6 c6_y6_l2 c6_y6_fp0_2 H6 locs6 hw f_p0_2 ls hl
      refine lv_iload_n hx hb dX7_takeSignOf_6 rfl (lv_at hl 2 rfl) ?_
      refine lv_aload_n hx hb dX7_takeSignOf_7 rfl (lv_at hl 1 rfl) ?_
      refine hp_callpi (va_runV (As := []) (rest := [.int y6_l2]) ⟨hx, hb, hml, hown, hts⟩ (sJ0_length l D T k1 hk1) (cwV 0 hts gX7_takeSignOf_J0_length_8abf5 rfl rfl rfl (by decide +kernel) ⟨Nat.le_of_ble_eq_true rfl, Nat.le_of_ble_eq_true rfl⟩) ⟨hp_Pc.blind, vk_recv hG.2.2.2.1 hk1 hw.2, hp_Pc.at hG hw trivial⟩ rfl rfl hl.1 rfl (lv_room (Nat.le_of_ble_eq_true rfl)) dX7_takeSignOf_8 ⟨Nat.zero_le _, Nat.zero_le _⟩) (fun x8 h8 => ?_)
      have z8 := eLp1.trans h8.symm
      subst z8
      refine lv_icmp_ge (tgt := 56) hx hb dX7_takeSignOf_11 (by decide) (fun c11 => ?_) (fun c11 => ?_)
      · refine lv_iconst (v := (-1)) hx hb dX7_takeSignOf_56 (by decide) ?_
        exact W.iret (v := (-1)) hx hb hr (fun t ht hW => ⟨some (.int (-1)), rfl, ⟨((-1) : Int32), rfl, trivial⟩, by rw [ht]; exact hw.1, hw.2.F ht⟩) hw.2.2.2 dX7_takeSignOf_57
      · have r11fp : iv y6_l2 0 59 := (iv_lt_l (iv_nle c11) c6_y6_l2 bLp1).mono (by decide) (by decide)
        have r11fq : iv Lp1 1 60 := (iv_lt_r (iv_nle c11) c6_y6_l2 bLp1).mono (by decide) (by decide)
        refine lv_aload_n hx hb dX7_takeSignOf_14 rfl (lv_at hl 0 rfl) ?_
        refine lv_aload_n hx hb dX7_takeSignOf_15 rfl (lv_at hl 0 rfl) ?_
        refine hp_getf hx hb hts IX7 hown hK f_p0_2 rfl (by decide) L19 dX7_takeSignOf_16 ?_
        refine hp_callpi (va_runV (As := [.int y6_fp0_2]) (rest := []) ⟨hx, hb, hml, hown, hts⟩ (sX7_byteAt l D T ap0 y6_fp0_2 ip0) (cwV 1 hts gX7_takeSignOf_X7_byteAt rfl rfl rfl (by decide +kernel) ⟨Nat.le_of_ble_eq_true rfl, Nat.le_of_ble_eq_true rfl⟩) (hp_preV hG hw hp0 rfl trivial) rfl rfl hl.1 rfl (lv_room (Nat.le_of_ble_eq_true rfl)) dX7_takeSignOf_19 ⟨Nat.zero_le _, Nat.zero_le _⟩) (fun x19 bx19 => ?_)
        obtain ⟨bx19, ix19_0⟩ := bx19
        refine lv_aload_n hx hb dX7_takeSignOf_22 rfl (lv_at hl 1 rfl) ?_
        refine lv_iload_n hx hb dX7_takeSignOf_23 rfl (lv_at hl 2 rfl) ?_
        refine hp_callpi (va_runV (As := [.int y6_l2]) (rest := [.int x19]) ⟨hx, hb, hml, hown, hts⟩ (sJ0_charAt l D T k1 y6_l2 hk1 (vp_len eLp1.symm (iv_nle c11) r11fp (by decide) (Nat.le_of_lt (js_ok k1 hk1)))) (cwV 1 hts gX7_takeSignOf_J0_charAt_5068e rfl rfl rfl (by decide +kernel) ⟨Nat.le_of_ble_eq_true rfl, Nat.le_of_ble_eq_true rfl⟩) ⟨hp_Pc.blind, vk_recv hG.2.2.2.1 hk1 hw.2, hp_Pc.at hG hw trivial⟩ rfl rfl hl.1 rfl (lv_room (Nat.le_of_ble_eq_true rfl)) dX7_takeSignOf_24 ⟨Nat.zero_le _, Nat.zero_le _⟩) (fun x24 bx24 => ?_)
        refine lv_icmp_ne (tgt := 50) hx hb dX7_takeSignOf_27 (by decide) (fun c27 => ?_) (fun c27 => ?_)
        · obtain ⟨x50, ex50⟩ : ∃ y : Int32, y = y6_l2 + 1 := ⟨_, rfl⟩
          have bx50 : iv x50 1 60 := iv_add r11fp (show iv 1 1 1 from ⟨by decide, by decide⟩) ex50 (by decide)
          have qx50 := iv_add_eq r11fp (show iv 1 1 1 from ⟨by decide, by decide⟩) ex50 (by decide)
          refine lv_iinc (v := x50) (lv' := [(2, .int x50), (0, .ref ap0), (1, .ref (D.2.2.1 k1))]) hx hb dX7_takeSignOf_50 hl (k := 2) rfl (by rw [ex50]; rfl) (by decide) rfl (fun ls hl => ?_)
          refine lv_goto (tgt := 6) hx hb dX7_takeSignOf_53 (by decide) ?_
          exact ih6 x50 y6_fp0_2 (mu_up 1 hmu6 (qx50) (by decide) (show iv x50 0 60 from (bx50.mono (by decide) (by decide))).2) (bx50.mono (by decide) (by decide)) c6_y6_fp0_2 H6 locs6 hw f_p0_2 _ (lv_sub hl [1, 2, 0] rfl)
        · have r27fp : iv x19 0 255 := (iv_both bx19 (iv_eq bx24 c27)).mono (by decide) (by decide)
          have r27fpz : iv y6_fp0_2 0 399 := (iv_both c6_y6_fp0_2 (ix19_0 (iv_ge0 r27fp (by decide)))).mono (by decide) (by decide)
          have r27fq : iv x24 0 255 := (iv_both bx24 (iv_eq r27fp c27.symm)).mono (by decide) (by decide)
          refine lv_aload_n hx hb dX7_takeSignOf_30 rfl (lv_at hl 0 rfl) ?_
          refine lv_aload_n hx hb dX7_takeSignOf_31 rfl (lv_at hl 0 rfl) ?_
          refine hp_getf hx hb hts IX7 hown hK f_p0_2 rfl (by decide) L19 dX7_takeSignOf_32 ?_
          refine hp_put hx hb hts IX7 tyX7 tyX7_ok nmX7 hown hK hw hp0 rfl 4 (by decide) L25 rfl rfl ⟨_, rfl, (r27fpz.mono (by decide) (by decide))⟩ rfl rfl dX7_takeSignOf_35 (fun H35 locs35 hw f35n g35 => ?_)
          have f_p0_2 := g35 _ _ _ _ f_p0_2 (Or.inr ⟨rfl, by decide⟩)
          refine lv_aload_n hx hb dX7_takeSignOf_38 rfl (lv_at hl 0 rfl) ?_
          refine lv_dup hx hb dX7_takeSignOf_39 rfl ?_
          refine hp_getf hx hb hts IX7 hown hK f_p0_2 rfl (by decide) L19 dX7_takeSignOf_40 ?_
          refine lv_iconst (v := 1) hx hb dX7_takeSignOf_43 (by decide) ?_
          refine lv_iadd hx hb dX7_takeSignOf_44 ?_
          refine lv_topi (fun x44 ex44 => ?_)
          have bx44 : iv x44 1 400 := iv_add r27fpz (show iv 1 1 1 from ⟨by decide, by decide⟩) ex44 (by decide)
          have qx44 := iv_add_eq r27fpz (show iv 1 1 1 from ⟨by decide, by decide⟩) ex44 (by decide)
          refine hp_put hx hb hts IX7 tyX7 tyX7_ok nmX7 hown hK hw hp0 rfl 2 (by decide) L19 rfl rfl ⟨_, rfl, (bx44.mono (by decide) (by decide))⟩ rfl rfl dX7_takeSignOf_45 (fun H45 locs45 hw f45n g45 => ?_)
          refine lv_iload_n hx hb dX7_takeSignOf_48 rfl (lv_at hl 2 rfl) ?_
          exact W.iret (v := y6_l2) hx hb hr (fun t ht hW => ⟨some (.int y6_l2), rfl, ⟨y6_l2, rfl, trivial⟩, by rw [ht]; exact hw.1, hw.2.F ht⟩) hw.2.2.2 dX7_takeSignOf_49
  exact J6 _ (0 : Int32) x1op0_2 (Nat.lt_succ_self _) (show iv 0 0 60 from ⟨by decide, by decide⟩) bx1op0_2 H1 locs1 hw fx1op0_2 _ (lv_sub hl [1, 2, 0] rfl)
abbrev WX7_needSign (p : Program) (l : Launch) (e : Env) (s : State) (m : MethodId) (below : List Frame) (meth : Method) (c : Code) (D : hp_D) (T : hp_T) (ap0 : Nat) (k1 : Nat) (H : Heap) (locs : List Loc) (g : JFrame) : Prop := W p l e (headSpec wsX7_needSign ({ frames := 5, cells := 0, slots := 0, locals := 123 })).room s m ([.ref ap0, .ref (D.2.2.1 k1)] : List Value).toArray below meth c H locs 0 0 (MQ below (hq_e D T (fun v _ _ => ∃ r : Int32, v = some (.int r) ∧ iv r 0 1)) ([.ref ap0, .ref (D.2.2.1 k1)] : List Value).toArray s 0 0 (hp_F T)) g
set_option maxHeartbeats 4000000 in
set_option maxRecDepth 100000 in
theorem sX7_needSign (l : Launch) (D : hp_D) (T : hp_T) (ap0 : Nat) (k1 : Nat) (ip0 : isTape T ap0) (hk1 : k1 < 11) : Met l yX7_needSign wsX7_needSign ({ frames := 5, cells := 0, slots := 0, locals := 123 }) (hp_Pc D T [.ref ap0, .ref (D.2.2.1 k1)] (fun _ => True)) (hq_e D T (fun v _ _ => ∃ r : Int32, v = some (.int r) ∧ iv r 0 1)) 0 0 (hp_F T) := by
  obtain ⟨ap0bt, hp0, hp0bt⟩ := id ip0
  refine Met.ofW (cc := cX7_needSign) (maxL := 2) (ret := (some .boolean)) (by decide) rfl ?_
  intro p e s m args below meth c s₁ B hml hv
  obtain ⟨rfl, hok, hG, hB⟩ := hv
  have hx := B.exec
  have hb := B.bytes
  have hr := B.returns
  have hts := atoms_spec (ws := wsX7_needSign) B.pre
  have hown : s.vm.findClass RX7 = some m.cls := findClass_of_methodNamed B.named
  have hlocks := B.notSynchronized
  have hK := hG.1
  have hw : hp_w D T s s.heap [] := hp_w.rf hok
  have IX7 : ∀ w ∈ wsX70, w ∈ wsX7_needSign := by decide +kernel
  have L19 := hts (.fieldLink RX7 19 "PalmCensus$Tape" "place" "I") (by decide +kernel)
  obtain ⟨Lp1, eLp1⟩ : ∃ y : Int32, y = Int32.ofNat (js_len.getD k1 0) := ⟨_, rfl⟩
  have bLp1 : iv Lp1 0 60 := iv_eq (iv_nI (n := js_len.getD k1 0) (by have := js_ok k1 hk1; omega) (by omega) (by have := js_ok k1 hk1; omega)) eLp1
  have hl := lv_entry ([.ref ap0, .ref (D.2.2.1 k1)]) (n := 2) (Nat.le_of_ble_eq_true rfl)
  rw [lg_entry_eq]
  generalize (lg_sl ([.ref ap0, .ref (D.2.2.1 k1)]) ++ List.replicate (2 - (lg_sl ([.ref ap0, .ref (D.2.2.1 k1)])).length) Slot.unset).toArray = ls at hl ⊢
  have hl : lv_has ls 2 [(0, .ref ap0), (1, .ref (D.2.2.1 k1))] := hl
  show WX7_needSign p l e s m below meth c D T ap0 k1 s.heap [] (F0 m 0 ls [])
  refine lv_aload_n hx hb dX7_needSign_0 rfl (lv_at hl 0 rfl) ?_
  refine lv_aload_n hx hb dX7_needSign_1 rfl (lv_at hl 1 rfl) ?_
  refine hp_callei (va_runV (As := [.ref (D.2.2.1 k1)]) (rest := []) ⟨hx, hb, hml, hown, hts⟩ (sX7_takeSignOf l D T ap0 k1 ip0 hk1) (cwV 1 hts gX7_needSign_X7_takeSignOf rfl rfl rfl (by decide +kernel) ⟨Nat.le_of_ble_eq_true rfl, Nat.le_of_ble_eq_true rfl⟩) (hp_preV hG hw hp0 rfl trivial) rfl rfl hl.1 rfl (lv_room (Nat.le_of_ble_eq_true rfl)) dX7_needSign_2 ⟨Nat.zero_le _, Nat.zero_le _⟩) hw (fun x2 st2 t2 H2 locs2 eh2 eg2 bx2 hw => ?_)
  refine lv_iconst (v := (-1)) hx hb dX7_needSign_5 (by decide) ?_
  have J26 : ∀ (y26_s0 : Int32), iv y26_s0 0 1 → ∀ (H : Heap) (locs : List Loc), hp_w D T s H locs → ∀ (ls : Array Slot), lv_has ls 2 [] → WX7_needSign p l e s m below meth c D T ap0 k1 H locs (F0 m 26 ls [.int y26_s0]) := by
    intro y26_s0 c26_y26_s0 H26 locs26 hw ls hl
    exact W.zret (v := y26_s0) hx hb hr (iv_nz c26_y26_s0) (fun t ht hW => ⟨some (.int y26_s0), rfl, ⟨y26_s0, rfl, c26_y26_s0⟩, by rw [ht]; exact hw.1, hw.2.F ht⟩) hw.2.2.2 dX7_needSign_26
  have J21 : ∀ (H : Heap) (locs : List Loc), hp_w D T s H locs → ∀ (ls : Array Slot), lv_has ls 2 [] → WX7_needSign p l e s m below meth c D T ap0 k1 H locs (F0 m 21 ls []) := by
    intro H21 locs21 hw ls hl
    refine lv_iconst (v := 1) hx hb dX7_needSign_21 (by decide) ?_
    refine lv_goto (tgt := 26) hx hb dX7_needSign_22 (by decide) ?_
    exact J26 (1 : Int32) (show iv 1 0 1 from ⟨by decide, by decide⟩) H21 locs21 hw _ (lv_sub hl [] rfl)
  refine lv_icmp_ne (tgt := 21) hx hb dX7_needSign_6 (by decide) (fun c6 => ?_) (fun c6 => ?_)
  · exact J21 H2 locs2 hw _ (lv_sub hl [] rfl)
  · have r6fp : iv x2 (-1) (-1) := (iv_both (iv_any x2) (iv_eq (show iv (-1) (-1) (-1) from ⟨by decide, by decide⟩) c6)).mono (by decide) (by decide)
    refine lv_aload_n hx hb dX7_needSign_9 rfl (lv_at hl 0 rfl) ?_
    refine lv_aload_n hx hb dX7_needSign_10 rfl (lv_at hl 0 rfl) ?_
    refine hp_geti hx hb hts IX7 hown hK hw.1 hp0 rfl 2 (by decide) L19 rfl dX7_needSign_11 (fun x11 bx11 fx11 => ?_)
    refine lv_iconst (v := 0) hx hb dX7_needSign_14 (by decide) ?_
    refine hp_callei (va_runV (As := [.int x11, .int 0]) (rest := []) ⟨hx, hb, hml, hown, hts⟩ (sX7_blame l D T ap0 x11 (0 : Int32) ip0) (cwV 2 hts gX7_needSign_X7_blame rfl rfl rfl (by decide +kernel) ⟨Nat.le_of_ble_eq_true rfl, Nat.le_of_ble_eq_true rfl⟩) (hp_preV hG hw hp0 rfl trivial) rfl rfl hl.1 rfl (lv_room (Nat.le_of_ble_eq_true rfl)) dX7_needSign_15 ⟨Nat.zero_le _, Nat.zero_le _⟩) hw (fun x15 st15 t15 H15 locs15 eh15 eg15 bx15 hw => ?_)
    refine lv_if_eq (tgt := 25) hx hb dX7_needSign_18 (by decide) (fun c18 => ?_) (fun c18 => ?_)
    · refine lv_iconst (v := 0) hx hb dX7_needSign_25 (by decide) ?_
      exact J26 (0 : Int32) (show iv 0 0 1 from ⟨by decide, by decide⟩) H15 locs15 hw _ (lv_sub hl [] rfl)
    · exact iv_abs (iv_ne_lo c18 bx15 rfl) (by decide)
