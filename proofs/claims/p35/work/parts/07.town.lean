abbrev WX8_isGate (p : Program) (l : Launch) (e : Env) (s : State) (m : MethodId) (below : List Frame) (meth : Method) (c : Code) (D : hp_D) (T : hp_T) (ap0 : Nat) (xp1 : Int32) (H : Heap) (locs : List Loc) (g : JFrame) : Prop := W p l e (headSpec wsX8_isGate ({ frames := 0, cells := 0, slots := 0, locals := 0 })).room s m ([.ref ap0, .int xp1] : List Value).toArray below meth c H locs 0 0 (MQ below (hq_p (fun v => ∃ r : Int32, v = some (.int r) ∧ (iv r 0 1 ∧ (¬ r = 0 → iv xp1 0 5)))) ([.ref ap0, .int xp1] : List Value).toArray s 0 0 (fun _ => False)) g
set_option maxHeartbeats 4000000 in
set_option maxRecDepth 100000 in
theorem sX8_isGate (l : Launch) (D : hp_D) (T : hp_T) (ap0 : Nat) (xp1 : Int32) (ip0 : isTown T ap0) : Met l yX8_isGate wsX8_isGate ({ frames := 0, cells := 0, slots := 0, locals := 0 }) (hp_Pc D T [.ref ap0, .int xp1] (fun _ => True)) (hq_p (fun v => ∃ r : Int32, v = some (.int r) ∧ (iv r 0 1 ∧ (¬ r = 0 → iv xp1 0 5)))) 0 0 (fun _ => False) := by
  obtain ⟨ap0kin, ap0pl, ap0cr, hp0, hp0kin, hp0pl, hp0cr⟩ := id ip0
  refine Met.ofW (cc := cX8_isGate) (maxL := 2) (ret := (some .boolean)) (by decide) rfl ?_
  intro p e s m args below meth c s₁ B hml hv
  obtain ⟨rfl, hok, hG, hB⟩ := hv
  have hx := B.exec
  have hb := B.bytes
  have hr := B.returns
  have hts := atoms_spec (ws := wsX8_isGate) B.pre
  have hown : s.vm.findClass RX8 = some m.cls := findClass_of_methodNamed B.named
  have hlocks := B.notSynchronized
  have hK := hG.1
  have hw : hp_w D T s s.heap [] := hp_w.rf hok
  have IX8 : ∀ w ∈ wsX80, w ∈ wsX8_isGate := by decide +kernel
  have L9 := hts (.fieldLink RX8 9 "PalmCensus$Town" "gates" "I") (by decide +kernel)
  have hl := lv_entry ([.ref ap0, .int xp1]) (n := 2) (Nat.le_of_ble_eq_true rfl)
  rw [lg_entry_eq]
  generalize (lg_sl ([.ref ap0, .int xp1]) ++ List.replicate (2 - (lg_sl ([.ref ap0, .int xp1])).length) Slot.unset).toArray = ls at hl ⊢
  have hl : lv_has ls 2 [(0, .ref ap0), (1, .int xp1)] := hl
  show WX8_isGate p l e s m below meth c D T ap0 xp1 s.heap [] (F0 m 0 ls [])
  refine lv_iload_n hx hb dX8_isGate_0 rfl (lv_at hl 1 rfl) ?_
  have J22 : ∀ (ls : Array Slot), lv_has ls 2 [] → WX8_isGate p l e s m below meth c D T ap0 xp1 s.heap [] (F0 m 22 ls []) := by
    intro ls hl
    refine lv_iconst (v := 0) hx hb dX8_isGate_22 (by decide) ?_
    exact W.zret (v := 0) hx hb hr (iv_nz (show iv 0 0 1 from ⟨by decide, by decide⟩)) (fun t ht hW => ⟨some (.int 0), rfl, ⟨(0 : Int32), rfl, ⟨(show iv 0 0 1 from ⟨by decide, by decide⟩), (fun h => absurd rfl h)⟩⟩, ht⟩) (fun q h => by cases h) dX8_isGate_23
  refine lv_if_lt (tgt := 22) hx hb dX8_isGate_1 (by decide) (fun c1 => ?_) (fun c1 => ?_)
  · have r1tp : iv xp1 (-2147483648) (-1) := (iv_lt_l c1 (iv_any xp1) (show iv 0 0 0 from ⟨by decide, by decide⟩)).mono (by decide) (by decide)
    exact J22 _ (lv_sub hl [] rfl)
  · have r1fq : iv xp1 0 2147483647 := (iv_le_r (iv_nlt c1) (show iv 0 0 0 from ⟨by decide, by decide⟩) (iv_any xp1)).mono (by decide) (by decide)
    refine lv_iload_n hx hb dX8_isGate_4 rfl (lv_at hl 1 rfl) ?_
    refine lv_aload_n hx hb dX8_isGate_5 rfl (lv_at hl 0 rfl) ?_
    refine hp_geti hx hb hts IX8 hown hK hw.1 hp0 rfl 0 (by decide) L9 rfl dX8_isGate_6 (fun x6 bx6 fx6 => ?_)
    refine lv_icmp_ge (tgt := 22) hx hb dX8_isGate_9 (by decide) (fun c9 => ?_) (fun c9 => ?_)
    · exact J22 _ (lv_sub hl [] rfl)
    · have r9fp : iv xp1 0 5 := (iv_lt_l (iv_nle c9) r1fq bx6).mono (by decide) (by decide)
      have r9fq : iv x6 1 6 := (iv_lt_r (iv_nle c9) r1fq bx6).mono (by decide) (by decide)
      refine lv_iload_n hx hb dX8_isGate_12 rfl (lv_at hl 1 rfl) ?_
      refine lv_bipush (v := 6) hx hb dX8_isGate_13 (by decide) ?_
      refine lv_icmp_ge (tgt := 22) hx hb dX8_isGate_15 (by decide) (fun c15 => ?_) (fun c15 => ?_)
      · exact iv_abs (iv_le_l c15 (show iv 6 6 6 from ⟨by decide, by decide⟩) r9fp) (by decide)
      · refine lv_iconst (v := 1) hx hb dX8_isGate_18 (by decide) ?_
        refine lv_goto (tgt := 23) hx hb dX8_isGate_19 (by decide) ?_
        exact W.zret (v := 1) hx hb hr (iv_nz (show iv 1 0 1 from ⟨by decide, by decide⟩)) (fun t ht hW => ⟨some (.int 1), rfl, ⟨(1 : Int32), rfl, ⟨(show iv 1 0 1 from ⟨by decide, by decide⟩), (fun _ => r9fp)⟩⟩, ht⟩) (fun q h => by cases h) dX8_isGate_23
abbrev WX8_isHour (p : Program) (l : Launch) (e : Env) (s : State) (m : MethodId) (below : List Frame) (meth : Method) (c : Code) (D : hp_D) (T : hp_T) (ap0 : Nat) (xp1 : Int32) (H : Heap) (locs : List Loc) (g : JFrame) : Prop := W p l e (headSpec wsX8_isHour ({ frames := 0, cells := 0, slots := 0, locals := 0 })).room s m ([.ref ap0, .int xp1] : List Value).toArray below meth c H locs 0 0 (MQ below (hq_p (fun v => ∃ r : Int32, v = some (.int r) ∧ (iv r 0 1 ∧ (¬ r = 0 → iv xp1 0 11)))) ([.ref ap0, .int xp1] : List Value).toArray s 0 0 (fun _ => False)) g
set_option maxHeartbeats 4000000 in
set_option maxRecDepth 100000 in
theorem sX8_isHour (l : Launch) (D : hp_D) (T : hp_T) (ap0 : Nat) (xp1 : Int32) (ip0 : isTown T ap0) : Met l yX8_isHour wsX8_isHour ({ frames := 0, cells := 0, slots := 0, locals := 0 }) (hp_Pc D T [.ref ap0, .int xp1] (fun _ => True)) (hq_p (fun v => ∃ r : Int32, v = some (.int r) ∧ (iv r 0 1 ∧ (¬ r = 0 → iv xp1 0 11)))) 0 0 (fun _ => False) := by
  obtain ⟨ap0kin, ap0pl, ap0cr, hp0, hp0kin, hp0pl, hp0cr⟩ := id ip0
  refine Met.ofW (cc := cX8_isHour) (maxL := 2) (ret := (some .boolean)) (by decide) rfl ?_
  intro p e s m args below meth c s₁ B hml hv
  obtain ⟨rfl, hok, hG, hB⟩ := hv
  have hx := B.exec
  have hb := B.bytes
  have hr := B.returns
  have hts := atoms_spec (ws := wsX8_isHour) B.pre
  have hown : s.vm.findClass RX8 = some m.cls := findClass_of_methodNamed B.named
  have hlocks := B.notSynchronized
  have hK := hG.1
  have hw : hp_w D T s s.heap [] := hp_w.rf hok
  have IX8 : ∀ w ∈ wsX80, w ∈ wsX8_isHour := by decide +kernel
  have L15 := hts (.fieldLink RX8 15 "PalmCensus$Town" "hours" "I") (by decide +kernel)
  have hl := lv_entry ([.ref ap0, .int xp1]) (n := 2) (Nat.le_of_ble_eq_true rfl)
  rw [lg_entry_eq]
  generalize (lg_sl ([.ref ap0, .int xp1]) ++ List.replicate (2 - (lg_sl ([.ref ap0, .int xp1])).length) Slot.unset).toArray = ls at hl ⊢
  have hl : lv_has ls 2 [(0, .ref ap0), (1, .int xp1)] := hl
  show WX8_isHour p l e s m below meth c D T ap0 xp1 s.heap [] (F0 m 0 ls [])
  refine lv_iload_n hx hb dX8_isHour_0 rfl (lv_at hl 1 rfl) ?_
  have J22 : ∀ (ls : Array Slot), lv_has ls 2 [] → WX8_isHour p l e s m below meth c D T ap0 xp1 s.heap [] (F0 m 22 ls []) := by
    intro ls hl
    refine lv_iconst (v := 0) hx hb dX8_isHour_22 (by decide) ?_
    exact W.zret (v := 0) hx hb hr (iv_nz (show iv 0 0 1 from ⟨by decide, by decide⟩)) (fun t ht hW => ⟨some (.int 0), rfl, ⟨(0 : Int32), rfl, ⟨(show iv 0 0 1 from ⟨by decide, by decide⟩), (fun h => absurd rfl h)⟩⟩, ht⟩) (fun q h => by cases h) dX8_isHour_23
  refine lv_if_lt (tgt := 22) hx hb dX8_isHour_1 (by decide) (fun c1 => ?_) (fun c1 => ?_)
  · have r1tp : iv xp1 (-2147483648) (-1) := (iv_lt_l c1 (iv_any xp1) (show iv 0 0 0 from ⟨by decide, by decide⟩)).mono (by decide) (by decide)
    exact J22 _ (lv_sub hl [] rfl)
  · have r1fq : iv xp1 0 2147483647 := (iv_le_r (iv_nlt c1) (show iv 0 0 0 from ⟨by decide, by decide⟩) (iv_any xp1)).mono (by decide) (by decide)
    refine lv_iload_n hx hb dX8_isHour_4 rfl (lv_at hl 1 rfl) ?_
    refine lv_aload_n hx hb dX8_isHour_5 rfl (lv_at hl 0 rfl) ?_
    refine hp_geti hx hb hts IX8 hown hK hw.1 hp0 rfl 1 (by decide) L15 rfl dX8_isHour_6 (fun x6 bx6 fx6 => ?_)
    refine lv_icmp_ge (tgt := 22) hx hb dX8_isHour_9 (by decide) (fun c9 => ?_) (fun c9 => ?_)
    · exact J22 _ (lv_sub hl [] rfl)
    · have r9fp : iv xp1 0 11 := (iv_lt_l (iv_nle c9) r1fq bx6).mono (by decide) (by decide)
      have r9fq : iv x6 1 12 := (iv_lt_r (iv_nle c9) r1fq bx6).mono (by decide) (by decide)
      refine lv_iload_n hx hb dX8_isHour_12 rfl (lv_at hl 1 rfl) ?_
      refine lv_bipush (v := 12) hx hb dX8_isHour_13 (by decide) ?_
      refine lv_icmp_ge (tgt := 22) hx hb dX8_isHour_15 (by decide) (fun c15 => ?_) (fun c15 => ?_)
      · exact iv_abs (iv_le_l c15 (show iv 12 12 12 from ⟨by decide, by decide⟩) r9fp) (by decide)
      · refine lv_iconst (v := 1) hx hb dX8_isHour_18 (by decide) ?_
        refine lv_goto (tgt := 23) hx hb dX8_isHour_19 (by decide) ?_
        exact W.zret (v := 1) hx hb hr (iv_nz (show iv 1 0 1 from ⟨by decide, by decide⟩)) (fun t ht hW => ⟨some (.int 1), rfl, ⟨(1 : Int32), rfl, ⟨(show iv 1 0 1 from ⟨by decide, by decide⟩), (fun _ => r9fp)⟩⟩, ht⟩) (fun q h => by cases h) dX8_isHour_23
abbrev WX8_isPerson (p : Program) (l : Launch) (e : Env) (s : State) (m : MethodId) (below : List Frame) (meth : Method) (c : Code) (D : hp_D) (T : hp_T) (ap0 : Nat) (xp1 : Int32) (H : Heap) (locs : List Loc) (g : JFrame) : Prop := W p l e (headSpec wsX8_isPerson ({ frames := 0, cells := 0, slots := 0, locals := 0 })).room s m ([.ref ap0, .int xp1] : List Value).toArray below meth c H locs 0 0 (MQ below (hq_p (fun v => ∃ r : Int32, v = some (.int r) ∧ (iv r 0 1 ∧ (¬ r = 0 → iv xp1 0 9)))) ([.ref ap0, .int xp1] : List Value).toArray s 0 0 (fun _ => False)) g
set_option maxHeartbeats 4000000 in
set_option maxRecDepth 100000 in
theorem sX8_isPerson (l : Launch) (D : hp_D) (T : hp_T) (ap0 : Nat) (xp1 : Int32) (ip0 : isTown T ap0) : Met l yX8_isPerson wsX8_isPerson ({ frames := 0, cells := 0, slots := 0, locals := 0 }) (hp_Pc D T [.ref ap0, .int xp1] (fun _ => True)) (hq_p (fun v => ∃ r : Int32, v = some (.int r) ∧ (iv r 0 1 ∧ (¬ r = 0 → iv xp1 0 9)))) 0 0 (fun _ => False) := by
  obtain ⟨ap0kin, ap0pl, ap0cr, hp0, hp0kin, hp0pl, hp0cr⟩ := id ip0
  refine Met.ofW (cc := cX8_isPerson) (maxL := 2) (ret := (some .boolean)) (by decide) rfl ?_
  intro p e s m args below meth c s₁ B hml hv
  obtain ⟨rfl, hok, hG, hB⟩ := hv
  have hx := B.exec
  have hb := B.bytes
  have hr := B.returns
  have hts := atoms_spec (ws := wsX8_isPerson) B.pre
  have hown : s.vm.findClass RX8 = some m.cls := findClass_of_methodNamed B.named
  have hlocks := B.notSynchronized
  have hK := hG.1
  have hw : hp_w D T s s.heap [] := hp_w.rf hok
  have IX8 : ∀ w ∈ wsX80, w ∈ wsX8_isPerson := by decide +kernel
  have L18 := hts (.fieldLink RX8 18 "PalmCensus$Town" "people" "I") (by decide +kernel)
  have hl := lv_entry ([.ref ap0, .int xp1]) (n := 2) (Nat.le_of_ble_eq_true rfl)
  rw [lg_entry_eq]
  generalize (lg_sl ([.ref ap0, .int xp1]) ++ List.replicate (2 - (lg_sl ([.ref ap0, .int xp1])).length) Slot.unset).toArray = ls at hl ⊢
  have hl : lv_has ls 2 [(0, .ref ap0), (1, .int xp1)] := hl
  show WX8_isPerson p l e s m below meth c D T ap0 xp1 s.heap [] (F0 m 0 ls [])
  refine lv_iload_n hx hb dX8_isPerson_0 rfl (lv_at hl 1 rfl) ?_
  have J22 : ∀ (ls : Array Slot), lv_has ls 2 [] → WX8_isPerson p l e s m below meth c D T ap0 xp1 s.heap [] (F0 m 22 ls []) := by
    intro ls hl
    refine lv_iconst (v := 0) hx hb dX8_isPerson_22 (by decide) ?_
    exact W.zret (v := 0) hx hb hr (iv_nz (show iv 0 0 1 from ⟨by decide, by decide⟩)) (fun t ht hW => ⟨some (.int 0), rfl, ⟨(0 : Int32), rfl, ⟨(show iv 0 0 1 from ⟨by decide, by decide⟩), (fun h => absurd rfl h)⟩⟩, ht⟩) (fun q h => by cases h) dX8_isPerson_23
  refine lv_if_lt (tgt := 22) hx hb dX8_isPerson_1 (by decide) (fun c1 => ?_) (fun c1 => ?_)
  · have r1tp : iv xp1 (-2147483648) (-1) := (iv_lt_l c1 (iv_any xp1) (show iv 0 0 0 from ⟨by decide, by decide⟩)).mono (by decide) (by decide)
    exact J22 _ (lv_sub hl [] rfl)
  · have r1fq : iv xp1 0 2147483647 := (iv_le_r (iv_nlt c1) (show iv 0 0 0 from ⟨by decide, by decide⟩) (iv_any xp1)).mono (by decide) (by decide)
    refine lv_iload_n hx hb dX8_isPerson_4 rfl (lv_at hl 1 rfl) ?_
    refine lv_aload_n hx hb dX8_isPerson_5 rfl (lv_at hl 0 rfl) ?_
    refine hp_geti hx hb hts IX8 hown hK hw.1 hp0 rfl 2 (by decide) L18 rfl dX8_isPerson_6 (fun x6 bx6 fx6 => ?_)
    refine lv_icmp_ge (tgt := 22) hx hb dX8_isPerson_9 (by decide) (fun c9 => ?_) (fun c9 => ?_)
    · exact J22 _ (lv_sub hl [] rfl)
    · have r9fp : iv xp1 0 9 := (iv_lt_l (iv_nle c9) r1fq bx6).mono (by decide) (by decide)
      have r9fq : iv x6 1 10 := (iv_lt_r (iv_nle c9) r1fq bx6).mono (by decide) (by decide)
      refine lv_iload_n hx hb dX8_isPerson_12 rfl (lv_at hl 1 rfl) ?_
      refine lv_bipush (v := 10) hx hb dX8_isPerson_13 (by decide) ?_
      refine lv_icmp_ge (tgt := 22) hx hb dX8_isPerson_15 (by decide) (fun c15 => ?_) (fun c15 => ?_)
      · exact iv_abs (iv_le_l c15 (show iv 10 10 10 from ⟨by decide, by decide⟩) r9fp) (by decide)
      · refine lv_iconst (v := 1) hx hb dX8_isPerson_18 (by decide) ?_
        refine lv_goto (tgt := 23) hx hb dX8_isPerson_19 (by decide) ?_
        exact W.zret (v := 1) hx hb hr (iv_nz (show iv 1 0 1 from ⟨by decide, by decide⟩)) (fun t ht hW => ⟨some (.int 1), rfl, ⟨(1 : Int32), rfl, ⟨(show iv 1 0 1 from ⟨by decide, by decide⟩), (fun _ => r9fp)⟩⟩, ht⟩) (fun q h => by cases h) dX8_isPerson_23
abbrev WX8_isPlace (p : Program) (l : Launch) (e : Env) (s : State) (m : MethodId) (below : List Frame) (meth : Method) (c : Code) (D : hp_D) (T : hp_T) (ap0 : Nat) (xp1 : Int32) (H : Heap) (locs : List Loc) (g : JFrame) : Prop := W p l e (headSpec wsX8_isPlace ({ frames := 1, cells := 0, slots := 0, locals := 21 })).room s m ([.ref ap0, .int xp1] : List Value).toArray below meth c H locs 0 0 (MQ below (hq_p (fun v => ∃ r : Int32, v = some (.int r) ∧ iv r 0 1)) ([.ref ap0, .int xp1] : List Value).toArray s 0 0 (fun _ => False)) g
set_option maxHeartbeats 4000000 in
set_option maxRecDepth 100000 in
theorem sX8_isPlace (l : Launch) (D : hp_D) (T : hp_T) (ap0 : Nat) (xp1 : Int32) (ip0 : isTown T ap0) : Met l yX8_isPlace wsX8_isPlace ({ frames := 1, cells := 0, slots := 0, locals := 21 }) (hp_Pc D T [.ref ap0, .int xp1] (fun _ => True)) (hq_p (fun v => ∃ r : Int32, v = some (.int r) ∧ iv r 0 1)) 0 0 (fun _ => False) := by
  obtain ⟨ap0kin, ap0pl, ap0cr, hp0, hp0kin, hp0pl, hp0cr⟩ := id ip0
  refine Met.ofW (cc := cX8_isPlace) (maxL := 2) (ret := (some .boolean)) (by decide) rfl ?_
  intro p e s m args below meth c s₁ B hml hv
  obtain ⟨rfl, hok, hG, hB⟩ := hv
  have hx := B.exec
  have hb := B.bytes
  have hr := B.returns
  have hts := atoms_spec (ws := wsX8_isPlace) B.pre
  have hown : s.vm.findClass RX8 = some m.cls := findClass_of_methodNamed B.named
  have hlocks := B.notSynchronized
  have hK := hG.1
  have hw : hp_w D T s s.heap [] := hp_w.rf hok
  have hl := lv_entry ([.ref ap0, .int xp1]) (n := 2) (Nat.le_of_ble_eq_true rfl)
  rw [lg_entry_eq]
  generalize (lg_sl ([.ref ap0, .int xp1]) ++ List.replicate (2 - (lg_sl ([.ref ap0, .int xp1])).length) Slot.unset).toArray = ls at hl ⊢
  have hl : lv_has ls 2 [(0, .ref ap0), (1, .int xp1)] := hl
  show WX8_isPlace p l e s m below meth c D T ap0 xp1 s.heap [] (F0 m 0 ls [])
  refine lv_iload_n hx hb dX8_isPlace_0 rfl (lv_at hl 1 rfl) ?_
  refine lv_bipush (v := 99) hx hb dX8_isPlace_1 (by decide) ?_
  have J19 : ∀ (y19_s0 : Int32), iv y19_s0 0 1 → ∀ (ls : Array Slot), lv_has ls 2 [] → WX8_isPlace p l e s m below meth c D T ap0 xp1 s.heap [] (F0 m 19 ls [.int y19_s0]) := by
    intro y19_s0 c19_y19_s0 ls hl
    exact W.zret (v := y19_s0) hx hb hr (iv_nz c19_y19_s0) (fun t ht hW => ⟨some (.int y19_s0), rfl, ⟨y19_s0, rfl, c19_y19_s0⟩, ht⟩) (fun q h => by cases h) dX8_isPlace_19
  have J14 : ∀ (ls : Array Slot), lv_has ls 2 [] → WX8_isPlace p l e s m below meth c D T ap0 xp1 s.heap [] (F0 m 14 ls []) := by
    intro ls hl
    refine lv_iconst (v := 1) hx hb dX8_isPlace_14 (by decide) ?_
    refine lv_goto (tgt := 19) hx hb dX8_isPlace_15 (by decide) ?_
    exact J19 (1 : Int32) (show iv 1 0 1 from ⟨by decide, by decide⟩) _ (lv_sub hl [] rfl)
  refine lv_icmp_eq (tgt := 14) hx hb dX8_isPlace_3 (by decide) (fun c3 => ?_) (fun c3 => ?_)
  · have r3tp : iv xp1 99 99 := (iv_both (iv_any xp1) (iv_eq (show iv 99 99 99 from ⟨by decide, by decide⟩) c3)).mono (by decide) (by decide)
    exact J14 _ (lv_sub hl [] rfl)
  · refine lv_aload_n hx hb dX8_isPlace_6 rfl (lv_at hl 0 rfl) ?_
    refine lv_iload_n hx hb dX8_isPlace_7 rfl (lv_at hl 1 rfl) ?_
    refine hp_callpi (va_runV (As := [.int xp1]) (rest := []) ⟨hx, hb, hml, hown, hts⟩ (sX8_isGate l D T ap0 xp1 ip0) (cwV 1 hts gX8_isPlace_X8_isGate rfl rfl rfl (by decide +kernel) ⟨Nat.le_of_ble_eq_true rfl, Nat.le_of_ble_eq_true rfl⟩) (hp_preV hG hw hp0 rfl trivial) rfl rfl hl.1 rfl (lv_room (Nat.le_of_ble_eq_true rfl)) dX8_isPlace_8 ⟨Nat.zero_le _, Nat.zero_le _⟩) (fun x8 bx8 => ?_)
    obtain ⟨bx8, ix8_0⟩ := bx8
    refine lv_if_eq (tgt := 18) hx hb dX8_isPlace_11 (by decide) (fun c11 => ?_) (fun c11 => ?_)
    · have r11tp : iv x8 0 0 := (iv_both bx8 (iv_eq (show iv 0 0 0 from ⟨by decide, by decide⟩) c11)).mono (by decide) (by decide)
      refine lv_iconst (v := 0) hx hb dX8_isPlace_18 (by decide) ?_
      exact J19 (0 : Int32) (show iv 0 0 1 from ⟨by decide, by decide⟩) _ (lv_sub hl [] rfl)
    · have r11fp : iv x8 1 1 := (iv_ne_lo c11 bx8 rfl).mono (by decide) (by decide)
      have r11fpz : iv xp1 0 5 := (iv_both (iv_any xp1) (ix8_0 (iv_ne0 r11fp (by decide)))).mono (by decide) (by decide)
      exact J14 _ (lv_sub hl [] rfl)
abbrev WX8_placeOf (p : Program) (l : Launch) (e : Env) (s : State) (m : MethodId) (below : List Frame) (meth : Method) (c : Code) (D : hp_D) (T : hp_T) (ap0 : Nat) (xp1 : Int32) (xp2 : Int32) (H : Heap) (locs : List Loc) (g : JFrame) : Prop := W p l e (headSpec wsX8_placeOf ({ frames := 1, cells := 0, slots := 0, locals := 21 })).room s m ([.ref ap0, .int xp1, .int xp2] : List Value).toArray below meth c H locs 0 0 (MQ below (hq_p (fun v => ∃ r : Int32, v = some (.int r) ∧ True)) ([.ref ap0, .int xp1, .int xp2] : List Value).toArray s 0 0 (fun _ => False)) g
set_option maxHeartbeats 4000000 in
set_option maxRecDepth 100000 in
theorem sX8_placeOf (l : Launch) (D : hp_D) (T : hp_T) (ap0 : Nat) (xp1 : Int32) (xp2 : Int32) (ip0 : isTown T ap0) : Met l yX8_placeOf wsX8_placeOf ({ frames := 1, cells := 0, slots := 0, locals := 21 }) (hp_Pc D T [.ref ap0, .int xp1, .int xp2] (fun _ => True)) (hq_p (fun v => ∃ r : Int32, v = some (.int r) ∧ True)) 0 0 (fun _ => False) := by
  obtain ⟨ap0kin, ap0pl, ap0cr, hp0, hp0kin, hp0pl, hp0cr⟩ := id ip0
  refine Met.ofW (cc := cX8_placeOf) (maxL := 3) (ret := (some .int)) (by decide) rfl ?_
  intro p e s m args below meth c s₁ B hml hv
  obtain ⟨rfl, hok, hG, hB⟩ := hv
  have hx := B.exec
  have hb := B.bytes
  have hr := B.returns
  have hts := atoms_spec (ws := wsX8_placeOf) B.pre
  have hown : s.vm.findClass RX8 = some m.cls := findClass_of_methodNamed B.named
  have hlocks := B.notSynchronized
  have hK := hG.1
  have hw : hp_w D T s s.heap [] := hp_w.rf hok
  have IX8 : ∀ w ∈ wsX80, w ∈ wsX8_placeOf := by decide +kernel
  have L40 := hts (.fieldLink RX8 40 "PalmCensus$Town" "places" "[I") (by decide +kernel)
  have hl := lv_entry ([.ref ap0, .int xp1, .int xp2]) (n := 3) (Nat.le_of_ble_eq_true rfl)
  rw [lg_entry_eq]
  generalize (lg_sl ([.ref ap0, .int xp1, .int xp2]) ++ List.replicate (3 - (lg_sl ([.ref ap0, .int xp1, .int xp2])).length) Slot.unset).toArray = ls at hl ⊢
  have hl : lv_has ls 3 [(0, .ref ap0), (1, .int xp1), (2, .int xp2)] := hl
  show WX8_placeOf p l e s m below meth c D T ap0 xp1 xp2 s.heap [] (F0 m 0 ls [])
  refine lv_aload_n hx hb dX8_placeOf_0 rfl (lv_at hl 0 rfl) ?_
  refine lv_iload_n hx hb dX8_placeOf_1 rfl (lv_at hl 1 rfl) ?_
  refine hp_callpi (va_runV (As := [.int xp1]) (rest := []) ⟨hx, hb, hml, hown, hts⟩ (sX8_isPerson l D T ap0 xp1 ip0) (cwV 1 hts gX8_placeOf_X8_isPerson rfl rfl rfl (by decide +kernel) ⟨Nat.le_of_ble_eq_true rfl, Nat.le_of_ble_eq_true rfl⟩) (hp_preV hG hw hp0 rfl trivial) rfl rfl hl.1 rfl (lv_room (Nat.le_of_ble_eq_true rfl)) dX8_placeOf_2 ⟨Nat.zero_le _, Nat.zero_le _⟩) (fun x2 bx2 => ?_)
  obtain ⟨bx2, ix2_0⟩ := bx2
  have J32 : ∀ (y32_s0 : Int32), ∀ (ls : Array Slot), lv_has ls 3 [] → WX8_placeOf p l e s m below meth c D T ap0 xp1 xp2 s.heap [] (F0 m 32 ls [.int y32_s0]) := by
    intro y32_s0 ls hl
    exact W.iret (v := y32_s0) hx hb hr (fun t ht hW => ⟨some (.int y32_s0), rfl, ⟨y32_s0, rfl, trivial⟩, ht⟩) (fun q h => by cases h) dX8_placeOf_32
  have J30 : ∀ (ls : Array Slot), lv_has ls 3 [] → WX8_placeOf p l e s m below meth c D T ap0 xp1 xp2 s.heap [] (F0 m 30 ls []) := by
    intro ls hl
    refine lv_bipush (v := 99) hx hb dX8_placeOf_30 (by decide) ?_
    exact J32 (99 : Int32) _ (lv_sub hl [] rfl)
  refine lv_if_eq (tgt := 30) hx hb dX8_placeOf_5 (by decide) (fun c5 => ?_) (fun c5 => ?_)
  · have r5tp : iv x2 0 0 := (iv_both bx2 (iv_eq (show iv 0 0 0 from ⟨by decide, by decide⟩) c5)).mono (by decide) (by decide)
    exact J30 _ (lv_sub hl [] rfl)
  · have r5fp : iv x2 1 1 := (iv_ne_lo c5 bx2 rfl).mono (by decide) (by decide)
    have r5fpz : iv xp1 0 9 := (iv_both (iv_any xp1) (ix2_0 (iv_ne0 r5fp (by decide)))).mono (by decide) (by decide)
    refine lv_aload_n hx hb dX8_placeOf_8 rfl (lv_at hl 0 rfl) ?_
    refine lv_iload_n hx hb dX8_placeOf_9 rfl (lv_at hl 2 rfl) ?_
    refine hp_callpi (va_runV (As := [.int xp2]) (rest := []) ⟨hx, hb, hml, hown, hts⟩ (sX8_isHour l D T ap0 xp2 ip0) (cwV 1 hts gX8_placeOf_X8_isHour rfl rfl rfl (by decide +kernel) ⟨Nat.le_of_ble_eq_true rfl, Nat.le_of_ble_eq_true rfl⟩) (hp_preV hG hw hp0 rfl trivial) rfl rfl hl.1 rfl (lv_room (Nat.le_of_ble_eq_true rfl)) dX8_placeOf_10 ⟨Nat.zero_le _, Nat.zero_le _⟩) (fun x10 bx10 => ?_)
    obtain ⟨bx10, ix10_0⟩ := bx10
    refine lv_if_eq (tgt := 30) hx hb dX8_placeOf_13 (by decide) (fun c13 => ?_) (fun c13 => ?_)
    · have r13tp : iv x10 0 0 := (iv_both bx10 (iv_eq (show iv 0 0 0 from ⟨by decide, by decide⟩) c13)).mono (by decide) (by decide)
      exact J30 _ (lv_sub hl [] rfl)
    · have r13fp : iv x10 1 1 := (iv_ne_lo c13 bx10 rfl).mono (by decide) (by decide)
      have r13fpz : iv xp2 0 11 := (iv_both (iv_any xp2) (ix10_0 (iv_ne0 r13fp (by decide)))).mono (by decide) (by decide)
      refine lv_aload_n hx hb dX8_placeOf_16 rfl (lv_at hl 0 rfl) ?_
      refine hp_getr hx hb hts IX8 hown hK hw.1 hp0 rfl 9 (by decide) L40 rfl dX8_placeOf_17 ?_
      refine lv_iload_n hx hb dX8_placeOf_20 rfl (lv_at hl 1 rfl) ?_
      refine lv_bipush (v := 12) hx hb dX8_placeOf_21 (by decide) ?_
      refine lv_imul hx hb dX8_placeOf_23 ?_
      refine lv_topi (fun x23 ex23 => ?_)
      have bx23 : iv x23 0 108 := iv_mul r5fpz (show iv 12 12 12 from ⟨by decide, by decide⟩) ex23 (by decide)
      refine lv_iload_n hx hb dX8_placeOf_24 rfl (lv_at hl 2 rfl) ?_
      refine lv_iadd hx hb dX8_placeOf_25 ?_
      refine lv_topi (fun x25 ex25 => ?_)
      have bx25 : iv x25 0 119 := iv_add bx23 r13fpz ex25 (by decide)
      have qx25 := iv_add_eq bx23 r13fpz ex25 (by decide)
      refine hp_ialdA hx hb hK hw.1 hp0pl (vp_iv bx25 (by decide)) dX8_placeOf_26 (fun x26 => ?_)
      refine lv_goto (tgt := 32) hx hb dX8_placeOf_27 (by decide) ?_
      exact J32 x26 _ (lv_sub hl [] rfl)
abbrev WX8_those (p : Program) (l : Launch) (e : Env) (s : State) (m : MethodId) (below : List Frame) (meth : Method) (c : Code) (D : hp_D) (T : hp_T) (ap0 : Nat) (xp1 : Int32) (xp2 : Int32) (H : Heap) (locs : List Loc) (g : JFrame) : Prop := W p l e (headSpec wsX8_those ({ frames := 1, cells := 0, slots := 0, locals := 21 })).room s m ([.ref ap0, .int xp1, .int xp2] : List Value).toArray below meth c H locs 0 0 (MQ below (hq_p (fun v => ∃ r : Int32, v = some (.int r) ∧ iv r 0 1023)) ([.ref ap0, .int xp1, .int xp2] : List Value).toArray s 0 0 (fun _ => False)) g
set_option maxHeartbeats 4000000 in
set_option maxRecDepth 100000 in
theorem sX8_those (l : Launch) (D : hp_D) (T : hp_T) (ap0 : Nat) (xp1 : Int32) (xp2 : Int32) (ip0 : isTown T ap0) : Met l yX8_those wsX8_those ({ frames := 1, cells := 0, slots := 0, locals := 21 }) (hp_Pc D T [.ref ap0, .int xp1, .int xp2] (fun _ => True)) (hq_p (fun v => ∃ r : Int32, v = some (.int r) ∧ iv r 0 1023)) 0 0 (fun _ => False) := by
  obtain ⟨ap0kin, ap0pl, ap0cr, hp0, hp0kin, hp0pl, hp0cr⟩ := id ip0
  refine Met.ofW (cc := cX8_those) (maxL := 3) (ret := (some .int)) (by decide) rfl ?_
  intro p e s m args below meth c s₁ B hml hv
  obtain ⟨rfl, hok, hG, hB⟩ := hv
  have hx := B.exec
  have hb := B.bytes
  have hr := B.returns
  have hts := atoms_spec (ws := wsX8_those) B.pre
  have hown : s.vm.findClass RX8 = some m.cls := findClass_of_methodNamed B.named
  have hlocks := B.notSynchronized
  have hK := hG.1
  have hw : hp_w D T s s.heap [] := hp_w.rf hok
  have IX8 : ∀ w ∈ wsX80, w ∈ wsX8_those := by decide +kernel
  have L43 := hts (.fieldLink RX8 43 "PalmCensus$Town" "crowds" "[I") (by decide +kernel)
  have hl := lv_entry ([.ref ap0, .int xp1, .int xp2]) (n := 3) (Nat.le_of_ble_eq_true rfl)
  rw [lg_entry_eq]
  generalize (lg_sl ([.ref ap0, .int xp1, .int xp2]) ++ List.replicate (3 - (lg_sl ([.ref ap0, .int xp1, .int xp2])).length) Slot.unset).toArray = ls at hl ⊢
  have hl : lv_has ls 3 [(0, .ref ap0), (1, .int xp1), (2, .int xp2)] := hl
  show WX8_those p l e s m below meth c D T ap0 xp1 xp2 s.heap [] (F0 m 0 ls [])
  refine lv_aload_n hx hb dX8_those_0 rfl (lv_at hl 0 rfl) ?_
  refine lv_iload_n hx hb dX8_those_1 rfl (lv_at hl 1 rfl) ?_
  refine hp_callpi (va_runV (As := [.int xp1]) (rest := []) ⟨hx, hb, hml, hown, hts⟩ (sX8_isGate l D T ap0 xp1 ip0) (cwV 1 hts gX8_those_X8_isGate rfl rfl rfl (by decide +kernel) ⟨Nat.le_of_ble_eq_true rfl, Nat.le_of_ble_eq_true rfl⟩) (hp_preV hG hw hp0 rfl trivial) rfl rfl hl.1 rfl (lv_room (Nat.le_of_ble_eq_true rfl)) dX8_those_2 ⟨Nat.zero_le _, Nat.zero_le _⟩) (fun x2 bx2 => ?_)
  obtain ⟨bx2, ix2_0⟩ := bx2
  have J31 : ∀ (y31_s0 : Int32), iv y31_s0 0 1023 → ∀ (ls : Array Slot), lv_has ls 3 [] → WX8_those p l e s m below meth c D T ap0 xp1 xp2 s.heap [] (F0 m 31 ls [.int y31_s0]) := by
    intro y31_s0 c31_y31_s0 ls hl
    exact W.iret (v := y31_s0) hx hb hr (fun t ht hW => ⟨some (.int y31_s0), rfl, ⟨y31_s0, rfl, c31_y31_s0⟩, ht⟩) (fun q h => by cases h) dX8_those_31
  have J30 : ∀ (ls : Array Slot), lv_has ls 3 [] → WX8_those p l e s m below meth c D T ap0 xp1 xp2 s.heap [] (F0 m 30 ls []) := by
    intro ls hl
    refine lv_iconst (v := 0) hx hb dX8_those_30 (by decide) ?_
    exact J31 (0 : Int32) (show iv 0 0 1023 from ⟨by decide, by decide⟩) _ (lv_sub hl [] rfl)
  refine lv_if_eq (tgt := 30) hx hb dX8_those_5 (by decide) (fun c5 => ?_) (fun c5 => ?_)
  · have r5tp : iv x2 0 0 := (iv_both bx2 (iv_eq (show iv 0 0 0 from ⟨by decide, by decide⟩) c5)).mono (by decide) (by decide)
    exact J30 _ (lv_sub hl [] rfl)
  · have r5fp : iv x2 1 1 := (iv_ne_lo c5 bx2 rfl).mono (by decide) (by decide)
    have r5fpz : iv xp1 0 5 := (iv_both (iv_any xp1) (ix2_0 (iv_ne0 r5fp (by decide)))).mono (by decide) (by decide)
    refine lv_aload_n hx hb dX8_those_8 rfl (lv_at hl 0 rfl) ?_
    refine lv_iload_n hx hb dX8_those_9 rfl (lv_at hl 2 rfl) ?_
    refine hp_callpi (va_runV (As := [.int xp2]) (rest := []) ⟨hx, hb, hml, hown, hts⟩ (sX8_isHour l D T ap0 xp2 ip0) (cwV 1 hts gX8_those_X8_isHour rfl rfl rfl (by decide +kernel) ⟨Nat.le_of_ble_eq_true rfl, Nat.le_of_ble_eq_true rfl⟩) (hp_preV hG hw hp0 rfl trivial) rfl rfl hl.1 rfl (lv_room (Nat.le_of_ble_eq_true rfl)) dX8_those_10 ⟨Nat.zero_le _, Nat.zero_le _⟩) (fun x10 bx10 => ?_)
    obtain ⟨bx10, ix10_0⟩ := bx10
    refine lv_if_eq (tgt := 30) hx hb dX8_those_13 (by decide) (fun c13 => ?_) (fun c13 => ?_)
    · have r13tp : iv x10 0 0 := (iv_both bx10 (iv_eq (show iv 0 0 0 from ⟨by decide, by decide⟩) c13)).mono (by decide) (by decide)
      exact J30 _ (lv_sub hl [] rfl)
    · have r13fp : iv x10 1 1 := (iv_ne_lo c13 bx10 rfl).mono (by decide) (by decide)
      have r13fpz : iv xp2 0 11 := (iv_both (iv_any xp2) (ix10_0 (iv_ne0 r13fp (by decide)))).mono (by decide) (by decide)
      refine lv_aload_n hx hb dX8_those_16 rfl (lv_at hl 0 rfl) ?_
      refine hp_getr hx hb hts IX8 hown hK hw.1 hp0 rfl 10 (by decide) L43 rfl dX8_those_17 ?_
      refine lv_iload_n hx hb dX8_those_20 rfl (lv_at hl 2 rfl) ?_
      refine lv_bipush (v := 6) hx hb dX8_those_21 (by decide) ?_
      refine lv_imul hx hb dX8_those_23 ?_
      refine lv_topi (fun x23 ex23 => ?_)
      have bx23 : iv x23 0 66 := iv_mul r13fpz (show iv 6 6 6 from ⟨by decide, by decide⟩) ex23 (by decide)
      refine lv_iload_n hx hb dX8_those_24 rfl (lv_at hl 1 rfl) ?_
      refine lv_iadd hx hb dX8_those_25 ?_
      refine lv_topi (fun x25 ex25 => ?_)
      have bx25 : iv x25 0 71 := iv_add bx23 r5fpz ex25 (by decide)
      have qx25 := iv_add_eq bx23 r5fpz ex25 (by decide)
      refine hp_ialdI hx hb hK hw.1 hp0cr (vp_iv bx25 (by decide)) dX8_those_26 (fun x26 bx26 => ?_)
      refine lv_goto (tgt := 31) hx hb dX8_those_27 (by decide) ?_
      exact J31 x26 bx26 _ (lv_sub hl [] rfl)
abbrev WX8_moveTo (p : Program) (l : Launch) (e : Env) (s : State) (m : MethodId) (below : List Frame) (meth : Method) (c : Code) (D : hp_D) (T : hp_T) (ap0 : Nat) (xp1 : Int32) (xp2 : Int32) (xp3 : Int32) (H : Heap) (locs : List Loc) (g : JFrame) : Prop := W p l e (headSpec wsX8_moveTo ({ frames := 2, cells := 0, slots := 0, locals := 42 })).room s m ([.ref ap0, .int xp1, .int xp2, .int xp3] : List Value).toArray below meth c H locs 0 0 (MQ below (hq_e D T (fun v st t => v = none ∧ (True ∧ hp_ar D st.heap t.heap))) ([.ref ap0, .int xp1, .int xp2, .int xp3] : List Value).toArray s 0 0 (hp_F T)) g
set_option maxHeartbeats 4000000 in
set_option maxRecDepth 100000 in
theorem sX8_moveTo (l : Launch) (D : hp_D) (T : hp_T) (ap0 : Nat) (xp1 : Int32) (xp2 : Int32) (xp3 : Int32) (ip0 : isTown T ap0) : Met l yX8_moveTo wsX8_moveTo ({ frames := 2, cells := 0, slots := 0, locals := 42 }) (hp_Pc D T [.ref ap0, .int xp1, .int xp2, .int xp3] (fun _ => True)) (hq_e D T (fun v st t => v = none ∧ (True ∧ hp_ar D st.heap t.heap))) 0 0 (hp_F T) := by
  obtain ⟨ap0kin, ap0pl, ap0cr, hp0, hp0kin, hp0pl, hp0cr⟩ := id ip0
  refine Met.ofW (cc := cX8_moveTo) (maxL := 6) (ret := none) (by decide) rfl ?_
  intro p e s m args below meth c s₁ B hml hv
  obtain ⟨rfl, hok, hG, hB⟩ := hv
  have hx := B.exec
  have hb := B.bytes
  have hr := B.returns
  have hts := atoms_spec (ws := wsX8_moveTo) B.pre
  have hown : s.vm.findClass RX8 = some m.cls := findClass_of_methodNamed B.named
  have hlocks := B.notSynchronized
  have hK := hG.1
  have hw : hp_w D T s s.heap [] := hp_w.rf hok
  have IX8 : ∀ w ∈ wsX80, w ∈ wsX8_moveTo := by decide +kernel
  have L40 := hts (.fieldLink RX8 40 "PalmCensus$Town" "places" "[I") (by decide +kernel)
  have L43 := hts (.fieldLink RX8 43 "PalmCensus$Town" "crowds" "[I") (by decide +kernel)
  have har : hp_ar D s.heap s.heap := fun _ _ _ _ h => h
  have hl := lv_entry ([.ref ap0, .int xp1, .int xp2, .int xp3]) (n := 6) (Nat.le_of_ble_eq_true rfl)
  rw [lg_entry_eq]
  generalize (lg_sl ([.ref ap0, .int xp1, .int xp2, .int xp3]) ++ List.replicate (6 - (lg_sl ([.ref ap0, .int xp1, .int xp2, .int xp3])).length) Slot.unset).toArray = ls at hl ⊢
  have hl : lv_has ls 6 [(0, .ref ap0), (1, .int xp1), (2, .int xp2), (3, .int xp3)] := hl
  show WX8_moveTo p l e s m below meth c D T ap0 xp1 xp2 xp3 s.heap [] (F0 m 0 ls [])
  refine lv_aload_n hx hb dX8_moveTo_0 rfl (lv_at hl 0 rfl) ?_
  refine lv_iload_n hx hb dX8_moveTo_1 rfl (lv_at hl 1 rfl) ?_
  refine hp_callpi (va_runV (As := [.int xp1]) (rest := []) ⟨hx, hb, hml, hown, hts⟩ (sX8_isPerson l D T ap0 xp1 ip0) (cwV 1 hts gX8_moveTo_X8_isPerson rfl rfl rfl (by decide +kernel) ⟨Nat.le_of_ble_eq_true rfl, Nat.le_of_ble_eq_true rfl⟩) (hp_preV hG hw hp0 rfl trivial) rfl rfl hl.1 rfl (lv_room (Nat.le_of_ble_eq_true rfl)) dX8_moveTo_2 ⟨Nat.zero_le _, Nat.zero_le _⟩) (fun x2 bx2 => ?_)
  obtain ⟨bx2, ix2_0⟩ := bx2
  have J24 : ∀ (H : Heap) (locs : List Loc), hp_w D T s H locs → hp_ar D s.heap H → ∀ (ls : Array Slot), lv_has ls 6 [] → WX8_moveTo p l e s m below meth c D T ap0 xp1 xp2 xp3 H locs (F0 m 24 ls []) := by
    intro H24 locs24 hw har ls hl
    exact W.vret hx hb hr (fun t ht hW => ⟨none, rfl, ⟨rfl, ⟨trivial, by rw [ht]; exact har⟩⟩, by rw [ht]; exact hw.1, hw.2.F ht⟩) hw.2.2.2 dX8_moveTo_24
  refine lv_if_eq (tgt := 24) hx hb dX8_moveTo_5 (by decide) (fun c5 => ?_) (fun c5 => ?_)
  · have r5tp : iv x2 0 0 := (iv_both bx2 (iv_eq (show iv 0 0 0 from ⟨by decide, by decide⟩) c5)).mono (by decide) (by decide)
    exact J24 s.heap [] hw har _ (lv_sub hl [] rfl)
  · have r5fp : iv x2 1 1 := (iv_ne_lo c5 bx2 rfl).mono (by decide) (by decide)
    have r5fpz : iv xp1 0 9 := (iv_both (iv_any xp1) (ix2_0 (iv_ne0 r5fp (by decide)))).mono (by decide) (by decide)
    refine lv_aload_n hx hb dX8_moveTo_8 rfl (lv_at hl 0 rfl) ?_
    refine lv_iload_n hx hb dX8_moveTo_9 rfl (lv_at hl 2 rfl) ?_
    refine hp_callpi (va_runV (As := [.int xp2]) (rest := []) ⟨hx, hb, hml, hown, hts⟩ (sX8_isHour l D T ap0 xp2 ip0) (cwV 1 hts gX8_moveTo_X8_isHour rfl rfl rfl (by decide +kernel) ⟨Nat.le_of_ble_eq_true rfl, Nat.le_of_ble_eq_true rfl⟩) (hp_preV hG hw hp0 rfl trivial) rfl rfl hl.1 rfl (lv_room (Nat.le_of_ble_eq_true rfl)) dX8_moveTo_10 ⟨Nat.zero_le _, Nat.zero_le _⟩) (fun x10 bx10 => ?_)
    obtain ⟨bx10, ix10_0⟩ := bx10
    refine lv_if_eq (tgt := 24) hx hb dX8_moveTo_13 (by decide) (fun c13 => ?_) (fun c13 => ?_)
    · have r13tp : iv x10 0 0 := (iv_both bx10 (iv_eq (show iv 0 0 0 from ⟨by decide, by decide⟩) c13)).mono (by decide) (by decide)
      exact J24 s.heap [] hw har _ (lv_sub hl [] rfl)
    · have r13fp : iv x10 1 1 := (iv_ne_lo c13 bx10 rfl).mono (by decide) (by decide)
      have r13fpz : iv xp2 0 11 := (iv_both (iv_any xp2) (ix10_0 (iv_ne0 r13fp (by decide)))).mono (by decide) (by decide)
      refine lv_aload_n hx hb dX8_moveTo_16 rfl (lv_at hl 0 rfl) ?_
      refine lv_iload_n hx hb dX8_moveTo_17 rfl (lv_at hl 3 rfl) ?_
      refine hp_callpi (va_runV (As := [.int xp3]) (rest := []) ⟨hx, hb, hml, hown, hts⟩ (sX8_isPlace l D T ap0 xp3 ip0) (cwV 1 hts gX8_moveTo_X8_isPlace rfl rfl rfl (by decide +kernel) ⟨Nat.le_of_ble_eq_true rfl, Nat.le_of_ble_eq_true rfl⟩) (hp_preV hG hw hp0 rfl trivial) rfl rfl hl.1 rfl (lv_room (Nat.le_of_ble_eq_true rfl)) dX8_moveTo_18 ⟨Nat.zero_le _, Nat.zero_le _⟩) (fun x18 bx18 => ?_)
      refine lv_if_ne (tgt := 25) hx hb dX8_moveTo_21 (by decide) (fun c21 => ?_) (fun c21 => ?_)
      · have r21tp : iv x18 1 1 := (iv_ne_lo c21 bx18 rfl).mono (by decide) (by decide)
        refine lv_aload_n hx hb dX8_moveTo_25 rfl (lv_at hl 0 rfl) ?_
        refine hp_getr hx hb hts IX8 hown hK hw.1 hp0 rfl 9 (by decide) L40 rfl dX8_moveTo_26 ?_
        refine lv_iload_n hx hb dX8_moveTo_29 rfl (lv_at hl 1 rfl) ?_
        refine lv_bipush (v := 12) hx hb dX8_moveTo_30 (by decide) ?_
        refine lv_imul hx hb dX8_moveTo_32 ?_
        refine lv_topi (fun x32 ex32 => ?_)
        have bx32 : iv x32 0 108 := iv_mul r5fpz (show iv 12 12 12 from ⟨by decide, by decide⟩) ex32 (by decide)
        refine lv_iload_n hx hb dX8_moveTo_33 rfl (lv_at hl 2 rfl) ?_
        refine lv_iadd hx hb dX8_moveTo_34 ?_
        refine lv_topi (fun x34 ex34 => ?_)
        have bx34 : iv x34 0 119 := iv_add bx32 r13fpz ex34 (by decide)
        have qx34 := iv_add_eq bx32 r13fpz ex34 (by decide)
        refine hp_ialdA hx hb hK hw.1 hp0pl (vp_iv bx34 (by decide)) dX8_moveTo_35 (fun x35 => ?_)
        refine lv_istore (lv' := [(4, .int x35), (0, .ref ap0), (1, .int xp1), (2, .int xp2), (3, .int xp3)]) hx hb dX8_moveTo_36 hl (by decide) rfl (fun ls hl => ?_)
        refine lv_iconst (v := 1) hx hb dX8_moveTo_38 (by decide) ?_
        refine lv_iload_n hx hb dX8_moveTo_39 rfl (lv_at hl 2 rfl) ?_
        refine lv_ishl hx hb dX8_moveTo_40 ?_
        refine lv_topi (fun x40 ex40 => ?_)
        have bx40 : iv x40 1 512 := iv_shl 9 (show iv 1 1 1 from ⟨by decide, by decide⟩) r5fpz ex40 (by decide)
        refine lv_istore (lv' := [(5, .int x40), (4, .int x35), (0, .ref ap0), (1, .int xp1), (2, .int xp2), (3, .int xp3)]) hx hb dX8_moveTo_41 hl (by decide) rfl (fun ls hl => ?_)
        refine lv_aload_n hx hb dX8_moveTo_43 rfl (lv_at hl 2 rfl) ?_
        refine lv_iload hx hb dX8_moveTo_44 (lv_at hl 1 rfl) ?_
        refine hp_callpi (va_runV (As := [.int x35]) (rest := []) ⟨hx, hb, hml, hown, hts⟩ (sX8_isGate l D T ap0 x35 ip0) (cwV 1 hts gX8_moveTo_X8_isGate rfl rfl rfl (by decide +kernel) ⟨Nat.le_of_ble_eq_true rfl, Nat.le_of_ble_eq_true rfl⟩) (hp_preV hG hw hp0 rfl trivial) rfl rfl hl.1 rfl (lv_room (Nat.le_of_ble_eq_true rfl)) dX8_moveTo_46 ⟨Nat.zero_le _, Nat.zero_le _⟩) (fun x46 bx46 => ?_)
        obtain ⟨bx46, ix46_0⟩ := bx46
        have J71 : iv xp1 0 9 → iv xp2 0 11 → iv x40 1 512 → ∀ (H : Heap) (locs : List Loc), hp_w D T s H locs → hp_ar D s.heap H → ∀ (ls : Array Slot), lv_has ls 6 [(0, .ref ap0), (1, .int xp1), (2, .int xp2), (3, .int xp3), (5, .int x40)] → WX8_moveTo p l e s m below meth c D T ap0 xp1 xp2 xp3 H locs (F0 m 71 ls []) := by
          intro c71_xp1 c71_xp2 c71_x40 H71 locs71 hw har ls hl
          refine lv_aload_n hx hb dX8_moveTo_71 rfl (lv_at hl 0 rfl) ?_
          refine lv_iload_n hx hb dX8_moveTo_72 rfl (lv_at hl 3 rfl) ?_
          refine hp_callpi (va_runV (As := [.int xp3]) (rest := []) ⟨hx, hb, hml, hown, hts⟩ (sX8_isGate l D T ap0 xp3 ip0) (cwV 1 hts gX8_moveTo_X8_isGate rfl rfl rfl (by decide +kernel) ⟨Nat.le_of_ble_eq_true rfl, Nat.le_of_ble_eq_true rfl⟩) (hp_preV hG hw hp0 rfl trivial) rfl rfl hl.1 rfl (lv_room (Nat.le_of_ble_eq_true rfl)) dX8_moveTo_73 ⟨Nat.zero_le _, Nat.zero_le _⟩) (fun x73 bx73 => ?_)
          obtain ⟨bx73, ix73_0⟩ := bx73
          have J95 : iv xp1 0 9 → iv xp2 0 11 → ∀ (H : Heap) (locs : List Loc), hp_w D T s H locs → hp_ar D s.heap H → ∀ (ls : Array Slot), lv_has ls 6 [(0, .ref ap0), (1, .int xp1), (2, .int xp2), (3, .int xp3)] → WX8_moveTo p l e s m below meth c D T ap0 xp1 xp2 xp3 H locs (F0 m 95 ls []) := by
            intro c95_xp1 c95_xp2 H95 locs95 hw har ls hl
            refine lv_aload_n hx hb dX8_moveTo_95 rfl (lv_at hl 0 rfl) ?_
            refine hp_getr hx hb hts IX8 hown hK hw.1 hp0 rfl 9 (by decide) L40 rfl dX8_moveTo_96 ?_
            refine lv_iload_n hx hb dX8_moveTo_99 rfl (lv_at hl 1 rfl) ?_
            refine lv_bipush (v := 12) hx hb dX8_moveTo_100 (by decide) ?_
            refine lv_imul hx hb dX8_moveTo_102 ?_
            refine lv_topi (fun x102 ex102 => ?_)
            have bx102 : iv x102 0 108 := iv_mul c95_xp1 (show iv 12 12 12 from ⟨by decide, by decide⟩) ex102 (by decide)
            refine lv_iload_n hx hb dX8_moveTo_103 rfl (lv_at hl 2 rfl) ?_
            refine lv_iadd hx hb dX8_moveTo_104 ?_
            refine lv_topi (fun x104 ex104 => ?_)
            have bx104 : iv x104 0 119 := iv_add bx102 c95_xp2 ex104 (by decide)
            have qx104 := iv_add_eq bx102 c95_xp2 ex104 (by decide)
            refine lv_iload_n hx hb dX8_moveTo_105 rfl (lv_at hl 3 rfl) ?_
            refine hp_iast hx hb hK hw hp0pl (vp_iv bx104 (by decide)) ⟨_, rfl⟩ dX8_moveTo_106 (fun H106 locs106 hw g106 => ?_)
            have har := har.trans g106
            exact W.vret hx hb hr (fun t ht hW => ⟨none, rfl, ⟨rfl, ⟨trivial, by rw [ht]; exact har⟩⟩, by rw [ht]; exact hw.1, hw.2.F ht⟩) hw.2.2.2 dX8_moveTo_107
          refine lv_if_eq (tgt := 95) hx hb dX8_moveTo_76 (by decide) (fun c76 => ?_) (fun c76 => ?_)
          · have r76tp : iv x73 0 0 := (iv_both bx73 (iv_eq (show iv 0 0 0 from ⟨by decide, by decide⟩) c76)).mono (by decide) (by decide)
            exact J95 c71_xp1 c71_xp2 H71 locs71 hw har _ (lv_sub hl [0, 1, 2, 3] rfl)
          · have r76fp : iv x73 1 1 := (iv_ne_lo c76 bx73 rfl).mono (by decide) (by decide)
            have r76fpz : iv xp3 0 5 := (iv_both (iv_any xp3) (ix73_0 (iv_ne0 r76fp (by decide)))).mono (by decide) (by decide)
            refine lv_aload_n hx hb dX8_moveTo_79 rfl (lv_at hl 0 rfl) ?_
            refine hp_getr hx hb hts IX8 hown hK hw.1 hp0 rfl 10 (by decide) L43 rfl dX8_moveTo_80 ?_
            refine lv_iload_n hx hb dX8_moveTo_83 rfl (lv_at hl 2 rfl) ?_
            refine lv_bipush (v := 6) hx hb dX8_moveTo_84 (by decide) ?_
            refine lv_imul hx hb dX8_moveTo_86 ?_
            refine lv_topi (fun x86 ex86 => ?_)
            have bx86 : iv x86 0 66 := iv_mul c71_xp2 (show iv 6 6 6 from ⟨by decide, by decide⟩) ex86 (by decide)
            refine lv_iload_n hx hb dX8_moveTo_87 rfl (lv_at hl 3 rfl) ?_
            refine lv_iadd hx hb dX8_moveTo_88 ?_
            refine lv_topi (fun x88 ex88 => ?_)
            have bx88 : iv x88 0 71 := iv_add bx86 r76fpz ex88 (by decide)
            have qx88 := iv_add_eq bx86 r76fpz ex88 (by decide)
            refine lv_dup2_11 hx hb dX8_moveTo_89 rfl rfl ?_
            refine hp_ialdI hx hb hK hw.1 hp0cr (vp_iv bx88 (by decide)) dX8_moveTo_90 (fun x90 bx90 => ?_)
            refine lv_iload hx hb dX8_moveTo_91 (lv_at hl 4 rfl) ?_
            refine lv_ior hx hb dX8_moveTo_93 ?_
            refine lv_topi (fun x93 ex93 => ?_)
            have bx93 : iv x93 0 1023 := iv_or 10 bx90 (c71_x40.mono (by decide) (by decide)) ex93 (by decide) (by decide)
            refine hp_iast hx hb hK hw hp0cr (vp_iv bx88 (by decide)) ⟨_, rfl, bx93⟩ dX8_moveTo_94 (fun H94 locs94 hw g94 => ?_)
            have har := har.trans g94
            exact J95 c71_xp1 c71_xp2 H94 locs94 hw har _ (lv_sub hl [0, 1, 2, 3] rfl)
        refine lv_if_eq (tgt := 71) hx hb dX8_moveTo_49 (by decide) (fun c49 => ?_) (fun c49 => ?_)
        · have r49tp : iv x46 0 0 := (iv_both bx46 (iv_eq (show iv 0 0 0 from ⟨by decide, by decide⟩) c49)).mono (by decide) (by decide)
          exact J71 r5fpz r13fpz bx40 s.heap [] hw har _ (lv_sub hl [2, 3, 4, 5, 0] rfl)
        · have r49fp : iv x46 1 1 := (iv_ne_lo c49 bx46 rfl).mono (by decide) (by decide)
          have r49fpz : iv x35 0 5 := (iv_both (iv_any x35) (ix46_0 (iv_ne0 r49fp (by decide)))).mono (by decide) (by decide)
          refine lv_aload_n hx hb dX8_moveTo_52 rfl (lv_at hl 2 rfl) ?_
          refine hp_getr hx hb hts IX8 hown hK hw.1 hp0 rfl 10 (by decide) L43 rfl dX8_moveTo_53 ?_
          refine lv_iload_n hx hb dX8_moveTo_56 rfl (lv_at hl 4 rfl) ?_
          refine lv_bipush (v := 6) hx hb dX8_moveTo_57 (by decide) ?_
          refine lv_imul hx hb dX8_moveTo_59 ?_
          refine lv_topi (fun x59 ex59 => ?_)
          have bx59 : iv x59 0 66 := iv_mul r13fpz (show iv 6 6 6 from ⟨by decide, by decide⟩) ex59 (by decide)
          refine lv_iload hx hb dX8_moveTo_60 (lv_at hl 1 rfl) ?_
          refine lv_iadd hx hb dX8_moveTo_62 ?_
          refine lv_topi (fun x62 ex62 => ?_)
          have bx62 : iv x62 0 71 := iv_add bx59 r49fpz ex62 (by decide)
          have qx62 := iv_add_eq bx59 r49fpz ex62 (by decide)
          refine lv_dup2_11 hx hb dX8_moveTo_63 rfl rfl ?_
          refine hp_ialdI hx hb hK hw.1 hp0cr (vp_iv bx62 (by decide)) dX8_moveTo_64 (fun x64 bx64 => ?_)
          refine lv_iload hx hb dX8_moveTo_65 (lv_at hl 0 rfl) ?_
          refine lv_iconst (v := (-1)) hx hb dX8_moveTo_67 (by decide) ?_
          refine lv_ixor hx hb dX8_moveTo_68 ?_
          refine lv_topi (fun x68 ex68 => ?_)
          refine lv_iand hx hb dX8_moveTo_69 ?_
          refine lv_topi (fun x69 ex69 => ?_)
          have bx69 : iv x69 0 1023 := iv_and_l bx64 ex69
          refine hp_iast hx hb hK hw hp0cr (vp_iv bx62 (by decide)) ⟨_, rfl, bx69⟩ dX8_moveTo_70 (fun H70 locs70 hw g70 => ?_)
          have har := har.trans g70
          exact J71 r5fpz r13fpz bx40 H70 locs70 hw har _ (lv_sub hl [2, 3, 4, 5, 0] rfl)
      · have r21fp : iv x18 0 0 := (iv_both bx18 (iv_eq (show iv 0 0 0 from ⟨by decide, by decide⟩) c21)).mono (by decide) (by decide)
        exact J24 s.heap [] hw har _ (lv_sub hl [] rfl)
abbrev WX8_bind (p : Program) (l : Launch) (e : Env) (s : State) (m : MethodId) (below : List Frame) (meth : Method) (c : Code) (D : hp_D) (T : hp_T) (ap0 : Nat) (xp1 : Int32) (xp2 : Int32) (H : Heap) (locs : List Loc) (g : JFrame) : Prop := W p l e (headSpec wsX8_bind ({ frames := 1, cells := 0, slots := 0, locals := 21 })).room s m ([.ref ap0, .int xp1, .int xp2] : List Value).toArray below meth c H locs 0 0 (MQ below (hq_e D T (fun v st t => v = none ∧ (True ∧ hp_ar D st.heap t.heap))) ([.ref ap0, .int xp1, .int xp2] : List Value).toArray s 0 0 (hp_F T)) g
set_option maxHeartbeats 4000000 in
set_option maxRecDepth 100000 in
theorem sX8_bind (l : Launch) (D : hp_D) (T : hp_T) (ap0 : Nat) (xp1 : Int32) (xp2 : Int32) (ip0 : isTown T ap0) : Met l yX8_bind wsX8_bind ({ frames := 1, cells := 0, slots := 0, locals := 21 }) (hp_Pc D T [.ref ap0, .int xp1, .int xp2] (fun _ => True)) (hq_e D T (fun v st t => v = none ∧ (True ∧ hp_ar D st.heap t.heap))) 0 0 (hp_F T) := by
  obtain ⟨ap0kin, ap0pl, ap0cr, hp0, hp0kin, hp0pl, hp0cr⟩ := id ip0
  refine Met.ofW (cc := cX8_bind) (maxL := 3) (ret := none) (by decide) rfl ?_
  intro p e s m args below meth c s₁ B hml hv
  obtain ⟨rfl, hok, hG, hB⟩ := hv
  have hx := B.exec
  have hb := B.bytes
  have hr := B.returns
  have hts := atoms_spec (ws := wsX8_bind) B.pre
  have hown : s.vm.findClass RX8 = some m.cls := findClass_of_methodNamed B.named
  have hlocks := B.notSynchronized
  have hK := hG.1
  have hw : hp_w D T s s.heap [] := hp_w.rf hok
  have IX8 : ∀ w ∈ wsX80, w ∈ wsX8_bind := by decide +kernel
  have L36 := hts (.fieldLink RX8 36 "PalmCensus$Town" "kin" "[I") (by decide +kernel)
  have har : hp_ar D s.heap s.heap := fun _ _ _ _ h => h
  have hl := lv_entry ([.ref ap0, .int xp1, .int xp2]) (n := 3) (Nat.le_of_ble_eq_true rfl)
  rw [lg_entry_eq]
  generalize (lg_sl ([.ref ap0, .int xp1, .int xp2]) ++ List.replicate (3 - (lg_sl ([.ref ap0, .int xp1, .int xp2])).length) Slot.unset).toArray = ls at hl ⊢
  have hl : lv_has ls 3 [(0, .ref ap0), (1, .int xp1), (2, .int xp2)] := hl
  show WX8_bind p l e s m below meth c D T ap0 xp1 xp2 s.heap [] (F0 m 0 ls [])
  refine lv_aload_n hx hb dX8_bind_0 rfl (lv_at hl 0 rfl) ?_
  refine lv_iload_n hx hb dX8_bind_1 rfl (lv_at hl 1 rfl) ?_
  refine hp_callpi (va_runV (As := [.int xp1]) (rest := []) ⟨hx, hb, hml, hown, hts⟩ (sX8_isPerson l D T ap0 xp1 ip0) (cwV 1 hts gX8_bind_X8_isPerson rfl rfl rfl (by decide +kernel) ⟨Nat.le_of_ble_eq_true rfl, Nat.le_of_ble_eq_true rfl⟩) (hp_preV hG hw hp0 rfl trivial) rfl rfl hl.1 rfl (lv_room (Nat.le_of_ble_eq_true rfl)) dX8_bind_2 ⟨Nat.zero_le _, Nat.zero_le _⟩) (fun x2 bx2 => ?_)
  obtain ⟨bx2, ix2_0⟩ := bx2
  have J40 : ∀ (H : Heap) (locs : List Loc), hp_w D T s H locs → hp_ar D s.heap H → ∀ (ls : Array Slot), lv_has ls 3 [] → WX8_bind p l e s m below meth c D T ap0 xp1 xp2 H locs (F0 m 40 ls []) := by
    intro H40 locs40 hw har ls hl
    exact W.vret hx hb hr (fun t ht hW => ⟨none, rfl, ⟨rfl, ⟨trivial, by rw [ht]; exact har⟩⟩, by rw [ht]; exact hw.1, hw.2.F ht⟩) hw.2.2.2 dX8_bind_40
  refine lv_if_eq (tgt := 40) hx hb dX8_bind_5 (by decide) (fun c5 => ?_) (fun c5 => ?_)
  · have r5tp : iv x2 0 0 := (iv_both bx2 (iv_eq (show iv 0 0 0 from ⟨by decide, by decide⟩) c5)).mono (by decide) (by decide)
    exact J40 s.heap [] hw har _ (lv_sub hl [] rfl)
  · have r5fp : iv x2 1 1 := (iv_ne_lo c5 bx2 rfl).mono (by decide) (by decide)
    have r5fpz : iv xp1 0 9 := (iv_both (iv_any xp1) (ix2_0 (iv_ne0 r5fp (by decide)))).mono (by decide) (by decide)
    refine lv_aload_n hx hb dX8_bind_8 rfl (lv_at hl 0 rfl) ?_
    refine lv_iload_n hx hb dX8_bind_9 rfl (lv_at hl 2 rfl) ?_
    refine hp_callpi (va_runV (As := [.int xp2]) (rest := []) ⟨hx, hb, hml, hown, hts⟩ (sX8_isPerson l D T ap0 xp2 ip0) (cwV 1 hts gX8_bind_X8_isPerson rfl rfl rfl (by decide +kernel) ⟨Nat.le_of_ble_eq_true rfl, Nat.le_of_ble_eq_true rfl⟩) (hp_preV hG hw hp0 rfl trivial) rfl rfl hl.1 rfl (lv_room (Nat.le_of_ble_eq_true rfl)) dX8_bind_10 ⟨Nat.zero_le _, Nat.zero_le _⟩) (fun x10 bx10 => ?_)
    obtain ⟨bx10, ix10_0⟩ := bx10
    refine lv_if_eq (tgt := 40) hx hb dX8_bind_13 (by decide) (fun c13 => ?_) (fun c13 => ?_)
    · have r13tp : iv x10 0 0 := (iv_both bx10 (iv_eq (show iv 0 0 0 from ⟨by decide, by decide⟩) c13)).mono (by decide) (by decide)
      exact J40 s.heap [] hw har _ (lv_sub hl [] rfl)
    · have r13fp : iv x10 1 1 := (iv_ne_lo c13 bx10 rfl).mono (by decide) (by decide)
      have r13fpz : iv xp2 0 9 := (iv_both (iv_any xp2) (ix10_0 (iv_ne0 r13fp (by decide)))).mono (by decide) (by decide)
      refine lv_aload_n hx hb dX8_bind_16 rfl (lv_at hl 0 rfl) ?_
      refine hp_getr hx hb hts IX8 hown hK hw.1 hp0 rfl 8 (by decide) L36 rfl dX8_bind_17 ?_
      refine lv_iload_n hx hb dX8_bind_20 rfl (lv_at hl 1 rfl) ?_
      refine lv_dup2_11 hx hb dX8_bind_21 rfl rfl ?_
      refine hp_ialdA hx hb hK hw.1 hp0kin (vp_iv r5fpz (by decide)) dX8_bind_22 (fun x22 => ?_)
      refine lv_iconst (v := 1) hx hb dX8_bind_23 (by decide) ?_
      refine lv_iload_n hx hb dX8_bind_24 rfl (lv_at hl 2 rfl) ?_
      refine lv_ishl hx hb dX8_bind_25 ?_
      refine lv_topi (fun x25 ex25 => ?_)
      have bx25 : iv x25 1 512 := iv_shl 9 (show iv 1 1 1 from ⟨by decide, by decide⟩) r13fpz ex25 (by decide)
      refine lv_ior hx hb dX8_bind_26 ?_
      refine lv_topi (fun x26 ex26 => ?_)
      refine hp_iast hx hb hK hw hp0kin (vp_iv r5fpz (by decide)) ⟨_, rfl⟩ dX8_bind_27 (fun H27 locs27 hw g27 => ?_)
      have har := har.trans g27
      refine lv_aload_n hx hb dX8_bind_28 rfl (lv_at hl 0 rfl) ?_
      refine hp_getr hx hb hts IX8 hown hK hw.1 hp0 rfl 8 (by decide) L36 rfl dX8_bind_29 ?_
      refine lv_iload_n hx hb dX8_bind_32 rfl (lv_at hl 2 rfl) ?_
      refine lv_dup2_11 hx hb dX8_bind_33 rfl rfl ?_
      refine hp_ialdA hx hb hK hw.1 hp0kin (vp_iv r13fpz (by decide)) dX8_bind_34 (fun x34 => ?_)
      refine lv_iconst (v := 1) hx hb dX8_bind_35 (by decide) ?_
      refine lv_iload_n hx hb dX8_bind_36 rfl (lv_at hl 1 rfl) ?_
      refine lv_ishl hx hb dX8_bind_37 ?_
      refine lv_topi (fun x37 ex37 => ?_)
      have bx37 : iv x37 1 512 := iv_shl 9 (show iv 1 1 1 from ⟨by decide, by decide⟩) r5fpz ex37 (by decide)
      refine lv_ior hx hb dX8_bind_38 ?_
      refine lv_topi (fun x38 ex38 => ?_)
      refine hp_iast hx hb hK hw hp0kin (vp_iv r13fpz (by decide)) ⟨_, rfl⟩ dX8_bind_39 (fun H39 locs39 hw g39 => ?_)
      have har := har.trans g39
      exact J40 H39 locs39 hw har _ (lv_sub hl [] rfl)
abbrev WX8_areKin (p : Program) (l : Launch) (e : Env) (s : State) (m : MethodId) (below : List Frame) (meth : Method) (c : Code) (D : hp_D) (T : hp_T) (ap0 : Nat) (xp1 : Int32) (xp2 : Int32) (H : Heap) (locs : List Loc) (g : JFrame) : Prop := W p l e (headSpec wsX8_areKin ({ frames := 1, cells := 0, slots := 0, locals := 21 })).room s m ([.ref ap0, .int xp1, .int xp2] : List Value).toArray below meth c H locs 0 0 (MQ below (hq_p (fun v => ∃ r : Int32, v = some (.int r) ∧ iv r 0 1)) ([.ref ap0, .int xp1, .int xp2] : List Value).toArray s 0 0 (fun _ => False)) g
set_option maxHeartbeats 4000000 in
set_option maxRecDepth 100000 in
theorem sX8_areKin (l : Launch) (D : hp_D) (T : hp_T) (ap0 : Nat) (xp1 : Int32) (xp2 : Int32) (ip0 : isTown T ap0) : Met l yX8_areKin wsX8_areKin ({ frames := 1, cells := 0, slots := 0, locals := 21 }) (hp_Pc D T [.ref ap0, .int xp1, .int xp2] (fun _ => True)) (hq_p (fun v => ∃ r : Int32, v = some (.int r) ∧ iv r 0 1)) 0 0 (fun _ => False) := by
  obtain ⟨ap0kin, ap0pl, ap0cr, hp0, hp0kin, hp0pl, hp0cr⟩ := id ip0
  refine Met.ofW (cc := cX8_areKin) (maxL := 3) (ret := (some .boolean)) (by decide) rfl ?_
  intro p e s m args below meth c s₁ B hml hv
  obtain ⟨rfl, hok, hG, hB⟩ := hv
  have hx := B.exec
  have hb := B.bytes
  have hr := B.returns
  have hts := atoms_spec (ws := wsX8_areKin) B.pre
  have hown : s.vm.findClass RX8 = some m.cls := findClass_of_methodNamed B.named
  have hlocks := B.notSynchronized
  have hK := hG.1
  have hw : hp_w D T s s.heap [] := hp_w.rf hok
  have IX8 : ∀ w ∈ wsX80, w ∈ wsX8_areKin := by decide +kernel
  have L36 := hts (.fieldLink RX8 36 "PalmCensus$Town" "kin" "[I") (by decide +kernel)
  have hl := lv_entry ([.ref ap0, .int xp1, .int xp2]) (n := 3) (Nat.le_of_ble_eq_true rfl)
  rw [lg_entry_eq]
  generalize (lg_sl ([.ref ap0, .int xp1, .int xp2]) ++ List.replicate (3 - (lg_sl ([.ref ap0, .int xp1, .int xp2])).length) Slot.unset).toArray = ls at hl ⊢
  have hl : lv_has ls 3 [(0, .ref ap0), (1, .int xp1), (2, .int xp2)] := hl
  show WX8_areKin p l e s m below meth c D T ap0 xp1 xp2 s.heap [] (F0 m 0 ls [])
  refine lv_aload_n hx hb dX8_areKin_0 rfl (lv_at hl 0 rfl) ?_
  refine lv_iload_n hx hb dX8_areKin_1 rfl (lv_at hl 1 rfl) ?_
  refine hp_callpi (va_runV (As := [.int xp1]) (rest := []) ⟨hx, hb, hml, hown, hts⟩ (sX8_isPerson l D T ap0 xp1 ip0) (cwV 1 hts gX8_areKin_X8_isPerson rfl rfl rfl (by decide +kernel) ⟨Nat.le_of_ble_eq_true rfl, Nat.le_of_ble_eq_true rfl⟩) (hp_preV hG hw hp0 rfl trivial) rfl rfl hl.1 rfl (lv_room (Nat.le_of_ble_eq_true rfl)) dX8_areKin_2 ⟨Nat.zero_le _, Nat.zero_le _⟩) (fun x2 bx2 => ?_)
  obtain ⟨bx2, ix2_0⟩ := bx2
  have J26 : ∀ (y26_s0 : Int32), iv y26_s0 0 1 → ∀ (ls : Array Slot), lv_has ls 3 [] → WX8_areKin p l e s m below meth c D T ap0 xp1 xp2 s.heap [] (F0 m 26 ls [.int y26_s0]) := by
    intro y26_s0 c26_y26_s0 ls hl
    exact W.zret (v := y26_s0) hx hb hr (iv_nz c26_y26_s0) (fun t ht hW => ⟨some (.int y26_s0), rfl, ⟨y26_s0, rfl, c26_y26_s0⟩, ht⟩) (fun q h => by cases h) dX8_areKin_26
  have J25 : ∀ (ls : Array Slot), lv_has ls 3 [] → WX8_areKin p l e s m below meth c D T ap0 xp1 xp2 s.heap [] (F0 m 25 ls []) := by
    intro ls hl
    refine lv_iconst (v := 0) hx hb dX8_areKin_25 (by decide) ?_
    exact J26 (0 : Int32) (show iv 0 0 1 from ⟨by decide, by decide⟩) _ (lv_sub hl [] rfl)
  refine lv_if_eq (tgt := 25) hx hb dX8_areKin_5 (by decide) (fun c5 => ?_) (fun c5 => ?_)
  · have r5tp : iv x2 0 0 := (iv_both bx2 (iv_eq (show iv 0 0 0 from ⟨by decide, by decide⟩) c5)).mono (by decide) (by decide)
    exact J25 _ (lv_sub hl [] rfl)
  · have r5fp : iv x2 1 1 := (iv_ne_lo c5 bx2 rfl).mono (by decide) (by decide)
    have r5fpz : iv xp1 0 9 := (iv_both (iv_any xp1) (ix2_0 (iv_ne0 r5fp (by decide)))).mono (by decide) (by decide)
    refine lv_aload_n hx hb dX8_areKin_8 rfl (lv_at hl 0 rfl) ?_
    refine hp_getr hx hb hts IX8 hown hK hw.1 hp0 rfl 8 (by decide) L36 rfl dX8_areKin_9 ?_
    refine lv_iload_n hx hb dX8_areKin_12 rfl (lv_at hl 1 rfl) ?_
    refine hp_ialdA hx hb hK hw.1 hp0kin (vp_iv r5fpz (by decide)) dX8_areKin_13 (fun x13 => ?_)
    refine lv_iload_n hx hb dX8_areKin_14 rfl (lv_at hl 2 rfl) ?_
    refine lv_ishr hx hb dX8_areKin_15 ?_
    refine lv_topi (fun x15 ex15 => ?_)
    refine lv_iconst (v := 1) hx hb dX8_areKin_16 (by decide) ?_
    refine lv_iand hx hb dX8_areKin_17 ?_
    refine lv_topi (fun x17 ex17 => ?_)
    have bx17 : iv x17 0 1 := iv_and_r (show iv 1 0 1 from ⟨by decide, by decide⟩) ex17
    refine lv_if_eq (tgt := 25) hx hb dX8_areKin_18 (by decide) (fun c18 => ?_) (fun c18 => ?_)
    · have r18tp : iv x17 0 0 := (iv_both bx17 (iv_eq (show iv 0 0 0 from ⟨by decide, by decide⟩) c18)).mono (by decide) (by decide)
      exact J25 _ (lv_sub hl [] rfl)
    · have r18fp : iv x17 1 1 := (iv_ne_lo c18 bx17 rfl).mono (by decide) (by decide)
      refine lv_iconst (v := 1) hx hb dX8_areKin_21 (by decide) ?_
      refine lv_goto (tgt := 26) hx hb dX8_areKin_22 (by decide) ?_
      exact J26 (1 : Int32) (show iv 1 0 1 from ⟨by decide, by decide⟩) _ (lv_sub hl [] rfl)
abbrev WX8_areTogether (p : Program) (l : Launch) (e : Env) (s : State) (m : MethodId) (below : List Frame) (meth : Method) (c : Code) (D : hp_D) (T : hp_T) (ap0 : Nat) (xp1 : Int32) (xp2 : Int32) (xp3 : Int32) (H : Heap) (locs : List Loc) (g : JFrame) : Prop := W p l e (headSpec wsX8_areTogether ({ frames := 2, cells := 0, slots := 0, locals := 43 })).room s m ([.ref ap0, .int xp1, .int xp2, .int xp3] : List Value).toArray below meth c H locs 0 0 (MQ below (hq_p (fun v => ∃ r : Int32, v = some (.int r) ∧ iv r 0 1)) ([.ref ap0, .int xp1, .int xp2, .int xp3] : List Value).toArray s 0 0 (fun _ => False)) g
set_option maxHeartbeats 4000000 in
set_option maxRecDepth 100000 in
theorem sX8_areTogether (l : Launch) (D : hp_D) (T : hp_T) (ap0 : Nat) (xp1 : Int32) (xp2 : Int32) (xp3 : Int32) (ip0 : isTown T ap0) : Met l yX8_areTogether wsX8_areTogether ({ frames := 2, cells := 0, slots := 0, locals := 43 }) (hp_Pc D T [.ref ap0, .int xp1, .int xp2, .int xp3] (fun _ => True)) (hq_p (fun v => ∃ r : Int32, v = some (.int r) ∧ iv r 0 1)) 0 0 (fun _ => False) := by
  obtain ⟨ap0kin, ap0pl, ap0cr, hp0, hp0kin, hp0pl, hp0cr⟩ := id ip0
  refine Met.ofW (cc := cX8_areTogether) (maxL := 5) (ret := (some .boolean)) (by decide) rfl ?_
  intro p e s m args below meth c s₁ B hml hv
  obtain ⟨rfl, hok, hG, hB⟩ := hv
  have hx := B.exec
  have hb := B.bytes
  have hr := B.returns
  have hts := atoms_spec (ws := wsX8_areTogether) B.pre
  have hown : s.vm.findClass RX8 = some m.cls := findClass_of_methodNamed B.named
  have hlocks := B.notSynchronized
  have hK := hG.1
  have hw : hp_w D T s s.heap [] := hp_w.rf hok
  have hl := lv_entry ([.ref ap0, .int xp1, .int xp2, .int xp3]) (n := 5) (Nat.le_of_ble_eq_true rfl)
  rw [lg_entry_eq]
  generalize (lg_sl ([.ref ap0, .int xp1, .int xp2, .int xp3]) ++ List.replicate (5 - (lg_sl ([.ref ap0, .int xp1, .int xp2, .int xp3])).length) Slot.unset).toArray = ls at hl ⊢
  have hl : lv_has ls 5 [(0, .ref ap0), (1, .int xp1), (2, .int xp2), (3, .int xp3)] := hl
  show WX8_areTogether p l e s m below meth c D T ap0 xp1 xp2 xp3 s.heap [] (F0 m 0 ls [])
  refine lv_aload_n hx hb dX8_areTogether_0 rfl (lv_at hl 0 rfl) ?_
  refine lv_iload_n hx hb dX8_areTogether_1 rfl (lv_at hl 1 rfl) ?_
  refine lv_iload_n hx hb dX8_areTogether_2 rfl (lv_at hl 3 rfl) ?_
  refine hp_callpi (va_runV (As := [.int xp1, .int xp3]) (rest := []) ⟨hx, hb, hml, hown, hts⟩ (sX8_placeOf l D T ap0 xp1 xp3 ip0) (cwV 2 hts gX8_areTogether_X8_placeOf rfl rfl rfl (by decide +kernel) ⟨Nat.le_of_ble_eq_true rfl, Nat.le_of_ble_eq_true rfl⟩) (hp_preV hG hw hp0 rfl trivial) rfl rfl hl.1 rfl (lv_room (Nat.le_of_ble_eq_true rfl)) dX8_areTogether_3 ⟨Nat.zero_le _, Nat.zero_le _⟩) (fun x3 bx3 => ?_)
  refine lv_istore (lv' := [(4, .int x3), (0, .ref ap0), (1, .int xp1), (2, .int xp2), (3, .int xp3)]) hx hb dX8_areTogether_6 hl (by decide) rfl (fun ls hl => ?_)
  refine lv_iload hx hb dX8_areTogether_8 (lv_at hl 0 rfl) ?_
  refine lv_bipush (v := 99) hx hb dX8_areTogether_10 (by decide) ?_
  have J31 : ∀ (y31_s0 : Int32), iv y31_s0 0 1 → ∀ (ls : Array Slot), lv_has ls 5 [] → WX8_areTogether p l e s m below meth c D T ap0 xp1 xp2 xp3 s.heap [] (F0 m 31 ls [.int y31_s0]) := by
    intro y31_s0 c31_y31_s0 ls hl
    exact W.zret (v := y31_s0) hx hb hr (iv_nz c31_y31_s0) (fun t ht hW => ⟨some (.int y31_s0), rfl, ⟨y31_s0, rfl, c31_y31_s0⟩, ht⟩) (fun q h => by cases h) dX8_areTogether_31
  have J30 : ∀ (ls : Array Slot), lv_has ls 5 [] → WX8_areTogether p l e s m below meth c D T ap0 xp1 xp2 xp3 s.heap [] (F0 m 30 ls []) := by
    intro ls hl
    refine lv_iconst (v := 0) hx hb dX8_areTogether_30 (by decide) ?_
    exact J31 (0 : Int32) (show iv 0 0 1 from ⟨by decide, by decide⟩) _ (lv_sub hl [] rfl)
  refine lv_icmp_eq (tgt := 30) hx hb dX8_areTogether_12 (by decide) (fun c12 => ?_) (fun c12 => ?_)
  · have r12tp : iv x3 99 99 := (iv_both (iv_any x3) (iv_eq (show iv 99 99 99 from ⟨by decide, by decide⟩) c12)).mono (by decide) (by decide)
    exact J30 _ (lv_sub hl [] rfl)
  · refine lv_iload hx hb dX8_areTogether_15 (lv_at hl 0 rfl) ?_
    refine lv_aload_n hx hb dX8_areTogether_17 rfl (lv_at hl 1 rfl) ?_
    refine lv_iload_n hx hb dX8_areTogether_18 rfl (lv_at hl 3 rfl) ?_
    refine lv_iload_n hx hb dX8_areTogether_19 rfl (lv_at hl 4 rfl) ?_
    refine hp_callpi (va_runV (As := [.int xp2, .int xp3]) (rest := [.int x3]) ⟨hx, hb, hml, hown, hts⟩ (sX8_placeOf l D T ap0 xp2 xp3 ip0) (cwV 2 hts gX8_areTogether_X8_placeOf rfl rfl rfl (by decide +kernel) ⟨Nat.le_of_ble_eq_true rfl, Nat.le_of_ble_eq_true rfl⟩) (hp_preV hG hw hp0 rfl trivial) rfl rfl hl.1 rfl (lv_room (Nat.le_of_ble_eq_true rfl)) dX8_areTogether_20 ⟨Nat.zero_le _, Nat.zero_le _⟩) (fun x20 bx20 => ?_)
    refine lv_icmp_ne (tgt := 30) hx hb dX8_areTogether_23 (by decide) (fun c23 => ?_) (fun c23 => ?_)
    · exact J30 _ (lv_sub hl [] rfl)
    · refine lv_iconst (v := 1) hx hb dX8_areTogether_26 (by decide) ?_
      refine lv_goto (tgt := 31) hx hb dX8_areTogether_27 (by decide) ?_
      exact J31 (1 : Int32) (show iv 1 0 1 from ⟨by decide, by decide⟩) _ (lv_sub hl [] rfl)
abbrev WX8_metAhead (p : Program) (l : Launch) (e : Env) (s : State) (m : MethodId) (below : List Frame) (meth : Method) (c : Code) (D : hp_D) (T : hp_T) (ap0 : Nat) (xp1 : Int32) (xp2 : Int32) (xp3 : Int32) (H : Heap) (locs : List Loc) (g : JFrame) : Prop := W p l e (headSpec wsX8_metAhead ({ frames := 1, cells := 0, slots := 0, locals := 21 })).room s m ([.ref ap0, .int xp1, .int xp2, .int xp3] : List Value).toArray below meth c H locs 0 0 (MQ below (hq_p (fun v => ∃ r : Int32, v = some (.int r) ∧ True)) ([.ref ap0, .int xp1, .int xp2, .int xp3] : List Value).toArray s 0 0 (fun _ => False)) g
set_option maxHeartbeats 4000000 in
set_option maxRecDepth 100000 in
theorem sX8_metAhead (l : Launch) (D : hp_D) (T : hp_T) (ap0 : Nat) (xp1 : Int32) (xp2 : Int32) (xp3 : Int32) (ip0 : isTown T ap0) : Met l yX8_metAhead wsX8_metAhead ({ frames := 1, cells := 0, slots := 0, locals := 21 }) (hp_Pc D T [.ref ap0, .int xp1, .int xp2, .int xp3] (fun _ => True)) (hq_p (fun v => ∃ r : Int32, v = some (.int r) ∧ True)) 0 0 (fun _ => False) := by
  obtain ⟨ap0kin, ap0pl, ap0cr, hp0, hp0kin, hp0pl, hp0cr⟩ := id ip0
  refine Met.ofW (cc := cX8_metAhead) (maxL := 7) (ret := (some .int)) (by decide) rfl ?_
  intro p e s m args below meth c s₁ B hml hv
  obtain ⟨rfl, hok, hG, hB⟩ := hv
  have hx := B.exec
  have hb := B.bytes
  have hr := B.returns
  have hts := atoms_spec (ws := wsX8_metAhead) B.pre
  have hown : s.vm.findClass RX8 = some m.cls := findClass_of_methodNamed B.named
  have hlocks := B.notSynchronized
  have hK := hG.1
  have hw : hp_w D T s s.heap [] := hp_w.rf hok
  have IX8 : ∀ w ∈ wsX80, w ∈ wsX8_metAhead := by decide +kernel
  have L40 := hts (.fieldLink RX8 40 "PalmCensus$Town" "places" "[I") (by decide +kernel)
  have hl := lv_entry ([.ref ap0, .int xp1, .int xp2, .int xp3]) (n := 7) (Nat.le_of_ble_eq_true rfl)
  rw [lg_entry_eq]
  generalize (lg_sl ([.ref ap0, .int xp1, .int xp2, .int xp3]) ++ List.replicate (7 - (lg_sl ([.ref ap0, .int xp1, .int xp2, .int xp3])).length) Slot.unset).toArray = ls at hl ⊢
  have hl : lv_has ls 7 [(0, .ref ap0), (1, .int xp1), (2, .int xp2), (3, .int xp3)] := hl
  show WX8_metAhead p l e s m below meth c D T ap0 xp1 xp2 xp3 s.heap [] (F0 m 0 ls [])
  refine lv_iconst (v := 0) hx hb dX8_metAhead_0 (by decide) ?_
  refine lv_istore (lv' := [(4, .int 0), (0, .ref ap0), (1, .int xp1), (2, .int xp2), (3, .int xp3)]) hx hb dX8_metAhead_1 hl (by decide) rfl (fun ls hl => ?_)
  refine lv_aload_n hx hb dX8_metAhead_3 rfl (lv_at hl 1 rfl) ?_
  refine lv_iload_n hx hb dX8_metAhead_4 rfl (lv_at hl 2 rfl) ?_
  refine hp_callpi (va_runV (As := [.int xp1]) (rest := []) ⟨hx, hb, hml, hown, hts⟩ (sX8_isPerson l D T ap0 xp1 ip0) (cwV 1 hts gX8_metAhead_X8_isPerson rfl rfl rfl (by decide +kernel) ⟨Nat.le_of_ble_eq_true rfl, Nat.le_of_ble_eq_true rfl⟩) (hp_preV hG hw hp0 rfl trivial) rfl rfl hl.1 rfl (lv_room (Nat.le_of_ble_eq_true rfl)) dX8_metAhead_5 ⟨Nat.zero_le _, Nat.zero_le _⟩) (fun x5 bx5 => ?_)
  obtain ⟨bx5, ix5_0⟩ := bx5
  have J27 : ∀ (ls : Array Slot), lv_has ls 7 [(4, .int 0)] → WX8_metAhead p l e s m below meth c D T ap0 xp1 xp2 xp3 s.heap [] (F0 m 27 ls []) := by
    intro ls hl
    refine lv_iload hx hb dX8_metAhead_27 (lv_at hl 0 rfl) ?_
    exact W.iret (v := 0) hx hb hr (fun t ht hW => ⟨some (.int 0), rfl, ⟨(0 : Int32), rfl, trivial⟩, ht⟩) (fun q h => by cases h) dX8_metAhead_29
  refine lv_if_eq (tgt := 27) hx hb dX8_metAhead_8 (by decide) (fun c8 => ?_) (fun c8 => ?_)
  · have r8tp : iv x5 0 0 := (iv_both bx5 (iv_eq (show iv 0 0 0 from ⟨by decide, by decide⟩) c8)).mono (by decide) (by decide)
    exact J27 _ (lv_sub hl [0] rfl)
  · have r8fp : iv x5 1 1 := (iv_ne_lo c8 bx5 rfl).mono (by decide) (by decide)
    have r8fpz : iv xp1 0 9 := (iv_both (iv_any xp1) (ix5_0 (iv_ne0 r8fp (by decide)))).mono (by decide) (by decide)
    refine lv_aload_n hx hb dX8_metAhead_11 rfl (lv_at hl 1 rfl) ?_
    refine lv_iload_n hx hb dX8_metAhead_12 rfl (lv_at hl 3 rfl) ?_
    refine hp_callpi (va_runV (As := [.int xp2]) (rest := []) ⟨hx, hb, hml, hown, hts⟩ (sX8_isPerson l D T ap0 xp2 ip0) (cwV 1 hts gX8_metAhead_X8_isPerson rfl rfl rfl (by decide +kernel) ⟨Nat.le_of_ble_eq_true rfl, Nat.le_of_ble_eq_true rfl⟩) (hp_preV hG hw hp0 rfl trivial) rfl rfl hl.1 rfl (lv_room (Nat.le_of_ble_eq_true rfl)) dX8_metAhead_13 ⟨Nat.zero_le _, Nat.zero_le _⟩) (fun x13 bx13 => ?_)
    obtain ⟨bx13, ix13_0⟩ := bx13
    refine lv_if_eq (tgt := 27) hx hb dX8_metAhead_16 (by decide) (fun c16 => ?_) (fun c16 => ?_)
    · have r16tp : iv x13 0 0 := (iv_both bx13 (iv_eq (show iv 0 0 0 from ⟨by decide, by decide⟩) c16)).mono (by decide) (by decide)
      exact J27 _ (lv_sub hl [0] rfl)
    · have r16fp : iv x13 1 1 := (iv_ne_lo c16 bx13 rfl).mono (by decide) (by decide)
      have r16fpz : iv xp2 0 9 := (iv_both (iv_any xp2) (ix13_0 (iv_ne0 r16fp (by decide)))).mono (by decide) (by decide)
      refine lv_aload_n hx hb dX8_metAhead_19 rfl (lv_at hl 1 rfl) ?_
      refine lv_iload_n hx hb dX8_metAhead_20 rfl (lv_at hl 4 rfl) ?_
      refine hp_callpi (va_runV (As := [.int xp3]) (rest := []) ⟨hx, hb, hml, hown, hts⟩ (sX8_isHour l D T ap0 xp3 ip0) (cwV 1 hts gX8_metAhead_X8_isHour rfl rfl rfl (by decide +kernel) ⟨Nat.le_of_ble_eq_true rfl, Nat.le_of_ble_eq_true rfl⟩) (hp_preV hG hw hp0 rfl trivial) rfl rfl hl.1 rfl (lv_room (Nat.le_of_ble_eq_true rfl)) dX8_metAhead_21 ⟨Nat.zero_le _, Nat.zero_le _⟩) (fun x21 bx21 => ?_)
      obtain ⟨bx21, ix21_0⟩ := bx21
      refine lv_if_ne (tgt := 30) hx hb dX8_metAhead_24 (by decide) (fun c24 => ?_) (fun c24 => ?_)
      · have r24tp : iv x21 1 1 := (iv_ne_lo c24 bx21 rfl).mono (by decide) (by decide)
        have r24tpz : iv xp3 0 11 := (iv_both (iv_any xp3) (ix21_0 (iv_ne0 r24tp (by decide)))).mono (by decide) (by decide)
        refine lv_iconst (v := 0) hx hb dX8_metAhead_30 (by decide) ?_
        refine lv_istore (lv' := [(5, .int 0), (4, .int 0), (0, .ref ap0), (1, .int xp1), (2, .int xp2), (3, .int xp3)]) hx hb dX8_metAhead_31 hl (by decide) rfl (fun ls hl => ?_)
        have J33 : ∀ (n : Nat) (y33_l4 y33_l5 : Int32), (11 - y33_l5.toInt).toNat < n → iv xp1 0 9 → iv xp2 0 9 → iv xp3 0 11 → iv y33_l5 0 11 → ∀ (ls : Array Slot), lv_has ls 7 [(0, .ref ap0), (1, .int xp1), (2, .int xp2), (3, .int xp3), (4, .int y33_l4), (5, .int y33_l5)] → WX8_metAhead p l e s m below meth c D T ap0 xp1 xp2 xp3 s.heap [] (F0 m 33 ls []) := by
          intro n
          induction n with
          | zero => intro y33_l4 y33_l5 hmu33 c33_xp1 c33_xp2 c33_xp3 c33_y33_l5 ls hl; exact absurd hmu33 (Nat.not_lt_zero _)
          | succ n ih33 =>
            intro y33_l4 y33_l5 hmu33 c33_xp1 c33_xp2 c33_xp3 c33_y33_l5 ls hl
            refine lv_iload hx hb dX8_metAhead_33 (lv_at hl 5 rfl) ?_
            refine lv_iload_n hx hb dX8_metAhead_35 rfl (lv_at hl 3 rfl) ?_
            refine lv_icmp_ge (tgt := 86) hx hb dX8_metAhead_36 (by decide) (fun c36 => ?_) (fun c36 => ?_)
            · refine lv_iload hx hb dX8_metAhead_86 (lv_at hl 4 rfl) ?_
              exact W.iret (v := y33_l4) hx hb hr (fun t ht hW => ⟨some (.int y33_l4), rfl, ⟨y33_l4, rfl, trivial⟩, ht⟩) (fun q h => by cases h) dX8_metAhead_88
            · have r36fp : iv y33_l5 0 10 := (iv_lt_l (iv_nle c36) c33_y33_l5 c33_xp3).mono (by decide) (by decide)
              have r36fq : iv xp3 1 11 := (iv_lt_r (iv_nle c36) c33_y33_l5 c33_xp3).mono (by decide) (by decide)
              refine lv_aload_n hx hb dX8_metAhead_39 rfl (lv_at hl 0 rfl) ?_
              refine hp_getr hx hb hts IX8 hown hK hw.1 hp0 rfl 9 (by decide) L40 rfl dX8_metAhead_40 ?_
              refine lv_iload_n hx hb dX8_metAhead_43 rfl (lv_at hl 1 rfl) ?_
              refine lv_bipush (v := 12) hx hb dX8_metAhead_44 (by decide) ?_
              refine lv_imul hx hb dX8_metAhead_46 ?_
              refine lv_topi (fun x46 ex46 => ?_)
              have bx46 : iv x46 0 108 := iv_mul c33_xp1 (show iv 12 12 12 from ⟨by decide, by decide⟩) ex46 (by decide)
              refine lv_iload hx hb dX8_metAhead_47 (lv_at hl 5 rfl) ?_
              refine lv_iadd hx hb dX8_metAhead_49 ?_
              refine lv_topi (fun x49 ex49 => ?_)
              have bx49 : iv x49 0 118 := iv_add bx46 r36fp ex49 (by decide)
              have qx49 := iv_add_eq bx46 r36fp ex49 (by decide)
              refine hp_ialdA hx hb hK hw.1 hp0pl (vp_iv bx49 (by decide)) dX8_metAhead_50 (fun x50 => ?_)
              refine lv_istore (lv' := [(6, .int x50), (0, .ref ap0), (1, .int xp1), (2, .int xp2), (3, .int xp3), (4, .int y33_l4), (5, .int y33_l5)]) hx hb dX8_metAhead_51 hl (by decide) rfl (fun ls hl => ?_)
              refine lv_iload hx hb dX8_metAhead_53 (lv_at hl 0 rfl) ?_
              refine lv_bipush (v := 99) hx hb dX8_metAhead_55 (by decide) ?_
              have J80 : ∀ (y80_l4 : Int32), iv xp1 0 9 → iv xp2 0 9 → iv xp3 1 11 → iv y33_l5 0 10 → ∀ (ls : Array Slot), lv_has ls 7 [(0, .ref ap0), (1, .int xp1), (2, .int xp2), (3, .int xp3), (4, .int y80_l4), (5, .int y33_l5)] → WX8_metAhead p l e s m below meth c D T ap0 xp1 xp2 xp3 s.heap [] (F0 m 80 ls []) := by
                intro y80_l4 c80_xp1 c80_xp2 c80_xp3 c80_y33_l5 ls hl
                obtain ⟨x80, ex80⟩ : ∃ y : Int32, y = y33_l5 + 1 := ⟨_, rfl⟩
                have bx80 : iv x80 1 11 := iv_add c80_y33_l5 (show iv 1 1 1 from ⟨by decide, by decide⟩) ex80 (by decide)
                have qx80 := iv_add_eq c80_y33_l5 (show iv 1 1 1 from ⟨by decide, by decide⟩) ex80 (by decide)
                refine lv_iinc (v := x80) (lv' := [(5, .int x80), (0, .ref ap0), (1, .int xp1), (2, .int xp2), (3, .int xp3), (4, .int y80_l4)]) hx hb dX8_metAhead_80 hl (k := 5) rfl (by rw [ex80]; rfl) (by decide) rfl (fun ls hl => ?_)
                refine lv_goto (tgt := 33) hx hb dX8_metAhead_83 (by decide) ?_
                exact ih33 y80_l4 x80 (mu_up 1 hmu33 (qx80) (by decide) (show iv x80 0 11 from (bx80.mono (by decide) (by decide))).2) c80_xp1 c80_xp2 (c80_xp3.mono (by decide) (by decide)) (bx80.mono (by decide) (by decide)) _ (lv_sub hl [1, 2, 3, 4, 5, 0] rfl)
              refine lv_icmp_eq (tgt := 80) hx hb dX8_metAhead_57 (by decide) (fun c57 => ?_) (fun c57 => ?_)
              · have r57tp : iv x50 99 99 := (iv_both (iv_any x50) (iv_eq (show iv 99 99 99 from ⟨by decide, by decide⟩) c57)).mono (by decide) (by decide)
                exact J80 y33_l4 c33_xp1 c33_xp2 r36fq r36fp _ (lv_sub hl [1, 2, 3, 4, 5, 6] rfl)
              · refine lv_iload hx hb dX8_metAhead_60 (lv_at hl 0 rfl) ?_
                refine lv_aload_n hx hb dX8_metAhead_62 rfl (lv_at hl 1 rfl) ?_
                refine hp_getr hx hb hts IX8 hown hK hw.1 hp0 rfl 9 (by decide) L40 rfl dX8_metAhead_63 ?_
                refine lv_iload_n hx hb dX8_metAhead_66 rfl (lv_at hl 3 rfl) ?_
                refine lv_bipush (v := 12) hx hb dX8_metAhead_67 (by decide) ?_
                refine lv_imul hx hb dX8_metAhead_69 ?_
                refine lv_topi (fun x69 ex69 => ?_)
                have bx69 : iv x69 0 108 := iv_mul c33_xp2 (show iv 12 12 12 from ⟨by decide, by decide⟩) ex69 (by decide)
                refine lv_iload hx hb dX8_metAhead_70 (lv_at hl 6 rfl) ?_
                refine lv_iadd hx hb dX8_metAhead_72 ?_
                refine lv_topi (fun x72 ex72 => ?_)
                have bx72 : iv x72 0 118 := iv_add bx69 r36fp ex72 (by decide)
                have qx72 := iv_add_eq bx69 r36fp ex72 (by decide)
                refine hp_ialdA hx hb hK hw.1 hp0pl (vp_iv bx72 (by decide)) dX8_metAhead_73 (fun x73 => ?_)
                refine lv_icmp_ne (tgt := 80) hx hb dX8_metAhead_74 (by decide) (fun c74 => ?_) (fun c74 => ?_)
                · exact J80 y33_l4 c33_xp1 c33_xp2 r36fq r36fp _ (lv_sub hl [1, 2, 3, 4, 5, 6] rfl)
                · obtain ⟨x77, ex77⟩ : ∃ y : Int32, y = y33_l4 + 1 := ⟨_, rfl⟩
                  refine lv_iinc (v := x77) (lv' := [(4, .int x77), (6, .int x50), (0, .ref ap0), (1, .int xp1), (2, .int xp2), (3, .int xp3), (5, .int y33_l5)]) hx hb dX8_metAhead_77 hl (k := 5) rfl (by rw [ex77]; rfl) (by decide) rfl (fun ls hl => ?_)
                  exact J80 x77 c33_xp1 c33_xp2 r36fq r36fp _ (lv_sub hl [2, 3, 4, 5, 0, 6] rfl)
        exact J33 _ (0 : Int32) (0 : Int32) (Nat.lt_succ_self _) r8fpz r16fpz r24tpz (show iv 0 0 11 from ⟨by decide, by decide⟩) _ (lv_sub hl [2, 3, 4, 5, 1, 0] rfl)
      · have r24fp : iv x21 0 0 := (iv_both bx21 (iv_eq (show iv 0 0 0 from ⟨by decide, by decide⟩) c24)).mono (by decide) (by decide)
        exact J27 _ (lv_sub hl [0] rfl)
abbrev WX8_company (p : Program) (l : Launch) (e : Env) (s : State) (m : MethodId) (below : List Frame) (meth : Method) (c : Code) (D : hp_D) (T : hp_T) (ap0 : Nat) (xp1 : Int32) (H : Heap) (locs : List Loc) (g : JFrame) : Prop := W p l e (headSpec wsX8_company ({ frames := 2, cells := 0, slots := 0, locals := 43 })).room s m ([.ref ap0, .int xp1] : List Value).toArray below meth c H locs 0 0 (MQ below (hq_p (fun v => ∃ r : Int32, v = some (.int r) ∧ True)) ([.ref ap0, .int xp1] : List Value).toArray s 0 0 (fun _ => False)) g
set_option maxHeartbeats 4000000 in
set_option maxRecDepth 100000 in
theorem sX8_company (l : Launch) (D : hp_D) (T : hp_T) (ap0 : Nat) (xp1 : Int32) (ip0 : isTown T ap0) : Met l yX8_company wsX8_company ({ frames := 2, cells := 0, slots := 0, locals := 43 }) (hp_Pc D T [.ref ap0, .int xp1] (fun _ => True)) (hq_p (fun v => ∃ r : Int32, v = some (.int r) ∧ True)) 0 0 (fun _ => False) := by
  obtain ⟨ap0kin, ap0pl, ap0cr, hp0, hp0kin, hp0pl, hp0cr⟩ := id ip0
  refine Met.ofW (cc := cX8_company) (maxL := 4) (ret := (some .int)) (by decide) rfl ?_
  intro p e s m args below meth c s₁ B hml hv
  obtain ⟨rfl, hok, hG, hB⟩ := hv
  have hx := B.exec
  have hb := B.bytes
  have hr := B.returns
  have hts := atoms_spec (ws := wsX8_company) B.pre
  have hown : s.vm.findClass RX8 = some m.cls := findClass_of_methodNamed B.named
  have hlocks := B.notSynchronized
  have hK := hG.1
  have hw : hp_w D T s s.heap [] := hp_w.rf hok
  have IX8 : ∀ w ∈ wsX80, w ∈ wsX8_company := by decide +kernel
  have L15 := hts (.fieldLink RX8 15 "PalmCensus$Town" "hours" "I") (by decide +kernel)
  have hl := lv_entry ([.ref ap0, .int xp1]) (n := 4) (Nat.le_of_ble_eq_true rfl)
  rw [lg_entry_eq]
  generalize (lg_sl ([.ref ap0, .int xp1]) ++ List.replicate (4 - (lg_sl ([.ref ap0, .int xp1])).length) Slot.unset).toArray = ls at hl ⊢
  have hl : lv_has ls 4 [(0, .ref ap0), (1, .int xp1)] := hl
  show WX8_company p l e s m below meth c D T ap0 xp1 s.heap [] (F0 m 0 ls [])
  refine lv_iconst (v := 0) hx hb dX8_company_0 (by decide) ?_
  refine lv_istore_n (lv' := [(2, .int 0), (0, .ref ap0), (1, .int xp1)]) hx hb dX8_company_1 rfl hl (by decide) rfl (fun ls hl => ?_)
  refine lv_iconst (v := 0) hx hb dX8_company_2 (by decide) ?_
  refine lv_istore_n (lv' := [(3, .int 0), (2, .int 0), (0, .ref ap0), (1, .int xp1)]) hx hb dX8_company_3 rfl hl (by decide) rfl (fun ls hl => ?_)
  have J4 : ∀ (n : Nat) (y4_l2 y4_l3 : Int32), (12 - y4_l3.toInt).toNat < n → iv y4_l2 0 1023 → iv y4_l3 0 12 → ∀ (ls : Array Slot), lv_has ls 4 [(0, .ref ap0), (1, .int xp1), (2, .int y4_l2), (3, .int y4_l3)] → WX8_company p l e s m below meth c D T ap0 xp1 s.heap [] (F0 m 4 ls []) := by
    intro n
    induction n with
    | zero => intro y4_l2 y4_l3 hmu4 c4_y4_l2 c4_y4_l3 ls hl; exact absurd hmu4 (Nat.not_lt_zero _)
    | succ n ih4 =>
      intro y4_l2 y4_l3 hmu4 c4_y4_l2 c4_y4_l3 ls hl
      refine lv_iload_n hx hb dX8_company_4 rfl (lv_at hl 3 rfl) ?_
      refine lv_aload_n hx hb dX8_company_5 rfl (lv_at hl 0 rfl) ?_
      refine hp_geti hx hb hts IX8 hown hK hw.1 hp0 rfl 1 (by decide) L15 rfl dX8_company_6 (fun x6 bx6 fx6 => ?_)
      refine lv_icmp_ge (tgt := 32) hx hb dX8_company_9 (by decide) (fun c9 => ?_) (fun c9 => ?_)
      · refine lv_iload_n hx hb dX8_company_32 rfl (lv_at hl 2 rfl) ?_
        refine lv_iconst (v := 1) hx hb dX8_company_33 (by decide) ?_
        refine lv_iload_n hx hb dX8_company_34 rfl (lv_at hl 1 rfl) ?_
        refine lv_ishl hx hb dX8_company_35 ?_
        refine lv_topi (fun x35 ex35 => ?_)
        refine lv_iconst (v := (-1)) hx hb dX8_company_36 (by decide) ?_
        refine lv_ixor hx hb dX8_company_37 ?_
        refine lv_topi (fun x37 ex37 => ?_)
        refine lv_iand hx hb dX8_company_38 ?_
        refine lv_topi (fun x38 ex38 => ?_)
        have bx38 : iv x38 0 1023 := iv_and_l c4_y4_l2 ex38
        exact W.iret (v := x38) hx hb hr (fun t ht hW => ⟨some (.int x38), rfl, ⟨x38, rfl, trivial⟩, ht⟩) (fun q h => by cases h) dX8_company_39
      · have r9fp : iv y4_l3 0 11 := (iv_lt_l (iv_nle c9) c4_y4_l3 bx6).mono (by decide) (by decide)
        have r9fq : iv x6 1 12 := (iv_lt_r (iv_nle c9) c4_y4_l3 bx6).mono (by decide) (by decide)
        refine lv_iload_n hx hb dX8_company_12 rfl (lv_at hl 2 rfl) ?_
        refine lv_aload_n hx hb dX8_company_13 rfl (lv_at hl 0 rfl) ?_
        refine lv_aload_n hx hb dX8_company_14 rfl (lv_at hl 0 rfl) ?_
        refine lv_iload_n hx hb dX8_company_15 rfl (lv_at hl 1 rfl) ?_
        refine lv_iload_n hx hb dX8_company_16 rfl (lv_at hl 3 rfl) ?_
        refine hp_callpi (va_runV (As := [.int xp1, .int y4_l3]) (rest := [.ref ap0, .int y4_l2]) ⟨hx, hb, hml, hown, hts⟩ (sX8_placeOf l D T ap0 xp1 y4_l3 ip0) (cwV 2 hts gX8_company_X8_placeOf rfl rfl rfl (by decide +kernel) ⟨Nat.le_of_ble_eq_true rfl, Nat.le_of_ble_eq_true rfl⟩) (hp_preV hG hw hp0 rfl trivial) rfl rfl hl.1 rfl (lv_room (Nat.le_of_ble_eq_true rfl)) dX8_company_17 ⟨Nat.zero_le _, Nat.zero_le _⟩) (fun x17 bx17 => ?_)
        refine lv_iload_n hx hb dX8_company_20 rfl (lv_at hl 3 rfl) ?_
        refine hp_callpi (va_runV (As := [.int x17, .int y4_l3]) (rest := [.int y4_l2]) ⟨hx, hb, hml, hown, hts⟩ (sX8_those l D T ap0 x17 y4_l3 ip0) (cwV 2 hts gX8_company_X8_those rfl rfl rfl (by decide +kernel) ⟨Nat.le_of_ble_eq_true rfl, Nat.le_of_ble_eq_true rfl⟩) (hp_preV hG hw hp0 rfl trivial) rfl rfl hl.1 rfl (lv_room (Nat.le_of_ble_eq_true rfl)) dX8_company_21 ⟨Nat.zero_le _, Nat.zero_le _⟩) (fun x21 bx21 => ?_)
        refine lv_ior hx hb dX8_company_24 ?_
        refine lv_topi (fun x24 ex24 => ?_)
        have bx24 : iv x24 0 1023 := iv_or 10 c4_y4_l2 bx21 ex24 (by decide) (by decide)
        refine lv_istore_n (lv' := [(2, .int x24), (0, .ref ap0), (1, .int xp1), (3, .int y4_l3)]) hx hb dX8_company_25 rfl hl (by decide) rfl (fun ls hl => ?_)
        obtain ⟨x26, ex26⟩ : ∃ y : Int32, y = y4_l3 + 1 := ⟨_, rfl⟩
        have bx26 : iv x26 1 12 := iv_add r9fp (show iv 1 1 1 from ⟨by decide, by decide⟩) ex26 (by decide)
        have qx26 := iv_add_eq r9fp (show iv 1 1 1 from ⟨by decide, by decide⟩) ex26 (by decide)
        refine lv_iinc (v := x26) (lv' := [(3, .int x26), (2, .int x24), (0, .ref ap0), (1, .int xp1)]) hx hb dX8_company_26 hl (k := 3) rfl (by rw [ex26]; rfl) (by decide) rfl (fun ls hl => ?_)
        refine lv_goto (tgt := 4) hx hb dX8_company_29 (by decide) ?_
        exact ih4 x24 x26 (mu_up 1 hmu4 (qx26) (by decide) (show iv x26 0 12 from (bx26.mono (by decide) (by decide))).2) bx24 (bx26.mono (by decide) (by decide)) _ (lv_sub hl [2, 3, 1, 0] rfl)
  exact J4 _ (0 : Int32) (0 : Int32) (Nat.lt_succ_self _) (show iv 0 0 1023 from ⟨by decide, by decide⟩) (show iv 0 0 12 from ⟨by decide, by decide⟩) _ (lv_sub hl [2, 3, 1, 0] rfl)
abbrev WX8_giftOf (p : Program) (l : Launch) (e : Env) (s : State) (m : MethodId) (below : List Frame) (meth : Method) (c : Code) (D : hp_D) (T : hp_T) (ap0 : Nat) (xp1 : Int32) (H : Heap) (locs : List Loc) (g : JFrame) : Prop := W p l e (headSpec wsX8_giftOf ({ frames := 0, cells := 0, slots := 0, locals := 0 })).room s m ([.ref ap0, .int xp1] : List Value).toArray below meth c H locs 0 0 (MQ below (hq_p (fun v => ∃ r : Int32, v = some (.int r) ∧ True)) ([.ref ap0, .int xp1] : List Value).toArray s 0 0 (fun _ => False)) g
set_option maxHeartbeats 4000000 in
set_option maxRecDepth 100000 in
theorem sX8_giftOf (l : Launch) (D : hp_D) (T : hp_T) (ap0 : Nat) (xp1 : Int32) (ip0 : isTown T ap0) : Met l yX8_giftOf wsX8_giftOf ({ frames := 0, cells := 0, slots := 0, locals := 0 }) (hp_Pc D T [.ref ap0, .int xp1] (fun _ => True)) (hq_p (fun v => ∃ r : Int32, v = some (.int r) ∧ True)) 0 0 (fun _ => False) := by
  obtain ⟨ap0kin, ap0pl, ap0cr, hp0, hp0kin, hp0pl, hp0cr⟩ := id ip0
  refine Met.ofW (cc := cX8_giftOf) (maxL := 3) (ret := (some .int)) (by decide) rfl ?_
  intro p e s m args below meth c s₁ B hml hv
  obtain ⟨rfl, hok, hG, hB⟩ := hv
  have hx := B.exec
  have hb := B.bytes
  have hr := B.returns
  have hts := atoms_spec (ws := wsX8_giftOf) B.pre
  have hown : s.vm.findClass RX8 = some m.cls := findClass_of_methodNamed B.named
  have hlocks := B.notSynchronized
  have hK := hG.1
  have hw : hp_w D T s s.heap [] := hp_w.rf hok
  have IX8 : ∀ w ∈ wsX80, w ∈ wsX8_giftOf := by decide +kernel
  have L27 := hts (.fieldLink RX8 27 "PalmCensus$Town" "gloved" "I") (by decide +kernel)
  have L30 := hts (.fieldLink RX8 30 "PalmCensus$Town" "children" "I") (by decide +kernel)
  have L24 := hts (.fieldLink RX8 24 "PalmCensus$Town" "left" "I") (by decide +kernel)
  have hl := lv_entry ([.ref ap0, .int xp1]) (n := 3) (Nat.le_of_ble_eq_true rfl)
  rw [lg_entry_eq]
  generalize (lg_sl ([.ref ap0, .int xp1]) ++ List.replicate (3 - (lg_sl ([.ref ap0, .int xp1])).length) Slot.unset).toArray = ls at hl ⊢
  have hl : lv_has ls 3 [(0, .ref ap0), (1, .int xp1)] := hl
  show WX8_giftOf p l e s m below meth c D T ap0 xp1 s.heap [] (F0 m 0 ls [])
  refine lv_aload_n hx hb dX8_giftOf_0 rfl (lv_at hl 0 rfl) ?_
  refine hp_getA hx hb hts IX8 hown hK hw.1 hp0 rfl 5 (by decide) L27 rfl dX8_giftOf_1 (fun x1 fx1 => ?_)
  refine lv_iload_n hx hb dX8_giftOf_4 rfl (lv_at hl 1 rfl) ?_
  refine lv_ishr hx hb dX8_giftOf_5 ?_
  refine lv_topi (fun x5 ex5 => ?_)
  refine lv_iconst (v := 1) hx hb dX8_giftOf_6 (by decide) ?_
  refine lv_iand hx hb dX8_giftOf_7 ?_
  refine lv_topi (fun x7 ex7 => ?_)
  have bx7 : iv x7 0 1 := iv_and_r (show iv 1 0 1 from ⟨by decide, by decide⟩) ex7
  refine lv_if_eq (tgt := 13) hx hb dX8_giftOf_8 (by decide) (fun c8 => ?_) (fun c8 => ?_)
  · have r8tp : iv x7 0 0 := (iv_both bx7 (iv_eq (show iv 0 0 0 from ⟨by decide, by decide⟩) c8)).mono (by decide) (by decide)
    refine lv_aload_n hx hb dX8_giftOf_13 rfl (lv_at hl 0 rfl) ?_
    refine hp_getA hx hb hts IX8 hown hK hw.1 hp0 rfl 6 (by decide) L30 rfl dX8_giftOf_14 (fun x14 fx14 => ?_)
    refine lv_iload_n hx hb dX8_giftOf_17 rfl (lv_at hl 1 rfl) ?_
    refine lv_ishr hx hb dX8_giftOf_18 ?_
    refine lv_topi (fun x18 ex18 => ?_)
    refine lv_iconst (v := 1) hx hb dX8_giftOf_19 (by decide) ?_
    refine lv_iand hx hb dX8_giftOf_20 ?_
    refine lv_topi (fun x20 ex20 => ?_)
    have bx20 : iv x20 0 1 := iv_and_r (show iv 1 0 1 from ⟨by decide, by decide⟩) ex20
    have J29 : ∀ (y29_s0 : Int32), iv y29_s0 1 2 → ∀ (ls : Array Slot), lv_has ls 3 [(0, .ref ap0), (1, .int xp1)] → WX8_giftOf p l e s m below meth c D T ap0 xp1 s.heap [] (F0 m 29 ls [.int y29_s0]) := by
      intro y29_s0 c29_y29_s0 ls hl
      refine lv_istore_n (lv' := [(2, .int y29_s0), (0, .ref ap0), (1, .int xp1)]) hx hb dX8_giftOf_29 rfl hl (by decide) rfl (fun ls hl => ?_)
      refine lv_aload_n hx hb dX8_giftOf_30 rfl (lv_at hl 1 rfl) ?_
      refine hp_getA hx hb hts IX8 hown hK hw.1 hp0 rfl 4 (by decide) L24 rfl dX8_giftOf_31 (fun x31 fx31 => ?_)
      refine lv_iload_n hx hb dX8_giftOf_34 rfl (lv_at hl 2 rfl) ?_
      refine lv_ishr hx hb dX8_giftOf_35 ?_
      refine lv_topi (fun x35 ex35 => ?_)
      refine lv_iconst (v := 1) hx hb dX8_giftOf_36 (by decide) ?_
      refine lv_iand hx hb dX8_giftOf_37 ?_
      refine lv_topi (fun x37 ex37 => ?_)
      have bx37 : iv x37 0 1 := iv_and_r (show iv 1 0 1 from ⟨by decide, by decide⟩) ex37
      have J47 : ∀ (y47_s0 : Int32), iv y47_s0 (-2) 2 → ∀ (ls : Array Slot), lv_has ls 3 [] → WX8_giftOf p l e s m below meth c D T ap0 xp1 s.heap [] (F0 m 47 ls [.int y47_s0]) := by
        intro y47_s0 c47_y47_s0 ls hl
        exact W.iret (v := y47_s0) hx hb hr (fun t ht hW => ⟨some (.int y47_s0), rfl, ⟨y47_s0, rfl, trivial⟩, ht⟩) (fun q h => by cases h) dX8_giftOf_47
      refine lv_if_eq (tgt := 46) hx hb dX8_giftOf_38 (by decide) (fun c38 => ?_) (fun c38 => ?_)
      · have r38tp : iv x37 0 0 := (iv_both bx37 (iv_eq (show iv 0 0 0 from ⟨by decide, by decide⟩) c38)).mono (by decide) (by decide)
        refine lv_iload_n hx hb dX8_giftOf_46 rfl (lv_at hl 0 rfl) ?_
        exact J47 y29_s0 (c29_y29_s0.mono (by decide) (by decide)) _ (lv_sub hl [] rfl)
      · have r38fp : iv x37 1 1 := (iv_ne_lo c38 bx37 rfl).mono (by decide) (by decide)
        refine lv_iload_n hx hb dX8_giftOf_41 rfl (lv_at hl 0 rfl) ?_
        refine lv_ineg hx hb dX8_giftOf_42 ?_
        refine lv_topi (fun x42 ex42 => ?_)
        have bx42 : iv x42 (-2) (-1) := iv_neg c29_y29_s0 ex42 (by decide)
        refine lv_goto (tgt := 47) hx hb dX8_giftOf_43 (by decide) ?_
        exact J47 x42 (bx42.mono (by decide) (by decide)) _ (lv_sub hl [] rfl)
    refine lv_if_eq (tgt := 28) hx hb dX8_giftOf_21 (by decide) (fun c21 => ?_) (fun c21 => ?_)
    · have r21tp : iv x20 0 0 := (iv_both bx20 (iv_eq (show iv 0 0 0 from ⟨by decide, by decide⟩) c21)).mono (by decide) (by decide)
      refine lv_iconst (v := 2) hx hb dX8_giftOf_28 (by decide) ?_
      exact J29 (2 : Int32) (show iv 2 1 2 from ⟨by decide, by decide⟩) _ (lv_sub hl [0, 1] rfl)
    · have r21fp : iv x20 1 1 := (iv_ne_lo c21 bx20 rfl).mono (by decide) (by decide)
      refine lv_iconst (v := 1) hx hb dX8_giftOf_24 (by decide) ?_
      refine lv_goto (tgt := 29) hx hb dX8_giftOf_25 (by decide) ?_
      exact J29 (1 : Int32) (show iv 1 1 2 from ⟨by decide, by decide⟩) _ (lv_sub hl [0, 1] rfl)
  · have r8fp : iv x7 1 1 := (iv_ne_lo c8 bx7 rfl).mono (by decide) (by decide)
    refine lv_iconst (v := 0) hx hb dX8_giftOf_11 (by decide) ?_
    exact W.iret (v := 0) hx hb hr (fun t ht hW => ⟨some (.int 0), rfl, ⟨(0 : Int32), rfl, trivial⟩, ht⟩) (fun q h => by cases h) dX8_giftOf_12
abbrev WX8_passedOn (p : Program) (l : Launch) (e : Env) (s : State) (m : MethodId) (below : List Frame) (meth : Method) (c : Code) (D : hp_D) (T : hp_T) (ap0 : Nat) (xp1 : Int32) (xp2 : Int32) (H : Heap) (locs : List Loc) (g : JFrame) : Prop := W p l e (headSpec wsX8_passedOn ({ frames := 2, cells := 0, slots := 0, locals := 43 })).room s m ([.ref ap0, .int xp1, .int xp2] : List Value).toArray below meth c H locs 0 0 (MQ below (hq_p (fun v => ∃ r : Int32, v = some (.int r) ∧ True)) ([.ref ap0, .int xp1, .int xp2] : List Value).toArray s 0 0 (fun _ => False)) g
set_option maxHeartbeats 4000000 in
set_option maxRecDepth 100000 in
theorem sX8_passedOn (l : Launch) (D : hp_D) (T : hp_T) (ap0 : Nat) (xp1 : Int32) (xp2 : Int32) (ip0 : isTown T ap0) : Met l yX8_passedOn wsX8_passedOn ({ frames := 2, cells := 0, slots := 0, locals := 43 }) (hp_Pc D T [.ref ap0, .int xp1, .int xp2] (fun _ => True)) (hq_p (fun v => ∃ r : Int32, v = some (.int r) ∧ True)) 0 0 (fun _ => False) := by
  obtain ⟨ap0kin, ap0pl, ap0cr, hp0, hp0kin, hp0pl, hp0cr⟩ := id ip0
  refine Met.ofW (cc := cX8_passedOn) (maxL := 6) (ret := (some .int)) (by decide) rfl ?_
  intro p e s m args below meth c s₁ B hml hv
  obtain ⟨rfl, hok, hG, hB⟩ := hv
  have hx := B.exec
  have hb := B.bytes
  have hr := B.returns
  have hts := atoms_spec (ws := wsX8_passedOn) B.pre
  have hown : s.vm.findClass RX8 = some m.cls := findClass_of_methodNamed B.named
  have hlocks := B.notSynchronized
  have hK := hG.1
  have hw : hp_w D T s s.heap [] := hp_w.rf hok
  have IX8 : ∀ w ∈ wsX80, w ∈ wsX8_passedOn := by decide +kernel
  have L9 := hts (.fieldLink RX8 9 "PalmCensus$Town" "gates" "I") (by decide +kernel)
  have hl := lv_entry ([.ref ap0, .int xp1, .int xp2]) (n := 6) (Nat.le_of_ble_eq_true rfl)
  rw [lg_entry_eq]
  generalize (lg_sl ([.ref ap0, .int xp1, .int xp2]) ++ List.replicate (6 - (lg_sl ([.ref ap0, .int xp1, .int xp2])).length) Slot.unset).toArray = ls at hl ⊢
  have hl : lv_has ls 6 [(0, .ref ap0), (1, .int xp1), (2, .int xp2)] := hl
  show WX8_passedOn p l e s m below meth c D T ap0 xp1 xp2 s.heap [] (F0 m 0 ls [])
  refine lv_iload_n hx hb dX8_passedOn_0 rfl (lv_at hl 1 rfl) ?_
  refine lv_istore_n (lv' := [(3, .int xp1), (0, .ref ap0), (1, .int xp1), (2, .int xp2)]) hx hb dX8_passedOn_1 rfl hl (by decide) rfl (fun ls hl => ?_)
  refine lv_iconst (v := 0) hx hb dX8_passedOn_2 (by decide) ?_
  refine lv_istore (lv' := [(4, .int 0), (3, .int xp1), (0, .ref ap0), (1, .int xp1), (2, .int xp2)]) hx hb dX8_passedOn_3 hl (by decide) rfl (fun ls hl => ?_)
  have J5 : ∀ (n : Nat) (y5_l3 y5_l4 : Int32), (6 - y5_l4.toInt).toNat < n → iv y5_l4 0 6 → ∀ (ls : Array Slot), lv_has ls 6 [(0, .ref ap0), (1, .int xp1), (2, .int xp2), (3, .int y5_l3), (4, .int y5_l4)] → WX8_passedOn p l e s m below meth c D T ap0 xp1 xp2 s.heap [] (F0 m 5 ls []) := by
    intro n
    induction n with
    | zero => intro y5_l3 y5_l4 hmu5 c5_y5_l4 ls hl; exact absurd hmu5 (Nat.not_lt_zero _)
    | succ n ih5 =>
      intro y5_l3 y5_l4 hmu5 c5_y5_l4 ls hl
      refine lv_iload hx hb dX8_passedOn_5 (lv_at hl 4 rfl) ?_
      refine lv_aload_n hx hb dX8_passedOn_7 rfl (lv_at hl 0 rfl) ?_
      refine hp_geti hx hb hts IX8 hown hK hw.1 hp0 rfl 0 (by decide) L9 rfl dX8_passedOn_8 (fun x8 bx8 fx8 => ?_)
      refine lv_icmp_ge (tgt := 41) hx hb dX8_passedOn_11 (by decide) (fun c11 => ?_) (fun c11 => ?_)
      · refine lv_iload_n hx hb dX8_passedOn_41 rfl (lv_at hl 3 rfl) ?_
        exact W.iret (v := y5_l3) hx hb hr (fun t ht hW => ⟨some (.int y5_l3), rfl, ⟨y5_l3, rfl, trivial⟩, ht⟩) (fun q h => by cases h) dX8_passedOn_42
      · have r11fp : iv y5_l4 0 5 := (iv_lt_l (iv_nle c11) c5_y5_l4 bx8).mono (by decide) (by decide)
        have r11fq : iv x8 1 6 := (iv_lt_r (iv_nle c11) c5_y5_l4 bx8).mono (by decide) (by decide)
        refine lv_aload_n hx hb dX8_passedOn_14 rfl (lv_at hl 0 rfl) ?_
        refine lv_iload hx hb dX8_passedOn_15 (lv_at hl 4 rfl) ?_
        refine lv_iload_n hx hb dX8_passedOn_17 rfl (lv_at hl 2 rfl) ?_
        refine hp_callpi (va_runV (As := [.int y5_l4, .int xp2]) (rest := []) ⟨hx, hb, hml, hown, hts⟩ (sX8_those l D T ap0 y5_l4 xp2 ip0) (cwV 2 hts gX8_passedOn_X8_those rfl rfl rfl (by decide +kernel) ⟨Nat.le_of_ble_eq_true rfl, Nat.le_of_ble_eq_true rfl⟩) (hp_preV hG hw hp0 rfl trivial) rfl rfl hl.1 rfl (lv_room (Nat.le_of_ble_eq_true rfl)) dX8_passedOn_18 ⟨Nat.zero_le _, Nat.zero_le _⟩) (fun x18 bx18 => ?_)
        refine lv_istore (lv' := [(5, .int x18), (0, .ref ap0), (1, .int xp1), (2, .int xp2), (3, .int y5_l3), (4, .int y5_l4)]) hx hb dX8_passedOn_21 hl (by decide) rfl (fun ls hl => ?_)
        refine lv_iload hx hb dX8_passedOn_23 (lv_at hl 0 rfl) ?_
        refine lv_iload_n hx hb dX8_passedOn_25 rfl (lv_at hl 2 rfl) ?_
        refine lv_iand hx hb dX8_passedOn_26 ?_
        refine lv_topi (fun x26 ex26 => ?_)
        have bx26 : iv x26 0 1023 := iv_and_l bx18 ex26
        have J35 : ∀ (y35_l3 : Int32), iv y5_l4 0 5 → iv x8 1 6 → ∀ (ls : Array Slot), lv_has ls 6 [(0, .ref ap0), (1, .int xp1), (2, .int xp2), (3, .int y35_l3), (4, .int y5_l4)] → WX8_passedOn p l e s m below meth c D T ap0 xp1 xp2 s.heap [] (F0 m 35 ls []) := by
          intro y35_l3 c35_y5_l4 c35_x8 ls hl
          obtain ⟨x35, ex35⟩ : ∃ y : Int32, y = y5_l4 + 1 := ⟨_, rfl⟩
          have bx35 : iv x35 1 6 := iv_add c35_y5_l4 (show iv 1 1 1 from ⟨by decide, by decide⟩) ex35 (by decide)
          have qx35 := iv_add_eq c35_y5_l4 (show iv 1 1 1 from ⟨by decide, by decide⟩) ex35 (by decide)
          refine lv_iinc (v := x35) (lv' := [(4, .int x35), (0, .ref ap0), (1, .int xp1), (2, .int xp2), (3, .int y35_l3)]) hx hb dX8_passedOn_35 hl (k := 4) rfl (by rw [ex35]; rfl) (by decide) rfl (fun ls hl => ?_)
          refine lv_goto (tgt := 5) hx hb dX8_passedOn_38 (by decide) ?_
          exact ih5 y35_l3 x35 (mu_up 1 hmu5 (qx35) (by decide) (show iv x35 0 6 from (bx35.mono (by decide) (by decide))).2) (bx35.mono (by decide) (by decide)) _ (lv_sub hl [1, 2, 3, 4, 0] rfl)
        refine lv_if_eq (tgt := 35) hx hb dX8_passedOn_27 (by decide) (fun c27 => ?_) (fun c27 => ?_)
        · have r27tp : iv x26 0 0 := (iv_both bx26 (iv_eq (show iv 0 0 0 from ⟨by decide, by decide⟩) c27)).mono (by decide) (by decide)
          exact J35 y5_l3 r11fp r11fq _ (lv_sub hl [1, 2, 3, 4, 5] rfl)
        · have r27fp : iv x26 1 1023 := (iv_ne_lo c27 bx26 rfl).mono (by decide) (by decide)
          refine lv_iload_n hx hb dX8_passedOn_30 rfl (lv_at hl 4 rfl) ?_
          refine lv_iload hx hb dX8_passedOn_31 (lv_at hl 0 rfl) ?_
          refine lv_ior hx hb dX8_passedOn_33 ?_
          refine lv_topi (fun x33 ex33 => ?_)
          refine lv_istore_n (lv' := [(3, .int x33), (5, .int x18), (0, .ref ap0), (1, .int xp1), (2, .int xp2), (4, .int y5_l4)]) hx hb dX8_passedOn_34 rfl hl (by decide) rfl (fun ls hl => ?_)
          exact J35 x33 r11fp r11fq _ (lv_sub hl [2, 3, 4, 0, 5] rfl)
  exact J5 _ xp1 (0 : Int32) (Nat.lt_succ_self _) (show iv 0 0 6 from ⟨by decide, by decide⟩) _ (lv_sub hl [2, 3, 4, 1, 0] rfl)
abbrev WX8_islandOf (p : Program) (l : Launch) (e : Env) (s : State) (m : MethodId) (below : List Frame) (meth : Method) (c : Code) (D : hp_D) (T : hp_T) (ap0 : Nat) (xp1 : Int32) (H : Heap) (locs : List Loc) (g : JFrame) : Prop := W p l e (headSpec wsX8_islandOf ({ frames := 3, cells := 0, slots := 0, locals := 68 })).room s m ([.ref ap0, .int xp1] : List Value).toArray below meth c H locs 0 0 (MQ below (hq_p (fun v => ∃ r : Int32, v = some (.int r) ∧ True)) ([.ref ap0, .int xp1] : List Value).toArray s 0 0 (fun _ => False)) g
set_option maxHeartbeats 4000000 in
set_option maxRecDepth 100000 in
theorem sX8_islandOf (l : Launch) (D : hp_D) (T : hp_T) (ap0 : Nat) (xp1 : Int32) (ip0 : isTown T ap0) : Met l yX8_islandOf wsX8_islandOf ({ frames := 3, cells := 0, slots := 0, locals := 68 }) (hp_Pc D T [.ref ap0, .int xp1] (fun _ => True)) (hq_p (fun v => ∃ r : Int32, v = some (.int r) ∧ True)) 0 0 (fun _ => False) := by
  obtain ⟨ap0kin, ap0pl, ap0cr, hp0, hp0kin, hp0pl, hp0cr⟩ := id ip0
  refine Met.ofW (cc := cX8_islandOf) (maxL := 5) (ret := (some .int)) (by decide) rfl ?_
  intro p e s m args below meth c s₁ B hml hv
  obtain ⟨rfl, hok, hG, hB⟩ := hv
  have hx := B.exec
  have hb := B.bytes
  have hr := B.returns
  have hts := atoms_spec (ws := wsX8_islandOf) B.pre
  have hown : s.vm.findClass RX8 = some m.cls := findClass_of_methodNamed B.named
  have hlocks := B.notSynchronized
  have hK := hG.1
  have hw : hp_w D T s s.heap [] := hp_w.rf hok
  have IX8 : ∀ w ∈ wsX80, w ∈ wsX8_islandOf := by decide +kernel
  have L18 := hts (.fieldLink RX8 18 "PalmCensus$Town" "people" "I") (by decide +kernel)
  have L15 := hts (.fieldLink RX8 15 "PalmCensus$Town" "hours" "I") (by decide +kernel)
  have hl := lv_entry ([.ref ap0, .int xp1]) (n := 5) (Nat.le_of_ble_eq_true rfl)
  rw [lg_entry_eq]
  generalize (lg_sl ([.ref ap0, .int xp1]) ++ List.replicate (5 - (lg_sl ([.ref ap0, .int xp1])).length) Slot.unset).toArray = ls at hl ⊢
  have hl : lv_has ls 5 [(0, .ref ap0), (1, .int xp1)] := hl
  show WX8_islandOf p l e s m below meth c D T ap0 xp1 s.heap [] (F0 m 0 ls [])
  refine lv_iconst (v := 1) hx hb dX8_islandOf_0 (by decide) ?_
  refine lv_iload_n hx hb dX8_islandOf_1 rfl (lv_at hl 1 rfl) ?_
  refine lv_ishl hx hb dX8_islandOf_2 ?_
  refine lv_topi (fun x2 ex2 => ?_)
  refine lv_istore_n (lv' := [(2, .int x2), (0, .ref ap0), (1, .int xp1)]) hx hb dX8_islandOf_3 rfl hl (by decide) rfl (fun ls hl => ?_)
  refine lv_iconst (v := 0) hx hb dX8_islandOf_4 (by decide) ?_
  refine lv_istore_n (lv' := [(3, .int 0), (2, .int x2), (0, .ref ap0), (1, .int xp1)]) hx hb dX8_islandOf_5 rfl hl (by decide) rfl (fun ls hl => ?_)
  have J6 : ∀ (n : Nat) (y6_l2 y6_l3 : Int32), (10 - y6_l3.toInt).toNat < n → iv y6_l3 0 10 → ∀ (ls : Array Slot), lv_has ls 5 [(0, .ref ap0), (2, .int y6_l2), (3, .int y6_l3)] → WX8_islandOf p l e s m below meth c D T ap0 xp1 s.heap [] (F0 m 6 ls []) := by
    intro n
    induction n with
    | zero => intro y6_l2 y6_l3 hmu6 c6_y6_l3 ls hl; exact absurd hmu6 (Nat.not_lt_zero _)
    | succ n ih6 =>
      intro y6_l2 y6_l3 hmu6 c6_y6_l3 ls hl
      refine lv_iload_n hx hb dX8_islandOf_6 rfl (lv_at hl 2 rfl) ?_
      refine lv_aload_n hx hb dX8_islandOf_7 rfl (lv_at hl 0 rfl) ?_
      refine hp_geti hx hb hts IX8 hown hK hw.1 hp0 rfl 2 (by decide) L18 rfl dX8_islandOf_8 (fun x8 bx8 fx8 => ?_)
      refine lv_icmp_ge (tgt := 46) hx hb dX8_islandOf_11 (by decide) (fun c11 => ?_) (fun c11 => ?_)
      · refine lv_iload_n hx hb dX8_islandOf_46 rfl (lv_at hl 1 rfl) ?_
        exact W.iret (v := y6_l2) hx hb hr (fun t ht hW => ⟨some (.int y6_l2), rfl, ⟨y6_l2, rfl, trivial⟩, ht⟩) (fun q h => by cases h) dX8_islandOf_47
      · have r11fp : iv y6_l3 0 9 := (iv_lt_l (iv_nle c11) c6_y6_l3 bx8).mono (by decide) (by decide)
        have r11fq : iv x8 1 10 := (iv_lt_r (iv_nle c11) c6_y6_l3 bx8).mono (by decide) (by decide)
        refine lv_iconst (v := 0) hx hb dX8_islandOf_14 (by decide) ?_
        refine lv_istore (lv' := [(4, .int 0), (0, .ref ap0), (2, .int y6_l2), (3, .int y6_l3)]) hx hb dX8_islandOf_15 hl (by decide) rfl (fun ls hl => ?_)
        have J17 : ∀ (n : Nat) (y17_l2 y17_l4 : Int32), (12 - y17_l4.toInt).toNat < n → iv y6_l3 0 9 → iv y17_l4 0 12 → iv x8 1 10 → ∀ (ls : Array Slot), lv_has ls 5 [(0, .ref ap0), (2, .int y17_l2), (3, .int y6_l3), (4, .int y17_l4)] → WX8_islandOf p l e s m below meth c D T ap0 xp1 s.heap [] (F0 m 17 ls []) := by
          intro n
          induction n with
          | zero => intro y17_l2 y17_l4 hmu17 c17_y6_l3 c17_y17_l4 c17_x8 ls hl; exact absurd hmu17 (Nat.not_lt_zero _)
          | succ n ih17 =>
            intro y17_l2 y17_l4 hmu17 c17_y6_l3 c17_y17_l4 c17_x8 ls hl
            refine lv_iload hx hb dX8_islandOf_17 (lv_at hl 3 rfl) ?_
            refine lv_aload_n hx hb dX8_islandOf_19 rfl (lv_at hl 0 rfl) ?_
            refine hp_geti hx hb hts IX8 hown hK hw.1 hp0 rfl 1 (by decide) L15 rfl dX8_islandOf_20 (fun x20 bx20 fx20 => ?_)
            refine lv_icmp_ge (tgt := 40) hx hb dX8_islandOf_23 (by decide) (fun c23 => ?_) (fun c23 => ?_)
            · obtain ⟨x40, ex40⟩ : ∃ y : Int32, y = y6_l3 + 1 := ⟨_, rfl⟩
              have bx40 : iv x40 1 10 := iv_add c17_y6_l3 (show iv 1 1 1 from ⟨by decide, by decide⟩) ex40 (by decide)
              have qx40 := iv_add_eq c17_y6_l3 (show iv 1 1 1 from ⟨by decide, by decide⟩) ex40 (by decide)
              refine lv_iinc (v := x40) (lv' := [(3, .int x40), (0, .ref ap0), (2, .int y17_l2), (4, .int y17_l4)]) hx hb dX8_islandOf_40 hl (k := 2) rfl (by rw [ex40]; rfl) (by decide) rfl (fun ls hl => ?_)
              refine lv_goto (tgt := 6) hx hb dX8_islandOf_43 (by decide) ?_
              exact ih6 y17_l2 x40 (mu_up 1 hmu6 (qx40) (by decide) (show iv x40 0 10 from (bx40.mono (by decide) (by decide))).2) (bx40.mono (by decide) (by decide)) _ (lv_sub hl [1, 2, 0] rfl)
            · have r23fp : iv y17_l4 0 11 := (iv_lt_l (iv_nle c23) c17_y17_l4 bx20).mono (by decide) (by decide)
              have r23fq : iv x20 1 12 := (iv_lt_r (iv_nle c23) c17_y17_l4 bx20).mono (by decide) (by decide)
              refine lv_aload_n hx hb dX8_islandOf_26 rfl (lv_at hl 0 rfl) ?_
              refine lv_iload_n hx hb dX8_islandOf_27 rfl (lv_at hl 1 rfl) ?_
              refine lv_iload hx hb dX8_islandOf_28 (lv_at hl 3 rfl) ?_
              refine hp_callpi (va_runV (As := [.int y17_l2, .int y17_l4]) (rest := []) ⟨hx, hb, hml, hown, hts⟩ (sX8_passedOn l D T ap0 y17_l2 y17_l4 ip0) (cwV 2 hts gX8_islandOf_X8_passedOn rfl rfl rfl (by decide +kernel) ⟨Nat.le_of_ble_eq_true rfl, Nat.le_of_ble_eq_true rfl⟩) (hp_preV hG hw hp0 rfl trivial) rfl rfl hl.1 rfl (lv_room (Nat.le_of_ble_eq_true rfl)) dX8_islandOf_30 ⟨Nat.zero_le _, Nat.zero_le _⟩) (fun x30 bx30 => ?_)
              refine lv_istore_n (lv' := [(2, .int x30), (0, .ref ap0), (3, .int y6_l3), (4, .int y17_l4)]) hx hb dX8_islandOf_33 rfl hl (by decide) rfl (fun ls hl => ?_)
              obtain ⟨x34, ex34⟩ : ∃ y : Int32, y = y17_l4 + 1 := ⟨_, rfl⟩
              have bx34 : iv x34 1 12 := iv_add r23fp (show iv 1 1 1 from ⟨by decide, by decide⟩) ex34 (by decide)
              have qx34 := iv_add_eq r23fp (show iv 1 1 1 from ⟨by decide, by decide⟩) ex34 (by decide)
              refine lv_iinc (v := x34) (lv' := [(4, .int x34), (2, .int x30), (0, .ref ap0), (3, .int y6_l3)]) hx hb dX8_islandOf_34 hl (k := 3) rfl (by rw [ex34]; rfl) (by decide) rfl (fun ls hl => ?_)
              refine lv_goto (tgt := 17) hx hb dX8_islandOf_37 (by decide) ?_
              exact ih17 x30 x34 (mu_up 1 hmu17 (qx34) (by decide) (show iv x34 0 12 from (bx34.mono (by decide) (by decide))).2) c17_y6_l3 (bx34.mono (by decide) (by decide)) c17_x8 _ (lv_sub hl [2, 1, 3, 0] rfl)
        exact J17 _ y6_l2 (0 : Int32) (Nat.lt_succ_self _) r11fp (show iv 0 0 12 from ⟨by decide, by decide⟩) r11fq _ (lv_sub hl [1, 2, 3, 0] rfl)
  exact J6 _ x2 (0 : Int32) (Nat.lt_succ_self _) (show iv 0 0 10 from ⟨by decide, by decide⟩) _ (lv_sub hl [2, 1, 0] rfl)
abbrev WX8_nextDraw (p : Program) (l : Launch) (e : Env) (s : State) (m : MethodId) (below : List Frame) (meth : Method) (c : Code) (D : hp_D) (T : hp_T) (xp0 : Int32) (H : Heap) (locs : List Loc) (g : JFrame) : Prop := W p l e (headSpec wsX8_nextDraw ({ frames := 0, cells := 0, slots := 0, locals := 0 })).room s m ([.int xp0] : List Value).toArray below meth c H locs 0 0 (MQ below (hq_p (fun v => ∃ r : Int32, v = some (.int r) ∧ iv r 0 2147483647)) ([.int xp0] : List Value).toArray s 0 0 (fun _ => False)) g
set_option maxHeartbeats 4000000 in
set_option maxRecDepth 100000 in
theorem sX8_nextDraw (l : Launch) (D : hp_D) (T : hp_T) (xp0 : Int32)  : Met l yX8_nextDraw wsX8_nextDraw ({ frames := 0, cells := 0, slots := 0, locals := 0 }) (hp_Pc D T [.int xp0] (fun _ => True)) (hq_p (fun v => ∃ r : Int32, v = some (.int r) ∧ iv r 0 2147483647)) 0 0 (fun _ => False) := by
  refine Met.ofW (cc := cX8_nextDraw) (maxL := 1) (ret := (some .int)) (by decide) rfl ?_
  intro p e s m args below meth c s₁ B hml hv
  obtain ⟨rfl, hok, hG, hB⟩ := hv
  have hx := B.exec
  have hb := B.bytes
  have hr := B.returns
  have hts := atoms_spec (ws := wsX8_nextDraw) B.pre
  have hown : s.vm.findClass RX8 = some m.cls := findClass_of_methodNamed B.named
  have hlocks := B.notSynchronized
  have hK := hG.1
  have hw : hp_w D T s s.heap [] := hp_w.rf hok
  have K97 := hts (.constant RX8 97 1103515245) (by decide +kernel)
  have K98 := hts (.constant RX8 98 2147483647) (by decide +kernel)
  have hl := lv_entry ([.int xp0]) (n := 1) (Nat.le_of_ble_eq_true rfl)
  rw [lg_entry_eq]
  generalize (lg_sl ([.int xp0]) ++ List.replicate (1 - (lg_sl ([.int xp0])).length) Slot.unset).toArray = ls at hl ⊢
  have hl : lv_has ls 1 [(0, .int xp0)] := hl
  show WX8_nextDraw p l e s m below meth c D T xp0 s.heap [] (F0 m 0 ls [])
  refine lv_iload_n hx hb dX8_nextDraw_0 rfl (lv_at hl 0 rfl) ?_
  refine lv_ldc (v := 1103515245) hx hb hown K97 dX8_nextDraw_1 ?_
  refine lv_imul hx hb dX8_nextDraw_3 ?_
  refine lv_topi (fun x3 ex3 => ?_)
  refine lv_sipush (v := 12345) hx hb dX8_nextDraw_4 (by decide) ?_
  refine lv_iadd hx hb dX8_nextDraw_7 ?_
  refine lv_topi (fun x7 ex7 => ?_)
  refine lv_ldc (v := 2147483647) hx hb hown K98 dX8_nextDraw_8 ?_
  refine lv_iand hx hb dX8_nextDraw_10 ?_
  refine lv_topi (fun x10 ex10 => ?_)
  have bx10 : iv x10 0 2147483647 := iv_and_r (show iv 2147483647 0 2147483647 from ⟨by decide, by decide⟩) ex10
  exact W.iret (v := x10) hx hb hr (fun t ht hW => ⟨some (.int x10), rfl, ⟨x10, rfl, bx10⟩, ht⟩) (fun q h => by cases h) dX8_nextDraw_11
abbrev WX8_scatter (p : Program) (l : Launch) (e : Env) (s : State) (m : MethodId) (below : List Frame) (meth : Method) (c : Code) (D : hp_D) (T : hp_T) (ap0 : Nat) (xp1 : Int32) (xp2 : Int32) (H : Heap) (locs : List Loc) (g : JFrame) : Prop := W p l e (headSpec wsX8_scatter ({ frames := 3, cells := 0, slots := 0, locals := 67 })).room s m ([.ref ap0, .int xp1, .int xp2] : List Value).toArray below meth c H locs 0 0 (MQ below (hq_e D T (fun v _ _ => ∃ r : Int32, v = some (.int r) ∧ True)) ([.ref ap0, .int xp1, .int xp2] : List Value).toArray s 0 0 (hp_F T)) g
set_option maxHeartbeats 4000000 in
set_option maxRecDepth 100000 in
theorem sX8_scatter (l : Launch) (D : hp_D) (T : hp_T) (ap0 : Nat) (xp1 : Int32) (xp2 : Int32) (ip0 : isTown T ap0) : Met l yX8_scatter wsX8_scatter ({ frames := 3, cells := 0, slots := 0, locals := 67 }) (hp_Pc D T [.ref ap0, .int xp1, .int xp2] (fun _ => True)) (hq_e D T (fun v _ _ => ∃ r : Int32, v = some (.int r) ∧ True)) 0 0 (hp_F T) := by
  obtain ⟨ap0kin, ap0pl, ap0cr, hp0, hp0kin, hp0pl, hp0cr⟩ := id ip0
  refine Met.ofW (cc := cX8_scatter) (maxL := 7) (ret := (some .int)) (by decide) rfl ?_
  intro p e s m args below meth c s₁ B hml hv
  obtain ⟨rfl, hok, hG, hB⟩ := hv
  have hx := B.exec
  have hb := B.bytes
  have hr := B.returns
  have hts := atoms_spec (ws := wsX8_scatter) B.pre
  have hown : s.vm.findClass RX8 = some m.cls := findClass_of_methodNamed B.named
  have hlocks := B.notSynchronized
  have hK := hG.1
  have hw : hp_w D T s s.heap [] := hp_w.rf hok
  have IX8 : ∀ w ∈ wsX80, w ∈ wsX8_scatter := by decide +kernel
  have L18 := hts (.fieldLink RX8 18 "PalmCensus$Town" "people" "I") (by decide +kernel)
  have L15 := hts (.fieldLink RX8 15 "PalmCensus$Town" "hours" "I") (by decide +kernel)
  have L9 := hts (.fieldLink RX8 9 "PalmCensus$Town" "gates" "I") (by decide +kernel)
  have hl := lv_entry ([.ref ap0, .int xp1, .int xp2]) (n := 7) (Nat.le_of_ble_eq_true rfl)
  rw [lg_entry_eq]
  generalize (lg_sl ([.ref ap0, .int xp1, .int xp2]) ++ List.replicate (7 - (lg_sl ([.ref ap0, .int xp1, .int xp2])).length) Slot.unset).toArray = ls at hl ⊢
  have hl : lv_has ls 7 [(0, .ref ap0), (1, .int xp1), (2, .int xp2)] := hl
  show WX8_scatter p l e s m below meth c D T ap0 xp1 xp2 s.heap [] (F0 m 0 ls [])
  refine lv_iload_n hx hb dX8_scatter_0 rfl (lv_at hl 1 rfl) ?_
  refine lv_istore_n (lv' := [(3, .int xp1), (0, .ref ap0), (1, .int xp1), (2, .int xp2)]) hx hb dX8_scatter_1 rfl hl (by decide) rfl (fun ls hl => ?_)
  refine lv_iconst (v := 0) hx hb dX8_scatter_2 (by decide) ?_
  refine lv_istore (lv' := [(4, .int 0), (3, .int xp1), (0, .ref ap0), (1, .int xp1), (2, .int xp2)]) hx hb dX8_scatter_3 hl (by decide) rfl (fun ls hl => ?_)
  have J5 : ∀ (n : Nat) (y5_l3 y5_l4 : Int32), (10 - y5_l4.toInt).toNat < n → iv y5_l4 0 10 → ∀ (H : Heap) (locs : List Loc), hp_w D T s H locs → ∀ (ls : Array Slot), lv_has ls 7 [(0, .ref ap0), (2, .int xp2), (3, .int y5_l3), (4, .int y5_l4)] → WX8_scatter p l e s m below meth c D T ap0 xp1 xp2 H locs (F0 m 5 ls []) := by
    intro n
    induction n with
    | zero => intro y5_l3 y5_l4 hmu5 c5_y5_l4 H5 locs5 hw ls hl; exact absurd hmu5 (Nat.not_lt_zero _)
    | succ n ih5 =>
      intro y5_l3 y5_l4 hmu5 c5_y5_l4 H5 locs5 hw ls hl
      refine lv_iload hx hb dX8_scatter_5 (lv_at hl 3 rfl) ?_
      refine lv_aload_n hx hb dX8_scatter_7 rfl (lv_at hl 0 rfl) ?_
      refine hp_geti hx hb hts IX8 hown hK hw.1 hp0 rfl 2 (by decide) L18 rfl dX8_scatter_8 (fun x8 bx8 fx8 => ?_)
      refine lv_icmp_ge (tgt := 96) hx hb dX8_scatter_11 (by decide) (fun c11 => ?_) (fun c11 => ?_)
      · refine lv_iload_n hx hb dX8_scatter_96 rfl (lv_at hl 2 rfl) ?_
        exact W.iret (v := y5_l3) hx hb hr (fun t ht hW => ⟨some (.int y5_l3), rfl, ⟨y5_l3, rfl, trivial⟩, by rw [ht]; exact hw.1, hw.2.F ht⟩) hw.2.2.2 dX8_scatter_97
      · have r11fp : iv y5_l4 0 9 := (iv_lt_l (iv_nle c11) c5_y5_l4 bx8).mono (by decide) (by decide)
        have r11fq : iv x8 1 10 := (iv_lt_r (iv_nle c11) c5_y5_l4 bx8).mono (by decide) (by decide)
        refine lv_iconst (v := 0) hx hb dX8_scatter_14 (by decide) ?_
        refine lv_istore (lv' := [(5, .int 0), (0, .ref ap0), (2, .int xp2), (3, .int y5_l3), (4, .int y5_l4)]) hx hb dX8_scatter_15 hl (by decide) rfl (fun ls hl => ?_)
        have J17 : ∀ (n : Nat) (y17_l3 y17_l5 : Int32), (12 - y17_l5.toInt).toNat < n → iv y5_l4 0 9 → iv y17_l5 0 12 → ∀ (H : Heap) (locs : List Loc), hp_w D T s H locs → ∀ (ls : Array Slot), lv_has ls 7 [(0, .ref ap0), (2, .int xp2), (3, .int y17_l3), (4, .int y5_l4), (5, .int y17_l5)] → WX8_scatter p l e s m below meth c D T ap0 xp1 xp2 H locs (F0 m 17 ls []) := by
          intro n
          induction n with
          | zero => intro y17_l3 y17_l5 hmu17 c17_y5_l4 c17_y17_l5 H17 locs17 hw ls hl; exact absurd hmu17 (Nat.not_lt_zero _)
          | succ n ih17 =>
            intro y17_l3 y17_l5 hmu17 c17_y5_l4 c17_y17_l5 H17 locs17 hw ls hl
            refine lv_iload hx hb dX8_scatter_17 (lv_at hl 4 rfl) ?_
            refine lv_aload_n hx hb dX8_scatter_19 rfl (lv_at hl 0 rfl) ?_
            refine hp_geti hx hb hts IX8 hown hK hw.1 hp0 rfl 1 (by decide) L15 rfl dX8_scatter_20 (fun x20 bx20 fx20 => ?_)
            refine lv_icmp_ge (tgt := 90) hx hb dX8_scatter_23 (by decide) (fun c23 => ?_) (fun c23 => ?_)
            · obtain ⟨x90, ex90⟩ : ∃ y : Int32, y = y5_l4 + 1 := ⟨_, rfl⟩
              have bx90 : iv x90 1 10 := iv_add c17_y5_l4 (show iv 1 1 1 from ⟨by decide, by decide⟩) ex90 (by decide)
              have qx90 := iv_add_eq c17_y5_l4 (show iv 1 1 1 from ⟨by decide, by decide⟩) ex90 (by decide)
              refine lv_iinc (v := x90) (lv' := [(4, .int x90), (0, .ref ap0), (2, .int xp2), (3, .int y17_l3), (5, .int y17_l5)]) hx hb dX8_scatter_90 hl (k := 3) rfl (by rw [ex90]; rfl) (by decide) rfl (fun ls hl => ?_)
              refine lv_goto (tgt := 5) hx hb dX8_scatter_93 (by decide) ?_
              exact ih5 y17_l3 x90 (mu_up 1 hmu5 (qx90) (by decide) (show iv x90 0 10 from (bx90.mono (by decide) (by decide))).2) (bx90.mono (by decide) (by decide)) H17 locs17 hw _ (lv_sub hl [1, 2, 3, 0] rfl)
            · have r23fp : iv y17_l5 0 11 := (iv_lt_l (iv_nle c23) c17_y17_l5 bx20).mono (by decide) (by decide)
              have r23fq : iv x20 1 12 := (iv_lt_r (iv_nle c23) c17_y17_l5 bx20).mono (by decide) (by decide)
              refine lv_iload_n hx hb dX8_scatter_26 rfl (lv_at hl 2 rfl) ?_
              refine hp_callpi (va_runS (As := [.int y17_l3]) (rest := []) ⟨hx, hb, hml, hown, hts⟩ (sX8_nextDraw l D T y17_l3) (va_cwS 1 hts gX8_scatter_X8_nextDraw rfl rfl rfl (by decide +kernel) ⟨Nat.le_of_ble_eq_true rfl, Nat.le_of_ble_eq_true rfl⟩) (hp_preS hG hw trivial) rfl rfl hl.1 rfl (lv_room (Nat.le_of_ble_eq_true rfl)) dX8_scatter_27 ⟨Nat.zero_le _, Nat.zero_le _⟩) (fun x27 bx27 => ?_)
              refine lv_istore_n (lv' := [(3, .int x27), (0, .ref ap0), (2, .int xp2), (4, .int y5_l4), (5, .int y17_l5)]) hx hb dX8_scatter_30 rfl hl (by decide) rfl (fun ls hl => ?_)
              refine lv_iload_n hx hb dX8_scatter_31 rfl (lv_at hl 0 rfl) ?_
              refine lv_bipush (v := 16) hx hb dX8_scatter_32 (by decide) ?_
              refine lv_ishr hx hb dX8_scatter_34 ?_
              refine lv_topi (fun x34 ex34 => ?_)
              have bx34 : iv x34 0 32767 := iv_shrk 16 bx27 ex34 (by decide) (by decide)
              refine lv_bipush (v := 100) hx hb dX8_scatter_35 (by decide) ?_
              refine lv_irem hx hb dX8_scatter_37 (iv_ne0 (show iv 100 100 100 from ⟨by decide, by decide⟩) (by decide)) ?_
              refine lv_topi (fun x37 ex37 => ?_)
              have bx37 : iv x37 0 99 := iv_rem bx34 (show iv 100 100 100 from ⟨by decide, by decide⟩) ex37 (by decide)
              refine lv_iload_n hx hb dX8_scatter_38 rfl (lv_at hl 2 rfl) ?_
              have J84 : ∀ (y84_l3 : Int32), iv y84_l3 0 2147483647 → iv y5_l4 0 9 → iv y17_l5 0 11 → ∀ (H : Heap) (locs : List Loc), hp_w D T s H locs → ∀ (ls : Array Slot), lv_has ls 7 [(0, .ref ap0), (2, .int xp2), (3, .int y84_l3), (4, .int y5_l4), (5, .int y17_l5)] → WX8_scatter p l e s m below meth c D T ap0 xp1 xp2 H locs (F0 m 84 ls []) := by
                intro y84_l3 c84_y84_l3 c84_y5_l4 c84_y17_l5 H84 locs84 hw ls hl
                obtain ⟨x84, ex84⟩ : ∃ y : Int32, y = y17_l5 + 1 := ⟨_, rfl⟩
                have bx84 : iv x84 1 12 := iv_add c84_y17_l5 (show iv 1 1 1 from ⟨by decide, by decide⟩) ex84 (by decide)
                have qx84 := iv_add_eq c84_y17_l5 (show iv 1 1 1 from ⟨by decide, by decide⟩) ex84 (by decide)
                refine lv_iinc (v := x84) (lv' := [(5, .int x84), (0, .ref ap0), (2, .int xp2), (3, .int y84_l3), (4, .int y5_l4)]) hx hb dX8_scatter_84 hl (k := 4) rfl (by rw [ex84]; rfl) (by decide) rfl (fun ls hl => ?_)
                refine lv_goto (tgt := 17) hx hb dX8_scatter_87 (by decide) ?_
                exact ih17 y84_l3 x84 (mu_up 1 hmu17 (qx84) (by decide) (show iv x84 0 12 from (bx84.mono (by decide) (by decide))).2) c84_y5_l4 (bx84.mono (by decide) (by decide)) H84 locs84 hw _ (lv_sub hl [1, 2, 3, 4, 0] rfl)
              refine lv_icmp_ge (tgt := 84) hx hb dX8_scatter_39 (by decide) (fun c39 => ?_) (fun c39 => ?_)
              · have r39tp : iv xp2 (-2147483648) 99 := (iv_le_l c39 (iv_any xp2) bx37).mono (by decide) (by decide)
                exact J84 x27 bx27 c17_y5_l4 r23fp H17 locs17 hw _ (lv_sub hl [1, 2, 0, 3, 4] rfl)
              · have r39fq : iv xp2 1 2147483647 := (iv_lt_r (iv_nle c39) bx37 (iv_any xp2)).mono (by decide) (by decide)
                refine lv_iload_n hx hb dX8_scatter_42 rfl (lv_at hl 0 rfl) ?_
                refine hp_callpi (va_runS (As := [.int x27]) (rest := []) ⟨hx, hb, hml, hown, hts⟩ (sX8_nextDraw l D T x27) (va_cwS 1 hts gX8_scatter_X8_nextDraw rfl rfl rfl (by decide +kernel) ⟨Nat.le_of_ble_eq_true rfl, Nat.le_of_ble_eq_true rfl⟩) (hp_preS hG hw trivial) rfl rfl hl.1 rfl (lv_room (Nat.le_of_ble_eq_true rfl)) dX8_scatter_43 ⟨Nat.zero_le _, Nat.zero_le _⟩) (fun x43 bx43 => ?_)
                refine lv_istore_n (lv' := [(3, .int x43), (0, .ref ap0), (2, .int xp2), (4, .int y5_l4), (5, .int y17_l5)]) hx hb dX8_scatter_46 rfl hl (by decide) rfl (fun ls hl => ?_)
                refine lv_iload_n hx hb dX8_scatter_47 rfl (lv_at hl 0 rfl) ?_
                refine lv_bipush (v := 16) hx hb dX8_scatter_48 (by decide) ?_
                refine lv_ishr hx hb dX8_scatter_50 ?_
                refine lv_topi (fun x50 ex50 => ?_)
                have bx50 : iv x50 0 32767 := iv_shrk 16 bx43 ex50 (by decide) (by decide)
                refine lv_aload_n hx hb dX8_scatter_51 rfl (lv_at hl 1 rfl) ?_
                refine hp_geti hx hb hts IX8 hown hK hw.1 hp0 rfl 0 (by decide) L9 rfl dX8_scatter_52 (fun x52 bx52 fx52 => ?_)
                refine lv_iconst (v := 1) hx hb dX8_scatter_55 (by decide) ?_
                refine lv_iadd hx hb dX8_scatter_56 ?_
                refine lv_topi (fun x56 ex56 => ?_)
                have bx56 : iv x56 1 7 := iv_add bx52 (show iv 1 1 1 from ⟨by decide, by decide⟩) ex56 (by decide)
                have qx56 := iv_add_eq bx52 (show iv 1 1 1 from ⟨by decide, by decide⟩) ex56 (by decide)
                refine lv_irem hx hb dX8_scatter_57 (iv_ne0 bx56 (by decide)) ?_
                refine lv_topi (fun x57 ex57 => ?_)
                have bx57 : iv x57 0 6 := iv_rem bx50 bx56 ex57 (by decide)
                refine lv_istore (lv' := [(6, .int x57), (3, .int x43), (0, .ref ap0), (2, .int xp2), (4, .int y5_l4), (5, .int y17_l5)]) hx hb dX8_scatter_58 hl (by decide) rfl (fun ls hl => ?_)
                refine lv_aload_n hx hb dX8_scatter_60 rfl (lv_at hl 2 rfl) ?_
                refine lv_iload hx hb dX8_scatter_61 (lv_at hl 4 rfl) ?_
                refine lv_iload hx hb dX8_scatter_63 (lv_at hl 5 rfl) ?_
                refine lv_iload hx hb dX8_scatter_65 (lv_at hl 0 rfl) ?_
                refine lv_aload_n hx hb dX8_scatter_67 rfl (lv_at hl 2 rfl) ?_
                refine hp_getf hx hb hts IX8 hown hK fx52 rfl (by decide) L9 dX8_scatter_68 ?_
                have J81 : ∀ (y81_s3 : Int32), iv xp2 1 2147483647 → iv x43 0 2147483647 → iv y5_l4 0 9 → iv y17_l5 0 11 → iv y81_s3 0 99 → ∀ (H : Heap) (locs : List Loc), hp_w D T s H locs → ∀ (ls : Array Slot), lv_has ls 7 [(0, .ref ap0), (2, .int xp2), (3, .int x43), (4, .int y5_l4), (5, .int y17_l5)] → WX8_scatter p l e s m below meth c D T ap0 xp1 xp2 H locs (F0 m 81 ls [.int y81_s3, .int y17_l5, .int y5_l4, .ref ap0]) := by
                  intro y81_s3 c81_xp2 c81_x43 c81_y5_l4 c81_y17_l5 c81_y81_s3 H81 locs81 hw ls hl
                  refine hp_callev (va_runV (As := [.int y5_l4, .int y17_l5, .int y81_s3]) (rest := []) ⟨hx, hb, hml, hown, hts⟩ (sX8_moveTo l D T ap0 y5_l4 y17_l5 y81_s3 ip0) (cwV 3 hts gX8_scatter_X8_moveTo rfl rfl rfl (by decide +kernel) ⟨Nat.le_of_ble_eq_true rfl, Nat.le_of_ble_eq_true rfl⟩) (hp_preV hG hw hp0 rfl trivial) rfl rfl hl.1 rfl (lv_room (Nat.le_of_ble_eq_true rfl)) dX8_scatter_81 ⟨Nat.zero_le _, Nat.zero_le _⟩) hw (fun st81 t81 H81 locs81 eh81 eg81 bx81 hw => ?_)
                  obtain ⟨bx81, g81⟩ := bx81
                  rw [eh81, eg81] at g81
                  exact J84 x43 c81_x43 c81_y5_l4 c81_y17_l5 H81 locs81 hw _ (lv_sub hl [0, 1, 2, 3, 4] rfl)
                refine lv_icmp_ne (tgt := 79) hx hb dX8_scatter_71 (by decide) (fun c71 => ?_) (fun c71 => ?_)
                · refine lv_iload hx hb dX8_scatter_79 (lv_at hl 0 rfl) ?_
                  exact J81 x57 r39fq bx43 c17_y5_l4 r23fp (bx57.mono (by decide) (by decide)) H17 locs17 hw _ (lv_sub hl [2, 3, 1, 4, 5] rfl)
                · refine lv_bipush (v := 99) hx hb dX8_scatter_74 (by decide) ?_
                  refine lv_goto (tgt := 81) hx hb dX8_scatter_76 (by decide) ?_
                  exact J81 (99 : Int32) r39fq bx43 c17_y5_l4 r23fp (show iv 99 0 99 from ⟨by decide, by decide⟩) H17 locs17 hw _ (lv_sub hl [2, 3, 1, 4, 5] rfl)
        exact J17 _ y5_l3 (0 : Int32) (Nat.lt_succ_self _) r11fp (show iv 0 0 12 from ⟨by decide, by decide⟩) H5 locs5 hw _ (lv_sub hl [1, 2, 3, 4, 0] rfl)
  exact J5 _ xp1 (0 : Int32) (Nat.lt_succ_self _) (show iv 0 0 10 from ⟨by decide, by decide⟩) s.heap [] hw _ (lv_sub hl [2, 4, 1, 0] rfl)
abbrev WJ6_bitCount_0f7a4 (p : Program) (l : Launch) (e : Env) (s : State) (m : MethodId) (below : List Frame) (meth : Method) (c : Code) (D : hp_D) (T : hp_T) (xp0 : Int32) (H : Heap) (locs : List Loc) (g : JFrame) : Prop := W p l e (headSpec wsJ6_bitCount_0f7a4 ({ frames := 0, cells := 0, slots := 0, locals := 0 })).room s m ([.int xp0] : List Value).toArray below meth c H locs 0 0 (MQ below (hq_p (fun v => ∃ r : Int32, v = some (.int r) ∧ iv r 0 63)) ([.int xp0] : List Value).toArray s 0 0 (fun _ => False)) g
set_option maxHeartbeats 4000000 in
set_option maxRecDepth 100000 in
theorem sJ6_bitCount_0f7a4 (l : Launch) (D : hp_D) (T : hp_T) (xp0 : Int32)  : Met l yJ6_bitCount_0f7a4 wsJ6_bitCount_0f7a4 ({ frames := 0, cells := 0, slots := 0, locals := 0 }) (hp_Pc D T [.int xp0] (fun _ => True)) (hq_p (fun v => ∃ r : Int32, v = some (.int r) ∧ iv r 0 63)) 0 0 (fun _ => False) := by
  refine Met.ofW (cc := cJ6_bitCount_0f7a4) (maxL := 1) (ret := (some .int)) (by decide) rfl ?_
  intro p e s m args below meth c s₁ B hml hv
  obtain ⟨rfl, hok, hG, hB⟩ := hv
  have hx := B.exec
  have hb := B.bytes
  have hr := B.returns
  have hts := atoms_spec (ws := wsJ6_bitCount_0f7a4) B.pre
  have hown : s.vm.findClass RJ6 = some m.cls := findClass_of_methodNamed B.named
  have hlocks := B.notSynchronized
  have hK := hG.1
  have hw : hp_w D T s s.heap [] := hp_w.rf hok
  have K265 := hts (.constant RJ6 265 1431655765) (by decide +kernel)
  have K266 := hts (.constant RJ6 266 858993459) (by decide +kernel)
  have K267 := hts (.constant RJ6 267 252645135) (by decide +kernel)
  have hl := lv_entry ([.int xp0]) (n := 1) (Nat.le_of_ble_eq_true rfl)
  rw [lg_entry_eq]
  generalize (lg_sl ([.int xp0]) ++ List.replicate (1 - (lg_sl ([.int xp0])).length) Slot.unset).toArray = ls at hl ⊢
  have hl : lv_has ls 1 [(0, .int xp0)] := hl
  show WJ6_bitCount_0f7a4 p l e s m below meth c D T xp0 s.heap [] (F0 m 0 ls [])
  refine lv_iload_n hx hb dJ6_bitCount_0f7a4_0 rfl (lv_at hl 0 rfl) ?_
  refine lv_iload_n hx hb dJ6_bitCount_0f7a4_1 rfl (lv_at hl 0 rfl) ?_
  refine lv_iconst (v := 1) hx hb dJ6_bitCount_0f7a4_2 (by decide) ?_
  obtain ⟨x3u, ex3u⟩ : ∃ y : Int32, (xp0.toUInt32 >>> ((1 : Int32).toUInt32 &&& Int32.toUInt32 31)).toInt32 = y := ⟨_, rfl⟩
  refine lv_iushr (v := x3u) hx hb dJ6_bitCount_0f7a4_3 ex3u ?_
  refine lv_topi (fun x3 ex3 => ?_)
  have bx3 : iv x3 0 2147483647 := iv_ushr 1 (ex3.trans ex3u.symm) (by decide) (by decide)
  refine lv_ldcw (v := 1431655765) hx hb hown K265 dJ6_bitCount_0f7a4_4 ?_
  refine lv_iand hx hb dJ6_bitCount_0f7a4_7 ?_
  refine lv_topi (fun x7 ex7 => ?_)
  have bx7 : iv x7 0 1431655765 := iv_and_r (show iv 1431655765 0 1431655765 from ⟨by decide, by decide⟩) ex7
  refine lv_isub hx hb dJ6_bitCount_0f7a4_8 ?_
  refine lv_topi (fun x8 ex8 => ?_)
  refine lv_istore_n (lv' := [(0, .int x8)]) hx hb dJ6_bitCount_0f7a4_9 rfl hl (by decide) rfl (fun ls hl => ?_)
  refine lv_iload_n hx hb dJ6_bitCount_0f7a4_10 rfl (lv_at hl 0 rfl) ?_
  refine lv_ldcw (v := 858993459) hx hb hown K266 dJ6_bitCount_0f7a4_11 ?_
  refine lv_iand hx hb dJ6_bitCount_0f7a4_14 ?_
  refine lv_topi (fun x14 ex14 => ?_)
  have bx14 : iv x14 0 858993459 := iv_and_r (show iv 858993459 0 858993459 from ⟨by decide, by decide⟩) ex14
  refine lv_iload_n hx hb dJ6_bitCount_0f7a4_15 rfl (lv_at hl 0 rfl) ?_
  refine lv_iconst (v := 2) hx hb dJ6_bitCount_0f7a4_16 (by decide) ?_
  obtain ⟨x17u, ex17u⟩ : ∃ y : Int32, (x8.toUInt32 >>> ((2 : Int32).toUInt32 &&& Int32.toUInt32 31)).toInt32 = y := ⟨_, rfl⟩
  refine lv_iushr (v := x17u) hx hb dJ6_bitCount_0f7a4_17 ex17u ?_
  refine lv_topi (fun x17 ex17 => ?_)
  have bx17 : iv x17 0 1073741823 := iv_ushr 2 (ex17.trans ex17u.symm) (by decide) (by decide)
  refine lv_ldcw (v := 858993459) hx hb hown K266 dJ6_bitCount_0f7a4_18 ?_
  refine lv_iand hx hb dJ6_bitCount_0f7a4_21 ?_
  refine lv_topi (fun x21 ex21 => ?_)
  have bx21 : iv x21 0 858993459 := iv_and_r (show iv 858993459 0 858993459 from ⟨by decide, by decide⟩) ex21
  refine lv_iadd hx hb dJ6_bitCount_0f7a4_22 ?_
  refine lv_topi (fun x22 ex22 => ?_)
  have bx22 : iv x22 0 1717986918 := iv_add bx14 bx21 ex22 (by decide)
  have qx22 := iv_add_eq bx14 bx21 ex22 (by decide)
  refine lv_istore_n (lv' := [(0, .int x22)]) hx hb dJ6_bitCount_0f7a4_23 rfl hl (by decide) rfl (fun ls hl => ?_)
  refine lv_iload_n hx hb dJ6_bitCount_0f7a4_24 rfl (lv_at hl 0 rfl) ?_
  refine lv_iload_n hx hb dJ6_bitCount_0f7a4_25 rfl (lv_at hl 0 rfl) ?_
  refine lv_iconst (v := 4) hx hb dJ6_bitCount_0f7a4_26 (by decide) ?_
  obtain ⟨x27u, ex27u⟩ : ∃ y : Int32, (x22.toUInt32 >>> ((4 : Int32).toUInt32 &&& Int32.toUInt32 31)).toInt32 = y := ⟨_, rfl⟩
  refine lv_iushr (v := x27u) hx hb dJ6_bitCount_0f7a4_27 ex27u ?_
  refine lv_topi (fun x27 ex27 => ?_)
  have bx27 : iv x27 0 268435455 := iv_ushr 4 (ex27.trans ex27u.symm) (by decide) (by decide)
  refine lv_iadd hx hb dJ6_bitCount_0f7a4_28 ?_
  refine lv_topi (fun x28 ex28 => ?_)
  have bx28 : iv x28 0 1986422373 := iv_add bx22 bx27 ex28 (by decide)
  have qx28 := iv_add_eq bx22 bx27 ex28 (by decide)
  refine lv_ldcw (v := 252645135) hx hb hown K267 dJ6_bitCount_0f7a4_29 ?_
  refine lv_iand hx hb dJ6_bitCount_0f7a4_32 ?_
  refine lv_topi (fun x32 ex32 => ?_)
  have bx32 : iv x32 0 252645135 := iv_and_r (show iv 252645135 0 252645135 from ⟨by decide, by decide⟩) ex32
  refine lv_istore_n (lv' := [(0, .int x32)]) hx hb dJ6_bitCount_0f7a4_33 rfl hl (by decide) rfl (fun ls hl => ?_)
  refine lv_iload_n hx hb dJ6_bitCount_0f7a4_34 rfl (lv_at hl 0 rfl) ?_
  refine lv_iload_n hx hb dJ6_bitCount_0f7a4_35 rfl (lv_at hl 0 rfl) ?_
  refine lv_bipush (v := 8) hx hb dJ6_bitCount_0f7a4_36 (by decide) ?_
  obtain ⟨x38u, ex38u⟩ : ∃ y : Int32, (x32.toUInt32 >>> ((8 : Int32).toUInt32 &&& Int32.toUInt32 31)).toInt32 = y := ⟨_, rfl⟩
  refine lv_iushr (v := x38u) hx hb dJ6_bitCount_0f7a4_38 ex38u ?_
  refine lv_topi (fun x38 ex38 => ?_)
  have bx38 : iv x38 0 16777215 := iv_ushr 8 (ex38.trans ex38u.symm) (by decide) (by decide)
  refine lv_iadd hx hb dJ6_bitCount_0f7a4_39 ?_
  refine lv_topi (fun x39 ex39 => ?_)
  have bx39 : iv x39 0 269422350 := iv_add bx32 bx38 ex39 (by decide)
  have qx39 := iv_add_eq bx32 bx38 ex39 (by decide)
  refine lv_istore_n (lv' := [(0, .int x39)]) hx hb dJ6_bitCount_0f7a4_40 rfl hl (by decide) rfl (fun ls hl => ?_)
  refine lv_iload_n hx hb dJ6_bitCount_0f7a4_41 rfl (lv_at hl 0 rfl) ?_
  refine lv_iload_n hx hb dJ6_bitCount_0f7a4_42 rfl (lv_at hl 0 rfl) ?_
  refine lv_bipush (v := 16) hx hb dJ6_bitCount_0f7a4_43 (by decide) ?_
  obtain ⟨x45u, ex45u⟩ : ∃ y : Int32, (x39.toUInt32 >>> ((16 : Int32).toUInt32 &&& Int32.toUInt32 31)).toInt32 = y := ⟨_, rfl⟩
  refine lv_iushr (v := x45u) hx hb dJ6_bitCount_0f7a4_45 ex45u ?_
  refine lv_topi (fun x45 ex45 => ?_)
  have bx45 : iv x45 0 65535 := iv_ushr 16 (ex45.trans ex45u.symm) (by decide) (by decide)
  refine lv_iadd hx hb dJ6_bitCount_0f7a4_46 ?_
  refine lv_topi (fun x46 ex46 => ?_)
  have bx46 : iv x46 0 269487885 := iv_add bx39 bx45 ex46 (by decide)
  have qx46 := iv_add_eq bx39 bx45 ex46 (by decide)
  refine lv_istore_n (lv' := [(0, .int x46)]) hx hb dJ6_bitCount_0f7a4_47 rfl hl (by decide) rfl (fun ls hl => ?_)
  refine lv_iload_n hx hb dJ6_bitCount_0f7a4_48 rfl (lv_at hl 0 rfl) ?_
  refine lv_bipush (v := 63) hx hb dJ6_bitCount_0f7a4_49 (by decide) ?_
  refine lv_iand hx hb dJ6_bitCount_0f7a4_51 ?_
  refine lv_topi (fun x51 ex51 => ?_)
  have bx51 : iv x51 0 63 := iv_and_r (show iv 63 0 63 from ⟨by decide, by decide⟩) ex51
  exact W.iret (v := x51) hx hb hr (fun t ht hW => ⟨some (.int x51), rfl, ⟨x51, rfl, bx51⟩, ht⟩) (fun q h => by cases h) dJ6_bitCount_0f7a4_52
abbrev WJ7_fill_53178 (p : Program) (l : Launch) (e : Env) (s : State) (m : MethodId) (below : List Frame) (meth : Method) (c : Code) (D : hp_D) (T : hp_T) (ap0 : Nat) (xp1 : Int32) (H : Heap) (locs : List Loc) (g : JFrame) : Prop := W p l e (headSpec wsJ7_fill_53178 ({ frames := 0, cells := 0, slots := 0, locals := 0 })).room s m ([.ref ap0, .int xp1] : List Value).toArray below meth c H locs 0 0 (MQ below (hq_e D T (fun v st t => v = none ∧ (True ∧ hp_ar D st.heap t.heap))) ([.ref ap0, .int xp1] : List Value).toArray s 0 0 (hp_F T)) g
set_option maxHeartbeats 4000000 in
set_option maxRecDepth 100000 in
theorem sJ7_fill (l : Launch) (D : hp_D) (T : hp_T) (ap0 : Nat) (xp1 : Int32) (np0 : Nat) (P : Value → Prop) (hp0 : T ap0 = some (.inl (0, np0, fun _ => P))) (nb0 : np0 ≤ 1000000) (hPv : P (.int xp1)) : Met l yJ7_fill_53178 wsJ7_fill_53178 ({ frames := 0, cells := 0, slots := 0, locals := 0 }) (hp_Pc D T [.ref ap0, .int xp1] (fun _ => True)) (hq_e D T (fun v st t => v = none ∧ (True ∧ hp_ar D st.heap t.heap))) 0 0 (hp_F T) := by
  refine Met.ofW (cc := cJ7_fill_53178) (maxL := 4) (ret := none) (by decide) rfl ?_
  intro p e s m args below meth c s₁ B hml hv
  obtain ⟨rfl, hok, hG, hB⟩ := hv
  have hx := B.exec
  have hb := B.bytes
  have hr := B.returns
  have hts := atoms_spec (ws := wsJ7_fill_53178) B.pre
  have hown : s.vm.findClass RJ7 = some m.cls := findClass_of_methodNamed B.named
  have hlocks := B.notSynchronized
  have hK := hG.1
  have hw : hp_w D T s s.heap [] := hp_w.rf hok
  have har : hp_ar D s.heap s.heap := fun _ _ _ _ h => h
  have hl := lv_entry ([.ref ap0, .int xp1]) (n := 4) (Nat.le_of_ble_eq_true rfl)
  rw [lg_entry_eq]
  generalize (lg_sl ([.ref ap0, .int xp1]) ++ List.replicate (4 - (lg_sl ([.ref ap0, .int xp1])).length) Slot.unset).toArray = ls at hl ⊢
  have hl : lv_has ls 4 [(0, .ref ap0), (1, .int xp1)] := hl
  show WJ7_fill_53178 p l e s m below meth c D T ap0 xp1 s.heap [] (F0 m 0 ls [])
  refine lv_iconst (v := 0) hx hb dJ7_fill_53178_0 (by decide) ?_
  refine lv_istore_n (lv' := [(2, .int 0), (0, .ref ap0), (1, .int xp1)]) hx hb dJ7_fill_53178_1 rfl hl (by decide) rfl (fun ls hl => ?_)
  refine lv_aload_n hx hb dJ7_fill_53178_2 rfl (lv_at hl 1 rfl) ?_
  obtain ⟨x3, ex3⟩ : ∃ y : Int32, Int32.ofNat np0 = y := ⟨_, rfl⟩
  have bx3 : iv x3 0 1000000 := iv_eq (iv_nI (n := np0) (by have := nb0; omega) (by omega) (by have := nb0; omega)) ex3.symm
  refine hp_alen (v := x3) hx hb hK hw.1 hp0 rfl ex3 dJ7_fill_53178_3 ?_
  refine lv_istore_n (lv' := [(3, .int x3), (2, .int 0), (0, .ref ap0), (1, .int xp1)]) hx hb dJ7_fill_53178_4 rfl hl (by decide) rfl (fun ls hl => ?_)
  have J5 : ∀ (n : Nat) (y5_l2 : Int32), (1000000 - y5_l2.toInt).toNat < n → iv y5_l2 0 1000000 → iv x3 0 1000000 → ∀ (H : Heap) (locs : List Loc), hp_w D T s H locs → hp_ar D s.heap H → ∀ (ls : Array Slot), lv_has ls 4 [(0, .ref ap0), (1, .int xp1), (2, .int y5_l2), (3, .int x3)] → WJ7_fill_53178 p l e s m below meth c D T ap0 xp1 H locs (F0 m 5 ls []) := by
    intro n
    induction n with
    | zero => intro y5_l2 hmu5 c5_y5_l2 c5_x3 H5 locs5 hw har ls hl; exact absurd hmu5 (Nat.not_lt_zero _)
    | succ n ih5 =>
      intro y5_l2 hmu5 c5_y5_l2 c5_x3 H5 locs5 hw har ls hl
      refine lv_iload_n hx hb dJ7_fill_53178_5 rfl (lv_at hl 2 rfl) ?_
      refine lv_iload_n hx hb dJ7_fill_53178_6 rfl (lv_at hl 3 rfl) ?_
      refine lv_icmp_ge (tgt := 20) hx hb dJ7_fill_53178_7 (by decide) (fun c7 => ?_) (fun c7 => ?_)
      · exact W.vret hx hb hr (fun t ht hW => ⟨none, rfl, ⟨rfl, ⟨trivial, by rw [ht]; exact har⟩⟩, by rw [ht]; exact hw.1, hw.2.F ht⟩) hw.2.2.2 dJ7_fill_53178_20
      · have r7fp : iv y5_l2 0 999999 := (iv_lt_l (iv_nle c7) c5_y5_l2 c5_x3).mono (by decide) (by decide)
        have r7fq : iv x3 1 1000000 := (iv_lt_r (iv_nle c7) c5_y5_l2 c5_x3).mono (by decide) (by decide)
        refine lv_aload_n hx hb dJ7_fill_53178_10 rfl (lv_at hl 0 rfl) ?_
        refine lv_iload_n hx hb dJ7_fill_53178_11 rfl (lv_at hl 2 rfl) ?_
        refine lv_iload_n hx hb dJ7_fill_53178_12 rfl (lv_at hl 1 rfl) ?_
        refine hp_iast hx hb hK hw hp0 (vp_len ex3 (iv_nle c7) r7fp (by decide) nb0) hPv dJ7_fill_53178_13 (fun H13 locs13 hw g13 => ?_)
        have har := har.trans g13
        obtain ⟨x14, ex14⟩ : ∃ y : Int32, y = y5_l2 + 1 := ⟨_, rfl⟩
        have bx14 : iv x14 1 1000000 := iv_add r7fp (show iv 1 1 1 from ⟨by decide, by decide⟩) ex14 (by decide)
        have qx14 := iv_add_eq r7fp (show iv 1 1 1 from ⟨by decide, by decide⟩) ex14 (by decide)
        refine lv_iinc (v := x14) (lv' := [(2, .int x14), (0, .ref ap0), (1, .int xp1), (3, .int x3)]) hx hb dJ7_fill_53178_14 hl (k := 2) rfl (by rw [ex14]; rfl) (by decide) rfl (fun ls hl => ?_)
        refine lv_goto (tgt := 5) hx hb dJ7_fill_53178_17 (by decide) ?_
        exact ih5 x14 (mu_up 1 hmu5 (qx14) (by decide) (show iv x14 0 1000000 from (bx14.mono (by decide) (by decide))).2) (bx14.mono (by decide) (by decide)) (r7fq.mono (by decide) (by decide)) H13 locs13 hw har _ (lv_sub hl [1, 2, 0, 3] rfl)
  exact J5 _ (0 : Int32) (Nat.lt_succ_self _) (show iv 0 0 1000000 from ⟨by decide, by decide⟩) bx3 s.heap [] hw har _ (lv_sub hl [2, 3, 1, 0] rfl)
abbrev WX8_meetingTwos (p : Program) (l : Launch) (e : Env) (s : State) (m : MethodId) (below : List Frame) (meth : Method) (c : Code) (D : hp_D) (T : hp_T) (ap0 : Nat) (H : Heap) (locs : List Loc) (g : JFrame) : Prop := W p l e (headSpec wsX8_meetingTwos ({ frames := 3, cells := 0, slots := 0, locals := 66 })).room s m ([.ref ap0] : List Value).toArray below meth c H locs 0 0 (MQ below (hq_p (fun v => ∃ r : Int32, v = some (.int r) ∧ True)) ([.ref ap0] : List Value).toArray s 0 0 (fun _ => False)) g
set_option maxHeartbeats 4000000 in
set_option maxRecDepth 100000 in
theorem sX8_meetingTwos (l : Launch) (D : hp_D) (T : hp_T) (ap0 : Nat) (ip0 : isTown T ap0) : Met l yX8_meetingTwos wsX8_meetingTwos ({ frames := 3, cells := 0, slots := 0, locals := 66 }) (hp_Pc D T [.ref ap0] (fun _ => True)) (hq_p (fun v => ∃ r : Int32, v = some (.int r) ∧ True)) 0 0 (fun _ => False) := by
  obtain ⟨ap0kin, ap0pl, ap0cr, hp0, hp0kin, hp0pl, hp0cr⟩ := id ip0
  refine Met.ofW (cc := cX8_meetingTwos) (maxL := 3) (ret := (some .int)) (by decide) rfl ?_
  intro p e s m args below meth c s₁ B hml hv
  obtain ⟨rfl, hok, hG, hB⟩ := hv
  have hx := B.exec
  have hb := B.bytes
  have hr := B.returns
  have hts := atoms_spec (ws := wsX8_meetingTwos) B.pre
  have hown : s.vm.findClass RX8 = some m.cls := findClass_of_methodNamed B.named
  have hlocks := B.notSynchronized
  have hK := hG.1
  have hw : hp_w D T s s.heap [] := hp_w.rf hok
  have IX8 : ∀ w ∈ wsX80, w ∈ wsX8_meetingTwos := by decide +kernel
  have L18 := hts (.fieldLink RX8 18 "PalmCensus$Town" "people" "I") (by decide +kernel)
  have hl := lv_entry ([.ref ap0]) (n := 3) (Nat.le_of_ble_eq_true rfl)
  rw [lg_entry_eq]
  generalize (lg_sl ([.ref ap0]) ++ List.replicate (3 - (lg_sl ([.ref ap0])).length) Slot.unset).toArray = ls at hl ⊢
  have hl : lv_has ls 3 [(0, .ref ap0)] := hl
  show WX8_meetingTwos p l e s m below meth c D T ap0 s.heap [] (F0 m 0 ls [])
  refine lv_iconst (v := 0) hx hb dX8_meetingTwos_0 (by decide) ?_
  refine lv_istore_n (lv' := [(1, .int 0), (0, .ref ap0)]) hx hb dX8_meetingTwos_1 rfl hl (by decide) rfl (fun ls hl => ?_)
  refine lv_iconst (v := 0) hx hb dX8_meetingTwos_2 (by decide) ?_
  refine lv_istore_n (lv' := [(2, .int 0), (1, .int 0), (0, .ref ap0)]) hx hb dX8_meetingTwos_3 rfl hl (by decide) rfl (fun ls hl => ?_)
  have J4 : ∀ (n : Nat) (y4_l1 y4_l2 : Int32), (10 - y4_l2.toInt).toNat < n → iv y4_l2 0 10 → ∀ (ls : Array Slot), lv_has ls 3 [(0, .ref ap0), (1, .int y4_l1), (2, .int y4_l2)] → WX8_meetingTwos p l e s m below meth c D T ap0 s.heap [] (F0 m 4 ls []) := by
    intro n
    induction n with
    | zero => intro y4_l1 y4_l2 hmu4 c4_y4_l2 ls hl; exact absurd hmu4 (Nat.not_lt_zero _)
    | succ n ih4 =>
      intro y4_l1 y4_l2 hmu4 c4_y4_l2 ls hl
      refine lv_iload_n hx hb dX8_meetingTwos_4 rfl (lv_at hl 2 rfl) ?_
      refine lv_aload_n hx hb dX8_meetingTwos_5 rfl (lv_at hl 0 rfl) ?_
      refine hp_geti hx hb hts IX8 hown hK hw.1 hp0 rfl 2 (by decide) L18 rfl dX8_meetingTwos_6 (fun x6 bx6 fx6 => ?_)
      refine lv_icmp_ge (tgt := 29) hx hb dX8_meetingTwos_9 (by decide) (fun c9 => ?_) (fun c9 => ?_)
      · refine lv_iload_n hx hb dX8_meetingTwos_29 rfl (lv_at hl 1 rfl) ?_
        refine lv_iconst (v := 2) hx hb dX8_meetingTwos_30 (by decide) ?_
        refine lv_idiv hx hb dX8_meetingTwos_31 (iv_ne0 (show iv 2 2 2 from ⟨by decide, by decide⟩) (by decide)) ?_
        refine lv_topi (fun x31 ex31 => ?_)
        exact W.iret (v := x31) hx hb hr (fun t ht hW => ⟨some (.int x31), rfl, ⟨x31, rfl, trivial⟩, ht⟩) (fun q h => by cases h) dX8_meetingTwos_32
      · have r9fp : iv y4_l2 0 9 := (iv_lt_l (iv_nle c9) c4_y4_l2 bx6).mono (by decide) (by decide)
        have r9fq : iv x6 1 10 := (iv_lt_r (iv_nle c9) c4_y4_l2 bx6).mono (by decide) (by decide)
        refine lv_iload_n hx hb dX8_meetingTwos_12 rfl (lv_at hl 1 rfl) ?_
        refine lv_aload_n hx hb dX8_meetingTwos_13 rfl (lv_at hl 0 rfl) ?_
        refine lv_iload_n hx hb dX8_meetingTwos_14 rfl (lv_at hl 2 rfl) ?_
        refine hp_callpi (va_runV (As := [.int y4_l2]) (rest := [.int y4_l1]) ⟨hx, hb, hml, hown, hts⟩ (sX8_company l D T ap0 y4_l2 ip0) (cwV 1 hts gX8_meetingTwos_X8_company rfl rfl rfl (by decide +kernel) ⟨Nat.le_of_ble_eq_true rfl, Nat.le_of_ble_eq_true rfl⟩) (hp_preV hG hw hp0 rfl trivial) rfl rfl hl.1 rfl (lv_room (Nat.le_of_ble_eq_true rfl)) dX8_meetingTwos_15 ⟨Nat.zero_le _, Nat.zero_le _⟩) (fun x15 bx15 => ?_)
        refine hp_callpi (va_runS (As := [.int x15]) (rest := [.int y4_l1]) ⟨hx, hb, hml, hown, hts⟩ (sJ6_bitCount_0f7a4 l D T x15) (va_cwS 1 hts gX8_meetingTwos_J6_bitCount_0f7a4 rfl rfl rfl (by decide +kernel) ⟨Nat.le_of_ble_eq_true rfl, Nat.le_of_ble_eq_true rfl⟩) (hp_preS hG hw trivial) rfl rfl hl.1 rfl (lv_room (Nat.le_of_ble_eq_true rfl)) dX8_meetingTwos_18 ⟨Nat.zero_le _, Nat.zero_le _⟩) (fun x18 bx18 => ?_)
        refine lv_iadd hx hb dX8_meetingTwos_21 ?_
        refine lv_topi (fun x21 ex21 => ?_)
        refine lv_istore_n (lv' := [(1, .int x21), (0, .ref ap0), (2, .int y4_l2)]) hx hb dX8_meetingTwos_22 rfl hl (by decide) rfl (fun ls hl => ?_)
        obtain ⟨x23, ex23⟩ : ∃ y : Int32, y = y4_l2 + 1 := ⟨_, rfl⟩
        have bx23 : iv x23 1 10 := iv_add r9fp (show iv 1 1 1 from ⟨by decide, by decide⟩) ex23 (by decide)
        have qx23 := iv_add_eq r9fp (show iv 1 1 1 from ⟨by decide, by decide⟩) ex23 (by decide)
        refine lv_iinc (v := x23) (lv' := [(2, .int x23), (1, .int x21), (0, .ref ap0)]) hx hb dX8_meetingTwos_23 hl (k := 2) rfl (by rw [ex23]; rfl) (by decide) rfl (fun ls hl => ?_)
        refine lv_goto (tgt := 4) hx hb dX8_meetingTwos_26 (by decide) ?_
        exact ih4 x21 x23 (mu_up 1 hmu4 (qx23) (by decide) (show iv x23 0 10 from (bx23.mono (by decide) (by decide))).2) (bx23.mono (by decide) (by decide)) _ (lv_sub hl [2, 1, 0] rfl)
  exact J4 _ (0 : Int32) (0 : Int32) (Nat.lt_succ_self _) (show iv 0 0 10 from ⟨by decide, by decide⟩) _ (lv_sub hl [2, 1, 0] rfl)
abbrev WX0_forget (p : Program) (l : Launch) (e : Env) (s : State) (m : MethodId) (below : List Frame) (meth : Method) (c : Code) (D : hp_D) (T : hp_T) (ap0 : Nat) (H : Heap) (locs : List Loc) (g : JFrame) : Prop := W p l e (headSpec wsX0_forget ({ frames := 0, cells := 0, slots := 0, locals := 0 })).room s m ([.ref ap0] : List Value).toArray below meth c H locs 0 0 (MQ below (hq_e D T (fun v _ _ => v = none ∧ True)) ([.ref ap0] : List Value).toArray s 0 0 (hp_F T)) g
set_option maxHeartbeats 4000000 in
set_option maxRecDepth 100000 in
theorem sX0_forget (l : Launch) (D : hp_D) (T : hp_T) (ap0 : Nat) (ip0 : isBest T ap0) : Met l yX0_forget wsX0_forget ({ frames := 0, cells := 0, slots := 0, locals := 0 }) (hp_Pc D T [.ref ap0] (fun _ => True)) (hq_e D T (fun v _ _ => v = none ∧ True)) 0 0 (hp_F T) := by
  have hp0 : T ap0 = some (.inr (0, [(rI 0 1), rA, rA, rA])) := ip0
  refine Met.ofW (cc := cX0_forget) (maxL := 1) (ret := none) (by decide) rfl ?_
  intro p e s m args below meth c s₁ B hml hv
  obtain ⟨rfl, hok, hG, hB⟩ := hv
  have hx := B.exec
  have hb := B.bytes
  have hr := B.returns
  have hts := atoms_spec (ws := wsX0_forget) B.pre
  have hown : s.vm.findClass RX0 = some m.cls := findClass_of_methodNamed B.named
  have hlocks := B.notSynchronized
  have hK := hG.1
  have hw : hp_w D T s s.heap [] := hp_w.rf hok
  have IX0 : ∀ w ∈ wsX00, w ∈ wsX0_forget := by decide +kernel
  have L7 := hts (.fieldLink RX0 7 "PalmCensus$Best" "any" "Z") (by decide +kernel)
  have hl := lv_entry ([.ref ap0]) (n := 1) (Nat.le_of_ble_eq_true rfl)
  rw [lg_entry_eq]
  generalize (lg_sl ([.ref ap0]) ++ List.replicate (1 - (lg_sl ([.ref ap0])).length) Slot.unset).toArray = ls at hl ⊢
  have hl : lv_has ls 1 [(0, .ref ap0)] := hl
  show WX0_forget p l e s m below meth c D T ap0 s.heap [] (F0 m 0 ls [])
  refine lv_aload_n hx hb dX0_forget_0 rfl (lv_at hl 0 rfl) ?_
  refine lv_iconst (v := 0) hx hb dX0_forget_1 (by decide) ?_
  refine hp_put hx hb hts IX0 tyX0 tyX0_ok nmX0 hown hK hw hp0 rfl 0 (by decide) L7 rfl rfl ⟨_, rfl, (show iv 0 0 1 from ⟨by decide, by decide⟩)⟩ (iv_nz (show iv 0 0 1 from ⟨by decide, by decide⟩)) (iv_fz (show iv 0 0 1 from ⟨by decide, by decide⟩)) dX0_forget_2 (fun H2 locs2 hw f2n g2 => ?_)
  exact W.vret hx hb hr (fun t ht hW => ⟨none, rfl, ⟨rfl, trivial⟩, by rw [ht]; exact hw.1, hw.2.F ht⟩) hw.2.2.2 dX0_forget_5
abbrev WX0_offer (p : Program) (l : Launch) (e : Env) (s : State) (m : MethodId) (below : List Frame) (meth : Method) (c : Code) (D : hp_D) (T : hp_T) (ap0 : Nat) (xp1 : Int32) (xp2 : Int32) (xp3 : Int32) (H : Heap) (locs : List Loc) (g : JFrame) : Prop := W p l e (headSpec wsX0_offer ({ frames := 0, cells := 0, slots := 0, locals := 0 })).room s m ([.ref ap0, .int xp1, .int xp2, .int xp3] : List Value).toArray below meth c H locs 0 0 (MQ below (hq_e D T (fun v _ _ => v = none ∧ True)) ([.ref ap0, .int xp1, .int xp2, .int xp3] : List Value).toArray s 0 0 (hp_F T)) g
set_option maxHeartbeats 4000000 in
set_option maxRecDepth 100000 in
theorem sX0_offer (l : Launch) (D : hp_D) (T : hp_T) (ap0 : Nat) (xp1 : Int32) (xp2 : Int32) (xp3 : Int32) (ip0 : isBest T ap0) : Met l yX0_offer wsX0_offer ({ frames := 0, cells := 0, slots := 0, locals := 0 }) (hp_Pc D T [.ref ap0, .int xp1, .int xp2, .int xp3] (fun _ => True)) (hq_e D T (fun v _ _ => v = none ∧ True)) 0 0 (hp_F T) := by
  have hp0 : T ap0 = some (.inr (0, [(rI 0 1), rA, rA, rA])) := ip0
  refine Met.ofW (cc := cX0_offer) (maxL := 4) (ret := none) (by decide) rfl ?_
  intro p e s m args below meth c s₁ B hml hv
  obtain ⟨rfl, hok, hG, hB⟩ := hv
  have hx := B.exec
  have hb := B.bytes
  have hr := B.returns
  have hts := atoms_spec (ws := wsX0_offer) B.pre
  have hown : s.vm.findClass RX0 = some m.cls := findClass_of_methodNamed B.named
  have hlocks := B.notSynchronized
  have hK := hG.1
  have hw : hp_w D T s s.heap [] := hp_w.rf hok
  have IX0 : ∀ w ∈ wsX00, w ∈ wsX0_offer := by decide +kernel
  have L7 := hts (.fieldLink RX0 7 "PalmCensus$Best" "any" "Z") (by decide +kernel)
  have L13 := hts (.fieldLink RX0 13 "PalmCensus$Best" "value" "I") (by decide +kernel)
  have L17 := hts (.fieldLink RX0 17 "PalmCensus$Best" "hour" "I") (by decide +kernel)
  have L20 := hts (.fieldLink RX0 20 "PalmCensus$Best" "place" "I") (by decide +kernel)
  have hl := lv_entry ([.ref ap0, .int xp1, .int xp2, .int xp3]) (n := 4) (Nat.le_of_ble_eq_true rfl)
  rw [lg_entry_eq]
  generalize (lg_sl ([.ref ap0, .int xp1, .int xp2, .int xp3]) ++ List.replicate (4 - (lg_sl ([.ref ap0, .int xp1, .int xp2, .int xp3])).length) Slot.unset).toArray = ls at hl ⊢
  have hl : lv_has ls 4 [(0, .ref ap0), (1, .int xp1), (2, .int xp2), (3, .int xp3)] := hl
  show WX0_offer p l e s m below meth c D T ap0 xp1 xp2 xp3 s.heap [] (F0 m 0 ls [])
  refine lv_aload_n hx hb dX0_offer_0 rfl (lv_at hl 0 rfl) ?_
  refine hp_geti hx hb hts IX0 hown hK hw.1 hp0 rfl 0 (by decide) L7 rfl dX0_offer_1 (fun x1 bx1 fx1 => ?_)
  have J35 : ∀ (H : Heap) (locs : List Loc), hp_w D T s H locs → ∀ (ls : Array Slot), lv_has ls 4 [] → WX0_offer p l e s m below meth c D T ap0 xp1 xp2 xp3 H locs (F0 m 35 ls []) := by
    intro H35 locs35 hw ls hl
    exact W.vret hx hb hr (fun t ht hW => ⟨none, rfl, ⟨rfl, trivial⟩, by rw [ht]; exact hw.1, hw.2.F ht⟩) hw.2.2.2 dX0_offer_35
  have J15 : ∀ (H : Heap) (locs : List Loc), hp_w D T s H locs → ∀ (ls : Array Slot), lv_has ls 4 [(0, .ref ap0), (1, .int xp1), (2, .int xp2), (3, .int xp3)] → WX0_offer p l e s m below meth c D T ap0 xp1 xp2 xp3 H locs (F0 m 15 ls []) := by
    intro H15 locs15 hw ls hl
    refine lv_aload_n hx hb dX0_offer_15 rfl (lv_at hl 0 rfl) ?_
    refine lv_iconst (v := 1) hx hb dX0_offer_16 (by decide) ?_
    refine hp_put hx hb hts IX0 tyX0 tyX0_ok nmX0 hown hK hw hp0 rfl 0 (by decide) L7 rfl rfl ⟨_, rfl, (show iv 1 0 1 from ⟨by decide, by decide⟩)⟩ (iv_nz (show iv 1 0 1 from ⟨by decide, by decide⟩)) (iv_fz (show iv 1 0 1 from ⟨by decide, by decide⟩)) dX0_offer_17 (fun H17 locs17 hw f17n g17 => ?_)
    refine lv_aload_n hx hb dX0_offer_20 rfl (lv_at hl 0 rfl) ?_
    refine lv_iload_n hx hb dX0_offer_21 rfl (lv_at hl 1 rfl) ?_
    refine hp_put hx hb hts IX0 tyX0 tyX0_ok nmX0 hown hK hw hp0 rfl 1 (by decide) L13 rfl rfl ⟨_, rfl⟩ rfl rfl dX0_offer_22 (fun H22 locs22 hw f22n g22 => ?_)
    refine lv_aload_n hx hb dX0_offer_25 rfl (lv_at hl 0 rfl) ?_
    refine lv_iload_n hx hb dX0_offer_26 rfl (lv_at hl 2 rfl) ?_
    refine hp_put hx hb hts IX0 tyX0 tyX0_ok nmX0 hown hK hw hp0 rfl 2 (by decide) L17 rfl rfl ⟨_, rfl⟩ rfl rfl dX0_offer_27 (fun H27 locs27 hw f27n g27 => ?_)
    refine lv_aload_n hx hb dX0_offer_30 rfl (lv_at hl 0 rfl) ?_
    refine lv_iload_n hx hb dX0_offer_31 rfl (lv_at hl 3 rfl) ?_
    refine hp_put hx hb hts IX0 tyX0 tyX0_ok nmX0 hown hK hw hp0 rfl 3 (by decide) L20 rfl rfl ⟨_, rfl⟩ rfl rfl dX0_offer_32 (fun H32 locs32 hw f32n g32 => ?_)
    exact J35 H32 locs32 hw _ (lv_sub hl [] rfl)
  refine lv_if_eq (tgt := 15) hx hb dX0_offer_4 (by decide) (fun c4 => ?_) (fun c4 => ?_)
  · have r4tp : iv x1 0 0 := (iv_both bx1 (iv_eq (show iv 0 0 0 from ⟨by decide, by decide⟩) c4)).mono (by decide) (by decide)
    exact J15 s.heap [] hw _ (lv_sub hl [0, 1, 2, 3] rfl)
  · have r4fp : iv x1 1 1 := (iv_ne_lo c4 bx1 rfl).mono (by decide) (by decide)
    refine lv_iload_n hx hb dX0_offer_7 rfl (lv_at hl 1 rfl) ?_
    refine lv_aload_n hx hb dX0_offer_8 rfl (lv_at hl 0 rfl) ?_
    refine hp_getA hx hb hts IX0 hown hK hw.1 hp0 rfl 1 (by decide) L13 rfl dX0_offer_9 (fun x9 fx9 => ?_)
    refine lv_icmp_le (tgt := 35) hx hb dX0_offer_12 (by decide) (fun c12 => ?_) (fun c12 => ?_)
    · exact J35 s.heap [] hw _ (lv_sub hl [] rfl)
    · have r12fp : iv x9 (-2147483648) 2147483646 := (iv_lt_l (iv_nle c12) (iv_any x9) (iv_any xp1)).mono (by decide) (by decide)
      have r12fq : iv xp1 (-2147483647) 2147483647 := (iv_lt_r (iv_nle c12) (iv_any x9) (iv_any xp1)).mono (by decide) (by decide)
      exact J15 s.heap [] hw _ (lv_sub hl [0, 1, 2, 3] rfl)
abbrev WX8_clear (p : Program) (l : Launch) (e : Env) (s : State) (m : MethodId) (below : List Frame) (meth : Method) (c : Code) (D : hp_D) (T : hp_T) (ap0 : Nat) (H : Heap) (locs : List Loc) (g : JFrame) : Prop := W p l e (headSpec wsX8_clear ({ frames := 1, cells := 0, slots := 0, locals := 23 })).room s m ([.ref ap0] : List Value).toArray below meth c H locs 0 0 (MQ below (hq_e D T (fun v _ _ => v = none ∧ True)) ([.ref ap0] : List Value).toArray s 0 0 (hp_F T)) g
set_option maxHeartbeats 4000000 in
set_option maxRecDepth 100000 in
theorem sX8_clear (l : Launch) (D : hp_D) (T : hp_T) (ap0 : Nat) (ip0 : isTown T ap0) : Met l yX8_clear wsX8_clear ({ frames := 1, cells := 0, slots := 0, locals := 23 }) (hp_Pc D T [.ref ap0] (fun _ => True)) (hq_e D T (fun v _ _ => v = none ∧ True)) 0 0 (hp_F T) := by
  obtain ⟨ap0kin, ap0pl, ap0cr, hp0, hp0kin, hp0pl, hp0cr⟩ := id ip0
  refine Met.ofW (cc := cX8_clear) (maxL := 1) (ret := none) (by decide) rfl ?_
  intro p e s m args below meth c s₁ B hml hv
  obtain ⟨rfl, hok, hG, hB⟩ := hv
  have hx := B.exec
  have hb := B.bytes
  have hr := B.returns
  have hts := atoms_spec (ws := wsX8_clear) B.pre
  have hown : s.vm.findClass RX8 = some m.cls := findClass_of_methodNamed B.named
  have hlocks := B.notSynchronized
  have hK := hG.1
  have hw : hp_w D T s s.heap [] := hp_w.rf hok
  have IX8 : ∀ w ∈ wsX80, w ∈ wsX8_clear := by decide +kernel
  have L9 := hts (.fieldLink RX8 9 "PalmCensus$Town" "gates" "I") (by decide +kernel)
  have L15 := hts (.fieldLink RX8 15 "PalmCensus$Town" "hours" "I") (by decide +kernel)
  have L18 := hts (.fieldLink RX8 18 "PalmCensus$Town" "people" "I") (by decide +kernel)
  have L21 := hts (.fieldLink RX8 21 "PalmCensus$Town" "day" "I") (by decide +kernel)
  have L24 := hts (.fieldLink RX8 24 "PalmCensus$Town" "left" "I") (by decide +kernel)
  have L27 := hts (.fieldLink RX8 27 "PalmCensus$Town" "gloved" "I") (by decide +kernel)
  have L30 := hts (.fieldLink RX8 30 "PalmCensus$Town" "children" "I") (by decide +kernel)
  have L33 := hts (.fieldLink RX8 33 "PalmCensus$Town" "counters" "I") (by decide +kernel)
  have L36 := hts (.fieldLink RX8 36 "PalmCensus$Town" "kin" "[I") (by decide +kernel)
  have L40 := hts (.fieldLink RX8 40 "PalmCensus$Town" "places" "[I") (by decide +kernel)
  have L43 := hts (.fieldLink RX8 43 "PalmCensus$Town" "crowds" "[I") (by decide +kernel)
  have hl := lv_entry ([.ref ap0]) (n := 1) (Nat.le_of_ble_eq_true rfl)
  rw [lg_entry_eq]
  generalize (lg_sl ([.ref ap0]) ++ List.replicate (1 - (lg_sl ([.ref ap0])).length) Slot.unset).toArray = ls at hl ⊢
  have hl : lv_has ls 1 [(0, .ref ap0)] := hl
  show WX8_clear p l e s m below meth c D T ap0 s.heap [] (F0 m 0 ls [])
  refine lv_aload_n hx hb dX8_clear_0 rfl (lv_at hl 0 rfl) ?_
  refine lv_iconst (v := 0) hx hb dX8_clear_1 (by decide) ?_
  refine hp_put hx hb hts IX8 tyX8 tyX8_ok nmX8 hown hK hw hp0 rfl 0 (by decide) L9 rfl rfl ⟨_, rfl, (show iv 0 0 6 from ⟨by decide, by decide⟩)⟩ rfl rfl dX8_clear_2 (fun H2 locs2 hw f2n g2 => ?_)
  refine lv_aload_n hx hb dX8_clear_5 rfl (lv_at hl 0 rfl) ?_
  refine lv_iconst (v := 0) hx hb dX8_clear_6 (by decide) ?_
  refine hp_put hx hb hts IX8 tyX8 tyX8_ok nmX8 hown hK hw hp0 rfl 1 (by decide) L15 rfl rfl ⟨_, rfl, (show iv 0 0 12 from ⟨by decide, by decide⟩)⟩ rfl rfl dX8_clear_7 (fun H7 locs7 hw f7n g7 => ?_)
  refine lv_aload_n hx hb dX8_clear_10 rfl (lv_at hl 0 rfl) ?_
  refine lv_iconst (v := 0) hx hb dX8_clear_11 (by decide) ?_
  refine hp_put hx hb hts IX8 tyX8 tyX8_ok nmX8 hown hK hw hp0 rfl 2 (by decide) L18 rfl rfl ⟨_, rfl, (show iv 0 0 10 from ⟨by decide, by decide⟩)⟩ rfl rfl dX8_clear_12 (fun H12 locs12 hw f12n g12 => ?_)
  refine lv_aload_n hx hb dX8_clear_15 rfl (lv_at hl 0 rfl) ?_
  refine lv_iconst (v := 0) hx hb dX8_clear_16 (by decide) ?_
  refine hp_put hx hb hts IX8 tyX8 tyX8_ok nmX8 hown hK hw hp0 rfl 3 (by decide) L21 rfl rfl ⟨_, rfl⟩ rfl rfl dX8_clear_17 (fun H17 locs17 hw f17n g17 => ?_)
  refine lv_aload_n hx hb dX8_clear_20 rfl (lv_at hl 0 rfl) ?_
  refine lv_iconst (v := 0) hx hb dX8_clear_21 (by decide) ?_
  refine hp_put hx hb hts IX8 tyX8 tyX8_ok nmX8 hown hK hw hp0 rfl 4 (by decide) L24 rfl rfl ⟨_, rfl⟩ rfl rfl dX8_clear_22 (fun H22 locs22 hw f22n g22 => ?_)
  refine lv_aload_n hx hb dX8_clear_25 rfl (lv_at hl 0 rfl) ?_
  refine lv_iconst (v := 0) hx hb dX8_clear_26 (by decide) ?_
  refine hp_put hx hb hts IX8 tyX8 tyX8_ok nmX8 hown hK hw hp0 rfl 5 (by decide) L27 rfl rfl ⟨_, rfl⟩ rfl rfl dX8_clear_27 (fun H27 locs27 hw f27n g27 => ?_)
  refine lv_aload_n hx hb dX8_clear_30 rfl (lv_at hl 0 rfl) ?_
  refine lv_iconst (v := 0) hx hb dX8_clear_31 (by decide) ?_
  refine hp_put hx hb hts IX8 tyX8 tyX8_ok nmX8 hown hK hw hp0 rfl 6 (by decide) L30 rfl rfl ⟨_, rfl⟩ rfl rfl dX8_clear_32 (fun H32 locs32 hw f32n g32 => ?_)
  refine lv_aload_n hx hb dX8_clear_35 rfl (lv_at hl 0 rfl) ?_
  refine lv_iconst (v := 0) hx hb dX8_clear_36 (by decide) ?_
  refine hp_put hx hb hts IX8 tyX8 tyX8_ok nmX8 hown hK hw hp0 rfl 7 (by decide) L33 rfl rfl ⟨_, rfl⟩ rfl rfl dX8_clear_37 (fun H37 locs37 hw f37n g37 => ?_)
  refine lv_aload_n hx hb dX8_clear_40 rfl (lv_at hl 0 rfl) ?_
  refine hp_getr hx hb hts IX8 hown hK hw.1 hp0 rfl 8 (by decide) L36 rfl dX8_clear_41 ?_
  refine lv_iconst (v := 0) hx hb dX8_clear_44 (by decide) ?_
  refine hp_callev (va_runS (As := [.ref ap0kin, .int 0]) (rest := []) ⟨hx, hb, hml, hown, hts⟩ (sJ7_fill l D T ap0kin (0 : Int32) 10 rA hp0kin (by decide) ⟨_, rfl⟩) (va_cwS 2 hts gX8_clear_J7_fill_53178 rfl rfl rfl (by decide +kernel) ⟨Nat.le_of_ble_eq_true rfl, Nat.le_of_ble_eq_true rfl⟩) (hp_preS hG hw trivial) rfl rfl hl.1 rfl (lv_room (Nat.le_of_ble_eq_true rfl)) dX8_clear_45 ⟨Nat.zero_le _, Nat.zero_le _⟩) hw (fun st45 t45 H45 locs45 eh45 eg45 b45 hw => ?_)
  obtain ⟨-, g45⟩ := b45
  rw [eh45, eg45] at g45
  refine lv_aload_n hx hb dX8_clear_48 rfl (lv_at hl 0 rfl) ?_
  refine hp_getr hx hb hts IX8 hown hK hw.1 hp0 rfl 9 (by decide) L40 rfl dX8_clear_49 ?_
  refine lv_bipush (v := 99) hx hb dX8_clear_52 (by decide) ?_
  refine hp_callev (va_runS (As := [.ref ap0pl, .int 99]) (rest := []) ⟨hx, hb, hml, hown, hts⟩ (sJ7_fill l D T ap0pl (99 : Int32) 120 rA hp0pl (by decide) ⟨_, rfl⟩) (va_cwS 2 hts gX8_clear_J7_fill_53178 rfl rfl rfl (by decide +kernel) ⟨Nat.le_of_ble_eq_true rfl, Nat.le_of_ble_eq_true rfl⟩) (hp_preS hG hw trivial) rfl rfl hl.1 rfl (lv_room (Nat.le_of_ble_eq_true rfl)) dX8_clear_54 ⟨Nat.zero_le _, Nat.zero_le _⟩) hw (fun st54 t54 H54 locs54 eh54 eg54 b54 hw => ?_)
  obtain ⟨-, g54⟩ := b54
  rw [eh54, eg54] at g54
  refine lv_aload_n hx hb dX8_clear_57 rfl (lv_at hl 0 rfl) ?_
  refine hp_getr hx hb hts IX8 hown hK hw.1 hp0 rfl 10 (by decide) L43 rfl dX8_clear_58 ?_
  refine lv_iconst (v := 0) hx hb dX8_clear_61 (by decide) ?_
  refine hp_callev (va_runS (As := [.ref ap0cr, .int 0]) (rest := []) ⟨hx, hb, hml, hown, hts⟩ (sJ7_fill l D T ap0cr (0 : Int32) 72 (rI 0 1023) hp0cr (by decide) ⟨_, rfl, (show iv 0 0 1023 from ⟨by decide, by decide⟩)⟩) (va_cwS 2 hts gX8_clear_J7_fill_53178 rfl rfl rfl (by decide +kernel) ⟨Nat.le_of_ble_eq_true rfl, Nat.le_of_ble_eq_true rfl⟩) (hp_preS hG hw trivial) rfl rfl hl.1 rfl (lv_room (Nat.le_of_ble_eq_true rfl)) dX8_clear_62 ⟨Nat.zero_le _, Nat.zero_le _⟩) hw (fun st62 t62 H62 locs62 eh62 eg62 b62 hw => ?_)
  obtain ⟨-, g62⟩ := b62
  rw [eh62, eg62] at g62
  exact W.vret hx hb hr (fun t ht hW => ⟨none, rfl, ⟨rfl, trivial⟩, by rw [ht]; exact hw.1, hw.2.F ht⟩) hw.2.2.2 dX8_clear_65
abbrev WX8_copyFrom (p : Program) (l : Launch) (e : Env) (s : State) (m : MethodId) (below : List Frame) (meth : Method) (c : Code) (D : hp_D) (T : hp_T) (ap0 : Nat) (ap1 : Nat) (H : Heap) (locs : List Loc) (g : JFrame) : Prop := W p l e (headSpec wsX8_copyFrom ({ frames := 1, cells := 0, slots := 0, locals := 39 })).room s m ([.ref ap0, .ref ap1] : List Value).toArray below meth c H locs 0 0 (MQ below (hq_e D T (fun v _ _ => v = none ∧ True)) ([.ref ap0, .ref ap1] : List Value).toArray s 0 0 (hp_F T)) g
set_option maxHeartbeats 4000000 in
set_option maxRecDepth 100000 in
theorem sX8_copyFrom (l : Launch) (D : hp_D) (T : hp_T) (ap0 : Nat) (ap1 : Nat) (ip0 : isTown T ap0) (ip1 : isTown T ap1) : Met l yX8_copyFrom wsX8_copyFrom ({ frames := 1, cells := 0, slots := 0, locals := 39 }) (hp_Pc D T [.ref ap0, .ref ap1] (fun _ => True)) (hq_e D T (fun v _ _ => v = none ∧ True)) 0 0 (hp_F T) := by
  obtain ⟨ap0kin, ap0pl, ap0cr, hp0, hp0kin, hp0pl, hp0cr⟩ := id ip0
  obtain ⟨ap1kin, ap1pl, ap1cr, hp1, hp1kin, hp1pl, hp1cr⟩ := id ip1
  refine Met.ofW (cc := cX8_copyFrom) (maxL := 2) (ret := none) (by decide) rfl ?_
  intro p e s m args below meth c s₁ B hml hv
  obtain ⟨rfl, hok, hG, hB⟩ := hv
  have hx := B.exec
  have hb := B.bytes
  have hr := B.returns
  have hts := atoms_spec (ws := wsX8_copyFrom) B.pre
  have hown : s.vm.findClass RX8 = some m.cls := findClass_of_methodNamed B.named
  have hlocks := B.notSynchronized
  have hK := hG.1
  have hw : hp_w D T s s.heap [] := hp_w.rf hok
  have IX8 : ∀ w ∈ wsX80, w ∈ wsX8_copyFrom := by decide +kernel
  have L9 := hts (.fieldLink RX8 9 "PalmCensus$Town" "gates" "I") (by decide +kernel)
  have L15 := hts (.fieldLink RX8 15 "PalmCensus$Town" "hours" "I") (by decide +kernel)
  have L18 := hts (.fieldLink RX8 18 "PalmCensus$Town" "people" "I") (by decide +kernel)
  have L21 := hts (.fieldLink RX8 21 "PalmCensus$Town" "day" "I") (by decide +kernel)
  have L24 := hts (.fieldLink RX8 24 "PalmCensus$Town" "left" "I") (by decide +kernel)
  have L27 := hts (.fieldLink RX8 27 "PalmCensus$Town" "gloved" "I") (by decide +kernel)
  have L30 := hts (.fieldLink RX8 30 "PalmCensus$Town" "children" "I") (by decide +kernel)
  have L33 := hts (.fieldLink RX8 33 "PalmCensus$Town" "counters" "I") (by decide +kernel)
  have L36 := hts (.fieldLink RX8 36 "PalmCensus$Town" "kin" "[I") (by decide +kernel)
  have AC52_1 := hts (.methodLink RX8 52 arraycopyName) (by decide +kernel)
  have AC52_2 := hts (.native arraycopyName) (by decide +kernel)
  have AC52_3 := hts (.static arraycopyName) (by decide +kernel)
  have AC52_4 := hts (.initialized "java/lang/System") (by decide +kernel)
  have L40 := hts (.fieldLink RX8 40 "PalmCensus$Town" "places" "[I") (by decide +kernel)
  have L43 := hts (.fieldLink RX8 43 "PalmCensus$Town" "crowds" "[I") (by decide +kernel)
  have hl := lv_entry ([.ref ap0, .ref ap1]) (n := 2) (Nat.le_of_ble_eq_true rfl)
  rw [lg_entry_eq]
  generalize (lg_sl ([.ref ap0, .ref ap1]) ++ List.replicate (2 - (lg_sl ([.ref ap0, .ref ap1])).length) Slot.unset).toArray = ls at hl ⊢
  have hl : lv_has ls 2 [(0, .ref ap0), (1, .ref ap1)] := hl
  show WX8_copyFrom p l e s m below meth c D T ap0 ap1 s.heap [] (F0 m 0 ls [])
  refine lv_aload_n hx hb dX8_copyFrom_0 rfl (lv_at hl 0 rfl) ?_
  refine lv_aload_n hx hb dX8_copyFrom_1 rfl (lv_at hl 1 rfl) ?_
  refine hp_geti hx hb hts IX8 hown hK hw.1 hp1 rfl 0 (by decide) L9 rfl dX8_copyFrom_2 (fun x2 bx2 fx2 => ?_)
  refine hp_put hx hb hts IX8 tyX8 tyX8_ok nmX8 hown hK hw hp0 rfl 0 (by decide) L9 rfl rfl ⟨_, rfl, bx2⟩ rfl rfl dX8_copyFrom_5 (fun H5 locs5 hw f5n g5 => ?_)
  refine lv_aload_n hx hb dX8_copyFrom_8 rfl (lv_at hl 0 rfl) ?_
  refine lv_aload_n hx hb dX8_copyFrom_9 rfl (lv_at hl 1 rfl) ?_
  refine hp_geti hx hb hts IX8 hown hK hw.1 hp1 rfl 1 (by decide) L15 rfl dX8_copyFrom_10 (fun x10 bx10 fx10 => ?_)
  refine hp_put hx hb hts IX8 tyX8 tyX8_ok nmX8 hown hK hw hp0 rfl 1 (by decide) L15 rfl rfl ⟨_, rfl, bx10⟩ rfl rfl dX8_copyFrom_13 (fun H13 locs13 hw f13n g13 => ?_)
  refine lv_aload_n hx hb dX8_copyFrom_16 rfl (lv_at hl 0 rfl) ?_
  refine lv_aload_n hx hb dX8_copyFrom_17 rfl (lv_at hl 1 rfl) ?_
  refine hp_geti hx hb hts IX8 hown hK hw.1 hp1 rfl 2 (by decide) L18 rfl dX8_copyFrom_18 (fun x18 bx18 fx18 => ?_)
  refine hp_put hx hb hts IX8 tyX8 tyX8_ok nmX8 hown hK hw hp0 rfl 2 (by decide) L18 rfl rfl ⟨_, rfl, bx18⟩ rfl rfl dX8_copyFrom_21 (fun H21 locs21 hw f21n g21 => ?_)
  refine lv_aload_n hx hb dX8_copyFrom_24 rfl (lv_at hl 0 rfl) ?_
  refine lv_aload_n hx hb dX8_copyFrom_25 rfl (lv_at hl 1 rfl) ?_
  refine hp_getA hx hb hts IX8 hown hK hw.1 hp1 rfl 3 (by decide) L21 rfl dX8_copyFrom_26 (fun x26 fx26 => ?_)
  refine hp_put hx hb hts IX8 tyX8 tyX8_ok nmX8 hown hK hw hp0 rfl 3 (by decide) L21 rfl rfl ⟨_, rfl⟩ rfl rfl dX8_copyFrom_29 (fun H29 locs29 hw f29n g29 => ?_)
  refine lv_aload_n hx hb dX8_copyFrom_32 rfl (lv_at hl 0 rfl) ?_
  refine lv_aload_n hx hb dX8_copyFrom_33 rfl (lv_at hl 1 rfl) ?_
  refine hp_getA hx hb hts IX8 hown hK hw.1 hp1 rfl 4 (by decide) L24 rfl dX8_copyFrom_34 (fun x34 fx34 => ?_)
  refine hp_put hx hb hts IX8 tyX8 tyX8_ok nmX8 hown hK hw hp0 rfl 4 (by decide) L24 rfl rfl ⟨_, rfl⟩ rfl rfl dX8_copyFrom_37 (fun H37 locs37 hw f37n g37 => ?_)
  refine lv_aload_n hx hb dX8_copyFrom_40 rfl (lv_at hl 0 rfl) ?_
  refine lv_aload_n hx hb dX8_copyFrom_41 rfl (lv_at hl 1 rfl) ?_
  refine hp_getA hx hb hts IX8 hown hK hw.1 hp1 rfl 5 (by decide) L27 rfl dX8_copyFrom_42 (fun x42 fx42 => ?_)
  refine hp_put hx hb hts IX8 tyX8 tyX8_ok nmX8 hown hK hw hp0 rfl 5 (by decide) L27 rfl rfl ⟨_, rfl⟩ rfl rfl dX8_copyFrom_45 (fun H45 locs45 hw f45n g45 => ?_)
  refine lv_aload_n hx hb dX8_copyFrom_48 rfl (lv_at hl 0 rfl) ?_
  refine lv_aload_n hx hb dX8_copyFrom_49 rfl (lv_at hl 1 rfl) ?_
  refine hp_getA hx hb hts IX8 hown hK hw.1 hp1 rfl 6 (by decide) L30 rfl dX8_copyFrom_50 (fun x50 fx50 => ?_)
  refine hp_put hx hb hts IX8 tyX8 tyX8_ok nmX8 hown hK hw hp0 rfl 6 (by decide) L30 rfl rfl ⟨_, rfl⟩ rfl rfl dX8_copyFrom_53 (fun H53 locs53 hw f53n g53 => ?_)
  refine lv_aload_n hx hb dX8_copyFrom_56 rfl (lv_at hl 0 rfl) ?_
  refine lv_aload_n hx hb dX8_copyFrom_57 rfl (lv_at hl 1 rfl) ?_
  refine hp_getA hx hb hts IX8 hown hK hw.1 hp1 rfl 7 (by decide) L33 rfl dX8_copyFrom_58 (fun x58 fx58 => ?_)
  refine hp_put hx hb hts IX8 tyX8 tyX8_ok nmX8 hown hK hw hp0 rfl 7 (by decide) L33 rfl rfl ⟨_, rfl⟩ rfl rfl dX8_copyFrom_61 (fun H61 locs61 hw f61n g61 => ?_)
  refine lv_aload_n hx hb dX8_copyFrom_64 rfl (lv_at hl 1 rfl) ?_
  refine hp_getr hx hb hts IX8 hown hK hw.1 hp1 rfl 8 (by decide) L36 rfl dX8_copyFrom_65 ?_
  refine lv_iconst (v := 0) hx hb dX8_copyFrom_68 (by decide) ?_
  refine lv_aload_n hx hb dX8_copyFrom_69 rfl (lv_at hl 0 rfl) ?_
  refine hp_getr hx hb hts IX8 hown hK hw.1 hp0 rfl 8 (by decide) L36 rfl dX8_copyFrom_70 ?_
  refine lv_iconst (v := 0) hx hb dX8_copyFrom_73 (by decide) ?_
  refine lv_aload_n hx hb dX8_copyFrom_74 rfl (lv_at hl 0 rfl) ?_
  refine hp_getr hx hb hts IX8 hown hK hw.1 hp0 rfl 8 (by decide) L36 rfl dX8_copyFrom_75 ?_
  refine hp_alen (v := 10) hx hb hK hw.1 hp0kin rfl rfl dX8_copyFrom_78 ?_
  refine hp_copy hx hb (by rw [hml]; exact hl.1.symm) hown AC52_1 AC52_2 AC52_3 AC52_4 hK hw hp1kin hp0kin (fun v h => h) (fun v h => h) (by decide) (by decide) (by decide) (by decide) (by decide) (Nat.le_of_ble_eq_true rfl) (Nat.le_of_ble_eq_true rfl) dX8_copyFrom_79 (fun H79 locs79 hw g79 => ?_)
  refine lv_aload_n hx hb dX8_copyFrom_82 rfl (lv_at hl 1 rfl) ?_
  refine hp_getr hx hb hts IX8 hown hK hw.1 hp1 rfl 9 (by decide) L40 rfl dX8_copyFrom_83 ?_
  refine lv_iconst (v := 0) hx hb dX8_copyFrom_86 (by decide) ?_
  refine lv_aload_n hx hb dX8_copyFrom_87 rfl (lv_at hl 0 rfl) ?_
  refine hp_getr hx hb hts IX8 hown hK hw.1 hp0 rfl 9 (by decide) L40 rfl dX8_copyFrom_88 ?_
  refine lv_iconst (v := 0) hx hb dX8_copyFrom_91 (by decide) ?_
  refine lv_aload_n hx hb dX8_copyFrom_92 rfl (lv_at hl 0 rfl) ?_
  refine hp_getr hx hb hts IX8 hown hK hw.1 hp0 rfl 9 (by decide) L40 rfl dX8_copyFrom_93 ?_
  refine hp_alen (v := 120) hx hb hK hw.1 hp0pl rfl rfl dX8_copyFrom_96 ?_
  refine hp_copy hx hb (by rw [hml]; exact hl.1.symm) hown AC52_1 AC52_2 AC52_3 AC52_4 hK hw hp1pl hp0pl (fun v h => h) (fun v h => h) (by decide) (by decide) (by decide) (by decide) (by decide) (Nat.le_of_ble_eq_true rfl) (Nat.le_of_ble_eq_true rfl) dX8_copyFrom_97 (fun H97 locs97 hw g97 => ?_)
  refine lv_aload_n hx hb dX8_copyFrom_100 rfl (lv_at hl 1 rfl) ?_
  refine hp_getr hx hb hts IX8 hown hK hw.1 hp1 rfl 10 (by decide) L43 rfl dX8_copyFrom_101 ?_
  refine lv_iconst (v := 0) hx hb dX8_copyFrom_104 (by decide) ?_
  refine lv_aload_n hx hb dX8_copyFrom_105 rfl (lv_at hl 0 rfl) ?_
  refine hp_getr hx hb hts IX8 hown hK hw.1 hp0 rfl 10 (by decide) L43 rfl dX8_copyFrom_106 ?_
  refine lv_iconst (v := 0) hx hb dX8_copyFrom_109 (by decide) ?_
  refine lv_aload_n hx hb dX8_copyFrom_110 rfl (lv_at hl 0 rfl) ?_
  refine hp_getr hx hb hts IX8 hown hK hw.1 hp0 rfl 10 (by decide) L43 rfl dX8_copyFrom_111 ?_
  refine hp_alen (v := 72) hx hb hK hw.1 hp0cr rfl rfl dX8_copyFrom_114 ?_
  refine hp_copy hx hb (by rw [hml]; exact hl.1.symm) hown AC52_1 AC52_2 AC52_3 AC52_4 hK hw hp1cr hp0cr (fun v h => h) (fun v h => (by obtain ⟨x, hx9, -⟩ := h; exact ⟨x, hx9⟩)) (by decide) (by decide) (by decide) (by decide) (by decide) (Nat.le_of_ble_eq_true rfl) (Nat.le_of_ble_eq_true rfl) dX8_copyFrom_115 (fun H115 locs115 hw g115 => ?_)
  exact W.vret hx hb hr (fun t ht hW => ⟨none, rfl, ⟨rfl, trivial⟩, by rw [ht]; exact hw.1, hw.2.F ht⟩) hw.2.2.2 dX8_copyFrom_118
