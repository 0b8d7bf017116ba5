abbrev WX12_isDigit (p : Program) (l : Launch) (e : Env) (s : State) (m : MethodId) (below : List Frame) (meth : Method) (c : Code) (D : hp_D) (T : hp_T) (ap0 : Nat) (xp1 : Int32) (xp100 : Int32) (A : Nat → Nat) (Tp : Nat → Value) (H : Heap) (locs : List Loc) (g : JFrame) : Prop := W p l e (headSpec wsX12_isDigit ({ frames := 0, cells := 0, slots := 0, locals := 0 })).room s m ([.ref ap0, .int xp1] : List Value).toArray below meth c H locs 0 0 (MQ below (hq_p (fun v => ∃ r : Int32, v = some (.int r) ∧ (iv r 0 1 ∧ (¬ r = 0 → chb Tp 48 57 xp1.toInt xp100.toInt) ∧ (r = 0 → ¬ chb Tp 48 57 xp1.toInt xp100.toInt) ∧ (¬ r = 0 → iv xp1 0 399)))) ([.ref ap0, .int xp1] : List Value).toArray s 0 0 (fun _ => False)) g
set_option maxHeartbeats 4000000 in
set_option maxRecDepth 100000 in
theorem sX12_isDigit (l : Launch) (D : hp_D) (T : hp_T) (ap0 : Nat) (xp1 : Int32) (xp100 : Int32) (A : Nat → Nat) (Gm : moG) (Tp : Nat → Value) (ip0 : isMp T ap0 A Gm Tp) (bp1 : iv xp1 0 1000) (bp100 : iv xp100 0 400) : Met l yX12_isDigit wsX12_isDigit ({ frames := 0, cells := 0, slots := 0, locals := 0 }) (hp_Pc D T [.ref ap0, .int xp1] (fun H => hp_f D H ap0 12 1 (.int xp100))) (hq_p (fun v => ∃ r : Int32, v = some (.int r) ∧ (iv r 0 1 ∧ (¬ r = 0 → chb Tp 48 57 xp1.toInt xp100.toInt) ∧ (r = 0 → ¬ chb Tp 48 57 xp1.toInt xp100.toInt) ∧ (¬ r = 0 → iv xp1 0 399)))) 0 0 (fun _ => False) := by
  obtain ⟨gok, tpok, hp0, hp0tape, hp0sign, hp0len, hp0clause, hp0clauses, hp0read, hp0opn, hp0stack, hp0word, hp0said, hp0was, hp0fitting, hp0sums, hp0sort, hp0sumsBy, hp0oneOf, hp0otherOf, hp0kept, hp0images, hp0acts, hp0iUnd, hp0iFor, hp0iX, hp0made⟩ := id ip0
  have hpx := gok.1
  have gsok := gok.2.2.2.2
  have ggd := gok.2.2.2.1
  refine Met.ofW (cc := cX12_isDigit) (maxL := 2) (ret := (some .boolean)) (by decide) rfl ?_
  intro p e s m args below meth c s₁ B hml hv
  obtain ⟨rfl, hok, hG, hB⟩ := hv
  have hx := B.exec
  have hb := B.bytes
  have hr := B.returns
  have hts := atoms_spec (ws := wsX12_isDigit) B.pre
  have hown : s.vm.findClass RX12 = some m.cls := findClass_of_methodNamed B.named
  have hlocks := B.notSynchronized
  have hK := hG.1
  have hw : hp_w D T s s.heap [] := hp_w.rf hok
  have IX12 : ∀ w ∈ wsX120, w ∈ wsX12_isDigit := by decide +kernel
  have L89 := hts (.fieldLink RX12 89 "PalmCensusModel" "taped" "I") (by decide +kernel)
  have L7 := hts (.fieldLink RX12 7 "PalmCensusModel" "tape" "[B") (by decide +kernel)
  have k0 : (0 : Int32).toInt = 0 := (by decide)
  have k1 : (1 : Int32).toInt = 1 := (by decide)
  have k48 : (48 : Int32).toInt = 48 := (by decide)
  have k57 : (57 : Int32).toInt = 57 := (by decide)
  have obp100 := iv_o bp100
  have obp1 := iv_o bp1
  have hl := lv_entry ([.ref ap0, .int xp1]) (n := 2) (Nat.le_of_ble_eq_true rfl)
  rw [lg_entry_eq]
  generalize (lg_sl ([.ref ap0, .int xp1]) ++ List.replicate (2 - (lg_sl ([.ref ap0, .int xp1])).length) Slot.unset).toArray = ls at hl ⊢
  have hl : lv_has ls 2 [(0, .ref ap0), (1, .int xp1)] := hl
  show WX12_isDigit p l e s m below meth c D T ap0 xp1 xp100 A Tp s.heap [] (F0 m 0 ls [])
  have obp100 := iv_o bp100
  refine lv_iload_n hx hb dX12_isDigit_0 rfl (lv_at hl 1 rfl) ?_
  refine lv_aload_n hx hb dX12_isDigit_1 rfl (lv_at hl 0 rfl) ?_
  refine hp_getf hx hb hts IX12 hown hK hB rfl (by decide) L89 dX12_isDigit_2 ?_
  refine lv_icmp_ge (tgt := 34) hx hb dX12_isDigit_5 (by decide) (fun c5 => ?_) (fun c5 => ?_)
  · have oc5 := Int32.le_iff_toInt_le.mp c5
    refine lv_iconst (v := 0) hx hb dX12_isDigit_34 (by decide) ?_
    exact W.zret (v := 0) hx hb hr (iv_nz (show iv 0 0 1 from ⟨by decide, by decide⟩)) (fun t ht hW => ⟨some (.int 0), rfl, ⟨(0 : Int32), rfl, ⟨(show iv 0 0 1 from ⟨by decide, by decide⟩), (fun h9 => absurd rfl h9), (fun _ h9 => by have := h9.2.1; omega), (fun h9 => absurd rfl h9)⟩⟩, ht⟩) (fun q h => by cases h) dX12_isDigit_35
  · have oc5 := Int32.lt_iff_toInt_lt.mp (iv_nle c5)
    have r5fp : iv xp1 0 399 := (iv_lt_l (iv_nle c5) bp1 bp100).mono (by decide) (by decide)
    have or5fp := iv_o r5fp
    have r5fq : iv xp100 1 400 := (iv_lt_r (iv_nle c5) bp1 bp100).mono (by decide) (by decide)
    have or5fq := iv_o r5fq
    refine lv_aload_n hx hb dX12_isDigit_8 rfl (lv_at hl 0 rfl) ?_
    refine hp_getr hx hb hts IX12 hown hK hw.1 hp0 rfl 0 (by decide) L7 rfl dX12_isDigit_9 ?_
    refine lv_iload_n hx hb dX12_isDigit_12 rfl (lv_at hl 1 rfl) ?_
    refine hp_bald hx hb hK hw.1 hp0tape (vp_iv r5fp (by decide)) dX12_isDigit_13 (fun v13 h13 => ?_)
    obtain ⟨x13, rfl⟩ := tpok _ _ h13
    have ex13 : Value.int x13 = Tp (xp1).toNatClampNeg := h13
    refine lv_bipush (v := 48) hx hb dX12_isDigit_14 (by decide) ?_
    refine lv_icmp_lt (tgt := 34) hx hb dX12_isDigit_16 (by decide) (fun c16 => ?_) (fun c16 => ?_)
    · have oc16 := Int32.lt_iff_toInt_lt.mp c16
      have r16tp : iv x13 (-2147483648) 47 := (iv_lt_l c16 (iv_any x13) (show iv 48 48 48 from ⟨by decide, by decide⟩)).mono (by decide) (by decide)
      have or16tp := iv_o r16tp
      refine lv_iconst (v := 0) hx hb dX12_isDigit_34 (by decide) ?_
      exact W.zret (v := 0) hx hb hr (iv_nz (show iv 0 0 1 from ⟨by decide, by decide⟩)) (fun t ht hW => ⟨some (.int 0), rfl, ⟨(0 : Int32), rfl, ⟨(show iv 0 0 1 from ⟨by decide, by decide⟩), (fun h9 => absurd rfl h9), (fun _ h9 => by have := chb_in h9 ex13; omega), (fun h9 => absurd rfl h9)⟩⟩, ht⟩) (fun q h => by cases h) dX12_isDigit_35
    · have oc16 := Int32.le_iff_toInt_le.mp (iv_nlt c16)
      have r16fq : iv x13 48 2147483647 := (iv_le_r (iv_nlt c16) (show iv 48 48 48 from ⟨by decide, by decide⟩) (iv_any x13)).mono (by decide) (by decide)
      have or16fq := iv_o r16fq
      refine lv_aload_n hx hb dX12_isDigit_19 rfl (lv_at hl 0 rfl) ?_
      refine hp_getr hx hb hts IX12 hown hK hw.1 hp0 rfl 0 (by decide) L7 rfl dX12_isDigit_20 ?_
      refine lv_iload_n hx hb dX12_isDigit_23 rfl (lv_at hl 1 rfl) ?_
      refine hp_bald hx hb hK hw.1 hp0tape (vp_iv r5fp (by decide)) dX12_isDigit_24 (fun v24 h24 => ?_)
      obtain ⟨x24, rfl⟩ := tpok _ _ h24
      have ex24 : Value.int x24 = Tp (xp1).toNatClampNeg := h24
      refine lv_bipush (v := 57) hx hb dX12_isDigit_25 (by decide) ?_
      refine lv_icmp_gt (tgt := 34) hx hb dX12_isDigit_27 (by decide) (fun c27 => ?_) (fun c27 => ?_)
      · have oc27 := Int32.lt_iff_toInt_lt.mp c27
        have r27tq : iv x24 58 2147483647 := (iv_lt_r c27 (show iv 57 57 57 from ⟨by decide, by decide⟩) (iv_any x24)).mono (by decide) (by decide)
        have or27tq := iv_o r27tq
        refine lv_iconst (v := 0) hx hb dX12_isDigit_34 (by decide) ?_
        exact W.zret (v := 0) hx hb hr (iv_nz (show iv 0 0 1 from ⟨by decide, by decide⟩)) (fun t ht hW => ⟨some (.int 0), rfl, ⟨(0 : Int32), rfl, ⟨(show iv 0 0 1 from ⟨by decide, by decide⟩), (fun h9 => absurd rfl h9), (fun _ h9 => by have := chb_in h9 ex24; omega), (fun h9 => absurd rfl h9)⟩⟩, ht⟩) (fun q h => by cases h) dX12_isDigit_35
      · have oc27 := Int32.le_iff_toInt_le.mp (iv_nlt c27)
        have r27fp : iv x24 (-2147483648) 57 := (iv_le_l (iv_nlt c27) (iv_any x24) (show iv 57 57 57 from ⟨by decide, by decide⟩)).mono (by decide) (by decide)
        have or27fp := iv_o r27fp
        refine lv_iconst (v := 1) hx hb dX12_isDigit_30 (by decide) ?_
        refine lv_goto (tgt := 35) hx hb dX12_isDigit_31 (by decide) ?_
        exact W.zret (v := 1) hx hb hr (iv_nz (show iv 1 0 1 from ⟨by decide, by decide⟩)) (fun t ht hW => ⟨some (.int 1), rfl, ⟨(1 : Int32), rfl, ⟨(show iv 1 0 1 from ⟨by decide, by decide⟩), (fun _ => chb_mk (by omega) (by omega) ex13 ex24 (by omega) (by omega)), (fun h9 => absurd h9 (by decide)), (fun _ => ⟨by omega, by omega⟩)⟩⟩, ht⟩) (fun q h => by cases h) dX12_isDigit_35
abbrev WX12_isLetter (p : Program) (l : Launch) (e : Env) (s : State) (m : MethodId) (below : List Frame) (meth : Method) (c : Code) (D : hp_D) (T : hp_T) (ap0 : Nat) (xp1 : Int32) (xp100 : Int32) (A : Nat → Nat) (Tp : Nat → Value) (H : Heap) (locs : List Loc) (g : JFrame) : Prop := W p l e (headSpec wsX12_isLetter ({ frames := 0, cells := 0, slots := 0, locals := 0 })).room s m ([.ref ap0, .int xp1] : List Value).toArray below meth c H locs 0 0 (MQ below (hq_p (fun v => ∃ r : Int32, v = some (.int r) ∧ (iv r 0 1 ∧ (¬ r = 0 → chb Tp 97 122 xp1.toInt xp100.toInt) ∧ (r = 0 → ¬ chb Tp 97 122 xp1.toInt xp100.toInt) ∧ (¬ r = 0 → iv xp1 0 399)))) ([.ref ap0, .int xp1] : List Value).toArray s 0 0 (fun _ => False)) g
set_option maxHeartbeats 4000000 in
set_option maxRecDepth 100000 in
theorem sX12_isLetter (l : Launch) (D : hp_D) (T : hp_T) (ap0 : Nat) (xp1 : Int32) (xp100 : Int32) (A : Nat → Nat) (Gm : moG) (Tp : Nat → Value) (ip0 : isMp T ap0 A Gm Tp) (bp1 : iv xp1 0 1000) (bp100 : iv xp100 0 400) : Met l yX12_isLetter wsX12_isLetter ({ frames := 0, cells := 0, slots := 0, locals := 0 }) (hp_Pc D T [.ref ap0, .int xp1] (fun H => hp_f D H ap0 12 1 (.int xp100))) (hq_p (fun v => ∃ r : Int32, v = some (.int r) ∧ (iv r 0 1 ∧ (¬ r = 0 → chb Tp 97 122 xp1.toInt xp100.toInt) ∧ (r = 0 → ¬ chb Tp 97 122 xp1.toInt xp100.toInt) ∧ (¬ r = 0 → iv xp1 0 399)))) 0 0 (fun _ => False) := by
  obtain ⟨gok, tpok, hp0, hp0tape, hp0sign, hp0len, hp0clause, hp0clauses, hp0read, hp0opn, hp0stack, hp0word, hp0said, hp0was, hp0fitting, hp0sums, hp0sort, hp0sumsBy, hp0oneOf, hp0otherOf, hp0kept, hp0images, hp0acts, hp0iUnd, hp0iFor, hp0iX, hp0made⟩ := id ip0
  have hpx := gok.1
  have gsok := gok.2.2.2.2
  have ggd := gok.2.2.2.1
  refine Met.ofW (cc := cX12_isLetter) (maxL := 2) (ret := (some .boolean)) (by decide) rfl ?_
  intro p e s m args below meth c s₁ B hml hv
  obtain ⟨rfl, hok, hG, hB⟩ := hv
  have hx := B.exec
  have hb := B.bytes
  have hr := B.returns
  have hts := atoms_spec (ws := wsX12_isLetter) B.pre
  have hown : s.vm.findClass RX12 = some m.cls := findClass_of_methodNamed B.named
  have hlocks := B.notSynchronized
  have hK := hG.1
  have hw : hp_w D T s s.heap [] := hp_w.rf hok
  have IX12 : ∀ w ∈ wsX120, w ∈ wsX12_isLetter := by decide +kernel
  have L89 := hts (.fieldLink RX12 89 "PalmCensusModel" "taped" "I") (by decide +kernel)
  have L7 := hts (.fieldLink RX12 7 "PalmCensusModel" "tape" "[B") (by decide +kernel)
  have k0 : (0 : Int32).toInt = 0 := (by decide)
  have k1 : (1 : Int32).toInt = 1 := (by decide)
  have k97 : (97 : Int32).toInt = 97 := (by decide)
  have k122 : (122 : Int32).toInt = 122 := (by decide)
  have obp100 := iv_o bp100
  have obp1 := iv_o bp1
  have hl := lv_entry ([.ref ap0, .int xp1]) (n := 2) (Nat.le_of_ble_eq_true rfl)
  rw [lg_entry_eq]
  generalize (lg_sl ([.ref ap0, .int xp1]) ++ List.replicate (2 - (lg_sl ([.ref ap0, .int xp1])).length) Slot.unset).toArray = ls at hl ⊢
  have hl : lv_has ls 2 [(0, .ref ap0), (1, .int xp1)] := hl
  show WX12_isLetter p l e s m below meth c D T ap0 xp1 xp100 A Tp s.heap [] (F0 m 0 ls [])
  have obp100 := iv_o bp100
  refine lv_iload_n hx hb dX12_isLetter_0 rfl (lv_at hl 1 rfl) ?_
  refine lv_aload_n hx hb dX12_isLetter_1 rfl (lv_at hl 0 rfl) ?_
  refine hp_getf hx hb hts IX12 hown hK hB rfl (by decide) L89 dX12_isLetter_2 ?_
  refine lv_icmp_ge (tgt := 34) hx hb dX12_isLetter_5 (by decide) (fun c5 => ?_) (fun c5 => ?_)
  · have oc5 := Int32.le_iff_toInt_le.mp c5
    refine lv_iconst (v := 0) hx hb dX12_isLetter_34 (by decide) ?_
    exact W.zret (v := 0) hx hb hr (iv_nz (show iv 0 0 1 from ⟨by decide, by decide⟩)) (fun t ht hW => ⟨some (.int 0), rfl, ⟨(0 : Int32), rfl, ⟨(show iv 0 0 1 from ⟨by decide, by decide⟩), (fun h9 => absurd rfl h9), (fun _ h9 => by have := h9.2.1; omega), (fun h9 => absurd rfl h9)⟩⟩, ht⟩) (fun q h => by cases h) dX12_isLetter_35
  · have oc5 := Int32.lt_iff_toInt_lt.mp (iv_nle c5)
    have r5fp : iv xp1 0 399 := (iv_lt_l (iv_nle c5) bp1 bp100).mono (by decide) (by decide)
    have or5fp := iv_o r5fp
    have r5fq : iv xp100 1 400 := (iv_lt_r (iv_nle c5) bp1 bp100).mono (by decide) (by decide)
    have or5fq := iv_o r5fq
    refine lv_aload_n hx hb dX12_isLetter_8 rfl (lv_at hl 0 rfl) ?_
    refine hp_getr hx hb hts IX12 hown hK hw.1 hp0 rfl 0 (by decide) L7 rfl dX12_isLetter_9 ?_
    refine lv_iload_n hx hb dX12_isLetter_12 rfl (lv_at hl 1 rfl) ?_
    refine hp_bald hx hb hK hw.1 hp0tape (vp_iv r5fp (by decide)) dX12_isLetter_13 (fun v13 h13 => ?_)
    obtain ⟨x13, rfl⟩ := tpok _ _ h13
    have ex13 : Value.int x13 = Tp (xp1).toNatClampNeg := h13
    refine lv_bipush (v := 97) hx hb dX12_isLetter_14 (by decide) ?_
    refine lv_icmp_lt (tgt := 34) hx hb dX12_isLetter_16 (by decide) (fun c16 => ?_) (fun c16 => ?_)
    · have oc16 := Int32.lt_iff_toInt_lt.mp c16
      have r16tp : iv x13 (-2147483648) 96 := (iv_lt_l c16 (iv_any x13) (show iv 97 97 97 from ⟨by decide, by decide⟩)).mono (by decide) (by decide)
      have or16tp := iv_o r16tp
      refine lv_iconst (v := 0) hx hb dX12_isLetter_34 (by decide) ?_
      exact W.zret (v := 0) hx hb hr (iv_nz (show iv 0 0 1 from ⟨by decide, by decide⟩)) (fun t ht hW => ⟨some (.int 0), rfl, ⟨(0 : Int32), rfl, ⟨(show iv 0 0 1 from ⟨by decide, by decide⟩), (fun h9 => absurd rfl h9), (fun _ h9 => by have := chb_in h9 ex13; omega), (fun h9 => absurd rfl h9)⟩⟩, ht⟩) (fun q h => by cases h) dX12_isLetter_35
    · have oc16 := Int32.le_iff_toInt_le.mp (iv_nlt c16)
      have r16fq : iv x13 97 2147483647 := (iv_le_r (iv_nlt c16) (show iv 97 97 97 from ⟨by decide, by decide⟩) (iv_any x13)).mono (by decide) (by decide)
      have or16fq := iv_o r16fq
      refine lv_aload_n hx hb dX12_isLetter_19 rfl (lv_at hl 0 rfl) ?_
      refine hp_getr hx hb hts IX12 hown hK hw.1 hp0 rfl 0 (by decide) L7 rfl dX12_isLetter_20 ?_
      refine lv_iload_n hx hb dX12_isLetter_23 rfl (lv_at hl 1 rfl) ?_
      refine hp_bald hx hb hK hw.1 hp0tape (vp_iv r5fp (by decide)) dX12_isLetter_24 (fun v24 h24 => ?_)
      obtain ⟨x24, rfl⟩ := tpok _ _ h24
      have ex24 : Value.int x24 = Tp (xp1).toNatClampNeg := h24
      refine lv_bipush (v := 122) hx hb dX12_isLetter_25 (by decide) ?_
      refine lv_icmp_gt (tgt := 34) hx hb dX12_isLetter_27 (by decide) (fun c27 => ?_) (fun c27 => ?_)
      · have oc27 := Int32.lt_iff_toInt_lt.mp c27
        have r27tq : iv x24 123 2147483647 := (iv_lt_r c27 (show iv 122 122 122 from ⟨by decide, by decide⟩) (iv_any x24)).mono (by decide) (by decide)
        have or27tq := iv_o r27tq
        refine lv_iconst (v := 0) hx hb dX12_isLetter_34 (by decide) ?_
        exact W.zret (v := 0) hx hb hr (iv_nz (show iv 0 0 1 from ⟨by decide, by decide⟩)) (fun t ht hW => ⟨some (.int 0), rfl, ⟨(0 : Int32), rfl, ⟨(show iv 0 0 1 from ⟨by decide, by decide⟩), (fun h9 => absurd rfl h9), (fun _ h9 => by have := chb_in h9 ex24; omega), (fun h9 => absurd rfl h9)⟩⟩, ht⟩) (fun q h => by cases h) dX12_isLetter_35
      · have oc27 := Int32.le_iff_toInt_le.mp (iv_nlt c27)
        have r27fp : iv x24 (-2147483648) 122 := (iv_le_l (iv_nlt c27) (iv_any x24) (show iv 122 122 122 from ⟨by decide, by decide⟩)).mono (by decide) (by decide)
        have or27fp := iv_o r27fp
        refine lv_iconst (v := 1) hx hb dX12_isLetter_30 (by decide) ?_
        refine lv_goto (tgt := 35) hx hb dX12_isLetter_31 (by decide) ?_
        exact W.zret (v := 1) hx hb hr (iv_nz (show iv 1 0 1 from ⟨by decide, by decide⟩)) (fun t ht hW => ⟨some (.int 1), rfl, ⟨(1 : Int32), rfl, ⟨(show iv 1 0 1 from ⟨by decide, by decide⟩), (fun _ => chb_mk (by omega) (by omega) ex13 ex24 (by omega) (by omega)), (fun h9 => absurd h9 (by decide)), (fun _ => ⟨by omega, by omega⟩)⟩⟩, ht⟩) (fun q h => by cases h) dX12_isLetter_35
abbrev WX12_fails (p : Program) (l : Launch) (e : Env) (s : State) (m : MethodId) (below : List Frame) (meth : Method) (c : Code) (D : hp_D) (T : hp_T) (ap0 : Nat) (xp1 : Int32) (xp2 : Int32) (A : Nat → Nat) (Tp : Nat → Value) (H : Heap) (locs : List Loc) (g : JFrame) : Prop := W p l e (headSpec wsX12_fails ({ frames := 0, cells := 0, slots := 0, locals := 0 })).room s m ([.ref ap0, .int xp1, .int xp2] : List Value).toArray below meth c H locs 0 0 (MQ below (hq_e D T (fun v st t => ∃ r : Int32, v = some (.int r) ∧ (hp_km D [(12, 9)] st.heap t.heap ∧ hp_on (fun q => q = ap0) st.heap t.heap ∧ iv r 0 0))) ([.ref ap0, .int xp1, .int xp2] : List Value).toArray s 0 0 (hp_F T)) g
set_option maxHeartbeats 4000000 in
set_option maxRecDepth 100000 in
theorem sX12_fails (l : Launch) (D : hp_D) (T : hp_T) (ap0 : Nat) (xp1 : Int32) (xp2 : Int32) (A : Nat → Nat) (Gm : moG) (Tp : Nat → Value) (ip0 : isMp T ap0 A Gm Tp) : Met l yX12_fails wsX12_fails ({ frames := 0, cells := 0, slots := 0, locals := 0 }) (hp_Pc D T [.ref ap0, .int xp1, .int xp2] (fun _ => True)) (hq_e D T (fun v st t => ∃ r : Int32, v = some (.int r) ∧ (hp_km D [(12, 9)] st.heap t.heap ∧ hp_on (fun q => q = ap0) st.heap t.heap ∧ iv r 0 0))) 0 0 (hp_F T) := by
  obtain ⟨gok, tpok, hp0, hp0tape, hp0sign, hp0len, hp0clause, hp0clauses, hp0read, hp0opn, hp0stack, hp0word, hp0said, hp0was, hp0fitting, hp0sums, hp0sort, hp0sumsBy, hp0oneOf, hp0otherOf, hp0kept, hp0images, hp0acts, hp0iUnd, hp0iFor, hp0iX, hp0made⟩ := id ip0
  have hpx := gok.1
  have gsok := gok.2.2.2.2
  have ggd := gok.2.2.2.1
  refine Met.ofW (cc := cX12_fails) (maxL := 3) (ret := (some .boolean)) (by decide) rfl ?_
  intro p e s m args below meth c s₁ B hml hv
  obtain ⟨rfl, hok, hG, hB⟩ := hv
  have hx := B.exec
  have hb := B.bytes
  have hr := B.returns
  have hts := atoms_spec (ws := wsX12_fails) B.pre
  have hown : s.vm.findClass RX12 = some m.cls := findClass_of_methodNamed B.named
  have hlocks := B.notSynchronized
  have hK := hG.1
  have hw : hp_w D T s s.heap [] := hp_w.rf hok
  have IX12 : ∀ w ∈ wsX120, w ∈ wsX12_fails := by decide +kernel
  have L96 := hts (.fieldLink RX12 96 "PalmCensusModel" "wrong" "I") (by decide +kernel)
  have hon : hp_on (fun q => q = ap0) s.heap s.heap := fun _ _ => rfl
  have k0 : (0 : Int32).toInt = 0 := (by decide)
  have k1 : (1 : Int32).toInt = 1 := (by decide)
  have k8 : (8 : Int32).toInt = 8 := (by decide)
  have hkm : hp_km D [(12, 9)] s.heap s.heap := fun _ _ _ _ h _ => h
  have hl := lv_entry ([.ref ap0, .int xp1, .int xp2]) (n := 3) (Nat.le_of_ble_eq_true rfl)
  rw [lg_entry_eq]
  generalize (lg_sl ([.ref ap0, .int xp1, .int xp2]) ++ List.replicate (3 - (lg_sl ([.ref ap0, .int xp1, .int xp2])).length) Slot.unset).toArray = ls at hl ⊢
  have hl : lv_has ls 3 [(0, .ref ap0), (1, .int xp1), (2, .int xp2)] := hl
  show WX12_fails p l e s m below meth c D T ap0 xp1 xp2 A Tp s.heap [] (F0 m 0 ls [])
  refine lv_aload_n hx hb dX12_fails_0 rfl (lv_at hl 0 rfl) ?_
  refine hp_getA hx hb hts IX12 hown hK hw.1 hp0 rfl 9 (by decide) L96 rfl dX12_fails_1 (fun x1 fx1 => ?_)
  have J19 : ∀ (H : Heap) (locs : List Loc), hp_w D T s H locs → hp_km D [(12, 9)] s.heap H → hp_on (fun q => q = ap0) s.heap H → ∀ (ls : Array Slot), lv_has ls 3 [] → WX12_fails p l e s m below meth c D T ap0 xp1 xp2 A Tp H locs (F0 m 19 ls []) := by
    intro H19 locs19 hw hkm hon ls hl
    refine lv_iconst (v := 0) hx hb dX12_fails_19 (by decide) ?_
    exact W.zret (v := 0) hx hb hr (iv_nz (show iv 0 0 1 from ⟨by decide, by decide⟩)) (fun t ht hW => ⟨some (.int 0), rfl, ⟨(0 : Int32), rfl, ⟨by rw [ht]; exact hkm, by rw [ht]; exact hon, (show iv 0 0 0 from ⟨by decide, by decide⟩)⟩⟩, by rw [ht]; exact hw.1, hw.2.F ht⟩) hw.2.2.2 dX12_fails_20
  refine lv_if_ne (tgt := 19) hx hb dX12_fails_4 (by decide) (fun c4 => ?_) (fun c4 => ?_)
  · have oc4 := iv_neq c4
    exact J19 s.heap [] hw hkm hon _ (lv_sub hl [] rfl)
  · have oc4 := congrArg Int32.toInt c4
    have r4fp : iv x1 0 0 := (iv_both (iv_any x1) (iv_eq (show iv 0 0 0 from ⟨by decide, by decide⟩) c4)).mono (by decide) (by decide)
    have or4fp := iv_o r4fp
    refine lv_aload_n hx hb dX12_fails_7 rfl (lv_at hl 0 rfl) ?_
    refine lv_iconst (v := 1) hx hb dX12_fails_8 (by decide) ?_
    refine lv_bipush (v := 8) hx hb dX12_fails_9 (by decide) ?_
    refine lv_iload_n hx hb dX12_fails_11 rfl (lv_at hl 2 rfl) ?_
    refine lv_imul hx hb dX12_fails_12 ?_
    refine lv_topi (fun x12 ex12 => ?_)
    refine lv_iadd hx hb dX12_fails_13 ?_
    refine lv_topi (fun x13 ex13 => ?_)
    refine lv_iload_n hx hb dX12_fails_14 rfl (lv_at hl 1 rfl) ?_
    refine lv_iadd hx hb dX12_fails_15 ?_
    refine lv_topi (fun x15 ex15 => ?_)
    refine hp_putE hx hb hts IX12 tyX12 tyX12_ok nmX12 hown hK hw hp0 rfl 9 (by decide) L96 rfl rfl ⟨_, rfl⟩ rfl rfl dX12_fails_16 (fun H16 locs16 hw f16n g16 on16 => ?_)
    have hon := hon.trans (show hp_on (fun q => q = ap0) _ _ from on16)
    have hkm := hkm.put g16 (by decide)
    exact J19 H16 locs16 hw hkm hon _ (lv_sub hl [] rfl)
abbrev WX12_see (p : Program) (l : Launch) (e : Env) (s : State) (m : MethodId) (below : List Frame) (meth : Method) (c : Code) (D : hp_D) (T : hp_T) (ap0 : Nat) (xp100 : Int32) (xp101 : Int32) (A : Nat → Nat) (Tp : Nat → Value) (H : Heap) (locs : List Loc) (g : JFrame) : Prop := W p l e (headSpec wsX12_see ({ frames := 0, cells := 0, slots := 0, locals := 0 })).room s m ([.ref ap0] : List Value).toArray below meth c H locs 0 0 (MQ below (hq_e D T (fun v st t => ∃ r : Int32, v = some (.int r) ∧ ((∃ y0 : Int32, hp_km D [(12, 8)] st.heap t.heap ∧ hp_on (fun q => q = ap0) st.heap t.heap ∧ hp_f D t.heap ap0 12 8 (.int y0) ∧ iv r (-1) 255 ∧ iv y0 0 400 ∧ (xp100.toInt ≤ y0.toInt) ∧ (0 ≤ r.toInt → y0.toInt < xp101.toInt))))) ([.ref ap0] : List Value).toArray s 0 0 (hp_F T)) g
set_option maxHeartbeats 4000000 in
set_option maxRecDepth 100000 in
theorem sX12_see (l : Launch) (D : hp_D) (T : hp_T) (ap0 : Nat) (xp100 : Int32) (xp101 : Int32) (A : Nat → Nat) (Gm : moG) (Tp : Nat → Value) (ip0 : isMp T ap0 A Gm Tp) (bp100 : iv xp100 0 400) (bp101 : iv xp101 0 400) : Met l yX12_see wsX12_see ({ frames := 0, cells := 0, slots := 0, locals := 0 }) (hp_Pc D T [.ref ap0] (fun H => hp_f D H ap0 12 8 (.int xp100) ∧ hp_f D H ap0 12 1 (.int xp101))) (hq_e D T (fun v st t => ∃ r : Int32, v = some (.int r) ∧ ((∃ y0 : Int32, hp_km D [(12, 8)] st.heap t.heap ∧ hp_on (fun q => q = ap0) st.heap t.heap ∧ hp_f D t.heap ap0 12 8 (.int y0) ∧ iv r (-1) 255 ∧ iv y0 0 400 ∧ (xp100.toInt ≤ y0.toInt) ∧ (0 ≤ r.toInt → y0.toInt < xp101.toInt))))) 0 0 (hp_F T) := by
  obtain ⟨gok, tpok, hp0, hp0tape, hp0sign, hp0len, hp0clause, hp0clauses, hp0read, hp0opn, hp0stack, hp0word, hp0said, hp0was, hp0fitting, hp0sums, hp0sort, hp0sumsBy, hp0oneOf, hp0otherOf, hp0kept, hp0images, hp0acts, hp0iUnd, hp0iFor, hp0iX, hp0made⟩ := id ip0
  have hpx := gok.1
  have gsok := gok.2.2.2.2
  have ggd := gok.2.2.2.1
  refine Met.ofW (cc := cX12_see) (maxL := 1) (ret := (some .int)) (by decide) rfl ?_
  intro p e s m args below meth c s₁ B hml hv
  obtain ⟨rfl, hok, hG, hB⟩ := hv
  have hx := B.exec
  have hb := B.bytes
  have hr := B.returns
  have hts := atoms_spec (ws := wsX12_see) B.pre
  have hown : s.vm.findClass RX12 = some m.cls := findClass_of_methodNamed B.named
  have hlocks := B.notSynchronized
  have hK := hG.1
  have hw : hp_w D T s s.heap [] := hp_w.rf hok
  have IX12 : ∀ w ∈ wsX120, w ∈ wsX12_see := by decide +kernel
  have L99 := hts (.fieldLink RX12 99 "PalmCensusModel" "next" "I") (by decide +kernel)
  have L89 := hts (.fieldLink RX12 89 "PalmCensusModel" "taped" "I") (by decide +kernel)
  have L7 := hts (.fieldLink RX12 7 "PalmCensusModel" "tape" "[B") (by decide +kernel)
  have hon : hp_on (fun q => q = ap0) s.heap s.heap := fun _ _ => rfl
  have km1 : ((-1) : Int32).toInt = (-1) := (by decide)
  have k0 : (0 : Int32).toInt = 0 := (by decide)
  have k1 : (1 : Int32).toInt = 1 := (by decide)
  have k32 : (32 : Int32).toInt = 32 := (by decide)
  have k255 : (255 : Int32).toInt = 255 := (by decide)
  have obp100 := iv_o bp100
  have obp101 := iv_o bp101
  have hkm : hp_km D [(12, 8)] s.heap s.heap := fun _ _ _ _ h _ => h
  have hl := lv_entry ([.ref ap0]) (n := 1) (Nat.le_of_ble_eq_true rfl)
  rw [lg_entry_eq]
  generalize (lg_sl ([.ref ap0]) ++ List.replicate (1 - (lg_sl ([.ref ap0])).length) Slot.unset).toArray = ls at hl ⊢
  have hl : lv_has ls 1 [(0, .ref ap0)] := hl
  show WX12_see p l e s m below meth c D T ap0 xp100 xp101 A Tp s.heap [] (F0 m 0 ls [])
  have obp100 := iv_o bp100
  have obp101 := iv_o bp101
  have J0 : ∀ (n : Nat) (y0_fp0_8 : Int32), (400 - y0_fp0_8.toInt).toNat < n → iv xp101 0 400 → iv y0_fp0_8 0 400 → (xp100.toInt ≤ y0_fp0_8.toInt) → ∀ (H : Heap) (locs : List Loc), hp_w D T s H locs → hp_km D [(12, 8)] s.heap H → hp_on (fun q => q = ap0) s.heap H → hp_f D H ap0 12 1 (.int xp101) → hp_f D H ap0 12 8 (.int y0_fp0_8) → ∀ (ls : Array Slot), lv_has ls 1 [(0, .ref ap0)] → WX12_see p l e s m below meth c D T ap0 xp100 xp101 A Tp H locs (F0 m 0 ls []) := by
    intro n
    induction n with
    | zero => intro y0_fp0_8 hmu0 c0_xp101 c0_y0_fp0_8 hv0_0 H0 locs0 hw hkm hon f_p0_1 f_p0_8 ls hl; exact absurd hmu0 (Nat.not_lt_zero _)
    | succ n ih0 =>
      intro y0_fp0_8 hmu0 c0_xp101 c0_y0_fp0_8 hv0_0 H0 locs0 hw hkm hon f_p0_1 f_p0_8 ls hl
      have oc0_xp101 := iv_o c0_xp101
      have oc0_y0_fp0_8 := iv_o c0_y0_fp0_8
      refine lv_aload_n hx hb dX12_see_0 rfl (lv_at hl 0 rfl) ?_
      refine hp_getf hx hb hts IX12 hown hK f_p0_8 rfl (by decide) L99 dX12_see_1 ?_
      refine lv_aload_n hx hb dX12_see_4 rfl (lv_at hl 0 rfl) ?_
      refine hp_getf hx hb hts IX12 hown hK f_p0_1 rfl (by decide) L89 dX12_see_5 ?_
      have J38 : iv xp101 0 400 → iv y0_fp0_8 0 400 → (xp100.toInt ≤ y0_fp0_8.toInt) → ∀ (H : Heap) (locs : List Loc), hp_w D T s H locs → hp_km D [(12, 8)] s.heap H → hp_on (fun q => q = ap0) s.heap H → hp_f D H ap0 12 1 (.int xp101) → hp_f D H ap0 12 8 (.int y0_fp0_8) → ∀ (ls : Array Slot), lv_has ls 1 [(0, .ref ap0)] → WX12_see p l e s m below meth c D T ap0 xp100 xp101 A Tp H locs (F0 m 38 ls []) := by
        intro c38_xp101 c38_y0_fp0_8 hv38_0 H38 locs38 hw hkm hon f_p0_1 f_p0_8 ls hl
        have oc38_xp101 := iv_o c38_xp101
        have oc38_y0_fp0_8 := iv_o c38_y0_fp0_8
        refine lv_aload_n hx hb dX12_see_38 rfl (lv_at hl 0 rfl) ?_
        refine hp_getf hx hb hts IX12 hown hK f_p0_8 rfl (by decide) L99 dX12_see_39 ?_
        refine lv_aload_n hx hb dX12_see_42 rfl (lv_at hl 0 rfl) ?_
        refine hp_getf hx hb hts IX12 hown hK f_p0_1 rfl (by decide) L89 dX12_see_43 ?_
        refine lv_icmp_ge (tgt := 65) hx hb dX12_see_46 (by decide) (fun c46 => ?_) (fun c46 => ?_)
        · have oc46 := Int32.le_iff_toInt_le.mp c46
          refine lv_iconst (v := (-1)) hx hb dX12_see_65 (by decide) ?_
          exact W.iret (v := (-1)) hx hb hr (fun t ht hW => ⟨some (.int (-1)), rfl, ⟨((-1) : Int32), rfl, ⟨y0_fp0_8, by rw [ht]; exact hkm, by rw [ht]; exact hon, by rw [ht]; exact f_p0_8, (show iv (-1) (-1) 255 from ⟨by decide, by decide⟩), c38_y0_fp0_8, (by intros; omega), (by intros; omega)⟩⟩, by rw [ht]; exact hw.1, hw.2.F ht⟩) hw.2.2.2 dX12_see_66
        · have oc46 := Int32.lt_iff_toInt_lt.mp (iv_nle c46)
          have r46fp : iv y0_fp0_8 0 399 := (iv_lt_l (iv_nle c46) c38_y0_fp0_8 c38_xp101).mono (by decide) (by decide)
          have or46fp := iv_o r46fp
          have r46fq : iv xp101 1 400 := (iv_lt_r (iv_nle c46) c38_y0_fp0_8 c38_xp101).mono (by decide) (by decide)
          have or46fq := iv_o r46fq
          refine lv_aload_n hx hb dX12_see_49 rfl (lv_at hl 0 rfl) ?_
          refine hp_getr hx hb hts IX12 hown hK hw.1 hp0 rfl 0 (by decide) L7 rfl dX12_see_50 ?_
          refine lv_aload_n hx hb dX12_see_53 rfl (lv_at hl 0 rfl) ?_
          refine hp_getf hx hb hts IX12 hown hK f_p0_8 rfl (by decide) L99 dX12_see_54 ?_
          refine hp_bald hx hb hK hw.1 hp0tape (vp_iv r46fp (by decide)) dX12_see_57 (fun v57 h57 => ?_)
          obtain ⟨x57, rfl⟩ := tpok _ _ h57
          have ex57 : Value.int x57 = Tp (y0_fp0_8).toNatClampNeg := h57
          refine lv_sipush (v := 255) hx hb dX12_see_58 (by decide) ?_
          refine lv_iand hx hb dX12_see_61 ?_
          refine lv_topi (fun x61 ex61 => ?_)
          have bx61 : iv x61 0 255 := iv_and_r (show iv 255 0 255 from ⟨by decide, by decide⟩) ex61
          have obx61 := iv_o bx61
          refine lv_goto (tgt := 66) hx hb dX12_see_62 (by decide) ?_
          exact W.iret (v := x61) hx hb hr (fun t ht hW => ⟨some (.int x61), rfl, ⟨x61, rfl, ⟨y0_fp0_8, by rw [ht]; exact hkm, by rw [ht]; exact hon, by rw [ht]; exact f_p0_8, (bx61.mono (by decide) (by decide)), (r46fp.mono (by decide) (by decide)), (by intros; omega), (by intros; omega)⟩⟩, by rw [ht]; exact hw.1, hw.2.F ht⟩) hw.2.2.2 dX12_see_66
      refine lv_icmp_ge (tgt := 38) hx hb dX12_see_8 (by decide) (fun c8 => ?_) (fun c8 => ?_)
      · have oc8 := Int32.le_iff_toInt_le.mp c8
        exact J38 c0_xp101 c0_y0_fp0_8 (show xp100.toInt ≤ y0_fp0_8.toInt from by have := (c0_y0_fp0_8).1; have := (c0_y0_fp0_8).2; have := (c0_xp101).1; have := (c0_xp101).2; have := (Int32.le_iff_toInt_le.mp c8); omega) H0 locs0 hw hkm hon f_p0_1 f_p0_8 _ (lv_sub hl [0] rfl)
      · have oc8 := Int32.lt_iff_toInt_lt.mp (iv_nle c8)
        have r8fp : iv y0_fp0_8 0 399 := (iv_lt_l (iv_nle c8) c0_y0_fp0_8 c0_xp101).mono (by decide) (by decide)
        have or8fp := iv_o r8fp
        have r8fq : iv xp101 1 400 := (iv_lt_r (iv_nle c8) c0_y0_fp0_8 c0_xp101).mono (by decide) (by decide)
        have or8fq := iv_o r8fq
        refine lv_aload_n hx hb dX12_see_11 rfl (lv_at hl 0 rfl) ?_
        refine hp_getr hx hb hts IX12 hown hK hw.1 hp0 rfl 0 (by decide) L7 rfl dX12_see_12 ?_
        refine lv_aload_n hx hb dX12_see_15 rfl (lv_at hl 0 rfl) ?_
        refine hp_getf hx hb hts IX12 hown hK f_p0_8 rfl (by decide) L99 dX12_see_16 ?_
        refine hp_bald hx hb hK hw.1 hp0tape (vp_iv r8fp (by decide)) dX12_see_19 (fun v19 h19 => ?_)
        obtain ⟨x19, rfl⟩ := tpok _ _ h19
        have ex19 : Value.int x19 = Tp (y0_fp0_8).toNatClampNeg := h19
        refine lv_bipush (v := 32) hx hb dX12_see_20 (by decide) ?_
        refine lv_icmp_ne (tgt := 38) hx hb dX12_see_22 (by decide) (fun c22 => ?_) (fun c22 => ?_)
        · have oc22 := iv_neq c22
          exact J38 (r8fq.mono (by decide) (by decide)) (r8fp.mono (by decide) (by decide)) (show xp100.toInt ≤ y0_fp0_8.toInt from by have := (r8fp).1; have := (r8fp).2; have := (r8fq).1; have := (r8fq).2; have := (Int32.lt_iff_toInt_lt.mp (iv_nle c8)); have : (32 : Int32).toInt = 32 := (by decide); omega) H0 locs0 hw hkm hon f_p0_1 f_p0_8 _ (lv_sub hl [0] rfl)
        · have oc22 := congrArg Int32.toInt c22
          have r22fp : iv x19 32 32 := (iv_both (iv_any x19) (iv_eq (show iv 32 32 32 from ⟨by decide, by decide⟩) c22)).mono (by decide) (by decide)
          have or22fp := iv_o r22fp
          refine lv_aload_n hx hb dX12_see_25 rfl (lv_at hl 0 rfl) ?_
          refine lv_dup hx hb dX12_see_26 rfl ?_
          refine hp_getf hx hb hts IX12 hown hK f_p0_8 rfl (by decide) L99 dX12_see_27 ?_
          refine lv_iconst (v := 1) hx hb dX12_see_30 (by decide) ?_
          refine lv_iadd hx hb dX12_see_31 ?_
          refine lv_topi (fun x31 ex31 => ?_)
          have bx31 : iv x31 1 400 := iv_add r8fp (show iv 1 1 1 from ⟨by decide, by decide⟩) ex31 (by decide)
          have obx31 := iv_o bx31
          have qx31 := iv_add_eq r8fp (show iv 1 1 1 from ⟨by decide, by decide⟩) ex31 (by decide)
          refine hp_putE hx hb hts IX12 tyX12 tyX12_ok nmX12 hown hK hw hp0 rfl 8 (by decide) L99 rfl rfl ⟨_, rfl, (bx31.mono (by decide) (by decide))⟩ rfl rfl dX12_see_32 (fun H32 locs32 hw f32n g32 on32 => ?_)
          have hon := hon.trans (show hp_on (fun q => q = ap0) _ _ from on32)
          have hkm := hkm.put g32 (by decide)
          have f_p0_1 := g32 _ _ _ _ f_p0_1 (Or.inr ⟨rfl, by decide⟩)
          refine lv_goto (tgt := 0) hx hb dX12_see_35 (by decide) ?_
          exact ih0 x31 (mu_up 1 hmu0 (qx31) (by decide) (show iv x31 0 400 from (bx31.mono (by decide) (by decide))).2) (r8fq.mono (by decide) (by decide)) (bx31.mono (by decide) (by decide)) (show xp100.toInt ≤ x31.toInt from by have := (bx31).1; have := (bx31).2; have := (r8fp).1; have := (r8fp).2; have := (r8fq).1; have := (r8fq).2; have := (Int32.lt_iff_toInt_lt.mp (iv_nle c8)); have : (1 : Int32).toInt = 1 := (by decide); omega) H32 locs32 hw hkm hon f_p0_1 f32n _ (lv_sub hl [0] rfl)
  exact J0 _ xp100 (Nat.lt_succ_self _) bp101 bp100 (show xp100.toInt ≤ xp100.toInt from by have := (bp100).1; have := (bp100).2; omega) s.heap [] hw hkm hon hB.2 hB.1 _ (lv_sub hl [0] rfl)
abbrev WX12_isWord (p : Program) (l : Launch) (e : Env) (s : State) (m : MethodId) (below : List Frame) (meth : Method) (c : Code) (D : hp_D) (T : hp_T) (ap0 : Nat) (xp1 : Int64) (xp100 : Int32) (xp101 : Int32) (A : Nat → Nat) (Tp : Nat → Value) (H : Heap) (locs : List Loc) (g : JFrame) : Prop := W p l e (headSpec wsX12_isWord ({ frames := 1, cells := 0, slots := 0, locals := 21 })).room s m ([.ref ap0, .long xp1] : List Value).toArray below meth c H locs 0 0 (MQ below (hq_e D T (fun v st t => ∃ r : Int32, v = some (.int r) ∧ ((∃ y0 : Int32, hp_km D [(12, 8)] st.heap t.heap ∧ hp_on (fun q => q = ap0) st.heap t.heap ∧ hp_f D t.heap ap0 12 8 (.int y0) ∧ iv r 0 1 ∧ iv y0 0 400 ∧ (xp100.toInt ≤ y0.toInt) ∧ (¬ r.toInt = 0 → chb Tp 97 122 y0.toInt xp101.toInt))))) ([.ref ap0, .long xp1] : List Value).toArray s 0 0 (hp_F T)) g
set_option maxHeartbeats 4000000 in
set_option maxRecDepth 100000 in
theorem sX12_isWord (l : Launch) (D : hp_D) (T : hp_T) (ap0 : Nat) (xp1 : Int64) (xp100 : Int32) (xp101 : Int32) (A : Nat → Nat) (Gm : moG) (Tp : Nat → Value) (ip0 : isMp T ap0 A Gm Tp) (bp100 : iv xp100 0 400) (bp101 : iv xp101 0 400) : Met l yX12_isWord wsX12_isWord ({ frames := 1, cells := 0, slots := 0, locals := 21 }) (hp_Pc D T [.ref ap0, .long xp1] (fun H => hp_f D H ap0 12 8 (.int xp100) ∧ hp_f D H ap0 12 1 (.int xp101))) (hq_e D T (fun v st t => ∃ r : Int32, v = some (.int r) ∧ ((∃ y0 : Int32, hp_km D [(12, 8)] st.heap t.heap ∧ hp_on (fun q => q = ap0) st.heap t.heap ∧ hp_f D t.heap ap0 12 8 (.int y0) ∧ iv r 0 1 ∧ iv y0 0 400 ∧ (xp100.toInt ≤ y0.toInt) ∧ (¬ r.toInt = 0 → chb Tp 97 122 y0.toInt xp101.toInt))))) 0 0 (hp_F T) := by
  obtain ⟨gok, tpok, hp0, hp0tape, hp0sign, hp0len, hp0clause, hp0clauses, hp0read, hp0opn, hp0stack, hp0word, hp0said, hp0was, hp0fitting, hp0sums, hp0sort, hp0sumsBy, hp0oneOf, hp0otherOf, hp0kept, hp0images, hp0acts, hp0iUnd, hp0iFor, hp0iX, hp0made⟩ := id ip0
  have hpx := gok.1
  have gsok := gok.2.2.2.2
  have ggd := gok.2.2.2.1
  refine Met.ofW (cc := cX12_isWord) (maxL := 6) (ret := (some .boolean)) (by decide) rfl ?_
  intro p e s m args below meth c s₁ B hml hv
  obtain ⟨rfl, hok, hG, hB⟩ := hv
  have hx := B.exec
  have hb := B.bytes
  have hr := B.returns
  have hts := atoms_spec (ws := wsX12_isWord) B.pre
  have hown : s.vm.findClass RX12 = some m.cls := findClass_of_methodNamed B.named
  have hlocks := B.notSynchronized
  have hK := hG.1
  have hw : hp_w D T s s.heap [] := hp_w.rf hok
  have IX12 : ∀ w ∈ wsX120, w ∈ wsX12_isWord := by decide +kernel
  have L99 := hts (.fieldLink RX12 99 "PalmCensusModel" "next" "I") (by decide +kernel)
  have L7 := hts (.fieldLink RX12 7 "PalmCensusModel" "tape" "[B") (by decide +kernel)
  have hon : hp_on (fun q => q = ap0) s.heap s.heap := fun _ _ => rfl
  have k0 : (0 : Int32).toInt = 0 := (by decide)
  have k1 : (1 : Int32).toInt = 1 := (by decide)
  have k8 : (8 : Int32).toInt = 8 := (by decide)
  have k9 : (9 : Int32).toInt = 9 := (by decide)
  have obp100 := iv_o bp100
  have obp101 := iv_o bp101
  have hkm : hp_km D [(12, 8)] s.heap s.heap := fun _ _ _ _ h _ => h
  have hl := lv_entry ([.ref ap0, .long xp1]) (n := 6) (Nat.le_of_ble_eq_true rfl)
  rw [lg_entry_eq]
  generalize (lg_sl ([.ref ap0, .long xp1]) ++ List.replicate (6 - (lg_sl ([.ref ap0, .long xp1])).length) Slot.unset).toArray = ls at hl ⊢
  have hl : lv_has ls 6 [(0, .ref ap0), (1, .long xp1)] := hl
  show WX12_isWord p l e s m below meth c D T ap0 xp1 xp100 xp101 A Tp s.heap [] (F0 m 0 ls [])
  have obp100 := iv_o bp100
  have obp101 := iv_o bp101
  refine lv_aload_n hx hb dX12_isWord_0 rfl (lv_at hl 0 rfl) ?_
  refine hp_callei (va_runV (As := []) (rest := []) ⟨hx, hb, hml, hown, hts⟩ (sX12_see l D T ap0 xp100 xp101 A Gm Tp ip0 bp100 bp101) (cwV 0 hts gX12_isWord_X12_see rfl rfl rfl (by decide +kernel) ⟨Nat.le_of_ble_eq_true rfl, Nat.le_of_ble_eq_true rfl⟩) (hp_preV hG hw hp0 rfl ⟨hB.1, hB.2⟩) rfl rfl hl.1 rfl (lv_room (Nat.le_of_ble_eq_true rfl)) dX12_isWord_1 ⟨Nat.zero_le _, Nat.zero_le _⟩) hw (fun x1 st1 t1 H1 locs1 eh1 eg1 bx1 hw => ?_)
  obtain ⟨x1p0, g1, on1, fx1p0, cx1, bx1p0, R1_0, R1_1⟩ := bx1
  rw [eh1, eg1] at g1 on1
  rw [eg1] at fx1p0
  have hkm := hkm.call g1 (by decide)
  have hon := hon.trans on1
  have f_p0_1 := g1 _ _ _ _ hB.2 (by decide)
  have obx1p0 := iv_o bx1p0
  have ocx1 := iv_o cx1
  refine lv_pop hx hb dX12_isWord_4 rfl ?_
  refine lv_lconst (v := 0) hx hb dX12_isWord_5 (by decide) ?_
  refine lv_lstore_n (lv' := [(3, .long 0), (0, .ref ap0), (1, .long xp1)]) hx hb dX12_isWord_6 rfl hl (by decide) rfl (fun ls hl => ?_)
  refine lv_iconst (v := 0) hx hb dX12_isWord_7 (by decide) ?_
  refine lv_istore (lv' := [(5, .int 0), (3, .long 0), (0, .ref ap0), (1, .long xp1)]) hx hb dX12_isWord_8 hl (by decide) rfl (fun ls hl => ?_)
  have J10 : ∀ (n : Nat) (y10_l5 : Int32) (y10_l3 : Int64), (400 - y10_l5.toInt).toNat < n → iv y10_l5 0 400 → iv xp101 0 400 → iv x1p0 0 400 → (0 < y10_l5.toInt → chb Tp 97 122 x1p0.toInt xp101.toInt) → ∀ (H : Heap) (locs : List Loc), hp_w D T s H locs → hp_km D [(12, 8)] s.heap H → hp_on (fun q => q = ap0) s.heap H → hp_f D H ap0 12 1 (.int xp101) → hp_f D H ap0 12 8 (.int x1p0) → ∀ (ls : Array Slot), lv_has ls 6 [(0, .ref ap0), (1, .long xp1), (3, .long y10_l3), (5, .int y10_l5)] → WX12_isWord p l e s m below meth c D T ap0 xp1 xp100 xp101 A Tp H locs (F0 m 10 ls []) := by
    intro n
    induction n with
    | zero => intro y10_l5 y10_l3 hmu10 c10_y10_l5 c10_xp101 c10_x1p0 hv10_0 H10 locs10 hw hkm hon f_p0_1 f_p0_8 ls hl; exact absurd hmu10 (Nat.not_lt_zero _)
    | succ n ih10 =>
      intro y10_l5 y10_l3 hmu10 c10_y10_l5 c10_xp101 c10_x1p0 hv10_0 H10 locs10 hw hkm hon f_p0_1 f_p0_8 ls hl
      have oc10_y10_l5 := iv_o c10_y10_l5
      have oc10_xp101 := iv_o c10_xp101
      have oc10_x1p0 := iv_o c10_x1p0
      refine lv_aload_n hx hb dX12_isWord_10 rfl (lv_at hl 0 rfl) ?_
      refine lv_aload_n hx hb dX12_isWord_11 rfl (lv_at hl 0 rfl) ?_
      refine hp_getf hx hb hts IX12 hown hK f_p0_8 rfl (by decide) L99 dX12_isWord_12 ?_
      refine lv_iload hx hb dX12_isWord_15 (lv_at hl 3 rfl) ?_
      refine lv_iadd hx hb dX12_isWord_17 ?_
      refine lv_topi (fun x17 ex17 => ?_)
      have bx17 : iv x17 0 800 := iv_add c10_x1p0 c10_y10_l5 ex17 (by decide)
      have obx17 := iv_o bx17
      have qx17 := iv_add_eq c10_x1p0 c10_y10_l5 ex17 (by decide)
      refine hp_callpi (va_runV (As := [.int x17]) (rest := []) ⟨hx, hb, hml, hown, hts⟩ (sX12_isLetter l D T ap0 x17 xp101 A Gm Tp ip0 (bx17.mono (by decide) (by decide)) c10_xp101) (cwV 1 hts gX12_isWord_X12_isLetter rfl rfl rfl (by decide +kernel) ⟨Nat.le_of_ble_eq_true rfl, Nat.le_of_ble_eq_true rfl⟩) (hp_preV hG hw hp0 rfl f_p0_1) rfl rfl hl.1 rfl (lv_room (Nat.le_of_ble_eq_true rfl)) dX12_isWord_18 ⟨Nat.zero_le _, Nat.zero_le _⟩) (fun x18 bx18 => ?_)
      obtain ⟨cx18, R18_0, R18_1, R18_2⟩ := bx18
      have ocx18 := iv_o cx18
      refine lv_if_eq (tgt := 56) hx hb dX12_isWord_21 (by decide) (fun c21 => ?_) (fun c21 => ?_)
      · have oc21 := congrArg Int32.toInt c21
        have r21tp : iv x18 0 0 := (iv_both cx18 (iv_eq (show iv 0 0 0 from ⟨by decide, by decide⟩) c21)).mono (by decide) (by decide)
        have or21tp := iv_o r21tp
        refine lv_iload hx hb dX12_isWord_56 (lv_at hl 3 rfl) ?_
        refine lv_if_le (tgt := 78) hx hb dX12_isWord_58 (by decide) (fun c58 => ?_) (fun c58 => ?_)
        · have oc58 := Int32.le_iff_toInt_le.mp c58
          have r58tp : iv y10_l5 0 0 := (iv_le_l c58 c10_y10_l5 (show iv 0 0 0 from ⟨by decide, by decide⟩)).mono (by decide) (by decide)
          have or58tp := iv_o r58tp
          refine lv_iconst (v := 0) hx hb dX12_isWord_78 (by decide) ?_
          exact W.zret (v := 0) hx hb hr (iv_nz (show iv 0 0 1 from ⟨by decide, by decide⟩)) (fun t ht hW => ⟨some (.int 0), rfl, ⟨(0 : Int32), rfl, ⟨x1p0, by rw [ht]; exact hkm, by rw [ht]; exact hon, by rw [ht]; exact f_p0_8, (show iv 0 0 1 from ⟨by decide, by decide⟩), c10_x1p0, (by intros; omega), (fun h9 => absurd k0 h9)⟩⟩, by rw [ht]; exact hw.1, hw.2.F ht⟩) hw.2.2.2 dX12_isWord_79
        · have oc58 := Int32.lt_iff_toInt_lt.mp (iv_nle c58)
          have r58fq : iv y10_l5 1 400 := (iv_lt_r (iv_nle c58) (show iv 0 0 0 from ⟨by decide, by decide⟩) c10_y10_l5).mono (by decide) (by decide)
          have or58fq := iv_o r58fq
          refine lv_iload hx hb dX12_isWord_61 (lv_at hl 3 rfl) ?_
          refine lv_bipush (v := 9) hx hb dX12_isWord_63 (by decide) ?_
          refine lv_icmp_ge (tgt := 78) hx hb dX12_isWord_65 (by decide) (fun c65 => ?_) (fun c65 => ?_)
          · have oc65 := Int32.le_iff_toInt_le.mp c65
            have r65tq : iv y10_l5 9 400 := (iv_le_r c65 (show iv 9 9 9 from ⟨by decide, by decide⟩) r58fq).mono (by decide) (by decide)
            have or65tq := iv_o r65tq
            refine lv_iconst (v := 0) hx hb dX12_isWord_78 (by decide) ?_
            exact W.zret (v := 0) hx hb hr (iv_nz (show iv 0 0 1 from ⟨by decide, by decide⟩)) (fun t ht hW => ⟨some (.int 0), rfl, ⟨(0 : Int32), rfl, ⟨x1p0, by rw [ht]; exact hkm, by rw [ht]; exact hon, by rw [ht]; exact f_p0_8, (show iv 0 0 1 from ⟨by decide, by decide⟩), c10_x1p0, (by intros; omega), (fun h9 => absurd k0 h9)⟩⟩, by rw [ht]; exact hw.1, hw.2.F ht⟩) hw.2.2.2 dX12_isWord_79
          · have oc65 := Int32.lt_iff_toInt_lt.mp (iv_nle c65)
            have r65fp : iv y10_l5 1 8 := (iv_lt_l (iv_nle c65) r58fq (show iv 9 9 9 from ⟨by decide, by decide⟩)).mono (by decide) (by decide)
            have or65fp := iv_o r65fp
            refine lv_lload_n hx hb dX12_isWord_68 rfl (lv_at hl 2 rfl) ?_
            refine lv_lload_n hx hb dX12_isWord_69 rfl (lv_at hl 1 rfl) ?_
            refine W.lcmp hx hb dX12_isWord_70 ?_
            refine lv_topi (fun x70 ex70 => ?_)
            have bx70 : iv x70 (-1) 1 := iv_lcmp ex70
            have obx70 := iv_o bx70
            refine lv_if_ne (tgt := 78) hx hb dX12_isWord_71 (by decide) (fun c71 => ?_) (fun c71 => ?_)
            · have oc71 := iv_neq c71
              refine lv_iconst (v := 0) hx hb dX12_isWord_78 (by decide) ?_
              exact W.zret (v := 0) hx hb hr (iv_nz (show iv 0 0 1 from ⟨by decide, by decide⟩)) (fun t ht hW => ⟨some (.int 0), rfl, ⟨(0 : Int32), rfl, ⟨x1p0, by rw [ht]; exact hkm, by rw [ht]; exact hon, by rw [ht]; exact f_p0_8, (show iv 0 0 1 from ⟨by decide, by decide⟩), c10_x1p0, (by intros; omega), (fun h9 => absurd k0 h9)⟩⟩, by rw [ht]; exact hw.1, hw.2.F ht⟩) hw.2.2.2 dX12_isWord_79
            · have oc71 := congrArg Int32.toInt c71
              have r71fp : iv x70 0 0 := (iv_both bx70 (iv_eq (show iv 0 0 0 from ⟨by decide, by decide⟩) c71)).mono (by decide) (by decide)
              have or71fp := iv_o r71fp
              refine lv_iconst (v := 1) hx hb dX12_isWord_74 (by decide) ?_
              refine lv_goto (tgt := 79) hx hb dX12_isWord_75 (by decide) ?_
              exact W.zret (v := 1) hx hb hr (iv_nz (show iv 1 0 1 from ⟨by decide, by decide⟩)) (fun t ht hW => ⟨some (.int 1), rfl, ⟨(1 : Int32), rfl, ⟨x1p0, by rw [ht]; exact hkm, by rw [ht]; exact hon, by rw [ht]; exact f_p0_8, (show iv 1 0 1 from ⟨by decide, by decide⟩), c10_x1p0, (by intros; omega), (fun _ => hv10_0 (by omega))⟩⟩, by rw [ht]; exact hw.1, hw.2.F ht⟩) hw.2.2.2 dX12_isWord_79
      · have oc21 := iv_neq c21
        have r21fp : iv x18 1 1 := (iv_ne_lo c21 cx18 rfl).mono (by decide) (by decide)
        have or21fp := iv_o r21fp
        have r21fpz : iv x17 0 399 := (iv_both bx17 (R18_2 (iv_ne0 r21fp (by decide)))).mono (by decide) (by decide)
        have or21fpz := iv_o r21fpz
        have r21fpzu : iv x1p0 0 399 := iv_bku qx17 r21fpz c10_x1p0 c10_y10_l5 (by decide)
        have or21fpzu := iv_o r21fpzu
        have r21fpzw : iv y10_l5 0 399 := iv_bkw qx17 r21fpz c10_y10_l5 r21fpzu (by decide)
        have or21fpzw := iv_o r21fpzw
        refine lv_iload hx hb dX12_isWord_24 (lv_at hl 3 rfl) ?_
        refine lv_bipush (v := 8) hx hb dX12_isWord_26 (by decide) ?_
        have J50 : ∀ (y50_l3 : Int64), iv y10_l5 0 399 → iv xp101 0 400 → iv x1p0 0 399 → (chb Tp 97 122 x1p0.toInt xp101.toInt) → ∀ (H : Heap) (locs : List Loc), hp_w D T s H locs → hp_km D [(12, 8)] s.heap H → hp_on (fun q => q = ap0) s.heap H → hp_f D H ap0 12 1 (.int xp101) → hp_f D H ap0 12 8 (.int x1p0) → ∀ (ls : Array Slot), lv_has ls 6 [(0, .ref ap0), (1, .long xp1), (3, .long y50_l3), (5, .int y10_l5)] → WX12_isWord p l e s m below meth c D T ap0 xp1 xp100 xp101 A Tp H locs (F0 m 50 ls []) := by
          intro y50_l3 c50_y10_l5 c50_xp101 c50_x1p0 hv50_0 H50 locs50 hw hkm hon f_p0_1 f_p0_8 ls hl
          have oc50_y10_l5 := iv_o c50_y10_l5
          have oc50_xp101 := iv_o c50_xp101
          have oc50_x1p0 := iv_o c50_x1p0
          obtain ⟨x50, ex50⟩ : ∃ y : Int32, y = y10_l5 + 1 := ⟨_, rfl⟩
          have bx50 : iv x50 1 400 := iv_add c50_y10_l5 (show iv 1 1 1 from ⟨by decide, by decide⟩) ex50 (by decide)
          have qx50 := iv_add_eq c50_y10_l5 (show iv 1 1 1 from ⟨by decide, by decide⟩) ex50 (by decide)
          have obx50 := iv_o bx50
          refine lv_iinc (v := x50) (lv' := [(5, .int x50), (0, .ref ap0), (1, .long xp1), (3, .long y50_l3)]) hx hb dX12_isWord_50 hl (k := 3) rfl (by rw [ex50]; rfl) (by decide) rfl (fun ls hl => ?_)
          refine lv_goto (tgt := 10) hx hb dX12_isWord_53 (by decide) ?_
          exact ih10 x50 y50_l3 (mu_up 1 hmu10 (qx50) (by decide) (show iv x50 0 400 from (bx50.mono (by decide) (by decide))).2) (bx50.mono (by decide) (by decide)) c50_xp101 (c50_x1p0.mono (by decide) (by decide)) (show 0 < x50.toInt → chb Tp 97 122 x1p0.toInt xp101.toInt from (fun _ => hv50_0)) H50 locs50 hw hkm hon f_p0_1 f_p0_8 _ (lv_sub hl [1, 2, 3, 0] rfl)
        refine lv_icmp_ge (tgt := 50) hx hb dX12_isWord_28 (by decide) (fun c28 => ?_) (fun c28 => ?_)
        · have oc28 := Int32.le_iff_toInt_le.mp c28
          have r28tq : iv y10_l5 8 399 := (iv_le_r c28 (show iv 8 8 8 from ⟨by decide, by decide⟩) r21fpzw).mono (by decide) (by decide)
          have or28tq := iv_o r28tq
          exact J50 y10_l3 (r28tq.mono (by decide) (by decide)) c10_xp101 r21fpzu (show chb Tp 97 122 x1p0.toInt xp101.toInt from (wd_in (R18_0 c21) qx17 (by omega) hv10_0)) H10 locs10 hw hkm hon f_p0_1 f_p0_8 _ (lv_sub hl [0, 1, 2, 3] rfl)
        · have oc28 := Int32.lt_iff_toInt_lt.mp (iv_nle c28)
          have r28fp : iv y10_l5 0 7 := (iv_lt_l (iv_nle c28) r21fpzw (show iv 8 8 8 from ⟨by decide, by decide⟩)).mono (by decide) (by decide)
          have or28fp := iv_o r28fp
          refine lv_lload_n hx hb dX12_isWord_31 rfl (lv_at hl 2 rfl) ?_
          refine lv_bipush (v := 8) hx hb dX12_isWord_32 (by decide) ?_
          obtain ⟨x34, ex34⟩ : ∃ y : Int64, y10_l3 <<< (((8 : Int32)).toInt64 &&& 63) = y := ⟨_, rfl⟩
          refine lv_lshl (v := x34) hx hb dX12_isWord_34 ex34 ?_
          refine lv_aload_n hx hb dX12_isWord_35 rfl (lv_at hl 0 rfl) ?_
          refine hp_getr hx hb hts IX12 hown hK hw.1 hp0 rfl 0 (by decide) L7 rfl dX12_isWord_36 ?_
          refine lv_aload_n hx hb dX12_isWord_39 rfl (lv_at hl 0 rfl) ?_
          refine hp_getf hx hb hts IX12 hown hK f_p0_8 rfl (by decide) L99 dX12_isWord_40 ?_
          refine lv_iload hx hb dX12_isWord_43 (lv_at hl 3 rfl) ?_
          refine lv_iadd hx hb dX12_isWord_45 ?_
          refine lv_topi (fun x45 ex45 => ?_)
          have bx45 : iv x45 0 399 := iv_eq r21fpz (ex45.trans ex17.symm)
          have obx45 := iv_o bx45
          refine hp_bald hx hb hK hw.1 hp0tape (vp_iv bx45 (by decide)) dX12_isWord_46 (fun v46 h46 => ?_)
          obtain ⟨x46, rfl⟩ := tpok _ _ h46
          have ex46 : Value.int x46 = Tp (x45).toNatClampNeg := h46
          obtain ⟨x47, ex47⟩ : ∃ y : Int64, x46.toInt64 = y := ⟨_, rfl⟩
          refine lv_i2l (v := x47) hx hb dX12_isWord_47 ex47 ?_
          refine lv_lor hx hb dX12_isWord_48 ?_
          refine lv_topl (fun x48 ex48 => ?_)
          refine lv_lstore_n (lv' := [(3, .long x48), (0, .ref ap0), (1, .long xp1), (5, .int y10_l5)]) hx hb dX12_isWord_49 rfl hl (by decide) rfl (fun ls hl => ?_)
          exact J50 x48 (r28fp.mono (by decide) (by decide)) c10_xp101 r21fpzu (show chb Tp 97 122 x1p0.toInt xp101.toInt from (wd_in (R18_0 c21) qx17 (by omega) hv10_0)) H10 locs10 hw hkm hon f_p0_1 f_p0_8 _ (lv_sub hl [1, 2, 0, 3] rfl)
  exact J10 _ (0 : Int32) (0 : Int64) (Nat.lt_succ_self _) (show iv 0 0 400 from ⟨by decide, by decide⟩) bp101 bx1p0 (show 0 < 0 → chb Tp 97 122 x1p0.toInt xp101.toInt from (fun h9 => absurd h9 (by decide))) H1 locs1 hw hkm hon f_p0_1 fx1p0 _ (lv_sub hl [2, 3, 1, 0] rfl)
abbrev WX12_passWord (p : Program) (l : Launch) (e : Env) (s : State) (m : MethodId) (below : List Frame) (meth : Method) (c : Code) (D : hp_D) (T : hp_T) (ap0 : Nat) (xp100 : Int32) (xp101 : Int32) (A : Nat → Nat) (Tp : Nat → Value) (H : Heap) (locs : List Loc) (g : JFrame) : Prop := W p l e (headSpec wsX12_passWord ({ frames := 1, cells := 0, slots := 0, locals := 21 })).room s m ([.ref ap0] : List Value).toArray below meth c H locs 0 0 (MQ below (hq_e D T (fun v st t => v = none ∧ ((∃ y0 : Int32, hp_km D [(12, 8)] st.heap t.heap ∧ hp_on (fun q => q = ap0) st.heap t.heap ∧ hp_f D t.heap ap0 12 8 (.int y0) ∧ iv y0 0 400 ∧ (xp100.toInt ≤ y0.toInt) ∧ (chb Tp 97 122 xp100.toInt xp101.toInt → xp100.toInt + 1 ≤ y0.toInt))))) ([.ref ap0] : List Value).toArray s 0 0 (hp_F T)) g
set_option maxHeartbeats 4000000 in
set_option maxRecDepth 100000 in
theorem sX12_passWord (l : Launch) (D : hp_D) (T : hp_T) (ap0 : Nat) (xp100 : Int32) (xp101 : Int32) (A : Nat → Nat) (Gm : moG) (Tp : Nat → Value) (ip0 : isMp T ap0 A Gm Tp) (bp100 : iv xp100 0 400) (bp101 : iv xp101 0 400) : Met l yX12_passWord wsX12_passWord ({ frames := 1, cells := 0, slots := 0, locals := 21 }) (hp_Pc D T [.ref ap0] (fun H => hp_f D H ap0 12 8 (.int xp100) ∧ hp_f D H ap0 12 1 (.int xp101))) (hq_e D T (fun v st t => v = none ∧ ((∃ y0 : Int32, hp_km D [(12, 8)] st.heap t.heap ∧ hp_on (fun q => q = ap0) st.heap t.heap ∧ hp_f D t.heap ap0 12 8 (.int y0) ∧ iv y0 0 400 ∧ (xp100.toInt ≤ y0.toInt) ∧ (chb Tp 97 122 xp100.toInt xp101.toInt → xp100.toInt + 1 ≤ y0.toInt))))) 0 0 (hp_F T) := by
  obtain ⟨gok, tpok, hp0, hp0tape, hp0sign, hp0len, hp0clause, hp0clauses, hp0read, hp0opn, hp0stack, hp0word, hp0said, hp0was, hp0fitting, hp0sums, hp0sort, hp0sumsBy, hp0oneOf, hp0otherOf, hp0kept, hp0images, hp0acts, hp0iUnd, hp0iFor, hp0iX, hp0made⟩ := id ip0
  have hpx := gok.1
  have gsok := gok.2.2.2.2
  have ggd := gok.2.2.2.1
  refine Met.ofW (cc := cX12_passWord) (maxL := 1) (ret := none) (by decide) rfl ?_
  intro p e s m args below meth c s₁ B hml hv
  obtain ⟨rfl, hok, hG, hB⟩ := hv
  have hx := B.exec
  have hb := B.bytes
  have hr := B.returns
  have hts := atoms_spec (ws := wsX12_passWord) B.pre
  have hown : s.vm.findClass RX12 = some m.cls := findClass_of_methodNamed B.named
  have hlocks := B.notSynchronized
  have hK := hG.1
  have hw : hp_w D T s s.heap [] := hp_w.rf hok
  have IX12 : ∀ w ∈ wsX120, w ∈ wsX12_passWord := by decide +kernel
  have L99 := hts (.fieldLink RX12 99 "PalmCensusModel" "next" "I") (by decide +kernel)
  have hon : hp_on (fun q => q = ap0) s.heap s.heap := fun _ _ => rfl
  have k0 : (0 : Int32).toInt = 0 := (by decide)
  have k1 : (1 : Int32).toInt = 1 := (by decide)
  have obp100 := iv_o bp100
  have obp101 := iv_o bp101
  have hkm : hp_km D [(12, 8)] s.heap s.heap := fun _ _ _ _ h _ => h
  have hl := lv_entry ([.ref ap0]) (n := 1) (Nat.le_of_ble_eq_true rfl)
  rw [lg_entry_eq]
  generalize (lg_sl ([.ref ap0]) ++ List.replicate (1 - (lg_sl ([.ref ap0])).length) Slot.unset).toArray = ls at hl ⊢
  have hl : lv_has ls 1 [(0, .ref ap0)] := hl
  show WX12_passWord p l e s m below meth c D T ap0 xp100 xp101 A Tp s.heap [] (F0 m 0 ls [])
  have obp100 := iv_o bp100
  have obp101 := iv_o bp101
  have J0 : ∀ (n : Nat) (y0_fp0_8 : Int32), (400 - y0_fp0_8.toInt).toNat < n → iv xp101 0 400 → iv y0_fp0_8 0 400 → (xp100.toInt ≤ y0_fp0_8.toInt) → ∀ (H : Heap) (locs : List Loc), hp_w D T s H locs → hp_km D [(12, 8)] s.heap H → hp_on (fun q => q = ap0) s.heap H → hp_f D H ap0 12 1 (.int xp101) → hp_f D H ap0 12 8 (.int y0_fp0_8) → ∀ (ls : Array Slot), lv_has ls 1 [(0, .ref ap0)] → WX12_passWord p l e s m below meth c D T ap0 xp100 xp101 A Tp H locs (F0 m 0 ls []) := by
    intro n
    induction n with
    | zero => intro y0_fp0_8 hmu0 c0_xp101 c0_y0_fp0_8 hv0_0 H0 locs0 hw hkm hon f_p0_1 f_p0_8 ls hl; exact absurd hmu0 (Nat.not_lt_zero _)
    | succ n ih0 =>
      intro y0_fp0_8 hmu0 c0_xp101 c0_y0_fp0_8 hv0_0 H0 locs0 hw hkm hon f_p0_1 f_p0_8 ls hl
      have oc0_xp101 := iv_o c0_xp101
      have oc0_y0_fp0_8 := iv_o c0_y0_fp0_8
      refine lv_aload_n hx hb dX12_passWord_0 rfl (lv_at hl 0 rfl) ?_
      refine lv_aload_n hx hb dX12_passWord_1 rfl (lv_at hl 0 rfl) ?_
      refine hp_getf hx hb hts IX12 hown hK f_p0_8 rfl (by decide) L99 dX12_passWord_2 ?_
      refine hp_callpi (va_runV (As := [.int y0_fp0_8]) (rest := []) ⟨hx, hb, hml, hown, hts⟩ (sX12_isLetter l D T ap0 y0_fp0_8 xp101 A Gm Tp ip0 (c0_y0_fp0_8.mono (by decide) (by decide)) c0_xp101) (cwV 1 hts gX12_passWord_X12_isLetter rfl rfl rfl (by decide +kernel) ⟨Nat.le_of_ble_eq_true rfl, Nat.le_of_ble_eq_true rfl⟩) (hp_preV hG hw hp0 rfl f_p0_1) rfl rfl hl.1 rfl (lv_room (Nat.le_of_ble_eq_true rfl)) dX12_passWord_5 ⟨Nat.zero_le _, Nat.zero_le _⟩) (fun x5 bx5 => ?_)
      obtain ⟨cx5, R5_0, R5_1, R5_2⟩ := bx5
      have ocx5 := iv_o cx5
      refine lv_if_eq (tgt := 24) hx hb dX12_passWord_8 (by decide) (fun c8 => ?_) (fun c8 => ?_)
      · have oc8 := congrArg Int32.toInt c8
        have r8tp : iv x5 0 0 := (iv_both cx5 (iv_eq (show iv 0 0 0 from ⟨by decide, by decide⟩) c8)).mono (by decide) (by decide)
        have or8tp := iv_o r8tp
        exact W.vret hx hb hr (fun t ht hW => ⟨none, rfl, ⟨rfl, ⟨y0_fp0_8, by rw [ht]; exact hkm, by rw [ht]; exact hon, by rw [ht]; exact f_p0_8, c0_y0_fp0_8, (by intros; omega), (fun h9 => by rcases (show xp100.toInt + 1 ≤ y0_fp0_8.toInt ∨ xp100.toInt = y0_fp0_8.toInt by omega) with q9 | q9; exact q9; exact absurd (by rw [← q9]; exact h9) (R5_1 c8))⟩⟩, by rw [ht]; exact hw.1, hw.2.F ht⟩) hw.2.2.2 dX12_passWord_24
      · have oc8 := iv_neq c8
        have r8fp : iv x5 1 1 := (iv_ne_lo c8 cx5 rfl).mono (by decide) (by decide)
        have or8fp := iv_o r8fp
        have r8fpz : iv y0_fp0_8 0 399 := (iv_both c0_y0_fp0_8 (R5_2 (iv_ne0 r8fp (by decide)))).mono (by decide) (by decide)
        have or8fpz := iv_o r8fpz
        refine lv_aload_n hx hb dX12_passWord_11 rfl (lv_at hl 0 rfl) ?_
        refine lv_dup hx hb dX12_passWord_12 rfl ?_
        refine hp_getf hx hb hts IX12 hown hK f_p0_8 rfl (by decide) L99 dX12_passWord_13 ?_
        refine lv_iconst (v := 1) hx hb dX12_passWord_16 (by decide) ?_
        refine lv_iadd hx hb dX12_passWord_17 ?_
        refine lv_topi (fun x17 ex17 => ?_)
        have bx17 : iv x17 1 400 := iv_add r8fpz (show iv 1 1 1 from ⟨by decide, by decide⟩) ex17 (by decide)
        have obx17 := iv_o bx17
        have qx17 := iv_add_eq r8fpz (show iv 1 1 1 from ⟨by decide, by decide⟩) ex17 (by decide)
        refine hp_putE hx hb hts IX12 tyX12 tyX12_ok nmX12 hown hK hw hp0 rfl 8 (by decide) L99 rfl rfl ⟨_, rfl, (bx17.mono (by decide) (by decide))⟩ rfl rfl dX12_passWord_18 (fun H18 locs18 hw f18n g18 on18 => ?_)
        have hon := hon.trans (show hp_on (fun q => q = ap0) _ _ from on18)
        have hkm := hkm.put g18 (by decide)
        have f_p0_1 := g18 _ _ _ _ f_p0_1 (Or.inr ⟨rfl, by decide⟩)
        refine lv_goto (tgt := 0) hx hb dX12_passWord_21 (by decide) ?_
        exact ih0 x17 (mu_up 1 hmu0 (qx17) (by decide) (show iv x17 0 400 from (bx17.mono (by decide) (by decide))).2) c0_xp101 (bx17.mono (by decide) (by decide)) (show xp100.toInt ≤ x17.toInt from by have := (bx17).1; have := (bx17).2; have := (r8fpz).1; have := (r8fpz).2; have : (0 : Int32).toInt = 0 := (by decide); have : (1 : Int32).toInt = 1 := (by decide); omega) H18 locs18 hw hkm hon f_p0_1 f18n _ (lv_sub hl [0] rfl)
  exact J0 _ xp100 (Nat.lt_succ_self _) bp101 bp100 (show xp100.toInt ≤ xp100.toInt from by have := (bp100).1; have := (bp100).2; omega) s.heap [] hw hkm hon hB.2 hB.1 _ (lv_sub hl [0] rfl)
abbrev WX12_takesWord (p : Program) (l : Launch) (e : Env) (s : State) (m : MethodId) (below : List Frame) (meth : Method) (c : Code) (D : hp_D) (T : hp_T) (ap0 : Nat) (xp1 : Int64) (xp100 : Int32) (xp101 : Int32) (A : Nat → Nat) (Tp : Nat → Value) (H : Heap) (locs : List Loc) (g : JFrame) : Prop := W p l e (headSpec wsX12_takesWord ({ frames := 2, cells := 0, slots := 0, locals := 46 })).room s m ([.ref ap0, .long xp1] : List Value).toArray below meth c H locs 0 0 (MQ below (hq_e D T (fun v st t => ∃ r : Int32, v = some (.int r) ∧ ((∃ y0 : Int32, hp_km D [(12, 8)] st.heap t.heap ∧ hp_on (fun q => q = ap0) st.heap t.heap ∧ hp_f D t.heap ap0 12 8 (.int y0) ∧ iv r 0 1 ∧ iv y0 0 400 ∧ (xp100.toInt ≤ y0.toInt))))) ([.ref ap0, .long xp1] : List Value).toArray s 0 0 (hp_F T)) g
set_option maxHeartbeats 4000000 in
set_option maxRecDepth 100000 in
theorem sX12_takesWord (l : Launch) (D : hp_D) (T : hp_T) (ap0 : Nat) (xp1 : Int64) (xp100 : Int32) (xp101 : Int32) (A : Nat → Nat) (Gm : moG) (Tp : Nat → Value) (ip0 : isMp T ap0 A Gm Tp) (bp100 : iv xp100 0 400) (bp101 : iv xp101 0 400) : Met l yX12_takesWord wsX12_takesWord ({ frames := 2, cells := 0, slots := 0, locals := 46 }) (hp_Pc D T [.ref ap0, .long xp1] (fun H => hp_f D H ap0 12 8 (.int xp100) ∧ hp_f D H ap0 12 1 (.int xp101))) (hq_e D T (fun v st t => ∃ r : Int32, v = some (.int r) ∧ ((∃ y0 : Int32, hp_km D [(12, 8)] st.heap t.heap ∧ hp_on (fun q => q = ap0) st.heap t.heap ∧ hp_f D t.heap ap0 12 8 (.int y0) ∧ iv r 0 1 ∧ iv y0 0 400 ∧ (xp100.toInt ≤ y0.toInt))))) 0 0 (hp_F T) := by
  obtain ⟨gok, tpok, hp0, hp0tape, hp0sign, hp0len, hp0clause, hp0clauses, hp0read, hp0opn, hp0stack, hp0word, hp0said, hp0was, hp0fitting, hp0sums, hp0sort, hp0sumsBy, hp0oneOf, hp0otherOf, hp0kept, hp0images, hp0acts, hp0iUnd, hp0iFor, hp0iX, hp0made⟩ := id ip0
  have hpx := gok.1
  have gsok := gok.2.2.2.2
  have ggd := gok.2.2.2.1
  refine Met.ofW (cc := cX12_takesWord) (maxL := 3) (ret := (some .boolean)) (by decide) rfl ?_
  intro p e s m args below meth c s₁ B hml hv
  obtain ⟨rfl, hok, hG, hB⟩ := hv
  have hx := B.exec
  have hb := B.bytes
  have hr := B.returns
  have hts := atoms_spec (ws := wsX12_takesWord) B.pre
  have hown : s.vm.findClass RX12 = some m.cls := findClass_of_methodNamed B.named
  have hlocks := B.notSynchronized
  have hK := hG.1
  have hw : hp_w D T s s.heap [] := hp_w.rf hok
  have hon : hp_on (fun q => q = ap0) s.heap s.heap := fun _ _ => rfl
  have k0 : (0 : Int32).toInt = 0 := (by decide)
  have k1 : (1 : Int32).toInt = 1 := (by decide)
  have obp100 := iv_o bp100
  have obp101 := iv_o bp101
  have hkm : hp_km D [(12, 8)] s.heap s.heap := fun _ _ _ _ h _ => h
  have hl := lv_entry ([.ref ap0, .long xp1]) (n := 3) (Nat.le_of_ble_eq_true rfl)
  rw [lg_entry_eq]
  generalize (lg_sl ([.ref ap0, .long xp1]) ++ List.replicate (3 - (lg_sl ([.ref ap0, .long xp1])).length) Slot.unset).toArray = ls at hl ⊢
  have hl : lv_has ls 3 [(0, .ref ap0), (1, .long xp1)] := hl
  show WX12_takesWord p l e s m below meth c D T ap0 xp1 xp100 xp101 A Tp s.heap [] (F0 m 0 ls [])
  have obp100 := iv_o bp100
  have obp101 := iv_o bp101
  refine lv_aload_n hx hb dX12_takesWord_0 rfl (lv_at hl 0 rfl) ?_
  refine lv_lload_n hx hb dX12_takesWord_1 rfl (lv_at hl 1 rfl) ?_
  refine hp_callei (va_runV (As := [.long xp1]) (rest := []) ⟨hx, hb, hml, hown, hts⟩ (sX12_isWord l D T ap0 xp1 xp100 xp101 A Gm Tp ip0 bp100 bp101) (cwV 1 hts gX12_takesWord_X12_isWord rfl rfl rfl (by decide +kernel) ⟨Nat.le_of_ble_eq_true rfl, Nat.le_of_ble_eq_true rfl⟩) (hp_preV hG hw hp0 rfl ⟨hB.1, hB.2⟩) rfl rfl hl.1 rfl (lv_room (Nat.le_of_ble_eq_true rfl)) dX12_takesWord_2 ⟨Nat.zero_le _, Nat.zero_le _⟩) hw (fun x2 st2 t2 H2 locs2 eh2 eg2 bx2 hw => ?_)
  obtain ⟨x2p0, g2, on2, fx2p0, cx2, bx2p0, R2_0, R2_1⟩ := bx2
  rw [eh2, eg2] at g2 on2
  rw [eg2] at fx2p0
  have hkm := hkm.call g2 (by decide)
  have hon := hon.trans on2
  have f_p0_1 := g2 _ _ _ _ hB.2 (by decide)
  have obx2p0 := iv_o bx2p0
  have ocx2 := iv_o cx2
  refine lv_if_ne (tgt := 10) hx hb dX12_takesWord_5 (by decide) (fun c5 => ?_) (fun c5 => ?_)
  · have oc5 := iv_neq c5
    have r5tp : iv x2 1 1 := (iv_ne_lo c5 cx2 rfl).mono (by decide) (by decide)
    have or5tp := iv_o r5tp
    refine lv_aload_n hx hb dX12_takesWord_10 rfl (lv_at hl 0 rfl) ?_
    refine hp_callev (va_runV (As := []) (rest := []) ⟨hx, hb, hml, hown, hts⟩ (sX12_passWord l D T ap0 x2p0 xp101 A Gm Tp ip0 bx2p0 bp101) (cwV 0 hts gX12_takesWord_X12_passWord rfl rfl rfl (by decide +kernel) ⟨Nat.le_of_ble_eq_true rfl, Nat.le_of_ble_eq_true rfl⟩) (hp_preV hG hw hp0 rfl ⟨fx2p0, f_p0_1⟩) rfl rfl hl.1 rfl (lv_room (Nat.le_of_ble_eq_true rfl)) dX12_takesWord_11 ⟨Nat.zero_le _, Nat.zero_le _⟩) hw (fun st11 t11 H11 locs11 eh11 eg11 bx11 hw => ?_)
    obtain ⟨x11p0, g11, on11, fx11p0, bx11p0, R11_0, R11_1⟩ := bx11
    rw [eh11, eg11] at g11 on11
    rw [eg11] at fx11p0
    have hkm := hkm.call g11 (by decide)
    have hon := hon.trans on11
    have f_p0_1 := g11 _ _ _ _ f_p0_1 (by decide)
    have obx11p0 := iv_o bx11p0
    refine lv_iconst (v := 1) hx hb dX12_takesWord_14 (by decide) ?_
    exact W.zret (v := 1) hx hb hr (iv_nz (show iv 1 0 1 from ⟨by decide, by decide⟩)) (fun t ht hW => ⟨some (.int 1), rfl, ⟨(1 : Int32), rfl, ⟨x11p0, by rw [ht]; exact hkm, by rw [ht]; exact hon, by rw [ht]; exact fx11p0, (show iv 1 0 1 from ⟨by decide, by decide⟩), bx11p0, (by intros; omega)⟩⟩, by rw [ht]; exact hw.1, hw.2.F ht⟩) hw.2.2.2 dX12_takesWord_15
  · have oc5 := congrArg Int32.toInt c5
    have r5fp : iv x2 0 0 := (iv_both cx2 (iv_eq (show iv 0 0 0 from ⟨by decide, by decide⟩) c5)).mono (by decide) (by decide)
    have or5fp := iv_o r5fp
    refine lv_iconst (v := 0) hx hb dX12_takesWord_8 (by decide) ?_
    exact W.zret (v := 0) hx hb hr (iv_nz (show iv 0 0 1 from ⟨by decide, by decide⟩)) (fun t ht hW => ⟨some (.int 0), rfl, ⟨(0 : Int32), rfl, ⟨x2p0, by rw [ht]; exact hkm, by rw [ht]; exact hon, by rw [ht]; exact fx2p0, (show iv 0 0 1 from ⟨by decide, by decide⟩), bx2p0, (by intros; omega)⟩⟩, by rw [ht]; exact hw.1, hw.2.F ht⟩) hw.2.2.2 dX12_takesWord_9
abbrev WX12_numberHere (p : Program) (l : Launch) (e : Env) (s : State) (m : MethodId) (below : List Frame) (meth : Method) (c : Code) (D : hp_D) (T : hp_T) (ap0 : Nat) (xp1 : Int32) (xp2 : Int32) (xp100 : Int32) (xp101 : Int32) (A : Nat → Nat) (Tp : Nat → Value) (H : Heap) (locs : List Loc) (g : JFrame) : Prop := W p l e (headSpec wsX12_numberHere ({ frames := 1, cells := 0, slots := 0, locals := 25 })).room s m ([.ref ap0, .int xp1, .int xp2] : List Value).toArray below meth c H locs 0 0 (MQ below (hq_e D T (fun v st t => ∃ r : Int32, v = some (.int r) ∧ ((∃ y0 y1 : Int32, hp_km D [(12, 8), (12, 9), (12, 10)] st.heap t.heap ∧ hp_on (fun q => q = ap0) st.heap t.heap ∧ hp_f D t.heap ap0 12 8 (.int y0) ∧ hp_f D t.heap ap0 12 10 (.int y1) ∧ iv r 0 1 ∧ iv y0 0 400 ∧ iv y1 (-2147483648) 2147483647 ∧ (xp100.toInt ≤ y0.toInt) ∧ (¬ r.toInt = 0 → xp100.toInt + 1 ≤ y0.toInt) ∧ (¬ r.toInt = 0 → xp1.toInt ≤ y1.toInt ∧ y1.toInt ≤ xp2.toInt))))) ([.ref ap0, .int xp1, .int xp2] : List Value).toArray s 0 0 (hp_F T)) g
set_option maxHeartbeats 4000000 in
set_option maxRecDepth 100000 in
theorem sX12_numberHere (l : Launch) (D : hp_D) (T : hp_T) (ap0 : Nat) (xp1 : Int32) (xp2 : Int32) (xp100 : Int32) (xp101 : Int32) (A : Nat → Nat) (Gm : moG) (Tp : Nat → Value) (ip0 : isMp T ap0 A Gm Tp) (bp100 : iv xp100 0 400) (bp101 : iv xp101 0 400) : Met l yX12_numberHere wsX12_numberHere ({ frames := 1, cells := 0, slots := 0, locals := 25 }) (hp_Pc D T [.ref ap0, .int xp1, .int xp2] (fun H => hp_f D H ap0 12 8 (.int xp100) ∧ hp_f D H ap0 12 1 (.int xp101))) (hq_e D T (fun v st t => ∃ r : Int32, v = some (.int r) ∧ ((∃ y0 y1 : Int32, hp_km D [(12, 8), (12, 9), (12, 10)] st.heap t.heap ∧ hp_on (fun q => q = ap0) st.heap t.heap ∧ hp_f D t.heap ap0 12 8 (.int y0) ∧ hp_f D t.heap ap0 12 10 (.int y1) ∧ iv r 0 1 ∧ iv y0 0 400 ∧ iv y1 (-2147483648) 2147483647 ∧ (xp100.toInt ≤ y0.toInt) ∧ (¬ r.toInt = 0 → xp100.toInt + 1 ≤ y0.toInt) ∧ (¬ r.toInt = 0 → xp1.toInt ≤ y1.toInt ∧ y1.toInt ≤ xp2.toInt))))) 0 0 (hp_F T) := by
  obtain ⟨gok, tpok, hp0, hp0tape, hp0sign, hp0len, hp0clause, hp0clauses, hp0read, hp0opn, hp0stack, hp0word, hp0said, hp0was, hp0fitting, hp0sums, hp0sort, hp0sumsBy, hp0oneOf, hp0otherOf, hp0kept, hp0images, hp0acts, hp0iUnd, hp0iFor, hp0iX, hp0made⟩ := id ip0
  have hpx := gok.1
  have gsok := gok.2.2.2.2
  have ggd := gok.2.2.2.1
  refine Met.ofW (cc := cX12_numberHere) (maxL := 5) (ret := (some .boolean)) (by decide) rfl ?_
  intro p e s m args below meth c s₁ B hml hv
  obtain ⟨rfl, hok, hG, hB⟩ := hv
  have hx := B.exec
  have hb := B.bytes
  have hr := B.returns
  have hts := atoms_spec (ws := wsX12_numberHere) B.pre
  have hown : s.vm.findClass RX12 = some m.cls := findClass_of_methodNamed B.named
  have hlocks := B.notSynchronized
  have hK := hG.1
  have hw : hp_w D T s s.heap [] := hp_w.rf hok
  have IX12 : ∀ w ∈ wsX120, w ∈ wsX12_numberHere := by decide +kernel
  have L99 := hts (.fieldLink RX12 99 "PalmCensusModel" "next" "I") (by decide +kernel)
  have L124 := hts (.fieldLink RX12 124 "PalmCensusModel" "number" "I") (by decide +kernel)
  have L7 := hts (.fieldLink RX12 7 "PalmCensusModel" "tape" "[B") (by decide +kernel)
  have hon : hp_on (fun q => q = ap0) s.heap s.heap := fun _ _ => rfl
  have k0 : (0 : Int32).toInt = 0 := (by decide)
  have k1 : (1 : Int32).toInt = 1 := (by decide)
  have k5 : (5 : Int32).toInt = 5 := (by decide)
  have k10 : (10 : Int32).toInt = 10 := (by decide)
  have k48 : (48 : Int32).toInt = 48 := (by decide)
  have obp100 := iv_o bp100
  have obp101 := iv_o bp101
  have hkm : hp_km D [(12, 8), (12, 9), (12, 10)] s.heap s.heap := fun _ _ _ _ h _ => h
  have hl := lv_entry ([.ref ap0, .int xp1, .int xp2]) (n := 5) (Nat.le_of_ble_eq_true rfl)
  rw [lg_entry_eq]
  generalize (lg_sl ([.ref ap0, .int xp1, .int xp2]) ++ List.replicate (5 - (lg_sl ([.ref ap0, .int xp1, .int xp2])).length) Slot.unset).toArray = ls at hl ⊢
  have hl : lv_has ls 5 [(0, .ref ap0), (1, .int xp1), (2, .int xp2)] := hl
  show WX12_numberHere p l e s m below meth c D T ap0 xp1 xp2 xp100 xp101 A Tp s.heap [] (F0 m 0 ls [])
  have obp100 := iv_o bp100
  have obp101 := iv_o bp101
  obtain ⟨x9000op0_10, fx9000op0_10⟩ := hp_opA hw.1 hp0 10 rfl
  refine lv_aload_n hx hb dX12_numberHere_0 rfl (lv_at hl 0 rfl) ?_
  refine hp_callei (va_runV (As := []) (rest := []) ⟨hx, hb, hml, hown, hts⟩ (sX12_see l D T ap0 xp100 xp101 A Gm Tp ip0 bp100 bp101) (cwV 0 hts gX12_numberHere_X12_see rfl rfl rfl (by decide +kernel) ⟨Nat.le_of_ble_eq_true rfl, Nat.le_of_ble_eq_true rfl⟩) (hp_preV hG hw hp0 rfl ⟨hB.1, hB.2⟩) rfl rfl hl.1 rfl (lv_room (Nat.le_of_ble_eq_true rfl)) dX12_numberHere_1 ⟨Nat.zero_le _, Nat.zero_le _⟩) hw (fun x1 st1 t1 H1 locs1 eh1 eg1 bx1 hw => ?_)
  obtain ⟨x1p0, g1, on1, fx1p0, cx1, bx1p0, R1_0, R1_1⟩ := bx1
  rw [eh1, eg1] at g1 on1
  rw [eg1] at fx1p0
  have hkm := hkm.call g1 (by decide)
  have hon := hon.trans on1
  have f_p0_1 := g1 _ _ _ _ hB.2 (by decide)
  have f_p0_10 := g1 _ _ _ _ fx9000op0_10 (by decide)
  have obx1p0 := iv_o bx1p0
  have ocx1 := iv_o cx1
  refine lv_pop hx hb dX12_numberHere_4 rfl ?_
  refine lv_aload_n hx hb dX12_numberHere_5 rfl (lv_at hl 0 rfl) ?_
  refine lv_aload_n hx hb dX12_numberHere_6 rfl (lv_at hl 0 rfl) ?_
  refine hp_getf hx hb hts IX12 hown hK fx1p0 rfl (by decide) L99 dX12_numberHere_7 ?_
  refine hp_callpi (va_runV (As := [.int x1p0]) (rest := []) ⟨hx, hb, hml, hown, hts⟩ (sX12_isDigit l D T ap0 x1p0 xp101 A Gm Tp ip0 (bx1p0.mono (by decide) (by decide)) bp101) (cwV 1 hts gX12_numberHere_X12_isDigit rfl rfl rfl (by decide +kernel) ⟨Nat.le_of_ble_eq_true rfl, Nat.le_of_ble_eq_true rfl⟩) (hp_preV hG hw hp0 rfl f_p0_1) rfl rfl hl.1 rfl (lv_room (Nat.le_of_ble_eq_true rfl)) dX12_numberHere_10 ⟨Nat.zero_le _, Nat.zero_le _⟩) (fun x10 bx10 => ?_)
  obtain ⟨cx10, R10_0, R10_1, R10_2⟩ := bx10
  have ocx10 := iv_o cx10
  refine lv_if_ne (tgt := 26) hx hb dX12_numberHere_13 (by decide) (fun c13 => ?_) (fun c13 => ?_)
  · have oc13 := iv_neq c13
    have r13tp : iv x10 1 1 := (iv_ne_lo c13 cx10 rfl).mono (by decide) (by decide)
    have or13tp := iv_o r13tp
    have r13tpz : iv x1p0 0 399 := (iv_both bx1p0 (R10_2 (iv_ne0 r13tp (by decide)))).mono (by decide) (by decide)
    have or13tpz := iv_o r13tpz
    refine lv_aload_n hx hb dX12_numberHere_26 rfl (lv_at hl 0 rfl) ?_
    refine hp_getf hx hb hts IX12 hown hK fx1p0 rfl (by decide) L99 dX12_numberHere_27 ?_
    refine lv_istore_n (lv' := [(3, .int x1p0), (0, .ref ap0), (1, .int xp1), (2, .int xp2)]) hx hb dX12_numberHere_30 rfl hl (by decide) rfl (fun ls hl => ?_)
    refine lv_iconst (v := 0) hx hb dX12_numberHere_31 (by decide) ?_
    refine lv_istore (lv' := [(4, .int 0), (3, .int x1p0), (0, .ref ap0), (1, .int xp1), (2, .int xp2)]) hx hb dX12_numberHere_32 hl (by decide) rfl (fun ls hl => ?_)
    have J34 : ∀ (n : Nat) (y34_l4 y34_fp0_10 y34_fp0_8 : Int32), (400 - y34_fp0_8.toInt).toNat < n → iv x1p0 0 399 → iv xp101 0 400 → iv y34_fp0_8 0 400 → (x1p0.toInt ≤ y34_fp0_8.toInt) → (y34_fp0_8.toInt = x1p0.toInt → chb Tp 48 57 y34_fp0_8.toInt xp101.toInt) → ∀ (H : Heap) (locs : List Loc), hp_w D T s H locs → hp_km D [(12, 8), (12, 9), (12, 10)] s.heap H → hp_on (fun q => q = ap0) s.heap H → hp_f D H ap0 12 1 (.int xp101) → hp_f D H ap0 12 10 (.int y34_fp0_10) → hp_f D H ap0 12 8 (.int y34_fp0_8) → ∀ (ls : Array Slot), lv_has ls 5 [(0, .ref ap0), (1, .int xp1), (2, .int xp2), (3, .int x1p0), (4, .int y34_l4)] → WX12_numberHere p l e s m below meth c D T ap0 xp1 xp2 xp100 xp101 A Tp H locs (F0 m 34 ls []) := by
      intro n
      induction n with
      | zero => intro y34_l4 y34_fp0_10 y34_fp0_8 hmu34 c34_x1p0 c34_xp101 c34_y34_fp0_8 hv34_0 hv34_1 H34 locs34 hw hkm hon f_p0_1 f_p0_10 f_p0_8 ls hl; exact absurd hmu34 (Nat.not_lt_zero _)
      | succ n ih34 =>
        intro y34_l4 y34_fp0_10 y34_fp0_8 hmu34 c34_x1p0 c34_xp101 c34_y34_fp0_8 hv34_0 hv34_1 H34 locs34 hw hkm hon f_p0_1 f_p0_10 f_p0_8 ls hl
        have oc34_x1p0 := iv_o c34_x1p0
        have oc34_xp101 := iv_o c34_xp101
        have oc34_y34_fp0_8 := iv_o c34_y34_fp0_8
        refine lv_aload_n hx hb dX12_numberHere_34 rfl (lv_at hl 0 rfl) ?_
        refine lv_aload_n hx hb dX12_numberHere_35 rfl (lv_at hl 0 rfl) ?_
        refine hp_getf hx hb hts IX12 hown hK f_p0_8 rfl (by decide) L99 dX12_numberHere_36 ?_
        refine hp_callpi (va_runV (As := [.int y34_fp0_8]) (rest := []) ⟨hx, hb, hml, hown, hts⟩ (sX12_isDigit l D T ap0 y34_fp0_8 xp101 A Gm Tp ip0 (c34_y34_fp0_8.mono (by decide) (by decide)) c34_xp101) (cwV 1 hts gX12_numberHere_X12_isDigit rfl rfl rfl (by decide +kernel) ⟨Nat.le_of_ble_eq_true rfl, Nat.le_of_ble_eq_true rfl⟩) (hp_preV hG hw hp0 rfl f_p0_1) rfl rfl hl.1 rfl (lv_room (Nat.le_of_ble_eq_true rfl)) dX12_numberHere_39 ⟨Nat.zero_le _, Nat.zero_le _⟩) (fun x39 bx39 => ?_)
        obtain ⟨cx39, R39_0, R39_1, R39_2⟩ := bx39
        have ocx39 := iv_o cx39
        refine lv_if_eq (tgt := 88) hx hb dX12_numberHere_42 (by decide) (fun c42 => ?_) (fun c42 => ?_)
        · have oc42 := congrArg Int32.toInt c42
          have r42tp : iv x39 0 0 := (iv_both cx39 (iv_eq (show iv 0 0 0 from ⟨by decide, by decide⟩) c42)).mono (by decide) (by decide)
          have or42tp := iv_o r42tp
          have n9 : x1p0.toInt + 1 ≤ y34_fp0_8.toInt := by rcases (show x1p0.toInt + 1 ≤ y34_fp0_8.toInt ∨ y34_fp0_8.toInt = x1p0.toInt by omega) with q9 | q9; exact q9; exact absurd (hv34_1 q9) (R39_1 c42)
          refine lv_aload_n hx hb dX12_numberHere_88 rfl (lv_at hl 0 rfl) ?_
          refine lv_iload hx hb dX12_numberHere_89 (lv_at hl 4 rfl) ?_
          refine hp_putE hx hb hts IX12 tyX12 tyX12_ok nmX12 hown hK hw hp0 rfl 10 (by decide) L124 rfl rfl ⟨_, rfl⟩ rfl rfl dX12_numberHere_91 (fun H91 locs91 hw f91n g91 on91 => ?_)
          have hon := hon.trans (show hp_on (fun q => q = ap0) _ _ from on91)
          have hkm := hkm.put g91 (by decide)
          have f_p0_1 := g91 _ _ _ _ f_p0_1 (Or.inr ⟨rfl, by decide⟩)
          have f_p0_8 := g91 _ _ _ _ f_p0_8 (Or.inr ⟨rfl, by decide⟩)
          refine lv_aload_n hx hb dX12_numberHere_94 rfl (lv_at hl 0 rfl) ?_
          refine hp_getf hx hb hts IX12 hown hK f_p0_8 rfl (by decide) L99 dX12_numberHere_95 ?_
          refine lv_iload_n hx hb dX12_numberHere_98 rfl (lv_at hl 3 rfl) ?_
          refine lv_isub hx hb dX12_numberHere_99 ?_
          refine lv_topi (fun x99 ex99 => ?_)
          have bx99 : iv x99 (-399) 400 := iv_sub c34_y34_fp0_8 c34_x1p0 ex99 (by decide)
          have obx99 := iv_o bx99
          have qx99 := iv_sub_eq c34_y34_fp0_8 c34_x1p0 ex99 (by decide)
          refine lv_iconst (v := 5) hx hb dX12_numberHere_100 (by decide) ?_
          refine lv_icmp_gt (tgt := 117) hx hb dX12_numberHere_101 (by decide) (fun c101 => ?_) (fun c101 => ?_)
          · have oc101 := Int32.lt_iff_toInt_lt.mp c101
            have r101tq : iv x99 6 400 := (iv_lt_r c101 (show iv 5 5 5 from ⟨by decide, by decide⟩) bx99).mono (by decide) (by decide)
            have or101tq := iv_o r101tq
            refine lv_aload_n hx hb dX12_numberHere_117 rfl (lv_at hl 0 rfl) ?_
            refine lv_iconst (v := 1) hx hb dX12_numberHere_118 (by decide) ?_
            refine lv_iload_n hx hb dX12_numberHere_119 rfl (lv_at hl 3 rfl) ?_
            refine hp_callei (va_runV (As := [.int 1, .int x1p0]) (rest := []) ⟨hx, hb, hml, hown, hts⟩ (sX12_fails l D T ap0 (1 : Int32) x1p0 A Gm Tp ip0) (cwV 2 hts gX12_numberHere_X12_fails rfl rfl rfl (by decide +kernel) ⟨Nat.le_of_ble_eq_true rfl, Nat.le_of_ble_eq_true rfl⟩) (hp_preV hG hw hp0 rfl trivial) rfl rfl hl.1 rfl (lv_room (Nat.le_of_ble_eq_true rfl)) dX12_numberHere_120 ⟨Nat.zero_le _, Nat.zero_le _⟩) hw (fun x120 st120 t120 H120 locs120 eh120 eg120 bx120 hw => ?_)
            obtain ⟨g120, on120, cx120⟩ := bx120
            rw [eh120, eg120] at g120 on120
            have hkm := hkm.call g120 (by decide)
            have hon := hon.trans on120
            have f_p0_1 := g120 _ _ _ _ f_p0_1 (by decide)
            have f_p0_8 := g120 _ _ _ _ f_p0_8 (by decide)
            have f_p0_10 := g120 _ _ _ _ f91n (by decide)
            have ocx120 := iv_o cx120
            refine lv_if_eq (tgt := 130) hx hb dX12_numberHere_123 (by decide) (fun c123 => ?_) (fun c123 => ?_)
            · have oc123 := congrArg Int32.toInt c123
              refine lv_iconst (v := 0) hx hb dX12_numberHere_130 (by decide) ?_
              exact W.zret (v := 0) hx hb hr (iv_nz (show iv 0 0 1 from ⟨by decide, by decide⟩)) (fun t ht hW => ⟨some (.int 0), rfl, ⟨(0 : Int32), rfl, ⟨y34_fp0_8, y34_l4, by rw [ht]; exact hkm, by rw [ht]; exact hon, by rw [ht]; exact f_p0_8, by rw [ht]; exact f_p0_10, (show iv 0 0 1 from ⟨by decide, by decide⟩), c34_y34_fp0_8, (iv_any y34_l4), (by intros; omega), (fun h9 => absurd k0 h9), (fun h9 => absurd k0 h9)⟩⟩, by rw [ht]; exact hw.1, hw.2.F ht⟩) hw.2.2.2 dX12_numberHere_131
            · have oc123 := iv_neq c123
              exact iv_abs (iv_ne_lo c123 cx120 rfl) (by decide)
          · have oc101 := Int32.le_iff_toInt_le.mp (iv_nlt c101)
            have r101fp : iv x99 (-399) 5 := (iv_le_l (iv_nlt c101) bx99 (show iv 5 5 5 from ⟨by decide, by decide⟩)).mono (by decide) (by decide)
            have or101fp := iv_o r101fp
            refine lv_iload hx hb dX12_numberHere_104 (lv_at hl 4 rfl) ?_
            obtain ⟨x106, ex106⟩ : ∃ y : Int64, y34_l4.toInt64 = y := ⟨_, rfl⟩
            refine lv_i2l (v := x106) hx hb dX12_numberHere_106 ex106 ?_
            refine lv_iload_n hx hb dX12_numberHere_107 rfl (lv_at hl 1 rfl) ?_
            obtain ⟨x108, ex108⟩ : ∃ y : Int64, xp1.toInt64 = y := ⟨_, rfl⟩
            refine lv_i2l (v := x108) hx hb dX12_numberHere_108 ex108 ?_
            refine lv_iload_n hx hb dX12_numberHere_109 rfl (lv_at hl 2 rfl) ?_
            obtain ⟨x110, ex110⟩ : ∃ y : Int64, xp2.toInt64 = y := ⟨_, rfl⟩
            refine lv_i2l (v := x110) hx hb dX12_numberHere_110 ex110 ?_
            refine hp_callpi (va_runS (As := [.long x106, .long x108, .long x110]) (rest := []) ⟨hx, hb, hml, hown, hts⟩ (sX12_in l D T x106 x108 x110) (va_cwS 3 hts gX12_numberHere_X12_in rfl rfl rfl (by decide +kernel) ⟨Nat.le_of_ble_eq_true rfl, Nat.le_of_ble_eq_true rfl⟩) (hp_preS hG hw trivial) rfl rfl hl.1 rfl (lv_room (Nat.le_of_ble_eq_true rfl)) dX12_numberHere_111 ⟨Nat.zero_le _, Nat.zero_le _⟩) (fun x111 bx111 => ?_)
            obtain ⟨bx111, ox111, nx111⟩ := bx111
            have obx111 := iv_o bx111
            have ox111a_ : x111 = 0 ∨ iv y34_l4 (-2147483648) 2147483647 := ox111.imp id (fun h => iv_in64 ex106 h.1 h.2 (iv_64lo ex108 (iv_any xp1)) (iv_64hi ex110 (iv_any xp2)))
            have ox111a : x111 = 0 ∨ iv y34_l4 (-2147483648) 2147483647 := ox111.imp id (fun h => iv_in64 ex106 h.1 h.2 (iv_64lo ex108 (iv_any xp1)) (iv_64hi ex110 (iv_any xp2)))
            refine lv_if_ne (tgt := 126) hx hb dX12_numberHere_114 (by decide) (fun c114 => ?_) (fun c114 => ?_)
            · have oc114 := iv_neq c114
              have r114tp : iv x111 1 1 := (iv_ne_lo c114 bx111 rfl).mono (by decide) (by decide)
              have or114tp := iv_o r114tp
              have i9 := ox111.resolve_left c114
              have j9 := le64 ex108 ex106 i9.1
              have j8 := le64 ex106 ex110 i9.2
              refine lv_iconst (v := 1) hx hb dX12_numberHere_126 (by decide) ?_
              refine lv_goto (tgt := 131) hx hb dX12_numberHere_127 (by decide) ?_
              exact W.zret (v := 1) hx hb hr (iv_nz (show iv 1 0 1 from ⟨by decide, by decide⟩)) (fun t ht hW => ⟨some (.int 1), rfl, ⟨(1 : Int32), rfl, ⟨y34_fp0_8, y34_l4, by rw [ht]; exact hkm, by rw [ht]; exact hon, by rw [ht]; exact f_p0_8, by rw [ht]; exact f91n, (show iv 1 0 1 from ⟨by decide, by decide⟩), c34_y34_fp0_8, (iv_any y34_l4), (by intros; omega), (fun _ => by omega), (fun _ => ⟨by omega, by omega⟩)⟩⟩, by rw [ht]; exact hw.1, hw.2.F ht⟩) hw.2.2.2 dX12_numberHere_131
            · have oc114 := congrArg Int32.toInt c114
              have r114fp : iv x111 0 0 := (iv_both bx111 (iv_eq (show iv 0 0 0 from ⟨by decide, by decide⟩) c114)).mono (by decide) (by decide)
              have or114fp := iv_o r114fp
              refine lv_aload_n hx hb dX12_numberHere_117 rfl (lv_at hl 0 rfl) ?_
              refine lv_iconst (v := 1) hx hb dX12_numberHere_118 (by decide) ?_
              refine lv_iload_n hx hb dX12_numberHere_119 rfl (lv_at hl 3 rfl) ?_
              refine hp_callei (va_runV (As := [.int 1, .int x1p0]) (rest := []) ⟨hx, hb, hml, hown, hts⟩ (sX12_fails l D T ap0 (1 : Int32) x1p0 A Gm Tp ip0) (cwV 2 hts gX12_numberHere_X12_fails rfl rfl rfl (by decide +kernel) ⟨Nat.le_of_ble_eq_true rfl, Nat.le_of_ble_eq_true rfl⟩) (hp_preV hG hw hp0 rfl trivial) rfl rfl hl.1 rfl (lv_room (Nat.le_of_ble_eq_true rfl)) dX12_numberHere_120 ⟨Nat.zero_le _, Nat.zero_le _⟩) hw (fun x120 st120 t120 H120 locs120 eh120 eg120 bx120 hw => ?_)
              obtain ⟨g120, on120, cx120⟩ := bx120
              rw [eh120, eg120] at g120 on120
              have hkm := hkm.call g120 (by decide)
              have hon := hon.trans on120
              have f_p0_1 := g120 _ _ _ _ f_p0_1 (by decide)
              have f_p0_8 := g120 _ _ _ _ f_p0_8 (by decide)
              have f_p0_10 := g120 _ _ _ _ f91n (by decide)
              have ocx120 := iv_o cx120
              refine lv_if_eq (tgt := 130) hx hb dX12_numberHere_123 (by decide) (fun c123 => ?_) (fun c123 => ?_)
              · have oc123 := congrArg Int32.toInt c123
                refine lv_iconst (v := 0) hx hb dX12_numberHere_130 (by decide) ?_
                exact W.zret (v := 0) hx hb hr (iv_nz (show iv 0 0 1 from ⟨by decide, by decide⟩)) (fun t ht hW => ⟨some (.int 0), rfl, ⟨(0 : Int32), rfl, ⟨y34_fp0_8, y34_l4, by rw [ht]; exact hkm, by rw [ht]; exact hon, by rw [ht]; exact f_p0_8, by rw [ht]; exact f_p0_10, (show iv 0 0 1 from ⟨by decide, by decide⟩), c34_y34_fp0_8, (iv_any y34_l4), (by intros; omega), (fun h9 => absurd k0 h9), (fun h9 => absurd k0 h9)⟩⟩, by rw [ht]; exact hw.1, hw.2.F ht⟩) hw.2.2.2 dX12_numberHere_131
              · have oc123 := iv_neq c123
                exact iv_abs (iv_ne_lo c123 cx120 rfl) (by decide)
        · have oc42 := iv_neq c42
          have r42fp : iv x39 1 1 := (iv_ne_lo c42 cx39 rfl).mono (by decide) (by decide)
          have or42fp := iv_o r42fp
          have r42fpz : iv y34_fp0_8 0 399 := (iv_both c34_y34_fp0_8 (R39_2 (iv_ne0 r42fp (by decide)))).mono (by decide) (by decide)
          have or42fpz := iv_o r42fpz
          refine lv_aload_n hx hb dX12_numberHere_45 rfl (lv_at hl 0 rfl) ?_
          refine hp_getf hx hb hts IX12 hown hK f_p0_8 rfl (by decide) L99 dX12_numberHere_46 ?_
          refine lv_iload_n hx hb dX12_numberHere_49 rfl (lv_at hl 3 rfl) ?_
          refine lv_isub hx hb dX12_numberHere_50 ?_
          refine lv_topi (fun x50 ex50 => ?_)
          have bx50 : iv x50 (-399) 399 := iv_sub r42fpz c34_x1p0 ex50 (by decide)
          have obx50 := iv_o bx50
          have qx50 := iv_sub_eq r42fpz c34_x1p0 ex50 (by decide)
          refine lv_iconst (v := 5) hx hb dX12_numberHere_51 (by decide) ?_
          have J75 : ∀ (y75_l4 : Int32), iv x1p0 0 399 → iv xp101 0 400 → iv y34_fp0_8 0 399 → (x1p0.toInt ≤ y34_fp0_8.toInt) → ∀ (H : Heap) (locs : List Loc), hp_w D T s H locs → hp_km D [(12, 8), (12, 9), (12, 10)] s.heap H → hp_on (fun q => q = ap0) s.heap H → hp_f D H ap0 12 1 (.int xp101) → hp_f D H ap0 12 10 (.int y34_fp0_10) → hp_f D H ap0 12 8 (.int y34_fp0_8) → ∀ (ls : Array Slot), lv_has ls 5 [(0, .ref ap0), (1, .int xp1), (2, .int xp2), (3, .int x1p0), (4, .int y75_l4)] → WX12_numberHere p l e s m below meth c D T ap0 xp1 xp2 xp100 xp101 A Tp H locs (F0 m 75 ls []) := by
            intro y75_l4 c75_x1p0 c75_xp101 c75_y34_fp0_8 hv75_0 H75 locs75 hw hkm hon f_p0_1 f_p0_10 f_p0_8 ls hl
            have oc75_x1p0 := iv_o c75_x1p0
            have oc75_xp101 := iv_o c75_xp101
            have oc75_y34_fp0_8 := iv_o c75_y34_fp0_8
            refine lv_aload_n hx hb dX12_numberHere_75 rfl (lv_at hl 0 rfl) ?_
            refine lv_dup hx hb dX12_numberHere_76 rfl ?_
            refine hp_getf hx hb hts IX12 hown hK f_p0_8 rfl (by decide) L99 dX12_numberHere_77 ?_
            refine lv_iconst (v := 1) hx hb dX12_numberHere_80 (by decide) ?_
            refine lv_iadd hx hb dX12_numberHere_81 ?_
            refine lv_topi (fun x81 ex81 => ?_)
            have bx81 : iv x81 1 400 := iv_add c75_y34_fp0_8 (show iv 1 1 1 from ⟨by decide, by decide⟩) ex81 (by decide)
            have obx81 := iv_o bx81
            have qx81 := iv_add_eq c75_y34_fp0_8 (show iv 1 1 1 from ⟨by decide, by decide⟩) ex81 (by decide)
            refine hp_putE hx hb hts IX12 tyX12 tyX12_ok nmX12 hown hK hw hp0 rfl 8 (by decide) L99 rfl rfl ⟨_, rfl, (bx81.mono (by decide) (by decide))⟩ rfl rfl dX12_numberHere_82 (fun H82 locs82 hw f82n g82 on82 => ?_)
            have hon := hon.trans (show hp_on (fun q => q = ap0) _ _ from on82)
            have hkm := hkm.put g82 (by decide)
            have f_p0_1 := g82 _ _ _ _ f_p0_1 (Or.inr ⟨rfl, by decide⟩)
            have f_p0_10 := g82 _ _ _ _ f_p0_10 (Or.inr ⟨rfl, by decide⟩)
            refine lv_goto (tgt := 34) hx hb dX12_numberHere_85 (by decide) ?_
            exact ih34 y75_l4 y34_fp0_10 x81 (mu_up 1 hmu34 (qx81) (by decide) (show iv x81 0 400 from (bx81.mono (by decide) (by decide))).2) c75_x1p0 c75_xp101 (bx81.mono (by decide) (by decide)) (show x1p0.toInt ≤ x81.toInt from by have := (c75_x1p0).1; have := (c75_x1p0).2; have := (bx81).1; have := (bx81).2; have := (c75_y34_fp0_8).1; have := (c75_y34_fp0_8).2; have : (1 : Int32).toInt = 1 := (by decide); omega) (show x81.toInt = x1p0.toInt → chb Tp 48 57 x81.toInt xp101.toInt from (fun h9 => absurd h9 (by omega))) H82 locs82 hw hkm hon f_p0_1 f_p0_10 f82n _ (lv_sub hl [0, 1, 2, 3, 4] rfl)
          refine lv_icmp_ge (tgt := 75) hx hb dX12_numberHere_52 (by decide) (fun c52 => ?_) (fun c52 => ?_)
          · have oc52 := Int32.le_iff_toInt_le.mp c52
            have r52tq : iv x50 5 399 := (iv_le_r c52 (show iv 5 5 5 from ⟨by decide, by decide⟩) bx50).mono (by decide) (by decide)
            have or52tq := iv_o r52tq
            exact J75 y34_l4 c34_x1p0 c34_xp101 r42fpz (show x1p0.toInt ≤ y34_fp0_8.toInt from by have := (c34_x1p0).1; have := (c34_x1p0).2; have := (r42fpz).1; have := (r42fpz).2; have := (r52tq).1; have := (r52tq).2; have := (Int32.le_iff_toInt_le.mp c52); have : (0 : Int32).toInt = 0 := (by decide); have : (5 : Int32).toInt = 5 := (by decide); omega) H34 locs34 hw hkm hon f_p0_1 f_p0_10 f_p0_8 _ (lv_sub hl [0, 1, 2, 3, 4] rfl)
          · have oc52 := Int32.lt_iff_toInt_lt.mp (iv_nle c52)
            have r52fp : iv x50 (-399) 4 := (iv_lt_l (iv_nle c52) bx50 (show iv 5 5 5 from ⟨by decide, by decide⟩)).mono (by decide) (by decide)
            have or52fp := iv_o r52fp
            refine lv_bipush (v := 10) hx hb dX12_numberHere_55 (by decide) ?_
            refine lv_iload hx hb dX12_numberHere_57 (lv_at hl 4 rfl) ?_
            refine lv_imul hx hb dX12_numberHere_59 ?_
            refine lv_topi (fun x59 ex59 => ?_)
            refine lv_aload_n hx hb dX12_numberHere_60 rfl (lv_at hl 0 rfl) ?_
            refine hp_getr hx hb hts IX12 hown hK hw.1 hp0 rfl 0 (by decide) L7 rfl dX12_numberHere_61 ?_
            refine lv_aload_n hx hb dX12_numberHere_64 rfl (lv_at hl 0 rfl) ?_
            refine hp_getf hx hb hts IX12 hown hK f_p0_8 rfl (by decide) L99 dX12_numberHere_65 ?_
            refine hp_bald hx hb hK hw.1 hp0tape (vp_iv r42fpz (by decide)) dX12_numberHere_68 (fun v68 h68 => ?_)
            obtain ⟨x68, rfl⟩ := tpok _ _ h68
            have ex68 : Value.int x68 = Tp (y34_fp0_8).toNatClampNeg := h68
            refine lv_iadd hx hb dX12_numberHere_69 ?_
            refine lv_topi (fun x69 ex69 => ?_)
            refine lv_bipush (v := 48) hx hb dX12_numberHere_70 (by decide) ?_
            refine lv_isub hx hb dX12_numberHere_72 ?_
            refine lv_topi (fun x72 ex72 => ?_)
            refine lv_istore (lv' := [(4, .int x72), (0, .ref ap0), (1, .int xp1), (2, .int xp2), (3, .int x1p0)]) hx hb dX12_numberHere_73 hl (by decide) rfl (fun ls hl => ?_)
            exact J75 x72 c34_x1p0 c34_xp101 r42fpz (show x1p0.toInt ≤ y34_fp0_8.toInt from by have := (c34_x1p0).1; have := (c34_x1p0).2; have := (r42fpz).1; have := (r42fpz).2; have := (r52fp).1; have := (r52fp).2; have := (Int32.lt_iff_toInt_lt.mp (iv_nle c52)); have : (0 : Int32).toInt = 0 := (by decide); have : (5 : Int32).toInt = 5 := (by decide); omega) H34 locs34 hw hkm hon f_p0_1 f_p0_10 f_p0_8 _ (lv_sub hl [1, 2, 3, 4, 0] rfl)
    exact J34 _ (0 : Int32) x9000op0_10 x1p0 (Nat.lt_succ_self _) r13tpz bp101 (r13tpz.mono (by decide) (by decide)) (show x1p0.toInt ≤ x1p0.toInt from by have := (r13tpz).1; have := (r13tpz).2; have : (0 : Int32).toInt = 0 := (by decide); omega) (show x1p0.toInt = x1p0.toInt → chb Tp 48 57 x1p0.toInt xp101.toInt from (fun _ => R10_0 c13)) H1 locs1 hw hkm hon f_p0_1 f_p0_10 fx1p0 _ (lv_sub hl [2, 3, 4, 1, 0] rfl)
  · have oc13 := congrArg Int32.toInt c13
    have r13fp : iv x10 0 0 := (iv_both cx10 (iv_eq (show iv 0 0 0 from ⟨by decide, by decide⟩) c13)).mono (by decide) (by decide)
    have or13fp := iv_o r13fp
    refine lv_aload_n hx hb dX12_numberHere_16 rfl (lv_at hl 0 rfl) ?_
    refine lv_iconst (v := 0) hx hb dX12_numberHere_17 (by decide) ?_
    refine lv_aload_n hx hb dX12_numberHere_18 rfl (lv_at hl 0 rfl) ?_
    refine hp_getf hx hb hts IX12 hown hK fx1p0 rfl (by decide) L99 dX12_numberHere_19 ?_
    refine hp_callei (va_runV (As := [.int 0, .int x1p0]) (rest := []) ⟨hx, hb, hml, hown, hts⟩ (sX12_fails l D T ap0 (0 : Int32) x1p0 A Gm Tp ip0) (cwV 2 hts gX12_numberHere_X12_fails rfl rfl rfl (by decide +kernel) ⟨Nat.le_of_ble_eq_true rfl, Nat.le_of_ble_eq_true rfl⟩) (hp_preV hG hw hp0 rfl trivial) rfl rfl hl.1 rfl (lv_room (Nat.le_of_ble_eq_true rfl)) dX12_numberHere_22 ⟨Nat.zero_le _, Nat.zero_le _⟩) hw (fun x22 st22 t22 H22 locs22 eh22 eg22 bx22 hw => ?_)
    obtain ⟨g22, on22, cx22⟩ := bx22
    rw [eh22, eg22] at g22 on22
    have hkm := hkm.call g22 (by decide)
    have hon := hon.trans on22
    have f_p0_1 := g22 _ _ _ _ f_p0_1 (by decide)
    have f_p0_10 := g22 _ _ _ _ f_p0_10 (by decide)
    have f_p0_8 := g22 _ _ _ _ fx1p0 (by decide)
    have ocx22 := iv_o cx22
    exact W.zret (v := x22) hx hb hr (iv_nz (cx22.mono (by decide) (by decide))) (fun t ht hW => ⟨some (.int x22), rfl, ⟨x22, rfl, ⟨x1p0, x9000op0_10, by rw [ht]; exact hkm, by rw [ht]; exact hon, by rw [ht]; exact f_p0_8, by rw [ht]; exact f_p0_10, (cx22.mono (by decide) (by decide)), bx1p0, (iv_any x9000op0_10), (by intros; omega), (fun h9 => absurd (by omega) h9), (fun h9 => absurd (by omega) h9)⟩⟩, by rw [ht]; exact hw.1, hw.2.F ht⟩) hw.2.2.2 dX12_numberHere_25
abbrev WX12_wordHere (p : Program) (l : Launch) (e : Env) (s : State) (m : MethodId) (below : List Frame) (meth : Method) (c : Code) (D : hp_D) (T : hp_T) (ap0 : Nat) (xp100 : Int32) (xp101 : Int32) (A : Nat → Nat) (Tp : Nat → Value) (H : Heap) (locs : List Loc) (g : JFrame) : Prop := W p l e (headSpec wsX12_wordHere ({ frames := 2, cells := 0, slots := 0, locals := 46 })).room s m ([.ref ap0] : List Value).toArray below meth c H locs 0 0 (MQ below (hq_e D T (fun v st t => ∃ r : Int32, v = some (.int r) ∧ ((∃ y0 : Int32, hp_km D [(12, 8)] st.heap t.heap ∧ hp_on (fun q => q = ap0) st.heap t.heap ∧ hp_f D t.heap ap0 12 8 (.int y0) ∧ iv r (-1) 10 ∧ iv y0 0 400 ∧ (xp100.toInt ≤ y0.toInt) ∧ (0 ≤ r.toInt → chb Tp 97 122 y0.toInt xp101.toInt))))) ([.ref ap0] : List Value).toArray s 0 0 (hp_F T)) g
set_option maxHeartbeats 4000000 in
set_option maxRecDepth 100000 in
theorem sX12_wordHere (l : Launch) (D : hp_D) (T : hp_T) (ap0 : Nat) (xp100 : Int32) (xp101 : Int32) (A : Nat → Nat) (Gm : moG) (Tp : Nat → Value) (ip0 : isMp T ap0 A Gm Tp) (bp100 : iv xp100 0 400) (bp101 : iv xp101 0 400) : Met l yX12_wordHere wsX12_wordHere ({ frames := 2, cells := 0, slots := 0, locals := 46 }) (hp_Pc D T [.ref ap0] (fun H => hp_f D H ap0 12 8 (.int xp100) ∧ hp_f D H ap0 12 1 (.int xp101))) (hq_e D T (fun v st t => ∃ r : Int32, v = some (.int r) ∧ ((∃ y0 : Int32, hp_km D [(12, 8)] st.heap t.heap ∧ hp_on (fun q => q = ap0) st.heap t.heap ∧ hp_f D t.heap ap0 12 8 (.int y0) ∧ iv r (-1) 10 ∧ iv y0 0 400 ∧ (xp100.toInt ≤ y0.toInt) ∧ (0 ≤ r.toInt → chb Tp 97 122 y0.toInt xp101.toInt))))) 0 0 (hp_F T) := by
  obtain ⟨gok, tpok, hp0, hp0tape, hp0sign, hp0len, hp0clause, hp0clauses, hp0read, hp0opn, hp0stack, hp0word, hp0said, hp0was, hp0fitting, hp0sums, hp0sort, hp0sumsBy, hp0oneOf, hp0otherOf, hp0kept, hp0images, hp0acts, hp0iUnd, hp0iFor, hp0iX, hp0made⟩ := id ip0
  have hpx := gok.1
  have gsok := gok.2.2.2.2
  have ggd := gok.2.2.2.1
  refine Met.ofW (cc := cX12_wordHere) (maxL := 1) (ret := (some .int)) (by decide) rfl ?_
  intro p e s m args below meth c s₁ B hml hv
  obtain ⟨rfl, hok, hG, hB⟩ := hv
  have hx := B.exec
  have hb := B.bytes
  have hr := B.returns
  have hts := atoms_spec (ws := wsX12_wordHere) B.pre
  have hown : s.vm.findClass RX12 = some m.cls := findClass_of_methodNamed B.named
  have hlocks := B.notSynchronized
  have hK := hG.1
  have hw : hp_w D T s s.heap [] := hp_w.rf hok
  have K131 := hts (.constantLong RX12 131 7302757) (by decide +kernel)
  have K133 := hts (.constantLong RX12 133 478694368626) (by decide +kernel)
  have K135 := hts (.constantLong RX12 135 1734440037) (by decide +kernel)
  have K137 := hts (.constantLong RX12 137 1752135026) (by decide +kernel)
  have K139 := hts (.constantLong RX12 139 6578553) (by decide +kernel)
  have K141 := hts (.constantLong RX12 141 7169396) (by decide +kernel)
  have K143 := hts (.constantLong RX12 143 7039342) (by decide +kernel)
  have K145 := hts (.constantLong RX12 145 1818584692) (by decide +kernel)
  have K147 := hts (.constantLong RX12 147 113715424159091) (by decide +kernel)
  have K149 := hts (.constantLong RX12 149 7163091121595377006) (by decide +kernel)
  have K151 := hts (.constantLong RX12 151 427121669988) (by decide +kernel)
  have hon : hp_on (fun q => q = ap0) s.heap s.heap := fun _ _ => rfl
  have km1 : ((-1) : Int32).toInt = (-1) := (by decide)
  have k0 : (0 : Int32).toInt = 0 := (by decide)
  have k1 : (1 : Int32).toInt = 1 := (by decide)
  have k2 : (2 : Int32).toInt = 2 := (by decide)
  have k3 : (3 : Int32).toInt = 3 := (by decide)
  have k4 : (4 : Int32).toInt = 4 := (by decide)
  have k5 : (5 : Int32).toInt = 5 := (by decide)
  have k6 : (6 : Int32).toInt = 6 := (by decide)
  have k7 : (7 : Int32).toInt = 7 := (by decide)
  have k8 : (8 : Int32).toInt = 8 := (by decide)
  have k9 : (9 : Int32).toInt = 9 := (by decide)
  have k10 : (10 : Int32).toInt = 10 := (by decide)
  have obp100 := iv_o bp100
  have obp101 := iv_o bp101
  have hkm : hp_km D [(12, 8)] s.heap s.heap := fun _ _ _ _ h _ => h
  have hl := lv_entry ([.ref ap0]) (n := 1) (Nat.le_of_ble_eq_true rfl)
  rw [lg_entry_eq]
  generalize (lg_sl ([.ref ap0]) ++ List.replicate (1 - (lg_sl ([.ref ap0])).length) Slot.unset).toArray = ls at hl ⊢
  have hl : lv_has ls 1 [(0, .ref ap0)] := hl
  show WX12_wordHere p l e s m below meth c D T ap0 xp100 xp101 A Tp s.heap [] (F0 m 0 ls [])
  have obp100 := iv_o bp100
  have obp101 := iv_o bp101
  refine lv_aload_n hx hb dX12_wordHere_0 rfl (lv_at hl 0 rfl) ?_
  refine lv_ldc2 (v := 7302757) hx hb hown K131 dX12_wordHere_1 ?_
  refine hp_callei (va_runV (As := [.long 7302757]) (rest := []) ⟨hx, hb, hml, hown, hts⟩ (sX12_isWord l D T ap0 7302757 xp100 xp101 A Gm Tp ip0 bp100 bp101) (cwV 1 hts gX12_wordHere_X12_isWord rfl rfl rfl (by decide +kernel) ⟨Nat.le_of_ble_eq_true rfl, Nat.le_of_ble_eq_true rfl⟩) (hp_preV hG hw hp0 rfl ⟨hB.1, hB.2⟩) rfl rfl hl.1 rfl (lv_room (Nat.le_of_ble_eq_true rfl)) dX12_wordHere_4 ⟨Nat.zero_le _, Nat.zero_le _⟩) hw (fun x4 st4 t4 H4 locs4 eh4 eg4 bx4 hw => ?_)
  obtain ⟨x4p0, g4, on4, fx4p0, cx4, bx4p0, R4_0, R4_1⟩ := bx4
  rw [eh4, eg4] at g4 on4
  rw [eg4] at fx4p0
  have hkm := hkm.call g4 (by decide)
  have hon := hon.trans on4
  have f_p0_1 := g4 _ _ _ _ hB.2 (by decide)
  have obx4p0 := iv_o bx4p0
  have ocx4 := iv_o cx4
  refine lv_if_eq (tgt := 12) hx hb dX12_wordHere_7 (by decide) (fun c7 => ?_) (fun c7 => ?_)
  · have oc7 := congrArg Int32.toInt c7
    have r7tp : iv x4 0 0 := (iv_both cx4 (iv_eq (show iv 0 0 0 from ⟨by decide, by decide⟩) c7)).mono (by decide) (by decide)
    have or7tp := iv_o r7tp
    refine lv_aload_n hx hb dX12_wordHere_12 rfl (lv_at hl 0 rfl) ?_
    refine lv_ldc2 (v := 478694368626) hx hb hown K133 dX12_wordHere_13 ?_
    refine hp_callei (va_runV (As := [.long 478694368626]) (rest := []) ⟨hx, hb, hml, hown, hts⟩ (sX12_isWord l D T ap0 478694368626 x4p0 xp101 A Gm Tp ip0 bx4p0 bp101) (cwV 1 hts gX12_wordHere_X12_isWord rfl rfl rfl (by decide +kernel) ⟨Nat.le_of_ble_eq_true rfl, Nat.le_of_ble_eq_true rfl⟩) (hp_preV hG hw hp0 rfl ⟨fx4p0, f_p0_1⟩) rfl rfl hl.1 rfl (lv_room (Nat.le_of_ble_eq_true rfl)) dX12_wordHere_16 ⟨Nat.zero_le _, Nat.zero_le _⟩) hw (fun x16 st16 t16 H16 locs16 eh16 eg16 bx16 hw => ?_)
    obtain ⟨x16p0, g16, on16, fx16p0, cx16, bx16p0, R16_0, R16_1⟩ := bx16
    rw [eh16, eg16] at g16 on16
    rw [eg16] at fx16p0
    have hkm := hkm.call g16 (by decide)
    have hon := hon.trans on16
    have f_p0_1 := g16 _ _ _ _ f_p0_1 (by decide)
    have obx16p0 := iv_o bx16p0
    have ocx16 := iv_o cx16
    refine lv_if_eq (tgt := 24) hx hb dX12_wordHere_19 (by decide) (fun c19 => ?_) (fun c19 => ?_)
    · have oc19 := congrArg Int32.toInt c19
      have r19tp : iv x16 0 0 := (iv_both cx16 (iv_eq (show iv 0 0 0 from ⟨by decide, by decide⟩) c19)).mono (by decide) (by decide)
      have or19tp := iv_o r19tp
      refine lv_aload_n hx hb dX12_wordHere_24 rfl (lv_at hl 0 rfl) ?_
      refine lv_ldc2 (v := 1734440037) hx hb hown K135 dX12_wordHere_25 ?_
      refine hp_callei (va_runV (As := [.long 1734440037]) (rest := []) ⟨hx, hb, hml, hown, hts⟩ (sX12_isWord l D T ap0 1734440037 x16p0 xp101 A Gm Tp ip0 bx16p0 bp101) (cwV 1 hts gX12_wordHere_X12_isWord rfl rfl rfl (by decide +kernel) ⟨Nat.le_of_ble_eq_true rfl, Nat.le_of_ble_eq_true rfl⟩) (hp_preV hG hw hp0 rfl ⟨fx16p0, f_p0_1⟩) rfl rfl hl.1 rfl (lv_room (Nat.le_of_ble_eq_true rfl)) dX12_wordHere_28 ⟨Nat.zero_le _, Nat.zero_le _⟩) hw (fun x28 st28 t28 H28 locs28 eh28 eg28 bx28 hw => ?_)
      obtain ⟨x28p0, g28, on28, fx28p0, cx28, bx28p0, R28_0, R28_1⟩ := bx28
      rw [eh28, eg28] at g28 on28
      rw [eg28] at fx28p0
      have hkm := hkm.call g28 (by decide)
      have hon := hon.trans on28
      have f_p0_1 := g28 _ _ _ _ f_p0_1 (by decide)
      have obx28p0 := iv_o bx28p0
      have ocx28 := iv_o cx28
      refine lv_if_eq (tgt := 36) hx hb dX12_wordHere_31 (by decide) (fun c31 => ?_) (fun c31 => ?_)
      · have oc31 := congrArg Int32.toInt c31
        have r31tp : iv x28 0 0 := (iv_both cx28 (iv_eq (show iv 0 0 0 from ⟨by decide, by decide⟩) c31)).mono (by decide) (by decide)
        have or31tp := iv_o r31tp
        refine lv_aload_n hx hb dX12_wordHere_36 rfl (lv_at hl 0 rfl) ?_
        refine lv_ldc2 (v := 1752135026) hx hb hown K137 dX12_wordHere_37 ?_
        refine hp_callei (va_runV (As := [.long 1752135026]) (rest := []) ⟨hx, hb, hml, hown, hts⟩ (sX12_isWord l D T ap0 1752135026 x28p0 xp101 A Gm Tp ip0 bx28p0 bp101) (cwV 1 hts gX12_wordHere_X12_isWord rfl rfl rfl (by decide +kernel) ⟨Nat.le_of_ble_eq_true rfl, Nat.le_of_ble_eq_true rfl⟩) (hp_preV hG hw hp0 rfl ⟨fx28p0, f_p0_1⟩) rfl rfl hl.1 rfl (lv_room (Nat.le_of_ble_eq_true rfl)) dX12_wordHere_40 ⟨Nat.zero_le _, Nat.zero_le _⟩) hw (fun x40 st40 t40 H40 locs40 eh40 eg40 bx40 hw => ?_)
        obtain ⟨x40p0, g40, on40, fx40p0, cx40, bx40p0, R40_0, R40_1⟩ := bx40
        rw [eh40, eg40] at g40 on40
        rw [eg40] at fx40p0
        have hkm := hkm.call g40 (by decide)
        have hon := hon.trans on40
        have f_p0_1 := g40 _ _ _ _ f_p0_1 (by decide)
        have obx40p0 := iv_o bx40p0
        have ocx40 := iv_o cx40
        refine lv_if_eq (tgt := 48) hx hb dX12_wordHere_43 (by decide) (fun c43 => ?_) (fun c43 => ?_)
        · have oc43 := congrArg Int32.toInt c43
          have r43tp : iv x40 0 0 := (iv_both cx40 (iv_eq (show iv 0 0 0 from ⟨by decide, by decide⟩) c43)).mono (by decide) (by decide)
          have or43tp := iv_o r43tp
          refine lv_aload_n hx hb dX12_wordHere_48 rfl (lv_at hl 0 rfl) ?_
          refine lv_ldc2 (v := 6578553) hx hb hown K139 dX12_wordHere_49 ?_
          refine hp_callei (va_runV (As := [.long 6578553]) (rest := []) ⟨hx, hb, hml, hown, hts⟩ (sX12_isWord l D T ap0 6578553 x40p0 xp101 A Gm Tp ip0 bx40p0 bp101) (cwV 1 hts gX12_wordHere_X12_isWord rfl rfl rfl (by decide +kernel) ⟨Nat.le_of_ble_eq_true rfl, Nat.le_of_ble_eq_true rfl⟩) (hp_preV hG hw hp0 rfl ⟨fx40p0, f_p0_1⟩) rfl rfl hl.1 rfl (lv_room (Nat.le_of_ble_eq_true rfl)) dX12_wordHere_52 ⟨Nat.zero_le _, Nat.zero_le _⟩) hw (fun x52 st52 t52 H52 locs52 eh52 eg52 bx52 hw => ?_)
          obtain ⟨x52p0, g52, on52, fx52p0, cx52, bx52p0, R52_0, R52_1⟩ := bx52
          rw [eh52, eg52] at g52 on52
          rw [eg52] at fx52p0
          have hkm := hkm.call g52 (by decide)
          have hon := hon.trans on52
          have f_p0_1 := g52 _ _ _ _ f_p0_1 (by decide)
          have obx52p0 := iv_o bx52p0
          have ocx52 := iv_o cx52
          refine lv_if_eq (tgt := 60) hx hb dX12_wordHere_55 (by decide) (fun c55 => ?_) (fun c55 => ?_)
          · have oc55 := congrArg Int32.toInt c55
            have r55tp : iv x52 0 0 := (iv_both cx52 (iv_eq (show iv 0 0 0 from ⟨by decide, by decide⟩) c55)).mono (by decide) (by decide)
            have or55tp := iv_o r55tp
            refine lv_aload_n hx hb dX12_wordHere_60 rfl (lv_at hl 0 rfl) ?_
            refine lv_ldc2 (v := 7169396) hx hb hown K141 dX12_wordHere_61 ?_
            refine hp_callei (va_runV (As := [.long 7169396]) (rest := []) ⟨hx, hb, hml, hown, hts⟩ (sX12_isWord l D T ap0 7169396 x52p0 xp101 A Gm Tp ip0 bx52p0 bp101) (cwV 1 hts gX12_wordHere_X12_isWord rfl rfl rfl (by decide +kernel) ⟨Nat.le_of_ble_eq_true rfl, Nat.le_of_ble_eq_true rfl⟩) (hp_preV hG hw hp0 rfl ⟨fx52p0, f_p0_1⟩) rfl rfl hl.1 rfl (lv_room (Nat.le_of_ble_eq_true rfl)) dX12_wordHere_64 ⟨Nat.zero_le _, Nat.zero_le _⟩) hw (fun x64 st64 t64 H64 locs64 eh64 eg64 bx64 hw => ?_)
            obtain ⟨x64p0, g64, on64, fx64p0, cx64, bx64p0, R64_0, R64_1⟩ := bx64
            rw [eh64, eg64] at g64 on64
            rw [eg64] at fx64p0
            have hkm := hkm.call g64 (by decide)
            have hon := hon.trans on64
            have f_p0_1 := g64 _ _ _ _ f_p0_1 (by decide)
            have obx64p0 := iv_o bx64p0
            have ocx64 := iv_o cx64
            refine lv_if_eq (tgt := 72) hx hb dX12_wordHere_67 (by decide) (fun c67 => ?_) (fun c67 => ?_)
            · have oc67 := congrArg Int32.toInt c67
              have r67tp : iv x64 0 0 := (iv_both cx64 (iv_eq (show iv 0 0 0 from ⟨by decide, by decide⟩) c67)).mono (by decide) (by decide)
              have or67tp := iv_o r67tp
              refine lv_aload_n hx hb dX12_wordHere_72 rfl (lv_at hl 0 rfl) ?_
              refine lv_ldc2 (v := 7039342) hx hb hown K143 dX12_wordHere_73 ?_
              refine hp_callei (va_runV (As := [.long 7039342]) (rest := []) ⟨hx, hb, hml, hown, hts⟩ (sX12_isWord l D T ap0 7039342 x64p0 xp101 A Gm Tp ip0 bx64p0 bp101) (cwV 1 hts gX12_wordHere_X12_isWord rfl rfl rfl (by decide +kernel) ⟨Nat.le_of_ble_eq_true rfl, Nat.le_of_ble_eq_true rfl⟩) (hp_preV hG hw hp0 rfl ⟨fx64p0, f_p0_1⟩) rfl rfl hl.1 rfl (lv_room (Nat.le_of_ble_eq_true rfl)) dX12_wordHere_76 ⟨Nat.zero_le _, Nat.zero_le _⟩) hw (fun x76 st76 t76 H76 locs76 eh76 eg76 bx76 hw => ?_)
              obtain ⟨x76p0, g76, on76, fx76p0, cx76, bx76p0, R76_0, R76_1⟩ := bx76
              rw [eh76, eg76] at g76 on76
              rw [eg76] at fx76p0
              have hkm := hkm.call g76 (by decide)
              have hon := hon.trans on76
              have f_p0_1 := g76 _ _ _ _ f_p0_1 (by decide)
              have obx76p0 := iv_o bx76p0
              have ocx76 := iv_o cx76
              refine lv_if_eq (tgt := 85) hx hb dX12_wordHere_79 (by decide) (fun c79 => ?_) (fun c79 => ?_)
              · have oc79 := congrArg Int32.toInt c79
                have r79tp : iv x76 0 0 := (iv_both cx76 (iv_eq (show iv 0 0 0 from ⟨by decide, by decide⟩) c79)).mono (by decide) (by decide)
                have or79tp := iv_o r79tp
                refine lv_aload_n hx hb dX12_wordHere_85 rfl (lv_at hl 0 rfl) ?_
                refine lv_ldc2 (v := 1818584692) hx hb hown K145 dX12_wordHere_86 ?_
                refine hp_callei (va_runV (As := [.long 1818584692]) (rest := []) ⟨hx, hb, hml, hown, hts⟩ (sX12_isWord l D T ap0 1818584692 x76p0 xp101 A Gm Tp ip0 bx76p0 bp101) (cwV 1 hts gX12_wordHere_X12_isWord rfl rfl rfl (by decide +kernel) ⟨Nat.le_of_ble_eq_true rfl, Nat.le_of_ble_eq_true rfl⟩) (hp_preV hG hw hp0 rfl ⟨fx76p0, f_p0_1⟩) rfl rfl hl.1 rfl (lv_room (Nat.le_of_ble_eq_true rfl)) dX12_wordHere_89 ⟨Nat.zero_le _, Nat.zero_le _⟩) hw (fun x89 st89 t89 H89 locs89 eh89 eg89 bx89 hw => ?_)
                obtain ⟨x89p0, g89, on89, fx89p0, cx89, bx89p0, R89_0, R89_1⟩ := bx89
                rw [eh89, eg89] at g89 on89
                rw [eg89] at fx89p0
                have hkm := hkm.call g89 (by decide)
                have hon := hon.trans on89
                have f_p0_1 := g89 _ _ _ _ f_p0_1 (by decide)
                have obx89p0 := iv_o bx89p0
                have ocx89 := iv_o cx89
                refine lv_if_eq (tgt := 98) hx hb dX12_wordHere_92 (by decide) (fun c92 => ?_) (fun c92 => ?_)
                · have oc92 := congrArg Int32.toInt c92
                  have r92tp : iv x89 0 0 := (iv_both cx89 (iv_eq (show iv 0 0 0 from ⟨by decide, by decide⟩) c92)).mono (by decide) (by decide)
                  have or92tp := iv_o r92tp
                  refine lv_aload_n hx hb dX12_wordHere_98 rfl (lv_at hl 0 rfl) ?_
                  refine lv_ldc2 (v := 113715424159091) hx hb hown K147 dX12_wordHere_99 ?_
                  refine hp_callei (va_runV (As := [.long 113715424159091]) (rest := []) ⟨hx, hb, hml, hown, hts⟩ (sX12_isWord l D T ap0 113715424159091 x89p0 xp101 A Gm Tp ip0 bx89p0 bp101) (cwV 1 hts gX12_wordHere_X12_isWord rfl rfl rfl (by decide +kernel) ⟨Nat.le_of_ble_eq_true rfl, Nat.le_of_ble_eq_true rfl⟩) (hp_preV hG hw hp0 rfl ⟨fx89p0, f_p0_1⟩) rfl rfl hl.1 rfl (lv_room (Nat.le_of_ble_eq_true rfl)) dX12_wordHere_102 ⟨Nat.zero_le _, Nat.zero_le _⟩) hw (fun x102 st102 t102 H102 locs102 eh102 eg102 bx102 hw => ?_)
                  obtain ⟨x102p0, g102, on102, fx102p0, cx102, bx102p0, R102_0, R102_1⟩ := bx102
                  rw [eh102, eg102] at g102 on102
                  rw [eg102] at fx102p0
                  have hkm := hkm.call g102 (by decide)
                  have hon := hon.trans on102
                  have f_p0_1 := g102 _ _ _ _ f_p0_1 (by decide)
                  have obx102p0 := iv_o bx102p0
                  have ocx102 := iv_o cx102
                  refine lv_if_eq (tgt := 111) hx hb dX12_wordHere_105 (by decide) (fun c105 => ?_) (fun c105 => ?_)
                  · have oc105 := congrArg Int32.toInt c105
                    have r105tp : iv x102 0 0 := (iv_both cx102 (iv_eq (show iv 0 0 0 from ⟨by decide, by decide⟩) c105)).mono (by decide) (by decide)
                    have or105tp := iv_o r105tp
                    refine lv_aload_n hx hb dX12_wordHere_111 rfl (lv_at hl 0 rfl) ?_
                    refine lv_ldc2 (v := 7163091121595377006) hx hb hown K149 dX12_wordHere_112 ?_
                    refine hp_callei (va_runV (As := [.long 7163091121595377006]) (rest := []) ⟨hx, hb, hml, hown, hts⟩ (sX12_isWord l D T ap0 7163091121595377006 x102p0 xp101 A Gm Tp ip0 bx102p0 bp101) (cwV 1 hts gX12_wordHere_X12_isWord rfl rfl rfl (by decide +kernel) ⟨Nat.le_of_ble_eq_true rfl, Nat.le_of_ble_eq_true rfl⟩) (hp_preV hG hw hp0 rfl ⟨fx102p0, f_p0_1⟩) rfl rfl hl.1 rfl (lv_room (Nat.le_of_ble_eq_true rfl)) dX12_wordHere_115 ⟨Nat.zero_le _, Nat.zero_le _⟩) hw (fun x115 st115 t115 H115 locs115 eh115 eg115 bx115 hw => ?_)
                    obtain ⟨x115p0, g115, on115, fx115p0, cx115, bx115p0, R115_0, R115_1⟩ := bx115
                    rw [eh115, eg115] at g115 on115
                    rw [eg115] at fx115p0
                    have hkm := hkm.call g115 (by decide)
                    have hon := hon.trans on115
                    have f_p0_1 := g115 _ _ _ _ f_p0_1 (by decide)
                    have obx115p0 := iv_o bx115p0
                    have ocx115 := iv_o cx115
                    refine lv_if_eq (tgt := 126) hx hb dX12_wordHere_118 (by decide) (fun c118 => ?_) (fun c118 => ?_)
                    · have oc118 := congrArg Int32.toInt c118
                      have r118tp : iv x115 0 0 := (iv_both cx115 (iv_eq (show iv 0 0 0 from ⟨by decide, by decide⟩) c118)).mono (by decide) (by decide)
                      have or118tp := iv_o r118tp
                      refine lv_aload_n hx hb dX12_wordHere_126 rfl (lv_at hl 0 rfl) ?_
                      refine lv_ldc2 (v := 427121669988) hx hb hown K151 dX12_wordHere_127 ?_
                      refine hp_callei (va_runV (As := [.long 427121669988]) (rest := []) ⟨hx, hb, hml, hown, hts⟩ (sX12_isWord l D T ap0 427121669988 x115p0 xp101 A Gm Tp ip0 bx115p0 bp101) (cwV 1 hts gX12_wordHere_X12_isWord rfl rfl rfl (by decide +kernel) ⟨Nat.le_of_ble_eq_true rfl, Nat.le_of_ble_eq_true rfl⟩) (hp_preV hG hw hp0 rfl ⟨fx115p0, f_p0_1⟩) rfl rfl hl.1 rfl (lv_room (Nat.le_of_ble_eq_true rfl)) dX12_wordHere_130 ⟨Nat.zero_le _, Nat.zero_le _⟩) hw (fun x130 st130 t130 H130 locs130 eh130 eg130 bx130 hw => ?_)
                      obtain ⟨x130p0, g130, on130, fx130p0, cx130, bx130p0, R130_0, R130_1⟩ := bx130
                      rw [eh130, eg130] at g130 on130
                      rw [eg130] at fx130p0
                      have hkm := hkm.call g130 (by decide)
                      have hon := hon.trans on130
                      have f_p0_1 := g130 _ _ _ _ f_p0_1 (by decide)
                      have obx130p0 := iv_o bx130p0
                      have ocx130 := iv_o cx130
                      refine lv_if_eq (tgt := 141) hx hb dX12_wordHere_133 (by decide) (fun c133 => ?_) (fun c133 => ?_)
                      · have oc133 := congrArg Int32.toInt c133
                        have r133tp : iv x130 0 0 := (iv_both cx130 (iv_eq (show iv 0 0 0 from ⟨by decide, by decide⟩) c133)).mono (by decide) (by decide)
                        have or133tp := iv_o r133tp
                        refine lv_iconst (v := (-1)) hx hb dX12_wordHere_141 (by decide) ?_
                        exact W.iret (v := (-1)) hx hb hr (fun t ht hW => ⟨some (.int (-1)), rfl, ⟨((-1) : Int32), rfl, ⟨x130p0, by rw [ht]; exact hkm, by rw [ht]; exact hon, by rw [ht]; exact fx130p0, (show iv (-1) (-1) 10 from ⟨by decide, by decide⟩), bx130p0, (by intros; omega), (fun h9 => absurd h9 (by omega))⟩⟩, by rw [ht]; exact hw.1, hw.2.F ht⟩) hw.2.2.2 dX12_wordHere_142
                      · have oc133 := iv_neq c133
                        have r133fp : iv x130 1 1 := (iv_ne_lo c133 cx130 rfl).mono (by decide) (by decide)
                        have or133fp := iv_o r133fp
                        refine lv_bipush (v := 10) hx hb dX12_wordHere_136 (by decide) ?_
                        refine lv_goto (tgt := 142) hx hb dX12_wordHere_138 (by decide) ?_
                        exact W.iret (v := 10) hx hb hr (fun t ht hW => ⟨some (.int 10), rfl, ⟨(10 : Int32), rfl, ⟨x130p0, by rw [ht]; exact hkm, by rw [ht]; exact hon, by rw [ht]; exact fx130p0, (show iv 10 (-1) 10 from ⟨by decide, by decide⟩), bx130p0, (by intros; omega), (fun _ => R130_1 (by omega))⟩⟩, by rw [ht]; exact hw.1, hw.2.F ht⟩) hw.2.2.2 dX12_wordHere_142
                    · have oc118 := iv_neq c118
                      have r118fp : iv x115 1 1 := (iv_ne_lo c118 cx115 rfl).mono (by decide) (by decide)
                      have or118fp := iv_o r118fp
                      refine lv_bipush (v := 9) hx hb dX12_wordHere_121 (by decide) ?_
                      refine lv_goto (tgt := 142) hx hb dX12_wordHere_123 (by decide) ?_
                      exact W.iret (v := 9) hx hb hr (fun t ht hW => ⟨some (.int 9), rfl, ⟨(9 : Int32), rfl, ⟨x115p0, by rw [ht]; exact hkm, by rw [ht]; exact hon, by rw [ht]; exact fx115p0, (show iv 9 (-1) 10 from ⟨by decide, by decide⟩), bx115p0, (by intros; omega), (fun _ => R115_1 (by omega))⟩⟩, by rw [ht]; exact hw.1, hw.2.F ht⟩) hw.2.2.2 dX12_wordHere_142
                  · have oc105 := iv_neq c105
                    have r105fp : iv x102 1 1 := (iv_ne_lo c105 cx102 rfl).mono (by decide) (by decide)
                    have or105fp := iv_o r105fp
                    refine lv_bipush (v := 8) hx hb dX12_wordHere_108 (by decide) ?_
                    exact W.iret (v := 8) hx hb hr (fun t ht hW => ⟨some (.int 8), rfl, ⟨(8 : Int32), rfl, ⟨x102p0, by rw [ht]; exact hkm, by rw [ht]; exact hon, by rw [ht]; exact fx102p0, (show iv 8 (-1) 10 from ⟨by decide, by decide⟩), bx102p0, (by intros; omega), (fun _ => R102_1 (by omega))⟩⟩, by rw [ht]; exact hw.1, hw.2.F ht⟩) hw.2.2.2 dX12_wordHere_110
                · have oc92 := iv_neq c92
                  have r92fp : iv x89 1 1 := (iv_ne_lo c92 cx89 rfl).mono (by decide) (by decide)
                  have or92fp := iv_o r92fp
                  refine lv_bipush (v := 7) hx hb dX12_wordHere_95 (by decide) ?_
                  exact W.iret (v := 7) hx hb hr (fun t ht hW => ⟨some (.int 7), rfl, ⟨(7 : Int32), rfl, ⟨x89p0, by rw [ht]; exact hkm, by rw [ht]; exact hon, by rw [ht]; exact fx89p0, (show iv 7 (-1) 10 from ⟨by decide, by decide⟩), bx89p0, (by intros; omega), (fun _ => R89_1 (by omega))⟩⟩, by rw [ht]; exact hw.1, hw.2.F ht⟩) hw.2.2.2 dX12_wordHere_97
              · have oc79 := iv_neq c79
                have r79fp : iv x76 1 1 := (iv_ne_lo c79 cx76 rfl).mono (by decide) (by decide)
                have or79fp := iv_o r79fp
                refine lv_bipush (v := 6) hx hb dX12_wordHere_82 (by decide) ?_
                exact W.iret (v := 6) hx hb hr (fun t ht hW => ⟨some (.int 6), rfl, ⟨(6 : Int32), rfl, ⟨x76p0, by rw [ht]; exact hkm, by rw [ht]; exact hon, by rw [ht]; exact fx76p0, (show iv 6 (-1) 10 from ⟨by decide, by decide⟩), bx76p0, (by intros; omega), (fun _ => R76_1 (by omega))⟩⟩, by rw [ht]; exact hw.1, hw.2.F ht⟩) hw.2.2.2 dX12_wordHere_84
            · have oc67 := iv_neq c67
              have r67fp : iv x64 1 1 := (iv_ne_lo c67 cx64 rfl).mono (by decide) (by decide)
              have or67fp := iv_o r67fp
              refine lv_iconst (v := 5) hx hb dX12_wordHere_70 (by decide) ?_
              exact W.iret (v := 5) hx hb hr (fun t ht hW => ⟨some (.int 5), rfl, ⟨(5 : Int32), rfl, ⟨x64p0, by rw [ht]; exact hkm, by rw [ht]; exact hon, by rw [ht]; exact fx64p0, (show iv 5 (-1) 10 from ⟨by decide, by decide⟩), bx64p0, (by intros; omega), (fun _ => R64_1 (by omega))⟩⟩, by rw [ht]; exact hw.1, hw.2.F ht⟩) hw.2.2.2 dX12_wordHere_71
          · have oc55 := iv_neq c55
            have r55fp : iv x52 1 1 := (iv_ne_lo c55 cx52 rfl).mono (by decide) (by decide)
            have or55fp := iv_o r55fp
            refine lv_iconst (v := 4) hx hb dX12_wordHere_58 (by decide) ?_
            exact W.iret (v := 4) hx hb hr (fun t ht hW => ⟨some (.int 4), rfl, ⟨(4 : Int32), rfl, ⟨x52p0, by rw [ht]; exact hkm, by rw [ht]; exact hon, by rw [ht]; exact fx52p0, (show iv 4 (-1) 10 from ⟨by decide, by decide⟩), bx52p0, (by intros; omega), (fun _ => R52_1 (by omega))⟩⟩, by rw [ht]; exact hw.1, hw.2.F ht⟩) hw.2.2.2 dX12_wordHere_59
        · have oc43 := iv_neq c43
          have r43fp : iv x40 1 1 := (iv_ne_lo c43 cx40 rfl).mono (by decide) (by decide)
          have or43fp := iv_o r43fp
          refine lv_iconst (v := 3) hx hb dX12_wordHere_46 (by decide) ?_
          exact W.iret (v := 3) hx hb hr (fun t ht hW => ⟨some (.int 3), rfl, ⟨(3 : Int32), rfl, ⟨x40p0, by rw [ht]; exact hkm, by rw [ht]; exact hon, by rw [ht]; exact fx40p0, (show iv 3 (-1) 10 from ⟨by decide, by decide⟩), bx40p0, (by intros; omega), (fun _ => R40_1 (by omega))⟩⟩, by rw [ht]; exact hw.1, hw.2.F ht⟩) hw.2.2.2 dX12_wordHere_47
      · have oc31 := iv_neq c31
        have r31fp : iv x28 1 1 := (iv_ne_lo c31 cx28 rfl).mono (by decide) (by decide)
        have or31fp := iv_o r31fp
        refine lv_iconst (v := 2) hx hb dX12_wordHere_34 (by decide) ?_
        exact W.iret (v := 2) hx hb hr (fun t ht hW => ⟨some (.int 2), rfl, ⟨(2 : Int32), rfl, ⟨x28p0, by rw [ht]; exact hkm, by rw [ht]; exact hon, by rw [ht]; exact fx28p0, (show iv 2 (-1) 10 from ⟨by decide, by decide⟩), bx28p0, (by intros; omega), (fun _ => R28_1 (by omega))⟩⟩, by rw [ht]; exact hw.1, hw.2.F ht⟩) hw.2.2.2 dX12_wordHere_35
    · have oc19 := iv_neq c19
      have r19fp : iv x16 1 1 := (iv_ne_lo c19 cx16 rfl).mono (by decide) (by decide)
      have or19fp := iv_o r19fp
      refine lv_iconst (v := 1) hx hb dX12_wordHere_22 (by decide) ?_
      exact W.iret (v := 1) hx hb hr (fun t ht hW => ⟨some (.int 1), rfl, ⟨(1 : Int32), rfl, ⟨x16p0, by rw [ht]; exact hkm, by rw [ht]; exact hon, by rw [ht]; exact fx16p0, (show iv 1 (-1) 10 from ⟨by decide, by decide⟩), bx16p0, (by intros; omega), (fun _ => R16_1 (by omega))⟩⟩, by rw [ht]; exact hw.1, hw.2.F ht⟩) hw.2.2.2 dX12_wordHere_23
  · have oc7 := iv_neq c7
    have r7fp : iv x4 1 1 := (iv_ne_lo c7 cx4 rfl).mono (by decide) (by decide)
    have or7fp := iv_o r7fp
    refine lv_iconst (v := 0) hx hb dX12_wordHere_10 (by decide) ?_
    exact W.iret (v := 0) hx hb hr (fun t ht hW => ⟨some (.int 0), rfl, ⟨(0 : Int32), rfl, ⟨x4p0, by rw [ht]; exact hkm, by rw [ht]; exact hon, by rw [ht]; exact fx4p0, (show iv 0 (-1) 10 from ⟨by decide, by decide⟩), bx4p0, (by intros; omega), (fun _ => R4_1 (by omega))⟩⟩, by rw [ht]; exact hw.1, hw.2.F ht⟩) hw.2.2.2 dX12_wordHere_11
abbrev WX12_makes (p : Program) (l : Launch) (e : Env) (s : State) (m : MethodId) (below : List Frame) (meth : Method) (c : Code) (D : hp_D) (T : hp_T) (ap0 : Nat) (xp1 : Int32) (xp100 : Int32) (A : Nat → Nat) (Tp : Nat → Value) (H : Heap) (locs : List Loc) (g : JFrame) : Prop := W p l e (headSpec wsX12_makes ({ frames := 1, cells := 0, slots := 0, locals := 22 })).room s m ([.ref ap0, .int xp1] : List Value).toArray below meth c H locs 0 0 (MQ below (hq_e D T (fun v st t => ∃ r : Int32, v = some (.int r) ∧ ((∃ y0 : Int32, hp_km D [(12, 9), (12, 12)] st.heap t.heap ∧ hp_on (fun q => q = ap0) st.heap t.heap ∧ hp_f D t.heap ap0 12 12 (.int y0) ∧ iv r 0 1 ∧ iv y0 0 60 ∧ (¬ r.toInt = 0 → y0.toInt = xp100.toInt + 1) ∧ (r.toInt = 0 → y0.toInt = xp100.toInt))))) ([.ref ap0, .int xp1] : List Value).toArray s 0 0 (hp_F T)) g
set_option maxHeartbeats 4000000 in
set_option maxRecDepth 100000 in
theorem sX12_makes (l : Launch) (D : hp_D) (T : hp_T) (ap0 : Nat) (xp1 : Int32) (xp100 : Int32) (A : Nat → Nat) (Gm : moG) (Tp : Nat → Value) (ip0 : isMp T ap0 A Gm Tp) (bp100 : iv xp100 0 60) : Met l yX12_makes wsX12_makes ({ frames := 1, cells := 0, slots := 0, locals := 22 }) (hp_Pc D T [.ref ap0, .int xp1] (fun H => hp_f D H ap0 12 12 (.int xp100))) (hq_e D T (fun v st t => ∃ r : Int32, v = some (.int r) ∧ ((∃ y0 : Int32, hp_km D [(12, 9), (12, 12)] st.heap t.heap ∧ hp_on (fun q => q = ap0) st.heap t.heap ∧ hp_f D t.heap ap0 12 12 (.int y0) ∧ iv r 0 1 ∧ iv y0 0 60 ∧ (¬ r.toInt = 0 → y0.toInt = xp100.toInt + 1) ∧ (r.toInt = 0 → y0.toInt = xp100.toInt))))) 0 0 (hp_F T) := by
  obtain ⟨gok, tpok, hp0, hp0tape, hp0sign, hp0len, hp0clause, hp0clauses, hp0read, hp0opn, hp0stack, hp0word, hp0said, hp0was, hp0fitting, hp0sums, hp0sort, hp0sumsBy, hp0oneOf, hp0otherOf, hp0kept, hp0images, hp0acts, hp0iUnd, hp0iFor, hp0iX, hp0made⟩ := id ip0
  have hpx := gok.1
  have gsok := gok.2.2.2.2
  have ggd := gok.2.2.2.1
  refine Met.ofW (cc := cX12_makes) (maxL := 2) (ret := (some .boolean)) (by decide) rfl ?_
  intro p e s m args below meth c s₁ B hml hv
  obtain ⟨rfl, hok, hG, hB⟩ := hv
  have hx := B.exec
  have hb := B.bytes
  have hr := B.returns
  have hts := atoms_spec (ws := wsX12_makes) B.pre
  have hown : s.vm.findClass RX12 = some m.cls := findClass_of_methodNamed B.named
  have hlocks := B.notSynchronized
  have hK := hG.1
  have hw : hp_w D T s s.heap [] := hp_w.rf hok
  have IX12 : ∀ w ∈ wsX120, w ∈ wsX12_makes := by decide +kernel
  have L156 := hts (.fieldLink RX12 156 "PalmCensusModel" "made" "I") (by decide +kernel)
  have hon : hp_on (fun q => q = ap0) s.heap s.heap := fun _ _ => rfl
  have k0 : (0 : Int32).toInt = 0 := (by decide)
  have k1 : (1 : Int32).toInt = 1 := (by decide)
  have k3 : (3 : Int32).toInt = 3 := (by decide)
  have k60 : (60 : Int32).toInt = 60 := (by decide)
  have obp100 := iv_o bp100
  have hkm : hp_km D [(12, 9), (12, 12)] s.heap s.heap := fun _ _ _ _ h _ => h
  have hl := lv_entry ([.ref ap0, .int xp1]) (n := 2) (Nat.le_of_ble_eq_true rfl)
  rw [lg_entry_eq]
  generalize (lg_sl ([.ref ap0, .int xp1]) ++ List.replicate (2 - (lg_sl ([.ref ap0, .int xp1])).length) Slot.unset).toArray = ls at hl ⊢
  have hl : lv_has ls 2 [(0, .ref ap0), (1, .int xp1)] := hl
  show WX12_makes p l e s m below meth c D T ap0 xp1 xp100 A Tp s.heap [] (F0 m 0 ls [])
  have obp100 := iv_o bp100
  refine lv_aload_n hx hb dX12_makes_0 rfl (lv_at hl 0 rfl) ?_
  refine hp_getf hx hb hts IX12 hown hK hB rfl (by decide) L156 dX12_makes_1 ?_
  refine lv_bipush (v := 60) hx hb dX12_makes_4 (by decide) ?_
  refine lv_icmp_ne (tgt := 16) hx hb dX12_makes_6 (by decide) (fun c6 => ?_) (fun c6 => ?_)
  · have oc6 := iv_neq c6
    have r6tp : iv xp100 0 59 := (iv_ne_hi c6 bp100 rfl).mono (by decide) (by decide)
    have or6tp := iv_o r6tp
    refine lv_aload_n hx hb dX12_makes_16 rfl (lv_at hl 0 rfl) ?_
    refine lv_dup hx hb dX12_makes_17 rfl ?_
    refine hp_getf hx hb hts IX12 hown hK hB rfl (by decide) L156 dX12_makes_18 ?_
    refine lv_iconst (v := 1) hx hb dX12_makes_21 (by decide) ?_
    refine lv_iadd hx hb dX12_makes_22 ?_
    refine lv_topi (fun x22 ex22 => ?_)
    have bx22 : iv x22 1 60 := iv_add r6tp (show iv 1 1 1 from ⟨by decide, by decide⟩) ex22 (by decide)
    have obx22 := iv_o bx22
    have qx22 := iv_add_eq r6tp (show iv 1 1 1 from ⟨by decide, by decide⟩) ex22 (by decide)
    refine hp_putE hx hb hts IX12 tyX12 tyX12_ok nmX12 hown hK hw hp0 rfl 12 (by decide) L156 rfl rfl ⟨_, rfl⟩ rfl rfl dX12_makes_23 (fun H23 locs23 hw f23n g23 on23 => ?_)
    have hon := hon.trans (show hp_on (fun q => q = ap0) _ _ from on23)
    have hkm := hkm.put g23 (by decide)
    refine lv_iconst (v := 1) hx hb dX12_makes_26 (by decide) ?_
    exact W.zret (v := 1) hx hb hr (iv_nz (show iv 1 0 1 from ⟨by decide, by decide⟩)) (fun t ht hW => ⟨some (.int 1), rfl, ⟨(1 : Int32), rfl, ⟨x22, by rw [ht]; exact hkm, by rw [ht]; exact hon, by rw [ht]; exact f23n, (show iv 1 0 1 from ⟨by decide, by decide⟩), (bx22.mono (by decide) (by decide)), (by intros; omega), (by intros; omega)⟩⟩, by rw [ht]; exact hw.1, hw.2.F ht⟩) hw.2.2.2 dX12_makes_27
  · have oc6 := congrArg Int32.toInt c6
    have r6fp : iv xp100 60 60 := (iv_both bp100 (iv_eq (show iv 60 60 60 from ⟨by decide, by decide⟩) c6)).mono (by decide) (by decide)
    have or6fp := iv_o r6fp
    refine lv_aload_n hx hb dX12_makes_9 rfl (lv_at hl 0 rfl) ?_
    refine lv_iconst (v := 3) hx hb dX12_makes_10 (by decide) ?_
    refine lv_iload_n hx hb dX12_makes_11 rfl (lv_at hl 1 rfl) ?_
    refine hp_callei (va_runV (As := [.int 3, .int xp1]) (rest := []) ⟨hx, hb, hml, hown, hts⟩ (sX12_fails l D T ap0 (3 : Int32) xp1 A Gm Tp ip0) (cwV 2 hts gX12_makes_X12_fails rfl rfl rfl (by decide +kernel) ⟨Nat.le_of_ble_eq_true rfl, Nat.le_of_ble_eq_true rfl⟩) (hp_preV hG hw hp0 rfl trivial) rfl rfl hl.1 rfl (lv_room (Nat.le_of_ble_eq_true rfl)) dX12_makes_12 ⟨Nat.zero_le _, Nat.zero_le _⟩) hw (fun x12 st12 t12 H12 locs12 eh12 eg12 bx12 hw => ?_)
    obtain ⟨g12, on12, cx12⟩ := bx12
    rw [eh12, eg12] at g12 on12
    have hkm := hkm.call g12 (by decide)
    have hon := hon.trans on12
    have f_p0_12 := g12 _ _ _ _ hB (by decide)
    have ocx12 := iv_o cx12
    exact W.zret (v := x12) hx hb hr (iv_nz (cx12.mono (by decide) (by decide))) (fun t ht hW => ⟨some (.int x12), rfl, ⟨x12, rfl, ⟨xp100, by rw [ht]; exact hkm, by rw [ht]; exact hon, by rw [ht]; exact f_p0_12, (cx12.mono (by decide) (by decide)), (r6fp.mono (by decide) (by decide)), (by intros; omega), (by intros; omega)⟩⟩, by rw [ht]; exact hw.1, hw.2.F ht⟩) hw.2.2.2 dX12_makes_15
abbrev WX12_isTownWord (p : Program) (l : Launch) (e : Env) (s : State) (m : MethodId) (below : List Frame) (meth : Method) (c : Code) (D : hp_D) (T : hp_T) (ap0 : Nat) (xp100 : Int32) (xp101 : Int32) (A : Nat → Nat) (Tp : Nat → Value) (H : Heap) (locs : List Loc) (g : JFrame) : Prop := W p l e (headSpec wsX12_isTownWord ({ frames := 2, cells := 0, slots := 0, locals := 46 })).room s m ([.ref ap0] : List Value).toArray below meth c H locs 0 0 (MQ below (hq_e D T (fun v st t => ∃ r : Int32, v = some (.int r) ∧ ((∃ y0 : Int32, hp_km D [(12, 8)] st.heap t.heap ∧ hp_on (fun q => q = ap0) st.heap t.heap ∧ hp_f D t.heap ap0 12 8 (.int y0) ∧ iv r 0 1 ∧ iv y0 0 400 ∧ (xp100.toInt ≤ y0.toInt))))) ([.ref ap0] : List Value).toArray s 0 0 (hp_F T)) g
set_option maxHeartbeats 4000000 in
set_option maxRecDepth 100000 in
theorem sX12_isTownWord (l : Launch) (D : hp_D) (T : hp_T) (ap0 : Nat) (xp100 : Int32) (xp101 : Int32) (A : Nat → Nat) (Gm : moG) (Tp : Nat → Value) (ip0 : isMp T ap0 A Gm Tp) (bp100 : iv xp100 0 400) (bp101 : iv xp101 0 400) : Met l yX12_isTownWord wsX12_isTownWord ({ frames := 2, cells := 0, slots := 0, locals := 46 }) (hp_Pc D T [.ref ap0] (fun H => hp_f D H ap0 12 8 (.int xp100) ∧ hp_f D H ap0 12 1 (.int xp101))) (hq_e D T (fun v st t => ∃ r : Int32, v = some (.int r) ∧ ((∃ y0 : Int32, hp_km D [(12, 8)] st.heap t.heap ∧ hp_on (fun q => q = ap0) st.heap t.heap ∧ hp_f D t.heap ap0 12 8 (.int y0) ∧ iv r 0 1 ∧ iv y0 0 400 ∧ (xp100.toInt ≤ y0.toInt))))) 0 0 (hp_F T) := by
  obtain ⟨gok, tpok, hp0, hp0tape, hp0sign, hp0len, hp0clause, hp0clauses, hp0read, hp0opn, hp0stack, hp0word, hp0said, hp0was, hp0fitting, hp0sums, hp0sort, hp0sumsBy, hp0oneOf, hp0otherOf, hp0kept, hp0images, hp0acts, hp0iUnd, hp0iFor, hp0iX, hp0made⟩ := id ip0
  have hpx := gok.1
  have gsok := gok.2.2.2.2
  have ggd := gok.2.2.2.1
  refine Met.ofW (cc := cX12_isTownWord) (maxL := 1) (ret := (some .boolean)) (by decide) rfl ?_
  intro p e s m args below meth c s₁ B hml hv
  obtain ⟨rfl, hok, hG, hB⟩ := hv
  have hx := B.exec
  have hb := B.bytes
  have hr := B.returns
  have hts := atoms_spec (ws := wsX12_isTownWord) B.pre
  have hown : s.vm.findClass RX12 = some m.cls := findClass_of_methodNamed B.named
  have hlocks := B.notSynchronized
  have hK := hG.1
  have hw : hp_w D T s s.heap [] := hp_w.rf hok
  have K225 := hts (.constantLong RX12 225 1953462126) (by decide +kernel)
  have K230 := hts (.constantLong RX12 230 123581014175598) (by decide +kernel)
  have K145 := hts (.constantLong RX12 145 1818584692) (by decide +kernel)
  have K238 := hts (.constantLong RX12 238 113715424159076) (by decide +kernel)
  have K240 := hts (.constantLong RX12 240 426953501796) (by decide +kernel)
  have K143 := hts (.constantLong RX12 143 7039342) (by decide +kernel)
  have K248 := hts (.constantLong RX12 248 27988572849333618) (by decide +kernel)
  have hon : hp_on (fun q => q = ap0) s.heap s.heap := fun _ _ => rfl
  have k0 : (0 : Int32).toInt = 0 := (by decide)
  have k1 : (1 : Int32).toInt = 1 := (by decide)
  have obp100 := iv_o bp100
  have obp101 := iv_o bp101
  have hkm : hp_km D [(12, 8)] s.heap s.heap := fun _ _ _ _ h _ => h
  have hl := lv_entry ([.ref ap0]) (n := 1) (Nat.le_of_ble_eq_true rfl)
  rw [lg_entry_eq]
  generalize (lg_sl ([.ref ap0]) ++ List.replicate (1 - (lg_sl ([.ref ap0])).length) Slot.unset).toArray = ls at hl ⊢
  have hl : lv_has ls 1 [(0, .ref ap0)] := hl
  show WX12_isTownWord p l e s m below meth c D T ap0 xp100 xp101 A Tp s.heap [] (F0 m 0 ls [])
  have obp100 := iv_o bp100
  have obp101 := iv_o bp101
  refine lv_aload_n hx hb dX12_isTownWord_0 rfl (lv_at hl 0 rfl) ?_
  refine lv_ldc2 (v := 1953462126) hx hb hown K225 dX12_isTownWord_1 ?_
  refine hp_callei (va_runV (As := [.long 1953462126]) (rest := []) ⟨hx, hb, hml, hown, hts⟩ (sX12_isWord l D T ap0 1953462126 xp100 xp101 A Gm Tp ip0 bp100 bp101) (cwV 1 hts gX12_isTownWord_X12_isWord rfl rfl rfl (by decide +kernel) ⟨Nat.le_of_ble_eq_true rfl, Nat.le_of_ble_eq_true rfl⟩) (hp_preV hG hw hp0 rfl ⟨hB.1, hB.2⟩) rfl rfl hl.1 rfl (lv_room (Nat.le_of_ble_eq_true rfl)) dX12_isTownWord_4 ⟨Nat.zero_le _, Nat.zero_le _⟩) hw (fun x4 st4 t4 H4 locs4 eh4 eg4 bx4 hw => ?_)
  obtain ⟨x4p0, g4, on4, fx4p0, cx4, bx4p0, R4_0, R4_1⟩ := bx4
  rw [eh4, eg4] at g4 on4
  rw [eg4] at fx4p0
  have hkm := hkm.call g4 (by decide)
  have hon := hon.trans on4
  have f_p0_1 := g4 _ _ _ _ hB.2 (by decide)
  have obx4p0 := iv_o bx4p0
  have ocx4 := iv_o cx4
  have J70 : ∀ (y70_fp0_8 : Int32), iv xp101 0 400 → iv y70_fp0_8 0 400 → (xp100.toInt ≤ y70_fp0_8.toInt) → ∀ (H : Heap) (locs : List Loc), hp_w D T s H locs → hp_km D [(12, 8)] s.heap H → hp_on (fun q => q = ap0) s.heap H → hp_f D H ap0 12 1 (.int xp101) → hp_f D H ap0 12 8 (.int y70_fp0_8) → ∀ (ls : Array Slot), lv_has ls 1 [] → WX12_isTownWord p l e s m below meth c D T ap0 xp100 xp101 A Tp H locs (F0 m 70 ls []) := by
    intro y70_fp0_8 c70_xp101 c70_y70_fp0_8 hv70_0 H70 locs70 hw hkm hon f_p0_1 f_p0_8 ls hl
    have oc70_xp101 := iv_o c70_xp101
    have oc70_y70_fp0_8 := iv_o c70_y70_fp0_8
    refine lv_iconst (v := 1) hx hb dX12_isTownWord_70 (by decide) ?_
    refine lv_goto (tgt := 75) hx hb dX12_isTownWord_71 (by decide) ?_
    exact W.zret (v := 1) hx hb hr (iv_nz (show iv 1 0 1 from ⟨by decide, by decide⟩)) (fun t ht hW => ⟨some (.int 1), rfl, ⟨(1 : Int32), rfl, ⟨y70_fp0_8, by rw [ht]; exact hkm, by rw [ht]; exact hon, by rw [ht]; exact f_p0_8, (show iv 1 0 1 from ⟨by decide, by decide⟩), c70_y70_fp0_8, (by intros; omega)⟩⟩, by rw [ht]; exact hw.1, hw.2.F ht⟩) hw.2.2.2 dX12_isTownWord_75
  refine lv_if_ne (tgt := 70) hx hb dX12_isTownWord_7 (by decide) (fun c7 => ?_) (fun c7 => ?_)
  · have oc7 := iv_neq c7
    have r7tp : iv x4 1 1 := (iv_ne_lo c7 cx4 rfl).mono (by decide) (by decide)
    have or7tp := iv_o r7tp
    exact J70 x4p0 bp101 bx4p0 (show xp100.toInt ≤ x4p0.toInt from by have := (bx4p0).1; have := (bx4p0).2; have : (0 : Int32).toInt = 0 := (by decide); omega) H4 locs4 hw hkm hon f_p0_1 fx4p0 _ (lv_sub hl [] rfl)
  · have oc7 := congrArg Int32.toInt c7
    have r7fp : iv x4 0 0 := (iv_both cx4 (iv_eq (show iv 0 0 0 from ⟨by decide, by decide⟩) c7)).mono (by decide) (by decide)
    have or7fp := iv_o r7fp
    refine lv_aload_n hx hb dX12_isTownWord_10 rfl (lv_at hl 0 rfl) ?_
    refine lv_ldc2 (v := 123581014175598) hx hb hown K230 dX12_isTownWord_11 ?_
    refine hp_callei (va_runV (As := [.long 123581014175598]) (rest := []) ⟨hx, hb, hml, hown, hts⟩ (sX12_isWord l D T ap0 123581014175598 x4p0 xp101 A Gm Tp ip0 bx4p0 bp101) (cwV 1 hts gX12_isTownWord_X12_isWord rfl rfl rfl (by decide +kernel) ⟨Nat.le_of_ble_eq_true rfl, Nat.le_of_ble_eq_true rfl⟩) (hp_preV hG hw hp0 rfl ⟨fx4p0, f_p0_1⟩) rfl rfl hl.1 rfl (lv_room (Nat.le_of_ble_eq_true rfl)) dX12_isTownWord_14 ⟨Nat.zero_le _, Nat.zero_le _⟩) hw (fun x14 st14 t14 H14 locs14 eh14 eg14 bx14 hw => ?_)
    obtain ⟨x14p0, g14, on14, fx14p0, cx14, bx14p0, R14_0, R14_1⟩ := bx14
    rw [eh14, eg14] at g14 on14
    rw [eg14] at fx14p0
    have hkm := hkm.call g14 (by decide)
    have hon := hon.trans on14
    have f_p0_1 := g14 _ _ _ _ f_p0_1 (by decide)
    have obx14p0 := iv_o bx14p0
    have ocx14 := iv_o cx14
    refine lv_if_ne (tgt := 70) hx hb dX12_isTownWord_17 (by decide) (fun c17 => ?_) (fun c17 => ?_)
    · have oc17 := iv_neq c17
      have r17tp : iv x14 1 1 := (iv_ne_lo c17 cx14 rfl).mono (by decide) (by decide)
      have or17tp := iv_o r17tp
      exact J70 x14p0 bp101 bx14p0 (show xp100.toInt ≤ x14p0.toInt from by have := (bx14p0).1; have := (bx14p0).2; have : (0 : Int32).toInt = 0 := (by decide); omega) H14 locs14 hw hkm hon f_p0_1 fx14p0 _ (lv_sub hl [] rfl)
    · have oc17 := congrArg Int32.toInt c17
      have r17fp : iv x14 0 0 := (iv_both cx14 (iv_eq (show iv 0 0 0 from ⟨by decide, by decide⟩) c17)).mono (by decide) (by decide)
      have or17fp := iv_o r17fp
      refine lv_aload_n hx hb dX12_isTownWord_20 rfl (lv_at hl 0 rfl) ?_
      refine lv_ldc2 (v := 1818584692) hx hb hown K145 dX12_isTownWord_21 ?_
      refine hp_callei (va_runV (As := [.long 1818584692]) (rest := []) ⟨hx, hb, hml, hown, hts⟩ (sX12_isWord l D T ap0 1818584692 x14p0 xp101 A Gm Tp ip0 bx14p0 bp101) (cwV 1 hts gX12_isTownWord_X12_isWord rfl rfl rfl (by decide +kernel) ⟨Nat.le_of_ble_eq_true rfl, Nat.le_of_ble_eq_true rfl⟩) (hp_preV hG hw hp0 rfl ⟨fx14p0, f_p0_1⟩) rfl rfl hl.1 rfl (lv_room (Nat.le_of_ble_eq_true rfl)) dX12_isTownWord_24 ⟨Nat.zero_le _, Nat.zero_le _⟩) hw (fun x24 st24 t24 H24 locs24 eh24 eg24 bx24 hw => ?_)
      obtain ⟨x24p0, g24, on24, fx24p0, cx24, bx24p0, R24_0, R24_1⟩ := bx24
      rw [eh24, eg24] at g24 on24
      rw [eg24] at fx24p0
      have hkm := hkm.call g24 (by decide)
      have hon := hon.trans on24
      have f_p0_1 := g24 _ _ _ _ f_p0_1 (by decide)
      have obx24p0 := iv_o bx24p0
      have ocx24 := iv_o cx24
      refine lv_if_ne (tgt := 70) hx hb dX12_isTownWord_27 (by decide) (fun c27 => ?_) (fun c27 => ?_)
      · have oc27 := iv_neq c27
        have r27tp : iv x24 1 1 := (iv_ne_lo c27 cx24 rfl).mono (by decide) (by decide)
        have or27tp := iv_o r27tp
        exact J70 x24p0 bp101 bx24p0 (show xp100.toInt ≤ x24p0.toInt from by have := (bx24p0).1; have := (bx24p0).2; have : (0 : Int32).toInt = 0 := (by decide); omega) H24 locs24 hw hkm hon f_p0_1 fx24p0 _ (lv_sub hl [] rfl)
      · have oc27 := congrArg Int32.toInt c27
        have r27fp : iv x24 0 0 := (iv_both cx24 (iv_eq (show iv 0 0 0 from ⟨by decide, by decide⟩) c27)).mono (by decide) (by decide)
        have or27fp := iv_o r27fp
        refine lv_aload_n hx hb dX12_isTownWord_30 rfl (lv_at hl 0 rfl) ?_
        refine lv_ldc2 (v := 113715424159076) hx hb hown K238 dX12_isTownWord_31 ?_
        refine hp_callei (va_runV (As := [.long 113715424159076]) (rest := []) ⟨hx, hb, hml, hown, hts⟩ (sX12_isWord l D T ap0 113715424159076 x24p0 xp101 A Gm Tp ip0 bx24p0 bp101) (cwV 1 hts gX12_isTownWord_X12_isWord rfl rfl rfl (by decide +kernel) ⟨Nat.le_of_ble_eq_true rfl, Nat.le_of_ble_eq_true rfl⟩) (hp_preV hG hw hp0 rfl ⟨fx24p0, f_p0_1⟩) rfl rfl hl.1 rfl (lv_room (Nat.le_of_ble_eq_true rfl)) dX12_isTownWord_34 ⟨Nat.zero_le _, Nat.zero_le _⟩) hw (fun x34 st34 t34 H34 locs34 eh34 eg34 bx34 hw => ?_)
        obtain ⟨x34p0, g34, on34, fx34p0, cx34, bx34p0, R34_0, R34_1⟩ := bx34
        rw [eh34, eg34] at g34 on34
        rw [eg34] at fx34p0
        have hkm := hkm.call g34 (by decide)
        have hon := hon.trans on34
        have f_p0_1 := g34 _ _ _ _ f_p0_1 (by decide)
        have obx34p0 := iv_o bx34p0
        have ocx34 := iv_o cx34
        refine lv_if_ne (tgt := 70) hx hb dX12_isTownWord_37 (by decide) (fun c37 => ?_) (fun c37 => ?_)
        · have oc37 := iv_neq c37
          have r37tp : iv x34 1 1 := (iv_ne_lo c37 cx34 rfl).mono (by decide) (by decide)
          have or37tp := iv_o r37tp
          exact J70 x34p0 bp101 bx34p0 (show xp100.toInt ≤ x34p0.toInt from by have := (bx34p0).1; have := (bx34p0).2; have : (0 : Int32).toInt = 0 := (by decide); omega) H34 locs34 hw hkm hon f_p0_1 fx34p0 _ (lv_sub hl [] rfl)
        · have oc37 := congrArg Int32.toInt c37
          have r37fp : iv x34 0 0 := (iv_both cx34 (iv_eq (show iv 0 0 0 from ⟨by decide, by decide⟩) c37)).mono (by decide) (by decide)
          have or37fp := iv_o r37fp
          refine lv_aload_n hx hb dX12_isTownWord_40 rfl (lv_at hl 0 rfl) ?_
          refine lv_ldc2 (v := 426953501796) hx hb hown K240 dX12_isTownWord_41 ?_
          refine hp_callei (va_runV (As := [.long 426953501796]) (rest := []) ⟨hx, hb, hml, hown, hts⟩ (sX12_isWord l D T ap0 426953501796 x34p0 xp101 A Gm Tp ip0 bx34p0 bp101) (cwV 1 hts gX12_isTownWord_X12_isWord rfl rfl rfl (by decide +kernel) ⟨Nat.le_of_ble_eq_true rfl, Nat.le_of_ble_eq_true rfl⟩) (hp_preV hG hw hp0 rfl ⟨fx34p0, f_p0_1⟩) rfl rfl hl.1 rfl (lv_room (Nat.le_of_ble_eq_true rfl)) dX12_isTownWord_44 ⟨Nat.zero_le _, Nat.zero_le _⟩) hw (fun x44 st44 t44 H44 locs44 eh44 eg44 bx44 hw => ?_)
          obtain ⟨x44p0, g44, on44, fx44p0, cx44, bx44p0, R44_0, R44_1⟩ := bx44
          rw [eh44, eg44] at g44 on44
          rw [eg44] at fx44p0
          have hkm := hkm.call g44 (by decide)
          have hon := hon.trans on44
          have f_p0_1 := g44 _ _ _ _ f_p0_1 (by decide)
          have obx44p0 := iv_o bx44p0
          have ocx44 := iv_o cx44
          refine lv_if_ne (tgt := 70) hx hb dX12_isTownWord_47 (by decide) (fun c47 => ?_) (fun c47 => ?_)
          · have oc47 := iv_neq c47
            have r47tp : iv x44 1 1 := (iv_ne_lo c47 cx44 rfl).mono (by decide) (by decide)
            have or47tp := iv_o r47tp
            exact J70 x44p0 bp101 bx44p0 (show xp100.toInt ≤ x44p0.toInt from by have := (bx44p0).1; have := (bx44p0).2; have : (0 : Int32).toInt = 0 := (by decide); omega) H44 locs44 hw hkm hon f_p0_1 fx44p0 _ (lv_sub hl [] rfl)
          · have oc47 := congrArg Int32.toInt c47
            have r47fp : iv x44 0 0 := (iv_both cx44 (iv_eq (show iv 0 0 0 from ⟨by decide, by decide⟩) c47)).mono (by decide) (by decide)
            have or47fp := iv_o r47fp
            refine lv_aload_n hx hb dX12_isTownWord_50 rfl (lv_at hl 0 rfl) ?_
            refine lv_ldc2 (v := 7039342) hx hb hown K143 dX12_isTownWord_51 ?_
            refine hp_callei (va_runV (As := [.long 7039342]) (rest := []) ⟨hx, hb, hml, hown, hts⟩ (sX12_isWord l D T ap0 7039342 x44p0 xp101 A Gm Tp ip0 bx44p0 bp101) (cwV 1 hts gX12_isTownWord_X12_isWord rfl rfl rfl (by decide +kernel) ⟨Nat.le_of_ble_eq_true rfl, Nat.le_of_ble_eq_true rfl⟩) (hp_preV hG hw hp0 rfl ⟨fx44p0, f_p0_1⟩) rfl rfl hl.1 rfl (lv_room (Nat.le_of_ble_eq_true rfl)) dX12_isTownWord_54 ⟨Nat.zero_le _, Nat.zero_le _⟩) hw (fun x54 st54 t54 H54 locs54 eh54 eg54 bx54 hw => ?_)
            obtain ⟨x54p0, g54, on54, fx54p0, cx54, bx54p0, R54_0, R54_1⟩ := bx54
            rw [eh54, eg54] at g54 on54
            rw [eg54] at fx54p0
            have hkm := hkm.call g54 (by decide)
            have hon := hon.trans on54
            have f_p0_1 := g54 _ _ _ _ f_p0_1 (by decide)
            have obx54p0 := iv_o bx54p0
            have ocx54 := iv_o cx54
            refine lv_if_ne (tgt := 70) hx hb dX12_isTownWord_57 (by decide) (fun c57 => ?_) (fun c57 => ?_)
            · have oc57 := iv_neq c57
              have r57tp : iv x54 1 1 := (iv_ne_lo c57 cx54 rfl).mono (by decide) (by decide)
              have or57tp := iv_o r57tp
              exact J70 x54p0 bp101 bx54p0 (show xp100.toInt ≤ x54p0.toInt from by have := (bx54p0).1; have := (bx54p0).2; have : (0 : Int32).toInt = 0 := (by decide); omega) H54 locs54 hw hkm hon f_p0_1 fx54p0 _ (lv_sub hl [] rfl)
            · have oc57 := congrArg Int32.toInt c57
              have r57fp : iv x54 0 0 := (iv_both cx54 (iv_eq (show iv 0 0 0 from ⟨by decide, by decide⟩) c57)).mono (by decide) (by decide)
              have or57fp := iv_o r57fp
              refine lv_aload_n hx hb dX12_isTownWord_60 rfl (lv_at hl 0 rfl) ?_
              refine lv_ldc2 (v := 27988572849333618) hx hb hown K248 dX12_isTownWord_61 ?_
              refine hp_callei (va_runV (As := [.long 27988572849333618]) (rest := []) ⟨hx, hb, hml, hown, hts⟩ (sX12_isWord l D T ap0 27988572849333618 x54p0 xp101 A Gm Tp ip0 bx54p0 bp101) (cwV 1 hts gX12_isTownWord_X12_isWord rfl rfl rfl (by decide +kernel) ⟨Nat.le_of_ble_eq_true rfl, Nat.le_of_ble_eq_true rfl⟩) (hp_preV hG hw hp0 rfl ⟨fx54p0, f_p0_1⟩) rfl rfl hl.1 rfl (lv_room (Nat.le_of_ble_eq_true rfl)) dX12_isTownWord_64 ⟨Nat.zero_le _, Nat.zero_le _⟩) hw (fun x64 st64 t64 H64 locs64 eh64 eg64 bx64 hw => ?_)
              obtain ⟨x64p0, g64, on64, fx64p0, cx64, bx64p0, R64_0, R64_1⟩ := bx64
              rw [eh64, eg64] at g64 on64
              rw [eg64] at fx64p0
              have hkm := hkm.call g64 (by decide)
              have hon := hon.trans on64
              have f_p0_1 := g64 _ _ _ _ f_p0_1 (by decide)
              have obx64p0 := iv_o bx64p0
              have ocx64 := iv_o cx64
              refine lv_if_eq (tgt := 74) hx hb dX12_isTownWord_67 (by decide) (fun c67 => ?_) (fun c67 => ?_)
              · have oc67 := congrArg Int32.toInt c67
                have r67tp : iv x64 0 0 := (iv_both cx64 (iv_eq (show iv 0 0 0 from ⟨by decide, by decide⟩) c67)).mono (by decide) (by decide)
                have or67tp := iv_o r67tp
                refine lv_iconst (v := 0) hx hb dX12_isTownWord_74 (by decide) ?_
                exact W.zret (v := 0) hx hb hr (iv_nz (show iv 0 0 1 from ⟨by decide, by decide⟩)) (fun t ht hW => ⟨some (.int 0), rfl, ⟨(0 : Int32), rfl, ⟨x64p0, by rw [ht]; exact hkm, by rw [ht]; exact hon, by rw [ht]; exact fx64p0, (show iv 0 0 1 from ⟨by decide, by decide⟩), bx64p0, (by intros; omega)⟩⟩, by rw [ht]; exact hw.1, hw.2.F ht⟩) hw.2.2.2 dX12_isTownWord_75
              · have oc67 := iv_neq c67
                have r67fp : iv x64 1 1 := (iv_ne_lo c67 cx64 rfl).mono (by decide) (by decide)
                have or67fp := iv_o r67fp
                exact J70 x64p0 bp101 bx64p0 (show xp100.toInt ≤ x64p0.toInt from by have := (bx64p0).1; have := (bx64p0).2; have : (0 : Int32).toInt = 0 := (by decide); omega) H64 locs64 hw hkm hon f_p0_1 fx64p0 _ (lv_sub hl [] rfl)
